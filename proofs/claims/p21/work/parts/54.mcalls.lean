abbrev rm_X11_refuse : Room := { frames := 0, cells := 0, slots := 0, locals := 0 }
abbrev po_X11_refuse (g : GG) (ad : Nat → Nat) (th : Nat → Int) (L : List Nat) (f : HP) (z1 : Int32) : Int32 → (List Nat × HP) → Prop := fun r u => u.1 = L ∧ TI g ad th u.2 ∧ (∀ b, b ≠ (ad 275) → u.2 b = f b)
set_option maxHeartbeats 4000000 in
set_option maxRecDepth 100000 in
theorem s_X11_refuse (l : Launch) (g : GG) (ad : Nat → Nat) (th : Nat → Int) (L : List Nat) (f : HP) (sz : Nat) (z1 : Int32) (hst : ST ad L) (hT : TI g ad th f) (hz1 : In z1 0 4) : MtI l g yX11_refuse cX11_refuse 2 (some .int) rm_X11_refuse [.ref (ad 255), .int z1] L f sz (po_X11_refuse g ad th L f z1) := by
  refine MtI.of (by decide +kernel) (Nat.le_of_ble_eq_true rfl) ?_
  intro p e s m below meth c A hEn hP hD hS ls hl
  obtain ⟨hx, hb, hr, hml, hown, hlocks, hts, hG, hA, hE, hnm⟩ := hEn
  have hown : s.vm.findClass "RulerWordModel" = some m.cls := hown
  have hl : lv_has ls 2 [(0, .ref (ad 255)), (1, .int z1)] := hl
  have hfr : (∀ b, b ≠ (ad 275) → f b = f b) := fun b z0_ => rfl
  refine lv_aload_n hx hb dX11_refuse_0 rfl (lv_at hl 0 rfl) ?_
  refine M0e hT (fun v0_1 v2_1 v3_1 v4_1 v5_1 v6_1 v8_1 v9_1 v12_1 v13_1 v14_1 v15_1 v16_1 v17_1 v18_1 v19_1 v20_1 v21_1 v22_1 v23_1 v25_1 v36_1 v37_1 v38_1 v39_1 v40_1 v45_1 v46_1 v47_1 v48_1 v50_1 v51_1 v53_1 v55_1 hf2 hv0_1 hv2_1 hg2_1 hv3_1 hg3_1 hv4_1 hg4_1 hv5_1 hg5_1 hv6_1 hg6_1 hv8_1 hg8_1 hv9_1 hg9_1 hv12_1 hv13_1 hg13_1 hv14_1 hg14_1 hv15_1 hg15_1 hv17_1 hg17_1 hv20_1 hg20_1 hv23_1 hg23_1 hv25_1 hg25_1 hv36_1 hg36_1 hv47_1 hg47_1 hv48_1 hg48_1 hv53_1 hg53_1 hv55_1 hg55_1 hrel0_1 => ?_)
  refine pl_get (v := .ref (ad 275)) hx hb hts (fun w h => mT (inX11 w h)) hown hG.1 hP (hst.1 255 (by decide)) hf2 rfl 49 (by decide) (hts _ (mT wg_1385)) (fun _ h => h) rfl dX11_refuse_1 ?_
  refine lv_iload_n hx hb dX11_refuse_4 rfl (lv_at hl 1 rfl) ?_
  refine lv_dup2_11 hx hb dX11_refuse_5 rfl rfl ?_
  obtain ⟨rw3, hf4⟩ := hT.2.2 20 (by decide)
  have hin5 : vp_in z1 5 := In.inb hz1 (by decide) (by decide)
  refine pl_iald hx hb hG.1 hP (hst.1 275 (by decide)) 0 hf4 rfl hin5 dX11_refuse_6 ?_
  refine lv_topi (fun x6 ex6 => ?_)
  refine lv_iconst (v := 1) hx hb dX11_refuse_7 (by decide) ?_
  refine lv_iadd hx hb dX11_refuse_8 ?_
  refine lv_topi (fun x7 ex7 => ?_)
  refine pl_iastE hx hb hG.1 hP hD hS (hst.1 275 (by decide)) 0 hf4 rfl (In.inb hz1 (by decide) (by decide)) dX11_refuse_9 (fun H locs f8 r11 er11 hf9 ho10 hP hD hS => ?_)
  have hf12 := (ho10 (ad 255) (hst.ne (by decide) (by decide) (by decide))).trans hf2
  have hfr : (∀ b, b ≠ (ad 275) → f8 b = f b) := fun b z0_ => (ho10 b z0_).trans (hfr b z0_)
  refine lv_iconst (v := (-1)) hx hb dX11_refuse_10 (by decide) ?_
  have hT := TI.updM hT hst (k := 20) (by decide) hf9 ho10 ⟨r11, rfl⟩
  exact ret_i (ty := .int) hx hb hr hlocks (rfl) hP hD hS (Nat.le_of_ble_eq_true rfl) (Nat.le_of_ble_eq_true rfl) (⟨rfl, hT, hfr⟩) dX11_refuse_11

abbrev rm_X11_isPeer : Room := { frames := 1, cells := 0, slots := 0, locals := 25 }
abbrev po_X11_isPeer (g : GG) (ad : Nat → Nat) (th : Nat → Int) (L : List Nat) (f : HP) (z1 : Int32) : Int32 → (List Nat × HP) → Prop := fun r u => u.1 = L ∧ u.2 = f ∧ In r 0 1 ∧ (¬ r = 0 → In z1 0 8) ∧ (r.toInt = 0 ∨ th 15 = 1)
set_option maxHeartbeats 4000000 in
set_option maxRecDepth 100000 in
theorem s_X11_isPeer (l : Launch) (g : GG) (ad : Nat → Nat) (th : Nat → Int) (L : List Nat) (f : HP) (sz : Nat) (z1 : Int32) (hst : ST ad L) (hT : TI g ad th f)  : MtI l g yX11_isPeer cX11_isPeer 2 (some .boolean) rm_X11_isPeer [.ref (ad 255), .int z1] L f sz (po_X11_isPeer g ad th L f z1) := by
  refine MtI.of (by decide +kernel) (Nat.le_of_ble_eq_true rfl) ?_
  intro p e s m below meth c A hEn hP hD hS ls hl
  obtain ⟨hx, hb, hr, hml, hown, hlocks, hts, hG, hA, hE, hnm⟩ := hEn
  have hown : s.vm.findClass "RulerWordModel" = some m.cls := hown
  have hl : lv_has ls 2 [(0, .ref (ad 255)), (1, .int z1)] := hl
  refine lv_aload_n hx hb dX11_isPeer_0 rfl (lv_at hl 0 rfl) ?_
  refine M0e hT (fun v0_1 v2_1 v3_1 v4_1 v5_1 v6_1 v8_1 v9_1 v12_1 v13_1 v14_1 v15_1 v16_1 v17_1 v18_1 v19_1 v20_1 v21_1 v22_1 v23_1 v25_1 v36_1 v37_1 v38_1 v39_1 v40_1 v45_1 v46_1 v47_1 v48_1 v50_1 v51_1 v53_1 v55_1 hf2 hv0_1 hv2_1 hg2_1 hv3_1 hg3_1 hv4_1 hg4_1 hv5_1 hg5_1 hv6_1 hg6_1 hv8_1 hg8_1 hv9_1 hg9_1 hv12_1 hv13_1 hg13_1 hv14_1 hg14_1 hv15_1 hg15_1 hv17_1 hg17_1 hv20_1 hg20_1 hv23_1 hg23_1 hv25_1 hg25_1 hv36_1 hg36_1 hv47_1 hg47_1 hv48_1 hg48_1 hv53_1 hg53_1 hv55_1 hg55_1 hrel0_1 => ?_)
  refine pl_get (v := .int v23_1) hx hb hts (fun w h => mT (inX11 w h)) hown hG.1 hP (hst.1 255 (by decide)) hf2 rfl 23 (by decide) (hts _ (mT wg_1359)) (fun _ h => h) rfl dX11_isPeer_1 ?_
  have hJ27 : ∀ (H : Heap) (locs : List Loc) (ls : Array Slot), va_P g.1 vwCl (va_pl L f) H → va_D A (va_pl L f) → va_S A s.heap H locs → lv_has ls 2 [(0, .ref (ad 255)), (1, .int z1)] → W p l e rm_X11_isPeer s m [.ref (ad 255), .int z1].toArray below meth c H locs 0 0 (MQ below (va_Qi (po_X11_isPeer g ad th L f z1) (PstB g A) A) [.ref (ad 255), .int z1].toArray s rm_X11_isPeer.cells rm_X11_isPeer.slots A) (F0 m 27 ls []) := by
    intro H locs ls hP hD hS hl
    refine lv_iconst (v := 0) hx hb dX11_isPeer_27 (by decide) ?_
    exact ret_i (ty := .boolean) hx hb hr hlocks (rfl) hP hD hS (Nat.le_of_ble_eq_true rfl) (Nat.le_of_ble_eq_true rfl) (⟨rfl, rfl, (⟨by decide, by decide⟩ : In 0 0 1), (fun q => absurd rfl q), (Or.inl (by decide))⟩) dX11_isPeer_28
  refine lv_if_eq (tgt := 27) hx hb dX11_isPeer_4 (by decide) (fun c3 => ?_) (fun c3 => ?_)
  ·
    have oc0 : (0 : Int32).toInt = 0 := by decide
    have cc4 : v23_1.toInt = (0 : Int32).toInt := congrArg Int32.toInt c3
    have hb5 : In v23_1 0 0 := In.eq1 hv23_1 (⟨by decide, by decide⟩ : In 0 0 0) cc4 (by omega) (by omega)
    exact hJ27 _ _ _ hP hD hS (lv_sub hl [0, 1] rfl)
  ·
    have oc0 : (0 : Int32).toInt = 0 := by decide
    have cc6 : v23_1.toInt ≠ (0 : Int32).toInt := i32_ne c3
    have hb7 : In v23_1 1 1 := In.ne1 hv23_1 (⟨by decide, by decide⟩ : In 0 0 0) cc6 (by omega) (by omega)
    refine lv_iload_n hx hb dX11_isPeer_7 rfl (lv_at hl 1 rfl) ?_
    refine lv_i2l hx hb dX11_isPeer_8 rfl ?_
    refine lv_lconst (v := 0) hx hb dX11_isPeer_9 (by decide) ?_
    refine lv_aload_n hx hb dX11_isPeer_10 rfl (lv_at hl 0 rfl) ?_
    refine pl_get (v := .int v15_1) hx hb hts (fun w h => mT (inX11 w h)) hown hG.1 hP (hst.1 255 (by decide)) hf2 rfl 15 (by decide) (hts _ (mT wg_1351)) (fun _ h => h) rfl dX11_isPeer_11 ?_
    refine lv_iconst (v := 1) hx hb dX11_isPeer_14 (by decide) ?_
    refine lv_isub hx hb dX11_isPeer_15 ?_
    refine lv_topi (fun x8 ex8 => ?_)
    have hb9 : In x8 (-1) 8 := ex8 ▸ In.sub hv15_1 (⟨by decide, by decide⟩ : In 1 1 1) (by decide) (by decide) (by decide) (by decide)
    have et10 : x8.toInt = v15_1.toInt + (-1) := In.sube ex8 hv15_1 (k := 1) (by decide) (by decide) (by decide)
    refine lv_i2l hx hb dX11_isPeer_16 rfl ?_
    refine call_i (run_S (rm := rm_X11_isIn) hx hb hml hown hts (s_X11_isIn l g ad th _ _ _ (z1.toInt64) 0 (x8.toInt64) hst hT ) cS_X11_isIn wg_1581 ⟨Nat.le_of_ble_eq_true rfl, Nat.le_of_ble_eq_true rfl⟩ hG hE hA hP hD hS rfl hl.1 (As := [.long (z1.toInt64), .long 0, .long (x8.toInt64)]) (rest := []) rfl (Nat.le_of_ble_eq_true rfl) dX11_isPeer_17 ⟨Nat.le_of_ble_eq_true rfl, Nat.le_of_ble_eq_true rfl⟩) hA hD hS (fun r11 L12 f13 H locs hp14 hP hD hS => ?_)
    obtain ⟨eL15L, eL15T, eL15R, eL15X0, eL15X1⟩ := hp14
    have eL15L : L12 = L := eL15L
    have eL15T : f13 = f := eL15T
    rw [eL15L, eL15T] at hP hD
    have eL15R : In r11 0 1 := eL15R
    have hii16 : r11.toInt = 0 ∨ (0 ≤ z1.toInt ∧ z1.toInt ≤ x8.toInt) := by have z := eL15X0; rw [i2l_t z1, (by decide : (0 : Int64).toInt = 0), i2l_t x8] at z; exact z
    have hii16w : ¬ r11 = 0 → In z1 0 8 := fun c => by have c2 := i32_ne c; have e0 : (0 : Int32).toInt = 0 := (by decide); obtain ⟨o1, p1⟩ := (hb9 : In _ _ _); exact ⟨by omega, by omega⟩
    refine lv_if_eq (tgt := 27) hx hb dX11_isPeer_20 (by decide) (fun c17 => ?_) (fun c17 => ?_)
    ·
      have oc0 : (0 : Int32).toInt = 0 := by decide
      have cc18 : r11.toInt = (0 : Int32).toInt := congrArg Int32.toInt c17
      have hb19 : In r11 0 0 := In.eq1 eL15R (⟨by decide, by decide⟩ : In 0 0 0) cc18 (by omega) (by omega)
      exact hJ27 _ _ _ hP hD hS (lv_sub hl [0, 1] rfl)
    ·
      have oc0 : (0 : Int32).toInt = 0 := by decide
      have cc20 : r11.toInt ≠ (0 : Int32).toInt := i32_ne c17
      have hb21 : In r11 1 1 := In.ne1 eL15R (⟨by decide, by decide⟩ : In 0 0 0) cc20 (by omega) (by omega)
      have hb22 : In z1 0 8 := In.both (hii16w c17) (In.full z1) (by decide) (by decide)
      refine lv_iconst (v := 1) hx hb dX11_isPeer_23 (by decide) ?_
      refine lv_goto (tgt := 28) hx hb dX11_isPeer_24 (by decide) ?_
      exact ret_i (ty := .boolean) hx hb hr hlocks (rfl) hP hD hS (Nat.le_of_ble_eq_true rfl) (Nat.le_of_ble_eq_true rfl) (⟨rfl, rfl, (⟨by decide, by decide⟩ : In 1 0 1), (fun _ => hb22), (Or.inr (by have ob10 : (0 : Int) ≤ (th 10) ∧ (th 10) ≤ 1 := (b0_10 hT :); have ob11 : (0 : Int) ≤ (th 11) ∧ (th 11) ≤ 9 := (b0_11 hT :); have ob12 : (0 : Int) ≤ (th 12) ∧ (th 12) ≤ 6 := (b0_12 hT :); have ob14 : (0 : Int) ≤ (th 14) ∧ (th 14) ≤ 511 := (b0_14 hT :); have ob15 : (0 : Int) ≤ (th 15) ∧ (th 15) ≤ 1 := (b0_15 hT :); have ob16 : (0 : Int) ≤ (th 16) ∧ (th 16) ≤ 20 := (b0_16 hT :); have ob17 : (0 : Int) ≤ (th 17) ∧ (th 17) ≤ 1 := (b0_17 hT :); have ob18 : (0 : Int) ≤ (th 18) ∧ (th 18) ≤ 18 := (b0_18 hT :); have ob38 : (0 : Int) ≤ (th 38) ∧ (th 38) ≤ 400 := (b0_38 hT :); have ob39 : (0 : Int) ≤ (th 39) ∧ (th 39) ≤ 200 := (b0_39 hT :); have ob44 : (0 : Int) ≤ (th 44) ∧ (th 44) ≤ 30 := (b0_44 hT :); obtain ⟨o0a, o0b⟩ := (hv14_1 : In _ _ _); obtain ⟨o1a, o1b⟩ := (hv15_1 : In _ _ _); obtain ⟨o2a, o2b⟩ := (hv17_1 : In _ _ _); obtain ⟨o3a, o3b⟩ := (hv20_1 : In _ _ _); obtain ⟨o4a, o4b⟩ := (hb7 : In _ _ _); obtain ⟨o5a, o5b⟩ := (hv25_1 : In _ _ _); obtain ⟨o6a, o6b⟩ := (hv36_1 : In _ _ _); obtain ⟨o7a, o7b⟩ := (hv47_1 : In _ _ _); obtain ⟨o8a, o8b⟩ := (hv48_1 : In _ _ _); obtain ⟨o9a, o9b⟩ := (hv53_1 : In _ _ _); obtain ⟨o10a, o10b⟩ := (hv55_1 : In _ _ _); omega))⟩) dX11_isPeer_28

abbrev rm_X11_isRound : Room := { frames := 1, cells := 0, slots := 0, locals := 25 }
abbrev po_X11_isRound (g : GG) (ad : Nat → Nat) (th : Nat → Int) (L : List Nat) (f : HP) (z1 : Int32) (z2 : Int32) : Int32 → (List Nat × HP) → Prop := fun r u => u.1 = L ∧ u.2 = f ∧ In r 0 1 ∧ (¬ r = 0 → In z1 0 5) ∧ (¬ r = 0 → In z2 0 2) ∧ (r.toInt = 0 ∨ th 15 = 1)
set_option maxHeartbeats 4000000 in
set_option maxRecDepth 100000 in
theorem s_X11_isRound (l : Launch) (g : GG) (ad : Nat → Nat) (th : Nat → Int) (L : List Nat) (f : HP) (sz : Nat) (z1 : Int32) (z2 : Int32) (hst : ST ad L) (hT : TI g ad th f)  : MtI l g yX11_isRound cX11_isRound 3 (some .boolean) rm_X11_isRound [.ref (ad 255), .int z1, .int z2] L f sz (po_X11_isRound g ad th L f z1 z2) := by
  refine MtI.of (by decide +kernel) (Nat.le_of_ble_eq_true rfl) ?_
  intro p e s m below meth c A hEn hP hD hS ls hl
  obtain ⟨hx, hb, hr, hml, hown, hlocks, hts, hG, hA, hE, hnm⟩ := hEn
  have hown : s.vm.findClass "RulerWordModel" = some m.cls := hown
  have hl : lv_has ls 3 [(0, .ref (ad 255)), (1, .int z1), (2, .int z2)] := hl
  refine lv_aload_n hx hb dX11_isRound_0 rfl (lv_at hl 0 rfl) ?_
  refine M0e hT (fun v0_1 v2_1 v3_1 v4_1 v5_1 v6_1 v8_1 v9_1 v12_1 v13_1 v14_1 v15_1 v16_1 v17_1 v18_1 v19_1 v20_1 v21_1 v22_1 v23_1 v25_1 v36_1 v37_1 v38_1 v39_1 v40_1 v45_1 v46_1 v47_1 v48_1 v50_1 v51_1 v53_1 v55_1 hf2 hv0_1 hv2_1 hg2_1 hv3_1 hg3_1 hv4_1 hg4_1 hv5_1 hg5_1 hv6_1 hg6_1 hv8_1 hg8_1 hv9_1 hg9_1 hv12_1 hv13_1 hg13_1 hv14_1 hg14_1 hv15_1 hg15_1 hv17_1 hg17_1 hv20_1 hg20_1 hv23_1 hg23_1 hv25_1 hg25_1 hv36_1 hg36_1 hv47_1 hg47_1 hv48_1 hg48_1 hv53_1 hg53_1 hv55_1 hg55_1 hrel0_1 => ?_)
  refine pl_get (v := .int v23_1) hx hb hts (fun w h => mT (inX11 w h)) hown hG.1 hP (hst.1 255 (by decide)) hf2 rfl 23 (by decide) (hts _ (mT wg_1359)) (fun _ h => h) rfl dX11_isRound_1 ?_
  have hJ43 : ∀ (H : Heap) (locs : List Loc) (ls : Array Slot), va_P g.1 vwCl (va_pl L f) H → va_D A (va_pl L f) → va_S A s.heap H locs → lv_has ls 3 [(0, .ref (ad 255)), (1, .int z1), (2, .int z2)] → W p l e rm_X11_isRound s m [.ref (ad 255), .int z1, .int z2].toArray below meth c H locs 0 0 (MQ below (va_Qi (po_X11_isRound g ad th L f z1 z2) (PstB g A) A) [.ref (ad 255), .int z1, .int z2].toArray s rm_X11_isRound.cells rm_X11_isRound.slots A) (F0 m 43 ls []) := by
    intro H locs ls hP hD hS hl
    refine lv_iconst (v := 0) hx hb dX11_isRound_43 (by decide) ?_
    exact ret_i (ty := .boolean) hx hb hr hlocks (rfl) hP hD hS (Nat.le_of_ble_eq_true rfl) (Nat.le_of_ble_eq_true rfl) (⟨rfl, rfl, (⟨by decide, by decide⟩ : In 0 0 1), (fun q => absurd rfl q), (fun q => absurd rfl q), (Or.inl (by decide))⟩) dX11_isRound_44
  refine lv_if_eq (tgt := 43) hx hb dX11_isRound_4 (by decide) (fun c3 => ?_) (fun c3 => ?_)
  ·
    have oc0 : (0 : Int32).toInt = 0 := by decide
    have cc4 : v23_1.toInt = (0 : Int32).toInt := congrArg Int32.toInt c3
    have hb5 : In v23_1 0 0 := In.eq1 hv23_1 (⟨by decide, by decide⟩ : In 0 0 0) cc4 (by omega) (by omega)
    exact hJ43 _ _ _ hP hD hS (lv_sub hl [0, 1, 2] rfl)
  ·
    have oc0 : (0 : Int32).toInt = 0 := by decide
    have cc6 : v23_1.toInt ≠ (0 : Int32).toInt := i32_ne c3
    have hb7 : In v23_1 1 1 := In.ne1 hv23_1 (⟨by decide, by decide⟩ : In 0 0 0) cc6 (by omega) (by omega)
    refine lv_iload_n hx hb dX11_isRound_7 rfl (lv_at hl 1 rfl) ?_
    refine lv_i2l hx hb dX11_isRound_8 rfl ?_
    refine lv_lconst (v := 0) hx hb dX11_isRound_9 (by decide) ?_
    refine lv_aload_n hx hb dX11_isRound_10 rfl (lv_at hl 0 rfl) ?_
    refine pl_get (v := .int v17_1) hx hb hts (fun w h => mT (inX11 w h)) hown hG.1 hP (hst.1 255 (by decide)) hf2 rfl 17 (by decide) (hts _ (mT wg_1353)) (fun _ h => h) rfl dX11_isRound_11 ?_
    refine lv_iconst (v := 1) hx hb dX11_isRound_14 (by decide) ?_
    refine lv_isub hx hb dX11_isRound_15 ?_
    refine lv_topi (fun x8 ex8 => ?_)
    have hb9 : In x8 (-1) 5 := ex8 ▸ In.sub hv17_1 (⟨by decide, by decide⟩ : In 1 1 1) (by decide) (by decide) (by decide) (by decide)
    have et10 : x8.toInt = v17_1.toInt + (-1) := In.sube ex8 hv17_1 (k := 1) (by decide) (by decide) (by decide)
    refine lv_i2l hx hb dX11_isRound_16 rfl ?_
    refine call_i (run_S (rm := rm_X11_isIn) hx hb hml hown hts (s_X11_isIn l g ad th _ _ _ (z1.toInt64) 0 (x8.toInt64) hst hT ) cS_X11_isIn wg_1581 ⟨Nat.le_of_ble_eq_true rfl, Nat.le_of_ble_eq_true rfl⟩ hG hE hA hP hD hS rfl hl.1 (As := [.long (z1.toInt64), .long 0, .long (x8.toInt64)]) (rest := []) rfl (Nat.le_of_ble_eq_true rfl) dX11_isRound_17 ⟨Nat.le_of_ble_eq_true rfl, Nat.le_of_ble_eq_true rfl⟩) hA hD hS (fun r11 L12 f13 H locs hp14 hP hD hS => ?_)
    obtain ⟨eL15L, eL15T, eL15R, eL15X0, eL15X1⟩ := hp14
    have eL15L : L12 = L := eL15L
    have eL15T : f13 = f := eL15T
    rw [eL15L, eL15T] at hP hD
    have eL15R : In r11 0 1 := eL15R
    have hii16 : r11.toInt = 0 ∨ (0 ≤ z1.toInt ∧ z1.toInt ≤ x8.toInt) := by have z := eL15X0; rw [i2l_t z1, (by decide : (0 : Int64).toInt = 0), i2l_t x8] at z; exact z
    have hii16w : ¬ r11 = 0 → In z1 0 5 := fun c => by have c2 := i32_ne c; have e0 : (0 : Int32).toInt = 0 := (by decide); obtain ⟨o1, p1⟩ := (hb9 : In _ _ _); exact ⟨by omega, by omega⟩
    refine lv_if_eq (tgt := 43) hx hb dX11_isRound_20 (by decide) (fun c17 => ?_) (fun c17 => ?_)
    ·
      have oc0 : (0 : Int32).toInt = 0 := by decide
      have cc18 : r11.toInt = (0 : Int32).toInt := congrArg Int32.toInt c17
      have hb19 : In r11 0 0 := In.eq1 eL15R (⟨by decide, by decide⟩ : In 0 0 0) cc18 (by omega) (by omega)
      exact hJ43 _ _ _ hP hD hS (lv_sub hl [0, 1, 2] rfl)
    ·
      have oc0 : (0 : Int32).toInt = 0 := by decide
      have cc20 : r11.toInt ≠ (0 : Int32).toInt := i32_ne c17
      have hb21 : In r11 1 1 := In.ne1 eL15R (⟨by decide, by decide⟩ : In 0 0 0) cc20 (by omega) (by omega)
      have hb22 : In z1 0 5 := In.both (hii16w c17) (In.full z1) (by decide) (by decide)
      refine lv_iload_n hx hb dX11_isRound_23 rfl (lv_at hl 2 rfl) ?_
      refine lv_i2l hx hb dX11_isRound_24 rfl ?_
      refine lv_lconst (v := 0) hx hb dX11_isRound_25 (by decide) ?_
      refine lv_aload_n hx hb dX11_isRound_26 rfl (lv_at hl 0 rfl) ?_
      refine call_i (run_V (rm := rm_X11_each) hx hb hml hown hts (s_X11_each l g ad th _ _ _  hst hT ) cV_X11_each wg_1636 ⟨Nat.le_of_ble_eq_true rfl, Nat.le_of_ble_eq_true rfl⟩ hG hE hA hP hD hS (hst.1 255 (by decide)) hf2 rfl rfl hl.1 (As := []) (rest := [.long 0, .long (z2.toInt64)]) rfl (Nat.le_of_ble_eq_true rfl) dX11_isRound_27 ⟨Nat.le_of_ble_eq_true rfl, Nat.le_of_ble_eq_true rfl⟩) hA hD hS (fun r23 L24 f25 H locs hp26 hP hD hS => ?_)
      obtain ⟨eL27L, eL27T, eL27R, eL27X0⟩ := hp26
      have eL27L : L24 = L := eL27L
      have eL27T : f25 = f := eL27T
      rw [eL27L, eL27T] at hP hD
      have eL27R : In r23 2 3 := eL27R
      have hrn28 : r23.toInt = rnd (th 10) := eL27X0
      refine lv_iconst (v := 1) hx hb dX11_isRound_30 (by decide) ?_
      refine lv_isub hx hb dX11_isRound_31 ?_
      refine lv_topi (fun x29 ex29 => ?_)
      have hb30 : In x29 1 2 := ex29 ▸ In.sub eL27R (⟨by decide, by decide⟩ : In 1 1 1) (by decide) (by decide) (by decide) (by decide)
      have et31 : x29.toInt = r23.toInt + (-1) := In.sube ex29 eL27R (k := 1) (by decide) (by decide) (by decide)
      refine lv_i2l hx hb dX11_isRound_32 rfl ?_
      refine call_i (run_S (rm := rm_X11_isIn) hx hb hml hown hts (s_X11_isIn l g ad th _ _ _ (z2.toInt64) 0 (x29.toInt64) hst hT ) cS_X11_isIn wg_1581 ⟨Nat.le_of_ble_eq_true rfl, Nat.le_of_ble_eq_true rfl⟩ hG hE hA hP hD hS rfl hl.1 (As := [.long (z2.toInt64), .long 0, .long (x29.toInt64)]) (rest := []) rfl (Nat.le_of_ble_eq_true rfl) dX11_isRound_33 ⟨Nat.le_of_ble_eq_true rfl, Nat.le_of_ble_eq_true rfl⟩) hA hD hS (fun r32 L33 f34 H locs hp35 hP hD hS => ?_)
      obtain ⟨eL36L, eL36T, eL36R, eL36X0, eL36X1⟩ := hp35
      have eL36L : L33 = L := eL36L
      have eL36T : f34 = f := eL36T
      rw [eL36L, eL36T] at hP hD
      have eL36R : In r32 0 1 := eL36R
      have hii37 : r32.toInt = 0 ∨ (0 ≤ z2.toInt ∧ z2.toInt ≤ x29.toInt) := by have z := eL36X0; rw [i2l_t z2, (by decide : (0 : Int64).toInt = 0), i2l_t x29] at z; exact z
      have hii37w : ¬ r32 = 0 → In z2 0 2 := fun c => by have c2 := i32_ne c; have e0 : (0 : Int32).toInt = 0 := (by decide); obtain ⟨o1, p1⟩ := (hb30 : In _ _ _); exact ⟨by omega, by omega⟩
      refine lv_if_eq (tgt := 43) hx hb dX11_isRound_36 (by decide) (fun c38 => ?_) (fun c38 => ?_)
      ·
        have oc0 : (0 : Int32).toInt = 0 := by decide
        have cc39 : r32.toInt = (0 : Int32).toInt := congrArg Int32.toInt c38
        have hb40 : In r32 0 0 := In.eq1 eL36R (⟨by decide, by decide⟩ : In 0 0 0) cc39 (by omega) (by omega)
        exact hJ43 _ _ _ hP hD hS (lv_sub hl [0, 1, 2] rfl)
      ·
        have oc0 : (0 : Int32).toInt = 0 := by decide
        have cc41 : r32.toInt ≠ (0 : Int32).toInt := i32_ne c38
        have hb42 : In r32 1 1 := In.ne1 eL36R (⟨by decide, by decide⟩ : In 0 0 0) cc41 (by omega) (by omega)
        have hb43 : In z2 0 2 := In.both (hii37w c38) (In.full z2) (by decide) (by decide)
        refine lv_iconst (v := 1) hx hb dX11_isRound_39 (by decide) ?_
        refine lv_goto (tgt := 44) hx hb dX11_isRound_40 (by decide) ?_
        exact ret_i (ty := .boolean) hx hb hr hlocks (rfl) hP hD hS (Nat.le_of_ble_eq_true rfl) (Nat.le_of_ble_eq_true rfl) (⟨rfl, rfl, (⟨by decide, by decide⟩ : In 1 0 1), (fun _ => hb22), (fun _ => hb43), (Or.inr (by have ob10 : (0 : Int) ≤ (th 10) ∧ (th 10) ≤ 1 := (b0_10 hT :); have ob11 : (0 : Int) ≤ (th 11) ∧ (th 11) ≤ 9 := (b0_11 hT :); have ob12 : (0 : Int) ≤ (th 12) ∧ (th 12) ≤ 6 := (b0_12 hT :); have ob14 : (0 : Int) ≤ (th 14) ∧ (th 14) ≤ 511 := (b0_14 hT :); have ob15 : (0 : Int) ≤ (th 15) ∧ (th 15) ≤ 1 := (b0_15 hT :); have ob16 : (0 : Int) ≤ (th 16) ∧ (th 16) ≤ 20 := (b0_16 hT :); have ob17 : (0 : Int) ≤ (th 17) ∧ (th 17) ≤ 1 := (b0_17 hT :); have ob18 : (0 : Int) ≤ (th 18) ∧ (th 18) ≤ 18 := (b0_18 hT :); have ob38 : (0 : Int) ≤ (th 38) ∧ (th 38) ≤ 400 := (b0_38 hT :); have ob39 : (0 : Int) ≤ (th 39) ∧ (th 39) ≤ 200 := (b0_39 hT :); have ob44 : (0 : Int) ≤ (th 44) ∧ (th 44) ≤ 30 := (b0_44 hT :); obtain ⟨o0a, o0b⟩ := (hv14_1 : In _ _ _); obtain ⟨o1a, o1b⟩ := (hv15_1 : In _ _ _); obtain ⟨o2a, o2b⟩ := (hv17_1 : In _ _ _); obtain ⟨o3a, o3b⟩ := (hv20_1 : In _ _ _); obtain ⟨o4a, o4b⟩ := (hb7 : In _ _ _); obtain ⟨o5a, o5b⟩ := (hv25_1 : In _ _ _); obtain ⟨o6a, o6b⟩ := (hv36_1 : In _ _ _); obtain ⟨o7a, o7b⟩ := (hv47_1 : In _ _ _); obtain ⟨o8a, o8b⟩ := (hv48_1 : In _ _ _); obtain ⟨o9a, o9b⟩ := (hv53_1 : In _ _ _); obtain ⟨o10a, o10b⟩ := (hv55_1 : In _ _ _); omega))⟩) dX11_isRound_44

abbrev rm_X11_over : Room := { frames := 1, cells := 0, slots := 0, locals := 20 }
abbrev po_X11_over (g : GG) (ad : Nat → Nat) (th : Nat → Int) (L : List Nat) (f : HP)  : Int32 → (List Nat × HP) → Prop := fun r u => u.1 = L ∧ u.2 = f ∧ In r 0 6 ∧ (r.toInt = 0 ∨ th 15 = 1)
set_option maxHeartbeats 4000000 in
set_option maxRecDepth 100000 in
theorem s_X11_over (l : Launch) (g : GG) (ad : Nat → Nat) (th : Nat → Int) (L : List Nat) (f : HP) (sz : Nat)  (hst : ST ad L) (hT : TI g ad th f) (hM : MI th) : MtI l g yX11_over cX11_over 1 (some .int) rm_X11_over [.ref (ad 255)] L f sz (po_X11_over g ad th L f ) := by
  refine MtI.of (by decide +kernel) (Nat.le_of_ble_eq_true rfl) ?_
  intro p e s m below meth c A hEn hP hD hS ls hl
  obtain ⟨hx, hb, hr, hml, hown, hlocks, hts, hG, hA, hE, hnm⟩ := hEn
  have hown : s.vm.findClass "RulerWordModel" = some m.cls := hown
  have hl : lv_has ls 1 [(0, .ref (ad 255))] := hl
  have hM0 := hM
  obtain ⟨m1, m2, m3, m4, m5, m6, m7, m8, m9, m10⟩ := hM0
  have m20 := mi20 m2 m3
  refine lv_aload_n hx hb dX11_over_0 rfl (lv_at hl 0 rfl) ?_
  refine M0e hT (fun v0_1 v2_1 v3_1 v4_1 v5_1 v6_1 v8_1 v9_1 v12_1 v13_1 v14_1 v15_1 v16_1 v17_1 v18_1 v19_1 v20_1 v21_1 v22_1 v23_1 v25_1 v36_1 v37_1 v38_1 v39_1 v40_1 v45_1 v46_1 v47_1 v48_1 v50_1 v51_1 v53_1 v55_1 hf2 hv0_1 hv2_1 hg2_1 hv3_1 hg3_1 hv4_1 hg4_1 hv5_1 hg5_1 hv6_1 hg6_1 hv8_1 hg8_1 hv9_1 hg9_1 hv12_1 hv13_1 hg13_1 hv14_1 hg14_1 hv15_1 hg15_1 hv17_1 hg17_1 hv20_1 hg20_1 hv23_1 hg23_1 hv25_1 hg25_1 hv36_1 hg36_1 hv47_1 hg47_1 hv48_1 hg48_1 hv53_1 hg53_1 hv55_1 hg55_1 hrel0_1 => ?_)
  refine pl_get (v := .int v23_1) hx hb hts (fun w h => mT (inX11 w h)) hown hG.1 hP (hst.1 255 (by decide)) hf2 rfl 23 (by decide) (hts _ (mT wg_1359)) (fun _ h => h) rfl dX11_over_1 ?_
  refine lv_if_eq (tgt := 22) hx hb dX11_over_4 (by decide) (fun c3 => ?_) (fun c3 => ?_)
  ·
    have oc0 : (0 : Int32).toInt = 0 := by decide
    have cc4 : v23_1.toInt = (0 : Int32).toInt := congrArg Int32.toInt c3
    have hb5 : In v23_1 0 0 := In.eq1 hv23_1 (⟨by decide, by decide⟩ : In 0 0 0) cc4 (by omega) (by omega)
    refine lv_iconst (v := 0) hx hb dX11_over_22 (by decide) ?_
    exact ret_i (ty := .int) hx hb hr hlocks (rfl) hP hD hS (Nat.le_of_ble_eq_true rfl) (Nat.le_of_ble_eq_true rfl) (⟨rfl, rfl, (⟨by decide, by decide⟩ : In 0 0 6), (Or.inl (by decide))⟩) dX11_over_23
  ·
    have oc0 : (0 : Int32).toInt = 0 := by decide
    have cc6 : v23_1.toInt ≠ (0 : Int32).toInt := i32_ne c3
    have hb7 : In v23_1 1 1 := In.ne1 hv23_1 (⟨by decide, by decide⟩ : In 0 0 0) cc6 (by omega) (by omega)
    refine lv_aload_n hx hb dX11_over_7 rfl (lv_at hl 0 rfl) ?_
    refine pl_get (v := .ref (ad 271)) hx hb hts (fun w h => mT (inX11 w h)) hown hG.1 hP (hst.1 255 (by decide)) hf2 rfl 41 (by decide) (hts _ (mT wg_1377)) (fun _ h => h) rfl dX11_over_8 ?_
    refine lv_bipush (v := 72) hx hb dX11_over_11 (by decide) ?_
    obtain ⟨rw8, hf9, hpi11, hc10⟩ := hT.2.2 16 (by decide)
    have hc10 : PRW 2126 (th 22) (th 20) (th 21) rw8 := hc10
    have hpi11 : ((72 : Int) < (th 22) → (rw8 72).toInt = th 19) := hpi11
    have hin12 : vp_in 72 2126 := In.inb (⟨by decide, by decide⟩ : In 72 72 72) (by decide) (by decide)
    refine pl_iald hx hb hG.1 hP (hst.1 271 (by decide)) 0 hf9 rfl hin12 dX11_over_13 ?_
    refine lv_topi (fun x13 ex13 => ?_)
    have hpd14 : PRED (th 20) (th 21) 72 x13 := by rw [ex13]; exact prw_at (k := 72) hc10 (by decide) (by decide) (by omega) (by decide)
    have hb15 : In x13 0 18 := ⟨(hpd14.1 rfl).1, Int.le_trans (hpd14.1 rfl).2 (by omega)⟩
    have hgl16 : x13.toInt = th 19 := by rw [ex13]; exact pinE (k := 72) (by decide) (hpi11 (by omega))
    have hpd14b := (hpd14.1 rfl).2
    refine lv_aload_n hx hb dX11_over_14 rfl (lv_at hl 0 rfl) ?_
    refine call_i (run_V (rm := rm_X11_each) hx hb hml hown hts (s_X11_each l g ad th _ _ _  hst hT ) cV_X11_each wg_1636 ⟨Nat.le_of_ble_eq_true rfl, Nat.le_of_ble_eq_true rfl⟩ hG hE hA hP hD hS (hst.1 255 (by decide)) hf2 rfl rfl hl.1 (As := []) (rest := [.int x13]) rfl (Nat.le_of_ble_eq_true rfl) dX11_over_15 ⟨Nat.le_of_ble_eq_true rfl, Nat.le_of_ble_eq_true rfl⟩) hA hD hS (fun r17 L18 f19 H locs hp20 hP hD hS => ?_)
    obtain ⟨eL21L, eL21T, eL21R, eL21X0⟩ := hp20
    have eL21L : L18 = L := eL21L
    have eL21T : f19 = f := eL21T
    rw [eL21L, eL21T] at hP hD
    have eL21R : In r17 2 3 := eL21R
    have hrn22 : r17.toInt = rnd (th 10) := eL21X0
    refine lv_idiv hx hb dX11_over_18 (In.ne0 eL21R (by decide)) ?_
    refine lv_topi (fun x23 ex23 => ?_)
    have hb24 : In x23 0 9 := ex23 ▸ In.div hb15 eL21R (by decide) (by decide) (by decide) (by decide)
    have hb25 : In x23 0 6 := ph6 (div_b ex23 (Int.le_trans (by decide) hb15.1) hrn22) (by omega) hb24
    refine lv_goto (tgt := 23) hx hb dX11_over_19 (by decide) ?_
    exact ret_i (ty := .int) hx hb hr hlocks (rfl) hP hD hS (Nat.le_of_ble_eq_true rfl) (Nat.le_of_ble_eq_true rfl) (⟨rfl, rfl, hb25, (Or.inr (by have ob10 : (0 : Int) ≤ (th 10) ∧ (th 10) ≤ 1 := (b0_10 hT :); have ob11 : (0 : Int) ≤ (th 11) ∧ (th 11) ≤ 9 := (b0_11 hT :); have ob12 : (0 : Int) ≤ (th 12) ∧ (th 12) ≤ 6 := (b0_12 hT :); have ob14 : (0 : Int) ≤ (th 14) ∧ (th 14) ≤ 511 := (b0_14 hT :); have ob15 : (0 : Int) ≤ (th 15) ∧ (th 15) ≤ 1 := (b0_15 hT :); have ob16 : (0 : Int) ≤ (th 16) ∧ (th 16) ≤ 20 := (b0_16 hT :); have ob17 : (0 : Int) ≤ (th 17) ∧ (th 17) ≤ 1 := (b0_17 hT :); have ob18 : (0 : Int) ≤ (th 18) ∧ (th 18) ≤ 18 := (b0_18 hT :); have ob38 : (0 : Int) ≤ (th 38) ∧ (th 38) ≤ 400 := (b0_38 hT :); have ob39 : (0 : Int) ≤ (th 39) ∧ (th 39) ≤ 200 := (b0_39 hT :); have ob44 : (0 : Int) ≤ (th 44) ∧ (th 44) ≤ 30 := (b0_44 hT :); obtain ⟨o0a, o0b⟩ := (hv14_1 : In _ _ _); obtain ⟨o1a, o1b⟩ := (hv15_1 : In _ _ _); obtain ⟨o2a, o2b⟩ := (hv17_1 : In _ _ _); obtain ⟨o3a, o3b⟩ := (hv20_1 : In _ _ _); obtain ⟨o4a, o4b⟩ := (hb7 : In _ _ _); obtain ⟨o5a, o5b⟩ := (hv25_1 : In _ _ _); obtain ⟨o6a, o6b⟩ := (hv36_1 : In _ _ _); obtain ⟨o7a, o7b⟩ := (hv47_1 : In _ _ _); obtain ⟨o8a, o8b⟩ := (hv48_1 : In _ _ _); obtain ⟨o9a, o9b⟩ := (hv53_1 : In _ _ _); obtain ⟨o10a, o10b⟩ := (hv55_1 : In _ _ _); omega))⟩) dX11_over_23

abbrev rm_X11_heldBehind : Room := { frames := 1, cells := 0, slots := 0, locals := 21 }
abbrev po_X11_heldBehind (g : GG) (ad : Nat → Nat) (th : Nat → Int) (L : List Nat) (f : HP) (z1 : Int32) (z2 : Int32) : Int32 → (List Nat × HP) → Prop := fun _ u => u.1 = L ∧ u.2 = f
set_option maxHeartbeats 4000000 in
set_option maxRecDepth 100000 in
theorem s_X11_heldBehind (l : Launch) (g : GG) (ad : Nat → Nat) (th : Nat → Int) (L : List Nat) (f : HP) (sz : Nat) (z1 : Int32) (z2 : Int32) (hst : ST ad L) (hT : TI g ad th f) (hz1 : In z1 (-1) 5) (hz2 : In z2 0 8) : MtI l g yX11_heldBehind cX11_heldBehind 3 (some .int) rm_X11_heldBehind [.ref (ad 255), .int z1, .int z2] L f sz (po_X11_heldBehind g ad th L f z1 z2) := by
  refine MtI.of (by decide +kernel) (Nat.le_of_ble_eq_true rfl) ?_
  intro p e s m below meth c A hEn hP hD hS ls hl
  obtain ⟨hx, hb, hr, hml, hown, hlocks, hts, hG, hA, hE, hnm⟩ := hEn
  have hown : s.vm.findClass "RulerWordModel" = some m.cls := hown
  have hl : lv_has ls 3 [(0, .ref (ad 255)), (1, .int z1), (2, .int z2)] := hl
  refine lv_iload_n hx hb dX11_heldBehind_0 rfl (lv_at hl 1 rfl) ?_
  refine lv_if_ge (tgt := 18) hx hb dX11_heldBehind_1 (by decide) (fun c1 => ?_) (fun c1 => ?_)
  ·
    have cc2 : (0 : Int32).toInt ≤ z1.toInt := i32_le.mp c1
    have hb3 : In z1 0 5 := In.ge1 hz1 (⟨by decide, by decide⟩ : In 0 0 0) cc2 (by omega) (by omega)
    refine lv_aload_n hx hb dX11_heldBehind_18 rfl (lv_at hl 0 rfl) ?_
    refine M0e hT (fun v0_4 v2_4 v3_4 v4_4 v5_4 v6_4 v8_4 v9_4 v12_4 v13_4 v14_4 v15_4 v16_4 v17_4 v18_4 v19_4 v20_4 v21_4 v22_4 v23_4 v25_4 v36_4 v37_4 v38_4 v39_4 v40_4 v45_4 v46_4 v47_4 v48_4 v50_4 v51_4 v53_4 v55_4 hf5 hv0_4 hv2_4 hg2_4 hv3_4 hg3_4 hv4_4 hg4_4 hv5_4 hg5_4 hv6_4 hg6_4 hv8_4 hg8_4 hv9_4 hg9_4 hv12_4 hv13_4 hg13_4 hv14_4 hg14_4 hv15_4 hg15_4 hv17_4 hg17_4 hv20_4 hg20_4 hv23_4 hg23_4 hv25_4 hg25_4 hv36_4 hg36_4 hv47_4 hg47_4 hv48_4 hg48_4 hv53_4 hg53_4 hv55_4 hg55_4 hrel0_4 => ?_)
    refine pl_get (v := .ref (ad 271)) hx hb hts (fun w h => mT (inX11 w h)) hown hG.1 hP (hst.1 255 (by decide)) hf5 rfl 41 (by decide) (hts _ (mT wg_1377)) (fun _ h => h) rfl dX11_heldBehind_19 ?_
    refine lv_iload_n hx hb dX11_heldBehind_22 rfl (lv_at hl 1 rfl) ?_
    refine lv_iload_n hx hb dX11_heldBehind_23 rfl (lv_at hl 2 rfl) ?_
    refine call_i (run_S (rm := rm_X11_toldAt) hx hb hml hown hts (s_X11_toldAt l g ad th _ _ _ z1 z2 hst hT hb3 hz2) cS_X11_toldAt wg_1699 ⟨Nat.le_of_ble_eq_true rfl, Nat.le_of_ble_eq_true rfl⟩ hG hE hA hP hD hS rfl hl.1 (As := [.int z1, .int z2]) (rest := [.ref (ad 271)]) rfl (Nat.le_of_ble_eq_true rfl) dX11_heldBehind_24 ⟨Nat.le_of_ble_eq_true rfl, Nat.le_of_ble_eq_true rfl⟩) hA hD hS (fun r6 L7 f8 H locs hp9 hP hD hS => ?_)
    obtain ⟨eL10L, eL10T, eL10R⟩ := hp9
    have eL10L : L7 = L := eL10L
    have eL10T : f8 = f := eL10T
    rw [eL10L, eL10T] at hP hD
    have eL10R : In r6 1538 1962 := eL10R
    obtain ⟨rw11, hf12, hpi14, hc13⟩ := hT.2.2 16 (by decide)
    have hc13 : PRW 2126 (th 22) (th 20) (th 21) rw11 := hc13
    have hpi14 : ((72 : Int) < (th 22) → (rw11 72).toInt = th 19) := hpi14
    have hin15 : vp_in r6 2126 := In.inb eL10R (by decide) (by decide)
    refine pl_iald hx hb hG.1 hP (hst.1 271 (by decide)) 0 hf12 rfl hin15 dX11_heldBehind_27 ?_
    refine lv_topi (fun x16 ex16 => ?_)
    exact ret_i (ty := .int) hx hb hr hlocks (rfl) hP hD hS (Nat.le_of_ble_eq_true rfl) (Nat.le_of_ble_eq_true rfl) (⟨rfl, rfl⟩) dX11_heldBehind_28
  ·
    have cc17 : z1.toInt < (0 : Int32).toInt := i32_nle c1
    have hb18 : In z1 (-1) (-1) := In.lt1 hz1 (⟨by decide, by decide⟩ : In 0 0 0) cc17 (by omega) (by omega)
    refine lv_aload_n hx hb dX11_heldBehind_4 rfl (lv_at hl 0 rfl) ?_
    refine M0e hT (fun v0_19 v2_19 v3_19 v4_19 v5_19 v6_19 v8_19 v9_19 v12_19 v13_19 v14_19 v15_19 v16_19 v17_19 v18_19 v19_19 v20_19 v21_19 v22_19 v23_19 v25_19 v36_19 v37_19 v38_19 v39_19 v40_19 v45_19 v46_19 v47_19 v48_19 v50_19 v51_19 v53_19 v55_19 hf20 hv0_19 hv2_19 hg2_19 hv3_19 hg3_19 hv4_19 hg4_19 hv5_19 hg5_19 hv6_19 hg6_19 hv8_19 hg8_19 hv9_19 hg9_19 hv12_19 hv13_19 hg13_19 hv14_19 hg14_19 hv15_19 hg15_19 hv17_19 hg17_19 hv20_19 hg20_19 hv23_19 hg23_19 hv25_19 hg25_19 hv36_19 hg36_19 hv47_19 hg47_19 hv48_19 hg48_19 hv53_19 hg53_19 hv55_19 hg55_19 hrel0_19 => ?_)
    refine pl_get (v := .ref (ad 271)) hx hb hts (fun w h => mT (inX11 w h)) hown hG.1 hP (hst.1 255 (by decide)) hf20 rfl 41 (by decide) (hts _ (mT wg_1377)) (fun _ h => h) rfl dX11_heldBehind_5 ?_
    refine lv_bipush (v := 75) hx hb dX11_heldBehind_8 (by decide) ?_
    obtain ⟨rw21, hf22, hpi24, hc23⟩ := hT.2.2 16 (by decide)
    have hc23 : PRW 2126 (th 22) (th 20) (th 21) rw21 := hc23
    have hpi24 : ((72 : Int) < (th 22) → (rw21 72).toInt = th 19) := hpi24
    have hin25 : vp_in 75 2126 := In.inb (⟨by decide, by decide⟩ : In 75 75 75) (by decide) (by decide)
    refine pl_iald hx hb hG.1 hP (hst.1 271 (by decide)) 0 hf22 rfl hin25 dX11_heldBehind_10 ?_
    refine lv_topi (fun x26 ex26 => ?_)
    refine lv_iload_n hx hb dX11_heldBehind_11 rfl (lv_at hl 2 rfl) ?_
    refine lv_ishr hx hb dX11_heldBehind_12 ?_
    refine lv_topi (fun x27 ex27 => ?_)
    refine lv_iconst (v := 1) hx hb dX11_heldBehind_13 (by decide) ?_
    refine lv_iand hx hb dX11_heldBehind_14 ?_
    refine lv_topi (fun x28 ex28 => ?_)
    have hb29 : In x28 0 1 := ex28 ▸ In.andr (⟨by decide, by decide⟩ : In 1 1 1) (by decide)
    refine lv_goto (tgt := 28) hx hb dX11_heldBehind_15 (by decide) ?_
    exact ret_i (ty := .int) hx hb hr hlocks (rfl) hP hD hS (Nat.le_of_ble_eq_true rfl) (Nat.le_of_ble_eq_true rfl) (⟨rfl, rfl⟩) dX11_heldBehind_28

abbrev rm_X11_isTrue : Room := { frames := 1, cells := 0, slots := 0, locals := 21 }
abbrev po_X11_isTrue (g : GG) (ad : Nat → Nat) (th : Nat → Int) (L : List Nat) (f : HP) (z1 : Int32) : Int32 → (List Nat × HP) → Prop := fun r u => u.1 = L ∧ u.2 = f ∧ In r 0 1
set_option maxHeartbeats 4000000 in
set_option maxRecDepth 100000 in
theorem s_X11_isTrue (l : Launch) (g : GG) (ad : Nat → Nat) (th : Nat → Int) (L : List Nat) (f : HP) (sz : Nat) (z1 : Int32) (hst : ST ad L) (hT : TI g ad th f)  : MtI l g yX11_isTrue cX11_isTrue 2 (some .boolean) rm_X11_isTrue [.ref (ad 255), .int z1] L f sz (po_X11_isTrue g ad th L f z1) := by
  refine MtI.of (by decide +kernel) (Nat.le_of_ble_eq_true rfl) ?_
  intro p e s m below meth c A hEn hP hD hS ls hl
  obtain ⟨hx, hb, hr, hml, hown, hlocks, hts, hG, hA, hE, hnm⟩ := hEn
  have hown : s.vm.findClass "RulerWordModel" = some m.cls := hown
  have hl : lv_has ls 2 [(0, .ref (ad 255)), (1, .int z1)] := hl
  refine lv_aload_n hx hb dX11_isTrue_0 rfl (lv_at hl 0 rfl) ?_
  refine M0e hT (fun v0_1 v2_1 v3_1 v4_1 v5_1 v6_1 v8_1 v9_1 v12_1 v13_1 v14_1 v15_1 v16_1 v17_1 v18_1 v19_1 v20_1 v21_1 v22_1 v23_1 v25_1 v36_1 v37_1 v38_1 v39_1 v40_1 v45_1 v46_1 v47_1 v48_1 v50_1 v51_1 v53_1 v55_1 hf2 hv0_1 hv2_1 hg2_1 hv3_1 hg3_1 hv4_1 hg4_1 hv5_1 hg5_1 hv6_1 hg6_1 hv8_1 hg8_1 hv9_1 hg9_1 hv12_1 hv13_1 hg13_1 hv14_1 hg14_1 hv15_1 hg15_1 hv17_1 hg17_1 hv20_1 hg20_1 hv23_1 hg23_1 hv25_1 hg25_1 hv36_1 hg36_1 hv47_1 hg47_1 hv48_1 hg48_1 hv53_1 hg53_1 hv55_1 hg55_1 hrel0_1 => ?_)
  refine pl_get (v := .ref (ad 271)) hx hb hts (fun w h => mT (inX11 w h)) hown hG.1 hP (hst.1 255 (by decide)) hf2 rfl 41 (by decide) (hts _ (mT wg_1377)) (fun _ h => h) rfl dX11_isTrue_1 ?_
  refine lv_bipush (v := 76) hx hb dX11_isTrue_4 (by decide) ?_
  obtain ⟨rw3, hf4, hpi6, hc5⟩ := hT.2.2 16 (by decide)
  have hc5 : PRW 2126 (th 22) (th 20) (th 21) rw3 := hc5
  have hpi6 : ((72 : Int) < (th 22) → (rw3 72).toInt = th 19) := hpi6
  have hin7 : vp_in 76 2126 := In.inb (⟨by decide, by decide⟩ : In 76 76 76) (by decide) (by decide)
  refine pl_iald hx hb hG.1 hP (hst.1 271 (by decide)) 0 hf4 rfl hin7 dX11_isTrue_6 ?_
  refine lv_topi (fun x8 ex8 => ?_)
  refine lv_iload_n hx hb dX11_isTrue_7 rfl (lv_at hl 1 rfl) ?_
  refine call_i (run_S (rm := rm_X11_has) hx hb hml hown hts (s_X11_has l g ad th _ _ _ x8 z1 hst hT ) cS_X11_has wg_1563 ⟨Nat.le_of_ble_eq_true rfl, Nat.le_of_ble_eq_true rfl⟩ hG hE hA hP hD hS rfl hl.1 (As := [.int x8, .int z1]) (rest := []) rfl (Nat.le_of_ble_eq_true rfl) dX11_isTrue_8 ⟨Nat.le_of_ble_eq_true rfl, Nat.le_of_ble_eq_true rfl⟩) hA hD hS (fun r9 L10 f11 H locs hp12 hP hD hS => ?_)
  obtain ⟨eL13L, eL13T, eL13R, eL13X0⟩ := hp12
  have eL13L : L10 = L := eL13L
  have eL13T : f11 = f := eL13T
  rw [eL13L, eL13T] at hP hD
  have eL13R : In r9 0 1 := eL13R
  refine lv_if_ne (tgt := 18) hx hb dX11_isTrue_11 (by decide) (fun c14 => ?_) (fun c14 => ?_)
  ·
    have cc15 : r9.toInt ≠ (0 : Int32).toInt := i32_ne c14
    have hb16 : In r9 1 1 := In.ne1 eL13R (⟨by decide, by decide⟩ : In 0 0 0) cc15 (by omega) (by omega)
    refine lv_iconst (v := 0) hx hb dX11_isTrue_18 (by decide) ?_
    exact ret_i (ty := .boolean) hx hb hr hlocks (rfl) hP hD hS (Nat.le_of_ble_eq_true rfl) (Nat.le_of_ble_eq_true rfl) (⟨rfl, rfl, (⟨by decide, by decide⟩ : In 0 0 1)⟩) dX11_isTrue_19
  ·
    have cc17 : r9.toInt = (0 : Int32).toInt := congrArg Int32.toInt c14
    have hb18 : In r9 0 0 := In.eq1 eL13R (⟨by decide, by decide⟩ : In 0 0 0) cc17 (by omega) (by omega)
    refine lv_iconst (v := 1) hx hb dX11_isTrue_14 (by decide) ?_
    refine lv_goto (tgt := 19) hx hb dX11_isTrue_15 (by decide) ?_
    exact ret_i (ty := .boolean) hx hb hr hlocks (rfl) hP hD hS (Nat.le_of_ble_eq_true rfl) (Nat.le_of_ble_eq_true rfl) (⟨rfl, rfl, (⟨by decide, by decide⟩ : In 1 0 1)⟩) dX11_isTrue_19

abbrev rm_X11_areAgreedBehind : Room := { frames := 2, cells := 0, slots := 0, locals := 43 }
abbrev po_X11_areAgreedBehind (g : GG) (ad : Nat → Nat) (th : Nat → Int) (L : List Nat) (f : HP) (z1 : Int32) : Int32 → (List Nat × HP) → Prop := fun r u => u.1 = L ∧ u.2 = f ∧ In r 0 1
set_option maxHeartbeats 4000000 in
set_option maxRecDepth 100000 in
theorem s_X11_areAgreedBehind (l : Launch) (g : GG) (ad : Nat → Nat) (th : Nat → Int) (L : List Nat) (f : HP) (sz : Nat) (z1 : Int32) (hst : ST ad L) (hT : TI g ad th f) (hz1 : In z1 (-1) 5) : MtI l g yX11_areAgreedBehind cX11_areAgreedBehind 4 (some .boolean) rm_X11_areAgreedBehind [.ref (ad 255), .int z1] L f sz (po_X11_areAgreedBehind g ad th L f z1) := by
  refine MtI.of (by decide +kernel) (Nat.le_of_ble_eq_true rfl) ?_
  intro p e s m below meth c A hEn hP hD hS ls hl
  obtain ⟨hx, hb, hr, hml, hown, hlocks, hts, hG, hA, hE, hnm⟩ := hEn
  have hown : s.vm.findClass "RulerWordModel" = some m.cls := hown
  have hl : lv_has ls 4 [(0, .ref (ad 255)), (1, .int z1)] := hl
  refine lv_iconst (v := (-1)) hx hb dX11_areAgreedBehind_0 (by decide) ?_
  refine lv_istore_n (lv' := [(2, .int (-1)), (0, .ref (ad 255)), (1, .int z1)]) hx hb dX11_areAgreedBehind_1 rfl hl (by decide) rfl (fun ls hl => ?_)
  refine lv_iconst (v := 0) hx hb dX11_areAgreedBehind_2 (by decide) ?_
  refine lv_istore_n (lv' := [(3, .int 0), (2, .int (-1)), (0, .ref (ad 255)), (1, .int z1)]) hx hb dX11_areAgreedBehind_3 rfl hl (by decide) rfl (fun ls hl => ?_)
  have hJ4 : ∀ (k4 : Nat) (y4_l2 : Int32) (y4_l3 : Int32) (H : Heap) (locs : List Loc) (ls : Array Slot), In y4_l2 (-2147483648) 2147483647 → In y4_l3 0 9 → va_P g.1 vwCl (va_pl L f) H → va_D A (va_pl L f) → va_S A s.heap H locs → lv_has ls 4 [(0, .ref (ad 255)), (1, .int z1), (2, .int y4_l2), (3, .int y4_l3)] → 9 - y4_l3.toInt < ((k4 : Nat) : Int) → W p l e rm_X11_areAgreedBehind s m [.ref (ad 255), .int z1].toArray below meth c H locs 0 0 (MQ below (va_Qi (po_X11_areAgreedBehind g ad th L f z1) (PstB g A) A) [.ref (ad 255), .int z1].toArray s rm_X11_areAgreedBehind.cells rm_X11_areAgreedBehind.slots A) (F0 m 4 ls []) := by
    intro k4
    induction k4 with
    | zero =>
      intro y4_l2 y4_l3 H locs ls hy4_l2 hy4_l3 hP hD hS hl hmz4
      exact ms0 hy4_l3 hmz4
    | succ k4 ih4 =>
      intro y4_l2 y4_l3 H locs ls hy4_l2 hy4_l3 hP hD hS hl hmz4
      refine lv_iload_n hx hb dX11_areAgreedBehind_4 rfl (lv_at hl 3 rfl) ?_
      refine lv_aload_n hx hb dX11_areAgreedBehind_5 rfl (lv_at hl 0 rfl) ?_
      refine M0e hT (fun v0_1 v2_1 v3_1 v4_1 v5_1 v6_1 v8_1 v9_1 v12_1 v13_1 v14_1 v15_1 v16_1 v17_1 v18_1 v19_1 v20_1 v21_1 v22_1 v23_1 v25_1 v36_1 v37_1 v38_1 v39_1 v40_1 v45_1 v46_1 v47_1 v48_1 v50_1 v51_1 v53_1 v55_1 hf2 hv0_1 hv2_1 hg2_1 hv3_1 hg3_1 hv4_1 hg4_1 hv5_1 hg5_1 hv6_1 hg6_1 hv8_1 hg8_1 hv9_1 hg9_1 hv12_1 hv13_1 hg13_1 hv14_1 hg14_1 hv15_1 hg15_1 hv17_1 hg17_1 hv20_1 hg20_1 hv23_1 hg23_1 hv25_1 hg25_1 hv36_1 hg36_1 hv47_1 hg47_1 hv48_1 hg48_1 hv53_1 hg53_1 hv55_1 hg55_1 hrel0_1 => ?_)
      refine pl_get (v := .int v15_1) hx hb hts (fun w h => mT (inX11 w h)) hown hG.1 hP (hst.1 255 (by decide)) hf2 rfl 15 (by decide) (hts _ (mT wg_1351)) (fun _ h => h) rfl dX11_areAgreedBehind_6 ?_
      refine lv_icmp_ge (tgt := 53) hx hb dX11_areAgreedBehind_9 (by decide) (fun c3 => ?_) (fun c3 => ?_)
      ·
        refine lv_iconst (v := 1) hx hb dX11_areAgreedBehind_53 (by decide) ?_
        exact ret_i (ty := .boolean) hx hb hr hlocks (rfl) hP hD hS (Nat.le_of_ble_eq_true rfl) (Nat.le_of_ble_eq_true rfl) (⟨rfl, rfl, (⟨by decide, by decide⟩ : In 1 0 1)⟩) dX11_areAgreedBehind_54
      ·
        have cc4 : y4_l3.toInt < v15_1.toInt := i32_nle c3
        have hb5 : In y4_l3 0 8 := In.lt1 hy4_l3 hv15_1 cc4 (by omega) (by omega)
        have hb6 : In v15_1 1 9 := In.lt2 hy4_l3 hv15_1 cc4 (by omega) (by omega)
        refine lv_aload_n hx hb dX11_areAgreedBehind_12 rfl (lv_at hl 0 rfl) ?_
        refine lv_iload_n hx hb dX11_areAgreedBehind_13 rfl (lv_at hl 3 rfl) ?_
        refine call_i (run_V (rm := rm_X11_isTrue) hx hb hml hown hts (s_X11_isTrue l g ad th _ _ _ y4_l3 hst hT ) cV_X11_isTrue wg_1782 ⟨Nat.le_of_ble_eq_true rfl, Nat.le_of_ble_eq_true rfl⟩ hG hE hA hP hD hS (hst.1 255 (by decide)) hf2 rfl rfl hl.1 (As := [.int y4_l3]) (rest := []) rfl (Nat.le_of_ble_eq_true rfl) dX11_areAgreedBehind_14 ⟨Nat.le_of_ble_eq_true rfl, Nat.le_of_ble_eq_true rfl⟩) hA hD hS (fun r7 L8 f9 H locs hp10 hP hD hS => ?_)
        obtain ⟨eL11L, eL11T, eL11R⟩ := hp10
        have eL11L : L8 = L := eL11L
        have eL11T : f9 = f := eL11T
        rw [eL11L, eL11T] at hP hD
        have eL11R : In r7 0 1 := eL11R
        have hJ47 : ∀ (y47_l2 : Int32) (H : Heap) (locs : List Loc) (ls : Array Slot), In y47_l2 (-2147483648) 2147483647 → va_P g.1 vwCl (va_pl L f) H → va_D A (va_pl L f) → va_S A s.heap H locs → lv_has ls 4 [(0, .ref (ad 255)), (1, .int z1), (2, .int y47_l2), (3, .int y4_l3)] → W p l e rm_X11_areAgreedBehind s m [.ref (ad 255), .int z1].toArray below meth c H locs 0 0 (MQ below (va_Qi (po_X11_areAgreedBehind g ad th L f z1) (PstB g A) A) [.ref (ad 255), .int z1].toArray s rm_X11_areAgreedBehind.cells rm_X11_areAgreedBehind.slots A) (F0 m 47 ls []) := by
          intro y47_l2 H locs ls hy47_l2 hP hD hS hl
          obtain ⟨x12, ex12⟩ : ∃ y : Int32, y = y4_l3 + 1 := ⟨_, rfl⟩
          have hb13 : In x12 1 9 := ex12 ▸ In.add hb5 (⟨by decide, by decide⟩ : In 1 1 1) (by decide) (by decide) (by decide) (by decide)
          have et14 : x12.toInt = y4_l3.toInt + 1 := In.adde ex12 hb5 (k := 1) (by decide) (by decide) (by decide)
          refine lv_iinc (v := x12) (lv' := [(3, .int x12), (0, .ref (ad 255)), (1, .int z1), (2, .int y47_l2)]) hx hb dX11_areAgreedBehind_47 hl (k := 3) rfl (by rw [ex12]; rfl) (by decide) rfl (fun ls hl => ?_)
          refine lv_goto (tgt := 4) hx hb dX11_areAgreedBehind_50 (by decide) ?_
          exact ih4 y47_l2 x12 _ _ _ hy47_l2 (In.mono hb13 (by decide) (by decide)) hP hD hS (lv_sub hl [1, 2, 3, 0] rfl) (msu et14 (by decide) hmz4)
        refine lv_if_ne (tgt := 23) hx hb dX11_areAgreedBehind_17 (by decide) (fun c15 => ?_) (fun c15 => ?_)
        ·
          have cc16 : r7.toInt ≠ (0 : Int32).toInt := i32_ne c15
          have hb17 : In r7 1 1 := In.ne1 eL11R (⟨by decide, by decide⟩ : In 0 0 0) cc16 (by omega) (by omega)
          refine lv_iload_n hx hb dX11_areAgreedBehind_23 rfl (lv_at hl 2 rfl) ?_
          refine lv_iconst (v := (-1)) hx hb dX11_areAgreedBehind_24 (by decide) ?_
          have hJ40 : ∀ (H : Heap) (locs : List Loc) (ls : Array Slot), va_P g.1 vwCl (va_pl L f) H → va_D A (va_pl L f) → va_S A s.heap H locs → lv_has ls 4 [(0, .ref (ad 255)), (1, .int z1), (2, .int y4_l2), (3, .int y4_l3)] → W p l e rm_X11_areAgreedBehind s m [.ref (ad 255), .int z1].toArray below meth c H locs 0 0 (MQ below (va_Qi (po_X11_areAgreedBehind g ad th L f z1) (PstB g A) A) [.ref (ad 255), .int z1].toArray s rm_X11_areAgreedBehind.cells rm_X11_areAgreedBehind.slots A) (F0 m 40 ls []) := by
            intro H locs ls hP hD hS hl
            refine lv_aload_n hx hb dX11_areAgreedBehind_40 rfl (lv_at hl 0 rfl) ?_
            refine lv_iload_n hx hb dX11_areAgreedBehind_41 rfl (lv_at hl 1 rfl) ?_
            refine lv_iload_n hx hb dX11_areAgreedBehind_42 rfl (lv_at hl 3 rfl) ?_
            refine call_i (run_V (rm := rm_X11_heldBehind) hx hb hml hown hts (s_X11_heldBehind l g ad th _ _ _ z1 y4_l3 hst hT hz1 hb5) cV_X11_heldBehind wg_1786 ⟨Nat.le_of_ble_eq_true rfl, Nat.le_of_ble_eq_true rfl⟩ hG hE hA hP hD hS (hst.1 255 (by decide)) hf2 rfl rfl hl.1 (As := [.int z1, .int y4_l3]) (rest := []) rfl (Nat.le_of_ble_eq_true rfl) dX11_areAgreedBehind_43 ⟨Nat.le_of_ble_eq_true rfl, Nat.le_of_ble_eq_true rfl⟩) hA hD hS (fun r18 L19 f20 H locs hp21 hP hD hS => ?_)
            obtain ⟨eL22L, eL22T⟩ := hp21
            have eL22L : L19 = L := eL22L
            have eL22T : f20 = f := eL22T
            rw [eL22L, eL22T] at hP hD
            refine lv_istore_n (lv' := [(2, .int r18), (0, .ref (ad 255)), (1, .int z1), (3, .int y4_l3)]) hx hb dX11_areAgreedBehind_46 rfl hl (by decide) rfl (fun ls hl => ?_)
            exact hJ47 r18 _ _ _ (In.full r18) hP hD hS (lv_sub hl [1, 2, 0, 3] rfl)
          refine lv_icmp_eq (tgt := 40) hx hb dX11_areAgreedBehind_25 (by decide) (fun c23 => ?_) (fun c23 => ?_)
          ·
            have cc24 : y4_l2.toInt = ((-1) : Int32).toInt := congrArg Int32.toInt c23
            have hb25 : In y4_l2 (-1) (-1) := In.eq1 hy4_l2 (⟨by decide, by decide⟩ : In (-1) (-1) (-1)) cc24 (by omega) (by omega)
            exact hJ40 _ _ _ hP hD hS (lv_sub hl [0, 1, 2, 3] rfl)
          ·
            refine lv_aload_n hx hb dX11_areAgreedBehind_28 rfl (lv_at hl 0 rfl) ?_
            refine lv_iload_n hx hb dX11_areAgreedBehind_29 rfl (lv_at hl 1 rfl) ?_
            refine lv_iload_n hx hb dX11_areAgreedBehind_30 rfl (lv_at hl 3 rfl) ?_
            refine call_i (run_V (rm := rm_X11_heldBehind) hx hb hml hown hts (s_X11_heldBehind l g ad th _ _ _ z1 y4_l3 hst hT hz1 hb5) cV_X11_heldBehind wg_1786 ⟨Nat.le_of_ble_eq_true rfl, Nat.le_of_ble_eq_true rfl⟩ hG hE hA hP hD hS (hst.1 255 (by decide)) hf2 rfl rfl hl.1 (As := [.int z1, .int y4_l3]) (rest := []) rfl (Nat.le_of_ble_eq_true rfl) dX11_areAgreedBehind_31 ⟨Nat.le_of_ble_eq_true rfl, Nat.le_of_ble_eq_true rfl⟩) hA hD hS (fun r26 L27 f28 H locs hp29 hP hD hS => ?_)
            obtain ⟨eL30L, eL30T⟩ := hp29
            have eL30L : L27 = L := eL30L
            have eL30T : f28 = f := eL30T
            rw [eL30L, eL30T] at hP hD
            refine lv_iload_n hx hb dX11_areAgreedBehind_34 rfl (lv_at hl 2 rfl) ?_
            refine lv_icmp_eq (tgt := 40) hx hb dX11_areAgreedBehind_35 (by decide) (fun c31 => ?_) (fun c31 => ?_)
            ·
              exact hJ40 _ _ _ hP hD hS (lv_sub hl [0, 1, 2, 3] rfl)
            ·
              refine lv_iconst (v := 0) hx hb dX11_areAgreedBehind_38 (by decide) ?_
              exact ret_i (ty := .boolean) hx hb hr hlocks (rfl) hP hD hS (Nat.le_of_ble_eq_true rfl) (Nat.le_of_ble_eq_true rfl) (⟨rfl, rfl, (⟨by decide, by decide⟩ : In 0 0 1)⟩) dX11_areAgreedBehind_39
        ·
          have cc32 : r7.toInt = (0 : Int32).toInt := congrArg Int32.toInt c15
          have hb33 : In r7 0 0 := In.eq1 eL11R (⟨by decide, by decide⟩ : In 0 0 0) cc32 (by omega) (by omega)
          refine lv_goto (tgt := 47) hx hb dX11_areAgreedBehind_20 (by decide) ?_
          exact hJ47 y4_l2 _ _ _ hy4_l2 hP hD hS (lv_sub hl [0, 1, 2, 3] rfl)
  exact hJ4 ((9 - (0 : Int32).toInt).toNat + 1) (-1) 0 _ _ _ (⟨by decide, by decide⟩ : In (-1) (-2147483648) 2147483647) (⟨by decide, by decide⟩ : In 0 0 9) hP hD hS (lv_sub hl [2, 3, 1, 0] rfl) (msI _)

abbrev rm_X11_trueOnes : Room := { frames := 2, cells := 0, slots := 0, locals := 43 }
abbrev po_X11_trueOnes (g : GG) (ad : Nat → Nat) (th : Nat → Int) (L : List Nat) (f : HP) (z1 : Int32) : Int32 → (List Nat × HP) → Prop := fun _ u => u.1 = L ∧ u.2 = f
set_option maxHeartbeats 4000000 in
set_option maxRecDepth 100000 in
theorem s_X11_trueOnes (l : Launch) (g : GG) (ad : Nat → Nat) (th : Nat → Int) (L : List Nat) (f : HP) (sz : Nat) (z1 : Int32) (hst : ST ad L) (hT : TI g ad th f) (hz1 : In z1 (-1) 5) : MtI l g yX11_trueOnes cX11_trueOnes 4 (some .int) rm_X11_trueOnes [.ref (ad 255), .int z1] L f sz (po_X11_trueOnes g ad th L f z1) := by
  refine MtI.of (by decide +kernel) (Nat.le_of_ble_eq_true rfl) ?_
  intro p e s m below meth c A hEn hP hD hS ls hl
  obtain ⟨hx, hb, hr, hml, hown, hlocks, hts, hG, hA, hE, hnm⟩ := hEn
  have hown : s.vm.findClass "RulerWordModel" = some m.cls := hown
  have hl : lv_has ls 4 [(0, .ref (ad 255)), (1, .int z1)] := hl
  refine lv_iconst (v := 0) hx hb dX11_trueOnes_0 (by decide) ?_
  refine lv_istore_n (lv' := [(2, .int 0), (0, .ref (ad 255)), (1, .int z1)]) hx hb dX11_trueOnes_1 rfl hl (by decide) rfl (fun ls hl => ?_)
  refine lv_iconst (v := 0) hx hb dX11_trueOnes_2 (by decide) ?_
  refine lv_istore_n (lv' := [(3, .int 0), (2, .int 0), (0, .ref (ad 255)), (1, .int z1)]) hx hb dX11_trueOnes_3 rfl hl (by decide) rfl (fun ls hl => ?_)
  have hJ4 : ∀ (k4 : Nat) (y4_l2 : Int32) (y4_l3 : Int32) (H : Heap) (locs : List Loc) (ls : Array Slot), In y4_l2 (-2147483648) 2147483647 → In y4_l3 0 9 → va_P g.1 vwCl (va_pl L f) H → va_D A (va_pl L f) → va_S A s.heap H locs → lv_has ls 4 [(0, .ref (ad 255)), (1, .int z1), (2, .int y4_l2), (3, .int y4_l3)] → 9 - y4_l3.toInt < ((k4 : Nat) : Int) → W p l e rm_X11_trueOnes s m [.ref (ad 255), .int z1].toArray below meth c H locs 0 0 (MQ below (va_Qi (po_X11_trueOnes g ad th L f z1) (PstB g A) A) [.ref (ad 255), .int z1].toArray s rm_X11_trueOnes.cells rm_X11_trueOnes.slots A) (F0 m 4 ls []) := by
    intro k4
    induction k4 with
    | zero =>
      intro y4_l2 y4_l3 H locs ls hy4_l2 hy4_l3 hP hD hS hl hmz4
      exact ms0 hy4_l3 hmz4
    | succ k4 ih4 =>
      intro y4_l2 y4_l3 H locs ls hy4_l2 hy4_l3 hP hD hS hl hmz4
      refine lv_iload_n hx hb dX11_trueOnes_4 rfl (lv_at hl 3 rfl) ?_
      refine lv_aload_n hx hb dX11_trueOnes_5 rfl (lv_at hl 0 rfl) ?_
      refine M0e hT (fun v0_1 v2_1 v3_1 v4_1 v5_1 v6_1 v8_1 v9_1 v12_1 v13_1 v14_1 v15_1 v16_1 v17_1 v18_1 v19_1 v20_1 v21_1 v22_1 v23_1 v25_1 v36_1 v37_1 v38_1 v39_1 v40_1 v45_1 v46_1 v47_1 v48_1 v50_1 v51_1 v53_1 v55_1 hf2 hv0_1 hv2_1 hg2_1 hv3_1 hg3_1 hv4_1 hg4_1 hv5_1 hg5_1 hv6_1 hg6_1 hv8_1 hg8_1 hv9_1 hg9_1 hv12_1 hv13_1 hg13_1 hv14_1 hg14_1 hv15_1 hg15_1 hv17_1 hg17_1 hv20_1 hg20_1 hv23_1 hg23_1 hv25_1 hg25_1 hv36_1 hg36_1 hv47_1 hg47_1 hv48_1 hg48_1 hv53_1 hg53_1 hv55_1 hg55_1 hrel0_1 => ?_)
      refine pl_get (v := .int v15_1) hx hb hts (fun w h => mT (inX11 w h)) hown hG.1 hP (hst.1 255 (by decide)) hf2 rfl 15 (by decide) (hts _ (mT wg_1351)) (fun _ h => h) rfl dX11_trueOnes_6 ?_
      refine lv_icmp_ge (tgt := 39) hx hb dX11_trueOnes_9 (by decide) (fun c3 => ?_) (fun c3 => ?_)
      ·
        refine lv_iload_n hx hb dX11_trueOnes_39 rfl (lv_at hl 2 rfl) ?_
        exact ret_i (ty := .int) hx hb hr hlocks (rfl) hP hD hS (Nat.le_of_ble_eq_true rfl) (Nat.le_of_ble_eq_true rfl) (⟨rfl, rfl⟩) dX11_trueOnes_40
      ·
        have cc4 : y4_l3.toInt < v15_1.toInt := i32_nle c3
        have hb5 : In y4_l3 0 8 := In.lt1 hy4_l3 hv15_1 cc4 (by omega) (by omega)
        have hb6 : In v15_1 1 9 := In.lt2 hy4_l3 hv15_1 cc4 (by omega) (by omega)
        refine lv_iload_n hx hb dX11_trueOnes_12 rfl (lv_at hl 2 rfl) ?_
        refine lv_aload_n hx hb dX11_trueOnes_13 rfl (lv_at hl 0 rfl) ?_
        refine lv_iload_n hx hb dX11_trueOnes_14 rfl (lv_at hl 3 rfl) ?_
        refine call_i (run_V (rm := rm_X11_isTrue) hx hb hml hown hts (s_X11_isTrue l g ad th _ _ _ y4_l3 hst hT ) cV_X11_isTrue wg_1782 ⟨Nat.le_of_ble_eq_true rfl, Nat.le_of_ble_eq_true rfl⟩ hG hE hA hP hD hS (hst.1 255 (by decide)) hf2 rfl rfl hl.1 (As := [.int y4_l3]) (rest := [.int y4_l2]) rfl (Nat.le_of_ble_eq_true rfl) dX11_trueOnes_15 ⟨Nat.le_of_ble_eq_true rfl, Nat.le_of_ble_eq_true rfl⟩) hA hD hS (fun r7 L8 f9 H locs hp10 hP hD hS => ?_)
        obtain ⟨eL11L, eL11T, eL11R⟩ := hp10
        have eL11L : L8 = L := eL11L
        have eL11T : f9 = f := eL11T
        rw [eL11L, eL11T] at hP hD
        have eL11R : In r7 0 1 := eL11R
        have hJ31 : ∀ (y31_s0 : Int32) (H : Heap) (locs : List Loc) (ls : Array Slot), In y31_s0 (-2147483648) 2147483647 → va_P g.1 vwCl (va_pl L f) H → va_D A (va_pl L f) → va_S A s.heap H locs → lv_has ls 4 [(0, .ref (ad 255)), (1, .int z1), (2, .int y4_l2), (3, .int y4_l3)] → W p l e rm_X11_trueOnes s m [.ref (ad 255), .int z1].toArray below meth c H locs 0 0 (MQ below (va_Qi (po_X11_trueOnes g ad th L f z1) (PstB g A) A) [.ref (ad 255), .int z1].toArray s rm_X11_trueOnes.cells rm_X11_trueOnes.slots A) (F0 m 31 ls [.int y31_s0, .int y4_l2]) := by
          intro y31_s0 H locs ls hy31_s0 hP hD hS hl
          refine lv_iadd hx hb dX11_trueOnes_31 ?_
          refine lv_topi (fun x12 ex12 => ?_)
          refine lv_istore_n (lv' := [(2, .int x12), (0, .ref (ad 255)), (1, .int z1), (3, .int y4_l3)]) hx hb dX11_trueOnes_32 rfl hl (by decide) rfl (fun ls hl => ?_)
          obtain ⟨x13, ex13⟩ : ∃ y : Int32, y = y4_l3 + 1 := ⟨_, rfl⟩
          have hb14 : In x13 1 9 := ex13 ▸ In.add hb5 (⟨by decide, by decide⟩ : In 1 1 1) (by decide) (by decide) (by decide) (by decide)
          have et15 : x13.toInt = y4_l3.toInt + 1 := In.adde ex13 hb5 (k := 1) (by decide) (by decide) (by decide)
          refine lv_iinc (v := x13) (lv' := [(3, .int x13), (2, .int x12), (0, .ref (ad 255)), (1, .int z1)]) hx hb dX11_trueOnes_33 hl (k := 3) rfl (by rw [ex13]; rfl) (by decide) rfl (fun ls hl => ?_)
          refine lv_goto (tgt := 4) hx hb dX11_trueOnes_36 (by decide) ?_
          exact ih4 x12 x13 _ _ _ (In.full x12) (In.mono hb14 (by decide) (by decide)) hP hD hS (lv_sub hl [2, 3, 1, 0] rfl) (msu et15 (by decide) hmz4)
        refine lv_if_eq (tgt := 30) hx hb dX11_trueOnes_18 (by decide) (fun c16 => ?_) (fun c16 => ?_)
        ·
          have cc17 : r7.toInt = (0 : Int32).toInt := congrArg Int32.toInt c16
          have hb18 : In r7 0 0 := In.eq1 eL11R (⟨by decide, by decide⟩ : In 0 0 0) cc17 (by omega) (by omega)
          refine lv_iconst (v := 0) hx hb dX11_trueOnes_30 (by decide) ?_
          exact hJ31 0 _ _ _ (⟨by decide, by decide⟩ : In 0 (-2147483648) 2147483647) hP hD hS (lv_sub hl [0, 1, 2, 3] rfl)
        ·
          have cc19 : r7.toInt ≠ (0 : Int32).toInt := i32_ne c16
          have hb20 : In r7 1 1 := In.ne1 eL11R (⟨by decide, by decide⟩ : In 0 0 0) cc19 (by omega) (by omega)
          refine lv_aload_n hx hb dX11_trueOnes_21 rfl (lv_at hl 0 rfl) ?_
          refine lv_iload_n hx hb dX11_trueOnes_22 rfl (lv_at hl 1 rfl) ?_
          refine lv_iload_n hx hb dX11_trueOnes_23 rfl (lv_at hl 3 rfl) ?_
          refine call_i (run_V (rm := rm_X11_heldBehind) hx hb hml hown hts (s_X11_heldBehind l g ad th _ _ _ z1 y4_l3 hst hT hz1 hb5) cV_X11_heldBehind wg_1786 ⟨Nat.le_of_ble_eq_true rfl, Nat.le_of_ble_eq_true rfl⟩ hG hE hA hP hD hS (hst.1 255 (by decide)) hf2 rfl rfl hl.1 (As := [.int z1, .int y4_l3]) (rest := [.int y4_l2]) rfl (Nat.le_of_ble_eq_true rfl) dX11_trueOnes_24 ⟨Nat.le_of_ble_eq_true rfl, Nat.le_of_ble_eq_true rfl⟩) hA hD hS (fun r21 L22 f23 H locs hp24 hP hD hS => ?_)
          obtain ⟨eL25L, eL25T⟩ := hp24
          have eL25L : L22 = L := eL25L
          have eL25T : f23 = f := eL25T
          rw [eL25L, eL25T] at hP hD
          refine lv_goto (tgt := 31) hx hb dX11_trueOnes_27 (by decide) ?_
          exact hJ31 r21 _ _ _ (In.full r21) hP hD hS (lv_sub hl [0, 1, 2, 3] rfl)
  exact hJ4 ((9 - (0 : Int32).toInt).toNat + 1) 0 0 _ _ _ (⟨by decide, by decide⟩ : In 0 (-2147483648) 2147483647) (⟨by decide, by decide⟩ : In 0 0 9) hP hD hS (lv_sub hl [2, 3, 1, 0] rfl) (msI _)

abbrev rm_X11_isSomeStart : Room := { frames := 3, cells := 0, slots := 0, locals := 66 }
abbrev po_X11_isSomeStart (g : GG) (ad : Nat → Nat) (th : Nat → Int) (L : List Nat) (f : HP) (z1 : Int32) : Int32 → (List Nat × HP) → Prop := fun r u => u.1 = L ∧ u.2 = f ∧ In r 0 1
set_option maxHeartbeats 4000000 in
set_option maxRecDepth 100000 in
theorem s_X11_isSomeStart (l : Launch) (g : GG) (ad : Nat → Nat) (th : Nat → Int) (L : List Nat) (f : HP) (sz : Nat) (z1 : Int32) (hst : ST ad L) (hT : TI g ad th f) (hz1 : In z1 (-1) 5) : MtI l g yX11_isSomeStart cX11_isSomeStart 4 (some .boolean) rm_X11_isSomeStart [.ref (ad 255), .int z1] L f sz (po_X11_isSomeStart g ad th L f z1) := by
  refine MtI.of (by decide +kernel) (Nat.le_of_ble_eq_true rfl) ?_
  intro p e s m below meth c A hEn hP hD hS ls hl
  obtain ⟨hx, hb, hr, hml, hown, hlocks, hts, hG, hA, hE, hnm⟩ := hEn
  have hown : s.vm.findClass "RulerWordModel" = some m.cls := hown
  have hl : lv_has ls 4 [(0, .ref (ad 255)), (1, .int z1)] := hl
  refine lv_aload_n hx hb dX11_isSomeStart_0 rfl (lv_at hl 0 rfl) ?_
  refine lv_iload_n hx hb dX11_isSomeStart_1 rfl (lv_at hl 1 rfl) ?_
  refine M0e hT (fun v0_1 v2_1 v3_1 v4_1 v5_1 v6_1 v8_1 v9_1 v12_1 v13_1 v14_1 v15_1 v16_1 v17_1 v18_1 v19_1 v20_1 v21_1 v22_1 v23_1 v25_1 v36_1 v37_1 v38_1 v39_1 v40_1 v45_1 v46_1 v47_1 v48_1 v50_1 v51_1 v53_1 v55_1 hf2 hv0_1 hv2_1 hg2_1 hv3_1 hg3_1 hv4_1 hg4_1 hv5_1 hg5_1 hv6_1 hg6_1 hv8_1 hg8_1 hv9_1 hg9_1 hv12_1 hv13_1 hg13_1 hv14_1 hg14_1 hv15_1 hg15_1 hv17_1 hg17_1 hv20_1 hg20_1 hv23_1 hg23_1 hv25_1 hg25_1 hv36_1 hg36_1 hv47_1 hg47_1 hv48_1 hg48_1 hv53_1 hg53_1 hv55_1 hg55_1 hrel0_1 => ?_)
  refine call_i (run_V (rm := rm_X11_trueOnes) hx hb hml hown hts (s_X11_trueOnes l g ad th _ _ _ z1 hst hT hz1) cV_X11_trueOnes wg_1794 ⟨Nat.le_of_ble_eq_true rfl, Nat.le_of_ble_eq_true rfl⟩ hG hE hA hP hD hS (hst.1 255 (by decide)) hf2 rfl rfl hl.1 (As := [.int z1]) (rest := []) rfl (Nat.le_of_ble_eq_true rfl) dX11_isSomeStart_2 ⟨Nat.le_of_ble_eq_true rfl, Nat.le_of_ble_eq_true rfl⟩) hA hD hS (fun r3 L4 f5 H locs hp6 hP hD hS => ?_)
  obtain ⟨eL7L, eL7T⟩ := hp6
  have eL7L : L4 = L := eL7L
  have eL7T : f5 = f := eL7T
  rw [eL7L, eL7T] at hP hD
  have hJ13 : ∀ (y13_s0 : Int32) (H : Heap) (locs : List Loc) (ls : Array Slot), In y13_s0 0 1 → va_P g.1 vwCl (va_pl L f) H → va_D A (va_pl L f) → va_S A s.heap H locs → lv_has ls 4 [(0, .ref (ad 255)), (1, .int z1)] → W p l e rm_X11_isSomeStart s m [.ref (ad 255), .int z1].toArray below meth c H locs 0 0 (MQ below (va_Qi (po_X11_isSomeStart g ad th L f z1) (PstB g A) A) [.ref (ad 255), .int z1].toArray s rm_X11_isSomeStart.cells rm_X11_isSomeStart.slots A) (F0 m 13 ls [.int y13_s0]) := by
    intro y13_s0 H locs ls hy13_s0 hP hD hS hl
    refine lv_istore_n (lv' := [(2, .int y13_s0), (0, .ref (ad 255)), (1, .int z1)]) hx hb dX11_isSomeStart_13 rfl hl (by decide) rfl (fun ls hl => ?_)
    refine lv_iconst (v := 0) hx hb dX11_isSomeStart_14 (by decide) ?_
    refine lv_istore_n (lv' := [(3, .int 0), (2, .int y13_s0), (0, .ref (ad 255)), (1, .int z1)]) hx hb dX11_isSomeStart_15 rfl hl (by decide) rfl (fun ls hl => ?_)
    have hJ16 : ∀ (k16 : Nat) (y16_l3 : Int32) (H : Heap) (locs : List Loc) (ls : Array Slot), In y16_l3 0 9 → va_P g.1 vwCl (va_pl L f) H → va_D A (va_pl L f) → va_S A s.heap H locs → lv_has ls 4 [(0, .ref (ad 255)), (1, .int z1), (2, .int y13_s0), (3, .int y16_l3)] → 9 - y16_l3.toInt < ((k16 : Nat) : Int) → W p l e rm_X11_isSomeStart s m [.ref (ad 255), .int z1].toArray below meth c H locs 0 0 (MQ below (va_Qi (po_X11_isSomeStart g ad th L f z1) (PstB g A) A) [.ref (ad 255), .int z1].toArray s rm_X11_isSomeStart.cells rm_X11_isSomeStart.slots A) (F0 m 16 ls []) := by
      intro k16
      induction k16 with
      | zero =>
        intro y16_l3 H locs ls hy16_l3 hP hD hS hl hmz16
        exact ms0 hy16_l3 hmz16
      | succ k16 ih16 =>
        intro y16_l3 H locs ls hy16_l3 hP hD hS hl hmz16
        refine lv_iload_n hx hb dX11_isSomeStart_16 rfl (lv_at hl 3 rfl) ?_
        refine lv_aload_n hx hb dX11_isSomeStart_17 rfl (lv_at hl 0 rfl) ?_
        refine pl_get (v := .int v15_1) hx hb hts (fun w h => mT (inX11 w h)) hown hG.1 hP (hst.1 255 (by decide)) hf2 rfl 15 (by decide) (hts _ (mT wg_1351)) (fun _ h => h) rfl dX11_isSomeStart_18 ?_
        refine lv_icmp_ge (tgt := 50) hx hb dX11_isSomeStart_21 (by decide) (fun c8 => ?_) (fun c8 => ?_)
        ·
          refine lv_iconst (v := 0) hx hb dX11_isSomeStart_50 (by decide) ?_
          exact ret_i (ty := .boolean) hx hb hr hlocks (rfl) hP hD hS (Nat.le_of_ble_eq_true rfl) (Nat.le_of_ble_eq_true rfl) (⟨rfl, rfl, (⟨by decide, by decide⟩ : In 0 0 1)⟩) dX11_isSomeStart_51
        ·
          have cc9 : y16_l3.toInt < v15_1.toInt := i32_nle c8
          have hb10 : In y16_l3 0 8 := In.lt1 hy16_l3 hv15_1 cc9 (by omega) (by omega)
          have hb11 : In v15_1 1 9 := In.lt2 hy16_l3 hv15_1 cc9 (by omega) (by omega)
          refine lv_aload_n hx hb dX11_isSomeStart_24 rfl (lv_at hl 0 rfl) ?_
          refine lv_iload_n hx hb dX11_isSomeStart_25 rfl (lv_at hl 3 rfl) ?_
          refine call_i (run_V (rm := rm_X11_isTrue) hx hb hml hown hts (s_X11_isTrue l g ad th _ _ _ y16_l3 hst hT ) cV_X11_isTrue wg_1782 ⟨Nat.le_of_ble_eq_true rfl, Nat.le_of_ble_eq_true rfl⟩ hG hE hA hP hD hS (hst.1 255 (by decide)) hf2 rfl rfl hl.1 (As := [.int y16_l3]) (rest := []) rfl (Nat.le_of_ble_eq_true rfl) dX11_isSomeStart_26 ⟨Nat.le_of_ble_eq_true rfl, Nat.le_of_ble_eq_true rfl⟩) hA hD hS (fun r12 L13 f14 H locs hp15 hP hD hS => ?_)
          obtain ⟨eL16L, eL16T, eL16R⟩ := hp15
          have eL16L : L13 = L := eL16L
          have eL16T : f14 = f := eL16T
          rw [eL16L, eL16T] at hP hD
          have eL16R : In r12 0 1 := eL16R
          have hJ44 : ∀ (H : Heap) (locs : List Loc) (ls : Array Slot), va_P g.1 vwCl (va_pl L f) H → va_D A (va_pl L f) → va_S A s.heap H locs → lv_has ls 4 [(0, .ref (ad 255)), (1, .int z1), (2, .int y13_s0), (3, .int y16_l3)] → W p l e rm_X11_isSomeStart s m [.ref (ad 255), .int z1].toArray below meth c H locs 0 0 (MQ below (va_Qi (po_X11_isSomeStart g ad th L f z1) (PstB g A) A) [.ref (ad 255), .int z1].toArray s rm_X11_isSomeStart.cells rm_X11_isSomeStart.slots A) (F0 m 44 ls []) := by
            intro H locs ls hP hD hS hl
            obtain ⟨x17, ex17⟩ : ∃ y : Int32, y = y16_l3 + 1 := ⟨_, rfl⟩
            have hb18 : In x17 1 9 := ex17 ▸ In.add hb10 (⟨by decide, by decide⟩ : In 1 1 1) (by decide) (by decide) (by decide) (by decide)
            have et19 : x17.toInt = y16_l3.toInt + 1 := In.adde ex17 hb10 (k := 1) (by decide) (by decide) (by decide)
            refine lv_iinc (v := x17) (lv' := [(3, .int x17), (0, .ref (ad 255)), (1, .int z1), (2, .int y13_s0)]) hx hb dX11_isSomeStart_44 hl (k := 3) rfl (by rw [ex17]; rfl) (by decide) rfl (fun ls hl => ?_)
            refine lv_goto (tgt := 16) hx hb dX11_isSomeStart_47 (by decide) ?_
            exact ih16 x17 _ _ _ (In.mono hb18 (by decide) (by decide)) hP hD hS (lv_sub hl [1, 2, 3, 0] rfl) (msu et19 (by decide) hmz16)
          refine lv_if_eq (tgt := 44) hx hb dX11_isSomeStart_29 (by decide) (fun c20 => ?_) (fun c20 => ?_)
          ·
            have cc21 : r12.toInt = (0 : Int32).toInt := congrArg Int32.toInt c20
            have hb22 : In r12 0 0 := In.eq1 eL16R (⟨by decide, by decide⟩ : In 0 0 0) cc21 (by omega) (by omega)
            exact hJ44 _ _ _ hP hD hS (lv_sub hl [0, 1, 2, 3] rfl)
          ·
            have cc23 : r12.toInt ≠ (0 : Int32).toInt := i32_ne c20
            have hb24 : In r12 1 1 := In.ne1 eL16R (⟨by decide, by decide⟩ : In 0 0 0) cc23 (by omega) (by omega)
            refine lv_aload_n hx hb dX11_isSomeStart_32 rfl (lv_at hl 0 rfl) ?_
            refine lv_iconst (v := (-1)) hx hb dX11_isSomeStart_33 (by decide) ?_
            refine lv_iload_n hx hb dX11_isSomeStart_34 rfl (lv_at hl 3 rfl) ?_
            refine call_i (run_V (rm := rm_X11_heldBehind) hx hb hml hown hts (s_X11_heldBehind l g ad th _ _ _ (-1) y16_l3 hst hT (⟨by decide, by decide⟩ : In (-1) (-1) 5) hb10) cV_X11_heldBehind wg_1786 ⟨Nat.le_of_ble_eq_true rfl, Nat.le_of_ble_eq_true rfl⟩ hG hE hA hP hD hS (hst.1 255 (by decide)) hf2 rfl rfl hl.1 (As := [.int (-1), .int y16_l3]) (rest := []) rfl (Nat.le_of_ble_eq_true rfl) dX11_isSomeStart_35 ⟨Nat.le_of_ble_eq_true rfl, Nat.le_of_ble_eq_true rfl⟩) hA hD hS (fun r25 L26 f27 H locs hp28 hP hD hS => ?_)
            obtain ⟨eL29L, eL29T⟩ := hp28
            have eL29L : L26 = L := eL29L
            have eL29T : f27 = f := eL29T
            rw [eL29L, eL29T] at hP hD
            refine lv_iload_n hx hb dX11_isSomeStart_38 rfl (lv_at hl 2 rfl) ?_
            refine lv_icmp_ne (tgt := 44) hx hb dX11_isSomeStart_39 (by decide) (fun c30 => ?_) (fun c30 => ?_)
            ·
              exact hJ44 _ _ _ hP hD hS (lv_sub hl [0, 1, 2, 3] rfl)
            ·
              have cc31 : r25.toInt = y13_s0.toInt := congrArg Int32.toInt c30
              have hb32 : In r25 0 1 := In.eq1 (In.full r25) hy13_s0 cc31 (by omega) (by omega)
              refine lv_iconst (v := 1) hx hb dX11_isSomeStart_42 (by decide) ?_
              exact ret_i (ty := .boolean) hx hb hr hlocks (rfl) hP hD hS (Nat.le_of_ble_eq_true rfl) (Nat.le_of_ble_eq_true rfl) (⟨rfl, rfl, (⟨by decide, by decide⟩ : In 1 0 1)⟩) dX11_isSomeStart_43
    exact hJ16 ((9 - (0 : Int32).toInt).toNat + 1) 0 _ _ _ (⟨by decide, by decide⟩ : In 0 0 9) hP hD hS (lv_sub hl [2, 3, 1, 0] rfl) (msI _)
  refine lv_if_le (tgt := 12) hx hb dX11_isSomeStart_5 (by decide) (fun c33 => ?_) (fun c33 => ?_)
  ·
    have cc34 : r3.toInt ≤ (0 : Int32).toInt := i32_le.mp c33
    have hb35 : In r3 (-2147483648) 0 := In.le1 (In.full r3) (⟨by decide, by decide⟩ : In 0 0 0) cc34 (by omega) (by omega)
    refine lv_iconst (v := 0) hx hb dX11_isSomeStart_12 (by decide) ?_
    exact hJ13 0 _ _ _ (⟨by decide, by decide⟩ : In 0 0 1) hP hD hS (lv_sub hl [0, 1] rfl)
  ·
    have cc36 : (0 : Int32).toInt < r3.toInt := i32_nle c33
    have hb37 : In r3 1 2147483647 := In.gt1 (In.full r3) (⟨by decide, by decide⟩ : In 0 0 0) cc36 (by omega) (by omega)
    refine lv_iconst (v := 1) hx hb dX11_isSomeStart_8 (by decide) ?_
    refine lv_goto (tgt := 13) hx hb dX11_isSomeStart_9 (by decide) ?_
    exact hJ13 1 _ _ _ (⟨by decide, by decide⟩ : In 1 0 1) hP hD hS (lv_sub hl [0, 1] rfl)

abbrev rm_X11_agreed : Room := { frames := 3, cells := 0, slots := 0, locals := 66 }
abbrev po_X11_agreed (g : GG) (ad : Nat → Nat) (th : Nat → Int) (L : List Nat) (f : HP)  : Int32 → (List Nat × HP) → Prop := fun r u => u.1 = L ∧ TI g ad th u.2 ∧ (∀ b, b ≠ (ad 255) → u.2 b = f b)
set_option maxHeartbeats 4000000 in
set_option maxRecDepth 100000 in
theorem s_X11_agreed (l : Launch) (g : GG) (ad : Nat → Nat) (th : Nat → Int) (L : List Nat) (f : HP) (sz : Nat)  (hst : ST ad L) (hT : TI g ad th f) (hM : MI th) : MtI l g yX11_agreed cX11_agreed 2 (some .int) rm_X11_agreed [.ref (ad 255)] L f sz (po_X11_agreed g ad th L f ) := by
  refine MtI.of (by decide +kernel) (Nat.le_of_ble_eq_true rfl) ?_
  intro p e s m below meth c A hEn hP hD hS ls hl
  obtain ⟨hx, hb, hr, hml, hown, hlocks, hts, hG, hA, hE, hnm⟩ := hEn
  have hown : s.vm.findClass "RulerWordModel" = some m.cls := hown
  have hl : lv_has ls 2 [(0, .ref (ad 255))] := hl
  have hfr : (∀ b, b ≠ (ad 255) → f b = f b) := fun b z0_ => rfl
  have hM0 := hM
  obtain ⟨m1, m2, m3, m4, m5, m6, m7, m8, m9, m10⟩ := hM0
  have m20 := mi20 m2 m3
  refine lv_aload_n hx hb dX11_agreed_0 rfl (lv_at hl 0 rfl) ?_
  refine lv_iconst (v := 0) hx hb dX11_agreed_1 (by decide) ?_
  refine M0e hT (fun v0_1 v2_1 v3_1 v4_1 v5_1 v6_1 v8_1 v9_1 v12_1 v13_1 v14_1 v15_1 v16_1 v17_1 v18_1 v19_1 v20_1 v21_1 v22_1 v23_1 v25_1 v36_1 v37_1 v38_1 v39_1 v40_1 v45_1 v46_1 v47_1 v48_1 v50_1 v51_1 v53_1 v55_1 hf2 hv0_1 hv2_1 hg2_1 hv3_1 hg3_1 hv4_1 hg4_1 hv5_1 hg5_1 hv6_1 hg6_1 hv8_1 hg8_1 hv9_1 hg9_1 hv12_1 hv13_1 hg13_1 hv14_1 hg14_1 hv15_1 hg15_1 hv17_1 hg17_1 hv20_1 hg20_1 hv23_1 hg23_1 hv25_1 hg25_1 hv36_1 hg36_1 hv47_1 hg47_1 hv48_1 hg48_1 hv53_1 hg53_1 hv55_1 hg55_1 hrel0_1 => ?_)
  refine pl_put (ty := .int) (v := .int 0) (fs' := [.int 0, .ref (ad 256), .int v2_1, .int v3_1, .int v4_1, .int v5_1, .int v6_1, .ref (ad 257), .int v8_1, .int v9_1, .ref (ad 258), .ref (ad 259), .int v12_1, .int v13_1, .int v14_1, .int v15_1, .int v16_1, .int v17_1, .int v18_1, .int v19_1, .int v20_1, .long v21_1, .long v22_1, .int v23_1, .ref (ad 260), .int v25_1, .ref (ad 261), .ref (ad 262), .ref (ad 263), .ref (ad 264), .ref (ad 265), .ref (ad 266), .ref (ad 267), .ref (ad 268), .ref (ad 269), .ref (ad 270), .int v36_1, .int v37_1, .int v38_1, .int v39_1, .int v40_1, .ref (ad 271), .ref (ad 272), .ref (ad 273), .ref (ad 274), .long v45_1, .long v46_1, .int v47_1, .int v48_1, .ref (ad 275), .int v50_1, .int v51_1, .ref (ad 276), .int v53_1, .ref (ad 277), .int v55_1]) hx hb hts (fun w h => mT (inX11 w h)) tyX11 tyX11_ok nmX11 hown hG.1 hP hD hS (hst.1 255 (by decide)) hf2 rfl 0 (by decide) (hts _ (mT wg_1336)) (fun _ h => h) rfl (by decide +kernel) (rfl) (rfl) (Nat.le_of_ble_eq_true rfl) rfl dX11_agreed_2 (fun H locs f3 hf4 ho5 hP hD hS => ?_)
  have hfr : (∀ b, b ≠ (ad 255) → f3 b = f b) := fun b z0_ => (ho5 b z0_).trans (hfr b z0_)
  refine lv_aload_n hx hb dX11_agreed_5 rfl (lv_at hl 0 rfl) ?_
  have hT := TI.updM hT hst (k := 0) (by decide) hf4 ho5 ⟨0, v2_1, v3_1, v4_1, v5_1, v6_1, v8_1, v9_1, v12_1, v13_1, v14_1, v15_1, v16_1, v17_1, v18_1, v19_1, v20_1, v21_1, v22_1, v23_1, v25_1, v36_1, v37_1, v38_1, v39_1, v40_1, v45_1, v46_1, v47_1, v48_1, v50_1, v51_1, v53_1, v55_1, rfl, (⟨by decide, by decide⟩ : In 0 0 1), hv2_1, hg2_1, hv3_1, hg3_1, hv4_1, hg4_1, hv5_1, hg5_1, hv6_1, hg6_1, hv8_1, hg8_1, hv9_1, hg9_1, hv12_1, hv13_1, hg13_1, hv14_1, hg14_1, hv15_1, hg15_1, hv17_1, hg17_1, hv20_1, hg20_1, hv23_1, hg23_1, hv25_1, hg25_1, hv36_1, hg36_1, hv47_1, hg47_1, hv48_1, hg48_1, hv53_1, hg53_1, hv55_1, hg55_1, hrel0_1⟩
  refine call_i (run_V (rm := rm_X11_over) hx hb hml hown hts (s_X11_over l g ad th _ _ _  hst hT (show MI th from hM)) cV_X11_over wg_1769 ⟨Nat.le_of_ble_eq_true rfl, Nat.le_of_ble_eq_true rfl⟩ hG hE hA hP hD hS (hst.1 255 (by decide)) hf4 rfl rfl hl.1 (As := []) (rest := []) rfl (Nat.le_of_ble_eq_true rfl) dX11_agreed_6 ⟨Nat.le_of_ble_eq_true rfl, Nat.le_of_ble_eq_true rfl⟩) hA hD hS (fun r6 L7 f8 H locs hp9 hP hD hS => ?_)
  obtain ⟨eL10L, eL10T, eL10R, eL10X0⟩ := hp9
  have eL10L : L7 = L := eL10L
  have eL10T : f8 = f3 := eL10T
  rw [eL10L, eL10T] at hP hD
  have eL10R : In r6 0 6 := eL10R
  have hcl11 : r6.toInt = 0 ∨ th 15 = 1 := eL10X0
  refine lv_istore_n (lv' := [(1, .int r6), (0, .ref (ad 255))]) hx hb dX11_agreed_9 rfl hl (by decide) rfl (fun ls hl => ?_)
  have hJ10 : ∀ (k10 : Nat) (y10_l1 : Int32) (H : Heap) (locs : List Loc) (ls : Array Slot), In y10_l1 0 6 → va_P g.1 vwCl (va_pl L f3) H → va_D A (va_pl L f3) → va_S A s.heap H locs → lv_has ls 2 [(0, .ref (ad 255)), (1, .int y10_l1)] → y10_l1.toInt - 0 < ((k10 : Nat) : Int) → W p l e rm_X11_agreed s m [.ref (ad 255)].toArray below meth c H locs 0 0 (MQ below (va_Qi (po_X11_agreed g ad th L f ) (PstB g A) A) [.ref (ad 255)].toArray s rm_X11_agreed.cells rm_X11_agreed.slots A) (F0 m 10 ls []) := by
    intro k10
    induction k10 with
    | zero =>
      intro y10_l1 H locs ls hy10_l1 hP hD hS hl hmz10
      exact ms0d hy10_l1 hmz10
    | succ k10 ih10 =>
      intro y10_l1 H locs ls hy10_l1 hP hD hS hl hmz10
      refine lv_iload_n hx hb dX11_agreed_10 rfl (lv_at hl 1 rfl) ?_
      have hJ30 : ∀ (H : Heap) (locs : List Loc) (ls : Array Slot), va_P g.1 vwCl (va_pl L f3) H → va_D A (va_pl L f3) → va_S A s.heap H locs → lv_has ls 2 [(0, .ref (ad 255)), (1, .int y10_l1)] → W p l e rm_X11_agreed s m [.ref (ad 255)].toArray below meth c H locs 0 0 (MQ below (va_Qi (po_X11_agreed g ad th L f ) (PstB g A) A) [.ref (ad 255)].toArray s rm_X11_agreed.cells rm_X11_agreed.slots A) (F0 m 30 ls []) := by
        intro H locs ls hP hD hS hl
        refine lv_iload_n hx hb dX11_agreed_30 rfl (lv_at hl 1 rfl) ?_
        refine lv_aload_n hx hb dX11_agreed_31 rfl (lv_at hl 0 rfl) ?_
        refine call_i (run_V (rm := rm_X11_over) hx hb hml hown hts (s_X11_over l g ad th _ _ _  hst hT (show MI th from hM)) cV_X11_over wg_1769 ⟨Nat.le_of_ble_eq_true rfl, Nat.le_of_ble_eq_true rfl⟩ hG hE hA hP hD hS (hst.1 255 (by decide)) hf4 rfl rfl hl.1 (As := []) (rest := [.int y10_l1]) rfl (Nat.le_of_ble_eq_true rfl) dX11_agreed_32 ⟨Nat.le_of_ble_eq_true rfl, Nat.le_of_ble_eq_true rfl⟩) hA hD hS (fun r12 L13 f14 H locs hp15 hP hD hS => ?_)
        obtain ⟨eL16L, eL16T, eL16R, eL16X0⟩ := hp15
        have eL16L : L13 = L := eL16L
        have eL16T : f14 = f3 := eL16T
        rw [eL16L, eL16T] at hP hD
        have eL16R : In r12 0 6 := eL16R
        have hcl17 : r12.toInt = 0 ∨ th 15 = 1 := eL16X0
        refine lv_icmp_ge (tgt := 42) hx hb dX11_agreed_35 (by decide) (fun c18 => ?_) (fun c18 => ?_)
        ·
          have cc19 : r12.toInt ≤ y10_l1.toInt := i32_le.mp c18
          refine lv_iconst (v := (-1)) hx hb dX11_agreed_42 (by decide) ?_
          exact ret_i (ty := .int) hx hb hr hlocks (rfl) hP hD hS (Nat.le_of_ble_eq_true rfl) (Nat.le_of_ble_eq_true rfl) (⟨rfl, hT, hfr⟩) dX11_agreed_43
        ·
          have cc20 : y10_l1.toInt < r12.toInt := i32_nle c18
          have hb21 : In y10_l1 0 5 := In.lt1 hy10_l1 eL16R cc20 (by omega) (by omega)
          have hb22 : In r12 1 6 := In.lt2 hy10_l1 eL16R cc20 (by omega) (by omega)
          refine lv_iload_n hx hb dX11_agreed_38 rfl (lv_at hl 1 rfl) ?_
          refine lv_goto (tgt := 43) hx hb dX11_agreed_39 (by decide) ?_
          exact ret_i (ty := .int) hx hb hr hlocks (rfl) hP hD hS (Nat.le_of_ble_eq_true rfl) (Nat.le_of_ble_eq_true rfl) (⟨rfl, hT, hfr⟩) dX11_agreed_43
      refine lv_if_le (tgt := 30) hx hb dX11_agreed_11 (by decide) (fun c23 => ?_) (fun c23 => ?_)
      ·
        have oc0 : (0 : Int32).toInt = 0 := by decide
        have cc24 : y10_l1.toInt ≤ (0 : Int32).toInt := i32_le.mp c23
        have hb25 : In y10_l1 0 0 := In.le1 hy10_l1 (⟨by decide, by decide⟩ : In 0 0 0) cc24 (by omega) (by omega)
        exact hJ30 _ _ _ hP hD hS (lv_sub hl [0, 1] rfl)
      ·
        have oc0 : (0 : Int32).toInt = 0 := by decide
        have cc26 : (0 : Int32).toInt < y10_l1.toInt := i32_nle c23
        have hb27 : In y10_l1 1 6 := In.gt1 hy10_l1 (⟨by decide, by decide⟩ : In 0 0 0) cc26 (by omega) (by omega)
        refine lv_aload_n hx hb dX11_agreed_14 rfl (lv_at hl 0 rfl) ?_
        refine lv_iload_n hx hb dX11_agreed_15 rfl (lv_at hl 1 rfl) ?_
        refine lv_iconst (v := 1) hx hb dX11_agreed_16 (by decide) ?_
        refine lv_isub hx hb dX11_agreed_17 ?_
        refine lv_topi (fun x28 ex28 => ?_)
        have hb29 : In x28 0 5 := ex28 ▸ In.sub hb27 (⟨by decide, by decide⟩ : In 1 1 1) (by decide) (by decide) (by decide) (by decide)
        have et30 : x28.toInt = y10_l1.toInt + (-1) := In.sube ex28 hb27 (k := 1) (by decide) (by decide) (by decide)
        refine call_i (run_V (rm := rm_X11_areAgreedBehind) hx hb hml hown hts (s_X11_areAgreedBehind l g ad th _ _ _ x28 hst hT (In.mono hb29 (by decide) (by decide))) cV_X11_areAgreedBehind wg_1778 ⟨Nat.le_of_ble_eq_true rfl, Nat.le_of_ble_eq_true rfl⟩ hG hE hA hP hD hS (hst.1 255 (by decide)) hf4 rfl rfl hl.1 (As := [.int x28]) (rest := []) rfl (Nat.le_of_ble_eq_true rfl) dX11_agreed_18 ⟨Nat.le_of_ble_eq_true rfl, Nat.le_of_ble_eq_true rfl⟩) hA hD hS (fun r31 L32 f33 H locs hp34 hP hD hS => ?_)
        obtain ⟨eL35L, eL35T, eL35R⟩ := hp34
        have eL35L : L32 = L := eL35L
        have eL35T : f33 = f3 := eL35T
        rw [eL35L, eL35T] at hP hD
        have eL35R : In r31 0 1 := eL35R
        refine lv_if_eq (tgt := 30) hx hb dX11_agreed_21 (by decide) (fun c36 => ?_) (fun c36 => ?_)
        ·
          have oc0 : (0 : Int32).toInt = 0 := by decide
          have cc37 : r31.toInt = (0 : Int32).toInt := congrArg Int32.toInt c36
          have hb38 : In r31 0 0 := In.eq1 eL35R (⟨by decide, by decide⟩ : In 0 0 0) cc37 (by omega) (by omega)
          exact hJ30 _ _ _ hP hD hS (lv_sub hl [0, 1] rfl)
        ·
          have oc0 : (0 : Int32).toInt = 0 := by decide
          have cc39 : r31.toInt ≠ (0 : Int32).toInt := i32_ne c36
          have hb40 : In r31 1 1 := In.ne1 eL35R (⟨by decide, by decide⟩ : In 0 0 0) cc39 (by omega) (by omega)
          obtain ⟨x41, ex41⟩ : ∃ y : Int32, y = y10_l1 + (-1) := ⟨_, rfl⟩
          have hb42 : In x41 0 5 := ex41 ▸ In.add hb27 (⟨by decide, by decide⟩ : In (-1) (-1) (-1)) (by decide) (by decide) (by decide) (by decide)
          have et43 : x41.toInt = y10_l1.toInt + (-1) := In.adde ex41 hb27 (k := (-1)) (by decide) (by decide) (by decide)
          refine lv_iinc (v := x41) (lv' := [(1, .int x41), (0, .ref (ad 255))]) hx hb dX11_agreed_24 hl (k := 1) rfl (by rw [ex41]; rfl) (by decide) rfl (fun ls hl => ?_)
          refine lv_goto (tgt := 10) hx hb dX11_agreed_27 (by decide) ?_
          exact ih10 x41 _ _ _ (In.mono hb42 (by decide) (by decide)) hP hD hS (lv_sub hl [1, 0] rfl) (msd et43 (by decide) hmz10)
  exact hJ10 ((r6.toInt - 0).toNat + 1) r6 _ _ _ eL10R hP hD hS (lv_sub hl [1, 0] rfl) (msI _)

abbrev rm_X11_state : Room := { frames := 4, cells := 0, slots := 0, locals := 89 }
abbrev po_X11_state (g : GG) (ad : Nat → Nat) (th : Nat → Int) (L : List Nat) (f : HP) (z1 : Int32) : Int32 → (List Nat × HP) → Prop := fun r u => u.1 = L ∧ TI g ad th u.2 ∧ (∀ b, b ≠ (ad 255) → u.2 b = f b)
set_option maxHeartbeats 4000000 in
set_option maxRecDepth 100000 in
theorem s_X11_state (l : Launch) (g : GG) (ad : Nat → Nat) (th : Nat → Int) (L : List Nat) (f : HP) (sz : Nat) (z1 : Int32) (hst : ST ad L) (hT : TI g ad th f) (hM : MI th) : MtI l g yX11_state cX11_state 3 (some .int) rm_X11_state [.ref (ad 255), .int z1] L f sz (po_X11_state g ad th L f z1) := by
  refine MtI.of (by decide +kernel) (Nat.le_of_ble_eq_true rfl) ?_
  intro p e s m below meth c A hEn hP hD hS ls hl
  obtain ⟨hx, hb, hr, hml, hown, hlocks, hts, hG, hA, hE, hnm⟩ := hEn
  have hown : s.vm.findClass "RulerWordModel" = some m.cls := hown
  have hl : lv_has ls 3 [(0, .ref (ad 255)), (1, .int z1)] := hl
  have hfr : (∀ b, b ≠ (ad 255) → f b = f b) := fun b z0_ => rfl
  have hM0 := hM
  obtain ⟨m1, m2, m3, m4, m5, m6, m7, m8, m9, m10⟩ := hM0
  have m20 := mi20 m2 m3
  refine lv_aload_n hx hb dX11_state_0 rfl (lv_at hl 0 rfl) ?_
  refine lv_iconst (v := 0) hx hb dX11_state_1 (by decide) ?_
  refine M0e hT (fun v0_1 v2_1 v3_1 v4_1 v5_1 v6_1 v8_1 v9_1 v12_1 v13_1 v14_1 v15_1 v16_1 v17_1 v18_1 v19_1 v20_1 v21_1 v22_1 v23_1 v25_1 v36_1 v37_1 v38_1 v39_1 v40_1 v45_1 v46_1 v47_1 v48_1 v50_1 v51_1 v53_1 v55_1 hf2 hv0_1 hv2_1 hg2_1 hv3_1 hg3_1 hv4_1 hg4_1 hv5_1 hg5_1 hv6_1 hg6_1 hv8_1 hg8_1 hv9_1 hg9_1 hv12_1 hv13_1 hg13_1 hv14_1 hg14_1 hv15_1 hg15_1 hv17_1 hg17_1 hv20_1 hg20_1 hv23_1 hg23_1 hv25_1 hg25_1 hv36_1 hg36_1 hv47_1 hg47_1 hv48_1 hg48_1 hv53_1 hg53_1 hv55_1 hg55_1 hrel0_1 => ?_)
  refine pl_put (ty := .int) (v := .int 0) (fs' := [.int 0, .ref (ad 256), .int v2_1, .int v3_1, .int v4_1, .int v5_1, .int v6_1, .ref (ad 257), .int v8_1, .int v9_1, .ref (ad 258), .ref (ad 259), .int v12_1, .int v13_1, .int v14_1, .int v15_1, .int v16_1, .int v17_1, .int v18_1, .int v19_1, .int v20_1, .long v21_1, .long v22_1, .int v23_1, .ref (ad 260), .int v25_1, .ref (ad 261), .ref (ad 262), .ref (ad 263), .ref (ad 264), .ref (ad 265), .ref (ad 266), .ref (ad 267), .ref (ad 268), .ref (ad 269), .ref (ad 270), .int v36_1, .int v37_1, .int v38_1, .int v39_1, .int v40_1, .ref (ad 271), .ref (ad 272), .ref (ad 273), .ref (ad 274), .long v45_1, .long v46_1, .int v47_1, .int v48_1, .ref (ad 275), .int v50_1, .int v51_1, .ref (ad 276), .int v53_1, .ref (ad 277), .int v55_1]) hx hb hts (fun w h => mT (inX11 w h)) tyX11 tyX11_ok nmX11 hown hG.1 hP hD hS (hst.1 255 (by decide)) hf2 rfl 0 (by decide) (hts _ (mT wg_1336)) (fun _ h => h) rfl (by decide +kernel) (rfl) (rfl) (Nat.le_of_ble_eq_true rfl) rfl dX11_state_2 (fun H locs f3 hf4 ho5 hP hD hS => ?_)
  have hfr : (∀ b, b ≠ (ad 255) → f3 b = f b) := fun b z0_ => (ho5 b z0_).trans (hfr b z0_)
  refine lv_aload_n hx hb dX11_state_5 rfl (lv_at hl 0 rfl) ?_
  refine pl_get (v := .int v23_1) hx hb hts (fun w h => mT (inX11 w h)) hown hG.1 hP (hst.1 255 (by decide)) hf4 rfl 23 (by decide) (hts _ (mT wg_1359)) (fun _ h => h) rfl dX11_state_6 ?_
  have hT := TI.updM hT hst (k := 0) (by decide) hf4 ho5 ⟨0, v2_1, v3_1, v4_1, v5_1, v6_1, v8_1, v9_1, v12_1, v13_1, v14_1, v15_1, v16_1, v17_1, v18_1, v19_1, v20_1, v21_1, v22_1, v23_1, v25_1, v36_1, v37_1, v38_1, v39_1, v40_1, v45_1, v46_1, v47_1, v48_1, v50_1, v51_1, v53_1, v55_1, rfl, (⟨by decide, by decide⟩ : In 0 0 1), hv2_1, hg2_1, hv3_1, hg3_1, hv4_1, hg4_1, hv5_1, hg5_1, hv6_1, hg6_1, hv8_1, hg8_1, hv9_1, hg9_1, hv12_1, hv13_1, hg13_1, hv14_1, hg14_1, hv15_1, hg15_1, hv17_1, hg17_1, hv20_1, hg20_1, hv23_1, hg23_1, hv25_1, hg25_1, hv36_1, hg36_1, hv47_1, hg47_1, hv48_1, hg48_1, hv53_1, hg53_1, hv55_1, hg55_1, hrel0_1⟩
  refine lv_if_ne (tgt := 14) hx hb dX11_state_9 (by decide) (fun c6 => ?_) (fun c6 => ?_)
  ·
    have oc0 : (0 : Int32).toInt = 0 := by decide
    have cc7 : v23_1.toInt ≠ (0 : Int32).toInt := i32_ne c6
    have hb8 : In v23_1 1 1 := In.ne1 hv23_1 (⟨by decide, by decide⟩ : In 0 0 0) cc7 (by omega) (by omega)
    refine lv_aload_n hx hb dX11_state_14 rfl (lv_at hl 0 rfl) ?_
    refine call_i (run_V (rm := rm_X11_over) hx hb hml hown hts (s_X11_over l g ad th _ _ _  hst hT (show MI th from hM)) cV_X11_over wg_1769 ⟨Nat.le_of_ble_eq_true rfl, Nat.le_of_ble_eq_true rfl⟩ hG hE hA hP hD hS (hst.1 255 (by decide)) hf4 rfl rfl hl.1 (As := []) (rest := []) rfl (Nat.le_of_ble_eq_true rfl) dX11_state_15 ⟨Nat.le_of_ble_eq_true rfl, Nat.le_of_ble_eq_true rfl⟩) hA hD hS (fun r9 L10 f11 H locs hp12 hP hD hS => ?_)
    obtain ⟨eL13L, eL13T, eL13R, eL13X0⟩ := hp12
    have eL13L : L10 = L := eL13L
    have eL13T : f11 = f3 := eL13T
    rw [eL13L, eL13T] at hP hD
    have eL13R : In r9 0 6 := eL13R
    have hcl14 : r9.toInt = 0 ∨ th 15 = 1 := eL13X0
    refine lv_iconst (v := 1) hx hb dX11_state_18 (by decide) ?_
    refine lv_isub hx hb dX11_state_19 ?_
    refine lv_topi (fun x15 ex15 => ?_)
    have hb16 : In x15 (-1) 5 := ex15 ▸ In.sub eL13R (⟨by decide, by decide⟩ : In 1 1 1) (by decide) (by decide) (by decide) (by decide)
    have et17 : x15.toInt = r9.toInt + (-1) := In.sube ex15 eL13R (k := 1) (by decide) (by decide) (by decide)
    refine lv_istore_n (lv' := [(2, .int x15), (0, .ref (ad 255)), (1, .int z1)]) hx hb dX11_state_20 rfl hl (by decide) rfl (fun ls hl => ?_)
    refine lv_iload_n hx hb dX11_state_21 rfl (lv_at hl 2 rfl) ?_
    by_cases c18 : z1 = 0
    ·
      refine lv_tableIn (off := 30) (tgt := 52) hx hb dX11_state_22 (by rw [c18]; decide) (by rw [c18]; decide) (by rw [c18]; decide) (by decide) ?_
      have hb19 : In z1 0 0 := by rw [c18]; exact ⟨by decide, by decide⟩
      refine lv_aload_n hx hb dX11_state_52 rfl (lv_at hl 1 rfl) ?_
      refine lv_iload_n hx hb dX11_state_53 rfl (lv_at hl 0 rfl) ?_
      refine call_i (run_V (rm := rm_X11_areAgreedBehind) hx hb hml hown hts (s_X11_areAgreedBehind l g ad th _ _ _ x15 hst hT hb16) cV_X11_areAgreedBehind wg_1778 ⟨Nat.le_of_ble_eq_true rfl, Nat.le_of_ble_eq_true rfl⟩ hG hE hA hP hD hS (hst.1 255 (by decide)) hf4 rfl rfl hl.1 (As := [.int x15]) (rest := []) rfl (Nat.le_of_ble_eq_true rfl) dX11_state_54 ⟨Nat.le_of_ble_eq_true rfl, Nat.le_of_ble_eq_true rfl⟩) hA hD hS (fun r20 L21 f22 H locs hp23 hP hD hS => ?_)
      obtain ⟨eL24L, eL24T, eL24R⟩ := hp23
      have eL24L : L21 = L := eL24L
      have eL24T : f22 = f3 := eL24T
      rw [eL24L, eL24T] at hP hD
      have eL24R : In r20 0 1 := eL24R
      refine lv_if_eq (tgt := 64) hx hb dX11_state_57 (by decide) (fun c25 => ?_) (fun c25 => ?_)
      ·
        have oc0 : (0 : Int32).toInt = 0 := by decide
        have cc26 : r20.toInt = (0 : Int32).toInt := congrArg Int32.toInt c25
        have hb27 : In r20 0 0 := In.eq1 eL24R (⟨by decide, by decide⟩ : In 0 0 0) cc26 (by omega) (by omega)
        refine lv_iconst (v := 0) hx hb dX11_state_64 (by decide) ?_
        exact ret_i (ty := .int) hx hb hr hlocks (rfl) hP hD hS (Nat.le_of_ble_eq_true rfl) (Nat.le_of_ble_eq_true rfl) (⟨rfl, hT, hfr⟩) dX11_state_65
      ·
        have oc0 : (0 : Int32).toInt = 0 := by decide
        have cc28 : r20.toInt ≠ (0 : Int32).toInt := i32_ne c25
        have hb29 : In r20 1 1 := In.ne1 eL24R (⟨by decide, by decide⟩ : In 0 0 0) cc28 (by omega) (by omega)
        refine lv_iconst (v := 1) hx hb dX11_state_60 (by decide) ?_
        refine lv_goto (tgt := 65) hx hb dX11_state_61 (by decide) ?_
        exact ret_i (ty := .int) hx hb hr hlocks (rfl) hP hD hS (Nat.le_of_ble_eq_true rfl) (Nat.le_of_ble_eq_true rfl) (⟨rfl, hT, hfr⟩) dX11_state_65
    by_cases c30 : z1 = 1
    ·
      refine lv_tableIn (off := 44) (tgt := 66) hx hb dX11_state_22 (by rw [c30]; decide) (by rw [c30]; decide) (by rw [c30]; decide) (by decide) ?_
      have hb31 : In z1 1 1 := by rw [c30]; exact ⟨by decide, by decide⟩
      refine lv_aload_n hx hb dX11_state_66 rfl (lv_at hl 1 rfl) ?_
      refine lv_iload_n hx hb dX11_state_67 rfl (lv_at hl 0 rfl) ?_
      refine call_i (run_V (rm := rm_X11_trueOnes) hx hb hml hown hts (s_X11_trueOnes l g ad th _ _ _ x15 hst hT hb16) cV_X11_trueOnes wg_1794 ⟨Nat.le_of_ble_eq_true rfl, Nat.le_of_ble_eq_true rfl⟩ hG hE hA hP hD hS (hst.1 255 (by decide)) hf4 rfl rfl hl.1 (As := [.int x15]) (rest := []) rfl (Nat.le_of_ble_eq_true rfl) dX11_state_68 ⟨Nat.le_of_ble_eq_true rfl, Nat.le_of_ble_eq_true rfl⟩) hA hD hS (fun r32 L33 f34 H locs hp35 hP hD hS => ?_)
      obtain ⟨eL36L, eL36T⟩ := hp35
      have eL36L : L33 = L := eL36L
      have eL36T : f34 = f3 := eL36T
      rw [eL36L, eL36T] at hP hD
      exact ret_i (ty := .int) hx hb hr hlocks (rfl) hP hD hS (Nat.le_of_ble_eq_true rfl) (Nat.le_of_ble_eq_true rfl) (⟨rfl, hT, hfr⟩) dX11_state_71
    by_cases c37 : z1 = 2
    ·
      refine lv_tableIn (off := 50) (tgt := 72) hx hb dX11_state_22 (by rw [c37]; decide) (by rw [c37]; decide) (by rw [c37]; decide) (by decide) ?_
      have hb38 : In z1 2 2 := by rw [c37]; exact ⟨by decide, by decide⟩
      refine lv_aload_n hx hb dX11_state_72 rfl (lv_at hl 1 rfl) ?_
      refine lv_iload_n hx hb dX11_state_73 rfl (lv_at hl 0 rfl) ?_
      refine call_i (run_V (rm := rm_X11_areAgreedBehind) hx hb hml hown hts (s_X11_areAgreedBehind l g ad th _ _ _ x15 hst hT hb16) cV_X11_areAgreedBehind wg_1778 ⟨Nat.le_of_ble_eq_true rfl, Nat.le_of_ble_eq_true rfl⟩ hG hE hA hP hD hS (hst.1 255 (by decide)) hf4 rfl rfl hl.1 (As := [.int x15]) (rest := []) rfl (Nat.le_of_ble_eq_true rfl) dX11_state_74 ⟨Nat.le_of_ble_eq_true rfl, Nat.le_of_ble_eq_true rfl⟩) hA hD hS (fun r39 L40 f41 H locs hp42 hP hD hS => ?_)
      obtain ⟨eL43L, eL43T, eL43R⟩ := hp42
      have eL43L : L40 = L := eL43L
      have eL43T : f41 = f3 := eL43T
      rw [eL43L, eL43T] at hP hD
      have eL43R : In r39 0 1 := eL43R
      have hJ92 : ∀ (H : Heap) (locs : List Loc) (ls : Array Slot), va_P g.1 vwCl (va_pl L f3) H → va_D A (va_pl L f3) → va_S A s.heap H locs → lv_has ls 3 [(0, .ref (ad 255)), (1, .int z1), (2, .int x15)] → W p l e rm_X11_state s m [.ref (ad 255), .int z1].toArray below meth c H locs 0 0 (MQ below (va_Qi (po_X11_state g ad th L f z1) (PstB g A) A) [.ref (ad 255), .int z1].toArray s rm_X11_state.cells rm_X11_state.slots A) (F0 m 92 ls []) := by
        intro H locs ls hP hD hS hl
        refine lv_iconst (v := 0) hx hb dX11_state_92 (by decide) ?_
        exact ret_i (ty := .int) hx hb hr hlocks (rfl) hP hD hS (Nat.le_of_ble_eq_true rfl) (Nat.le_of_ble_eq_true rfl) (⟨rfl, hT, hfr⟩) dX11_state_93
      refine lv_if_eq (tgt := 92) hx hb dX11_state_77 (by decide) (fun c44 => ?_) (fun c44 => ?_)
      ·
        have oc0 : (0 : Int32).toInt = 0 := by decide
        have cc45 : r39.toInt = (0 : Int32).toInt := congrArg Int32.toInt c44
        have hb46 : In r39 0 0 := In.eq1 eL43R (⟨by decide, by decide⟩ : In 0 0 0) cc45 (by omega) (by omega)
        exact hJ92 _ _ _ hP hD hS (lv_sub hl [1, 2, 0] rfl)
      ·
        have oc0 : (0 : Int32).toInt = 0 := by decide
        have cc47 : r39.toInt ≠ (0 : Int32).toInt := i32_ne c44
        have hb48 : In r39 1 1 := In.ne1 eL43R (⟨by decide, by decide⟩ : In 0 0 0) cc47 (by omega) (by omega)
        refine lv_aload_n hx hb dX11_state_80 rfl (lv_at hl 1 rfl) ?_
        refine lv_iload_n hx hb dX11_state_81 rfl (lv_at hl 0 rfl) ?_
        refine call_i (run_V (rm := rm_X11_isSomeStart) hx hb hml hown hts (s_X11_isSomeStart l g ad th _ _ _ x15 hst hT hb16) cV_X11_isSomeStart wg_1798 ⟨Nat.le_of_ble_eq_true rfl, Nat.le_of_ble_eq_true rfl⟩ hG hE hA hP hD hS (hst.1 255 (by decide)) hf4 rfl rfl hl.1 (As := [.int x15]) (rest := []) rfl (Nat.le_of_ble_eq_true rfl) dX11_state_82 ⟨Nat.le_of_ble_eq_true rfl, Nat.le_of_ble_eq_true rfl⟩) hA hD hS (fun r49 L50 f51 H locs hp52 hP hD hS => ?_)
        obtain ⟨eL53L, eL53T, eL53R⟩ := hp52
        have eL53L : L50 = L := eL53L
        have eL53T : f51 = f3 := eL53T
        rw [eL53L, eL53T] at hP hD
        have eL53R : In r49 0 1 := eL53R
        refine lv_if_eq (tgt := 92) hx hb dX11_state_85 (by decide) (fun c54 => ?_) (fun c54 => ?_)
        ·
          have oc0 : (0 : Int32).toInt = 0 := by decide
          have cc55 : r49.toInt = (0 : Int32).toInt := congrArg Int32.toInt c54
          have hb56 : In r49 0 0 := In.eq1 eL53R (⟨by decide, by decide⟩ : In 0 0 0) cc55 (by omega) (by omega)
          exact hJ92 _ _ _ hP hD hS (lv_sub hl [1, 2, 0] rfl)
        ·
          have oc0 : (0 : Int32).toInt = 0 := by decide
          have cc57 : r49.toInt ≠ (0 : Int32).toInt := i32_ne c54
          have hb58 : In r49 1 1 := In.ne1 eL53R (⟨by decide, by decide⟩ : In 0 0 0) cc57 (by omega) (by omega)
          refine lv_iconst (v := 1) hx hb dX11_state_88 (by decide) ?_
          refine lv_goto (tgt := 93) hx hb dX11_state_89 (by decide) ?_
          exact ret_i (ty := .int) hx hb hr hlocks (rfl) hP hD hS (Nat.le_of_ble_eq_true rfl) (Nat.le_of_ble_eq_true rfl) (⟨rfl, hT, hfr⟩) dX11_state_93
    by_cases c59 : z1 = 3
    ·
      refine lv_tableIn (off := 72) (tgt := 94) hx hb dX11_state_22 (by rw [c59]; decide) (by rw [c59]; decide) (by rw [c59]; decide) (by decide) ?_
      have hb60 : In z1 3 3 := by rw [c59]; exact ⟨by decide, by decide⟩
      refine lv_aload_n hx hb dX11_state_94 rfl (lv_at hl 1 rfl) ?_
      refine lv_iconst (v := (-1)) hx hb dX11_state_95 (by decide) ?_
      refine call_i (run_V (rm := rm_X11_areAgreedBehind) hx hb hml hown hts (s_X11_areAgreedBehind l g ad th _ _ _ (-1) hst hT (⟨by decide, by decide⟩ : In (-1) (-1) 5)) cV_X11_areAgreedBehind wg_1778 ⟨Nat.le_of_ble_eq_true rfl, Nat.le_of_ble_eq_true rfl⟩ hG hE hA hP hD hS (hst.1 255 (by decide)) hf4 rfl rfl hl.1 (As := [.int (-1)]) (rest := []) rfl (Nat.le_of_ble_eq_true rfl) dX11_state_96 ⟨Nat.le_of_ble_eq_true rfl, Nat.le_of_ble_eq_true rfl⟩) hA hD hS (fun r61 L62 f63 H locs hp64 hP hD hS => ?_)
      obtain ⟨eL65L, eL65T, eL65R⟩ := hp64
      have eL65L : L62 = L := eL65L
      have eL65T : f63 = f3 := eL65T
      rw [eL65L, eL65T] at hP hD
      have eL65R : In r61 0 1 := eL65R
      refine lv_if_eq (tgt := 106) hx hb dX11_state_99 (by decide) (fun c66 => ?_) (fun c66 => ?_)
      ·
        have oc0 : (0 : Int32).toInt = 0 := by decide
        have cc67 : r61.toInt = (0 : Int32).toInt := congrArg Int32.toInt c66
        have hb68 : In r61 0 0 := In.eq1 eL65R (⟨by decide, by decide⟩ : In 0 0 0) cc67 (by omega) (by omega)
        refine lv_iconst (v := 0) hx hb dX11_state_106 (by decide) ?_
        exact ret_i (ty := .int) hx hb hr hlocks (rfl) hP hD hS (Nat.le_of_ble_eq_true rfl) (Nat.le_of_ble_eq_true rfl) (⟨rfl, hT, hfr⟩) dX11_state_107
      ·
        have oc0 : (0 : Int32).toInt = 0 := by decide
        have cc69 : r61.toInt ≠ (0 : Int32).toInt := i32_ne c66
        have hb70 : In r61 1 1 := In.ne1 eL65R (⟨by decide, by decide⟩ : In 0 0 0) cc69 (by omega) (by omega)
        refine lv_iconst (v := 1) hx hb dX11_state_102 (by decide) ?_
        refine lv_goto (tgt := 107) hx hb dX11_state_103 (by decide) ?_
        exact ret_i (ty := .int) hx hb hr hlocks (rfl) hP hD hS (Nat.le_of_ble_eq_true rfl) (Nat.le_of_ble_eq_true rfl) (⟨rfl, hT, hfr⟩) dX11_state_107
    refine lv_tableOut (tgt := 108) hx hb dX11_state_22 (tb_out (by decide) (by decide) (fun k h1 h2 => ?_)) (by decide) ?_
    · rcases (show k = 0 ∨ k = 1 ∨ k = 2 ∨ k = 3 by omega) with rfl | rfl | rfl | rfl
      · exact fun e => c18 (e.trans (by decide))
      · exact fun e => c30 (e.trans (by decide))
      · exact fun e => c37 (e.trans (by decide))
      · exact fun e => c59 (e.trans (by decide))
    ·
      have csc18 : z1.toInt ≠ 0 := fun e => i32_ne c18 (e.trans (by decide))
      have csc30 : z1.toInt ≠ 1 := fun e => i32_ne c30 (e.trans (by decide))
      have csc37 : z1.toInt ≠ 2 := fun e => i32_ne c37 (e.trans (by decide))
      have csc59 : z1.toInt ≠ 3 := fun e => i32_ne c59 (e.trans (by decide))
      refine lv_iconst (v := (-1)) hx hb dX11_state_108 (by decide) ?_
      exact ret_i (ty := .int) hx hb hr hlocks (rfl) hP hD hS (Nat.le_of_ble_eq_true rfl) (Nat.le_of_ble_eq_true rfl) (⟨rfl, hT, hfr⟩) dX11_state_109
  ·
    have oc0 : (0 : Int32).toInt = 0 := by decide
    have cc71 : v23_1.toInt = (0 : Int32).toInt := congrArg Int32.toInt c6
    have hb72 : In v23_1 0 0 := In.eq1 hv23_1 (⟨by decide, by decide⟩ : In 0 0 0) cc71 (by omega) (by omega)
    refine lv_iconst (v := (-1)) hx hb dX11_state_12 (by decide) ?_
    exact ret_i (ty := .int) hx hb hr hlocks (rfl) hP hD hS (Nat.le_of_ble_eq_true rfl) (Nat.le_of_ble_eq_true rfl) (⟨rfl, hT, hfr⟩) dX11_state_13

abbrev rm_X11_foretold : Room := { frames := 0, cells := 0, slots := 0, locals := 0 }
abbrev po_X11_foretold (g : GG) (ad : Nat → Nat) (th : Nat → Int) (L : List Nat) (f : HP) (z1 : Int32) : Int32 → (List Nat × HP) → Prop := fun _ u => u.1 = L ∧ u.2 = f
set_option maxHeartbeats 4000000 in
set_option maxRecDepth 100000 in
theorem s_X11_foretold (l : Launch) (g : GG) (ad : Nat → Nat) (th : Nat → Int) (L : List Nat) (f : HP) (sz : Nat) (z1 : Int32) (hst : ST ad L) (hT : TI g ad th f)  : MtI l g yX11_foretold cX11_foretold 2 (some .int) rm_X11_foretold [.ref (ad 255), .int z1] L f sz (po_X11_foretold g ad th L f z1) := by
  refine MtI.of (by decide +kernel) (Nat.le_of_ble_eq_true rfl) ?_
  intro p e s m below meth c A hEn hP hD hS ls hl
  obtain ⟨hx, hb, hr, hml, hown, hlocks, hts, hG, hA, hE, hnm⟩ := hEn
  have hown : s.vm.findClass "RulerWordModel" = some m.cls := hown
  have hl : lv_has ls 2 [(0, .ref (ad 255)), (1, .int z1)] := hl
  refine lv_iload_n hx hb dX11_foretold_0 rfl (lv_at hl 1 rfl) ?_
  refine lv_if_ne (tgt := 30) hx hb dX11_foretold_1 (by decide) (fun c1 => ?_) (fun c1 => ?_)
  ·
    refine lv_aload_n hx hb dX11_foretold_30 rfl (lv_at hl 0 rfl) ?_
    refine M0e hT (fun v0_2 v2_2 v3_2 v4_2 v5_2 v6_2 v8_2 v9_2 v12_2 v13_2 v14_2 v15_2 v16_2 v17_2 v18_2 v19_2 v20_2 v21_2 v22_2 v23_2 v25_2 v36_2 v37_2 v38_2 v39_2 v40_2 v45_2 v46_2 v47_2 v48_2 v50_2 v51_2 v53_2 v55_2 hf3 hv0_2 hv2_2 hg2_2 hv3_2 hg3_2 hv4_2 hg4_2 hv5_2 hg5_2 hv6_2 hg6_2 hv8_2 hg8_2 hv9_2 hg9_2 hv12_2 hv13_2 hg13_2 hv14_2 hg14_2 hv15_2 hg15_2 hv17_2 hg17_2 hv20_2 hg20_2 hv23_2 hg23_2 hv25_2 hg25_2 hv36_2 hg36_2 hv47_2 hg47_2 hv48_2 hg48_2 hv53_2 hg53_2 hv55_2 hg55_2 hrel0_2 => ?_)
    refine pl_get (v := .int v17_2) hx hb hts (fun w h => mT (inX11 w h)) hown hG.1 hP (hst.1 255 (by decide)) hf3 rfl 17 (by decide) (hts _ (mT wg_1353)) (fun _ h => h) rfl dX11_foretold_31 ?_
    refine lv_aload_n hx hb dX11_foretold_34 rfl (lv_at hl 0 rfl) ?_
    refine pl_get (v := .int v15_2) hx hb hts (fun w h => mT (inX11 w h)) hown hG.1 hP (hst.1 255 (by decide)) hf3 rfl 15 (by decide) (hts _ (mT wg_1351)) (fun _ h => h) rfl dX11_foretold_35 ?_
    refine lv_aload_n hx hb dX11_foretold_38 rfl (lv_at hl 0 rfl) ?_
    refine pl_get (v := .int v15_2) hx hb hts (fun w h => mT (inX11 w h)) hown hG.1 hP (hst.1 255 (by decide)) hf3 rfl 15 (by decide) (hts _ (mT wg_1351)) (fun _ h => h) rfl dX11_foretold_39 ?_
    refine lv_imul hx hb dX11_foretold_42 ?_
    refine lv_topi (fun x4 ex4 => ?_)
    have hb5 : In x4 0 81 := ex4 ▸ In.mul hv15_2 hv15_2 (by decide) (by decide) (by decide) (by decide) (by decide)
    refine lv_iconst (v := 1) hx hb dX11_foretold_43 (by decide) ?_
    refine lv_isub hx hb dX11_foretold_44 ?_
    refine lv_topi (fun x6 ex6 => ?_)
    have hb7 : In x6 (-1) 80 := ex6 ▸ In.sub hb5 (⟨by decide, by decide⟩ : In 1 1 1) (by decide) (by decide) (by decide) (by decide)
    have et8 : x6.toInt = x4.toInt + (-1) := In.sube ex6 hb5 (k := 1) (by decide) (by decide) (by decide)
    refine lv_imul hx hb dX11_foretold_45 ?_
    refine lv_topi (fun x9 ex9 => ?_)
    exact ret_i (ty := .int) hx hb hr hlocks (rfl) hP hD hS (Nat.le_of_ble_eq_true rfl) (Nat.le_of_ble_eq_true rfl) (⟨rfl, rfl⟩) dX11_foretold_46
  ·
    have cc10 : z1.toInt = (0 : Int32).toInt := congrArg Int32.toInt c1
    have hb11 : In z1 0 0 := In.eq1 (In.full z1) (⟨by decide, by decide⟩ : In 0 0 0) cc10 (by omega) (by omega)
    refine lv_aload_n hx hb dX11_foretold_4 rfl (lv_at hl 0 rfl) ?_
    refine M0e hT (fun v0_12 v2_12 v3_12 v4_12 v5_12 v6_12 v8_12 v9_12 v12_12 v13_12 v14_12 v15_12 v16_12 v17_12 v18_12 v19_12 v20_12 v21_12 v22_12 v23_12 v25_12 v36_12 v37_12 v38_12 v39_12 v40_12 v45_12 v46_12 v47_12 v48_12 v50_12 v51_12 v53_12 v55_12 hf13 hv0_12 hv2_12 hg2_12 hv3_12 hg3_12 hv4_12 hg4_12 hv5_12 hg5_12 hv6_12 hg6_12 hv8_12 hg8_12 hv9_12 hg9_12 hv12_12 hv13_12 hg13_12 hv14_12 hg14_12 hv15_12 hg15_12 hv17_12 hg17_12 hv20_12 hg20_12 hv23_12 hg23_12 hv25_12 hg25_12 hv36_12 hg36_12 hv47_12 hg47_12 hv48_12 hg48_12 hv53_12 hg53_12 hv55_12 hg55_12 hrel0_12 => ?_)
    refine pl_get (v := .int v17_12) hx hb hts (fun w h => mT (inX11 w h)) hown hG.1 hP (hst.1 255 (by decide)) hf13 rfl 17 (by decide) (hts _ (mT wg_1353)) (fun _ h => h) rfl dX11_foretold_5 ?_
    refine lv_iconst (v := 2) hx hb dX11_foretold_8 (by decide) ?_
    refine lv_aload_n hx hb dX11_foretold_9 rfl (lv_at hl 0 rfl) ?_
    refine pl_get (v := .int v15_12) hx hb hts (fun w h => mT (inX11 w h)) hown hG.1 hP (hst.1 255 (by decide)) hf13 rfl 15 (by decide) (hts _ (mT wg_1351)) (fun _ h => h) rfl dX11_foretold_10 ?_
    refine lv_imul hx hb dX11_foretold_13 ?_
    refine lv_topi (fun x14 ex14 => ?_)
    have hb15 : In x14 0 18 := ex14 ▸ In.mul (⟨by decide, by decide⟩ : In 2 2 2) hv15_12 (by decide) (by decide) (by decide) (by decide) (by decide)
    refine lv_aload_n hx hb dX11_foretold_14 rfl (lv_at hl 0 rfl) ?_
    refine pl_get (v := .int v15_12) hx hb hts (fun w h => mT (inX11 w h)) hown hG.1 hP (hst.1 255 (by decide)) hf13 rfl 15 (by decide) (hts _ (mT wg_1351)) (fun _ h => h) rfl dX11_foretold_15 ?_
    refine lv_imul hx hb dX11_foretold_18 ?_
    refine lv_topi (fun x16 ex16 => ?_)
    have hb17 : In x16 0 162 := ex16 ▸ In.mul hb15 hv15_12 (by decide) (by decide) (by decide) (by decide) (by decide)
    refine lv_aload_n hx hb dX11_foretold_19 rfl (lv_at hl 0 rfl) ?_
    refine pl_get (v := .int v15_12) hx hb hts (fun w h => mT (inX11 w h)) hown hG.1 hP (hst.1 255 (by decide)) hf13 rfl 15 (by decide) (hts _ (mT wg_1351)) (fun _ h => h) rfl dX11_foretold_20 ?_
    refine lv_isub hx hb dX11_foretold_23 ?_
    refine lv_topi (fun x18 ex18 => ?_)
    have hb19 : In x18 (-9) 162 := ex18 ▸ In.sub hb17 hv15_12 (by decide) (by decide) (by decide) (by decide)
    have et20 : x18.toInt = x16.toInt - v15_12.toInt := In.sub2e ex18 hb17 hv15_12 (by decide) (by decide)
    refine lv_iconst (v := 1) hx hb dX11_foretold_24 (by decide) ?_
    refine lv_isub hx hb dX11_foretold_25 ?_
    refine lv_topi (fun x21 ex21 => ?_)
    have hb22 : In x21 (-10) 161 := ex21 ▸ In.sub hb19 (⟨by decide, by decide⟩ : In 1 1 1) (by decide) (by decide) (by decide) (by decide)
    have et23 : x21.toInt = x18.toInt + (-1) := In.sube ex21 hb19 (k := 1) (by decide) (by decide) (by decide)
    refine lv_imul hx hb dX11_foretold_26 ?_
    refine lv_topi (fun x24 ex24 => ?_)
    refine lv_goto (tgt := 46) hx hb dX11_foretold_27 (by decide) ?_
    exact ret_i (ty := .int) hx hb hr hlocks (rfl) hP hD hS (Nat.le_of_ble_eq_true rfl) (Nat.le_of_ble_eq_true rfl) (⟨rfl, rfl⟩) dX11_foretold_46

abbrev rm_X11_letters : Room := { frames := 2, cells := 0, slots := 0, locals := 40 }
abbrev po_X11_letters (g : GG) (ad : Nat → Nat) (th : Nat → Int) (L : List Nat) (f : HP) (z1 : Int32) : Int32 → (List Nat × HP) → Prop := fun r u => u.1 = L ∧ TI g ad th u.2 ∧ (∀ b, b ≠ (ad 255) → u.2 b = f b)
set_option maxHeartbeats 4000000 in
set_option maxRecDepth 100000 in
theorem s_X11_letters (l : Launch) (g : GG) (ad : Nat → Nat) (th : Nat → Int) (L : List Nat) (f : HP) (sz : Nat) (z1 : Int32) (hst : ST ad L) (hT : TI g ad th f) (hM : MI th) : MtI l g yX11_letters cX11_letters 2 (some .int) rm_X11_letters [.ref (ad 255), .int z1] L f sz (po_X11_letters g ad th L f z1) := by
  refine MtI.of (by decide +kernel) (Nat.le_of_ble_eq_true rfl) ?_
  intro p e s m below meth c A hEn hP hD hS ls hl
  obtain ⟨hx, hb, hr, hml, hown, hlocks, hts, hG, hA, hE, hnm⟩ := hEn
  have hown : s.vm.findClass "RulerWordModel" = some m.cls := hown
  have hl : lv_has ls 2 [(0, .ref (ad 255)), (1, .int z1)] := hl
  have hfr : (∀ b, b ≠ (ad 255) → f b = f b) := fun b z0_ => rfl
  have hM0 := hM
  obtain ⟨m1, m2, m3, m4, m5, m6, m7, m8, m9, m10⟩ := hM0
  have m20 := mi20 m2 m3
  refine lv_aload_n hx hb dX11_letters_0 rfl (lv_at hl 0 rfl) ?_
  refine lv_iconst (v := 0) hx hb dX11_letters_1 (by decide) ?_
  refine M0e hT (fun v0_1 v2_1 v3_1 v4_1 v5_1 v6_1 v8_1 v9_1 v12_1 v13_1 v14_1 v15_1 v16_1 v17_1 v18_1 v19_1 v20_1 v21_1 v22_1 v23_1 v25_1 v36_1 v37_1 v38_1 v39_1 v40_1 v45_1 v46_1 v47_1 v48_1 v50_1 v51_1 v53_1 v55_1 hf2 hv0_1 hv2_1 hg2_1 hv3_1 hg3_1 hv4_1 hg4_1 hv5_1 hg5_1 hv6_1 hg6_1 hv8_1 hg8_1 hv9_1 hg9_1 hv12_1 hv13_1 hg13_1 hv14_1 hg14_1 hv15_1 hg15_1 hv17_1 hg17_1 hv20_1 hg20_1 hv23_1 hg23_1 hv25_1 hg25_1 hv36_1 hg36_1 hv47_1 hg47_1 hv48_1 hg48_1 hv53_1 hg53_1 hv55_1 hg55_1 hrel0_1 => ?_)
  refine pl_put (ty := .int) (v := .int 0) (fs' := [.int 0, .ref (ad 256), .int v2_1, .int v3_1, .int v4_1, .int v5_1, .int v6_1, .ref (ad 257), .int v8_1, .int v9_1, .ref (ad 258), .ref (ad 259), .int v12_1, .int v13_1, .int v14_1, .int v15_1, .int v16_1, .int v17_1, .int v18_1, .int v19_1, .int v20_1, .long v21_1, .long v22_1, .int v23_1, .ref (ad 260), .int v25_1, .ref (ad 261), .ref (ad 262), .ref (ad 263), .ref (ad 264), .ref (ad 265), .ref (ad 266), .ref (ad 267), .ref (ad 268), .ref (ad 269), .ref (ad 270), .int v36_1, .int v37_1, .int v38_1, .int v39_1, .int v40_1, .ref (ad 271), .ref (ad 272), .ref (ad 273), .ref (ad 274), .long v45_1, .long v46_1, .int v47_1, .int v48_1, .ref (ad 275), .int v50_1, .int v51_1, .ref (ad 276), .int v53_1, .ref (ad 277), .int v55_1]) hx hb hts (fun w h => mT (inX11 w h)) tyX11 tyX11_ok nmX11 hown hG.1 hP hD hS (hst.1 255 (by decide)) hf2 rfl 0 (by decide) (hts _ (mT wg_1336)) (fun _ h => h) rfl (by decide +kernel) (rfl) (rfl) (Nat.le_of_ble_eq_true rfl) rfl dX11_letters_2 (fun H locs f3 hf4 ho5 hP hD hS => ?_)
  have hfr : (∀ b, b ≠ (ad 255) → f3 b = f b) := fun b z0_ => (ho5 b z0_).trans (hfr b z0_)
  refine lv_aload_n hx hb dX11_letters_5 rfl (lv_at hl 0 rfl) ?_
  refine pl_get (v := .int v23_1) hx hb hts (fun w h => mT (inX11 w h)) hown hG.1 hP (hst.1 255 (by decide)) hf4 rfl 23 (by decide) (hts _ (mT wg_1359)) (fun _ h => h) rfl dX11_letters_6 ?_
  have hT := TI.updM hT hst (k := 0) (by decide) hf4 ho5 ⟨0, v2_1, v3_1, v4_1, v5_1, v6_1, v8_1, v9_1, v12_1, v13_1, v14_1, v15_1, v16_1, v17_1, v18_1, v19_1, v20_1, v21_1, v22_1, v23_1, v25_1, v36_1, v37_1, v38_1, v39_1, v40_1, v45_1, v46_1, v47_1, v48_1, v50_1, v51_1, v53_1, v55_1, rfl, (⟨by decide, by decide⟩ : In 0 0 1), hv2_1, hg2_1, hv3_1, hg3_1, hv4_1, hg4_1, hv5_1, hg5_1, hv6_1, hg6_1, hv8_1, hg8_1, hv9_1, hg9_1, hv12_1, hv13_1, hg13_1, hv14_1, hg14_1, hv15_1, hg15_1, hv17_1, hg17_1, hv20_1, hg20_1, hv23_1, hg23_1, hv25_1, hg25_1, hv36_1, hg36_1, hv47_1, hg47_1, hv48_1, hg48_1, hv53_1, hg53_1, hv55_1, hg55_1, hrel0_1⟩
  refine lv_if_ne (tgt := 14) hx hb dX11_letters_9 (by decide) (fun c6 => ?_) (fun c6 => ?_)
  ·
    have oc0 : (0 : Int32).toInt = 0 := by decide
    have cc7 : v23_1.toInt ≠ (0 : Int32).toInt := i32_ne c6
    have hb8 : In v23_1 1 1 := In.ne1 hv23_1 (⟨by decide, by decide⟩ : In 0 0 0) cc7 (by omega) (by omega)
    refine lv_iload_n hx hb dX11_letters_14 rfl (lv_at hl 1 rfl) ?_
    by_cases c9 : z1 = 0
    ·
      refine lv_tableIn (off := 29) (tgt := 44) hx hb dX11_letters_15 (by rw [c9]; decide) (by rw [c9]; decide) (by rw [c9]; decide) (by decide) ?_
      have hb10 : In z1 0 0 := by rw [c9]; exact ⟨by decide, by decide⟩
      refine lv_aload_n hx hb dX11_letters_44 rfl (lv_at hl 0 rfl) ?_
      refine pl_get (v := .ref (ad 271)) hx hb hts (fun w h => mT (inX11 w h)) hown hG.1 hP (hst.1 255 (by decide)) hf4 rfl 41 (by decide) (hts _ (mT wg_1377)) (fun _ h => h) rfl dX11_letters_45 ?_
      refine lv_bipush (v := 73) hx hb dX11_letters_48 (by decide) ?_
      obtain ⟨rw11, hf12, hpi14, hc13⟩ := hT.2.2 16 (by decide)
      have hc13 : PRW 2126 (th 22) (th 20) (th 21) rw11 := hc13
      have hpi14 : ((72 : Int) < (th 22) → (rw11 72).toInt = th 19) := hpi14
      have hin15 : vp_in 73 2126 := In.inb (⟨by decide, by decide⟩ : In 73 73 73) (by decide) (by decide)
      refine pl_iald hx hb hG.1 hP (hst.1 271 (by decide)) 0 hf12 rfl hin15 dX11_letters_50 ?_
      refine lv_topi (fun x16 ex16 => ?_)
      exact ret_i (ty := .int) hx hb hr hlocks (rfl) hP hD hS (Nat.le_of_ble_eq_true rfl) (Nat.le_of_ble_eq_true rfl) (⟨rfl, hT, hfr⟩) dX11_letters_51
    by_cases c17 : z1 = 1
    ·
      refine lv_tableIn (off := 37) (tgt := 52) hx hb dX11_letters_15 (by rw [c17]; decide) (by rw [c17]; decide) (by rw [c17]; decide) (by decide) ?_
      have hb18 : In z1 1 1 := by rw [c17]; exact ⟨by decide, by decide⟩
      refine lv_aload_n hx hb dX11_letters_52 rfl (lv_at hl 0 rfl) ?_
      refine pl_get (v := .ref (ad 271)) hx hb hts (fun w h => mT (inX11 w h)) hown hG.1 hP (hst.1 255 (by decide)) hf4 rfl 41 (by decide) (hts _ (mT wg_1377)) (fun _ h => h) rfl dX11_letters_53 ?_
      refine lv_bipush (v := 74) hx hb dX11_letters_56 (by decide) ?_
      obtain ⟨rw19, hf20, hpi22, hc21⟩ := hT.2.2 16 (by decide)
      have hc21 : PRW 2126 (th 22) (th 20) (th 21) rw19 := hc21
      have hpi22 : ((72 : Int) < (th 22) → (rw19 72).toInt = th 19) := hpi22
      have hin23 : vp_in 74 2126 := In.inb (⟨by decide, by decide⟩ : In 74 74 74) (by decide) (by decide)
      refine pl_iald hx hb hG.1 hP (hst.1 271 (by decide)) 0 hf20 rfl hin23 dX11_letters_58 ?_
      refine lv_topi (fun x24 ex24 => ?_)
      exact ret_i (ty := .int) hx hb hr hlocks (rfl) hP hD hS (Nat.le_of_ble_eq_true rfl) (Nat.le_of_ble_eq_true rfl) (⟨rfl, hT, hfr⟩) dX11_letters_59
    by_cases c25 : z1 = 2
    ·
      refine lv_tableIn (off := 45) (tgt := 60) hx hb dX11_letters_15 (by rw [c25]; decide) (by rw [c25]; decide) (by rw [c25]; decide) (by decide) ?_
      have hb26 : In z1 2 2 := by rw [c25]; exact ⟨by decide, by decide⟩
      refine lv_aload_n hx hb dX11_letters_60 rfl (lv_at hl 0 rfl) ?_
      refine lv_aload_n hx hb dX11_letters_61 rfl (lv_at hl 0 rfl) ?_
      refine pl_get (v := .int v14_1) hx hb hts (fun w h => mT (inX11 w h)) hown hG.1 hP (hst.1 255 (by decide)) hf4 rfl 14 (by decide) (hts _ (mT wg_1350)) (fun _ h => h) rfl dX11_letters_62 ?_
      refine call_i (run_V (rm := rm_X11_foretold) hx hb hml hown hts (s_X11_foretold l g ad th _ _ _ v14_1 hst hT ) cV_X11_foretold wg_1806 ⟨Nat.le_of_ble_eq_true rfl, Nat.le_of_ble_eq_true rfl⟩ hG hE hA hP hD hS (hst.1 255 (by decide)) hf4 rfl rfl hl.1 (As := [.int v14_1]) (rest := []) rfl (Nat.le_of_ble_eq_true rfl) dX11_letters_65 ⟨Nat.le_of_ble_eq_true rfl, Nat.le_of_ble_eq_true rfl⟩) hA hD hS (fun r27 L28 f29 H locs hp30 hP hD hS => ?_)
      obtain ⟨eL31L, eL31T⟩ := hp30
      have eL31L : L28 = L := eL31L
      have eL31T : f29 = f3 := eL31T
      rw [eL31L, eL31T] at hP hD
      exact ret_i (ty := .int) hx hb hr hlocks (rfl) hP hD hS (Nat.le_of_ble_eq_true rfl) (Nat.le_of_ble_eq_true rfl) (⟨rfl, hT, hfr⟩) dX11_letters_68
    by_cases c32 : z1 = 3
    ·
      refine lv_tableIn (off := 54) (tgt := 69) hx hb dX11_letters_15 (by rw [c32]; decide) (by rw [c32]; decide) (by rw [c32]; decide) (by decide) ?_
      have hb33 : In z1 3 3 := by rw [c32]; exact ⟨by decide, by decide⟩
      refine lv_aload_n hx hb dX11_letters_69 rfl (lv_at hl 0 rfl) ?_
      refine call_i (run_V (rm := rm_X11_over) hx hb hml hown hts (s_X11_over l g ad th _ _ _  hst hT (show MI th from hM)) cV_X11_over wg_1769 ⟨Nat.le_of_ble_eq_true rfl, Nat.le_of_ble_eq_true rfl⟩ hG hE hA hP hD hS (hst.1 255 (by decide)) hf4 rfl rfl hl.1 (As := []) (rest := []) rfl (Nat.le_of_ble_eq_true rfl) dX11_letters_70 ⟨Nat.le_of_ble_eq_true rfl, Nat.le_of_ble_eq_true rfl⟩) hA hD hS (fun r34 L35 f36 H locs hp37 hP hD hS => ?_)
      obtain ⟨eL38L, eL38T, eL38R, eL38X0⟩ := hp37
      have eL38L : L35 = L := eL38L
      have eL38T : f36 = f3 := eL38T
      rw [eL38L, eL38T] at hP hD
      have eL38R : In r34 0 6 := eL38R
      have hcl39 : r34.toInt = 0 ∨ th 15 = 1 := eL38X0
      refine lv_if_ne (tgt := 80) hx hb dX11_letters_73 (by decide) (fun c40 => ?_) (fun c40 => ?_)
      ·
        have oc0 : (0 : Int32).toInt = 0 := by decide
        have cc41 : r34.toInt ≠ (0 : Int32).toInt := i32_ne c40
        have hb42 : In r34 1 6 := In.ne1 eL38R (⟨by decide, by decide⟩ : In 0 0 0) cc41 (by omega) (by omega)
        refine lv_aload_n hx hb dX11_letters_80 rfl (lv_at hl 0 rfl) ?_
        refine pl_get (v := .ref (ad 271)) hx hb hts (fun w h => mT (inX11 w h)) hown hG.1 hP (hst.1 255 (by decide)) hf4 rfl 41 (by decide) (hts _ (mT wg_1377)) (fun _ h => h) rfl dX11_letters_81 ?_
        refine lv_sipush (v := 1970) hx hb dX11_letters_84 (by decide) ?_
        refine lv_aload_n hx hb dX11_letters_87 rfl (lv_at hl 0 rfl) ?_
        refine call_i (run_V (rm := rm_X11_over) hx hb hml hown hts (s_X11_over l g ad th _ _ _  hst hT (show MI th from hM)) cV_X11_over wg_1769 ⟨Nat.le_of_ble_eq_true rfl, Nat.le_of_ble_eq_true rfl⟩ hG hE hA hP hD hS (hst.1 255 (by decide)) hf4 rfl rfl hl.1 (As := []) (rest := [.int 1970, .ref (ad 271)]) rfl (Nat.le_of_ble_eq_true rfl) dX11_letters_88 ⟨Nat.le_of_ble_eq_true rfl, Nat.le_of_ble_eq_true rfl⟩) hA hD hS (fun r43 L44 f45 H locs hp46 hP hD hS => ?_)
        obtain ⟨eL47L, eL47T, eL47R, eL47X0⟩ := hp46
        have eL47L : L44 = L := eL47L
        have eL47T : f45 = f3 := eL47T
        rw [eL47L, eL47T] at hP hD
        have eL47R : In r43 0 6 := eL47R
        have hcl48 : r43.toInt = 0 ∨ th 15 = 1 := eL47X0
        refine lv_iadd hx hb dX11_letters_91 ?_
        refine lv_topi (fun x49 ex49 => ?_)
        have hb50 : In x49 1970 1976 := ex49 ▸ In.add (⟨by decide, by decide⟩ : In 1970 1970 1970) eL47R (by decide) (by decide) (by decide) (by decide)
        have et51 : x49.toInt = (1970 : Int32).toInt + r43.toInt := In.add2e ex49 (⟨by decide, by decide⟩ : In 1970 1970 1970) eL47R (by decide) (by decide)
        refine lv_iconst (v := 1) hx hb dX11_letters_92 (by decide) ?_
        refine lv_isub hx hb dX11_letters_93 ?_
        refine lv_topi (fun x52 ex52 => ?_)
        have hb53 : In x52 1969 1975 := ex52 ▸ In.sub hb50 (⟨by decide, by decide⟩ : In 1 1 1) (by decide) (by decide) (by decide) (by decide)
        have et54 : x52.toInt = x49.toInt + (-1) := In.sube ex52 hb50 (k := 1) (by decide) (by decide) (by decide)
        obtain ⟨rw55, hf56, hpi58, hc57⟩ := hT.2.2 16 (by decide)
        have hc57 : PRW 2126 (th 22) (th 20) (th 21) rw55 := hc57
        have hpi58 : ((72 : Int) < (th 22) → (rw55 72).toInt = th 19) := hpi58
        have hin59 : vp_in x52 2126 := In.inb hb53 (by decide) (by decide)
        refine pl_iald hx hb hG.1 hP (hst.1 271 (by decide)) 0 hf56 rfl hin59 dX11_letters_94 ?_
        refine lv_topi (fun x60 ex60 => ?_)
        exact ret_i (ty := .int) hx hb hr hlocks (rfl) hP hD hS (Nat.le_of_ble_eq_true rfl) (Nat.le_of_ble_eq_true rfl) (⟨rfl, hT, hfr⟩) dX11_letters_95
      ·
        have oc0 : (0 : Int32).toInt = 0 := by decide
        have cc61 : r34.toInt = (0 : Int32).toInt := congrArg Int32.toInt c40
        have hb62 : In r34 0 0 := In.eq1 eL38R (⟨by decide, by decide⟩ : In 0 0 0) cc61 (by omega) (by omega)
        refine lv_iconst (v := 0) hx hb dX11_letters_76 (by decide) ?_
        refine lv_goto (tgt := 95) hx hb dX11_letters_77 (by decide) ?_
        exact ret_i (ty := .int) hx hb hr hlocks (rfl) hP hD hS (Nat.le_of_ble_eq_true rfl) (Nat.le_of_ble_eq_true rfl) (⟨rfl, hT, hfr⟩) dX11_letters_95
    refine lv_tableOut (tgt := 96) hx hb dX11_letters_15 (tb_out (by decide) (by decide) (fun k h1 h2 => ?_)) (by decide) ?_
    · rcases (show k = 0 ∨ k = 1 ∨ k = 2 ∨ k = 3 by omega) with rfl | rfl | rfl | rfl
      · exact fun e => c9 (e.trans (by decide))
      · exact fun e => c17 (e.trans (by decide))
      · exact fun e => c25 (e.trans (by decide))
      · exact fun e => c32 (e.trans (by decide))
    ·
      have csc9 : z1.toInt ≠ 0 := fun e => i32_ne c9 (e.trans (by decide))
      have csc17 : z1.toInt ≠ 1 := fun e => i32_ne c17 (e.trans (by decide))
      have csc25 : z1.toInt ≠ 2 := fun e => i32_ne c25 (e.trans (by decide))
      have csc32 : z1.toInt ≠ 3 := fun e => i32_ne c32 (e.trans (by decide))
      refine lv_iconst (v := (-1)) hx hb dX11_letters_96 (by decide) ?_
      exact ret_i (ty := .int) hx hb hr hlocks (rfl) hP hD hS (Nat.le_of_ble_eq_true rfl) (Nat.le_of_ble_eq_true rfl) (⟨rfl, hT, hfr⟩) dX11_letters_97
  ·
    have oc0 : (0 : Int32).toInt = 0 := by decide
    have cc63 : v23_1.toInt = (0 : Int32).toInt := congrArg Int32.toInt c6
    have hb64 : In v23_1 0 0 := In.eq1 hv23_1 (⟨by decide, by decide⟩ : In 0 0 0) cc63 (by omega) (by omega)
    refine lv_iconst (v := (-1)) hx hb dX11_letters_12 (by decide) ?_
    exact ret_i (ty := .int) hx hb hr hlocks (rfl) hP hD hS (Nat.le_of_ble_eq_true rfl) (Nat.le_of_ble_eq_true rfl) (⟨rfl, hT, hfr⟩) dX11_letters_13

abbrev rm_X11_trueRuler : Room := { frames := 2, cells := 0, slots := 0, locals := 42 }
abbrev po_X11_trueRuler (g : GG) (ad : Nat → Nat) (th : Nat → Int) (L : List Nat) (f : HP)  : Int32 → (List Nat × HP) → Prop := fun r u => u.1 = L ∧ TI g ad th u.2 ∧ (∀ b, b ≠ (ad 255) → u.2 b = f b)
set_option maxHeartbeats 4000000 in
set_option maxRecDepth 100000 in
theorem s_X11_trueRuler (l : Launch) (g : GG) (ad : Nat → Nat) (th : Nat → Int) (L : List Nat) (f : HP) (sz : Nat)  (hst : ST ad L) (hT : TI g ad th f) (hM : MI th) : MtI l g yX11_trueRuler cX11_trueRuler 2 (some .int) rm_X11_trueRuler [.ref (ad 255)] L f sz (po_X11_trueRuler g ad th L f ) := by
  refine MtI.of (by decide +kernel) (Nat.le_of_ble_eq_true rfl) ?_
  intro p e s m below meth c A hEn hP hD hS ls hl
  obtain ⟨hx, hb, hr, hml, hown, hlocks, hts, hG, hA, hE, hnm⟩ := hEn
  have hown : s.vm.findClass "RulerWordModel" = some m.cls := hown
  have hl : lv_has ls 2 [(0, .ref (ad 255))] := hl
  have hfr : (∀ b, b ≠ (ad 255) → f b = f b) := fun b z0_ => rfl
  have hM0 := hM
  obtain ⟨m1, m2, m3, m4, m5, m6, m7, m8, m9, m10⟩ := hM0
  have m20 := mi20 m2 m3
  refine lv_aload_n hx hb dX11_trueRuler_0 rfl (lv_at hl 0 rfl) ?_
  refine lv_iconst (v := 0) hx hb dX11_trueRuler_1 (by decide) ?_
  refine M0e hT (fun v0_1 v2_1 v3_1 v4_1 v5_1 v6_1 v8_1 v9_1 v12_1 v13_1 v14_1 v15_1 v16_1 v17_1 v18_1 v19_1 v20_1 v21_1 v22_1 v23_1 v25_1 v36_1 v37_1 v38_1 v39_1 v40_1 v45_1 v46_1 v47_1 v48_1 v50_1 v51_1 v53_1 v55_1 hf2 hv0_1 hv2_1 hg2_1 hv3_1 hg3_1 hv4_1 hg4_1 hv5_1 hg5_1 hv6_1 hg6_1 hv8_1 hg8_1 hv9_1 hg9_1 hv12_1 hv13_1 hg13_1 hv14_1 hg14_1 hv15_1 hg15_1 hv17_1 hg17_1 hv20_1 hg20_1 hv23_1 hg23_1 hv25_1 hg25_1 hv36_1 hg36_1 hv47_1 hg47_1 hv48_1 hg48_1 hv53_1 hg53_1 hv55_1 hg55_1 hrel0_1 => ?_)
  refine pl_put (ty := .int) (v := .int 0) (fs' := [.int 0, .ref (ad 256), .int v2_1, .int v3_1, .int v4_1, .int v5_1, .int v6_1, .ref (ad 257), .int v8_1, .int v9_1, .ref (ad 258), .ref (ad 259), .int v12_1, .int v13_1, .int v14_1, .int v15_1, .int v16_1, .int v17_1, .int v18_1, .int v19_1, .int v20_1, .long v21_1, .long v22_1, .int v23_1, .ref (ad 260), .int v25_1, .ref (ad 261), .ref (ad 262), .ref (ad 263), .ref (ad 264), .ref (ad 265), .ref (ad 266), .ref (ad 267), .ref (ad 268), .ref (ad 269), .ref (ad 270), .int v36_1, .int v37_1, .int v38_1, .int v39_1, .int v40_1, .ref (ad 271), .ref (ad 272), .ref (ad 273), .ref (ad 274), .long v45_1, .long v46_1, .int v47_1, .int v48_1, .ref (ad 275), .int v50_1, .int v51_1, .ref (ad 276), .int v53_1, .ref (ad 277), .int v55_1]) hx hb hts (fun w h => mT (inX11 w h)) tyX11 tyX11_ok nmX11 hown hG.1 hP hD hS (hst.1 255 (by decide)) hf2 rfl 0 (by decide) (hts _ (mT wg_1336)) (fun _ h => h) rfl (by decide +kernel) (rfl) (rfl) (Nat.le_of_ble_eq_true rfl) rfl dX11_trueRuler_2 (fun H locs f3 hf4 ho5 hP hD hS => ?_)
  have hfr : (∀ b, b ≠ (ad 255) → f3 b = f b) := fun b z0_ => (ho5 b z0_).trans (hfr b z0_)
  refine lv_iconst (v := 0) hx hb dX11_trueRuler_5 (by decide) ?_
  refine lv_istore_n (lv' := [(1, .int 0), (0, .ref (ad 255))]) hx hb dX11_trueRuler_6 rfl hl (by decide) rfl (fun ls hl => ?_)
  have hT := TI.updM hT hst (k := 0) (by decide) hf4 ho5 ⟨0, v2_1, v3_1, v4_1, v5_1, v6_1, v8_1, v9_1, v12_1, v13_1, v14_1, v15_1, v16_1, v17_1, v18_1, v19_1, v20_1, v21_1, v22_1, v23_1, v25_1, v36_1, v37_1, v38_1, v39_1, v40_1, v45_1, v46_1, v47_1, v48_1, v50_1, v51_1, v53_1, v55_1, rfl, (⟨by decide, by decide⟩ : In 0 0 1), hv2_1, hg2_1, hv3_1, hg3_1, hv4_1, hg4_1, hv5_1, hg5_1, hv6_1, hg6_1, hv8_1, hg8_1, hv9_1, hg9_1, hv12_1, hv13_1, hg13_1, hv14_1, hg14_1, hv15_1, hg15_1, hv17_1, hg17_1, hv20_1, hg20_1, hv23_1, hg23_1, hv25_1, hg25_1, hv36_1, hg36_1, hv47_1, hg47_1, hv48_1, hg48_1, hv53_1, hg53_1, hv55_1, hg55_1, hrel0_1⟩
  have hJ7 : ∀ (k7 : Nat) (y7_l1 : Int32) (H : Heap) (locs : List Loc) (ls : Array Slot), In y7_l1 0 6 → va_P g.1 vwCl (va_pl L f3) H → va_D A (va_pl L f3) → va_S A s.heap H locs → lv_has ls 2 [(0, .ref (ad 255)), (1, .int y7_l1)] → 6 - y7_l1.toInt < ((k7 : Nat) : Int) → W p l e rm_X11_trueRuler s m [.ref (ad 255)].toArray below meth c H locs 0 0 (MQ below (va_Qi (po_X11_trueRuler g ad th L f ) (PstB g A) A) [.ref (ad 255)].toArray s rm_X11_trueRuler.cells rm_X11_trueRuler.slots A) (F0 m 7 ls []) := by
    intro k7
    induction k7 with
    | zero =>
      intro y7_l1 H locs ls hy7_l1 hP hD hS hl hmz7
      exact ms0 hy7_l1 hmz7
    | succ k7 ih7 =>
      intro y7_l1 H locs ls hy7_l1 hP hD hS hl hmz7
      refine lv_iload_n hx hb dX11_trueRuler_7 rfl (lv_at hl 1 rfl) ?_
      refine lv_aload_n hx hb dX11_trueRuler_8 rfl (lv_at hl 0 rfl) ?_
      refine pl_get (v := .int v17_1) hx hb hts (fun w h => mT (inX11 w h)) hown hG.1 hP (hst.1 255 (by decide)) hf4 rfl 17 (by decide) (hts _ (mT wg_1353)) (fun _ h => h) rfl dX11_trueRuler_9 ?_
      refine lv_icmp_ge (tgt := 43) hx hb dX11_trueRuler_12 (by decide) (fun c6 => ?_) (fun c6 => ?_)
      ·
        have cc7 : v17_1.toInt ≤ y7_l1.toInt := i32_le.mp c6
        refine lv_iconst (v := (-1)) hx hb dX11_trueRuler_43 (by decide) ?_
        exact ret_i (ty := .int) hx hb hr hlocks (rfl) hP hD hS (Nat.le_of_ble_eq_true rfl) (Nat.le_of_ble_eq_true rfl) (⟨rfl, hT, hfr⟩) dX11_trueRuler_44
      ·
        have cc8 : y7_l1.toInt < v17_1.toInt := i32_nle c6
        have hb9 : In y7_l1 0 5 := In.lt1 hy7_l1 hv17_1 cc8 (by omega) (by omega)
        have hb10 : In v17_1 1 6 := In.lt2 hy7_l1 hv17_1 cc8 (by omega) (by omega)
        refine lv_aload_n hx hb dX11_trueRuler_15 rfl (lv_at hl 0 rfl) ?_
        refine pl_get (v := .int v23_1) hx hb hts (fun w h => mT (inX11 w h)) hown hG.1 hP (hst.1 255 (by decide)) hf4 rfl 23 (by decide) (hts _ (mT wg_1359)) (fun _ h => h) rfl dX11_trueRuler_16 ?_
        refine lv_if_eq (tgt := 43) hx hb dX11_trueRuler_19 (by decide) (fun c11 => ?_) (fun c11 => ?_)
        ·
          have oc0 : (0 : Int32).toInt = 0 := by decide
          have cc12 : v23_1.toInt = (0 : Int32).toInt := congrArg Int32.toInt c11
          have hb13 : In v23_1 0 0 := In.eq1 hv23_1 (⟨by decide, by decide⟩ : In 0 0 0) cc12 (by omega) (by omega)
          refine lv_iconst (v := (-1)) hx hb dX11_trueRuler_43 (by decide) ?_
          exact ret_i (ty := .int) hx hb hr hlocks (rfl) hP hD hS (Nat.le_of_ble_eq_true rfl) (Nat.le_of_ble_eq_true rfl) (⟨rfl, hT, hfr⟩) dX11_trueRuler_44
        ·
          have oc0 : (0 : Int32).toInt = 0 := by decide
          have cc14 : v23_1.toInt ≠ (0 : Int32).toInt := i32_ne c11
          have hb15 : In v23_1 1 1 := In.ne1 hv23_1 (⟨by decide, by decide⟩ : In 0 0 0) cc14 (by omega) (by omega)
          refine lv_aload_n hx hb dX11_trueRuler_22 rfl (lv_at hl 0 rfl) ?_
          refine lv_iload_n hx hb dX11_trueRuler_23 rfl (lv_at hl 1 rfl) ?_
          refine lv_aload_n hx hb dX11_trueRuler_24 rfl (lv_at hl 0 rfl) ?_
          refine pl_get (v := .int v15_1) hx hb hts (fun w h => mT (inX11 w h)) hown hG.1 hP (hst.1 255 (by decide)) hf4 rfl 15 (by decide) (hts _ (mT wg_1351)) (fun _ h => h) rfl dX11_trueRuler_25 ?_
          have hb16 : In v15_1 1 9 := In.mk (by have ob10 : (0 : Int) ≤ (th 10) ∧ (th 10) ≤ 1 := (b0_10 hT :); have ob11 : (0 : Int) ≤ (th 11) ∧ (th 11) ≤ 9 := (b0_11 hT :); have ob12 : (0 : Int) ≤ (th 12) ∧ (th 12) ≤ 6 := (b0_12 hT :); have ob14 : (0 : Int) ≤ (th 14) ∧ (th 14) ≤ 511 := (b0_14 hT :); have ob15 : (0 : Int) ≤ (th 15) ∧ (th 15) ≤ 1 := (b0_15 hT :); have ob16 : (0 : Int) ≤ (th 16) ∧ (th 16) ≤ 20 := (b0_16 hT :); have ob17 : (0 : Int) ≤ (th 17) ∧ (th 17) ≤ 1 := (b0_17 hT :); have ob18 : (0 : Int) ≤ (th 18) ∧ (th 18) ≤ 18 := (b0_18 hT :); have ob38 : (0 : Int) ≤ (th 38) ∧ (th 38) ≤ 400 := (b0_38 hT :); have ob39 : (0 : Int) ≤ (th 39) ∧ (th 39) ≤ 200 := (b0_39 hT :); have ob44 : (0 : Int) ≤ (th 44) ∧ (th 44) ≤ 30 := (b0_44 hT :); obtain ⟨o0a, o0b⟩ := (hv15_1 : In _ _ _); obtain ⟨o1a, o1b⟩ := (hv14_1 : In _ _ _); obtain ⟨o2a, o2b⟩ := (hb10 : In _ _ _); obtain ⟨o3a, o3b⟩ := (hv20_1 : In _ _ _); obtain ⟨o4a, o4b⟩ := (hb15 : In _ _ _); obtain ⟨o5a, o5b⟩ := (hv25_1 : In _ _ _); obtain ⟨o6a, o6b⟩ := (hv36_1 : In _ _ _); obtain ⟨o7a, o7b⟩ := (hv47_1 : In _ _ _); obtain ⟨o8a, o8b⟩ := (hv48_1 : In _ _ _); obtain ⟨o9a, o9b⟩ := (hv53_1 : In _ _ _); obtain ⟨o10a, o10b⟩ := (hv55_1 : In _ _ _); obtain ⟨o11a, o11b⟩ := (hb9 : In _ _ _); omega) (by have ob10 : (0 : Int) ≤ (th 10) ∧ (th 10) ≤ 1 := (b0_10 hT :); have ob11 : (0 : Int) ≤ (th 11) ∧ (th 11) ≤ 9 := (b0_11 hT :); have ob12 : (0 : Int) ≤ (th 12) ∧ (th 12) ≤ 6 := (b0_12 hT :); have ob14 : (0 : Int) ≤ (th 14) ∧ (th 14) ≤ 511 := (b0_14 hT :); have ob15 : (0 : Int) ≤ (th 15) ∧ (th 15) ≤ 1 := (b0_15 hT :); have ob16 : (0 : Int) ≤ (th 16) ∧ (th 16) ≤ 20 := (b0_16 hT :); have ob17 : (0 : Int) ≤ (th 17) ∧ (th 17) ≤ 1 := (b0_17 hT :); have ob18 : (0 : Int) ≤ (th 18) ∧ (th 18) ≤ 18 := (b0_18 hT :); have ob38 : (0 : Int) ≤ (th 38) ∧ (th 38) ≤ 400 := (b0_38 hT :); have ob39 : (0 : Int) ≤ (th 39) ∧ (th 39) ≤ 200 := (b0_39 hT :); have ob44 : (0 : Int) ≤ (th 44) ∧ (th 44) ≤ 30 := (b0_44 hT :); obtain ⟨o0a, o0b⟩ := (hv15_1 : In _ _ _); obtain ⟨o1a, o1b⟩ := (hv14_1 : In _ _ _); obtain ⟨o2a, o2b⟩ := (hb10 : In _ _ _); obtain ⟨o3a, o3b⟩ := (hv20_1 : In _ _ _); obtain ⟨o4a, o4b⟩ := (hb15 : In _ _ _); obtain ⟨o5a, o5b⟩ := (hv25_1 : In _ _ _); obtain ⟨o6a, o6b⟩ := (hv36_1 : In _ _ _); obtain ⟨o7a, o7b⟩ := (hv47_1 : In _ _ _); obtain ⟨o8a, o8b⟩ := (hv48_1 : In _ _ _); obtain ⟨o9a, o9b⟩ := (hv53_1 : In _ _ _); obtain ⟨o10a, o10b⟩ := (hv55_1 : In _ _ _); obtain ⟨o11a, o11b⟩ := (hb9 : In _ _ _); omega)
          refine lv_irem hx hb dX11_trueRuler_28 (In.ne0 hb16 (by decide)) ?_
          refine lv_topi (fun x17 ex17 => ?_)
          have hb18 : In x17 0 5 := ex17 ▸ In.rem hb9 hb16 (by decide) (by decide) (by decide)
          refine call_i (run_V (rm := rm_X11_isTrue) hx hb hml hown hts (s_X11_isTrue l g ad th _ _ _ x17 hst hT ) cV_X11_isTrue wg_1782 ⟨Nat.le_of_ble_eq_true rfl, Nat.le_of_ble_eq_true rfl⟩ hG hE hA hP hD hS (hst.1 255 (by decide)) hf4 rfl rfl hl.1 (As := [.int x17]) (rest := []) rfl (Nat.le_of_ble_eq_true rfl) dX11_trueRuler_29 ⟨Nat.le_of_ble_eq_true rfl, Nat.le_of_ble_eq_true rfl⟩) hA hD hS (fun r19 L20 f21 H locs hp22 hP hD hS => ?_)
          obtain ⟨eL23L, eL23T, eL23R⟩ := hp22
          have eL23L : L20 = L := eL23L
          have eL23T : f21 = f3 := eL23T
          rw [eL23L, eL23T] at hP hD
          have eL23R : In r19 0 1 := eL23R
          refine lv_if_eq (tgt := 37) hx hb dX11_trueRuler_32 (by decide) (fun c24 => ?_) (fun c24 => ?_)
          ·
            have oc0 : (0 : Int32).toInt = 0 := by decide
            have cc25 : r19.toInt = (0 : Int32).toInt := congrArg Int32.toInt c24
            have hb26 : In r19 0 0 := In.eq1 eL23R (⟨by decide, by decide⟩ : In 0 0 0) cc25 (by omega) (by omega)
            obtain ⟨x27, ex27⟩ : ∃ y : Int32, y = y7_l1 + 1 := ⟨_, rfl⟩
            have hb28 : In x27 1 6 := ex27 ▸ In.add hb9 (⟨by decide, by decide⟩ : In 1 1 1) (by decide) (by decide) (by decide) (by decide)
            have et29 : x27.toInt = y7_l1.toInt + 1 := In.adde ex27 hb9 (k := 1) (by decide) (by decide) (by decide)
            refine lv_iinc (v := x27) (lv' := [(1, .int x27), (0, .ref (ad 255))]) hx hb dX11_trueRuler_37 hl (k := 1) rfl (by rw [ex27]; rfl) (by decide) rfl (fun ls hl => ?_)
            refine lv_goto (tgt := 7) hx hb dX11_trueRuler_40 (by decide) ?_
            exact ih7 x27 _ _ _ (In.mono hb28 (by decide) (by decide)) hP hD hS (lv_sub hl [1, 0] rfl) (msu et29 (by decide) hmz7)
          ·
            have oc0 : (0 : Int32).toInt = 0 := by decide
            have cc30 : r19.toInt ≠ (0 : Int32).toInt := i32_ne c24
            have hb31 : In r19 1 1 := In.ne1 eL23R (⟨by decide, by decide⟩ : In 0 0 0) cc30 (by omega) (by omega)
            refine lv_iload_n hx hb dX11_trueRuler_35 rfl (lv_at hl 1 rfl) ?_
            exact ret_i (ty := .int) hx hb hr hlocks (rfl) hP hD hS (Nat.le_of_ble_eq_true rfl) (Nat.le_of_ble_eq_true rfl) (⟨rfl, hT, hfr⟩) dX11_trueRuler_36
  exact hJ7 ((6 - (0 : Int32).toInt).toNat + 1) 0 _ _ _ (⟨by decide, by decide⟩ : In 0 0 6) hP hD hS (lv_sub hl [1, 0] rfl) (msI _)

abbrev rm_X11_status : Room := { frames := 1, cells := 0, slots := 0, locals := 25 }
abbrev po_X11_status (g : GG) (ad : Nat → Nat) (th : Nat → Int) (L : List Nat) (f : HP) (z1 : Int32) : Int32 → (List Nat × HP) → Prop := fun r u => u.1 = L ∧ TI g ad th u.2 ∧ (∀ b, b ≠ (ad 255) → u.2 b = f b)
set_option maxHeartbeats 4000000 in
set_option maxRecDepth 100000 in
theorem s_X11_status (l : Launch) (g : GG) (ad : Nat → Nat) (th : Nat → Int) (L : List Nat) (f : HP) (sz : Nat) (z1 : Int32) (hst : ST ad L) (hT : TI g ad th f)  : MtI l g yX11_status cX11_status 2 (some .int) rm_X11_status [.ref (ad 255), .int z1] L f sz (po_X11_status g ad th L f z1) := by
  refine MtI.of (by decide +kernel) (Nat.le_of_ble_eq_true rfl) ?_
  intro p e s m below meth c A hEn hP hD hS ls hl
  obtain ⟨hx, hb, hr, hml, hown, hlocks, hts, hG, hA, hE, hnm⟩ := hEn
  have hown : s.vm.findClass "RulerWordModel" = some m.cls := hown
  have hl : lv_has ls 2 [(0, .ref (ad 255)), (1, .int z1)] := hl
  have hfr : (∀ b, b ≠ (ad 255) → f b = f b) := fun b z0_ => rfl
  refine lv_aload_n hx hb dX11_status_0 rfl (lv_at hl 0 rfl) ?_
  refine lv_iconst (v := 0) hx hb dX11_status_1 (by decide) ?_
  refine M0e hT (fun v0_1 v2_1 v3_1 v4_1 v5_1 v6_1 v8_1 v9_1 v12_1 v13_1 v14_1 v15_1 v16_1 v17_1 v18_1 v19_1 v20_1 v21_1 v22_1 v23_1 v25_1 v36_1 v37_1 v38_1 v39_1 v40_1 v45_1 v46_1 v47_1 v48_1 v50_1 v51_1 v53_1 v55_1 hf2 hv0_1 hv2_1 hg2_1 hv3_1 hg3_1 hv4_1 hg4_1 hv5_1 hg5_1 hv6_1 hg6_1 hv8_1 hg8_1 hv9_1 hg9_1 hv12_1 hv13_1 hg13_1 hv14_1 hg14_1 hv15_1 hg15_1 hv17_1 hg17_1 hv20_1 hg20_1 hv23_1 hg23_1 hv25_1 hg25_1 hv36_1 hg36_1 hv47_1 hg47_1 hv48_1 hg48_1 hv53_1 hg53_1 hv55_1 hg55_1 hrel0_1 => ?_)
  refine pl_put (ty := .int) (v := .int 0) (fs' := [.int 0, .ref (ad 256), .int v2_1, .int v3_1, .int v4_1, .int v5_1, .int v6_1, .ref (ad 257), .int v8_1, .int v9_1, .ref (ad 258), .ref (ad 259), .int v12_1, .int v13_1, .int v14_1, .int v15_1, .int v16_1, .int v17_1, .int v18_1, .int v19_1, .int v20_1, .long v21_1, .long v22_1, .int v23_1, .ref (ad 260), .int v25_1, .ref (ad 261), .ref (ad 262), .ref (ad 263), .ref (ad 264), .ref (ad 265), .ref (ad 266), .ref (ad 267), .ref (ad 268), .ref (ad 269), .ref (ad 270), .int v36_1, .int v37_1, .int v38_1, .int v39_1, .int v40_1, .ref (ad 271), .ref (ad 272), .ref (ad 273), .ref (ad 274), .long v45_1, .long v46_1, .int v47_1, .int v48_1, .ref (ad 275), .int v50_1, .int v51_1, .ref (ad 276), .int v53_1, .ref (ad 277), .int v55_1]) hx hb hts (fun w h => mT (inX11 w h)) tyX11 tyX11_ok nmX11 hown hG.1 hP hD hS (hst.1 255 (by decide)) hf2 rfl 0 (by decide) (hts _ (mT wg_1336)) (fun _ h => h) rfl (by decide +kernel) (rfl) (rfl) (Nat.le_of_ble_eq_true rfl) rfl dX11_status_2 (fun H locs f3 hf4 ho5 hP hD hS => ?_)
  have hfr : (∀ b, b ≠ (ad 255) → f3 b = f b) := fun b z0_ => (ho5 b z0_).trans (hfr b z0_)
  refine lv_iload_n hx hb dX11_status_5 rfl (lv_at hl 1 rfl) ?_
  refine lv_i2l hx hb dX11_status_6 rfl ?_
  refine lv_lconst (v := 0) hx hb dX11_status_7 (by decide) ?_
  refine lv_ldc2 hx hb hown (hts _ (mT wg_1747)) dX11_status_8 ?_
  have hT := TI.updM hT hst (k := 0) (by decide) hf4 ho5 ⟨0, v2_1, v3_1, v4_1, v5_1, v6_1, v8_1, v9_1, v12_1, v13_1, v14_1, v15_1, v16_1, v17_1, v18_1, v19_1, v20_1, v21_1, v22_1, v23_1, v25_1, v36_1, v37_1, v38_1, v39_1, v40_1, v45_1, v46_1, v47_1, v48_1, v50_1, v51_1, v53_1, v55_1, rfl, (⟨by decide, by decide⟩ : In 0 0 1), hv2_1, hg2_1, hv3_1, hg3_1, hv4_1, hg4_1, hv5_1, hg5_1, hv6_1, hg6_1, hv8_1, hg8_1, hv9_1, hg9_1, hv12_1, hv13_1, hg13_1, hv14_1, hg14_1, hv15_1, hg15_1, hv17_1, hg17_1, hv20_1, hg20_1, hv23_1, hg23_1, hv25_1, hg25_1, hv36_1, hg36_1, hv47_1, hg47_1, hv48_1, hg48_1, hv53_1, hg53_1, hv55_1, hg55_1, hrel0_1⟩
  refine call_i (run_S (rm := rm_X11_isIn) hx hb hml hown hts (s_X11_isIn l g ad th _ _ _ (z1.toInt64) 0 4 hst hT ) cS_X11_isIn wg_1581 ⟨Nat.le_of_ble_eq_true rfl, Nat.le_of_ble_eq_true rfl⟩ hG hE hA hP hD hS rfl hl.1 (As := [.long (z1.toInt64), .long 0, .long 4]) (rest := []) rfl (Nat.le_of_ble_eq_true rfl) dX11_status_11 ⟨Nat.le_of_ble_eq_true rfl, Nat.le_of_ble_eq_true rfl⟩) hA hD hS (fun r6 L7 f8 H locs hp9 hP hD hS => ?_)
  obtain ⟨eL10L, eL10T, eL10R, eL10X0, eL10X1⟩ := hp9
  have eL10L : L7 = L := eL10L
  have eL10T : f8 = f3 := eL10T
  rw [eL10L, eL10T] at hP hD
  have eL10R : In r6 0 1 := eL10R
  have hii11 : r6.toInt = 0 ∨ (0 ≤ z1.toInt ∧ z1.toInt ≤ 4) := by have z := eL10X0; rw [i2l_t z1, (by decide : (0 : Int64).toInt = 0), (by decide : (4 : Int64).toInt = 4)] at z; exact z
  have hii11w : ¬ r6 = 0 → In z1 0 4 := fun c => by have c2 := i32_ne c; have e0 : (0 : Int32).toInt = 0 := (by decide); exact ⟨by omega, by omega⟩
  refine lv_if_eq (tgt := 26) hx hb dX11_status_14 (by decide) (fun c12 => ?_) (fun c12 => ?_)
  ·
    have cc13 : r6.toInt = (0 : Int32).toInt := congrArg Int32.toInt c12
    have hb14 : In r6 0 0 := In.eq1 eL10R (⟨by decide, by decide⟩ : In 0 0 0) cc13 (by omega) (by omega)
    refine lv_iconst (v := (-1)) hx hb dX11_status_26 (by decide) ?_
    exact ret_i (ty := .int) hx hb hr hlocks (rfl) hP hD hS (Nat.le_of_ble_eq_true rfl) (Nat.le_of_ble_eq_true rfl) (⟨rfl, hT, hfr⟩) dX11_status_27
  ·
    have cc15 : r6.toInt ≠ (0 : Int32).toInt := i32_ne c12
    have hb16 : In r6 1 1 := In.ne1 eL10R (⟨by decide, by decide⟩ : In 0 0 0) cc15 (by omega) (by omega)
    have hb17 : In z1 0 4 := In.both (hii11w c12) (In.full z1) (by decide) (by decide)
    refine lv_aload_n hx hb dX11_status_17 rfl (lv_at hl 0 rfl) ?_
    refine pl_get (v := .ref (ad 275)) hx hb hts (fun w h => mT (inX11 w h)) hown hG.1 hP (hst.1 255 (by decide)) hf4 rfl 49 (by decide) (hts _ (mT wg_1385)) (fun _ h => h) rfl dX11_status_18 ?_
    refine lv_iload_n hx hb dX11_status_21 rfl (lv_at hl 1 rfl) ?_
    obtain ⟨rw18, hf19⟩ := hT.2.2 20 (by decide)
    have hin20 : vp_in z1 5 := In.inb hb17 (by decide) (by decide)
    refine pl_iald hx hb hG.1 hP (hst.1 275 (by decide)) 0 hf19 rfl hin20 dX11_status_22 ?_
    refine lv_topi (fun x21 ex21 => ?_)
    refine lv_goto (tgt := 27) hx hb dX11_status_23 (by decide) ?_
    exact ret_i (ty := .int) hx hb hr hlocks (rfl) hP hD hS (Nat.le_of_ble_eq_true rfl) (Nat.le_of_ble_eq_true rfl) (⟨rfl, hT, hfr⟩) dX11_status_27

abbrev rm_X11_heard : Room := { frames := 2, cells := 0, slots := 0, locals := 47 }
abbrev po_X11_heard (g : GG) (ad : Nat → Nat) (th : Nat → Int) (L : List Nat) (f : HP) (z1 : Int32) (z2 : Int32) (z3 : Int32) (z4 : Int32) : Int32 → (List Nat × HP) → Prop := fun r u => u.1 = L ∧ TI g ad th u.2 ∧ (∀ b, b ≠ (ad 255) → u.2 b = f b)
set_option maxHeartbeats 4000000 in
set_option maxRecDepth 100000 in
theorem s_X11_heard (l : Launch) (g : GG) (ad : Nat → Nat) (th : Nat → Int) (L : List Nat) (f : HP) (sz : Nat) (z1 : Int32) (z2 : Int32) (z3 : Int32) (z4 : Int32) (hst : ST ad L) (hT : TI g ad th f) (hM : MI th) : MtI l g yX11_heard cX11_heard 5 (some .int) rm_X11_heard [.ref (ad 255), .int z1, .int z2, .int z3, .int z4] L f sz (po_X11_heard g ad th L f z1 z2 z3 z4) := by
  refine MtI.of (by decide +kernel) (Nat.le_of_ble_eq_true rfl) ?_
  intro p e s m below meth c A hEn hP hD hS ls hl
  obtain ⟨hx, hb, hr, hml, hown, hlocks, hts, hG, hA, hE, hnm⟩ := hEn
  have hown : s.vm.findClass "RulerWordModel" = some m.cls := hown
  have hl : lv_has ls 5 [(0, .ref (ad 255)), (1, .int z1), (2, .int z2), (3, .int z3), (4, .int z4)] := hl
  have hfr : (∀ b, b ≠ (ad 255) → f b = f b) := fun b z0_ => rfl
  have hM0 := hM
  obtain ⟨m1, m2, m3, m4, m5, m6, m7, m8, m9, m10⟩ := hM0
  have m20 := mi20 m2 m3
  refine lv_aload_n hx hb dX11_heard_0 rfl (lv_at hl 0 rfl) ?_
  refine lv_iconst (v := 0) hx hb dX11_heard_1 (by decide) ?_
  refine M0e hT (fun v0_1 v2_1 v3_1 v4_1 v5_1 v6_1 v8_1 v9_1 v12_1 v13_1 v14_1 v15_1 v16_1 v17_1 v18_1 v19_1 v20_1 v21_1 v22_1 v23_1 v25_1 v36_1 v37_1 v38_1 v39_1 v40_1 v45_1 v46_1 v47_1 v48_1 v50_1 v51_1 v53_1 v55_1 hf2 hv0_1 hv2_1 hg2_1 hv3_1 hg3_1 hv4_1 hg4_1 hv5_1 hg5_1 hv6_1 hg6_1 hv8_1 hg8_1 hv9_1 hg9_1 hv12_1 hv13_1 hg13_1 hv14_1 hg14_1 hv15_1 hg15_1 hv17_1 hg17_1 hv20_1 hg20_1 hv23_1 hg23_1 hv25_1 hg25_1 hv36_1 hg36_1 hv47_1 hg47_1 hv48_1 hg48_1 hv53_1 hg53_1 hv55_1 hg55_1 hrel0_1 => ?_)
  refine pl_put (ty := .int) (v := .int 0) (fs' := [.int 0, .ref (ad 256), .int v2_1, .int v3_1, .int v4_1, .int v5_1, .int v6_1, .ref (ad 257), .int v8_1, .int v9_1, .ref (ad 258), .ref (ad 259), .int v12_1, .int v13_1, .int v14_1, .int v15_1, .int v16_1, .int v17_1, .int v18_1, .int v19_1, .int v20_1, .long v21_1, .long v22_1, .int v23_1, .ref (ad 260), .int v25_1, .ref (ad 261), .ref (ad 262), .ref (ad 263), .ref (ad 264), .ref (ad 265), .ref (ad 266), .ref (ad 267), .ref (ad 268), .ref (ad 269), .ref (ad 270), .int v36_1, .int v37_1, .int v38_1, .int v39_1, .int v40_1, .ref (ad 271), .ref (ad 272), .ref (ad 273), .ref (ad 274), .long v45_1, .long v46_1, .int v47_1, .int v48_1, .ref (ad 275), .int v50_1, .int v51_1, .ref (ad 276), .int v53_1, .ref (ad 277), .int v55_1]) hx hb hts (fun w h => mT (inX11 w h)) tyX11 tyX11_ok nmX11 hown hG.1 hP hD hS (hst.1 255 (by decide)) hf2 rfl 0 (by decide) (hts _ (mT wg_1336)) (fun _ h => h) rfl (by decide +kernel) (rfl) (rfl) (Nat.le_of_ble_eq_true rfl) rfl dX11_heard_2 (fun H locs f3 hf4 ho5 hP hD hS => ?_)
  have hfr : (∀ b, b ≠ (ad 255) → f3 b = f b) := fun b z0_ => (ho5 b z0_).trans (hfr b z0_)
  refine lv_aload_n hx hb dX11_heard_5 rfl (lv_at hl 0 rfl) ?_
  refine lv_iload_n hx hb dX11_heard_6 rfl (lv_at hl 1 rfl) ?_
  refine lv_iload_n hx hb dX11_heard_7 rfl (lv_at hl 2 rfl) ?_
  have hT := TI.updM hT hst (k := 0) (by decide) hf4 ho5 ⟨0, v2_1, v3_1, v4_1, v5_1, v6_1, v8_1, v9_1, v12_1, v13_1, v14_1, v15_1, v16_1, v17_1, v18_1, v19_1, v20_1, v21_1, v22_1, v23_1, v25_1, v36_1, v37_1, v38_1, v39_1, v40_1, v45_1, v46_1, v47_1, v48_1, v50_1, v51_1, v53_1, v55_1, rfl, (⟨by decide, by decide⟩ : In 0 0 1), hv2_1, hg2_1, hv3_1, hg3_1, hv4_1, hg4_1, hv5_1, hg5_1, hv6_1, hg6_1, hv8_1, hg8_1, hv9_1, hg9_1, hv12_1, hv13_1, hg13_1, hv14_1, hg14_1, hv15_1, hg15_1, hv17_1, hg17_1, hv20_1, hg20_1, hv23_1, hg23_1, hv25_1, hg25_1, hv36_1, hg36_1, hv47_1, hg47_1, hv48_1, hg48_1, hv53_1, hg53_1, hv55_1, hg55_1, hrel0_1⟩
  refine call_i (run_V (rm := rm_X11_isRound) hx hb hml hown hts (s_X11_isRound l g ad th _ _ _ z1 z2 hst hT ) cV_X11_isRound wg_1714 ⟨Nat.le_of_ble_eq_true rfl, Nat.le_of_ble_eq_true rfl⟩ hG hE hA hP hD hS (hst.1 255 (by decide)) hf4 rfl rfl hl.1 (As := [.int z1, .int z2]) (rest := []) rfl (Nat.le_of_ble_eq_true rfl) dX11_heard_8 ⟨Nat.le_of_ble_eq_true rfl, Nat.le_of_ble_eq_true rfl⟩) hA hD hS (fun r6 L7 f8 H locs hp9 hP hD hS => ?_)
  obtain ⟨eL10L, eL10T, eL10R, eL10W0, eL10W1, eL10X0⟩ := hp9
  have eL10L : L7 = L := eL10L
  have eL10T : f8 = f3 := eL10T
  rw [eL10L, eL10T] at hP hD
  have eL10R : In r6 0 1 := eL10R
  have hcl11 : r6.toInt = 0 ∨ th 15 = 1 := eL10X0
  refine lv_if_eq (tgt := 49) hx hb dX11_heard_11 (by decide) (fun c12 => ?_) (fun c12 => ?_)
  ·
    have oc0 : (0 : Int32).toInt = 0 := by decide
    have cc13 : r6.toInt = (0 : Int32).toInt := congrArg Int32.toInt c12
    have hb14 : In r6 0 0 := In.eq1 eL10R (⟨by decide, by decide⟩ : In 0 0 0) cc13 (by omega) (by omega)
    refine lv_iconst (v := (-1)) hx hb dX11_heard_49 (by decide) ?_
    exact ret_i (ty := .int) hx hb hr hlocks (rfl) hP hD hS (Nat.le_of_ble_eq_true rfl) (Nat.le_of_ble_eq_true rfl) (⟨rfl, hT, hfr⟩) dX11_heard_50
  ·
    have oc0 : (0 : Int32).toInt = 0 := by decide
    have cc15 : r6.toInt ≠ (0 : Int32).toInt := i32_ne c12
    have hb16 : In r6 1 1 := In.ne1 eL10R (⟨by decide, by decide⟩ : In 0 0 0) cc15 (by omega) (by omega)
    have hb17 : In z1 0 5 := In.both (eL10W0 c12) (In.full z1) (by decide) (by decide)
    have hb18 : In z2 0 2 := In.both (eL10W1 c12) (In.full z2) (by decide) (by decide)
    refine lv_aload_n hx hb dX11_heard_14 rfl (lv_at hl 0 rfl) ?_
    refine lv_iload_n hx hb dX11_heard_15 rfl (lv_at hl 3 rfl) ?_
    refine call_i (run_V (rm := rm_X11_isPeer) hx hb hml hown hts (s_X11_isPeer l g ad th _ _ _ z3 hst hT ) cV_X11_isPeer wg_1718 ⟨Nat.le_of_ble_eq_true rfl, Nat.le_of_ble_eq_true rfl⟩ hG hE hA hP hD hS (hst.1 255 (by decide)) hf4 rfl rfl hl.1 (As := [.int z3]) (rest := []) rfl (Nat.le_of_ble_eq_true rfl) dX11_heard_16 ⟨Nat.le_of_ble_eq_true rfl, Nat.le_of_ble_eq_true rfl⟩) hA hD hS (fun r19 L20 f21 H locs hp22 hP hD hS => ?_)
    obtain ⟨eL23L, eL23T, eL23R, eL23W0, eL23X0⟩ := hp22
    have eL23L : L20 = L := eL23L
    have eL23T : f21 = f3 := eL23T
    rw [eL23L, eL23T] at hP hD
    have eL23R : In r19 0 1 := eL23R
    have hcl24 : r19.toInt = 0 ∨ th 15 = 1 := eL23X0
    refine lv_if_eq (tgt := 49) hx hb dX11_heard_19 (by decide) (fun c25 => ?_) (fun c25 => ?_)
    ·
      have oc0 : (0 : Int32).toInt = 0 := by decide
      have cc26 : r19.toInt = (0 : Int32).toInt := congrArg Int32.toInt c25
      have hb27 : In r19 0 0 := In.eq1 eL23R (⟨by decide, by decide⟩ : In 0 0 0) cc26 (by omega) (by omega)
      refine lv_iconst (v := (-1)) hx hb dX11_heard_49 (by decide) ?_
      exact ret_i (ty := .int) hx hb hr hlocks (rfl) hP hD hS (Nat.le_of_ble_eq_true rfl) (Nat.le_of_ble_eq_true rfl) (⟨rfl, hT, hfr⟩) dX11_heard_50
    ·
      have oc0 : (0 : Int32).toInt = 0 := by decide
      have cc28 : r19.toInt ≠ (0 : Int32).toInt := i32_ne c25
      have hb29 : In r19 1 1 := In.ne1 eL23R (⟨by decide, by decide⟩ : In 0 0 0) cc28 (by omega) (by omega)
      have hb30 : In z3 0 8 := In.both (eL23W0 c25) (In.full z3) (by decide) (by decide)
      refine lv_aload_n hx hb dX11_heard_22 rfl (lv_at hl 0 rfl) ?_
      refine lv_iload hx hb dX11_heard_23 (lv_at hl 4 rfl) ?_
      refine call_i (run_V (rm := rm_X11_isPeer) hx hb hml hown hts (s_X11_isPeer l g ad th _ _ _ z4 hst hT ) cV_X11_isPeer wg_1718 ⟨Nat.le_of_ble_eq_true rfl, Nat.le_of_ble_eq_true rfl⟩ hG hE hA hP hD hS (hst.1 255 (by decide)) hf4 rfl rfl hl.1 (As := [.int z4]) (rest := []) rfl (Nat.le_of_ble_eq_true rfl) dX11_heard_25 ⟨Nat.le_of_ble_eq_true rfl, Nat.le_of_ble_eq_true rfl⟩) hA hD hS (fun r31 L32 f33 H locs hp34 hP hD hS => ?_)
      obtain ⟨eL35L, eL35T, eL35R, eL35W0, eL35X0⟩ := hp34
      have eL35L : L32 = L := eL35L
      have eL35T : f33 = f3 := eL35T
      rw [eL35L, eL35T] at hP hD
      have eL35R : In r31 0 1 := eL35R
      have hcl36 : r31.toInt = 0 ∨ th 15 = 1 := eL35X0
      refine lv_if_eq (tgt := 49) hx hb dX11_heard_28 (by decide) (fun c37 => ?_) (fun c37 => ?_)
      ·
        have oc0 : (0 : Int32).toInt = 0 := by decide
        have cc38 : r31.toInt = (0 : Int32).toInt := congrArg Int32.toInt c37
        have hb39 : In r31 0 0 := In.eq1 eL35R (⟨by decide, by decide⟩ : In 0 0 0) cc38 (by omega) (by omega)
        refine lv_iconst (v := (-1)) hx hb dX11_heard_49 (by decide) ?_
        exact ret_i (ty := .int) hx hb hr hlocks (rfl) hP hD hS (Nat.le_of_ble_eq_true rfl) (Nat.le_of_ble_eq_true rfl) (⟨rfl, hT, hfr⟩) dX11_heard_50
      ·
        have oc0 : (0 : Int32).toInt = 0 := by decide
        have cc40 : r31.toInt ≠ (0 : Int32).toInt := i32_ne c37
        have hb41 : In r31 1 1 := In.ne1 eL35R (⟨by decide, by decide⟩ : In 0 0 0) cc40 (by omega) (by omega)
        have hb42 : In z4 0 8 := In.both (eL35W0 c37) (In.full z4) (by decide) (by decide)
        refine lv_aload_n hx hb dX11_heard_31 rfl (lv_at hl 0 rfl) ?_
        refine call_i (run_V (rm := rm_X11_each) hx hb hml hown hts (s_X11_each l g ad th _ _ _  hst hT ) cV_X11_each wg_1636 ⟨Nat.le_of_ble_eq_true rfl, Nat.le_of_ble_eq_true rfl⟩ hG hE hA hP hD hS (hst.1 255 (by decide)) hf4 rfl rfl hl.1 (As := []) (rest := []) rfl (Nat.le_of_ble_eq_true rfl) dX11_heard_32 ⟨Nat.le_of_ble_eq_true rfl, Nat.le_of_ble_eq_true rfl⟩) hA hD hS (fun r43 L44 f45 H locs hp46 hP hD hS => ?_)
        obtain ⟨eL47L, eL47T, eL47R, eL47X0⟩ := hp46
        have eL47L : L44 = L := eL47L
        have eL47T : f45 = f3 := eL47T
        rw [eL47L, eL47T] at hP hD
        have eL47R : In r43 2 3 := eL47R
        have hrn48 : r43.toInt = rnd (th 10) := eL47X0
        refine lv_iload_n hx hb dX11_heard_35 rfl (lv_at hl 1 rfl) ?_
        refine lv_imul hx hb dX11_heard_36 ?_
        refine lv_topi (fun x49 ex49 => ?_)
        have hb50 : In x49 0 15 := ex49 ▸ In.mul eL47R hb17 (by decide) (by decide) (by decide) (by decide) (by decide)
        refine lv_iload_n hx hb dX11_heard_37 rfl (lv_at hl 2 rfl) ?_
        refine lv_iadd hx hb dX11_heard_38 ?_
        refine lv_topi (fun x51 ex51 => ?_)
        have hb52 : In x51 0 17 := ex51 ▸ In.add hb50 hb18 (by decide) (by decide) (by decide) (by decide)
        have et53 : x51.toInt = x49.toInt + z2.toInt := In.add2e ex51 hb50 hb18 (by decide) (by decide)
        refine lv_aload_n hx hb dX11_heard_39 rfl (lv_at hl 0 rfl) ?_
        refine pl_get (v := .ref (ad 271)) hx hb hts (fun w h => mT (inX11 w h)) hown hG.1 hP (hst.1 255 (by decide)) hf4 rfl 41 (by decide) (hts _ (mT wg_1377)) (fun _ h => h) rfl dX11_heard_40 ?_
        refine lv_bipush (v := 72) hx hb dX11_heard_43 (by decide) ?_
        obtain ⟨rw54, hf55, hpi57, hc56⟩ := hT.2.2 16 (by decide)
        have hc56 : PRW 2126 (th 22) (th 20) (th 21) rw54 := hc56
        have hpi57 : ((72 : Int) < (th 22) → (rw54 72).toInt = th 19) := hpi57
        have hin58 : vp_in 72 2126 := In.inb (⟨by decide, by decide⟩ : In 72 72 72) (by decide) (by decide)
        refine pl_iald hx hb hG.1 hP (hst.1 271 (by decide)) 0 hf55 rfl hin58 dX11_heard_45 ?_
        refine lv_topi (fun x59 ex59 => ?_)
        have hpd60 : PRED (th 20) (th 21) 72 x59 := by rw [ex59]; exact prw_at (k := 72) hc56 (by decide) (by decide) (by omega) (by decide)
        have hb61 : In x59 0 18 := ⟨(hpd60.1 rfl).1, Int.le_trans (hpd60.1 rfl).2 (by omega)⟩
        have hgl62 : x59.toInt = th 19 := by rw [ex59]; exact pinE (k := 72) (by decide) (hpi57 (by omega))
        have hpd60b := (hpd60.1 rfl).2
        refine lv_icmp_lt (tgt := 51) hx hb dX11_heard_46 (by decide) (fun c63 => ?_) (fun c63 => ?_)
        ·
          have cc64 : x51.toInt < x59.toInt := i32_lt.mp c63
          have hb65 : In x59 1 18 := In.lt2 hb52 hb61 cc64 (by omega) (by omega)
          refine lv_aload_n hx hb dX11_heard_51 rfl (lv_at hl 0 rfl) ?_
          refine pl_get (v := .ref (ad 271)) hx hb hts (fun w h => mT (inX11 w h)) hown hG.1 hP (hst.1 255 (by decide)) hf4 rfl 41 (by decide) (hts _ (mT wg_1377)) (fun _ h => h) rfl dX11_heard_52 ?_
          refine lv_bipush (v := 80) hx hb dX11_heard_55 (by decide) ?_
          refine lv_bipush (v := 81) hx hb dX11_heard_57 (by decide) ?_
          refine lv_iconst (v := 3) hx hb dX11_heard_59 (by decide) ?_
          refine lv_iload_n hx hb dX11_heard_60 rfl (lv_at hl 1 rfl) ?_
          refine lv_imul hx hb dX11_heard_61 ?_
          refine lv_topi (fun x66 ex66 => ?_)
          have hb67 : In x66 0 15 := ex66 ▸ In.mul (⟨by decide, by decide⟩ : In 3 3 3) hb17 (by decide) (by decide) (by decide) (by decide) (by decide)
          have et68 : x66.toInt = 3 * z1.toInt := In.mule ex66 (⟨by decide, by decide⟩ : In 3 3 3) hb17 (by decide) (by decide) (by decide) (by decide) rfl
          refine lv_iload_n hx hb dX11_heard_62 rfl (lv_at hl 2 rfl) ?_
          refine lv_iadd hx hb dX11_heard_63 ?_
          refine lv_topi (fun x69 ex69 => ?_)
          have hb70 : In x69 0 17 := ex69 ▸ In.add hb67 hb18 (by decide) (by decide) (by decide) (by decide)
          have et71 : x69.toInt = x66.toInt + z2.toInt := In.add2e ex69 hb67 hb18 (by decide) (by decide)
          refine lv_imul hx hb dX11_heard_64 ?_
          refine lv_topi (fun x72 ex72 => ?_)
          have hb73 : In x72 0 1377 := ex72 ▸ In.mul (⟨by decide, by decide⟩ : In 81 81 81) hb70 (by decide) (by decide) (by decide) (by decide) (by decide)
          have et74 : x72.toInt = 81 * x69.toInt := In.mule ex72 (⟨by decide, by decide⟩ : In 81 81 81) hb70 (by decide) (by decide) (by decide) (by decide) rfl
          refine lv_iadd hx hb dX11_heard_65 ?_
          refine lv_topi (fun x75 ex75 => ?_)
          have hb76 : In x75 80 1457 := ex75 ▸ In.add (⟨by decide, by decide⟩ : In 80 80 80) hb73 (by decide) (by decide) (by decide) (by decide)
          have et77 : x75.toInt = (80 : Int32).toInt + x72.toInt := In.add2e ex75 (⟨by decide, by decide⟩ : In 80 80 80) hb73 (by decide) (by decide)
          refine lv_bipush (v := 9) hx hb dX11_heard_66 (by decide) ?_
          refine lv_iload_n hx hb dX11_heard_68 rfl (lv_at hl 3 rfl) ?_
          refine lv_imul hx hb dX11_heard_69 ?_
          refine lv_topi (fun x78 ex78 => ?_)
          have hb79 : In x78 0 72 := ex78 ▸ In.mul (⟨by decide, by decide⟩ : In 9 9 9) hb30 (by decide) (by decide) (by decide) (by decide) (by decide)
          have et80 : x78.toInt = 9 * z3.toInt := In.mule ex78 (⟨by decide, by decide⟩ : In 9 9 9) hb30 (by decide) (by decide) (by decide) (by decide) rfl
          refine lv_iadd hx hb dX11_heard_70 ?_
          refine lv_topi (fun x81 ex81 => ?_)
          have hb82 : In x81 80 1529 := ex81 ▸ In.add hb76 hb79 (by decide) (by decide) (by decide) (by decide)
          have et83 : x81.toInt = x75.toInt + x78.toInt := In.add2e ex81 hb76 hb79 (by decide) (by decide)
          refine lv_iload hx hb dX11_heard_71 (lv_at hl 4 rfl) ?_
          refine lv_iadd hx hb dX11_heard_73 ?_
          refine lv_topi (fun x84 ex84 => ?_)
          have hb85 : In x84 80 1537 := ex84 ▸ In.add hb82 hb42 (by decide) (by decide) (by decide) (by decide)
          have et86 : x84.toInt = x81.toInt + z4.toInt := In.add2e ex84 hb82 hb42 (by decide) (by decide)
          have hin87 : vp_in x84 2126 := In.inb hb85 (by decide) (by decide)
          refine pl_iald hx hb hG.1 hP (hst.1 271 (by decide)) 0 hf55 rfl hin87 dX11_heard_74 ?_
          refine lv_topi (fun x88 ex88 => ?_)
          exact ret_i (ty := .int) hx hb hr hlocks (rfl) hP hD hS (Nat.le_of_ble_eq_true rfl) (Nat.le_of_ble_eq_true rfl) (⟨rfl, hT, hfr⟩) dX11_heard_75
        ·
          have cc89 : x59.toInt ≤ x51.toInt := i32_nlt c63
          have hb90 : In x59 0 17 := In.ge2 hb52 hb61 cc89 (by omega) (by omega)
          refine lv_iconst (v := (-1)) hx hb dX11_heard_49 (by decide) ?_
          exact ret_i (ty := .int) hx hb hr hlocks (rfl) hP hD hS (Nat.le_of_ble_eq_true rfl) (Nat.le_of_ble_eq_true rfl) (⟨rfl, hT, hfr⟩) dX11_heard_50

abbrev rm_X11_told : Room := { frames := 2, cells := 0, slots := 0, locals := 46 }
abbrev po_X11_told (g : GG) (ad : Nat → Nat) (th : Nat → Int) (L : List Nat) (f : HP) (z1 : Int32) (z2 : Int32) (z3 : Int32) : Int32 → (List Nat × HP) → Prop := fun r u => u.1 = L ∧ TI g ad th u.2 ∧ (∀ b, b ≠ (ad 255) → u.2 b = f b)
set_option maxHeartbeats 4000000 in
set_option maxRecDepth 100000 in
theorem s_X11_told (l : Launch) (g : GG) (ad : Nat → Nat) (th : Nat → Int) (L : List Nat) (f : HP) (sz : Nat) (z1 : Int32) (z2 : Int32) (z3 : Int32) (hst : ST ad L) (hT : TI g ad th f) (hM : MI th) : MtI l g yX11_told cX11_told 4 (some .int) rm_X11_told [.ref (ad 255), .int z1, .int z2, .int z3] L f sz (po_X11_told g ad th L f z1 z2 z3) := by
  refine MtI.of (by decide +kernel) (Nat.le_of_ble_eq_true rfl) ?_
  intro p e s m below meth c A hEn hP hD hS ls hl
  obtain ⟨hx, hb, hr, hml, hown, hlocks, hts, hG, hA, hE, hnm⟩ := hEn
  have hown : s.vm.findClass "RulerWordModel" = some m.cls := hown
  have hl : lv_has ls 4 [(0, .ref (ad 255)), (1, .int z1), (2, .int z2), (3, .int z3)] := hl
  have hfr : (∀ b, b ≠ (ad 255) → f b = f b) := fun b z0_ => rfl
  have hM0 := hM
  obtain ⟨m1, m2, m3, m4, m5, m6, m7, m8, m9, m10⟩ := hM0
  have m20 := mi20 m2 m3
  refine lv_aload_n hx hb dX11_told_0 rfl (lv_at hl 0 rfl) ?_
  refine lv_iconst (v := 0) hx hb dX11_told_1 (by decide) ?_
  refine M0e hT (fun v0_1 v2_1 v3_1 v4_1 v5_1 v6_1 v8_1 v9_1 v12_1 v13_1 v14_1 v15_1 v16_1 v17_1 v18_1 v19_1 v20_1 v21_1 v22_1 v23_1 v25_1 v36_1 v37_1 v38_1 v39_1 v40_1 v45_1 v46_1 v47_1 v48_1 v50_1 v51_1 v53_1 v55_1 hf2 hv0_1 hv2_1 hg2_1 hv3_1 hg3_1 hv4_1 hg4_1 hv5_1 hg5_1 hv6_1 hg6_1 hv8_1 hg8_1 hv9_1 hg9_1 hv12_1 hv13_1 hg13_1 hv14_1 hg14_1 hv15_1 hg15_1 hv17_1 hg17_1 hv20_1 hg20_1 hv23_1 hg23_1 hv25_1 hg25_1 hv36_1 hg36_1 hv47_1 hg47_1 hv48_1 hg48_1 hv53_1 hg53_1 hv55_1 hg55_1 hrel0_1 => ?_)
  refine pl_put (ty := .int) (v := .int 0) (fs' := [.int 0, .ref (ad 256), .int v2_1, .int v3_1, .int v4_1, .int v5_1, .int v6_1, .ref (ad 257), .int v8_1, .int v9_1, .ref (ad 258), .ref (ad 259), .int v12_1, .int v13_1, .int v14_1, .int v15_1, .int v16_1, .int v17_1, .int v18_1, .int v19_1, .int v20_1, .long v21_1, .long v22_1, .int v23_1, .ref (ad 260), .int v25_1, .ref (ad 261), .ref (ad 262), .ref (ad 263), .ref (ad 264), .ref (ad 265), .ref (ad 266), .ref (ad 267), .ref (ad 268), .ref (ad 269), .ref (ad 270), .int v36_1, .int v37_1, .int v38_1, .int v39_1, .int v40_1, .ref (ad 271), .ref (ad 272), .ref (ad 273), .ref (ad 274), .long v45_1, .long v46_1, .int v47_1, .int v48_1, .ref (ad 275), .int v50_1, .int v51_1, .ref (ad 276), .int v53_1, .ref (ad 277), .int v55_1]) hx hb hts (fun w h => mT (inX11 w h)) tyX11 tyX11_ok nmX11 hown hG.1 hP hD hS (hst.1 255 (by decide)) hf2 rfl 0 (by decide) (hts _ (mT wg_1336)) (fun _ h => h) rfl (by decide +kernel) (rfl) (rfl) (Nat.le_of_ble_eq_true rfl) rfl dX11_told_2 (fun H locs f3 hf4 ho5 hP hD hS => ?_)
  have hfr : (∀ b, b ≠ (ad 255) → f3 b = f b) := fun b z0_ => (ho5 b z0_).trans (hfr b z0_)
  refine lv_aload_n hx hb dX11_told_5 rfl (lv_at hl 0 rfl) ?_
  refine lv_iload_n hx hb dX11_told_6 rfl (lv_at hl 1 rfl) ?_
  have hT := TI.updM hT hst (k := 0) (by decide) hf4 ho5 ⟨0, v2_1, v3_1, v4_1, v5_1, v6_1, v8_1, v9_1, v12_1, v13_1, v14_1, v15_1, v16_1, v17_1, v18_1, v19_1, v20_1, v21_1, v22_1, v23_1, v25_1, v36_1, v37_1, v38_1, v39_1, v40_1, v45_1, v46_1, v47_1, v48_1, v50_1, v51_1, v53_1, v55_1, rfl, (⟨by decide, by decide⟩ : In 0 0 1), hv2_1, hg2_1, hv3_1, hg3_1, hv4_1, hg4_1, hv5_1, hg5_1, hv6_1, hg6_1, hv8_1, hg8_1, hv9_1, hg9_1, hv12_1, hv13_1, hg13_1, hv14_1, hg14_1, hv15_1, hg15_1, hv17_1, hg17_1, hv20_1, hg20_1, hv23_1, hg23_1, hv25_1, hg25_1, hv36_1, hg36_1, hv47_1, hg47_1, hv48_1, hg48_1, hv53_1, hg53_1, hv55_1, hg55_1, hrel0_1⟩
  refine call_i (run_V (rm := rm_X11_isPeer) hx hb hml hown hts (s_X11_isPeer l g ad th _ _ _ z1 hst hT ) cV_X11_isPeer wg_1718 ⟨Nat.le_of_ble_eq_true rfl, Nat.le_of_ble_eq_true rfl⟩ hG hE hA hP hD hS (hst.1 255 (by decide)) hf4 rfl rfl hl.1 (As := [.int z1]) (rest := []) rfl (Nat.le_of_ble_eq_true rfl) dX11_told_7 ⟨Nat.le_of_ble_eq_true rfl, Nat.le_of_ble_eq_true rfl⟩) hA hD hS (fun r6 L7 f8 H locs hp9 hP hD hS => ?_)
  obtain ⟨eL10L, eL10T, eL10R, eL10W0, eL10X0⟩ := hp9
  have eL10L : L7 = L := eL10L
  have eL10T : f8 = f3 := eL10T
  rw [eL10L, eL10T] at hP hD
  have eL10R : In r6 0 1 := eL10R
  have hcl11 : r6.toInt = 0 ∨ th 15 = 1 := eL10X0
  have hJ56 : ∀ (H : Heap) (locs : List Loc) (ls : Array Slot), va_P g.1 vwCl (va_pl L f3) H → va_D A (va_pl L f3) → va_S A s.heap H locs → lv_has ls 4 [(0, .ref (ad 255)), (1, .int z1), (2, .int z2), (3, .int z3)] → W p l e rm_X11_told s m [.ref (ad 255), .int z1, .int z2, .int z3].toArray below meth c H locs 0 0 (MQ below (va_Qi (po_X11_told g ad th L f z1 z2 z3) (PstB g A) A) [.ref (ad 255), .int z1, .int z2, .int z3].toArray s rm_X11_told.cells rm_X11_told.slots A) (F0 m 56 ls []) := by
    intro H locs ls hP hD hS hl
    refine lv_iconst (v := (-1)) hx hb dX11_told_56 (by decide) ?_
    exact ret_i (ty := .int) hx hb hr hlocks (rfl) hP hD hS (Nat.le_of_ble_eq_true rfl) (Nat.le_of_ble_eq_true rfl) (⟨rfl, hT, hfr⟩) dX11_told_57
  refine lv_if_eq (tgt := 56) hx hb dX11_told_10 (by decide) (fun c12 => ?_) (fun c12 => ?_)
  ·
    have oc0 : (0 : Int32).toInt = 0 := by decide
    have cc13 : r6.toInt = (0 : Int32).toInt := congrArg Int32.toInt c12
    have hb14 : In r6 0 0 := In.eq1 eL10R (⟨by decide, by decide⟩ : In 0 0 0) cc13 (by omega) (by omega)
    exact hJ56 _ _ _ hP hD hS (lv_sub hl [0, 1, 2, 3] rfl)
  ·
    have oc0 : (0 : Int32).toInt = 0 := by decide
    have cc15 : r6.toInt ≠ (0 : Int32).toInt := i32_ne c12
    have hb16 : In r6 1 1 := In.ne1 eL10R (⟨by decide, by decide⟩ : In 0 0 0) cc15 (by omega) (by omega)
    have hb17 : In z1 0 8 := In.both (eL10W0 c12) (In.full z1) (by decide) (by decide)
    refine lv_iload_n hx hb dX11_told_13 rfl (lv_at hl 2 rfl) ?_
    refine lv_i2l hx hb dX11_told_14 rfl ?_
    refine lv_lconst (v := 0) hx hb dX11_told_15 (by decide) ?_
    refine lv_aload_n hx hb dX11_told_16 rfl (lv_at hl 0 rfl) ?_
    refine call_i (run_V (rm := rm_X11_over) hx hb hml hown hts (s_X11_over l g ad th _ _ _  hst hT (show MI th from hM)) cV_X11_over wg_1769 ⟨Nat.le_of_ble_eq_true rfl, Nat.le_of_ble_eq_true rfl⟩ hG hE hA hP hD hS (hst.1 255 (by decide)) hf4 rfl rfl hl.1 (As := []) (rest := [.long 0, .long (z2.toInt64)]) rfl (Nat.le_of_ble_eq_true rfl) dX11_told_17 ⟨Nat.le_of_ble_eq_true rfl, Nat.le_of_ble_eq_true rfl⟩) hA hD hS (fun r18 L19 f20 H locs hp21 hP hD hS => ?_)
    obtain ⟨eL22L, eL22T, eL22R, eL22X0⟩ := hp21
    have eL22L : L19 = L := eL22L
    have eL22T : f20 = f3 := eL22T
    rw [eL22L, eL22T] at hP hD
    have eL22R : In r18 0 6 := eL22R
    have hcl23 : r18.toInt = 0 ∨ th 15 = 1 := eL22X0
    refine lv_iconst (v := 1) hx hb dX11_told_20 (by decide) ?_
    refine lv_isub hx hb dX11_told_21 ?_
    refine lv_topi (fun x24 ex24 => ?_)
    have hb25 : In x24 (-1) 5 := ex24 ▸ In.sub eL22R (⟨by decide, by decide⟩ : In 1 1 1) (by decide) (by decide) (by decide) (by decide)
    have et26 : x24.toInt = r18.toInt + (-1) := In.sube ex24 eL22R (k := 1) (by decide) (by decide) (by decide)
    refine lv_i2l hx hb dX11_told_22 rfl ?_
    refine call_i (run_S (rm := rm_X11_isIn) hx hb hml hown hts (s_X11_isIn l g ad th _ _ _ (z2.toInt64) 0 (x24.toInt64) hst hT ) cS_X11_isIn wg_1581 ⟨Nat.le_of_ble_eq_true rfl, Nat.le_of_ble_eq_true rfl⟩ hG hE hA hP hD hS rfl hl.1 (As := [.long (z2.toInt64), .long 0, .long (x24.toInt64)]) (rest := []) rfl (Nat.le_of_ble_eq_true rfl) dX11_told_23 ⟨Nat.le_of_ble_eq_true rfl, Nat.le_of_ble_eq_true rfl⟩) hA hD hS (fun r27 L28 f29 H locs hp30 hP hD hS => ?_)
    obtain ⟨eL31L, eL31T, eL31R, eL31X0, eL31X1⟩ := hp30
    have eL31L : L28 = L := eL31L
    have eL31T : f29 = f3 := eL31T
    rw [eL31L, eL31T] at hP hD
    have eL31R : In r27 0 1 := eL31R
    have hii32 : r27.toInt = 0 ∨ (0 ≤ z2.toInt ∧ z2.toInt ≤ x24.toInt) := by have z := eL31X0; rw [i2l_t z2, (by decide : (0 : Int64).toInt = 0), i2l_t x24] at z; exact z
    have hii32w : ¬ r27 = 0 → In z2 0 5 := fun c => by have c2 := i32_ne c; have e0 : (0 : Int32).toInt = 0 := (by decide); obtain ⟨o1, p1⟩ := (hb25 : In _ _ _); exact ⟨by omega, by omega⟩
    refine lv_if_eq (tgt := 56) hx hb dX11_told_26 (by decide) (fun c33 => ?_) (fun c33 => ?_)
    ·
      have oc0 : (0 : Int32).toInt = 0 := by decide
      have cc34 : r27.toInt = (0 : Int32).toInt := congrArg Int32.toInt c33
      have hb35 : In r27 0 0 := In.eq1 eL31R (⟨by decide, by decide⟩ : In 0 0 0) cc34 (by omega) (by omega)
      exact hJ56 _ _ _ hP hD hS (lv_sub hl [0, 1, 2, 3] rfl)
    ·
      have oc0 : (0 : Int32).toInt = 0 := by decide
      have cc36 : r27.toInt ≠ (0 : Int32).toInt := i32_ne c33
      have hb37 : In r27 1 1 := In.ne1 eL31R (⟨by decide, by decide⟩ : In 0 0 0) cc36 (by omega) (by omega)
      have hb38 : In z2 0 5 := In.both (hii32w c33) (In.full z2) (by decide) (by decide)
      refine lv_iload_n hx hb dX11_told_29 rfl (lv_at hl 3 rfl) ?_
      refine lv_i2l hx hb dX11_told_30 rfl ?_
      refine lv_lconst (v := 0) hx hb dX11_told_31 (by decide) ?_
      refine lv_ldc2 hx hb hown (hts _ (mT wg_1773)) dX11_told_32 ?_
      refine call_i (run_S (rm := rm_X11_isIn) hx hb hml hown hts (s_X11_isIn l g ad th _ _ _ (z3.toInt64) 0 7 hst hT ) cS_X11_isIn wg_1581 ⟨Nat.le_of_ble_eq_true rfl, Nat.le_of_ble_eq_true rfl⟩ hG hE hA hP hD hS rfl hl.1 (As := [.long (z3.toInt64), .long 0, .long 7]) (rest := []) rfl (Nat.le_of_ble_eq_true rfl) dX11_told_35 ⟨Nat.le_of_ble_eq_true rfl, Nat.le_of_ble_eq_true rfl⟩) hA hD hS (fun r39 L40 f41 H locs hp42 hP hD hS => ?_)
      obtain ⟨eL43L, eL43T, eL43R, eL43X0, eL43X1⟩ := hp42
      have eL43L : L40 = L := eL43L
      have eL43T : f41 = f3 := eL43T
      rw [eL43L, eL43T] at hP hD
      have eL43R : In r39 0 1 := eL43R
      have hii44 : r39.toInt = 0 ∨ (0 ≤ z3.toInt ∧ z3.toInt ≤ 7) := by have z := eL43X0; rw [i2l_t z3, (by decide : (0 : Int64).toInt = 0), (by decide : (7 : Int64).toInt = 7)] at z; exact z
      have hii44w : ¬ r39 = 0 → In z3 0 7 := fun c => by have c2 := i32_ne c; have e0 : (0 : Int32).toInt = 0 := (by decide); exact ⟨by omega, by omega⟩
      refine lv_if_eq (tgt := 56) hx hb dX11_told_38 (by decide) (fun c45 => ?_) (fun c45 => ?_)
      ·
        have oc0 : (0 : Int32).toInt = 0 := by decide
        have cc46 : r39.toInt = (0 : Int32).toInt := congrArg Int32.toInt c45
        have hb47 : In r39 0 0 := In.eq1 eL43R (⟨by decide, by decide⟩ : In 0 0 0) cc46 (by omega) (by omega)
        exact hJ56 _ _ _ hP hD hS (lv_sub hl [0, 1, 2, 3] rfl)
      ·
        have oc0 : (0 : Int32).toInt = 0 := by decide
        have cc48 : r39.toInt ≠ (0 : Int32).toInt := i32_ne c45
        have hb49 : In r39 1 1 := In.ne1 eL43R (⟨by decide, by decide⟩ : In 0 0 0) cc48 (by omega) (by omega)
        have hb50 : In z3 0 7 := In.both (hii44w c45) (In.full z3) (by decide) (by decide)
        refine lv_aload_n hx hb dX11_told_41 rfl (lv_at hl 0 rfl) ?_
        refine pl_get (v := .ref (ad 271)) hx hb hts (fun w h => mT (inX11 w h)) hown hG.1 hP (hst.1 255 (by decide)) hf4 rfl 41 (by decide) (hts _ (mT wg_1377)) (fun _ h => h) rfl dX11_told_42 ?_
        refine lv_iload_n hx hb dX11_told_45 rfl (lv_at hl 2 rfl) ?_
        refine lv_iload_n hx hb dX11_told_46 rfl (lv_at hl 1 rfl) ?_
        refine call_i (run_S (rm := rm_X11_toldAt) hx hb hml hown hts (s_X11_toldAt l g ad th _ _ _ z2 z1 hst hT hb38 hb17) cS_X11_toldAt wg_1699 ⟨Nat.le_of_ble_eq_true rfl, Nat.le_of_ble_eq_true rfl⟩ hG hE hA hP hD hS rfl hl.1 (As := [.int z2, .int z1]) (rest := [.ref (ad 271)]) rfl (Nat.le_of_ble_eq_true rfl) dX11_told_47 ⟨Nat.le_of_ble_eq_true rfl, Nat.le_of_ble_eq_true rfl⟩) hA hD hS (fun r51 L52 f53 H locs hp54 hP hD hS => ?_)
        obtain ⟨eL55L, eL55T, eL55R⟩ := hp54
        have eL55L : L52 = L := eL55L
        have eL55T : f53 = f3 := eL55T
        rw [eL55L, eL55T] at hP hD
        have eL55R : In r51 1538 1962 := eL55R
        refine lv_iload_n hx hb dX11_told_50 rfl (lv_at hl 3 rfl) ?_
        refine lv_iadd hx hb dX11_told_51 ?_
        refine lv_topi (fun x56 ex56 => ?_)
        have hb57 : In x56 1538 1969 := ex56 ▸ In.add eL55R hb50 (by decide) (by decide) (by decide) (by decide)
        have et58 : x56.toInt = r51.toInt + z3.toInt := In.add2e ex56 eL55R hb50 (by decide) (by decide)
        obtain ⟨rw59, hf60, hpi62, hc61⟩ := hT.2.2 16 (by decide)
        have hc61 : PRW 2126 (th 22) (th 20) (th 21) rw59 := hc61
        have hpi62 : ((72 : Int) < (th 22) → (rw59 72).toInt = th 19) := hpi62
        have hin63 : vp_in x56 2126 := In.inb hb57 (by decide) (by decide)
        refine pl_iald hx hb hG.1 hP (hst.1 271 (by decide)) 0 hf60 rfl hin63 dX11_told_52 ?_
        refine lv_topi (fun x64 ex64 => ?_)
        refine lv_goto (tgt := 57) hx hb dX11_told_53 (by decide) ?_
        exact ret_i (ty := .int) hx hb hr hlocks (rfl) hP hD hS (Nat.le_of_ble_eq_true rfl) (Nat.le_of_ble_eq_true rfl) (⟨rfl, hT, hfr⟩) dX11_told_57

abbrev rm_X11_line : Room := { frames := 1, cells := 0, slots := 0, locals := 25 }
abbrev po_X11_line (g : GG) (ad : Nat → Nat) (th : Nat → Int) (L : List Nat) (f : HP) (z1 : Int32) (z2 : Int32) : Int32 → (List Nat × HP) → Prop := fun r u => u.1 = L ∧ TI g ad th u.2 ∧ (∀ b, b ≠ (ad 255) → u.2 b = f b)
set_option maxHeartbeats 4000000 in
set_option maxRecDepth 100000 in
theorem s_X11_line (l : Launch) (g : GG) (ad : Nat → Nat) (th : Nat → Int) (L : List Nat) (f : HP) (sz : Nat) (z1 : Int32) (z2 : Int32) (hst : ST ad L) (hT : TI g ad th f)  : MtI l g yX11_line cX11_line 3 (some .int) rm_X11_line [.ref (ad 255), .int z1, .int z2] L f sz (po_X11_line g ad th L f z1 z2) := by
  refine MtI.of (by decide +kernel) (Nat.le_of_ble_eq_true rfl) ?_
  intro p e s m below meth c A hEn hP hD hS ls hl
  obtain ⟨hx, hb, hr, hml, hown, hlocks, hts, hG, hA, hE, hnm⟩ := hEn
  have hown : s.vm.findClass "RulerWordModel" = some m.cls := hown
  have hl : lv_has ls 3 [(0, .ref (ad 255)), (1, .int z1), (2, .int z2)] := hl
  have hfr : (∀ b, b ≠ (ad 255) → f b = f b) := fun b z0_ => rfl
  refine lv_aload_n hx hb dX11_line_0 rfl (lv_at hl 0 rfl) ?_
  refine lv_iload_n hx hb dX11_line_1 rfl (lv_at hl 1 rfl) ?_
  refine lv_i2l hx hb dX11_line_2 rfl ?_
  refine lv_lconst (v := 0) hx hb dX11_line_3 (by decide) ?_
  refine lv_aload_n hx hb dX11_line_4 rfl (lv_at hl 0 rfl) ?_
  refine M0e hT (fun v0_1 v2_1 v3_1 v4_1 v5_1 v6_1 v8_1 v9_1 v12_1 v13_1 v14_1 v15_1 v16_1 v17_1 v18_1 v19_1 v20_1 v21_1 v22_1 v23_1 v25_1 v36_1 v37_1 v38_1 v39_1 v40_1 v45_1 v46_1 v47_1 v48_1 v50_1 v51_1 v53_1 v55_1 hf2 hv0_1 hv2_1 hg2_1 hv3_1 hg3_1 hv4_1 hg4_1 hv5_1 hg5_1 hv6_1 hg6_1 hv8_1 hg8_1 hv9_1 hg9_1 hv12_1 hv13_1 hg13_1 hv14_1 hg14_1 hv15_1 hg15_1 hv17_1 hg17_1 hv20_1 hg20_1 hv23_1 hg23_1 hv25_1 hg25_1 hv36_1 hg36_1 hv47_1 hg47_1 hv48_1 hg48_1 hv53_1 hg53_1 hv55_1 hg55_1 hrel0_1 => ?_)
  refine pl_get (v := .int v12_1) hx hb hts (fun w h => mT (inX11 w h)) hown hG.1 hP (hst.1 255 (by decide)) hf2 rfl 12 (by decide) (hts _ (mT wg_1348)) (fun _ h => h) rfl dX11_line_5 ?_
  refine lv_iconst (v := 1) hx hb dX11_line_8 (by decide) ?_
  refine lv_isub hx hb dX11_line_9 ?_
  refine lv_topi (fun x3 ex3 => ?_)
  have hb4 : In x3 (-1) 19 := ex3 ▸ In.sub hv12_1 (⟨by decide, by decide⟩ : In 1 1 1) (by decide) (by decide) (by decide) (by decide)
  have et5 : x3.toInt = v12_1.toInt + (-1) := In.sube ex3 hv12_1 (k := 1) (by decide) (by decide) (by decide)
  refine lv_i2l hx hb dX11_line_10 rfl ?_
  refine call_i (run_S (rm := rm_X11_isIn) hx hb hml hown hts (s_X11_isIn l g ad th _ _ _ (z1.toInt64) 0 (x3.toInt64) hst hT ) cS_X11_isIn wg_1581 ⟨Nat.le_of_ble_eq_true rfl, Nat.le_of_ble_eq_true rfl⟩ hG hE hA hP hD hS rfl hl.1 (As := [.long (z1.toInt64), .long 0, .long (x3.toInt64)]) (rest := [.ref (ad 255)]) rfl (Nat.le_of_ble_eq_true rfl) dX11_line_11 ⟨Nat.le_of_ble_eq_true rfl, Nat.le_of_ble_eq_true rfl⟩) hA hD hS (fun r6 L7 f8 H locs hp9 hP hD hS => ?_)
  obtain ⟨eL10L, eL10T, eL10R, eL10X0, eL10X1⟩ := hp9
  have eL10L : L7 = L := eL10L
  have eL10T : f8 = f := eL10T
  rw [eL10L, eL10T] at hP hD
  have eL10R : In r6 0 1 := eL10R
  have hii11 : r6.toInt = 0 ∨ (0 ≤ z1.toInt ∧ z1.toInt ≤ x3.toInt) := by have z := eL10X0; rw [i2l_t z1, (by decide : (0 : Int64).toInt = 0), i2l_t x3] at z; exact z
  have hii11w : ¬ r6 = 0 → In z1 0 19 := fun c => by have c2 := i32_ne c; have e0 : (0 : Int32).toInt = 0 := (by decide); obtain ⟨o1, p1⟩ := (hb4 : In _ _ _); exact ⟨by omega, by omega⟩
  have hJ33 : ∀ (H : Heap) (locs : List Loc) (ls : Array Slot), va_P g.1 vwCl (va_pl L f) H → va_D A (va_pl L f) → va_S A s.heap H locs → lv_has ls 3 [(0, .ref (ad 255)), (1, .int z1), (2, .int z2)] → W p l e rm_X11_line s m [.ref (ad 255), .int z1, .int z2].toArray below meth c H locs 0 0 (MQ below (va_Qi (po_X11_line g ad th L f z1 z2) (PstB g A) A) [.ref (ad 255), .int z1, .int z2].toArray s rm_X11_line.cells rm_X11_line.slots A) (F0 m 33 ls [.ref (ad 255)]) := by
    intro H locs ls hP hD hS hl
    refine lv_iconst (v := 1) hx hb dX11_line_33 (by decide) ?_
    refine pl_put (ty := .int) (v := .int 1) (fs' := [.int 1, .ref (ad 256), .int v2_1, .int v3_1, .int v4_1, .int v5_1, .int v6_1, .ref (ad 257), .int v8_1, .int v9_1, .ref (ad 258), .ref (ad 259), .int v12_1, .int v13_1, .int v14_1, .int v15_1, .int v16_1, .int v17_1, .int v18_1, .int v19_1, .int v20_1, .long v21_1, .long v22_1, .int v23_1, .ref (ad 260), .int v25_1, .ref (ad 261), .ref (ad 262), .ref (ad 263), .ref (ad 264), .ref (ad 265), .ref (ad 266), .ref (ad 267), .ref (ad 268), .ref (ad 269), .ref (ad 270), .int v36_1, .int v37_1, .int v38_1, .int v39_1, .int v40_1, .ref (ad 271), .ref (ad 272), .ref (ad 273), .ref (ad 274), .long v45_1, .long v46_1, .int v47_1, .int v48_1, .ref (ad 275), .int v50_1, .int v51_1, .ref (ad 276), .int v53_1, .ref (ad 277), .int v55_1]) hx hb hts (fun w h => mT (inX11 w h)) tyX11 tyX11_ok nmX11 hown hG.1 hP hD hS (hst.1 255 (by decide)) hf2 rfl 0 (by decide) (hts _ (mT wg_1336)) (fun _ h => h) rfl (by decide +kernel) (rfl) (rfl) (Nat.le_of_ble_eq_true rfl) rfl dX11_line_34 (fun H locs f12 hf13 ho14 hP hD hS => ?_)
    have hfr : (∀ b, b ≠ (ad 255) → f12 b = f b) := fun b z0_ => (ho14 b z0_).trans (hfr b z0_)
    refine lv_aload_n hx hb dX11_line_37 rfl (lv_at hl 0 rfl) ?_
    refine pl_get (v := .int 1) hx hb hts (fun w h => mT (inX11 w h)) hown hG.1 hP (hst.1 255 (by decide)) hf13 rfl 0 (by decide) (hts _ (mT wg_1336)) (fun _ h => h) rfl dX11_line_38 ?_
    have hT := TI.updM hT hst (k := 0) (by decide) hf13 ho14 ⟨1, v2_1, v3_1, v4_1, v5_1, v6_1, v8_1, v9_1, v12_1, v13_1, v14_1, v15_1, v16_1, v17_1, v18_1, v19_1, v20_1, v21_1, v22_1, v23_1, v25_1, v36_1, v37_1, v38_1, v39_1, v40_1, v45_1, v46_1, v47_1, v48_1, v50_1, v51_1, v53_1, v55_1, rfl, (⟨by decide, by decide⟩ : In 1 0 1), hv2_1, hg2_1, hv3_1, hg3_1, hv4_1, hg4_1, hv5_1, hg5_1, hv6_1, hg6_1, hv8_1, hg8_1, hv9_1, hg9_1, hv12_1, hv13_1, hg13_1, hv14_1, hg14_1, hv15_1, hg15_1, hv17_1, hg17_1, hv20_1, hg20_1, hv23_1, hg23_1, hv25_1, hg25_1, hv36_1, hg36_1, hv47_1, hg47_1, hv48_1, hg48_1, hv53_1, hg53_1, hv55_1, hg55_1, hrel0_1⟩
    refine lv_if_le (tgt := 48) hx hb dX11_line_41 (by decide) (fun c15 => ?_) (fun c15 => ?_)
    ·
      have oc1 : (1 : Int32).toInt = 1 := by decide
      have oc0 : (0 : Int32).toInt = 0 := by decide
      have cc16 : (1 : Int32).toInt ≤ (0 : Int32).toInt := i32_le.mp c15
      exact In.empty (lo := 1) (hi := 0) (In.le1 (⟨by decide, by decide⟩ : In 1 1 1) (⟨by decide, by decide⟩ : In 0 0 0) cc16 (by omega) (by omega)) (by decide)
    ·
      have oc1 : (1 : Int32).toInt = 1 := by decide
      have oc0 : (0 : Int32).toInt = 0 := by decide
      have cc17 : (0 : Int32).toInt < (1 : Int32).toInt := i32_nle c15
      refine lv_iconst (v := 0) hx hb dX11_line_44 (by decide) ?_
      refine lv_goto (tgt := 58) hx hb dX11_line_45 (by decide) ?_
      exact ret_i (ty := .int) hx hb hr hlocks (rfl) hP hD hS (Nat.le_of_ble_eq_true rfl) (Nat.le_of_ble_eq_true rfl) (⟨rfl, hT, hfr⟩) dX11_line_58
  refine lv_if_eq (tgt := 33) hx hb dX11_line_14 (by decide) (fun c18 => ?_) (fun c18 => ?_)
  ·
    have oc0 : (0 : Int32).toInt = 0 := by decide
    have cc19 : r6.toInt = (0 : Int32).toInt := congrArg Int32.toInt c18
    have hb20 : In r6 0 0 := In.eq1 eL10R (⟨by decide, by decide⟩ : In 0 0 0) cc19 (by omega) (by omega)
    exact hJ33 _ _ _ hP hD hS (lv_sub hl [0, 1, 2] rfl)
  ·
    have oc0 : (0 : Int32).toInt = 0 := by decide
    have cc21 : r6.toInt ≠ (0 : Int32).toInt := i32_ne c18
    have hb22 : In r6 1 1 := In.ne1 eL10R (⟨by decide, by decide⟩ : In 0 0 0) cc21 (by omega) (by omega)
    have hb23 : In z1 0 19 := In.both (hii11w c18) (In.full z1) (by decide) (by decide)
    refine lv_iload_n hx hb dX11_line_17 rfl (lv_at hl 2 rfl) ?_
    refine lv_i2l hx hb dX11_line_18 rfl ?_
    refine lv_lconst (v := 0) hx hb dX11_line_19 (by decide) ?_
    refine lv_ldc2 hx hb hown (hts _ (mT wg_1747)) dX11_line_20 ?_
    refine call_i (run_S (rm := rm_X11_isIn) hx hb hml hown hts (s_X11_isIn l g ad th _ _ _ (z2.toInt64) 0 4 hst hT ) cS_X11_isIn wg_1581 ⟨Nat.le_of_ble_eq_true rfl, Nat.le_of_ble_eq_true rfl⟩ hG hE hA hP hD hS rfl hl.1 (As := [.long (z2.toInt64), .long 0, .long 4]) (rest := [.ref (ad 255)]) rfl (Nat.le_of_ble_eq_true rfl) dX11_line_23 ⟨Nat.le_of_ble_eq_true rfl, Nat.le_of_ble_eq_true rfl⟩) hA hD hS (fun r24 L25 f26 H locs hp27 hP hD hS => ?_)
    obtain ⟨eL28L, eL28T, eL28R, eL28X0, eL28X1⟩ := hp27
    have eL28L : L25 = L := eL28L
    have eL28T : f26 = f := eL28T
    rw [eL28L, eL28T] at hP hD
    have eL28R : In r24 0 1 := eL28R
    have hii29 : r24.toInt = 0 ∨ (0 ≤ z2.toInt ∧ z2.toInt ≤ 4) := by have z := eL28X0; rw [i2l_t z2, (by decide : (0 : Int64).toInt = 0), (by decide : (4 : Int64).toInt = 4)] at z; exact z
    have hii29w : ¬ r24 = 0 → In z2 0 4 := fun c => by have c2 := i32_ne c; have e0 : (0 : Int32).toInt = 0 := (by decide); exact ⟨by omega, by omega⟩
    refine lv_if_eq (tgt := 33) hx hb dX11_line_26 (by decide) (fun c30 => ?_) (fun c30 => ?_)
    ·
      have oc0 : (0 : Int32).toInt = 0 := by decide
      have cc31 : r24.toInt = (0 : Int32).toInt := congrArg Int32.toInt c30
      have hb32 : In r24 0 0 := In.eq1 eL28R (⟨by decide, by decide⟩ : In 0 0 0) cc31 (by omega) (by omega)
      exact hJ33 _ _ _ hP hD hS (lv_sub hl [0, 1, 2] rfl)
    ·
      have oc0 : (0 : Int32).toInt = 0 := by decide
      have cc33 : r24.toInt ≠ (0 : Int32).toInt := i32_ne c30
      have hb34 : In r24 1 1 := In.ne1 eL28R (⟨by decide, by decide⟩ : In 0 0 0) cc33 (by omega) (by omega)
      have hb35 : In z2 0 4 := In.both (hii29w c30) (In.full z2) (by decide) (by decide)
      refine lv_iconst (v := 0) hx hb dX11_line_29 (by decide) ?_
      refine lv_goto (tgt := 34) hx hb dX11_line_30 (by decide) ?_
      refine pl_put (ty := .int) (v := .int 0) (fs' := [.int 0, .ref (ad 256), .int v2_1, .int v3_1, .int v4_1, .int v5_1, .int v6_1, .ref (ad 257), .int v8_1, .int v9_1, .ref (ad 258), .ref (ad 259), .int v12_1, .int v13_1, .int v14_1, .int v15_1, .int v16_1, .int v17_1, .int v18_1, .int v19_1, .int v20_1, .long v21_1, .long v22_1, .int v23_1, .ref (ad 260), .int v25_1, .ref (ad 261), .ref (ad 262), .ref (ad 263), .ref (ad 264), .ref (ad 265), .ref (ad 266), .ref (ad 267), .ref (ad 268), .ref (ad 269), .ref (ad 270), .int v36_1, .int v37_1, .int v38_1, .int v39_1, .int v40_1, .ref (ad 271), .ref (ad 272), .ref (ad 273), .ref (ad 274), .long v45_1, .long v46_1, .int v47_1, .int v48_1, .ref (ad 275), .int v50_1, .int v51_1, .ref (ad 276), .int v53_1, .ref (ad 277), .int v55_1]) hx hb hts (fun w h => mT (inX11 w h)) tyX11 tyX11_ok nmX11 hown hG.1 hP hD hS (hst.1 255 (by decide)) hf2 rfl 0 (by decide) (hts _ (mT wg_1336)) (fun _ h => h) rfl (by decide +kernel) (rfl) (rfl) (Nat.le_of_ble_eq_true rfl) rfl dX11_line_34 (fun H locs f36 hf37 ho38 hP hD hS => ?_)
      have hfr : (∀ b, b ≠ (ad 255) → f36 b = f b) := fun b z0_ => (ho38 b z0_).trans (hfr b z0_)
      refine lv_aload_n hx hb dX11_line_37 rfl (lv_at hl 0 rfl) ?_
      refine pl_get (v := .int 0) hx hb hts (fun w h => mT (inX11 w h)) hown hG.1 hP (hst.1 255 (by decide)) hf37 rfl 0 (by decide) (hts _ (mT wg_1336)) (fun _ h => h) rfl dX11_line_38 ?_
      have hT := TI.updM hT hst (k := 0) (by decide) hf37 ho38 ⟨0, v2_1, v3_1, v4_1, v5_1, v6_1, v8_1, v9_1, v12_1, v13_1, v14_1, v15_1, v16_1, v17_1, v18_1, v19_1, v20_1, v21_1, v22_1, v23_1, v25_1, v36_1, v37_1, v38_1, v39_1, v40_1, v45_1, v46_1, v47_1, v48_1, v50_1, v51_1, v53_1, v55_1, rfl, (⟨by decide, by decide⟩ : In 0 0 1), hv2_1, hg2_1, hv3_1, hg3_1, hv4_1, hg4_1, hv5_1, hg5_1, hv6_1, hg6_1, hv8_1, hg8_1, hv9_1, hg9_1, hv12_1, hv13_1, hg13_1, hv14_1, hg14_1, hv15_1, hg15_1, hv17_1, hg17_1, hv20_1, hg20_1, hv23_1, hg23_1, hv25_1, hg25_1, hv36_1, hg36_1, hv47_1, hg47_1, hv48_1, hg48_1, hv53_1, hg53_1, hv55_1, hg55_1, hrel0_1⟩
      refine lv_if_le (tgt := 48) hx hb dX11_line_41 (by decide) (fun c39 => ?_) (fun c39 => ?_)
      ·
        have oc0 : (0 : Int32).toInt = 0 := by decide
        have oc0 : (0 : Int32).toInt = 0 := by decide
        have cc40 : (0 : Int32).toInt ≤ (0 : Int32).toInt := i32_le.mp c39
        refine lv_aload_n hx hb dX11_line_48 rfl (lv_at hl 0 rfl) ?_
        refine pl_get (v := .ref (ad 258)) hx hb hts (fun w h => mT (inX11 w h)) hown hG.1 hP (hst.1 255 (by decide)) hf37 rfl 10 (by decide) (hts _ (mT wg_1346)) (fun _ h => h) rfl dX11_line_49 ?_
        refine lv_iconst (v := 5) hx hb dX11_line_52 (by decide) ?_
        refine lv_iload_n hx hb dX11_line_53 rfl (lv_at hl 1 rfl) ?_
        refine lv_imul hx hb dX11_line_54 ?_
        refine lv_topi (fun x41 ex41 => ?_)
        have hb42 : In x41 0 95 := ex41 ▸ In.mul (⟨by decide, by decide⟩ : In 5 5 5) hb23 (by decide) (by decide) (by decide) (by decide) (by decide)
        have et43 : x41.toInt = 5 * z1.toInt := In.mule ex41 (⟨by decide, by decide⟩ : In 5 5 5) hb23 (by decide) (by decide) (by decide) (by decide) rfl
        refine lv_iload_n hx hb dX11_line_55 rfl (lv_at hl 2 rfl) ?_
        refine lv_iadd hx hb dX11_line_56 ?_
        refine lv_topi (fun x44 ex44 => ?_)
        have hb45 : In x44 0 99 := ex44 ▸ In.add hb42 hb35 (by decide) (by decide) (by decide) (by decide)
        have et46 : x44.toInt = x41.toInt + z2.toInt := In.add2e ex44 hb42 hb35 (by decide) (by decide)
        obtain ⟨rw47, hf48⟩ := hT.2.2 3 (by decide)
        have hin49 : vp_in x44 100 := In.inb hb45 (by decide) (by decide)
        refine pl_iald hx hb hG.1 hP (hst.1 258 (by decide)) 0 hf48 rfl hin49 dX11_line_57 ?_
        refine lv_topi (fun x50 ex50 => ?_)
        exact ret_i (ty := .int) hx hb hr hlocks (rfl) hP hD hS (Nat.le_of_ble_eq_true rfl) (Nat.le_of_ble_eq_true rfl) (⟨rfl, hT, hfr⟩) dX11_line_58
      ·
        have oc0 : (0 : Int32).toInt = 0 := by decide
        have oc0 : (0 : Int32).toInt = 0 := by decide
        have cc51 : (0 : Int32).toInt < (0 : Int32).toInt := i32_nle c39
        exact In.empty (lo := 1) (hi := 0) (In.gt1 (⟨by decide, by decide⟩ : In 0 0 0) (⟨by decide, by decide⟩ : In 0 0 0) cc51 (by omega) (by omega)) (by decide)

abbrev rm_X11_count : Room := { frames := 0, cells := 0, slots := 0, locals := 0 }
abbrev po_X11_count (g : GG) (ad : Nat → Nat) (th : Nat → Int) (L : List Nat) (f : HP) (z1 : Int32) : Int32 → (List Nat × HP) → Prop := fun r u => u.1 = L ∧ TI g ad th u.2 ∧ (∀ b, b ≠ (ad 255) → u.2 b = f b)
set_option maxHeartbeats 4000000 in
set_option maxRecDepth 100000 in
theorem s_X11_count (l : Launch) (g : GG) (ad : Nat → Nat) (th : Nat → Int) (L : List Nat) (f : HP) (sz : Nat) (z1 : Int32) (hst : ST ad L) (hT : TI g ad th f) (hM : MI th) : MtI l g yX11_count cX11_count 2 (some .int) rm_X11_count [.ref (ad 255), .int z1] L f sz (po_X11_count g ad th L f z1) := by
  refine MtI.of (by decide +kernel) (Nat.le_of_ble_eq_true rfl) ?_
  intro p e s m below meth c A hEn hP hD hS ls hl
  obtain ⟨hx, hb, hr, hml, hown, hlocks, hts, hG, hA, hE, hnm⟩ := hEn
  have hown : s.vm.findClass "RulerWordModel" = some m.cls := hown
  have hl : lv_has ls 2 [(0, .ref (ad 255)), (1, .int z1)] := hl
  have hfr : (∀ b, b ≠ (ad 255) → f b = f b) := fun b z0_ => rfl
  have hM0 := hM
  obtain ⟨m1, m2, m3, m4, m5, m6, m7, m8, m9, m10⟩ := hM0
  have m20 := mi20 m2 m3
  refine lv_aload_n hx hb dX11_count_0 rfl (lv_at hl 0 rfl) ?_
  refine lv_iconst (v := 0) hx hb dX11_count_1 (by decide) ?_
  refine M0e hT (fun v0_1 v2_1 v3_1 v4_1 v5_1 v6_1 v8_1 v9_1 v12_1 v13_1 v14_1 v15_1 v16_1 v17_1 v18_1 v19_1 v20_1 v21_1 v22_1 v23_1 v25_1 v36_1 v37_1 v38_1 v39_1 v40_1 v45_1 v46_1 v47_1 v48_1 v50_1 v51_1 v53_1 v55_1 hf2 hv0_1 hv2_1 hg2_1 hv3_1 hg3_1 hv4_1 hg4_1 hv5_1 hg5_1 hv6_1 hg6_1 hv8_1 hg8_1 hv9_1 hg9_1 hv12_1 hv13_1 hg13_1 hv14_1 hg14_1 hv15_1 hg15_1 hv17_1 hg17_1 hv20_1 hg20_1 hv23_1 hg23_1 hv25_1 hg25_1 hv36_1 hg36_1 hv47_1 hg47_1 hv48_1 hg48_1 hv53_1 hg53_1 hv55_1 hg55_1 hrel0_1 => ?_)
  refine pl_put (ty := .int) (v := .int 0) (fs' := [.int 0, .ref (ad 256), .int v2_1, .int v3_1, .int v4_1, .int v5_1, .int v6_1, .ref (ad 257), .int v8_1, .int v9_1, .ref (ad 258), .ref (ad 259), .int v12_1, .int v13_1, .int v14_1, .int v15_1, .int v16_1, .int v17_1, .int v18_1, .int v19_1, .int v20_1, .long v21_1, .long v22_1, .int v23_1, .ref (ad 260), .int v25_1, .ref (ad 261), .ref (ad 262), .ref (ad 263), .ref (ad 264), .ref (ad 265), .ref (ad 266), .ref (ad 267), .ref (ad 268), .ref (ad 269), .ref (ad 270), .int v36_1, .int v37_1, .int v38_1, .int v39_1, .int v40_1, .ref (ad 271), .ref (ad 272), .ref (ad 273), .ref (ad 274), .long v45_1, .long v46_1, .int v47_1, .int v48_1, .ref (ad 275), .int v50_1, .int v51_1, .ref (ad 276), .int v53_1, .ref (ad 277), .int v55_1]) hx hb hts (fun w h => mT (inX11 w h)) tyX11 tyX11_ok nmX11 hown hG.1 hP hD hS (hst.1 255 (by decide)) hf2 rfl 0 (by decide) (hts _ (mT wg_1336)) (fun _ h => h) rfl (by decide +kernel) (rfl) (rfl) (Nat.le_of_ble_eq_true rfl) rfl dX11_count_2 (fun H locs f3 hf4 ho5 hP hD hS => ?_)
  have hfr : (∀ b, b ≠ (ad 255) → f3 b = f b) := fun b z0_ => (ho5 b z0_).trans (hfr b z0_)
  refine lv_iload_n hx hb dX11_count_5 rfl (lv_at hl 1 rfl) ?_
  have hT := TI.updM hT hst (k := 0) (by decide) hf4 ho5 ⟨0, v2_1, v3_1, v4_1, v5_1, v6_1, v8_1, v9_1, v12_1, v13_1, v14_1, v15_1, v16_1, v17_1, v18_1, v19_1, v20_1, v21_1, v22_1, v23_1, v25_1, v36_1, v37_1, v38_1, v39_1, v40_1, v45_1, v46_1, v47_1, v48_1, v50_1, v51_1, v53_1, v55_1, rfl, (⟨by decide, by decide⟩ : In 0 0 1), hv2_1, hg2_1, hv3_1, hg3_1, hv4_1, hg4_1, hv5_1, hg5_1, hv6_1, hg6_1, hv8_1, hg8_1, hv9_1, hg9_1, hv12_1, hv13_1, hg13_1, hv14_1, hg14_1, hv15_1, hg15_1, hv17_1, hg17_1, hv20_1, hg20_1, hv23_1, hg23_1, hv25_1, hg25_1, hv36_1, hg36_1, hv47_1, hg47_1, hv48_1, hg48_1, hv53_1, hg53_1, hv55_1, hg55_1, hrel0_1⟩
  refine lv_if_ne (tgt := 16) hx hb dX11_count_6 (by decide) (fun c6 => ?_) (fun c6 => ?_)
  ·
    have oc0 : (0 : Int32).toInt = 0 := by decide
    have cc7 : z1.toInt ≠ (0 : Int32).toInt := i32_ne c6
    refine lv_iload_n hx hb dX11_count_16 rfl (lv_at hl 1 rfl) ?_
    refine lv_iconst (v := 1) hx hb dX11_count_17 (by decide) ?_
    refine lv_icmp_ne (tgt := 28) hx hb dX11_count_18 (by decide) (fun c8 => ?_) (fun c8 => ?_)
    ·
      have oc1 : (1 : Int32).toInt = 1 := by decide
      have cc9 : z1.toInt ≠ (1 : Int32).toInt := i32_ne c8
      refine lv_iload_n hx hb dX11_count_28 rfl (lv_at hl 1 rfl) ?_
      refine lv_iconst (v := 2) hx hb dX11_count_29 (by decide) ?_
      refine lv_icmp_ne (tgt := 54) hx hb dX11_count_30 (by decide) (fun c10 => ?_) (fun c10 => ?_)
      ·
        have oc2 : (2 : Int32).toInt = 2 := by decide
        have cc11 : z1.toInt ≠ (2 : Int32).toInt := i32_ne c10
        refine lv_iconst (v := (-1)) hx hb dX11_count_54 (by decide) ?_
        exact ret_i (ty := .int) hx hb hr hlocks (rfl) hP hD hS (Nat.le_of_ble_eq_true rfl) (Nat.le_of_ble_eq_true rfl) (⟨rfl, hT, hfr⟩) dX11_count_55
      ·
        have oc2 : (2 : Int32).toInt = 2 := by decide
        have cc12 : z1.toInt = (2 : Int32).toInt := congrArg Int32.toInt c10
        have hb13 : In z1 2 2 := In.eq1 (In.full z1) (⟨by decide, by decide⟩ : In 2 2 2) cc12 (by omega) (by omega)
        refine lv_aload_n hx hb dX11_count_33 rfl (lv_at hl 0 rfl) ?_
        refine pl_get (v := .int v23_1) hx hb hts (fun w h => mT (inX11 w h)) hown hG.1 hP (hst.1 255 (by decide)) hf4 rfl 23 (by decide) (hts _ (mT wg_1359)) (fun _ h => h) rfl dX11_count_34 ?_
        refine lv_if_eq (tgt := 50) hx hb dX11_count_37 (by decide) (fun c14 => ?_) (fun c14 => ?_)
        ·
          have oc0 : (0 : Int32).toInt = 0 := by decide
          have cc15 : v23_1.toInt = (0 : Int32).toInt := congrArg Int32.toInt c14
          have hb16 : In v23_1 0 0 := In.eq1 hv23_1 (⟨by decide, by decide⟩ : In 0 0 0) cc15 (by omega) (by omega)
          refine lv_iconst (v := 0) hx hb dX11_count_50 (by decide) ?_
          refine lv_goto (tgt := 55) hx hb dX11_count_51 (by decide) ?_
          exact ret_i (ty := .int) hx hb hr hlocks (rfl) hP hD hS (Nat.le_of_ble_eq_true rfl) (Nat.le_of_ble_eq_true rfl) (⟨rfl, hT, hfr⟩) dX11_count_55
        ·
          have oc0 : (0 : Int32).toInt = 0 := by decide
          have cc17 : v23_1.toInt ≠ (0 : Int32).toInt := i32_ne c14
          have hb18 : In v23_1 1 1 := In.ne1 hv23_1 (⟨by decide, by decide⟩ : In 0 0 0) cc17 (by omega) (by omega)
          refine lv_aload_n hx hb dX11_count_40 rfl (lv_at hl 0 rfl) ?_
          refine pl_get (v := .ref (ad 271)) hx hb hts (fun w h => mT (inX11 w h)) hown hG.1 hP (hst.1 255 (by decide)) hf4 rfl 41 (by decide) (hts _ (mT wg_1377)) (fun _ h => h) rfl dX11_count_41 ?_
          refine lv_bipush (v := 72) hx hb dX11_count_44 (by decide) ?_
          obtain ⟨rw19, hf20, hpi22, hc21⟩ := hT.2.2 16 (by decide)
          have hc21 : PRW 2126 (th 22) (th 20) (th 21) rw19 := hc21
          have hpi22 : ((72 : Int) < (th 22) → (rw19 72).toInt = th 19) := hpi22
          have hin23 : vp_in 72 2126 := In.inb (⟨by decide, by decide⟩ : In 72 72 72) (by decide) (by decide)
          refine pl_iald hx hb hG.1 hP (hst.1 271 (by decide)) 0 hf20 rfl hin23 dX11_count_46 ?_
          refine lv_topi (fun x24 ex24 => ?_)
          have hpd25 : PRED (th 20) (th 21) 72 x24 := by rw [ex24]; exact prw_at (k := 72) hc21 (by decide) (by decide) (by omega) (by decide)
          have hb26 : In x24 0 18 := ⟨(hpd25.1 rfl).1, Int.le_trans (hpd25.1 rfl).2 (by omega)⟩
          have hgl27 : x24.toInt = th 19 := by rw [ex24]; exact pinE (k := 72) (by decide) (hpi22 (by omega))
          have hpd25b := (hpd25.1 rfl).2
          refine lv_goto (tgt := 55) hx hb dX11_count_47 (by decide) ?_
          exact ret_i (ty := .int) hx hb hr hlocks (rfl) hP hD hS (Nat.le_of_ble_eq_true rfl) (Nat.le_of_ble_eq_true rfl) (⟨rfl, hT, hfr⟩) dX11_count_55
    ·
      have oc1 : (1 : Int32).toInt = 1 := by decide
      have cc28 : z1.toInt = (1 : Int32).toInt := congrArg Int32.toInt c8
      have hb29 : In z1 1 1 := In.eq1 (In.full z1) (⟨by decide, by decide⟩ : In 1 1 1) cc28 (by omega) (by omega)
      refine lv_aload_n hx hb dX11_count_21 rfl (lv_at hl 0 rfl) ?_
      refine pl_get (v := .int v47_1) hx hb hts (fun w h => mT (inX11 w h)) hown hG.1 hP (hst.1 255 (by decide)) hf4 rfl 47 (by decide) (hts _ (mT wg_1383)) (fun _ h => h) rfl dX11_count_22 ?_
      refine lv_goto (tgt := 55) hx hb dX11_count_25 (by decide) ?_
      exact ret_i (ty := .int) hx hb hr hlocks (rfl) hP hD hS (Nat.le_of_ble_eq_true rfl) (Nat.le_of_ble_eq_true rfl) (⟨rfl, hT, hfr⟩) dX11_count_55
  ·
    have oc0 : (0 : Int32).toInt = 0 := by decide
    have cc30 : z1.toInt = (0 : Int32).toInt := congrArg Int32.toInt c6
    have hb31 : In z1 0 0 := In.eq1 (In.full z1) (⟨by decide, by decide⟩ : In 0 0 0) cc30 (by omega) (by omega)
    refine lv_aload_n hx hb dX11_count_9 rfl (lv_at hl 0 rfl) ?_
    refine pl_get (v := .int v2_1) hx hb hts (fun w h => mT (inX11 w h)) hown hG.1 hP (hst.1 255 (by decide)) hf4 rfl 2 (by decide) (hts _ (mT wg_1338)) (fun _ h => h) rfl dX11_count_10 ?_
    refine lv_goto (tgt := 55) hx hb dX11_count_13 (by decide) ?_
    exact ret_i (ty := .int) hx hb hr hlocks (rfl) hP hD hS (Nat.le_of_ble_eq_true rfl) (Nat.le_of_ble_eq_true rfl) (⟨rfl, hT, hfr⟩) dX11_count_55

abbrev rm_X11_rule : Room := { frames := 1, cells := 0, slots := 0, locals := 21 }
abbrev po_X11_rule (g : GG) (ad : Nat → Nat) (th : Nat → Int) (L : List Nat) (f : HP) (z1 : Int32) : Int32 → (List Nat × HP) → Prop := fun r u => u.1 = L ∧ (∃ th' : Nat → Int, (MI th' ∧ SBM th th') ∧ TI g ad th' u.2) ∧ (∀ b, b ≠ (ad 255) → b ≠ (ad 265) → b ≠ (ad 266) → b ≠ (ad 267) → b ≠ (ad 269) → b ≠ (ad 260) → b ≠ (ad 261) → b ≠ (ad 262) → b ≠ (ad 263) → b ≠ (ad 264) → u.2 b = f b)
set_option maxHeartbeats 4000000 in
set_option maxRecDepth 100000 in
theorem s_X11_rule (l : Launch) (g : GG) (ad : Nat → Nat) (th : Nat → Int) (L : List Nat) (f : HP) (sz : Nat) (z1 : Int32) (hst : ST ad L) (hT : TI g ad th f) (hM : MI th) : MtI l g yX11_rule cX11_rule 2 (some .int) rm_X11_rule [.ref (ad 255), .int z1] L f sz (po_X11_rule g ad th L f z1) := by
  refine MtI.of (by decide +kernel) (Nat.le_of_ble_eq_true rfl) ?_
  intro p e s m below meth c A hEn hP hD hS ls hl
  obtain ⟨hx, hb, hr, hml, hown, hlocks, hts, hG, hA, hE, hnm⟩ := hEn
  have hown : s.vm.findClass "RulerWordModel" = some m.cls := hown
  have hl : lv_has ls 2 [(0, .ref (ad 255)), (1, .int z1)] := hl
  have hfr : (∀ b, b ≠ (ad 255) → b ≠ (ad 265) → b ≠ (ad 266) → b ≠ (ad 267) → b ≠ (ad 269) → b ≠ (ad 260) → b ≠ (ad 261) → b ≠ (ad 262) → b ≠ (ad 263) → b ≠ (ad 264) → f b = f b) := fun b z0_ z1_ z2_ z3_ z4_ z5_ z6_ z7_ z8_ z9_ => rfl
  have hM0 := hM
  obtain ⟨m1, m2, m3, m4, m5, m6, m7, m8, m9, m10⟩ := hM0
  have m20 := mi20 m2 m3
  refine lv_aload_n hx hb dX11_rule_0 rfl (lv_at hl 0 rfl) ?_
  refine lv_iconst (v := 0) hx hb dX11_rule_1 (by decide) ?_
  refine M0e hT (fun v0_1 v2_1 v3_1 v4_1 v5_1 v6_1 v8_1 v9_1 v12_1 v13_1 v14_1 v15_1 v16_1 v17_1 v18_1 v19_1 v20_1 v21_1 v22_1 v23_1 v25_1 v36_1 v37_1 v38_1 v39_1 v40_1 v45_1 v46_1 v47_1 v48_1 v50_1 v51_1 v53_1 v55_1 hf2 hv0_1 hv2_1 hg2_1 hv3_1 hg3_1 hv4_1 hg4_1 hv5_1 hg5_1 hv6_1 hg6_1 hv8_1 hg8_1 hv9_1 hg9_1 hv12_1 hv13_1 hg13_1 hv14_1 hg14_1 hv15_1 hg15_1 hv17_1 hg17_1 hv20_1 hg20_1 hv23_1 hg23_1 hv25_1 hg25_1 hv36_1 hg36_1 hv47_1 hg47_1 hv48_1 hg48_1 hv53_1 hg53_1 hv55_1 hg55_1 hrel0_1 => ?_)
  refine pl_put (ty := .int) (v := .int 0) (fs' := [.int 0, .ref (ad 256), .int v2_1, .int v3_1, .int v4_1, .int v5_1, .int v6_1, .ref (ad 257), .int v8_1, .int v9_1, .ref (ad 258), .ref (ad 259), .int v12_1, .int v13_1, .int v14_1, .int v15_1, .int v16_1, .int v17_1, .int v18_1, .int v19_1, .int v20_1, .long v21_1, .long v22_1, .int v23_1, .ref (ad 260), .int v25_1, .ref (ad 261), .ref (ad 262), .ref (ad 263), .ref (ad 264), .ref (ad 265), .ref (ad 266), .ref (ad 267), .ref (ad 268), .ref (ad 269), .ref (ad 270), .int v36_1, .int v37_1, .int v38_1, .int v39_1, .int v40_1, .ref (ad 271), .ref (ad 272), .ref (ad 273), .ref (ad 274), .long v45_1, .long v46_1, .int v47_1, .int v48_1, .ref (ad 275), .int v50_1, .int v51_1, .ref (ad 276), .int v53_1, .ref (ad 277), .int v55_1]) hx hb hts (fun w h => mT (inX11 w h)) tyX11 tyX11_ok nmX11 hown hG.1 hP hD hS (hst.1 255 (by decide)) hf2 rfl 0 (by decide) (hts _ (mT wg_1336)) (fun _ h => h) rfl (by decide +kernel) (rfl) (rfl) (Nat.le_of_ble_eq_true rfl) rfl dX11_rule_2 (fun H locs f3 hf4 ho5 hP hD hS => ?_)
  have hfr : (∀ b, b ≠ (ad 255) → b ≠ (ad 265) → b ≠ (ad 266) → b ≠ (ad 267) → b ≠ (ad 269) → b ≠ (ad 260) → b ≠ (ad 261) → b ≠ (ad 262) → b ≠ (ad 263) → b ≠ (ad 264) → f3 b = f b) := fun b z0_ z1_ z2_ z3_ z4_ z5_ z6_ z7_ z8_ z9_ => (ho5 b z0_).trans (hfr b z0_ z1_ z2_ z3_ z4_ z5_ z6_ z7_ z8_ z9_)
  refine lv_iload_n hx hb dX11_rule_5 rfl (lv_at hl 1 rfl) ?_
  refine lv_bipush (v := 10) hx hb dX11_rule_6 (by decide) ?_
  have hT := TI.updM hT hst (k := 0) (by decide) hf4 ho5 ⟨0, v2_1, v3_1, v4_1, v5_1, v6_1, v8_1, v9_1, v12_1, v13_1, v14_1, v15_1, v16_1, v17_1, v18_1, v19_1, v20_1, v21_1, v22_1, v23_1, v25_1, v36_1, v37_1, v38_1, v39_1, v40_1, v45_1, v46_1, v47_1, v48_1, v50_1, v51_1, v53_1, v55_1, rfl, (⟨by decide, by decide⟩ : In 0 0 1), hv2_1, hg2_1, hv3_1, hg3_1, hv4_1, hg4_1, hv5_1, hg5_1, hv6_1, hg6_1, hv8_1, hg8_1, hv9_1, hg9_1, hv12_1, hv13_1, hg13_1, hv14_1, hg14_1, hv15_1, hg15_1, hv17_1, hg17_1, hv20_1, hg20_1, hv23_1, hg23_1, hv25_1, hg25_1, hv36_1, hg36_1, hv47_1, hg47_1, hv48_1, hg48_1, hv53_1, hg53_1, hv55_1, hg55_1, hrel0_1⟩
  refine lv_icmp_ne (tgt := 16) hx hb dX11_rule_8 (by decide) (fun c6 => ?_) (fun c6 => ?_)
  ·
    have oc10 : (10 : Int32).toInt = 10 := by decide
    have cc7 : z1.toInt ≠ (10 : Int32).toInt := i32_ne c6
    refine lv_aload_n hx hb dX11_rule_16 rfl (lv_at hl 0 rfl) ?_
    refine pl_get (v := .int v23_1) hx hb hts (fun w h => mT (inX11 w h)) hown hG.1 hP (hst.1 255 (by decide)) hf4 rfl 23 (by decide) (hts _ (mT wg_1359)) (fun _ h => h) rfl dX11_rule_17 ?_
    refine lv_if_ne (tgt := 27) hx hb dX11_rule_20 (by decide) (fun c8 => ?_) (fun c8 => ?_)
    ·
      have oc0 : (0 : Int32).toInt = 0 := by decide
      have cc9 : v23_1.toInt ≠ (0 : Int32).toInt := i32_ne c8
      have hb10 : In v23_1 1 1 := In.ne1 hv23_1 (⟨by decide, by decide⟩ : In 0 0 0) cc9 (by omega) (by omega)
      refine lv_aload_n hx hb dX11_rule_27 rfl (lv_at hl 0 rfl) ?_
      refine call_v (run_V (rm := rm_X11_takesUp) hx hb hml hown hts (s_X11_takesUp l g ad th _ _ _  hst hT (show (th 22) = 2126 from (by have ob10 : (0 : Int) ≤ (th 10) ∧ (th 10) ≤ 1 := (b0_10 hT :); have ob11 : (0 : Int) ≤ (th 11) ∧ (th 11) ≤ 9 := (b0_11 hT :); have ob12 : (0 : Int) ≤ (th 12) ∧ (th 12) ≤ 6 := (b0_12 hT :); have ob14 : (0 : Int) ≤ (th 14) ∧ (th 14) ≤ 511 := (b0_14 hT :); have ob15 : (0 : Int) ≤ (th 15) ∧ (th 15) ≤ 1 := (b0_15 hT :); have ob16 : (0 : Int) ≤ (th 16) ∧ (th 16) ≤ 20 := (b0_16 hT :); have ob17 : (0 : Int) ≤ (th 17) ∧ (th 17) ≤ 1 := (b0_17 hT :); have ob18 : (0 : Int) ≤ (th 18) ∧ (th 18) ≤ 18 := (b0_18 hT :); have ob38 : (0 : Int) ≤ (th 38) ∧ (th 38) ≤ 400 := (b0_38 hT :); have ob39 : (0 : Int) ≤ (th 39) ∧ (th 39) ≤ 200 := (b0_39 hT :); have ob44 : (0 : Int) ≤ (th 44) ∧ (th 44) ≤ 30 := (b0_44 hT :); obtain ⟨o0a, o0b⟩ := (hv14_1 : In _ _ _); obtain ⟨o1a, o1b⟩ := (hv15_1 : In _ _ _); obtain ⟨o2a, o2b⟩ := (hv17_1 : In _ _ _); obtain ⟨o3a, o3b⟩ := (hv20_1 : In _ _ _); obtain ⟨o4a, o4b⟩ := (hb10 : In _ _ _); obtain ⟨o5a, o5b⟩ := (hv25_1 : In _ _ _); obtain ⟨o6a, o6b⟩ := (hv36_1 : In _ _ _); obtain ⟨o7a, o7b⟩ := (hv47_1 : In _ _ _); obtain ⟨o8a, o8b⟩ := (hv48_1 : In _ _ _); obtain ⟨o9a, o9b⟩ := (hv53_1 : In _ _ _); obtain ⟨o10a, o10b⟩ := (hv55_1 : In _ _ _); omega)) (show (th 20) ≤ 18 from (by have ob10 : (0 : Int) ≤ (th 10) ∧ (th 10) ≤ 1 := (b0_10 hT :); have ob11 : (0 : Int) ≤ (th 11) ∧ (th 11) ≤ 9 := (b0_11 hT :); have ob12 : (0 : Int) ≤ (th 12) ∧ (th 12) ≤ 6 := (b0_12 hT :); have ob14 : (0 : Int) ≤ (th 14) ∧ (th 14) ≤ 511 := (b0_14 hT :); have ob15 : (0 : Int) ≤ (th 15) ∧ (th 15) ≤ 1 := (b0_15 hT :); have ob16 : (0 : Int) ≤ (th 16) ∧ (th 16) ≤ 20 := (b0_16 hT :); have ob17 : (0 : Int) ≤ (th 17) ∧ (th 17) ≤ 1 := (b0_17 hT :); have ob18 : (0 : Int) ≤ (th 18) ∧ (th 18) ≤ 18 := (b0_18 hT :); have ob38 : (0 : Int) ≤ (th 38) ∧ (th 38) ≤ 400 := (b0_38 hT :); have ob39 : (0 : Int) ≤ (th 39) ∧ (th 39) ≤ 200 := (b0_39 hT :); have ob44 : (0 : Int) ≤ (th 44) ∧ (th 44) ≤ 30 := (b0_44 hT :); obtain ⟨o0a, o0b⟩ := (hv14_1 : In _ _ _); obtain ⟨o1a, o1b⟩ := (hv15_1 : In _ _ _); obtain ⟨o2a, o2b⟩ := (hv17_1 : In _ _ _); obtain ⟨o3a, o3b⟩ := (hv20_1 : In _ _ _); obtain ⟨o4a, o4b⟩ := (hb10 : In _ _ _); obtain ⟨o5a, o5b⟩ := (hv25_1 : In _ _ _); obtain ⟨o6a, o6b⟩ := (hv36_1 : In _ _ _); obtain ⟨o7a, o7b⟩ := (hv47_1 : In _ _ _); obtain ⟨o8a, o8b⟩ := (hv48_1 : In _ _ _); obtain ⟨o9a, o9b⟩ := (hv53_1 : In _ _ _); obtain ⟨o10a, o10b⟩ := (hv55_1 : In _ _ _); omega)) (show (th 21) = (th 11) from (by have ob10 : (0 : Int) ≤ (th 10) ∧ (th 10) ≤ 1 := (b0_10 hT :); have ob11 : (0 : Int) ≤ (th 11) ∧ (th 11) ≤ 9 := (b0_11 hT :); have ob12 : (0 : Int) ≤ (th 12) ∧ (th 12) ≤ 6 := (b0_12 hT :); have ob14 : (0 : Int) ≤ (th 14) ∧ (th 14) ≤ 511 := (b0_14 hT :); have ob15 : (0 : Int) ≤ (th 15) ∧ (th 15) ≤ 1 := (b0_15 hT :); have ob16 : (0 : Int) ≤ (th 16) ∧ (th 16) ≤ 20 := (b0_16 hT :); have ob17 : (0 : Int) ≤ (th 17) ∧ (th 17) ≤ 1 := (b0_17 hT :); have ob18 : (0 : Int) ≤ (th 18) ∧ (th 18) ≤ 18 := (b0_18 hT :); have ob38 : (0 : Int) ≤ (th 38) ∧ (th 38) ≤ 400 := (b0_38 hT :); have ob39 : (0 : Int) ≤ (th 39) ∧ (th 39) ≤ 200 := (b0_39 hT :); have ob44 : (0 : Int) ≤ (th 44) ∧ (th 44) ≤ 30 := (b0_44 hT :); obtain ⟨o0a, o0b⟩ := (hv14_1 : In _ _ _); obtain ⟨o1a, o1b⟩ := (hv15_1 : In _ _ _); obtain ⟨o2a, o2b⟩ := (hv17_1 : In _ _ _); obtain ⟨o3a, o3b⟩ := (hv20_1 : In _ _ _); obtain ⟨o4a, o4b⟩ := (hb10 : In _ _ _); obtain ⟨o5a, o5b⟩ := (hv25_1 : In _ _ _); obtain ⟨o6a, o6b⟩ := (hv36_1 : In _ _ _); obtain ⟨o7a, o7b⟩ := (hv47_1 : In _ _ _); obtain ⟨o8a, o8b⟩ := (hv48_1 : In _ _ _); obtain ⟨o9a, o9b⟩ := (hv53_1 : In _ _ _); obtain ⟨o10a, o10b⟩ := (hv55_1 : In _ _ _); omega))) cV_X11_takesUp wg_1648 ⟨Nat.le_of_ble_eq_true rfl, Nat.le_of_ble_eq_true rfl⟩ hG hE hA hP hD hS (hst.1 255 (by decide)) hf4 rfl rfl hl.1 (As := []) (rest := []) rfl (Nat.le_of_ble_eq_true rfl) dX11_rule_28 ⟨Nat.le_of_ble_eq_true rfl, Nat.le_of_ble_eq_true rfl⟩) hA hD hS (fun L12 f13 H locs hp14 hP hD hS => ?_)
      obtain ⟨eL15L, eL15T, eL15F⟩ := hp14
      have eL15L : L12 = L := eL15L
      rw [eL15L] at hP hD
      obtain ⟨zz16, zz17, hzz16, eL15T⟩ := eL15T
      have hzz16 : ((zz16 = (th 19) ∧ 0 ≤ zz16 ∧ zz16 ≤ (th 20)) ∧ (0 ≤ zz17 ∧ zz17 ≤ 511)) ∧ capI zz17 ((th 11)) := hzz16
      have hT : TI g ad (gset (gset th 18 zz16) 14 zz17) f13 := eL15T
      have eL15F : ∀ b, b ≠ (ad 255) → b ≠ (ad 265) → b ≠ (ad 266) → b ≠ (ad 267) → b ≠ (ad 269) → b ≠ (ad 260) → b ≠ (ad 261) → b ≠ (ad 262) → b ≠ (ad 263) → b ≠ (ad 264) → f13 b = f3 b := eL15F
      have hfr : (∀ b, b ≠ (ad 255) → b ≠ (ad 265) → b ≠ (ad 266) → b ≠ (ad 267) → b ≠ (ad 269) → b ≠ (ad 260) → b ≠ (ad 261) → b ≠ (ad 262) → b ≠ (ad 263) → b ≠ (ad 264) → f13 b = f b) := fun b z0_ z1_ z2_ z3_ z4_ z5_ z6_ z7_ z8_ z9_ => (eL15F b z0_ z1_ z2_ z3_ z4_ z5_ z6_ z7_ z8_ z9_).trans (hfr b z0_ z1_ z2_ z3_ z4_ z5_ z6_ z7_ z8_ z9_)
      refine lv_iload_n hx hb dX11_rule_31 rfl (lv_at hl 1 rfl) ?_
      by_cases c18 : z1 = 0
      ·
        refine lv_tableIn (off := 64) (tgt := 96) hx hb dX11_rule_32 (by rw [c18]; decide) (by rw [c18]; decide) (by rw [c18]; decide) (by decide) ?_
        have hb19 : In z1 0 0 := by rw [c18]; exact ⟨by decide, by decide⟩
        refine lv_aload_n hx hb dX11_rule_96 rfl (lv_at hl 0 rfl) ?_
        refine M0e hT (fun v0_20 v2_20 v3_20 v4_20 v5_20 v6_20 v8_20 v9_20 v12_20 v13_20 v14_20 v15_20 v16_20 v17_20 v18_20 v19_20 v20_20 v21_20 v22_20 v23_20 v25_20 v36_20 v37_20 v38_20 v39_20 v40_20 v45_20 v46_20 v47_20 v48_20 v50_20 v51_20 v53_20 v55_20 hf21 hv0_20 hv2_20 hg2_20 hv3_20 hg3_20 hv4_20 hg4_20 hv5_20 hg5_20 hv6_20 hg6_20 hv8_20 hg8_20 hv9_20 hg9_20 hv12_20 hv13_20 hg13_20 hv14_20 hg14_20 hv15_20 hg15_20 hv17_20 hg17_20 hv20_20 hg20_20 hv23_20 hg23_20 hv25_20 hg25_20 hv36_20 hg36_20 hv47_20 hg47_20 hv48_20 hg48_20 hv53_20 hg53_20 hv55_20 hg55_20 hrel0_20 => ?_)
        have hg2_20 : v2_20.toInt = th 13 := hg2_20
        have hg3_20 : v3_20.toInt = th 37 := hg3_20
        have hg4_20 : v4_20.toInt = th 42 := hg4_20
        have hg5_20 : v5_20.toInt = th 40 := hg5_20
        have hg6_20 : v6_20.toInt = th 41 := hg6_20
        have hg8_20 : v8_20.toInt = th 43 := hg8_20
        have hg9_20 : v9_20.toInt = th 35 := hg9_20
        have hg13_20 : v13_20.toInt = th 36 := hg13_20
        have hg14_20 : v14_20.toInt = th 10 := hg14_20
        have hg15_20 : v15_20.toInt = th 11 := hg15_20
        have hg17_20 : v17_20.toInt = th 12 := hg17_20
        have hg20_20 : v20_20.toInt = zz17 := hg20_20
        have hg23_20 : v23_20.toInt = th 15 := hg23_20
        have hg25_20 : v25_20.toInt = th 44 := hg25_20
        have hg36_20 : v36_20.toInt = zz16 := hg36_20
        have hg47_20 : v47_20.toInt = th 16 := hg47_20
        have hg48_20 : v48_20.toInt = th 17 := hg48_20
        have hg53_20 : v53_20.toInt = th 38 := hg53_20
        have hg55_20 : v55_20.toInt = th 39 := hg55_20
        refine pl_get (v := .int v14_20) hx hb hts (fun w h => mT (inX11 w h)) hown hG.1 hP (hst.1 255 (by decide)) hf21 rfl 14 (by decide) (hts _ (mT wg_1350)) (fun _ h => h) rfl dX11_rule_97 ?_
        exact ret_i (ty := .int) hx hb hr hlocks (rfl) hP hD hS (Nat.le_of_ble_eq_true rfl) (Nat.le_of_ble_eq_true rfl) (⟨rfl, ⟨(gset (gset th 18 zz16) 14 zz17), ⟨(show MI (gset (gset th 18 zz16) 14 zz17) from ⟨m1, m2, (show th 20 = (th 12) * rnd (th 10) from m3), m4, m5, m6, m7, m8, m9, m10⟩), (SBM.set (k := 14) (SBM.set (k := 18) (SBM.rf th) (by decide)) (by decide))⟩, hT⟩, hfr⟩) dX11_rule_100
      by_cases c22 : z1 = 1
      ·
        refine lv_tableIn (off := 69) (tgt := 101) hx hb dX11_rule_32 (by rw [c22]; decide) (by rw [c22]; decide) (by rw [c22]; decide) (by decide) ?_
        have hb23 : In z1 1 1 := by rw [c22]; exact ⟨by decide, by decide⟩
        refine lv_aload_n hx hb dX11_rule_101 rfl (lv_at hl 0 rfl) ?_
        refine M0e hT (fun v0_24 v2_24 v3_24 v4_24 v5_24 v6_24 v8_24 v9_24 v12_24 v13_24 v14_24 v15_24 v16_24 v17_24 v18_24 v19_24 v20_24 v21_24 v22_24 v23_24 v25_24 v36_24 v37_24 v38_24 v39_24 v40_24 v45_24 v46_24 v47_24 v48_24 v50_24 v51_24 v53_24 v55_24 hf25 hv0_24 hv2_24 hg2_24 hv3_24 hg3_24 hv4_24 hg4_24 hv5_24 hg5_24 hv6_24 hg6_24 hv8_24 hg8_24 hv9_24 hg9_24 hv12_24 hv13_24 hg13_24 hv14_24 hg14_24 hv15_24 hg15_24 hv17_24 hg17_24 hv20_24 hg20_24 hv23_24 hg23_24 hv25_24 hg25_24 hv36_24 hg36_24 hv47_24 hg47_24 hv48_24 hg48_24 hv53_24 hg53_24 hv55_24 hg55_24 hrel0_24 => ?_)
        have hg2_24 : v2_24.toInt = th 13 := hg2_24
        have hg3_24 : v3_24.toInt = th 37 := hg3_24
        have hg4_24 : v4_24.toInt = th 42 := hg4_24
        have hg5_24 : v5_24.toInt = th 40 := hg5_24
        have hg6_24 : v6_24.toInt = th 41 := hg6_24
        have hg8_24 : v8_24.toInt = th 43 := hg8_24
        have hg9_24 : v9_24.toInt = th 35 := hg9_24
        have hg13_24 : v13_24.toInt = th 36 := hg13_24
        have hg14_24 : v14_24.toInt = th 10 := hg14_24
        have hg15_24 : v15_24.toInt = th 11 := hg15_24
        have hg17_24 : v17_24.toInt = th 12 := hg17_24
        have hg20_24 : v20_24.toInt = zz17 := hg20_24
        have hg23_24 : v23_24.toInt = th 15 := hg23_24
        have hg25_24 : v25_24.toInt = th 44 := hg25_24
        have hg36_24 : v36_24.toInt = zz16 := hg36_24
        have hg47_24 : v47_24.toInt = th 16 := hg47_24
        have hg48_24 : v48_24.toInt = th 17 := hg48_24
        have hg53_24 : v53_24.toInt = th 38 := hg53_24
        have hg55_24 : v55_24.toInt = th 39 := hg55_24
        refine pl_get (v := .int v15_24) hx hb hts (fun w h => mT (inX11 w h)) hown hG.1 hP (hst.1 255 (by decide)) hf25 rfl 15 (by decide) (hts _ (mT wg_1351)) (fun _ h => h) rfl dX11_rule_102 ?_
        exact ret_i (ty := .int) hx hb hr hlocks (rfl) hP hD hS (Nat.le_of_ble_eq_true rfl) (Nat.le_of_ble_eq_true rfl) (⟨rfl, ⟨(gset (gset th 18 zz16) 14 zz17), ⟨(show MI (gset (gset th 18 zz16) 14 zz17) from ⟨m1, m2, (show th 20 = (th 12) * rnd (th 10) from m3), m4, m5, m6, m7, m8, m9, m10⟩), (SBM.set (k := 14) (SBM.set (k := 18) (SBM.rf th) (by decide)) (by decide))⟩, hT⟩, hfr⟩) dX11_rule_105
      by_cases c26 : z1 = 2
      ·
        refine lv_tableIn (off := 74) (tgt := 106) hx hb dX11_rule_32 (by rw [c26]; decide) (by rw [c26]; decide) (by rw [c26]; decide) (by decide) ?_
        have hb27 : In z1 2 2 := by rw [c26]; exact ⟨by decide, by decide⟩
        refine lv_aload_n hx hb dX11_rule_106 rfl (lv_at hl 0 rfl) ?_
        refine M0e hT (fun v0_28 v2_28 v3_28 v4_28 v5_28 v6_28 v8_28 v9_28 v12_28 v13_28 v14_28 v15_28 v16_28 v17_28 v18_28 v19_28 v20_28 v21_28 v22_28 v23_28 v25_28 v36_28 v37_28 v38_28 v39_28 v40_28 v45_28 v46_28 v47_28 v48_28 v50_28 v51_28 v53_28 v55_28 hf29 hv0_28 hv2_28 hg2_28 hv3_28 hg3_28 hv4_28 hg4_28 hv5_28 hg5_28 hv6_28 hg6_28 hv8_28 hg8_28 hv9_28 hg9_28 hv12_28 hv13_28 hg13_28 hv14_28 hg14_28 hv15_28 hg15_28 hv17_28 hg17_28 hv20_28 hg20_28 hv23_28 hg23_28 hv25_28 hg25_28 hv36_28 hg36_28 hv47_28 hg47_28 hv48_28 hg48_28 hv53_28 hg53_28 hv55_28 hg55_28 hrel0_28 => ?_)
        have hg2_28 : v2_28.toInt = th 13 := hg2_28
        have hg3_28 : v3_28.toInt = th 37 := hg3_28
        have hg4_28 : v4_28.toInt = th 42 := hg4_28
        have hg5_28 : v5_28.toInt = th 40 := hg5_28
        have hg6_28 : v6_28.toInt = th 41 := hg6_28
        have hg8_28 : v8_28.toInt = th 43 := hg8_28
        have hg9_28 : v9_28.toInt = th 35 := hg9_28
        have hg13_28 : v13_28.toInt = th 36 := hg13_28
        have hg14_28 : v14_28.toInt = th 10 := hg14_28
        have hg15_28 : v15_28.toInt = th 11 := hg15_28
        have hg17_28 : v17_28.toInt = th 12 := hg17_28
        have hg20_28 : v20_28.toInt = zz17 := hg20_28
        have hg23_28 : v23_28.toInt = th 15 := hg23_28
        have hg25_28 : v25_28.toInt = th 44 := hg25_28
        have hg36_28 : v36_28.toInt = zz16 := hg36_28
        have hg47_28 : v47_28.toInt = th 16 := hg47_28
        have hg48_28 : v48_28.toInt = th 17 := hg48_28
        have hg53_28 : v53_28.toInt = th 38 := hg53_28
        have hg55_28 : v55_28.toInt = th 39 := hg55_28
        refine pl_get (v := .int v16_28) hx hb hts (fun w h => mT (inX11 w h)) hown hG.1 hP (hst.1 255 (by decide)) hf29 rfl 16 (by decide) (hts _ (mT wg_1352)) (fun _ h => h) rfl dX11_rule_107 ?_
        exact ret_i (ty := .int) hx hb hr hlocks (rfl) hP hD hS (Nat.le_of_ble_eq_true rfl) (Nat.le_of_ble_eq_true rfl) (⟨rfl, ⟨(gset (gset th 18 zz16) 14 zz17), ⟨(show MI (gset (gset th 18 zz16) 14 zz17) from ⟨m1, m2, (show th 20 = (th 12) * rnd (th 10) from m3), m4, m5, m6, m7, m8, m9, m10⟩), (SBM.set (k := 14) (SBM.set (k := 18) (SBM.rf th) (by decide)) (by decide))⟩, hT⟩, hfr⟩) dX11_rule_110
      by_cases c30 : z1 = 3
      ·
        refine lv_tableIn (off := 79) (tgt := 111) hx hb dX11_rule_32 (by rw [c30]; decide) (by rw [c30]; decide) (by rw [c30]; decide) (by decide) ?_
        have hb31 : In z1 3 3 := by rw [c30]; exact ⟨by decide, by decide⟩
        refine lv_aload_n hx hb dX11_rule_111 rfl (lv_at hl 0 rfl) ?_
        refine M0e hT (fun v0_32 v2_32 v3_32 v4_32 v5_32 v6_32 v8_32 v9_32 v12_32 v13_32 v14_32 v15_32 v16_32 v17_32 v18_32 v19_32 v20_32 v21_32 v22_32 v23_32 v25_32 v36_32 v37_32 v38_32 v39_32 v40_32 v45_32 v46_32 v47_32 v48_32 v50_32 v51_32 v53_32 v55_32 hf33 hv0_32 hv2_32 hg2_32 hv3_32 hg3_32 hv4_32 hg4_32 hv5_32 hg5_32 hv6_32 hg6_32 hv8_32 hg8_32 hv9_32 hg9_32 hv12_32 hv13_32 hg13_32 hv14_32 hg14_32 hv15_32 hg15_32 hv17_32 hg17_32 hv20_32 hg20_32 hv23_32 hg23_32 hv25_32 hg25_32 hv36_32 hg36_32 hv47_32 hg47_32 hv48_32 hg48_32 hv53_32 hg53_32 hv55_32 hg55_32 hrel0_32 => ?_)
        have hg2_32 : v2_32.toInt = th 13 := hg2_32
        have hg3_32 : v3_32.toInt = th 37 := hg3_32
        have hg4_32 : v4_32.toInt = th 42 := hg4_32
        have hg5_32 : v5_32.toInt = th 40 := hg5_32
        have hg6_32 : v6_32.toInt = th 41 := hg6_32
        have hg8_32 : v8_32.toInt = th 43 := hg8_32
        have hg9_32 : v9_32.toInt = th 35 := hg9_32
        have hg13_32 : v13_32.toInt = th 36 := hg13_32
        have hg14_32 : v14_32.toInt = th 10 := hg14_32
        have hg15_32 : v15_32.toInt = th 11 := hg15_32
        have hg17_32 : v17_32.toInt = th 12 := hg17_32
        have hg20_32 : v20_32.toInt = zz17 := hg20_32
        have hg23_32 : v23_32.toInt = th 15 := hg23_32
        have hg25_32 : v25_32.toInt = th 44 := hg25_32
        have hg36_32 : v36_32.toInt = zz16 := hg36_32
        have hg47_32 : v47_32.toInt = th 16 := hg47_32
        have hg48_32 : v48_32.toInt = th 17 := hg48_32
        have hg53_32 : v53_32.toInt = th 38 := hg53_32
        have hg55_32 : v55_32.toInt = th 39 := hg55_32
        refine pl_get (v := .int v17_32) hx hb hts (fun w h => mT (inX11 w h)) hown hG.1 hP (hst.1 255 (by decide)) hf33 rfl 17 (by decide) (hts _ (mT wg_1353)) (fun _ h => h) rfl dX11_rule_112 ?_
        exact ret_i (ty := .int) hx hb hr hlocks (rfl) hP hD hS (Nat.le_of_ble_eq_true rfl) (Nat.le_of_ble_eq_true rfl) (⟨rfl, ⟨(gset (gset th 18 zz16) 14 zz17), ⟨(show MI (gset (gset th 18 zz16) 14 zz17) from ⟨m1, m2, (show th 20 = (th 12) * rnd (th 10) from m3), m4, m5, m6, m7, m8, m9, m10⟩), (SBM.set (k := 14) (SBM.set (k := 18) (SBM.rf th) (by decide)) (by decide))⟩, hT⟩, hfr⟩) dX11_rule_115
      by_cases c34 : z1 = 4
      ·
        refine lv_tableIn (off := 84) (tgt := 116) hx hb dX11_rule_32 (by rw [c34]; decide) (by rw [c34]; decide) (by rw [c34]; decide) (by decide) ?_
        have hb35 : In z1 4 4 := by rw [c34]; exact ⟨by decide, by decide⟩
        refine lv_aload_n hx hb dX11_rule_116 rfl (lv_at hl 0 rfl) ?_
        refine M0e hT (fun v0_36 v2_36 v3_36 v4_36 v5_36 v6_36 v8_36 v9_36 v12_36 v13_36 v14_36 v15_36 v16_36 v17_36 v18_36 v19_36 v20_36 v21_36 v22_36 v23_36 v25_36 v36_36 v37_36 v38_36 v39_36 v40_36 v45_36 v46_36 v47_36 v48_36 v50_36 v51_36 v53_36 v55_36 hf37 hv0_36 hv2_36 hg2_36 hv3_36 hg3_36 hv4_36 hg4_36 hv5_36 hg5_36 hv6_36 hg6_36 hv8_36 hg8_36 hv9_36 hg9_36 hv12_36 hv13_36 hg13_36 hv14_36 hg14_36 hv15_36 hg15_36 hv17_36 hg17_36 hv20_36 hg20_36 hv23_36 hg23_36 hv25_36 hg25_36 hv36_36 hg36_36 hv47_36 hg47_36 hv48_36 hg48_36 hv53_36 hg53_36 hv55_36 hg55_36 hrel0_36 => ?_)
        have hg2_36 : v2_36.toInt = th 13 := hg2_36
        have hg3_36 : v3_36.toInt = th 37 := hg3_36
        have hg4_36 : v4_36.toInt = th 42 := hg4_36
        have hg5_36 : v5_36.toInt = th 40 := hg5_36
        have hg6_36 : v6_36.toInt = th 41 := hg6_36
        have hg8_36 : v8_36.toInt = th 43 := hg8_36
        have hg9_36 : v9_36.toInt = th 35 := hg9_36
        have hg13_36 : v13_36.toInt = th 36 := hg13_36
        have hg14_36 : v14_36.toInt = th 10 := hg14_36
        have hg15_36 : v15_36.toInt = th 11 := hg15_36
        have hg17_36 : v17_36.toInt = th 12 := hg17_36
        have hg20_36 : v20_36.toInt = zz17 := hg20_36
        have hg23_36 : v23_36.toInt = th 15 := hg23_36
        have hg25_36 : v25_36.toInt = th 44 := hg25_36
        have hg36_36 : v36_36.toInt = zz16 := hg36_36
        have hg47_36 : v47_36.toInt = th 16 := hg47_36
        have hg48_36 : v48_36.toInt = th 17 := hg48_36
        have hg53_36 : v53_36.toInt = th 38 := hg53_36
        have hg55_36 : v55_36.toInt = th 39 := hg55_36
        refine pl_get (v := .int v19_36) hx hb hts (fun w h => mT (inX11 w h)) hown hG.1 hP (hst.1 255 (by decide)) hf37 rfl 19 (by decide) (hts _ (mT wg_1355)) (fun _ h => h) rfl dX11_rule_117 ?_
        exact ret_i (ty := .int) hx hb hr hlocks (rfl) hP hD hS (Nat.le_of_ble_eq_true rfl) (Nat.le_of_ble_eq_true rfl) (⟨rfl, ⟨(gset (gset th 18 zz16) 14 zz17), ⟨(show MI (gset (gset th 18 zz16) 14 zz17) from ⟨m1, m2, (show th 20 = (th 12) * rnd (th 10) from m3), m4, m5, m6, m7, m8, m9, m10⟩), (SBM.set (k := 14) (SBM.set (k := 18) (SBM.rf th) (by decide)) (by decide))⟩, hT⟩, hfr⟩) dX11_rule_120
      by_cases c38 : z1 = 5
      ·
        refine lv_tableIn (off := 89) (tgt := 121) hx hb dX11_rule_32 (by rw [c38]; decide) (by rw [c38]; decide) (by rw [c38]; decide) (by decide) ?_
        have hb39 : In z1 5 5 := by rw [c38]; exact ⟨by decide, by decide⟩
        refine lv_aload_n hx hb dX11_rule_121 rfl (lv_at hl 0 rfl) ?_
        refine M0e hT (fun v0_40 v2_40 v3_40 v4_40 v5_40 v6_40 v8_40 v9_40 v12_40 v13_40 v14_40 v15_40 v16_40 v17_40 v18_40 v19_40 v20_40 v21_40 v22_40 v23_40 v25_40 v36_40 v37_40 v38_40 v39_40 v40_40 v45_40 v46_40 v47_40 v48_40 v50_40 v51_40 v53_40 v55_40 hf41 hv0_40 hv2_40 hg2_40 hv3_40 hg3_40 hv4_40 hg4_40 hv5_40 hg5_40 hv6_40 hg6_40 hv8_40 hg8_40 hv9_40 hg9_40 hv12_40 hv13_40 hg13_40 hv14_40 hg14_40 hv15_40 hg15_40 hv17_40 hg17_40 hv20_40 hg20_40 hv23_40 hg23_40 hv25_40 hg25_40 hv36_40 hg36_40 hv47_40 hg47_40 hv48_40 hg48_40 hv53_40 hg53_40 hv55_40 hg55_40 hrel0_40 => ?_)
        have hg2_40 : v2_40.toInt = th 13 := hg2_40
        have hg3_40 : v3_40.toInt = th 37 := hg3_40
        have hg4_40 : v4_40.toInt = th 42 := hg4_40
        have hg5_40 : v5_40.toInt = th 40 := hg5_40
        have hg6_40 : v6_40.toInt = th 41 := hg6_40
        have hg8_40 : v8_40.toInt = th 43 := hg8_40
        have hg9_40 : v9_40.toInt = th 35 := hg9_40
        have hg13_40 : v13_40.toInt = th 36 := hg13_40
        have hg14_40 : v14_40.toInt = th 10 := hg14_40
        have hg15_40 : v15_40.toInt = th 11 := hg15_40
        have hg17_40 : v17_40.toInt = th 12 := hg17_40
        have hg20_40 : v20_40.toInt = zz17 := hg20_40
        have hg23_40 : v23_40.toInt = th 15 := hg23_40
        have hg25_40 : v25_40.toInt = th 44 := hg25_40
        have hg36_40 : v36_40.toInt = zz16 := hg36_40
        have hg47_40 : v47_40.toInt = th 16 := hg47_40
        have hg48_40 : v48_40.toInt = th 17 := hg48_40
        have hg53_40 : v53_40.toInt = th 38 := hg53_40
        have hg55_40 : v55_40.toInt = th 39 := hg55_40
        refine pl_get (v := .int v20_40) hx hb hts (fun w h => mT (inX11 w h)) hown hG.1 hP (hst.1 255 (by decide)) hf41 rfl 20 (by decide) (hts _ (mT wg_1356)) (fun _ h => h) rfl dX11_rule_122 ?_
        exact ret_i (ty := .int) hx hb hr hlocks (rfl) hP hD hS (Nat.le_of_ble_eq_true rfl) (Nat.le_of_ble_eq_true rfl) (⟨rfl, ⟨(gset (gset th 18 zz16) 14 zz17), ⟨(show MI (gset (gset th 18 zz16) 14 zz17) from ⟨m1, m2, (show th 20 = (th 12) * rnd (th 10) from m3), m4, m5, m6, m7, m8, m9, m10⟩), (SBM.set (k := 14) (SBM.set (k := 18) (SBM.rf th) (by decide)) (by decide))⟩, hT⟩, hfr⟩) dX11_rule_125
      by_cases c42 : z1 = 6
      ·
        refine lv_tableIn (off := 94) (tgt := 126) hx hb dX11_rule_32 (by rw [c42]; decide) (by rw [c42]; decide) (by rw [c42]; decide) (by decide) ?_
        have hb43 : In z1 6 6 := by rw [c42]; exact ⟨by decide, by decide⟩
        refine lv_aload_n hx hb dX11_rule_126 rfl (lv_at hl 0 rfl) ?_
        refine M0e hT (fun v0_44 v2_44 v3_44 v4_44 v5_44 v6_44 v8_44 v9_44 v12_44 v13_44 v14_44 v15_44 v16_44 v17_44 v18_44 v19_44 v20_44 v21_44 v22_44 v23_44 v25_44 v36_44 v37_44 v38_44 v39_44 v40_44 v45_44 v46_44 v47_44 v48_44 v50_44 v51_44 v53_44 v55_44 hf45 hv0_44 hv2_44 hg2_44 hv3_44 hg3_44 hv4_44 hg4_44 hv5_44 hg5_44 hv6_44 hg6_44 hv8_44 hg8_44 hv9_44 hg9_44 hv12_44 hv13_44 hg13_44 hv14_44 hg14_44 hv15_44 hg15_44 hv17_44 hg17_44 hv20_44 hg20_44 hv23_44 hg23_44 hv25_44 hg25_44 hv36_44 hg36_44 hv47_44 hg47_44 hv48_44 hg48_44 hv53_44 hg53_44 hv55_44 hg55_44 hrel0_44 => ?_)
        have hg2_44 : v2_44.toInt = th 13 := hg2_44
        have hg3_44 : v3_44.toInt = th 37 := hg3_44
        have hg4_44 : v4_44.toInt = th 42 := hg4_44
        have hg5_44 : v5_44.toInt = th 40 := hg5_44
        have hg6_44 : v6_44.toInt = th 41 := hg6_44
        have hg8_44 : v8_44.toInt = th 43 := hg8_44
        have hg9_44 : v9_44.toInt = th 35 := hg9_44
        have hg13_44 : v13_44.toInt = th 36 := hg13_44
        have hg14_44 : v14_44.toInt = th 10 := hg14_44
        have hg15_44 : v15_44.toInt = th 11 := hg15_44
        have hg17_44 : v17_44.toInt = th 12 := hg17_44
        have hg20_44 : v20_44.toInt = zz17 := hg20_44
        have hg23_44 : v23_44.toInt = th 15 := hg23_44
        have hg25_44 : v25_44.toInt = th 44 := hg25_44
        have hg36_44 : v36_44.toInt = zz16 := hg36_44
        have hg47_44 : v47_44.toInt = th 16 := hg47_44
        have hg48_44 : v48_44.toInt = th 17 := hg48_44
        have hg53_44 : v53_44.toInt = th 38 := hg53_44
        have hg55_44 : v55_44.toInt = th 39 := hg55_44
        refine pl_get (v := .int v18_44) hx hb hts (fun w h => mT (inX11 w h)) hown hG.1 hP (hst.1 255 (by decide)) hf45 rfl 18 (by decide) (hts _ (mT wg_1354)) (fun _ h => h) rfl dX11_rule_127 ?_
        exact ret_i (ty := .int) hx hb hr hlocks (rfl) hP hD hS (Nat.le_of_ble_eq_true rfl) (Nat.le_of_ble_eq_true rfl) (⟨rfl, ⟨(gset (gset th 18 zz16) 14 zz17), ⟨(show MI (gset (gset th 18 zz16) 14 zz17) from ⟨m1, m2, (show th 20 = (th 12) * rnd (th 10) from m3), m4, m5, m6, m7, m8, m9, m10⟩), (SBM.set (k := 14) (SBM.set (k := 18) (SBM.rf th) (by decide)) (by decide))⟩, hT⟩, hfr⟩) dX11_rule_130
      by_cases c46 : z1 = 7
      ·
        refine lv_tableIn (off := 99) (tgt := 131) hx hb dX11_rule_32 (by rw [c46]; decide) (by rw [c46]; decide) (by rw [c46]; decide) (by decide) ?_
        have hb47 : In z1 7 7 := by rw [c46]; exact ⟨by decide, by decide⟩
        refine lv_aload_n hx hb dX11_rule_131 rfl (lv_at hl 0 rfl) ?_
        refine M0e hT (fun v0_48 v2_48 v3_48 v4_48 v5_48 v6_48 v8_48 v9_48 v12_48 v13_48 v14_48 v15_48 v16_48 v17_48 v18_48 v19_48 v20_48 v21_48 v22_48 v23_48 v25_48 v36_48 v37_48 v38_48 v39_48 v40_48 v45_48 v46_48 v47_48 v48_48 v50_48 v51_48 v53_48 v55_48 hf49 hv0_48 hv2_48 hg2_48 hv3_48 hg3_48 hv4_48 hg4_48 hv5_48 hg5_48 hv6_48 hg6_48 hv8_48 hg8_48 hv9_48 hg9_48 hv12_48 hv13_48 hg13_48 hv14_48 hg14_48 hv15_48 hg15_48 hv17_48 hg17_48 hv20_48 hg20_48 hv23_48 hg23_48 hv25_48 hg25_48 hv36_48 hg36_48 hv47_48 hg47_48 hv48_48 hg48_48 hv53_48 hg53_48 hv55_48 hg55_48 hrel0_48 => ?_)
        have hg2_48 : v2_48.toInt = th 13 := hg2_48
        have hg3_48 : v3_48.toInt = th 37 := hg3_48
        have hg4_48 : v4_48.toInt = th 42 := hg4_48
        have hg5_48 : v5_48.toInt = th 40 := hg5_48
        have hg6_48 : v6_48.toInt = th 41 := hg6_48
        have hg8_48 : v8_48.toInt = th 43 := hg8_48
        have hg9_48 : v9_48.toInt = th 35 := hg9_48
        have hg13_48 : v13_48.toInt = th 36 := hg13_48
        have hg14_48 : v14_48.toInt = th 10 := hg14_48
        have hg15_48 : v15_48.toInt = th 11 := hg15_48
        have hg17_48 : v17_48.toInt = th 12 := hg17_48
        have hg20_48 : v20_48.toInt = zz17 := hg20_48
        have hg23_48 : v23_48.toInt = th 15 := hg23_48
        have hg25_48 : v25_48.toInt = th 44 := hg25_48
        have hg36_48 : v36_48.toInt = zz16 := hg36_48
        have hg47_48 : v47_48.toInt = th 16 := hg47_48
        have hg48_48 : v48_48.toInt = th 17 := hg48_48
        have hg53_48 : v53_48.toInt = th 38 := hg53_48
        have hg55_48 : v55_48.toInt = th 39 := hg55_48
        refine pl_get (v := .int v36_48) hx hb hts (fun w h => mT (inX11 w h)) hown hG.1 hP (hst.1 255 (by decide)) hf49 rfl 36 (by decide) (hts _ (mT wg_1372)) (fun _ h => h) rfl dX11_rule_132 ?_
        refine lv_aload_n hx hb dX11_rule_135 rfl (lv_at hl 0 rfl) ?_
        refine call_i (run_V (rm := rm_X11_each) hx hb hml hown hts (s_X11_each l g ad (gset (gset th 18 zz16) 14 zz17) _ _ _  hst hT ) cV_X11_each wg_1636 ⟨Nat.le_of_ble_eq_true rfl, Nat.le_of_ble_eq_true rfl⟩ hG hE hA hP hD hS (hst.1 255 (by decide)) hf49 rfl rfl hl.1 (As := []) (rest := [.int v36_48]) rfl (Nat.le_of_ble_eq_true rfl) dX11_rule_136 ⟨Nat.le_of_ble_eq_true rfl, Nat.le_of_ble_eq_true rfl⟩) hA hD hS (fun r50 L51 f52 H locs hp53 hP hD hS => ?_)
        obtain ⟨eL54L, eL54T, eL54R, eL54X0⟩ := hp53
        have eL54L : L51 = L := eL54L
        have eL54T : f52 = f13 := eL54T
        rw [eL54L, eL54T] at hP hD
        have eL54R : In r50 2 3 := eL54R
        have hrn55 : r50.toInt = rnd (th 10) := eL54X0
        refine lv_idiv hx hb dX11_rule_139 (In.ne0 eL54R (by decide)) ?_
        refine lv_topi (fun x56 ex56 => ?_)
        have hb57 : In x56 0 9 := ex56 ▸ In.div hv36_48 eL54R (by decide) (by decide) (by decide) (by decide)
        exact ret_i (ty := .int) hx hb hr hlocks (rfl) hP hD hS (Nat.le_of_ble_eq_true rfl) (Nat.le_of_ble_eq_true rfl) (⟨rfl, ⟨(gset (gset th 18 zz16) 14 zz17), ⟨(show MI (gset (gset th 18 zz16) 14 zz17) from ⟨m1, m2, (show th 20 = (th 12) * rnd (th 10) from m3), m4, m5, m6, m7, m8, m9, m10⟩), (SBM.set (k := 14) (SBM.set (k := 18) (SBM.rf th) (by decide)) (by decide))⟩, hT⟩, hfr⟩) dX11_rule_140
      by_cases c58 : z1 = 8
      ·
        refine lv_tableIn (off := 109) (tgt := 141) hx hb dX11_rule_32 (by rw [c58]; decide) (by rw [c58]; decide) (by rw [c58]; decide) (by decide) ?_
        have hb59 : In z1 8 8 := by rw [c58]; exact ⟨by decide, by decide⟩
        refine lv_aload_n hx hb dX11_rule_141 rfl (lv_at hl 0 rfl) ?_
        refine M0e hT (fun v0_60 v2_60 v3_60 v4_60 v5_60 v6_60 v8_60 v9_60 v12_60 v13_60 v14_60 v15_60 v16_60 v17_60 v18_60 v19_60 v20_60 v21_60 v22_60 v23_60 v25_60 v36_60 v37_60 v38_60 v39_60 v40_60 v45_60 v46_60 v47_60 v48_60 v50_60 v51_60 v53_60 v55_60 hf61 hv0_60 hv2_60 hg2_60 hv3_60 hg3_60 hv4_60 hg4_60 hv5_60 hg5_60 hv6_60 hg6_60 hv8_60 hg8_60 hv9_60 hg9_60 hv12_60 hv13_60 hg13_60 hv14_60 hg14_60 hv15_60 hg15_60 hv17_60 hg17_60 hv20_60 hg20_60 hv23_60 hg23_60 hv25_60 hg25_60 hv36_60 hg36_60 hv47_60 hg47_60 hv48_60 hg48_60 hv53_60 hg53_60 hv55_60 hg55_60 hrel0_60 => ?_)
        have hg2_60 : v2_60.toInt = th 13 := hg2_60
        have hg3_60 : v3_60.toInt = th 37 := hg3_60
        have hg4_60 : v4_60.toInt = th 42 := hg4_60
        have hg5_60 : v5_60.toInt = th 40 := hg5_60
        have hg6_60 : v6_60.toInt = th 41 := hg6_60
        have hg8_60 : v8_60.toInt = th 43 := hg8_60
        have hg9_60 : v9_60.toInt = th 35 := hg9_60
        have hg13_60 : v13_60.toInt = th 36 := hg13_60
        have hg14_60 : v14_60.toInt = th 10 := hg14_60
        have hg15_60 : v15_60.toInt = th 11 := hg15_60
        have hg17_60 : v17_60.toInt = th 12 := hg17_60
        have hg20_60 : v20_60.toInt = zz17 := hg20_60
        have hg23_60 : v23_60.toInt = th 15 := hg23_60
        have hg25_60 : v25_60.toInt = th 44 := hg25_60
        have hg36_60 : v36_60.toInt = zz16 := hg36_60
        have hg47_60 : v47_60.toInt = th 16 := hg47_60
        have hg48_60 : v48_60.toInt = th 17 := hg48_60
        have hg53_60 : v53_60.toInt = th 38 := hg53_60
        have hg55_60 : v55_60.toInt = th 39 := hg55_60
        refine pl_get (v := .int v36_60) hx hb hts (fun w h => mT (inX11 w h)) hown hG.1 hP (hst.1 255 (by decide)) hf61 rfl 36 (by decide) (hts _ (mT wg_1372)) (fun _ h => h) rfl dX11_rule_142 ?_
        refine lv_aload_n hx hb dX11_rule_145 rfl (lv_at hl 0 rfl) ?_
        refine call_i (run_V (rm := rm_X11_each) hx hb hml hown hts (s_X11_each l g ad (gset (gset th 18 zz16) 14 zz17) _ _ _  hst hT ) cV_X11_each wg_1636 ⟨Nat.le_of_ble_eq_true rfl, Nat.le_of_ble_eq_true rfl⟩ hG hE hA hP hD hS (hst.1 255 (by decide)) hf61 rfl rfl hl.1 (As := []) (rest := [.int v36_60]) rfl (Nat.le_of_ble_eq_true rfl) dX11_rule_146 ⟨Nat.le_of_ble_eq_true rfl, Nat.le_of_ble_eq_true rfl⟩) hA hD hS (fun r62 L63 f64 H locs hp65 hP hD hS => ?_)
        obtain ⟨eL66L, eL66T, eL66R, eL66X0⟩ := hp65
        have eL66L : L63 = L := eL66L
        have eL66T : f64 = f13 := eL66T
        rw [eL66L, eL66T] at hP hD
        have eL66R : In r62 2 3 := eL66R
        have hrn67 : r62.toInt = rnd (th 10) := eL66X0
        refine lv_irem hx hb dX11_rule_149 (In.ne0 eL66R (by decide)) ?_
        refine lv_topi (fun x68 ex68 => ?_)
        have hb69 : In x68 0 2 := ex68 ▸ In.rem hv36_60 eL66R (by decide) (by decide) (by decide)
        exact ret_i (ty := .int) hx hb hr hlocks (rfl) hP hD hS (Nat.le_of_ble_eq_true rfl) (Nat.le_of_ble_eq_true rfl) (⟨rfl, ⟨(gset (gset th 18 zz16) 14 zz17), ⟨(show MI (gset (gset th 18 zz16) 14 zz17) from ⟨m1, m2, (show th 20 = (th 12) * rnd (th 10) from m3), m4, m5, m6, m7, m8, m9, m10⟩), (SBM.set (k := 14) (SBM.set (k := 18) (SBM.rf th) (by decide)) (by decide))⟩, hT⟩, hfr⟩) dX11_rule_150
      by_cases c70 : z1 = 9
      ·
        refine lv_tableIn (off := 119) (tgt := 151) hx hb dX11_rule_32 (by rw [c70]; decide) (by rw [c70]; decide) (by rw [c70]; decide) (by decide) ?_
        have hb71 : In z1 9 9 := by rw [c70]; exact ⟨by decide, by decide⟩
        refine lv_aload_n hx hb dX11_rule_151 rfl (lv_at hl 0 rfl) ?_
        refine M0e hT (fun v0_72 v2_72 v3_72 v4_72 v5_72 v6_72 v8_72 v9_72 v12_72 v13_72 v14_72 v15_72 v16_72 v17_72 v18_72 v19_72 v20_72 v21_72 v22_72 v23_72 v25_72 v36_72 v37_72 v38_72 v39_72 v40_72 v45_72 v46_72 v47_72 v48_72 v50_72 v51_72 v53_72 v55_72 hf73 hv0_72 hv2_72 hg2_72 hv3_72 hg3_72 hv4_72 hg4_72 hv5_72 hg5_72 hv6_72 hg6_72 hv8_72 hg8_72 hv9_72 hg9_72 hv12_72 hv13_72 hg13_72 hv14_72 hg14_72 hv15_72 hg15_72 hv17_72 hg17_72 hv20_72 hg20_72 hv23_72 hg23_72 hv25_72 hg25_72 hv36_72 hg36_72 hv47_72 hg47_72 hv48_72 hg48_72 hv53_72 hg53_72 hv55_72 hg55_72 hrel0_72 => ?_)
        have hg2_72 : v2_72.toInt = th 13 := hg2_72
        have hg3_72 : v3_72.toInt = th 37 := hg3_72
        have hg4_72 : v4_72.toInt = th 42 := hg4_72
        have hg5_72 : v5_72.toInt = th 40 := hg5_72
        have hg6_72 : v6_72.toInt = th 41 := hg6_72
        have hg8_72 : v8_72.toInt = th 43 := hg8_72
        have hg9_72 : v9_72.toInt = th 35 := hg9_72
        have hg13_72 : v13_72.toInt = th 36 := hg13_72
        have hg14_72 : v14_72.toInt = th 10 := hg14_72
        have hg15_72 : v15_72.toInt = th 11 := hg15_72
        have hg17_72 : v17_72.toInt = th 12 := hg17_72
        have hg20_72 : v20_72.toInt = zz17 := hg20_72
        have hg23_72 : v23_72.toInt = th 15 := hg23_72
        have hg25_72 : v25_72.toInt = th 44 := hg25_72
        have hg36_72 : v36_72.toInt = zz16 := hg36_72
        have hg47_72 : v47_72.toInt = th 16 := hg47_72
        have hg48_72 : v48_72.toInt = th 17 := hg48_72
        have hg53_72 : v53_72.toInt = th 38 := hg53_72
        have hg55_72 : v55_72.toInt = th 39 := hg55_72
        refine call_i (run_V (rm := rm_X11_each) hx hb hml hown hts (s_X11_each l g ad (gset (gset th 18 zz16) 14 zz17) _ _ _  hst hT ) cV_X11_each wg_1636 ⟨Nat.le_of_ble_eq_true rfl, Nat.le_of_ble_eq_true rfl⟩ hG hE hA hP hD hS (hst.1 255 (by decide)) hf73 rfl rfl hl.1 (As := []) (rest := []) rfl (Nat.le_of_ble_eq_true rfl) dX11_rule_152 ⟨Nat.le_of_ble_eq_true rfl, Nat.le_of_ble_eq_true rfl⟩) hA hD hS (fun r74 L75 f76 H locs hp77 hP hD hS => ?_)
        obtain ⟨eL78L, eL78T, eL78R, eL78X0⟩ := hp77
        have eL78L : L75 = L := eL78L
        have eL78T : f76 = f13 := eL78T
        rw [eL78L, eL78T] at hP hD
        have eL78R : In r74 2 3 := eL78R
        have hrn79 : r74.toInt = rnd (th 10) := eL78X0
        exact ret_i (ty := .int) hx hb hr hlocks (rfl) hP hD hS (Nat.le_of_ble_eq_true rfl) (Nat.le_of_ble_eq_true rfl) (⟨rfl, ⟨(gset (gset th 18 zz16) 14 zz17), ⟨(show MI (gset (gset th 18 zz16) 14 zz17) from ⟨m1, m2, (show th 20 = (th 12) * rnd (th 10) from m3), m4, m5, m6, m7, m8, m9, m10⟩), (SBM.set (k := 14) (SBM.set (k := 18) (SBM.rf th) (by decide)) (by decide))⟩, hT⟩, hfr⟩) dX11_rule_155
      by_cases c80 : z1 = 10
      ·
        refine lv_tableIn (off := 129) (tgt := 161) hx hb dX11_rule_32 (by rw [c80]; decide) (by rw [c80]; decide) (by rw [c80]; decide) (by decide) ?_
        have hb81 : In z1 10 10 := by rw [c80]; exact ⟨by decide, by decide⟩
        refine lv_ldcw hx hb hown (hts _ (mT wg_1752)) dX11_rule_161 ?_
        exact ret_i (ty := .int) hx hb hr hlocks (rfl) hP hD hS (Nat.le_of_ble_eq_true rfl) (Nat.le_of_ble_eq_true rfl) (⟨rfl, ⟨(gset (gset th 18 zz16) 14 zz17), ⟨(show MI (gset (gset th 18 zz16) 14 zz17) from ⟨m1, m2, (show th 20 = (th 12) * rnd (th 10) from m3), m4, m5, m6, m7, m8, m9, m10⟩), (SBM.set (k := 14) (SBM.set (k := 18) (SBM.rf th) (by decide)) (by decide))⟩, hT⟩, hfr⟩) dX11_rule_164
      by_cases c82 : z1 = 11
      ·
        refine lv_tableIn (off := 124) (tgt := 156) hx hb dX11_rule_32 (by rw [c82]; decide) (by rw [c82]; decide) (by rw [c82]; decide) (by decide) ?_
        have hb83 : In z1 11 11 := by rw [c82]; exact ⟨by decide, by decide⟩
        refine lv_aload_n hx hb dX11_rule_156 rfl (lv_at hl 0 rfl) ?_
        refine M0e hT (fun v0_84 v2_84 v3_84 v4_84 v5_84 v6_84 v8_84 v9_84 v12_84 v13_84 v14_84 v15_84 v16_84 v17_84 v18_84 v19_84 v20_84 v21_84 v22_84 v23_84 v25_84 v36_84 v37_84 v38_84 v39_84 v40_84 v45_84 v46_84 v47_84 v48_84 v50_84 v51_84 v53_84 v55_84 hf85 hv0_84 hv2_84 hg2_84 hv3_84 hg3_84 hv4_84 hg4_84 hv5_84 hg5_84 hv6_84 hg6_84 hv8_84 hg8_84 hv9_84 hg9_84 hv12_84 hv13_84 hg13_84 hv14_84 hg14_84 hv15_84 hg15_84 hv17_84 hg17_84 hv20_84 hg20_84 hv23_84 hg23_84 hv25_84 hg25_84 hv36_84 hg36_84 hv47_84 hg47_84 hv48_84 hg48_84 hv53_84 hg53_84 hv55_84 hg55_84 hrel0_84 => ?_)
        have hg2_84 : v2_84.toInt = th 13 := hg2_84
        have hg3_84 : v3_84.toInt = th 37 := hg3_84
        have hg4_84 : v4_84.toInt = th 42 := hg4_84
        have hg5_84 : v5_84.toInt = th 40 := hg5_84
        have hg6_84 : v6_84.toInt = th 41 := hg6_84
        have hg8_84 : v8_84.toInt = th 43 := hg8_84
        have hg9_84 : v9_84.toInt = th 35 := hg9_84
        have hg13_84 : v13_84.toInt = th 36 := hg13_84
        have hg14_84 : v14_84.toInt = th 10 := hg14_84
        have hg15_84 : v15_84.toInt = th 11 := hg15_84
        have hg17_84 : v17_84.toInt = th 12 := hg17_84
        have hg20_84 : v20_84.toInt = zz17 := hg20_84
        have hg23_84 : v23_84.toInt = th 15 := hg23_84
        have hg25_84 : v25_84.toInt = th 44 := hg25_84
        have hg36_84 : v36_84.toInt = zz16 := hg36_84
        have hg47_84 : v47_84.toInt = th 16 := hg47_84
        have hg48_84 : v48_84.toInt = th 17 := hg48_84
        have hg53_84 : v53_84.toInt = th 38 := hg53_84
        have hg55_84 : v55_84.toInt = th 39 := hg55_84
        refine pl_get (v := .int v25_84) hx hb hts (fun w h => mT (inX11 w h)) hown hG.1 hP (hst.1 255 (by decide)) hf85 rfl 25 (by decide) (hts _ (mT wg_1361)) (fun _ h => h) rfl dX11_rule_157 ?_
        exact ret_i (ty := .int) hx hb hr hlocks (rfl) hP hD hS (Nat.le_of_ble_eq_true rfl) (Nat.le_of_ble_eq_true rfl) (⟨rfl, ⟨(gset (gset th 18 zz16) 14 zz17), ⟨(show MI (gset (gset th 18 zz16) 14 zz17) from ⟨m1, m2, (show th 20 = (th 12) * rnd (th 10) from m3), m4, m5, m6, m7, m8, m9, m10⟩), (SBM.set (k := 14) (SBM.set (k := 18) (SBM.rf th) (by decide)) (by decide))⟩, hT⟩, hfr⟩) dX11_rule_160
      refine lv_tableOut (tgt := 161) hx hb dX11_rule_32 (tb_out (by decide) (by decide) (fun k h1 h2 => ?_)) (by decide) ?_
      · rcases (show k = 0 ∨ k = 1 ∨ k = 2 ∨ k = 3 ∨ k = 4 ∨ k = 5 ∨ k = 6 ∨ k = 7 ∨ k = 8 ∨ k = 9 ∨ k = 10 ∨ k = 11 by omega) with rfl | rfl | rfl | rfl | rfl | rfl | rfl | rfl | rfl | rfl | rfl | rfl
        · exact fun e => c18 (e.trans (by decide))
        · exact fun e => c22 (e.trans (by decide))
        · exact fun e => c26 (e.trans (by decide))
        · exact fun e => c30 (e.trans (by decide))
        · exact fun e => c34 (e.trans (by decide))
        · exact fun e => c38 (e.trans (by decide))
        · exact fun e => c42 (e.trans (by decide))
        · exact fun e => c46 (e.trans (by decide))
        · exact fun e => c58 (e.trans (by decide))
        · exact fun e => c70 (e.trans (by decide))
        · exact fun e => c80 (e.trans (by decide))
        · exact fun e => c82 (e.trans (by decide))
      ·
        have csc18 : z1.toInt ≠ 0 := fun e => i32_ne c18 (e.trans (by decide))
        have csc22 : z1.toInt ≠ 1 := fun e => i32_ne c22 (e.trans (by decide))
        have csc26 : z1.toInt ≠ 2 := fun e => i32_ne c26 (e.trans (by decide))
        have csc30 : z1.toInt ≠ 3 := fun e => i32_ne c30 (e.trans (by decide))
        have csc34 : z1.toInt ≠ 4 := fun e => i32_ne c34 (e.trans (by decide))
        have csc38 : z1.toInt ≠ 5 := fun e => i32_ne c38 (e.trans (by decide))
        have csc42 : z1.toInt ≠ 6 := fun e => i32_ne c42 (e.trans (by decide))
        have csc46 : z1.toInt ≠ 7 := fun e => i32_ne c46 (e.trans (by decide))
        have csc58 : z1.toInt ≠ 8 := fun e => i32_ne c58 (e.trans (by decide))
        have csc70 : z1.toInt ≠ 9 := fun e => i32_ne c70 (e.trans (by decide))
        have csc80 : z1.toInt ≠ 10 := fun e => i32_ne c80 (e.trans (by decide))
        have csc82 : z1.toInt ≠ 11 := fun e => i32_ne c82 (e.trans (by decide))
        refine lv_ldcw hx hb hown (hts _ (mT wg_1752)) dX11_rule_161 ?_
        exact ret_i (ty := .int) hx hb hr hlocks (rfl) hP hD hS (Nat.le_of_ble_eq_true rfl) (Nat.le_of_ble_eq_true rfl) (⟨rfl, ⟨(gset (gset th 18 zz16) 14 zz17), ⟨(show MI (gset (gset th 18 zz16) 14 zz17) from ⟨m1, m2, (show th 20 = (th 12) * rnd (th 10) from m3), m4, m5, m6, m7, m8, m9, m10⟩), (SBM.set (k := 14) (SBM.set (k := 18) (SBM.rf th) (by decide)) (by decide))⟩, hT⟩, hfr⟩) dX11_rule_164
    ·
      have oc0 : (0 : Int32).toInt = 0 := by decide
      have cc86 : v23_1.toInt = (0 : Int32).toInt := congrArg Int32.toInt c8
      have hb87 : In v23_1 0 0 := In.eq1 hv23_1 (⟨by decide, by decide⟩ : In 0 0 0) cc86 (by omega) (by omega)
      refine lv_ldcw hx hb hown (hts _ (mT wg_1752)) dX11_rule_23 ?_
      exact ret_i (ty := .int) hx hb hr hlocks (rfl) hP hD hS (Nat.le_of_ble_eq_true rfl) (Nat.le_of_ble_eq_true rfl) (⟨rfl, ⟨th, ⟨(show MI th from hM), (SBM.rf th)⟩, hT⟩, hfr⟩) dX11_rule_26
  ·
    have oc10 : (10 : Int32).toInt = 10 := by decide
    have cc88 : z1.toInt = (10 : Int32).toInt := congrArg Int32.toInt c6
    have hb89 : In z1 10 10 := In.eq1 (In.full z1) (⟨by decide, by decide⟩ : In 10 10 10) cc88 (by omega) (by omega)
    refine lv_aload_n hx hb dX11_rule_11 rfl (lv_at hl 0 rfl) ?_
    refine pl_get (v := .int v12_1) hx hb hts (fun w h => mT (inX11 w h)) hown hG.1 hP (hst.1 255 (by decide)) hf4 rfl 12 (by decide) (hts _ (mT wg_1348)) (fun _ h => h) rfl dX11_rule_12 ?_
    exact ret_i (ty := .int) hx hb hr hlocks (rfl) hP hD hS (Nat.le_of_ble_eq_true rfl) (Nat.le_of_ble_eq_true rfl) (⟨rfl, ⟨th, ⟨(show MI th from hM), (SBM.rf th)⟩, hT⟩, hfr⟩) dX11_rule_15

abbrev rm_X11_peer : Room := { frames := 2, cells := 0, slots := 0, locals := 46 }
abbrev po_X11_peer (g : GG) (ad : Nat → Nat) (th : Nat → Int) (L : List Nat) (f : HP) (z1 : Int32) (z2 : Int32) : Int32 → (List Nat × HP) → Prop := fun r u => u.1 = L ∧ (∃ th' : Nat → Int, (MI th' ∧ SBM th th') ∧ TI g ad th' u.2) ∧ (∀ b, b ≠ (ad 255) → b ≠ (ad 265) → b ≠ (ad 266) → b ≠ (ad 267) → b ≠ (ad 269) → b ≠ (ad 260) → b ≠ (ad 261) → b ≠ (ad 262) → b ≠ (ad 263) → b ≠ (ad 264) → u.2 b = f b)
set_option maxHeartbeats 4000000 in
set_option maxRecDepth 100000 in
theorem s_X11_peer (l : Launch) (g : GG) (ad : Nat → Nat) (th : Nat → Int) (L : List Nat) (f : HP) (sz : Nat) (z1 : Int32) (z2 : Int32) (hst : ST ad L) (hT : TI g ad th f) (hM : MI th) : MtI l g yX11_peer cX11_peer 3 (some .int) rm_X11_peer [.ref (ad 255), .int z1, .int z2] L f sz (po_X11_peer g ad th L f z1 z2) := by
  refine MtI.of (by decide +kernel) (Nat.le_of_ble_eq_true rfl) ?_
  intro p e s m below meth c A hEn hP hD hS ls hl
  obtain ⟨hx, hb, hr, hml, hown, hlocks, hts, hG, hA, hE, hnm⟩ := hEn
  have hown : s.vm.findClass "RulerWordModel" = some m.cls := hown
  have hl : lv_has ls 3 [(0, .ref (ad 255)), (1, .int z1), (2, .int z2)] := hl
  have hfr : (∀ b, b ≠ (ad 255) → b ≠ (ad 265) → b ≠ (ad 266) → b ≠ (ad 267) → b ≠ (ad 269) → b ≠ (ad 260) → b ≠ (ad 261) → b ≠ (ad 262) → b ≠ (ad 263) → b ≠ (ad 264) → f b = f b) := fun b z0_ z1_ z2_ z3_ z4_ z5_ z6_ z7_ z8_ z9_ => rfl
  have hM0 := hM
  obtain ⟨m1, m2, m3, m4, m5, m6, m7, m8, m9, m10⟩ := hM0
  have m20 := mi20 m2 m3
  refine lv_aload_n hx hb dX11_peer_0 rfl (lv_at hl 0 rfl) ?_
  refine lv_iconst (v := 0) hx hb dX11_peer_1 (by decide) ?_
  refine M0e hT (fun v0_1 v2_1 v3_1 v4_1 v5_1 v6_1 v8_1 v9_1 v12_1 v13_1 v14_1 v15_1 v16_1 v17_1 v18_1 v19_1 v20_1 v21_1 v22_1 v23_1 v25_1 v36_1 v37_1 v38_1 v39_1 v40_1 v45_1 v46_1 v47_1 v48_1 v50_1 v51_1 v53_1 v55_1 hf2 hv0_1 hv2_1 hg2_1 hv3_1 hg3_1 hv4_1 hg4_1 hv5_1 hg5_1 hv6_1 hg6_1 hv8_1 hg8_1 hv9_1 hg9_1 hv12_1 hv13_1 hg13_1 hv14_1 hg14_1 hv15_1 hg15_1 hv17_1 hg17_1 hv20_1 hg20_1 hv23_1 hg23_1 hv25_1 hg25_1 hv36_1 hg36_1 hv47_1 hg47_1 hv48_1 hg48_1 hv53_1 hg53_1 hv55_1 hg55_1 hrel0_1 => ?_)
  refine pl_put (ty := .int) (v := .int 0) (fs' := [.int 0, .ref (ad 256), .int v2_1, .int v3_1, .int v4_1, .int v5_1, .int v6_1, .ref (ad 257), .int v8_1, .int v9_1, .ref (ad 258), .ref (ad 259), .int v12_1, .int v13_1, .int v14_1, .int v15_1, .int v16_1, .int v17_1, .int v18_1, .int v19_1, .int v20_1, .long v21_1, .long v22_1, .int v23_1, .ref (ad 260), .int v25_1, .ref (ad 261), .ref (ad 262), .ref (ad 263), .ref (ad 264), .ref (ad 265), .ref (ad 266), .ref (ad 267), .ref (ad 268), .ref (ad 269), .ref (ad 270), .int v36_1, .int v37_1, .int v38_1, .int v39_1, .int v40_1, .ref (ad 271), .ref (ad 272), .ref (ad 273), .ref (ad 274), .long v45_1, .long v46_1, .int v47_1, .int v48_1, .ref (ad 275), .int v50_1, .int v51_1, .ref (ad 276), .int v53_1, .ref (ad 277), .int v55_1]) hx hb hts (fun w h => mT (inX11 w h)) tyX11 tyX11_ok nmX11 hown hG.1 hP hD hS (hst.1 255 (by decide)) hf2 rfl 0 (by decide) (hts _ (mT wg_1336)) (fun _ h => h) rfl (by decide +kernel) (rfl) (rfl) (Nat.le_of_ble_eq_true rfl) rfl dX11_peer_2 (fun H locs f3 hf4 ho5 hP hD hS => ?_)
  have hfr : (∀ b, b ≠ (ad 255) → b ≠ (ad 265) → b ≠ (ad 266) → b ≠ (ad 267) → b ≠ (ad 269) → b ≠ (ad 260) → b ≠ (ad 261) → b ≠ (ad 262) → b ≠ (ad 263) → b ≠ (ad 264) → f3 b = f b) := fun b z0_ z1_ z2_ z3_ z4_ z5_ z6_ z7_ z8_ z9_ => (ho5 b z0_).trans (hfr b z0_ z1_ z2_ z3_ z4_ z5_ z6_ z7_ z8_ z9_)
  refine lv_aload_n hx hb dX11_peer_5 rfl (lv_at hl 0 rfl) ?_
  refine lv_iload_n hx hb dX11_peer_6 rfl (lv_at hl 1 rfl) ?_
  have hT := TI.updM hT hst (k := 0) (by decide) hf4 ho5 ⟨0, v2_1, v3_1, v4_1, v5_1, v6_1, v8_1, v9_1, v12_1, v13_1, v14_1, v15_1, v16_1, v17_1, v18_1, v19_1, v20_1, v21_1, v22_1, v23_1, v25_1, v36_1, v37_1, v38_1, v39_1, v40_1, v45_1, v46_1, v47_1, v48_1, v50_1, v51_1, v53_1, v55_1, rfl, (⟨by decide, by decide⟩ : In 0 0 1), hv2_1, hg2_1, hv3_1, hg3_1, hv4_1, hg4_1, hv5_1, hg5_1, hv6_1, hg6_1, hv8_1, hg8_1, hv9_1, hg9_1, hv12_1, hv13_1, hg13_1, hv14_1, hg14_1, hv15_1, hg15_1, hv17_1, hg17_1, hv20_1, hg20_1, hv23_1, hg23_1, hv25_1, hg25_1, hv36_1, hg36_1, hv47_1, hg47_1, hv48_1, hg48_1, hv53_1, hg53_1, hv55_1, hg55_1, hrel0_1⟩
  refine call_i (run_V (rm := rm_X11_isPeer) hx hb hml hown hts (s_X11_isPeer l g ad th _ _ _ z1 hst hT ) cV_X11_isPeer wg_1718 ⟨Nat.le_of_ble_eq_true rfl, Nat.le_of_ble_eq_true rfl⟩ hG hE hA hP hD hS (hst.1 255 (by decide)) hf4 rfl rfl hl.1 (As := [.int z1]) (rest := []) rfl (Nat.le_of_ble_eq_true rfl) dX11_peer_7 ⟨Nat.le_of_ble_eq_true rfl, Nat.le_of_ble_eq_true rfl⟩) hA hD hS (fun r6 L7 f8 H locs hp9 hP hD hS => ?_)
  obtain ⟨eL10L, eL10T, eL10R, eL10W0, eL10X0⟩ := hp9
  have eL10L : L7 = L := eL10L
  have eL10T : f8 = f3 := eL10T
  rw [eL10L, eL10T] at hP hD
  have eL10R : In r6 0 1 := eL10R
  have hcl11 : r6.toInt = 0 ∨ th 15 = 1 := eL10X0
  refine lv_if_ne (tgt := 15) hx hb dX11_peer_10 (by decide) (fun c12 => ?_) (fun c12 => ?_)
  ·
    have oc0 : (0 : Int32).toInt = 0 := by decide
    have cc13 : r6.toInt ≠ (0 : Int32).toInt := i32_ne c12
    have hb14 : In r6 1 1 := In.ne1 eL10R (⟨by decide, by decide⟩ : In 0 0 0) cc13 (by omega) (by omega)
    have hb15 : In z1 0 8 := In.both (eL10W0 c12) (In.full z1) (by decide) (by decide)
    refine lv_aload_n hx hb dX11_peer_15 rfl (lv_at hl 0 rfl) ?_
    refine call_v (run_V (rm := rm_X11_takesUp) hx hb hml hown hts (s_X11_takesUp l g ad th _ _ _  hst hT (show (th 22) = 2126 from (by have ob10 : (0 : Int) ≤ (th 10) ∧ (th 10) ≤ 1 := (b0_10 hT :); have ob11 : (0 : Int) ≤ (th 11) ∧ (th 11) ≤ 9 := (b0_11 hT :); have ob12 : (0 : Int) ≤ (th 12) ∧ (th 12) ≤ 6 := (b0_12 hT :); have ob14 : (0 : Int) ≤ (th 14) ∧ (th 14) ≤ 511 := (b0_14 hT :); have ob15 : (0 : Int) ≤ (th 15) ∧ (th 15) ≤ 1 := (b0_15 hT :); have ob16 : (0 : Int) ≤ (th 16) ∧ (th 16) ≤ 20 := (b0_16 hT :); have ob17 : (0 : Int) ≤ (th 17) ∧ (th 17) ≤ 1 := (b0_17 hT :); have ob18 : (0 : Int) ≤ (th 18) ∧ (th 18) ≤ 18 := (b0_18 hT :); have ob38 : (0 : Int) ≤ (th 38) ∧ (th 38) ≤ 400 := (b0_38 hT :); have ob39 : (0 : Int) ≤ (th 39) ∧ (th 39) ≤ 200 := (b0_39 hT :); have ob44 : (0 : Int) ≤ (th 44) ∧ (th 44) ≤ 30 := (b0_44 hT :); obtain ⟨o0a, o0b⟩ := (hv14_1 : In _ _ _); obtain ⟨o1a, o1b⟩ := (hv15_1 : In _ _ _); obtain ⟨o2a, o2b⟩ := (hv17_1 : In _ _ _); obtain ⟨o3a, o3b⟩ := (hv20_1 : In _ _ _); obtain ⟨o4a, o4b⟩ := (hv23_1 : In _ _ _); obtain ⟨o5a, o5b⟩ := (hv25_1 : In _ _ _); obtain ⟨o6a, o6b⟩ := (hv36_1 : In _ _ _); obtain ⟨o7a, o7b⟩ := (hv47_1 : In _ _ _); obtain ⟨o8a, o8b⟩ := (hv48_1 : In _ _ _); obtain ⟨o9a, o9b⟩ := (hv53_1 : In _ _ _); obtain ⟨o10a, o10b⟩ := (hv55_1 : In _ _ _); omega)) (show (th 20) ≤ 18 from (by have ob10 : (0 : Int) ≤ (th 10) ∧ (th 10) ≤ 1 := (b0_10 hT :); have ob11 : (0 : Int) ≤ (th 11) ∧ (th 11) ≤ 9 := (b0_11 hT :); have ob12 : (0 : Int) ≤ (th 12) ∧ (th 12) ≤ 6 := (b0_12 hT :); have ob14 : (0 : Int) ≤ (th 14) ∧ (th 14) ≤ 511 := (b0_14 hT :); have ob15 : (0 : Int) ≤ (th 15) ∧ (th 15) ≤ 1 := (b0_15 hT :); have ob16 : (0 : Int) ≤ (th 16) ∧ (th 16) ≤ 20 := (b0_16 hT :); have ob17 : (0 : Int) ≤ (th 17) ∧ (th 17) ≤ 1 := (b0_17 hT :); have ob18 : (0 : Int) ≤ (th 18) ∧ (th 18) ≤ 18 := (b0_18 hT :); have ob38 : (0 : Int) ≤ (th 38) ∧ (th 38) ≤ 400 := (b0_38 hT :); have ob39 : (0 : Int) ≤ (th 39) ∧ (th 39) ≤ 200 := (b0_39 hT :); have ob44 : (0 : Int) ≤ (th 44) ∧ (th 44) ≤ 30 := (b0_44 hT :); obtain ⟨o0a, o0b⟩ := (hv14_1 : In _ _ _); obtain ⟨o1a, o1b⟩ := (hv15_1 : In _ _ _); obtain ⟨o2a, o2b⟩ := (hv17_1 : In _ _ _); obtain ⟨o3a, o3b⟩ := (hv20_1 : In _ _ _); obtain ⟨o4a, o4b⟩ := (hv23_1 : In _ _ _); obtain ⟨o5a, o5b⟩ := (hv25_1 : In _ _ _); obtain ⟨o6a, o6b⟩ := (hv36_1 : In _ _ _); obtain ⟨o7a, o7b⟩ := (hv47_1 : In _ _ _); obtain ⟨o8a, o8b⟩ := (hv48_1 : In _ _ _); obtain ⟨o9a, o9b⟩ := (hv53_1 : In _ _ _); obtain ⟨o10a, o10b⟩ := (hv55_1 : In _ _ _); omega)) (show (th 21) = (th 11) from (by have ob10 : (0 : Int) ≤ (th 10) ∧ (th 10) ≤ 1 := (b0_10 hT :); have ob11 : (0 : Int) ≤ (th 11) ∧ (th 11) ≤ 9 := (b0_11 hT :); have ob12 : (0 : Int) ≤ (th 12) ∧ (th 12) ≤ 6 := (b0_12 hT :); have ob14 : (0 : Int) ≤ (th 14) ∧ (th 14) ≤ 511 := (b0_14 hT :); have ob15 : (0 : Int) ≤ (th 15) ∧ (th 15) ≤ 1 := (b0_15 hT :); have ob16 : (0 : Int) ≤ (th 16) ∧ (th 16) ≤ 20 := (b0_16 hT :); have ob17 : (0 : Int) ≤ (th 17) ∧ (th 17) ≤ 1 := (b0_17 hT :); have ob18 : (0 : Int) ≤ (th 18) ∧ (th 18) ≤ 18 := (b0_18 hT :); have ob38 : (0 : Int) ≤ (th 38) ∧ (th 38) ≤ 400 := (b0_38 hT :); have ob39 : (0 : Int) ≤ (th 39) ∧ (th 39) ≤ 200 := (b0_39 hT :); have ob44 : (0 : Int) ≤ (th 44) ∧ (th 44) ≤ 30 := (b0_44 hT :); obtain ⟨o0a, o0b⟩ := (hv14_1 : In _ _ _); obtain ⟨o1a, o1b⟩ := (hv15_1 : In _ _ _); obtain ⟨o2a, o2b⟩ := (hv17_1 : In _ _ _); obtain ⟨o3a, o3b⟩ := (hv20_1 : In _ _ _); obtain ⟨o4a, o4b⟩ := (hv23_1 : In _ _ _); obtain ⟨o5a, o5b⟩ := (hv25_1 : In _ _ _); obtain ⟨o6a, o6b⟩ := (hv36_1 : In _ _ _); obtain ⟨o7a, o7b⟩ := (hv47_1 : In _ _ _); obtain ⟨o8a, o8b⟩ := (hv48_1 : In _ _ _); obtain ⟨o9a, o9b⟩ := (hv53_1 : In _ _ _); obtain ⟨o10a, o10b⟩ := (hv55_1 : In _ _ _); omega))) cV_X11_takesUp wg_1648 ⟨Nat.le_of_ble_eq_true rfl, Nat.le_of_ble_eq_true rfl⟩ hG hE hA hP hD hS (hst.1 255 (by decide)) hf4 rfl rfl hl.1 (As := []) (rest := []) rfl (Nat.le_of_ble_eq_true rfl) dX11_peer_16 ⟨Nat.le_of_ble_eq_true rfl, Nat.le_of_ble_eq_true rfl⟩) hA hD hS (fun L17 f18 H locs hp19 hP hD hS => ?_)
    obtain ⟨eL20L, eL20T, eL20F⟩ := hp19
    have eL20L : L17 = L := eL20L
    rw [eL20L] at hP hD
    obtain ⟨zz21, zz22, hzz21, eL20T⟩ := eL20T
    have hzz21 : ((zz21 = (th 19) ∧ 0 ≤ zz21 ∧ zz21 ≤ (th 20)) ∧ (0 ≤ zz22 ∧ zz22 ≤ 511)) ∧ capI zz22 ((th 11)) := hzz21
    have hT : TI g ad (gset (gset th 18 zz21) 14 zz22) f18 := eL20T
    have eL20F : ∀ b, b ≠ (ad 255) → b ≠ (ad 265) → b ≠ (ad 266) → b ≠ (ad 267) → b ≠ (ad 269) → b ≠ (ad 260) → b ≠ (ad 261) → b ≠ (ad 262) → b ≠ (ad 263) → b ≠ (ad 264) → f18 b = f3 b := eL20F
    have hfr : (∀ b, b ≠ (ad 255) → b ≠ (ad 265) → b ≠ (ad 266) → b ≠ (ad 267) → b ≠ (ad 269) → b ≠ (ad 260) → b ≠ (ad 261) → b ≠ (ad 262) → b ≠ (ad 263) → b ≠ (ad 264) → f18 b = f b) := fun b z0_ z1_ z2_ z3_ z4_ z5_ z6_ z7_ z8_ z9_ => (eL20F b z0_ z1_ z2_ z3_ z4_ z5_ z6_ z7_ z8_ z9_).trans (hfr b z0_ z1_ z2_ z3_ z4_ z5_ z6_ z7_ z8_ z9_)
    refine lv_iload_n hx hb dX11_peer_19 rfl (lv_at hl 2 rfl) ?_
    by_cases c23 : z2 = 0
    ·
      refine lv_tableIn (off := 32) (tgt := 52) hx hb dX11_peer_20 (by rw [c23]; decide) (by rw [c23]; decide) (by rw [c23]; decide) (by decide) ?_
      have hb24 : In z2 0 0 := by rw [c23]; exact ⟨by decide, by decide⟩
      refine lv_aload_n hx hb dX11_peer_52 rfl (lv_at hl 0 rfl) ?_
      refine M0e hT (fun v0_25 v2_25 v3_25 v4_25 v5_25 v6_25 v8_25 v9_25 v12_25 v13_25 v14_25 v15_25 v16_25 v17_25 v18_25 v19_25 v20_25 v21_25 v22_25 v23_25 v25_25 v36_25 v37_25 v38_25 v39_25 v40_25 v45_25 v46_25 v47_25 v48_25 v50_25 v51_25 v53_25 v55_25 hf26 hv0_25 hv2_25 hg2_25 hv3_25 hg3_25 hv4_25 hg4_25 hv5_25 hg5_25 hv6_25 hg6_25 hv8_25 hg8_25 hv9_25 hg9_25 hv12_25 hv13_25 hg13_25 hv14_25 hg14_25 hv15_25 hg15_25 hv17_25 hg17_25 hv20_25 hg20_25 hv23_25 hg23_25 hv25_25 hg25_25 hv36_25 hg36_25 hv47_25 hg47_25 hv48_25 hg48_25 hv53_25 hg53_25 hv55_25 hg55_25 hrel0_25 => ?_)
      have hg2_25 : v2_25.toInt = th 13 := hg2_25
      have hg3_25 : v3_25.toInt = th 37 := hg3_25
      have hg4_25 : v4_25.toInt = th 42 := hg4_25
      have hg5_25 : v5_25.toInt = th 40 := hg5_25
      have hg6_25 : v6_25.toInt = th 41 := hg6_25
      have hg8_25 : v8_25.toInt = th 43 := hg8_25
      have hg9_25 : v9_25.toInt = th 35 := hg9_25
      have hg13_25 : v13_25.toInt = th 36 := hg13_25
      have hg14_25 : v14_25.toInt = th 10 := hg14_25
      have hg15_25 : v15_25.toInt = th 11 := hg15_25
      have hg17_25 : v17_25.toInt = th 12 := hg17_25
      have hg20_25 : v20_25.toInt = zz22 := hg20_25
      have hg23_25 : v23_25.toInt = th 15 := hg23_25
      have hg25_25 : v25_25.toInt = th 44 := hg25_25
      have hg36_25 : v36_25.toInt = zz21 := hg36_25
      have hg47_25 : v47_25.toInt = th 16 := hg47_25
      have hg48_25 : v48_25.toInt = th 17 := hg48_25
      have hg53_25 : v53_25.toInt = th 38 := hg53_25
      have hg55_25 : v55_25.toInt = th 39 := hg55_25
      refine pl_get (v := .ref (ad 261)) hx hb hts (fun w h => mT (inX11 w h)) hown hG.1 hP (hst.1 255 (by decide)) hf26 rfl 26 (by decide) (hts _ (mT wg_1362)) (fun _ h => h) rfl dX11_peer_53 ?_
      refine lv_iload_n hx hb dX11_peer_56 rfl (lv_at hl 1 rfl) ?_
      obtain ⟨rw27, hf28⟩ := hT.2.2 6 (by decide)
      have hin29 : vp_in z1 9 := In.inb hb15 (by decide) (by decide)
      refine pl_iald hx hb hG.1 hP (hst.1 261 (by decide)) 0 hf28 rfl hin29 dX11_peer_57 ?_
      refine lv_topi (fun x30 ex30 => ?_)
      exact ret_i (ty := .int) hx hb hr hlocks (rfl) hP hD hS (Nat.le_of_ble_eq_true rfl) (Nat.le_of_ble_eq_true rfl) (⟨rfl, ⟨(gset (gset th 18 zz21) 14 zz22), ⟨(show MI (gset (gset th 18 zz21) 14 zz22) from ⟨m1, m2, (show th 20 = (th 12) * rnd (th 10) from m3), m4, m5, m6, m7, m8, m9, m10⟩), (SBM.set (k := 14) (SBM.set (k := 18) (SBM.rf th) (by decide)) (by decide))⟩, hT⟩, hfr⟩) dX11_peer_58
    by_cases c31 : z2 = 1
    ·
      refine lv_tableIn (off := 39) (tgt := 59) hx hb dX11_peer_20 (by rw [c31]; decide) (by rw [c31]; decide) (by rw [c31]; decide) (by decide) ?_
      have hb32 : In z2 1 1 := by rw [c31]; exact ⟨by decide, by decide⟩
      refine lv_aload_n hx hb dX11_peer_59 rfl (lv_at hl 0 rfl) ?_
      refine M0e hT (fun v0_33 v2_33 v3_33 v4_33 v5_33 v6_33 v8_33 v9_33 v12_33 v13_33 v14_33 v15_33 v16_33 v17_33 v18_33 v19_33 v20_33 v21_33 v22_33 v23_33 v25_33 v36_33 v37_33 v38_33 v39_33 v40_33 v45_33 v46_33 v47_33 v48_33 v50_33 v51_33 v53_33 v55_33 hf34 hv0_33 hv2_33 hg2_33 hv3_33 hg3_33 hv4_33 hg4_33 hv5_33 hg5_33 hv6_33 hg6_33 hv8_33 hg8_33 hv9_33 hg9_33 hv12_33 hv13_33 hg13_33 hv14_33 hg14_33 hv15_33 hg15_33 hv17_33 hg17_33 hv20_33 hg20_33 hv23_33 hg23_33 hv25_33 hg25_33 hv36_33 hg36_33 hv47_33 hg47_33 hv48_33 hg48_33 hv53_33 hg53_33 hv55_33 hg55_33 hrel0_33 => ?_)
      have hg2_33 : v2_33.toInt = th 13 := hg2_33
      have hg3_33 : v3_33.toInt = th 37 := hg3_33
      have hg4_33 : v4_33.toInt = th 42 := hg4_33
      have hg5_33 : v5_33.toInt = th 40 := hg5_33
      have hg6_33 : v6_33.toInt = th 41 := hg6_33
      have hg8_33 : v8_33.toInt = th 43 := hg8_33
      have hg9_33 : v9_33.toInt = th 35 := hg9_33
      have hg13_33 : v13_33.toInt = th 36 := hg13_33
      have hg14_33 : v14_33.toInt = th 10 := hg14_33
      have hg15_33 : v15_33.toInt = th 11 := hg15_33
      have hg17_33 : v17_33.toInt = th 12 := hg17_33
      have hg20_33 : v20_33.toInt = zz22 := hg20_33
      have hg23_33 : v23_33.toInt = th 15 := hg23_33
      have hg25_33 : v25_33.toInt = th 44 := hg25_33
      have hg36_33 : v36_33.toInt = zz21 := hg36_33
      have hg47_33 : v47_33.toInt = th 16 := hg47_33
      have hg48_33 : v48_33.toInt = th 17 := hg48_33
      have hg53_33 : v53_33.toInt = th 38 := hg53_33
      have hg55_33 : v55_33.toInt = th 39 := hg55_33
      refine pl_get (v := .ref (ad 262)) hx hb hts (fun w h => mT (inX11 w h)) hown hG.1 hP (hst.1 255 (by decide)) hf34 rfl 27 (by decide) (hts _ (mT wg_1363)) (fun _ h => h) rfl dX11_peer_60 ?_
      refine lv_iload_n hx hb dX11_peer_63 rfl (lv_at hl 1 rfl) ?_
      obtain ⟨rw35, hf36⟩ := hT.2.2 7 (by decide)
      have hin37 : vp_in z1 9 := In.inb hb15 (by decide) (by decide)
      refine pl_iald hx hb hG.1 hP (hst.1 262 (by decide)) 0 hf36 rfl hin37 dX11_peer_64 ?_
      refine lv_topi (fun x38 ex38 => ?_)
      exact ret_i (ty := .int) hx hb hr hlocks (rfl) hP hD hS (Nat.le_of_ble_eq_true rfl) (Nat.le_of_ble_eq_true rfl) (⟨rfl, ⟨(gset (gset th 18 zz21) 14 zz22), ⟨(show MI (gset (gset th 18 zz21) 14 zz22) from ⟨m1, m2, (show th 20 = (th 12) * rnd (th 10) from m3), m4, m5, m6, m7, m8, m9, m10⟩), (SBM.set (k := 14) (SBM.set (k := 18) (SBM.rf th) (by decide)) (by decide))⟩, hT⟩, hfr⟩) dX11_peer_65
    by_cases c39 : z2 = 2
    ·
      refine lv_tableIn (off := 46) (tgt := 66) hx hb dX11_peer_20 (by rw [c39]; decide) (by rw [c39]; decide) (by rw [c39]; decide) (by decide) ?_
      have hb40 : In z2 2 2 := by rw [c39]; exact ⟨by decide, by decide⟩
      refine lv_aload_n hx hb dX11_peer_66 rfl (lv_at hl 0 rfl) ?_
      refine lv_iload_n hx hb dX11_peer_67 rfl (lv_at hl 1 rfl) ?_
      refine M0e hT (fun v0_41 v2_41 v3_41 v4_41 v5_41 v6_41 v8_41 v9_41 v12_41 v13_41 v14_41 v15_41 v16_41 v17_41 v18_41 v19_41 v20_41 v21_41 v22_41 v23_41 v25_41 v36_41 v37_41 v38_41 v39_41 v40_41 v45_41 v46_41 v47_41 v48_41 v50_41 v51_41 v53_41 v55_41 hf42 hv0_41 hv2_41 hg2_41 hv3_41 hg3_41 hv4_41 hg4_41 hv5_41 hg5_41 hv6_41 hg6_41 hv8_41 hg8_41 hv9_41 hg9_41 hv12_41 hv13_41 hg13_41 hv14_41 hg14_41 hv15_41 hg15_41 hv17_41 hg17_41 hv20_41 hg20_41 hv23_41 hg23_41 hv25_41 hg25_41 hv36_41 hg36_41 hv47_41 hg47_41 hv48_41 hg48_41 hv53_41 hg53_41 hv55_41 hg55_41 hrel0_41 => ?_)
      have hg2_41 : v2_41.toInt = th 13 := hg2_41
      have hg3_41 : v3_41.toInt = th 37 := hg3_41
      have hg4_41 : v4_41.toInt = th 42 := hg4_41
      have hg5_41 : v5_41.toInt = th 40 := hg5_41
      have hg6_41 : v6_41.toInt = th 41 := hg6_41
      have hg8_41 : v8_41.toInt = th 43 := hg8_41
      have hg9_41 : v9_41.toInt = th 35 := hg9_41
      have hg13_41 : v13_41.toInt = th 36 := hg13_41
      have hg14_41 : v14_41.toInt = th 10 := hg14_41
      have hg15_41 : v15_41.toInt = th 11 := hg15_41
      have hg17_41 : v17_41.toInt = th 12 := hg17_41
      have hg20_41 : v20_41.toInt = zz22 := hg20_41
      have hg23_41 : v23_41.toInt = th 15 := hg23_41
      have hg25_41 : v25_41.toInt = th 44 := hg25_41
      have hg36_41 : v36_41.toInt = zz21 := hg36_41
      have hg47_41 : v47_41.toInt = th 16 := hg47_41
      have hg48_41 : v48_41.toInt = th 17 := hg48_41
      have hg53_41 : v53_41.toInt = th 38 := hg53_41
      have hg55_41 : v55_41.toInt = th 39 := hg55_41
      refine call_i (run_V (rm := rm_X11_isLiar) hx hb hml hown hts (s_X11_isLiar l g ad (gset (gset th 18 zz21) 14 zz22) _ _ _ z1 hst hT ) cV_X11_isLiar wg_1664 ⟨Nat.le_of_ble_eq_true rfl, Nat.le_of_ble_eq_true rfl⟩ hG hE hA hP hD hS (hst.1 255 (by decide)) hf42 rfl rfl hl.1 (As := [.int z1]) (rest := []) rfl (Nat.le_of_ble_eq_true rfl) dX11_peer_68 ⟨Nat.le_of_ble_eq_true rfl, Nat.le_of_ble_eq_true rfl⟩) hA hD hS (fun r43 L44 f45 H locs hp46 hP hD hS => ?_)
      obtain ⟨eL47L, eL47T, eL47R, eL47X0⟩ := hp46
      have eL47L : L44 = L := eL47L
      have eL47T : f45 = f18 := eL47T
      rw [eL47L, eL47T] at hP hD
      have eL47R : In r43 0 1 := eL47R
      have hbl48 : r43.toInt = bitI (zz22) z1.toInt := eL47X0 (In.mono hb15 (by decide) (by decide))
      refine lv_if_eq (tgt := 78) hx hb dX11_peer_71 (by decide) (fun c49 => ?_) (fun c49 => ?_)
      ·
        have oc0 : (0 : Int32).toInt = 0 := by decide
        have cc50 : r43.toInt = (0 : Int32).toInt := congrArg Int32.toInt c49
        have hb51 : In r43 0 0 := In.eq1 eL47R (⟨by decide, by decide⟩ : In 0 0 0) cc50 (by omega) (by omega)
        refine lv_iconst (v := 0) hx hb dX11_peer_78 (by decide) ?_
        exact ret_i (ty := .int) hx hb hr hlocks (rfl) hP hD hS (Nat.le_of_ble_eq_true rfl) (Nat.le_of_ble_eq_true rfl) (⟨rfl, ⟨(gset (gset th 18 zz21) 14 zz22), ⟨(show MI (gset (gset th 18 zz21) 14 zz22) from ⟨m1, m2, (show th 20 = (th 12) * rnd (th 10) from m3), m4, m5, m6, m7, m8, m9, m10⟩), (SBM.set (k := 14) (SBM.set (k := 18) (SBM.rf th) (by decide)) (by decide))⟩, hT⟩, hfr⟩) dX11_peer_79
      ·
        have oc0 : (0 : Int32).toInt = 0 := by decide
        have cc52 : r43.toInt ≠ (0 : Int32).toInt := i32_ne c49
        have hb53 : In r43 1 1 := In.ne1 eL47R (⟨by decide, by decide⟩ : In 0 0 0) cc52 (by omega) (by omega)
        refine lv_iconst (v := 1) hx hb dX11_peer_74 (by decide) ?_
        refine lv_goto (tgt := 79) hx hb dX11_peer_75 (by decide) ?_
        exact ret_i (ty := .int) hx hb hr hlocks (rfl) hP hD hS (Nat.le_of_ble_eq_true rfl) (Nat.le_of_ble_eq_true rfl) (⟨rfl, ⟨(gset (gset th 18 zz21) 14 zz22), ⟨(show MI (gset (gset th 18 zz21) 14 zz22) from ⟨m1, m2, (show th 20 = (th 12) * rnd (th 10) from m3), m4, m5, m6, m7, m8, m9, m10⟩), (SBM.set (k := 14) (SBM.set (k := 18) (SBM.rf th) (by decide)) (by decide))⟩, hT⟩, hfr⟩) dX11_peer_79
    by_cases c54 : z2 = 3
    ·
      refine lv_tableIn (off := 60) (tgt := 80) hx hb dX11_peer_20 (by rw [c54]; decide) (by rw [c54]; decide) (by rw [c54]; decide) (by decide) ?_
      have hb55 : In z2 3 3 := by rw [c54]; exact ⟨by decide, by decide⟩
      refine lv_aload_n hx hb dX11_peer_80 rfl (lv_at hl 0 rfl) ?_
      refine M0e hT (fun v0_56 v2_56 v3_56 v4_56 v5_56 v6_56 v8_56 v9_56 v12_56 v13_56 v14_56 v15_56 v16_56 v17_56 v18_56 v19_56 v20_56 v21_56 v22_56 v23_56 v25_56 v36_56 v37_56 v38_56 v39_56 v40_56 v45_56 v46_56 v47_56 v48_56 v50_56 v51_56 v53_56 v55_56 hf57 hv0_56 hv2_56 hg2_56 hv3_56 hg3_56 hv4_56 hg4_56 hv5_56 hg5_56 hv6_56 hg6_56 hv8_56 hg8_56 hv9_56 hg9_56 hv12_56 hv13_56 hg13_56 hv14_56 hg14_56 hv15_56 hg15_56 hv17_56 hg17_56 hv20_56 hg20_56 hv23_56 hg23_56 hv25_56 hg25_56 hv36_56 hg36_56 hv47_56 hg47_56 hv48_56 hg48_56 hv53_56 hg53_56 hv55_56 hg55_56 hrel0_56 => ?_)
      have hg2_56 : v2_56.toInt = th 13 := hg2_56
      have hg3_56 : v3_56.toInt = th 37 := hg3_56
      have hg4_56 : v4_56.toInt = th 42 := hg4_56
      have hg5_56 : v5_56.toInt = th 40 := hg5_56
      have hg6_56 : v6_56.toInt = th 41 := hg6_56
      have hg8_56 : v8_56.toInt = th 43 := hg8_56
      have hg9_56 : v9_56.toInt = th 35 := hg9_56
      have hg13_56 : v13_56.toInt = th 36 := hg13_56
      have hg14_56 : v14_56.toInt = th 10 := hg14_56
      have hg15_56 : v15_56.toInt = th 11 := hg15_56
      have hg17_56 : v17_56.toInt = th 12 := hg17_56
      have hg20_56 : v20_56.toInt = zz22 := hg20_56
      have hg23_56 : v23_56.toInt = th 15 := hg23_56
      have hg25_56 : v25_56.toInt = th 44 := hg25_56
      have hg36_56 : v36_56.toInt = zz21 := hg36_56
      have hg47_56 : v47_56.toInt = th 16 := hg47_56
      have hg48_56 : v48_56.toInt = th 17 := hg48_56
      have hg53_56 : v53_56.toInt = th 38 := hg53_56
      have hg55_56 : v55_56.toInt = th 39 := hg55_56
      refine pl_get (v := .int v19_56) hx hb hts (fun w h => mT (inX11 w h)) hown hG.1 hP (hst.1 255 (by decide)) hf57 rfl 19 (by decide) (hts _ (mT wg_1355)) (fun _ h => h) rfl dX11_peer_81 ?_
      refine lv_iload_n hx hb dX11_peer_84 rfl (lv_at hl 1 rfl) ?_
      refine lv_ishr hx hb dX11_peer_85 ?_
      refine lv_topi (fun x58 ex58 => ?_)
      refine lv_iconst (v := 1) hx hb dX11_peer_86 (by decide) ?_
      refine lv_iand hx hb dX11_peer_87 ?_
      refine lv_topi (fun x59 ex59 => ?_)
      have hb60 : In x59 0 1 := ex59 ▸ In.andr (⟨by decide, by decide⟩ : In 1 1 1) (by decide)
      exact ret_i (ty := .int) hx hb hr hlocks (rfl) hP hD hS (Nat.le_of_ble_eq_true rfl) (Nat.le_of_ble_eq_true rfl) (⟨rfl, ⟨(gset (gset th 18 zz21) 14 zz22), ⟨(show MI (gset (gset th 18 zz21) 14 zz22) from ⟨m1, m2, (show th 20 = (th 12) * rnd (th 10) from m3), m4, m5, m6, m7, m8, m9, m10⟩), (SBM.set (k := 14) (SBM.set (k := 18) (SBM.rf th) (by decide)) (by decide))⟩, hT⟩, hfr⟩) dX11_peer_88
    refine lv_tableOut (tgt := 89) hx hb dX11_peer_20 (tb_out (by decide) (by decide) (fun k h1 h2 => ?_)) (by decide) ?_
    · rcases (show k = 0 ∨ k = 1 ∨ k = 2 ∨ k = 3 by omega) with rfl | rfl | rfl | rfl
      · exact fun e => c23 (e.trans (by decide))
      · exact fun e => c31 (e.trans (by decide))
      · exact fun e => c39 (e.trans (by decide))
      · exact fun e => c54 (e.trans (by decide))
    ·
      have csc23 : z2.toInt ≠ 0 := fun e => i32_ne c23 (e.trans (by decide))
      have csc31 : z2.toInt ≠ 1 := fun e => i32_ne c31 (e.trans (by decide))
      have csc39 : z2.toInt ≠ 2 := fun e => i32_ne c39 (e.trans (by decide))
      have csc54 : z2.toInt ≠ 3 := fun e => i32_ne c54 (e.trans (by decide))
      refine lv_iconst (v := (-1)) hx hb dX11_peer_89 (by decide) ?_
      exact ret_i (ty := .int) hx hb hr hlocks (rfl) hP hD hS (Nat.le_of_ble_eq_true rfl) (Nat.le_of_ble_eq_true rfl) (⟨rfl, ⟨(gset (gset th 18 zz21) 14 zz22), ⟨(show MI (gset (gset th 18 zz21) 14 zz22) from ⟨m1, m2, (show th 20 = (th 12) * rnd (th 10) from m3), m4, m5, m6, m7, m8, m9, m10⟩), (SBM.set (k := 14) (SBM.set (k := 18) (SBM.rf th) (by decide)) (by decide))⟩, hT⟩, hfr⟩) dX11_peer_90
  ·
    have oc0 : (0 : Int32).toInt = 0 := by decide
    have cc61 : r6.toInt = (0 : Int32).toInt := congrArg Int32.toInt c12
    have hb62 : In r6 0 0 := In.eq1 eL10R (⟨by decide, by decide⟩ : In 0 0 0) cc61 (by omega) (by omega)
    refine lv_iconst (v := (-1)) hx hb dX11_peer_13 (by decide) ?_
    exact ret_i (ty := .int) hx hb hr hlocks (rfl) hP hD hS (Nat.le_of_ble_eq_true rfl) (Nat.le_of_ble_eq_true rfl) (⟨rfl, ⟨th, ⟨(show MI th from hM), (SBM.rf th)⟩, hT⟩, hfr⟩) dX11_peer_14

abbrev rm_X11_say : Room := { frames := 2, cells := 0, slots := 0, locals := 47 }
abbrev po_X11_say (g : GG) (ad : Nat → Nat) (th : Nat → Int) (L : List Nat) (f : HP) (z1 : Int32) (z2 : Int32) (z3 : Int32) (z4 : Int32) (z5 : Int32) : Int32 → (List Nat × HP) → Prop := fun r u => u.1 = L ∧ (∃ th' : Nat → Int, (MI th' ∧ SBM th th') ∧ TI g ad th' u.2)
set_option maxHeartbeats 4000000 in
set_option maxRecDepth 100000 in
theorem s_X11_say (l : Launch) (g : GG) (ad : Nat → Nat) (th : Nat → Int) (L : List Nat) (f : HP) (sz : Nat) (z1 : Int32) (z2 : Int32) (z3 : Int32) (z4 : Int32) (z5 : Int32) (hst : ST ad L) (hT : TI g ad th f) (hM : MI th) : MtI l g yX11_say cX11_say 7 (some .int) rm_X11_say [.ref (ad 255), .int z1, .int z2, .int z3, .int z4, .int z5] L f sz (po_X11_say g ad th L f z1 z2 z3 z4 z5) := by
  refine MtI.of (by decide +kernel) (Nat.le_of_ble_eq_true rfl) ?_
  intro p e s m below meth c A hEn hP hD hS ls hl
  obtain ⟨hx, hb, hr, hml, hown, hlocks, hts, hG, hA, hE, hnm⟩ := hEn
  have hown : s.vm.findClass "RulerWordModel" = some m.cls := hown
  have hl : lv_has ls 7 [(0, .ref (ad 255)), (1, .int z1), (2, .int z2), (3, .int z3), (4, .int z4), (5, .int z5)] := hl
  have hM0 := hM
  obtain ⟨m1, m2, m3, m4, m5, m6, m7, m8, m9, m10⟩ := hM0
  have m20 := mi20 m2 m3
  refine lv_aload_n hx hb dX11_say_0 rfl (lv_at hl 0 rfl) ?_
  refine lv_iconst (v := 0) hx hb dX11_say_1 (by decide) ?_
  refine M0e hT (fun v0_1 v2_1 v3_1 v4_1 v5_1 v6_1 v8_1 v9_1 v12_1 v13_1 v14_1 v15_1 v16_1 v17_1 v18_1 v19_1 v20_1 v21_1 v22_1 v23_1 v25_1 v36_1 v37_1 v38_1 v39_1 v40_1 v45_1 v46_1 v47_1 v48_1 v50_1 v51_1 v53_1 v55_1 hf2 hv0_1 hv2_1 hg2_1 hv3_1 hg3_1 hv4_1 hg4_1 hv5_1 hg5_1 hv6_1 hg6_1 hv8_1 hg8_1 hv9_1 hg9_1 hv12_1 hv13_1 hg13_1 hv14_1 hg14_1 hv15_1 hg15_1 hv17_1 hg17_1 hv20_1 hg20_1 hv23_1 hg23_1 hv25_1 hg25_1 hv36_1 hg36_1 hv47_1 hg47_1 hv48_1 hg48_1 hv53_1 hg53_1 hv55_1 hg55_1 hrel0_1 => ?_)
  refine pl_put (ty := .int) (v := .int 0) (fs' := [.int 0, .ref (ad 256), .int v2_1, .int v3_1, .int v4_1, .int v5_1, .int v6_1, .ref (ad 257), .int v8_1, .int v9_1, .ref (ad 258), .ref (ad 259), .int v12_1, .int v13_1, .int v14_1, .int v15_1, .int v16_1, .int v17_1, .int v18_1, .int v19_1, .int v20_1, .long v21_1, .long v22_1, .int v23_1, .ref (ad 260), .int v25_1, .ref (ad 261), .ref (ad 262), .ref (ad 263), .ref (ad 264), .ref (ad 265), .ref (ad 266), .ref (ad 267), .ref (ad 268), .ref (ad 269), .ref (ad 270), .int v36_1, .int v37_1, .int v38_1, .int v39_1, .int v40_1, .ref (ad 271), .ref (ad 272), .ref (ad 273), .ref (ad 274), .long v45_1, .long v46_1, .int v47_1, .int v48_1, .ref (ad 275), .int v50_1, .int v51_1, .ref (ad 276), .int v53_1, .ref (ad 277), .int v55_1]) hx hb hts (fun w h => mT (inX11 w h)) tyX11 tyX11_ok nmX11 hown hG.1 hP hD hS (hst.1 255 (by decide)) hf2 rfl 0 (by decide) (hts _ (mT wg_1336)) (fun _ h => h) rfl (by decide +kernel) (rfl) (rfl) (Nat.le_of_ble_eq_true rfl) rfl dX11_say_2 (fun H locs f3 hf4 ho5 hP hD hS => ?_)
  refine lv_aload_n hx hb dX11_say_5 rfl (lv_at hl 0 rfl) ?_
  refine pl_get (v := .int v23_1) hx hb hts (fun w h => mT (inX11 w h)) hown hG.1 hP (hst.1 255 (by decide)) hf4 rfl 23 (by decide) (hts _ (mT wg_1359)) (fun _ h => h) rfl dX11_say_6 ?_
  have hT := TI.updM hT hst (k := 0) (by decide) hf4 ho5 ⟨0, v2_1, v3_1, v4_1, v5_1, v6_1, v8_1, v9_1, v12_1, v13_1, v14_1, v15_1, v16_1, v17_1, v18_1, v19_1, v20_1, v21_1, v22_1, v23_1, v25_1, v36_1, v37_1, v38_1, v39_1, v40_1, v45_1, v46_1, v47_1, v48_1, v50_1, v51_1, v53_1, v55_1, rfl, (⟨by decide, by decide⟩ : In 0 0 1), hv2_1, hg2_1, hv3_1, hg3_1, hv4_1, hg4_1, hv5_1, hg5_1, hv6_1, hg6_1, hv8_1, hg8_1, hv9_1, hg9_1, hv12_1, hv13_1, hg13_1, hv14_1, hg14_1, hv15_1, hg15_1, hv17_1, hg17_1, hv20_1, hg20_1, hv23_1, hg23_1, hv25_1, hg25_1, hv36_1, hg36_1, hv47_1, hg47_1, hv48_1, hg48_1, hv53_1, hg53_1, hv55_1, hg55_1, hrel0_1⟩
  refine lv_if_ne (tgt := 18) hx hb dX11_say_9 (by decide) (fun c6 => ?_) (fun c6 => ?_)
  ·
    have oc0 : (0 : Int32).toInt = 0 := by decide
    have cc7 : v23_1.toInt ≠ (0 : Int32).toInt := i32_ne c6
    have hb8 : In v23_1 1 1 := In.ne1 hv23_1 (⟨by decide, by decide⟩ : In 0 0 0) cc7 (by omega) (by omega)
    refine lv_aload_n hx hb dX11_say_18 rfl (lv_at hl 0 rfl) ?_
    refine lv_iload_n hx hb dX11_say_19 rfl (lv_at hl 1 rfl) ?_
    refine lv_iload_n hx hb dX11_say_20 rfl (lv_at hl 2 rfl) ?_
    refine call_i (run_V (rm := rm_X11_isRound) hx hb hml hown hts (s_X11_isRound l g ad th _ _ _ z1 z2 hst hT ) cV_X11_isRound wg_1714 ⟨Nat.le_of_ble_eq_true rfl, Nat.le_of_ble_eq_true rfl⟩ hG hE hA hP hD hS (hst.1 255 (by decide)) hf4 rfl rfl hl.1 (As := [.int z1, .int z2]) (rest := []) rfl (Nat.le_of_ble_eq_true rfl) dX11_say_21 ⟨Nat.le_of_ble_eq_true rfl, Nat.le_of_ble_eq_true rfl⟩) hA hD hS (fun r9 L10 f11 H locs hp12 hP hD hS => ?_)
    obtain ⟨eL13L, eL13T, eL13R, eL13W0, eL13W1, eL13X0⟩ := hp12
    have eL13L : L10 = L := eL13L
    have eL13T : f11 = f3 := eL13T
    rw [eL13L, eL13T] at hP hD
    have eL13R : In r9 0 1 := eL13R
    have hcl14 : r9.toInt = 0 ∨ th 15 = 1 := eL13X0
    have hJ57 : ∀ (H : Heap) (locs : List Loc) (ls : Array Slot), va_P g.1 vwCl (va_pl L f3) H → va_D A (va_pl L f3) → va_S A s.heap H locs → lv_has ls 7 [(0, .ref (ad 255)), (1, .int z1), (2, .int z2), (3, .int z3), (4, .int z4), (5, .int z5)] → W p l e rm_X11_say s m [.ref (ad 255), .int z1, .int z2, .int z3, .int z4, .int z5].toArray below meth c H locs 0 0 (MQ below (va_Qi (po_X11_say g ad th L f z1 z2 z3 z4 z5) (PstB g A) A) [.ref (ad 255), .int z1, .int z2, .int z3, .int z4, .int z5].toArray s rm_X11_say.cells rm_X11_say.slots A) (F0 m 57 ls []) := by
      intro H locs ls hP hD hS hl
      refine lv_aload_n hx hb dX11_say_57 rfl (lv_at hl 0 rfl) ?_
      refine lv_iconst (v := 1) hx hb dX11_say_58 (by decide) ?_
      refine call_i (run_V (rm := rm_X11_refuse) hx hb hml hown hts (s_X11_refuse l g ad th _ _ _ 1 hst hT (⟨by decide, by decide⟩ : In 1 0 4)) cV_X11_refuse wg_1710 ⟨Nat.le_of_ble_eq_true rfl, Nat.le_of_ble_eq_true rfl⟩ hG hE hA hP hD hS (hst.1 255 (by decide)) hf4 rfl rfl hl.1 (As := [.int 1]) (rest := []) rfl (Nat.le_of_ble_eq_true rfl) dX11_say_59 ⟨Nat.le_of_ble_eq_true rfl, Nat.le_of_ble_eq_true rfl⟩) hA hD hS (fun r15 L16 f17 H locs hp18 hP hD hS => ?_)
      obtain ⟨eL19L, eL19T, eL19F⟩ := hp18
      have eL19L : L16 = L := eL19L
      rw [eL19L] at hP hD
      have hT : TI g ad th f17 := eL19T
      have eL19F : ∀ b, b ≠ (ad 275) → f17 b = f3 b := eL19F
      have hf20 := (eL19F (ad 255) (hst.ne (by decide) (by decide) (by decide))).trans hf4
      exact ret_i (ty := .int) hx hb hr hlocks (rfl) hP hD hS (Nat.le_of_ble_eq_true rfl) (Nat.le_of_ble_eq_true rfl) (⟨rfl, ⟨th, ⟨(show MI th from hM), (SBM.rf th)⟩, hT⟩⟩) dX11_say_62
    refine lv_if_eq (tgt := 57) hx hb dX11_say_24 (by decide) (fun c21 => ?_) (fun c21 => ?_)
    ·
      have oc0 : (0 : Int32).toInt = 0 := by decide
      have cc22 : r9.toInt = (0 : Int32).toInt := congrArg Int32.toInt c21
      have hb23 : In r9 0 0 := In.eq1 eL13R (⟨by decide, by decide⟩ : In 0 0 0) cc22 (by omega) (by omega)
      exact hJ57 _ _ _ hP hD hS (lv_sub hl [0, 1, 2, 3, 4, 5] rfl)
    ·
      have oc0 : (0 : Int32).toInt = 0 := by decide
      have cc24 : r9.toInt ≠ (0 : Int32).toInt := i32_ne c21
      have hb25 : In r9 1 1 := In.ne1 eL13R (⟨by decide, by decide⟩ : In 0 0 0) cc24 (by omega) (by omega)
      have hb26 : In z1 0 5 := In.both (eL13W0 c21) (In.full z1) (by decide) (by decide)
      have hb27 : In z2 0 2 := In.both (eL13W1 c21) (In.full z2) (by decide) (by decide)
      refine lv_aload_n hx hb dX11_say_27 rfl (lv_at hl 0 rfl) ?_
      refine lv_iload_n hx hb dX11_say_28 rfl (lv_at hl 3 rfl) ?_
      refine call_i (run_V (rm := rm_X11_isPeer) hx hb hml hown hts (s_X11_isPeer l g ad th _ _ _ z3 hst hT ) cV_X11_isPeer wg_1718 ⟨Nat.le_of_ble_eq_true rfl, Nat.le_of_ble_eq_true rfl⟩ hG hE hA hP hD hS (hst.1 255 (by decide)) hf4 rfl rfl hl.1 (As := [.int z3]) (rest := []) rfl (Nat.le_of_ble_eq_true rfl) dX11_say_29 ⟨Nat.le_of_ble_eq_true rfl, Nat.le_of_ble_eq_true rfl⟩) hA hD hS (fun r28 L29 f30 H locs hp31 hP hD hS => ?_)
      obtain ⟨eL32L, eL32T, eL32R, eL32W0, eL32X0⟩ := hp31
      have eL32L : L29 = L := eL32L
      have eL32T : f30 = f3 := eL32T
      rw [eL32L, eL32T] at hP hD
      have eL32R : In r28 0 1 := eL32R
      have hcl33 : r28.toInt = 0 ∨ th 15 = 1 := eL32X0
      refine lv_if_eq (tgt := 57) hx hb dX11_say_32 (by decide) (fun c34 => ?_) (fun c34 => ?_)
      ·
        have oc0 : (0 : Int32).toInt = 0 := by decide
        have cc35 : r28.toInt = (0 : Int32).toInt := congrArg Int32.toInt c34
        have hb36 : In r28 0 0 := In.eq1 eL32R (⟨by decide, by decide⟩ : In 0 0 0) cc35 (by omega) (by omega)
        exact hJ57 _ _ _ hP hD hS (lv_sub hl [0, 1, 2, 3, 4, 5] rfl)
      ·
        have oc0 : (0 : Int32).toInt = 0 := by decide
        have cc37 : r28.toInt ≠ (0 : Int32).toInt := i32_ne c34
        have hb38 : In r28 1 1 := In.ne1 eL32R (⟨by decide, by decide⟩ : In 0 0 0) cc37 (by omega) (by omega)
        have hb39 : In z3 0 8 := In.both (eL32W0 c34) (In.full z3) (by decide) (by decide)
        refine lv_aload_n hx hb dX11_say_35 rfl (lv_at hl 0 rfl) ?_
        refine lv_iload hx hb dX11_say_36 (lv_at hl 4 rfl) ?_
        refine call_i (run_V (rm := rm_X11_isPeer) hx hb hml hown hts (s_X11_isPeer l g ad th _ _ _ z4 hst hT ) cV_X11_isPeer wg_1718 ⟨Nat.le_of_ble_eq_true rfl, Nat.le_of_ble_eq_true rfl⟩ hG hE hA hP hD hS (hst.1 255 (by decide)) hf4 rfl rfl hl.1 (As := [.int z4]) (rest := []) rfl (Nat.le_of_ble_eq_true rfl) dX11_say_38 ⟨Nat.le_of_ble_eq_true rfl, Nat.le_of_ble_eq_true rfl⟩) hA hD hS (fun r40 L41 f42 H locs hp43 hP hD hS => ?_)
        obtain ⟨eL44L, eL44T, eL44R, eL44W0, eL44X0⟩ := hp43
        have eL44L : L41 = L := eL44L
        have eL44T : f42 = f3 := eL44T
        rw [eL44L, eL44T] at hP hD
        have eL44R : In r40 0 1 := eL44R
        have hcl45 : r40.toInt = 0 ∨ th 15 = 1 := eL44X0
        refine lv_if_eq (tgt := 57) hx hb dX11_say_41 (by decide) (fun c46 => ?_) (fun c46 => ?_)
        ·
          have oc0 : (0 : Int32).toInt = 0 := by decide
          have cc47 : r40.toInt = (0 : Int32).toInt := congrArg Int32.toInt c46
          have hb48 : In r40 0 0 := In.eq1 eL44R (⟨by decide, by decide⟩ : In 0 0 0) cc47 (by omega) (by omega)
          exact hJ57 _ _ _ hP hD hS (lv_sub hl [0, 1, 2, 3, 4, 5] rfl)
        ·
          have oc0 : (0 : Int32).toInt = 0 := by decide
          have cc49 : r40.toInt ≠ (0 : Int32).toInt := i32_ne c46
          have hb50 : In r40 1 1 := In.ne1 eL44R (⟨by decide, by decide⟩ : In 0 0 0) cc49 (by omega) (by omega)
          have hb51 : In z4 0 8 := In.both (eL44W0 c46) (In.full z4) (by decide) (by decide)
          refine lv_iload hx hb dX11_say_44 (lv_at hl 5 rfl) ?_
          refine lv_i2l hx hb dX11_say_46 rfl ?_
          refine lv_lconst (v := 0) hx hb dX11_say_47 (by decide) ?_
          refine lv_ldc2 hx hb hown (hts _ (mT wg_1722)) dX11_say_48 ?_
          refine call_i (run_S (rm := rm_X11_isIn) hx hb hml hown hts (s_X11_isIn l g ad th _ _ _ (z5.toInt64) 0 2 hst hT ) cS_X11_isIn wg_1581 ⟨Nat.le_of_ble_eq_true rfl, Nat.le_of_ble_eq_true rfl⟩ hG hE hA hP hD hS rfl hl.1 (As := [.long (z5.toInt64), .long 0, .long 2]) (rest := []) rfl (Nat.le_of_ble_eq_true rfl) dX11_say_51 ⟨Nat.le_of_ble_eq_true rfl, Nat.le_of_ble_eq_true rfl⟩) hA hD hS (fun r52 L53 f54 H locs hp55 hP hD hS => ?_)
          obtain ⟨eL56L, eL56T, eL56R, eL56X0, eL56X1⟩ := hp55
          have eL56L : L53 = L := eL56L
          have eL56T : f54 = f3 := eL56T
          rw [eL56L, eL56T] at hP hD
          have eL56R : In r52 0 1 := eL56R
          have hii57 : r52.toInt = 0 ∨ (0 ≤ z5.toInt ∧ z5.toInt ≤ 2) := by have z := eL56X0; rw [i2l_t z5, (by decide : (0 : Int64).toInt = 0), (by decide : (2 : Int64).toInt = 2)] at z; exact z
          have hii57w : ¬ r52 = 0 → In z5 0 2 := fun c => by have c2 := i32_ne c; have e0 : (0 : Int32).toInt = 0 := (by decide); exact ⟨by omega, by omega⟩
          refine lv_if_ne (tgt := 63) hx hb dX11_say_54 (by decide) (fun c58 => ?_) (fun c58 => ?_)
          ·
            have oc0 : (0 : Int32).toInt = 0 := by decide
            have cc59 : r52.toInt ≠ (0 : Int32).toInt := i32_ne c58
            have hb60 : In r52 1 1 := In.ne1 eL56R (⟨by decide, by decide⟩ : In 0 0 0) cc59 (by omega) (by omega)
            have hb61 : In z5 0 2 := In.both (hii57w c58) (In.full z5) (by decide) (by decide)
            refine lv_aload_n hx hb dX11_say_63 rfl (lv_at hl 0 rfl) ?_
            refine call_v (run_V (rm := rm_X11_takesUp) hx hb hml hown hts (s_X11_takesUp l g ad th _ _ _  hst hT (show (th 22) = 2126 from (by have ob10 : (0 : Int) ≤ (th 10) ∧ (th 10) ≤ 1 := (b0_10 hT :); have ob11 : (0 : Int) ≤ (th 11) ∧ (th 11) ≤ 9 := (b0_11 hT :); have ob12 : (0 : Int) ≤ (th 12) ∧ (th 12) ≤ 6 := (b0_12 hT :); have ob14 : (0 : Int) ≤ (th 14) ∧ (th 14) ≤ 511 := (b0_14 hT :); have ob15 : (0 : Int) ≤ (th 15) ∧ (th 15) ≤ 1 := (b0_15 hT :); have ob16 : (0 : Int) ≤ (th 16) ∧ (th 16) ≤ 20 := (b0_16 hT :); have ob17 : (0 : Int) ≤ (th 17) ∧ (th 17) ≤ 1 := (b0_17 hT :); have ob18 : (0 : Int) ≤ (th 18) ∧ (th 18) ≤ 18 := (b0_18 hT :); have ob38 : (0 : Int) ≤ (th 38) ∧ (th 38) ≤ 400 := (b0_38 hT :); have ob39 : (0 : Int) ≤ (th 39) ∧ (th 39) ≤ 200 := (b0_39 hT :); have ob44 : (0 : Int) ≤ (th 44) ∧ (th 44) ≤ 30 := (b0_44 hT :); obtain ⟨o0a, o0b⟩ := (hv14_1 : In _ _ _); obtain ⟨o1a, o1b⟩ := (hv15_1 : In _ _ _); obtain ⟨o2a, o2b⟩ := (hv17_1 : In _ _ _); obtain ⟨o3a, o3b⟩ := (hv20_1 : In _ _ _); obtain ⟨o4a, o4b⟩ := (hb8 : In _ _ _); obtain ⟨o5a, o5b⟩ := (hv25_1 : In _ _ _); obtain ⟨o6a, o6b⟩ := (hv36_1 : In _ _ _); obtain ⟨o7a, o7b⟩ := (hv47_1 : In _ _ _); obtain ⟨o8a, o8b⟩ := (hv48_1 : In _ _ _); obtain ⟨o9a, o9b⟩ := (hv53_1 : In _ _ _); obtain ⟨o10a, o10b⟩ := (hv55_1 : In _ _ _); omega)) (show (th 20) ≤ 18 from (by have ob10 : (0 : Int) ≤ (th 10) ∧ (th 10) ≤ 1 := (b0_10 hT :); have ob11 : (0 : Int) ≤ (th 11) ∧ (th 11) ≤ 9 := (b0_11 hT :); have ob12 : (0 : Int) ≤ (th 12) ∧ (th 12) ≤ 6 := (b0_12 hT :); have ob14 : (0 : Int) ≤ (th 14) ∧ (th 14) ≤ 511 := (b0_14 hT :); have ob15 : (0 : Int) ≤ (th 15) ∧ (th 15) ≤ 1 := (b0_15 hT :); have ob16 : (0 : Int) ≤ (th 16) ∧ (th 16) ≤ 20 := (b0_16 hT :); have ob17 : (0 : Int) ≤ (th 17) ∧ (th 17) ≤ 1 := (b0_17 hT :); have ob18 : (0 : Int) ≤ (th 18) ∧ (th 18) ≤ 18 := (b0_18 hT :); have ob38 : (0 : Int) ≤ (th 38) ∧ (th 38) ≤ 400 := (b0_38 hT :); have ob39 : (0 : Int) ≤ (th 39) ∧ (th 39) ≤ 200 := (b0_39 hT :); have ob44 : (0 : Int) ≤ (th 44) ∧ (th 44) ≤ 30 := (b0_44 hT :); obtain ⟨o0a, o0b⟩ := (hv14_1 : In _ _ _); obtain ⟨o1a, o1b⟩ := (hv15_1 : In _ _ _); obtain ⟨o2a, o2b⟩ := (hv17_1 : In _ _ _); obtain ⟨o3a, o3b⟩ := (hv20_1 : In _ _ _); obtain ⟨o4a, o4b⟩ := (hb8 : In _ _ _); obtain ⟨o5a, o5b⟩ := (hv25_1 : In _ _ _); obtain ⟨o6a, o6b⟩ := (hv36_1 : In _ _ _); obtain ⟨o7a, o7b⟩ := (hv47_1 : In _ _ _); obtain ⟨o8a, o8b⟩ := (hv48_1 : In _ _ _); obtain ⟨o9a, o9b⟩ := (hv53_1 : In _ _ _); obtain ⟨o10a, o10b⟩ := (hv55_1 : In _ _ _); omega)) (show (th 21) = (th 11) from (by have ob10 : (0 : Int) ≤ (th 10) ∧ (th 10) ≤ 1 := (b0_10 hT :); have ob11 : (0 : Int) ≤ (th 11) ∧ (th 11) ≤ 9 := (b0_11 hT :); have ob12 : (0 : Int) ≤ (th 12) ∧ (th 12) ≤ 6 := (b0_12 hT :); have ob14 : (0 : Int) ≤ (th 14) ∧ (th 14) ≤ 511 := (b0_14 hT :); have ob15 : (0 : Int) ≤ (th 15) ∧ (th 15) ≤ 1 := (b0_15 hT :); have ob16 : (0 : Int) ≤ (th 16) ∧ (th 16) ≤ 20 := (b0_16 hT :); have ob17 : (0 : Int) ≤ (th 17) ∧ (th 17) ≤ 1 := (b0_17 hT :); have ob18 : (0 : Int) ≤ (th 18) ∧ (th 18) ≤ 18 := (b0_18 hT :); have ob38 : (0 : Int) ≤ (th 38) ∧ (th 38) ≤ 400 := (b0_38 hT :); have ob39 : (0 : Int) ≤ (th 39) ∧ (th 39) ≤ 200 := (b0_39 hT :); have ob44 : (0 : Int) ≤ (th 44) ∧ (th 44) ≤ 30 := (b0_44 hT :); obtain ⟨o0a, o0b⟩ := (hv14_1 : In _ _ _); obtain ⟨o1a, o1b⟩ := (hv15_1 : In _ _ _); obtain ⟨o2a, o2b⟩ := (hv17_1 : In _ _ _); obtain ⟨o3a, o3b⟩ := (hv20_1 : In _ _ _); obtain ⟨o4a, o4b⟩ := (hb8 : In _ _ _); obtain ⟨o5a, o5b⟩ := (hv25_1 : In _ _ _); obtain ⟨o6a, o6b⟩ := (hv36_1 : In _ _ _); obtain ⟨o7a, o7b⟩ := (hv47_1 : In _ _ _); obtain ⟨o8a, o8b⟩ := (hv48_1 : In _ _ _); obtain ⟨o9a, o9b⟩ := (hv53_1 : In _ _ _); obtain ⟨o10a, o10b⟩ := (hv55_1 : In _ _ _); omega))) cV_X11_takesUp wg_1648 ⟨Nat.le_of_ble_eq_true rfl, Nat.le_of_ble_eq_true rfl⟩ hG hE hA hP hD hS (hst.1 255 (by decide)) hf4 rfl rfl hl.1 (As := []) (rest := []) rfl (Nat.le_of_ble_eq_true rfl) dX11_say_64 ⟨Nat.le_of_ble_eq_true rfl, Nat.le_of_ble_eq_true rfl⟩) hA hD hS (fun L63 f64 H locs hp65 hP hD hS => ?_)
            obtain ⟨eL66L, eL66T, eL66F⟩ := hp65
            have eL66L : L63 = L := eL66L
            rw [eL66L] at hP hD
            obtain ⟨zz67, zz68, hzz67, eL66T⟩ := eL66T
            have hzz67 : ((zz67 = (th 19) ∧ 0 ≤ zz67 ∧ zz67 ≤ (th 20)) ∧ (0 ≤ zz68 ∧ zz68 ≤ 511)) ∧ capI zz68 ((th 11)) := hzz67
            have hT : TI g ad (gset (gset th 18 zz67) 14 zz68) f64 := eL66T
            have eL66F : ∀ b, b ≠ (ad 255) → b ≠ (ad 265) → b ≠ (ad 266) → b ≠ (ad 267) → b ≠ (ad 269) → b ≠ (ad 260) → b ≠ (ad 261) → b ≠ (ad 262) → b ≠ (ad 263) → b ≠ (ad 264) → f64 b = f3 b := eL66F
            refine lv_aload_n hx hb dX11_say_67 rfl (lv_at hl 0 rfl) ?_
            refine lv_iload_n hx hb dX11_say_68 rfl (lv_at hl 3 rfl) ?_
            refine M0e hT (fun v0_69 v2_69 v3_69 v4_69 v5_69 v6_69 v8_69 v9_69 v12_69 v13_69 v14_69 v15_69 v16_69 v17_69 v18_69 v19_69 v20_69 v21_69 v22_69 v23_69 v25_69 v36_69 v37_69 v38_69 v39_69 v40_69 v45_69 v46_69 v47_69 v48_69 v50_69 v51_69 v53_69 v55_69 hf70 hv0_69 hv2_69 hg2_69 hv3_69 hg3_69 hv4_69 hg4_69 hv5_69 hg5_69 hv6_69 hg6_69 hv8_69 hg8_69 hv9_69 hg9_69 hv12_69 hv13_69 hg13_69 hv14_69 hg14_69 hv15_69 hg15_69 hv17_69 hg17_69 hv20_69 hg20_69 hv23_69 hg23_69 hv25_69 hg25_69 hv36_69 hg36_69 hv47_69 hg47_69 hv48_69 hg48_69 hv53_69 hg53_69 hv55_69 hg55_69 hrel0_69 => ?_)
            have hg2_69 : v2_69.toInt = th 13 := hg2_69
            have hg3_69 : v3_69.toInt = th 37 := hg3_69
            have hg4_69 : v4_69.toInt = th 42 := hg4_69
            have hg5_69 : v5_69.toInt = th 40 := hg5_69
            have hg6_69 : v6_69.toInt = th 41 := hg6_69
            have hg8_69 : v8_69.toInt = th 43 := hg8_69
            have hg9_69 : v9_69.toInt = th 35 := hg9_69
            have hg13_69 : v13_69.toInt = th 36 := hg13_69
            have hg14_69 : v14_69.toInt = th 10 := hg14_69
            have hg15_69 : v15_69.toInt = th 11 := hg15_69
            have hg17_69 : v17_69.toInt = th 12 := hg17_69
            have hg20_69 : v20_69.toInt = zz68 := hg20_69
            have hg23_69 : v23_69.toInt = th 15 := hg23_69
            have hg25_69 : v25_69.toInt = th 44 := hg25_69
            have hg36_69 : v36_69.toInt = zz67 := hg36_69
            have hg47_69 : v47_69.toInt = th 16 := hg47_69
            have hg48_69 : v48_69.toInt = th 17 := hg48_69
            have hg53_69 : v53_69.toInt = th 38 := hg53_69
            have hg55_69 : v55_69.toInt = th 39 := hg55_69
            refine call_i (run_V (rm := rm_X11_isLiar) hx hb hml hown hts (s_X11_isLiar l g ad (gset (gset th 18 zz67) 14 zz68) _ _ _ z3 hst hT ) cV_X11_isLiar wg_1664 ⟨Nat.le_of_ble_eq_true rfl, Nat.le_of_ble_eq_true rfl⟩ hG hE hA hP hD hS (hst.1 255 (by decide)) hf70 rfl rfl hl.1 (As := [.int z3]) (rest := []) rfl (Nat.le_of_ble_eq_true rfl) dX11_say_69 ⟨Nat.le_of_ble_eq_true rfl, Nat.le_of_ble_eq_true rfl⟩) hA hD hS (fun r71 L72 f73 H locs hp74 hP hD hS => ?_)
            obtain ⟨eL75L, eL75T, eL75R, eL75X0⟩ := hp74
            have eL75L : L72 = L := eL75L
            have eL75T : f73 = f64 := eL75T
            rw [eL75L, eL75T] at hP hD
            have eL75R : In r71 0 1 := eL75R
            have hbl76 : r71.toInt = bitI (zz68) z3.toInt := eL75X0 (In.mono hb39 (by decide) (by decide))
            refine lv_if_ne (tgt := 81) hx hb dX11_say_72 (by decide) (fun c77 => ?_) (fun c77 => ?_)
            ·
              have oc0 : (0 : Int32).toInt = 0 := by decide
              have cc78 : r71.toInt ≠ (0 : Int32).toInt := i32_ne c77
              have hb79 : In r71 1 1 := In.ne1 eL75R (⟨by decide, by decide⟩ : In 0 0 0) cc78 (by omega) (by omega)
              refine lv_aload_n hx hb dX11_say_81 rfl (lv_at hl 0 rfl) ?_
              refine call_i (run_V (rm := rm_X11_each) hx hb hml hown hts (s_X11_each l g ad (gset (gset th 18 zz67) 14 zz68) _ _ _  hst hT ) cV_X11_each wg_1636 ⟨Nat.le_of_ble_eq_true rfl, Nat.le_of_ble_eq_true rfl⟩ hG hE hA hP hD hS (hst.1 255 (by decide)) hf70 rfl rfl hl.1 (As := []) (rest := []) rfl (Nat.le_of_ble_eq_true rfl) dX11_say_82 ⟨Nat.le_of_ble_eq_true rfl, Nat.le_of_ble_eq_true rfl⟩) hA hD hS (fun r80 L81 f82 H locs hp83 hP hD hS => ?_)
              obtain ⟨eL84L, eL84T, eL84R, eL84X0⟩ := hp83
              have eL84L : L81 = L := eL84L
              have eL84T : f82 = f64 := eL84T
              rw [eL84L, eL84T] at hP hD
              have eL84R : In r80 2 3 := eL84R
              have hrn85 : r80.toInt = rnd (th 10) := eL84X0
              refine lv_iload_n hx hb dX11_say_85 rfl (lv_at hl 1 rfl) ?_
              refine lv_imul hx hb dX11_say_86 ?_
              refine lv_topi (fun x86 ex86 => ?_)
              have hb87 : In x86 0 15 := ex86 ▸ In.mul eL84R hb26 (by decide) (by decide) (by decide) (by decide) (by decide)
              refine lv_iload_n hx hb dX11_say_87 rfl (lv_at hl 2 rfl) ?_
              refine lv_iadd hx hb dX11_say_88 ?_
              refine lv_topi (fun x88 ex88 => ?_)
              have hb89 : In x88 0 17 := ex88 ▸ In.add hb87 hb27 (by decide) (by decide) (by decide) (by decide)
              have et90 : x88.toInt = x86.toInt + z2.toInt := In.add2e ex88 hb87 hb27 (by decide) (by decide)
              refine lv_aload_n hx hb dX11_say_89 rfl (lv_at hl 0 rfl) ?_
              refine pl_get (v := .int v36_69) hx hb hts (fun w h => mT (inX11 w h)) hown hG.1 hP (hst.1 255 (by decide)) hf70 rfl 36 (by decide) (hts _ (mT wg_1372)) (fun _ h => h) rfl dX11_say_90 ?_
              refine lv_icmp_ge (tgt := 102) hx hb dX11_say_93 (by decide) (fun c91 => ?_) (fun c91 => ?_)
              ·
                have cc92 : v36_69.toInt ≤ x88.toInt := i32_le.mp c91
                have hb93 : In v36_69 0 17 := In.ge2 hb89 hv36_69 cc92 (by omega) (by omega)
                refine lv_aload_n hx hb dX11_say_102 rfl (lv_at hl 0 rfl) ?_
                refine pl_get (v := .int v25_69) hx hb hts (fun w h => mT (inX11 w h)) hown hG.1 hP (hst.1 255 (by decide)) hf70 rfl 25 (by decide) (hts _ (mT wg_1361)) (fun _ h => h) rfl dX11_say_103 ?_
                refine lv_bipush (v := 30) hx hb dX11_say_106 (by decide) ?_
                refine lv_icmp_ne (tgt := 117) hx hb dX11_say_108 (by decide) (fun c94 => ?_) (fun c94 => ?_)
                ·
                  have oc30 : (30 : Int32).toInt = 30 := by decide
                  have cc95 : v25_69.toInt ≠ (30 : Int32).toInt := i32_ne c94
                  have hb96 : In v25_69 0 29 := In.ne1 hv25_69 (⟨by decide, by decide⟩ : In 30 30 30) cc95 (by omega) (by omega)
                  refine lv_aload_n hx hb dX11_say_117 rfl (lv_at hl 0 rfl) ?_
                  refine call_v (run_V (rm := rm_X11_keeps) hx hb hml hown hts (s_X11_keeps l g ad (gset (gset th 18 zz67) 14 zz68) _ _ _  hst hT (show MI (gset (gset th 18 zz67) 14 zz68) from ⟨m1, m2, (show th 20 = (th 12) * rnd (th 10) from m3), m4, m5, m6, m7, m8, m9, m10⟩)) cV_X11_keeps wg_1644 ⟨Nat.le_of_ble_eq_true rfl, Nat.le_of_ble_eq_true rfl⟩ hG hE hA hP hD hS (hst.1 255 (by decide)) hf70 rfl rfl hl.1 (As := []) (rest := []) rfl (Nat.le_of_ble_eq_true rfl) dX11_say_118 ⟨Nat.le_of_ble_eq_true rfl, Nat.le_of_ble_eq_true rfl⟩) hA hD hS (fun L98 f99 H locs hp100 hP hD hS => ?_)
                  obtain ⟨eL101L, eL101T, eL101F⟩ := hp100
                  have eL101L : L98 = L := eL101L
                  rw [eL101L] at hP hD
                  obtain ⟨zz102, zz103, hzz102, eL101T⟩ := eL101T
                  have hzz102 : (1 ≤ zz102 ∧ zz102 ≤ 20) ∧ zz103 = 2126 * zz102 := hzz102
                  have hT : TI g ad (gset (gset (gset (gset th 18 zz67) 14 zz68) 16 zz102) 24 zz103) f99 := eL101T
                  have eL101F : ∀ b, b ≠ (ad 255) → b ≠ (ad 273) → b ≠ (ad 274) → f99 b = f64 b := eL101F
                  refine lv_iconst (v := 5) hx hb dX11_say_121 (by decide) ?_
                  refine lv_aload_n hx hb dX11_say_122 rfl (lv_at hl 0 rfl) ?_
                  refine M0e hT (fun v0_104 v2_104 v3_104 v4_104 v5_104 v6_104 v8_104 v9_104 v12_104 v13_104 v14_104 v15_104 v16_104 v17_104 v18_104 v19_104 v20_104 v21_104 v22_104 v23_104 v25_104 v36_104 v37_104 v38_104 v39_104 v40_104 v45_104 v46_104 v47_104 v48_104 v50_104 v51_104 v53_104 v55_104 hf105 hv0_104 hv2_104 hg2_104 hv3_104 hg3_104 hv4_104 hg4_104 hv5_104 hg5_104 hv6_104 hg6_104 hv8_104 hg8_104 hv9_104 hg9_104 hv12_104 hv13_104 hg13_104 hv14_104 hg14_104 hv15_104 hg15_104 hv17_104 hg17_104 hv20_104 hg20_104 hv23_104 hg23_104 hv25_104 hg25_104 hv36_104 hg36_104 hv47_104 hg47_104 hv48_104 hg48_104 hv53_104 hg53_104 hv55_104 hg55_104 hrel0_104 => ?_)
                  have hg2_104 : v2_104.toInt = th 13 := hg2_104
                  have hg3_104 : v3_104.toInt = th 37 := hg3_104
                  have hg4_104 : v4_104.toInt = th 42 := hg4_104
                  have hg5_104 : v5_104.toInt = th 40 := hg5_104
                  have hg6_104 : v6_104.toInt = th 41 := hg6_104
                  have hg8_104 : v8_104.toInt = th 43 := hg8_104
                  have hg9_104 : v9_104.toInt = th 35 := hg9_104
                  have hg13_104 : v13_104.toInt = th 36 := hg13_104
                  have hg14_104 : v14_104.toInt = th 10 := hg14_104
                  have hg15_104 : v15_104.toInt = th 11 := hg15_104
                  have hg17_104 : v17_104.toInt = th 12 := hg17_104
                  have hg20_104 : v20_104.toInt = zz68 := hg20_104
                  have hg23_104 : v23_104.toInt = th 15 := hg23_104
                  have hg25_104 : v25_104.toInt = th 44 := hg25_104
                  have hg36_104 : v36_104.toInt = zz67 := hg36_104
                  have hg47_104 : v47_104.toInt = zz102 := hg47_104
                  have hg48_104 : v48_104.toInt = th 17 := hg48_104
                  have hg53_104 : v53_104.toInt = th 38 := hg53_104
                  have hg55_104 : v55_104.toInt = th 39 := hg55_104
                  refine pl_get (v := .int v25_104) hx hb hts (fun w h => mT (inX11 w h)) hown hG.1 hP (hst.1 255 (by decide)) hf105 rfl 25 (by decide) (hts _ (mT wg_1361)) (fun _ h => h) rfl dX11_say_123 ?_
                  refine lv_imul hx hb dX11_say_126 ?_
                  refine lv_topi (fun x106 ex106 => ?_)
                  have hb107 : In x106 0 150 := ex106 ▸ In.mul (⟨by decide, by decide⟩ : In 5 5 5) hv25_104 (by decide) (by decide) (by decide) (by decide) (by decide)
                  have et108 : x106.toInt = 5 * v25_104.toInt := In.mule ex106 (⟨by decide, by decide⟩ : In 5 5 5) hv25_104 (by decide) (by decide) (by decide) (by decide) rfl
                  refine lv_istore (lv' := [(6, .int x106), (0, .ref (ad 255)), (1, .int z1), (2, .int z2), (3, .int z3), (4, .int z4), (5, .int z5)]) hx hb dX11_say_127 hl (by decide) rfl (fun ls hl => ?_)
                  refine lv_aload_n hx hb dX11_say_129 rfl (lv_at hl 1 rfl) ?_
                  refine pl_get (v := .ref (ad 260)) hx hb hts (fun w h => mT (inX11 w h)) hown hG.1 hP (hst.1 255 (by decide)) hf105 rfl 24 (by decide) (hts _ (mT wg_1360)) (fun _ h => h) rfl dX11_say_130 ?_
                  refine lv_iload hx hb dX11_say_133 (lv_at hl 0 rfl) ?_
                  refine lv_iload_n hx hb dX11_say_135 rfl (lv_at hl 2 rfl) ?_
                  obtain ⟨rw109, hf110⟩ := hT.2.2 5 (by decide)
                  refine pl_iastE hx hb hG.1 hP hD hS (hst.1 260 (by decide)) 0 hf110 rfl (vp_of (by have ob10 : (0 : Int) ≤ (th 10) ∧ (th 10) ≤ 1 := (b0_10 hT :); have ob11 : (0 : Int) ≤ (th 11) ∧ (th 11) ≤ 9 := (b0_11 hT :); have ob12 : (0 : Int) ≤ (th 12) ∧ (th 12) ≤ 6 := (b0_12 hT :); have ob14 : (0 : Int) ≤ zz68 ∧ zz68 ≤ 511 := (b0_14 hT :); have ob15 : (0 : Int) ≤ (th 15) ∧ (th 15) ≤ 1 := (b0_15 hT :); have ob16 : (0 : Int) ≤ zz102 ∧ zz102 ≤ 20 := (b0_16 hT :); have ob17 : (0 : Int) ≤ (th 17) ∧ (th 17) ≤ 1 := (b0_17 hT :); have ob18 : (0 : Int) ≤ zz67 ∧ zz67 ≤ 18 := (b0_18 hT :); have ob38 : (0 : Int) ≤ (th 38) ∧ (th 38) ≤ 400 := (b0_38 hT :); have ob39 : (0 : Int) ≤ (th 39) ∧ (th 39) ≤ 200 := (b0_39 hT :); have ob44 : (0 : Int) ≤ (th 44) ∧ (th 44) ≤ 30 := (b0_44 hT :); obtain ⟨o0a, o0b⟩ := (hb107 : In _ _ _); obtain ⟨o1a, o1b⟩ := (hv14_104 : In _ _ _); obtain ⟨o2a, o2b⟩ := (hv15_104 : In _ _ _); obtain ⟨o3a, o3b⟩ := (hv17_104 : In _ _ _); obtain ⟨o4a, o4b⟩ := (hv20_104 : In _ _ _); obtain ⟨o5a, o5b⟩ := (hv23_104 : In _ _ _); obtain ⟨o6a, o6b⟩ := (hv25_104 : In _ _ _); obtain ⟨o7a, o7b⟩ := (hv36_104 : In _ _ _); obtain ⟨o8a, o8b⟩ := (hv47_104 : In _ _ _); obtain ⟨o9a, o9b⟩ := (hv48_104 : In _ _ _); obtain ⟨o10a, o10b⟩ := (hv53_104 : In _ _ _); obtain ⟨o11a, o11b⟩ := (hv55_104 : In _ _ _); omega) (by have ob10 : (0 : Int) ≤ (th 10) ∧ (th 10) ≤ 1 := (b0_10 hT :); have ob11 : (0 : Int) ≤ (th 11) ∧ (th 11) ≤ 9 := (b0_11 hT :); have ob12 : (0 : Int) ≤ (th 12) ∧ (th 12) ≤ 6 := (b0_12 hT :); have ob14 : (0 : Int) ≤ zz68 ∧ zz68 ≤ 511 := (b0_14 hT :); have ob15 : (0 : Int) ≤ (th 15) ∧ (th 15) ≤ 1 := (b0_15 hT :); have ob16 : (0 : Int) ≤ zz102 ∧ zz102 ≤ 20 := (b0_16 hT :); have ob17 : (0 : Int) ≤ (th 17) ∧ (th 17) ≤ 1 := (b0_17 hT :); have ob18 : (0 : Int) ≤ zz67 ∧ zz67 ≤ 18 := (b0_18 hT :); have ob38 : (0 : Int) ≤ (th 38) ∧ (th 38) ≤ 400 := (b0_38 hT :); have ob39 : (0 : Int) ≤ (th 39) ∧ (th 39) ≤ 200 := (b0_39 hT :); have ob44 : (0 : Int) ≤ (th 44) ∧ (th 44) ≤ 30 := (b0_44 hT :); obtain ⟨o0a, o0b⟩ := (hb107 : In _ _ _); obtain ⟨o1a, o1b⟩ := (hv14_104 : In _ _ _); obtain ⟨o2a, o2b⟩ := (hv15_104 : In _ _ _); obtain ⟨o3a, o3b⟩ := (hv17_104 : In _ _ _); obtain ⟨o4a, o4b⟩ := (hv20_104 : In _ _ _); obtain ⟨o5a, o5b⟩ := (hv23_104 : In _ _ _); obtain ⟨o6a, o6b⟩ := (hv25_104 : In _ _ _); obtain ⟨o7a, o7b⟩ := (hv36_104 : In _ _ _); obtain ⟨o8a, o8b⟩ := (hv47_104 : In _ _ _); obtain ⟨o9a, o9b⟩ := (hv48_104 : In _ _ _); obtain ⟨o10a, o10b⟩ := (hv53_104 : In _ _ _); obtain ⟨o11a, o11b⟩ := (hv55_104 : In _ _ _); omega)) dX11_say_136 (fun H locs f111 r114 er114 hf112 ho113 hP hD hS => ?_)
                  have hf115 := (ho113 (ad 255) (hst.ne (by decide) (by decide) (by decide))).trans hf105
                  refine lv_aload_n hx hb dX11_say_137 rfl (lv_at hl 1 rfl) ?_
                  refine pl_get (v := .ref (ad 260)) hx hb hts (fun w h => mT (inX11 w h)) hown hG.1 hP (hst.1 255 (by decide)) hf115 rfl 24 (by decide) (hts _ (mT wg_1360)) (fun _ h => h) rfl dX11_say_138 ?_
                  refine lv_iload hx hb dX11_say_141 (lv_at hl 0 rfl) ?_
                  refine lv_iconst (v := 1) hx hb dX11_say_143 (by decide) ?_
                  refine lv_iadd hx hb dX11_say_144 ?_
                  refine lv_topi (fun x116 ex116 => ?_)
                  have hb117 : In x116 1 151 := ex116 ▸ In.add hb107 (⟨by decide, by decide⟩ : In 1 1 1) (by decide) (by decide) (by decide) (by decide)
                  have et118 : x116.toInt = x106.toInt + 1 := In.adde ex116 hb107 (k := 1) (by decide) (by decide) (by decide)
                  refine lv_iload_n hx hb dX11_say_145 rfl (lv_at hl 3 rfl) ?_
                  refine pl_iastE hx hb hG.1 hP hD hS (hst.1 260 (by decide)) 0 hf112 rfl (vp_of (by have ob10 : (0 : Int) ≤ (th 10) ∧ (th 10) ≤ 1 := (b0_10 hT :); have ob11 : (0 : Int) ≤ (th 11) ∧ (th 11) ≤ 9 := (b0_11 hT :); have ob12 : (0 : Int) ≤ (th 12) ∧ (th 12) ≤ 6 := (b0_12 hT :); have ob14 : (0 : Int) ≤ zz68 ∧ zz68 ≤ 511 := (b0_14 hT :); have ob15 : (0 : Int) ≤ (th 15) ∧ (th 15) ≤ 1 := (b0_15 hT :); have ob16 : (0 : Int) ≤ zz102 ∧ zz102 ≤ 20 := (b0_16 hT :); have ob17 : (0 : Int) ≤ (th 17) ∧ (th 17) ≤ 1 := (b0_17 hT :); have ob18 : (0 : Int) ≤ zz67 ∧ zz67 ≤ 18 := (b0_18 hT :); have ob38 : (0 : Int) ≤ (th 38) ∧ (th 38) ≤ 400 := (b0_38 hT :); have ob39 : (0 : Int) ≤ (th 39) ∧ (th 39) ≤ 200 := (b0_39 hT :); have ob44 : (0 : Int) ≤ (th 44) ∧ (th 44) ≤ 30 := (b0_44 hT :); obtain ⟨o0a, o0b⟩ := (hb117 : In _ _ _); obtain ⟨o1a, o1b⟩ := (hv14_104 : In _ _ _); obtain ⟨o2a, o2b⟩ := (hv15_104 : In _ _ _); obtain ⟨o3a, o3b⟩ := (hv17_104 : In _ _ _); obtain ⟨o4a, o4b⟩ := (hv20_104 : In _ _ _); obtain ⟨o5a, o5b⟩ := (hv23_104 : In _ _ _); obtain ⟨o6a, o6b⟩ := (hv25_104 : In _ _ _); obtain ⟨o7a, o7b⟩ := (hv36_104 : In _ _ _); obtain ⟨o8a, o8b⟩ := (hv47_104 : In _ _ _); obtain ⟨o9a, o9b⟩ := (hv48_104 : In _ _ _); obtain ⟨o10a, o10b⟩ := (hv53_104 : In _ _ _); obtain ⟨o11a, o11b⟩ := (hv55_104 : In _ _ _); obtain ⟨o12a, o12b⟩ := (hb107 : In _ _ _); omega) (by have ob10 : (0 : Int) ≤ (th 10) ∧ (th 10) ≤ 1 := (b0_10 hT :); have ob11 : (0 : Int) ≤ (th 11) ∧ (th 11) ≤ 9 := (b0_11 hT :); have ob12 : (0 : Int) ≤ (th 12) ∧ (th 12) ≤ 6 := (b0_12 hT :); have ob14 : (0 : Int) ≤ zz68 ∧ zz68 ≤ 511 := (b0_14 hT :); have ob15 : (0 : Int) ≤ (th 15) ∧ (th 15) ≤ 1 := (b0_15 hT :); have ob16 : (0 : Int) ≤ zz102 ∧ zz102 ≤ 20 := (b0_16 hT :); have ob17 : (0 : Int) ≤ (th 17) ∧ (th 17) ≤ 1 := (b0_17 hT :); have ob18 : (0 : Int) ≤ zz67 ∧ zz67 ≤ 18 := (b0_18 hT :); have ob38 : (0 : Int) ≤ (th 38) ∧ (th 38) ≤ 400 := (b0_38 hT :); have ob39 : (0 : Int) ≤ (th 39) ∧ (th 39) ≤ 200 := (b0_39 hT :); have ob44 : (0 : Int) ≤ (th 44) ∧ (th 44) ≤ 30 := (b0_44 hT :); obtain ⟨o0a, o0b⟩ := (hb117 : In _ _ _); obtain ⟨o1a, o1b⟩ := (hv14_104 : In _ _ _); obtain ⟨o2a, o2b⟩ := (hv15_104 : In _ _ _); obtain ⟨o3a, o3b⟩ := (hv17_104 : In _ _ _); obtain ⟨o4a, o4b⟩ := (hv20_104 : In _ _ _); obtain ⟨o5a, o5b⟩ := (hv23_104 : In _ _ _); obtain ⟨o6a, o6b⟩ := (hv25_104 : In _ _ _); obtain ⟨o7a, o7b⟩ := (hv36_104 : In _ _ _); obtain ⟨o8a, o8b⟩ := (hv47_104 : In _ _ _); obtain ⟨o9a, o9b⟩ := (hv48_104 : In _ _ _); obtain ⟨o10a, o10b⟩ := (hv53_104 : In _ _ _); obtain ⟨o11a, o11b⟩ := (hv55_104 : In _ _ _); obtain ⟨o12a, o12b⟩ := (hb107 : In _ _ _); omega)) dX11_say_146 (fun H locs f119 r122 er122 hf120 ho121 hP hD hS => ?_)
                  have hf123 := (ho121 (ad 255) (hst.ne (by decide) (by decide) (by decide))).trans hf115
                  have ho124 : ∀ b, b ≠ (ad 260) → f119 b = _ := fun b hb => (ho121 b hb).trans (ho113 b hb)
                  refine lv_aload_n hx hb dX11_say_147 rfl (lv_at hl 1 rfl) ?_
                  refine pl_get (v := .ref (ad 260)) hx hb hts (fun w h => mT (inX11 w h)) hown hG.1 hP (hst.1 255 (by decide)) hf123 rfl 24 (by decide) (hts _ (mT wg_1360)) (fun _ h => h) rfl dX11_say_148 ?_
                  refine lv_iload hx hb dX11_say_151 (lv_at hl 0 rfl) ?_
                  refine lv_iconst (v := 2) hx hb dX11_say_153 (by decide) ?_
                  refine lv_iadd hx hb dX11_say_154 ?_
                  refine lv_topi (fun x125 ex125 => ?_)
                  have hb126 : In x125 2 152 := ex125 ▸ In.add hb107 (⟨by decide, by decide⟩ : In 2 2 2) (by decide) (by decide) (by decide) (by decide)
                  have et127 : x125.toInt = x106.toInt + 2 := In.adde ex125 hb107 (k := 2) (by decide) (by decide) (by decide)
                  refine lv_iload_n hx hb dX11_say_155 rfl (lv_at hl 4 rfl) ?_
                  refine pl_iastE hx hb hG.1 hP hD hS (hst.1 260 (by decide)) 0 hf120 rfl (vp_of (by have ob10 : (0 : Int) ≤ (th 10) ∧ (th 10) ≤ 1 := (b0_10 hT :); have ob11 : (0 : Int) ≤ (th 11) ∧ (th 11) ≤ 9 := (b0_11 hT :); have ob12 : (0 : Int) ≤ (th 12) ∧ (th 12) ≤ 6 := (b0_12 hT :); have ob14 : (0 : Int) ≤ zz68 ∧ zz68 ≤ 511 := (b0_14 hT :); have ob15 : (0 : Int) ≤ (th 15) ∧ (th 15) ≤ 1 := (b0_15 hT :); have ob16 : (0 : Int) ≤ zz102 ∧ zz102 ≤ 20 := (b0_16 hT :); have ob17 : (0 : Int) ≤ (th 17) ∧ (th 17) ≤ 1 := (b0_17 hT :); have ob18 : (0 : Int) ≤ zz67 ∧ zz67 ≤ 18 := (b0_18 hT :); have ob38 : (0 : Int) ≤ (th 38) ∧ (th 38) ≤ 400 := (b0_38 hT :); have ob39 : (0 : Int) ≤ (th 39) ∧ (th 39) ≤ 200 := (b0_39 hT :); have ob44 : (0 : Int) ≤ (th 44) ∧ (th 44) ≤ 30 := (b0_44 hT :); obtain ⟨o0a, o0b⟩ := (hb126 : In _ _ _); obtain ⟨o1a, o1b⟩ := (hv14_104 : In _ _ _); obtain ⟨o2a, o2b⟩ := (hv15_104 : In _ _ _); obtain ⟨o3a, o3b⟩ := (hv17_104 : In _ _ _); obtain ⟨o4a, o4b⟩ := (hv20_104 : In _ _ _); obtain ⟨o5a, o5b⟩ := (hv23_104 : In _ _ _); obtain ⟨o6a, o6b⟩ := (hv25_104 : In _ _ _); obtain ⟨o7a, o7b⟩ := (hv36_104 : In _ _ _); obtain ⟨o8a, o8b⟩ := (hv47_104 : In _ _ _); obtain ⟨o9a, o9b⟩ := (hv48_104 : In _ _ _); obtain ⟨o10a, o10b⟩ := (hv53_104 : In _ _ _); obtain ⟨o11a, o11b⟩ := (hv55_104 : In _ _ _); obtain ⟨o12a, o12b⟩ := (hb107 : In _ _ _); omega) (by have ob10 : (0 : Int) ≤ (th 10) ∧ (th 10) ≤ 1 := (b0_10 hT :); have ob11 : (0 : Int) ≤ (th 11) ∧ (th 11) ≤ 9 := (b0_11 hT :); have ob12 : (0 : Int) ≤ (th 12) ∧ (th 12) ≤ 6 := (b0_12 hT :); have ob14 : (0 : Int) ≤ zz68 ∧ zz68 ≤ 511 := (b0_14 hT :); have ob15 : (0 : Int) ≤ (th 15) ∧ (th 15) ≤ 1 := (b0_15 hT :); have ob16 : (0 : Int) ≤ zz102 ∧ zz102 ≤ 20 := (b0_16 hT :); have ob17 : (0 : Int) ≤ (th 17) ∧ (th 17) ≤ 1 := (b0_17 hT :); have ob18 : (0 : Int) ≤ zz67 ∧ zz67 ≤ 18 := (b0_18 hT :); have ob38 : (0 : Int) ≤ (th 38) ∧ (th 38) ≤ 400 := (b0_38 hT :); have ob39 : (0 : Int) ≤ (th 39) ∧ (th 39) ≤ 200 := (b0_39 hT :); have ob44 : (0 : Int) ≤ (th 44) ∧ (th 44) ≤ 30 := (b0_44 hT :); obtain ⟨o0a, o0b⟩ := (hb126 : In _ _ _); obtain ⟨o1a, o1b⟩ := (hv14_104 : In _ _ _); obtain ⟨o2a, o2b⟩ := (hv15_104 : In _ _ _); obtain ⟨o3a, o3b⟩ := (hv17_104 : In _ _ _); obtain ⟨o4a, o4b⟩ := (hv20_104 : In _ _ _); obtain ⟨o5a, o5b⟩ := (hv23_104 : In _ _ _); obtain ⟨o6a, o6b⟩ := (hv25_104 : In _ _ _); obtain ⟨o7a, o7b⟩ := (hv36_104 : In _ _ _); obtain ⟨o8a, o8b⟩ := (hv47_104 : In _ _ _); obtain ⟨o9a, o9b⟩ := (hv48_104 : In _ _ _); obtain ⟨o10a, o10b⟩ := (hv53_104 : In _ _ _); obtain ⟨o11a, o11b⟩ := (hv55_104 : In _ _ _); obtain ⟨o12a, o12b⟩ := (hb107 : In _ _ _); omega)) dX11_say_156 (fun H locs f128 r131 er131 hf129 ho130 hP hD hS => ?_)
                  have hf132 := (ho130 (ad 255) (hst.ne (by decide) (by decide) (by decide))).trans hf123
                  have ho133 : ∀ b, b ≠ (ad 260) → f128 b = _ := fun b hb => (ho130 b hb).trans (ho124 b hb)
                  refine lv_aload_n hx hb dX11_say_157 rfl (lv_at hl 1 rfl) ?_
                  refine pl_get (v := .ref (ad 260)) hx hb hts (fun w h => mT (inX11 w h)) hown hG.1 hP (hst.1 255 (by decide)) hf132 rfl 24 (by decide) (hts _ (mT wg_1360)) (fun _ h => h) rfl dX11_say_158 ?_
                  refine lv_iload hx hb dX11_say_161 (lv_at hl 0 rfl) ?_
                  refine lv_iconst (v := 3) hx hb dX11_say_163 (by decide) ?_
                  refine lv_iadd hx hb dX11_say_164 ?_
                  refine lv_topi (fun x134 ex134 => ?_)
                  have hb135 : In x134 3 153 := ex134 ▸ In.add hb107 (⟨by decide, by decide⟩ : In 3 3 3) (by decide) (by decide) (by decide) (by decide)
                  have et136 : x134.toInt = x106.toInt + 3 := In.adde ex134 hb107 (k := 3) (by decide) (by decide) (by decide)
                  refine lv_iload hx hb dX11_say_165 (lv_at hl 5 rfl) ?_
                  refine pl_iastE hx hb hG.1 hP hD hS (hst.1 260 (by decide)) 0 hf129 rfl (vp_of (by have ob10 : (0 : Int) ≤ (th 10) ∧ (th 10) ≤ 1 := (b0_10 hT :); have ob11 : (0 : Int) ≤ (th 11) ∧ (th 11) ≤ 9 := (b0_11 hT :); have ob12 : (0 : Int) ≤ (th 12) ∧ (th 12) ≤ 6 := (b0_12 hT :); have ob14 : (0 : Int) ≤ zz68 ∧ zz68 ≤ 511 := (b0_14 hT :); have ob15 : (0 : Int) ≤ (th 15) ∧ (th 15) ≤ 1 := (b0_15 hT :); have ob16 : (0 : Int) ≤ zz102 ∧ zz102 ≤ 20 := (b0_16 hT :); have ob17 : (0 : Int) ≤ (th 17) ∧ (th 17) ≤ 1 := (b0_17 hT :); have ob18 : (0 : Int) ≤ zz67 ∧ zz67 ≤ 18 := (b0_18 hT :); have ob38 : (0 : Int) ≤ (th 38) ∧ (th 38) ≤ 400 := (b0_38 hT :); have ob39 : (0 : Int) ≤ (th 39) ∧ (th 39) ≤ 200 := (b0_39 hT :); have ob44 : (0 : Int) ≤ (th 44) ∧ (th 44) ≤ 30 := (b0_44 hT :); obtain ⟨o0a, o0b⟩ := (hb135 : In _ _ _); obtain ⟨o1a, o1b⟩ := (hv14_104 : In _ _ _); obtain ⟨o2a, o2b⟩ := (hv15_104 : In _ _ _); obtain ⟨o3a, o3b⟩ := (hv17_104 : In _ _ _); obtain ⟨o4a, o4b⟩ := (hv20_104 : In _ _ _); obtain ⟨o5a, o5b⟩ := (hv23_104 : In _ _ _); obtain ⟨o6a, o6b⟩ := (hv25_104 : In _ _ _); obtain ⟨o7a, o7b⟩ := (hv36_104 : In _ _ _); obtain ⟨o8a, o8b⟩ := (hv47_104 : In _ _ _); obtain ⟨o9a, o9b⟩ := (hv48_104 : In _ _ _); obtain ⟨o10a, o10b⟩ := (hv53_104 : In _ _ _); obtain ⟨o11a, o11b⟩ := (hv55_104 : In _ _ _); obtain ⟨o12a, o12b⟩ := (hb107 : In _ _ _); omega) (by have ob10 : (0 : Int) ≤ (th 10) ∧ (th 10) ≤ 1 := (b0_10 hT :); have ob11 : (0 : Int) ≤ (th 11) ∧ (th 11) ≤ 9 := (b0_11 hT :); have ob12 : (0 : Int) ≤ (th 12) ∧ (th 12) ≤ 6 := (b0_12 hT :); have ob14 : (0 : Int) ≤ zz68 ∧ zz68 ≤ 511 := (b0_14 hT :); have ob15 : (0 : Int) ≤ (th 15) ∧ (th 15) ≤ 1 := (b0_15 hT :); have ob16 : (0 : Int) ≤ zz102 ∧ zz102 ≤ 20 := (b0_16 hT :); have ob17 : (0 : Int) ≤ (th 17) ∧ (th 17) ≤ 1 := (b0_17 hT :); have ob18 : (0 : Int) ≤ zz67 ∧ zz67 ≤ 18 := (b0_18 hT :); have ob38 : (0 : Int) ≤ (th 38) ∧ (th 38) ≤ 400 := (b0_38 hT :); have ob39 : (0 : Int) ≤ (th 39) ∧ (th 39) ≤ 200 := (b0_39 hT :); have ob44 : (0 : Int) ≤ (th 44) ∧ (th 44) ≤ 30 := (b0_44 hT :); obtain ⟨o0a, o0b⟩ := (hb135 : In _ _ _); obtain ⟨o1a, o1b⟩ := (hv14_104 : In _ _ _); obtain ⟨o2a, o2b⟩ := (hv15_104 : In _ _ _); obtain ⟨o3a, o3b⟩ := (hv17_104 : In _ _ _); obtain ⟨o4a, o4b⟩ := (hv20_104 : In _ _ _); obtain ⟨o5a, o5b⟩ := (hv23_104 : In _ _ _); obtain ⟨o6a, o6b⟩ := (hv25_104 : In _ _ _); obtain ⟨o7a, o7b⟩ := (hv36_104 : In _ _ _); obtain ⟨o8a, o8b⟩ := (hv47_104 : In _ _ _); obtain ⟨o9a, o9b⟩ := (hv48_104 : In _ _ _); obtain ⟨o10a, o10b⟩ := (hv53_104 : In _ _ _); obtain ⟨o11a, o11b⟩ := (hv55_104 : In _ _ _); obtain ⟨o12a, o12b⟩ := (hb107 : In _ _ _); omega)) dX11_say_167 (fun H locs f137 r140 er140 hf138 ho139 hP hD hS => ?_)
                  have hf141 := (ho139 (ad 255) (hst.ne (by decide) (by decide) (by decide))).trans hf132
                  have ho142 : ∀ b, b ≠ (ad 260) → f137 b = _ := fun b hb => (ho139 b hb).trans (ho133 b hb)
                  refine lv_aload_n hx hb dX11_say_168 rfl (lv_at hl 1 rfl) ?_
                  refine pl_get (v := .ref (ad 260)) hx hb hts (fun w h => mT (inX11 w h)) hown hG.1 hP (hst.1 255 (by decide)) hf141 rfl 24 (by decide) (hts _ (mT wg_1360)) (fun _ h => h) rfl dX11_say_169 ?_
                  refine lv_iload hx hb dX11_say_172 (lv_at hl 0 rfl) ?_
                  refine lv_iconst (v := 4) hx hb dX11_say_174 (by decide) ?_
                  refine lv_iadd hx hb dX11_say_175 ?_
                  refine lv_topi (fun x143 ex143 => ?_)
                  have hb144 : In x143 4 154 := ex143 ▸ In.add hb107 (⟨by decide, by decide⟩ : In 4 4 4) (by decide) (by decide) (by decide) (by decide)
                  have et145 : x143.toInt = x106.toInt + 4 := In.adde ex143 hb107 (k := 4) (by decide) (by decide) (by decide)
                  refine lv_iload hx hb dX11_say_176 (lv_at hl 6 rfl) ?_
                  refine pl_iastE hx hb hG.1 hP hD hS (hst.1 260 (by decide)) 0 hf138 rfl (vp_of (by have ob10 : (0 : Int) ≤ (th 10) ∧ (th 10) ≤ 1 := (b0_10 hT :); have ob11 : (0 : Int) ≤ (th 11) ∧ (th 11) ≤ 9 := (b0_11 hT :); have ob12 : (0 : Int) ≤ (th 12) ∧ (th 12) ≤ 6 := (b0_12 hT :); have ob14 : (0 : Int) ≤ zz68 ∧ zz68 ≤ 511 := (b0_14 hT :); have ob15 : (0 : Int) ≤ (th 15) ∧ (th 15) ≤ 1 := (b0_15 hT :); have ob16 : (0 : Int) ≤ zz102 ∧ zz102 ≤ 20 := (b0_16 hT :); have ob17 : (0 : Int) ≤ (th 17) ∧ (th 17) ≤ 1 := (b0_17 hT :); have ob18 : (0 : Int) ≤ zz67 ∧ zz67 ≤ 18 := (b0_18 hT :); have ob38 : (0 : Int) ≤ (th 38) ∧ (th 38) ≤ 400 := (b0_38 hT :); have ob39 : (0 : Int) ≤ (th 39) ∧ (th 39) ≤ 200 := (b0_39 hT :); have ob44 : (0 : Int) ≤ (th 44) ∧ (th 44) ≤ 30 := (b0_44 hT :); obtain ⟨o0a, o0b⟩ := (hb144 : In _ _ _); obtain ⟨o1a, o1b⟩ := (hv14_104 : In _ _ _); obtain ⟨o2a, o2b⟩ := (hv15_104 : In _ _ _); obtain ⟨o3a, o3b⟩ := (hv17_104 : In _ _ _); obtain ⟨o4a, o4b⟩ := (hv20_104 : In _ _ _); obtain ⟨o5a, o5b⟩ := (hv23_104 : In _ _ _); obtain ⟨o6a, o6b⟩ := (hv25_104 : In _ _ _); obtain ⟨o7a, o7b⟩ := (hv36_104 : In _ _ _); obtain ⟨o8a, o8b⟩ := (hv47_104 : In _ _ _); obtain ⟨o9a, o9b⟩ := (hv48_104 : In _ _ _); obtain ⟨o10a, o10b⟩ := (hv53_104 : In _ _ _); obtain ⟨o11a, o11b⟩ := (hv55_104 : In _ _ _); obtain ⟨o12a, o12b⟩ := (hb107 : In _ _ _); omega) (by have ob10 : (0 : Int) ≤ (th 10) ∧ (th 10) ≤ 1 := (b0_10 hT :); have ob11 : (0 : Int) ≤ (th 11) ∧ (th 11) ≤ 9 := (b0_11 hT :); have ob12 : (0 : Int) ≤ (th 12) ∧ (th 12) ≤ 6 := (b0_12 hT :); have ob14 : (0 : Int) ≤ zz68 ∧ zz68 ≤ 511 := (b0_14 hT :); have ob15 : (0 : Int) ≤ (th 15) ∧ (th 15) ≤ 1 := (b0_15 hT :); have ob16 : (0 : Int) ≤ zz102 ∧ zz102 ≤ 20 := (b0_16 hT :); have ob17 : (0 : Int) ≤ (th 17) ∧ (th 17) ≤ 1 := (b0_17 hT :); have ob18 : (0 : Int) ≤ zz67 ∧ zz67 ≤ 18 := (b0_18 hT :); have ob38 : (0 : Int) ≤ (th 38) ∧ (th 38) ≤ 400 := (b0_38 hT :); have ob39 : (0 : Int) ≤ (th 39) ∧ (th 39) ≤ 200 := (b0_39 hT :); have ob44 : (0 : Int) ≤ (th 44) ∧ (th 44) ≤ 30 := (b0_44 hT :); obtain ⟨o0a, o0b⟩ := (hb144 : In _ _ _); obtain ⟨o1a, o1b⟩ := (hv14_104 : In _ _ _); obtain ⟨o2a, o2b⟩ := (hv15_104 : In _ _ _); obtain ⟨o3a, o3b⟩ := (hv17_104 : In _ _ _); obtain ⟨o4a, o4b⟩ := (hv20_104 : In _ _ _); obtain ⟨o5a, o5b⟩ := (hv23_104 : In _ _ _); obtain ⟨o6a, o6b⟩ := (hv25_104 : In _ _ _); obtain ⟨o7a, o7b⟩ := (hv36_104 : In _ _ _); obtain ⟨o8a, o8b⟩ := (hv47_104 : In _ _ _); obtain ⟨o9a, o9b⟩ := (hv48_104 : In _ _ _); obtain ⟨o10a, o10b⟩ := (hv53_104 : In _ _ _); obtain ⟨o11a, o11b⟩ := (hv55_104 : In _ _ _); obtain ⟨o12a, o12b⟩ := (hb107 : In _ _ _); omega)) dX11_say_178 (fun H locs f146 r149 er149 hf147 ho148 hP hD hS => ?_)
                  have hf150 := (ho148 (ad 255) (hst.ne (by decide) (by decide) (by decide))).trans hf141
                  have ho151 : ∀ b, b ≠ (ad 260) → f146 b = _ := fun b hb => (ho148 b hb).trans (ho142 b hb)
                  refine lv_aload_n hx hb dX11_say_179 rfl (lv_at hl 1 rfl) ?_
                  refine lv_dup hx hb dX11_say_180 rfl ?_
                  refine pl_get (v := .int v25_104) hx hb hts (fun w h => mT (inX11 w h)) hown hG.1 hP (hst.1 255 (by decide)) hf150 rfl 25 (by decide) (hts _ (mT wg_1361)) (fun _ h => h) rfl dX11_say_181 ?_
                  refine lv_iconst (v := 1) hx hb dX11_say_184 (by decide) ?_
                  refine lv_iadd hx hb dX11_say_185 ?_
                  refine lv_topi (fun x152 ex152 => ?_)
                  have hb153 : In x152 1 31 := ex152 ▸ In.add hv25_104 (⟨by decide, by decide⟩ : In 1 1 1) (by decide) (by decide) (by decide) (by decide)
                  have et154 : x152.toInt = v25_104.toInt + 1 := In.adde ex152 hv25_104 (k := 1) (by decide) (by decide) (by decide)
                  have hT := TI.updM hT hst (k := 5) (by decide) hf147 ho151 ⟨r149, rfl⟩
                  refine pl_put (ty := .int) (v := .int x152) (fs' := [.int v0_104, .ref (ad 256), .int v2_104, .int v3_104, .int v4_104, .int v5_104, .int v6_104, .ref (ad 257), .int v8_104, .int v9_104, .ref (ad 258), .ref (ad 259), .int v12_104, .int v13_104, .int v14_104, .int v15_104, .int v16_104, .int v17_104, .int v18_104, .int v19_104, .int v20_104, .long v21_104, .long v22_104, .int v23_104, .ref (ad 260), .int x152, .ref (ad 261), .ref (ad 262), .ref (ad 263), .ref (ad 264), .ref (ad 265), .ref (ad 266), .ref (ad 267), .ref (ad 268), .ref (ad 269), .ref (ad 270), .int v36_104, .int v37_104, .int v38_104, .int v39_104, .int v40_104, .ref (ad 271), .ref (ad 272), .ref (ad 273), .ref (ad 274), .long v45_104, .long v46_104, .int v47_104, .int v48_104, .ref (ad 275), .int v50_104, .int v51_104, .ref (ad 276), .int v53_104, .ref (ad 277), .int v55_104]) hx hb hts (fun w h => mT (inX11 w h)) tyX11 tyX11_ok nmX11 hown hG.1 hP hD hS (hst.1 255 (by decide)) hf150 rfl 25 (by decide) (hts _ (mT wg_1361)) (fun _ h => h) rfl (by decide +kernel) (rfl) (rfl) (Nat.le_of_ble_eq_true rfl) rfl dX11_say_186 (fun H locs f155 hf156 ho157 hP hD hS => ?_)
                  have hf158 := (ho157 (ad 260) (hst.ne (by decide) (by decide) (by decide))).trans hf147
                  refine lv_aload_n hx hb dX11_say_189 rfl (lv_at hl 1 rfl) ?_
                  have hT := TI.updMG (th' := (gset (gset (gset (gset (gset th 18 zz67) 14 zz68) 16 zz102) 24 zz103) 44 (x152.toInt))) hT hst (k := 0) (by decide) hf156 ho157 ⟨v0_104, v2_104, v3_104, v4_104, v5_104, v6_104, v8_104, v9_104, v12_104, v13_104, v14_104, v15_104, v16_104, v17_104, v18_104, v19_104, v20_104, v21_104, v22_104, v23_104, x152, v36_104, v37_104, v38_104, v39_104, v40_104, v45_104, v46_104, v47_104, v48_104, v50_104, v51_104, v53_104, v55_104, rfl, hv0_104, hv2_104, hg2_104, hv3_104, hg3_104, hv4_104, hg4_104, hv5_104, hg5_104, hv6_104, hg6_104, hv8_104, hg8_104, hv9_104, hg9_104, hv12_104, hv13_104, hg13_104, hv14_104, hg14_104, hv15_104, hg15_104, hv17_104, hg17_104, hv20_104, hg20_104, hv23_104, hg23_104, (In.mk (by have ob10 : (0 : Int) ≤ (th 10) ∧ (th 10) ≤ 1 := (b0_10 hT :); have ob11 : (0 : Int) ≤ (th 11) ∧ (th 11) ≤ 9 := (b0_11 hT :); have ob12 : (0 : Int) ≤ (th 12) ∧ (th 12) ≤ 6 := (b0_12 hT :); have ob14 : (0 : Int) ≤ zz68 ∧ zz68 ≤ 511 := (b0_14 hT :); have ob15 : (0 : Int) ≤ (th 15) ∧ (th 15) ≤ 1 := (b0_15 hT :); have ob16 : (0 : Int) ≤ zz102 ∧ zz102 ≤ 20 := (b0_16 hT :); have ob17 : (0 : Int) ≤ (th 17) ∧ (th 17) ≤ 1 := (b0_17 hT :); have ob18 : (0 : Int) ≤ zz67 ∧ zz67 ≤ 18 := (b0_18 hT :); have ob38 : (0 : Int) ≤ (th 38) ∧ (th 38) ≤ 400 := (b0_38 hT :); have ob39 : (0 : Int) ≤ (th 39) ∧ (th 39) ≤ 200 := (b0_39 hT :); have ob44 : (0 : Int) ≤ (th 44) ∧ (th 44) ≤ 30 := (b0_44 hT :); obtain ⟨o0a, o0b⟩ := (hb153 : In _ _ _); obtain ⟨o1a, o1b⟩ := (hv14_104 : In _ _ _); obtain ⟨o2a, o2b⟩ := (hv15_104 : In _ _ _); obtain ⟨o3a, o3b⟩ := (hv17_104 : In _ _ _); obtain ⟨o4a, o4b⟩ := (hv20_104 : In _ _ _); obtain ⟨o5a, o5b⟩ := (hv23_104 : In _ _ _); obtain ⟨o6a, o6b⟩ := (hv36_104 : In _ _ _); obtain ⟨o7a, o7b⟩ := (hv47_104 : In _ _ _); obtain ⟨o8a, o8b⟩ := (hv48_104 : In _ _ _); obtain ⟨o9a, o9b⟩ := (hv53_104 : In _ _ _); obtain ⟨o10a, o10b⟩ := (hv55_104 : In _ _ _); obtain ⟨o11a, o11b⟩ := (hv25_104 : In _ _ _); omega) (by have ob10 : (0 : Int) ≤ (th 10) ∧ (th 10) ≤ 1 := (b0_10 hT :); have ob11 : (0 : Int) ≤ (th 11) ∧ (th 11) ≤ 9 := (b0_11 hT :); have ob12 : (0 : Int) ≤ (th 12) ∧ (th 12) ≤ 6 := (b0_12 hT :); have ob14 : (0 : Int) ≤ zz68 ∧ zz68 ≤ 511 := (b0_14 hT :); have ob15 : (0 : Int) ≤ (th 15) ∧ (th 15) ≤ 1 := (b0_15 hT :); have ob16 : (0 : Int) ≤ zz102 ∧ zz102 ≤ 20 := (b0_16 hT :); have ob17 : (0 : Int) ≤ (th 17) ∧ (th 17) ≤ 1 := (b0_17 hT :); have ob18 : (0 : Int) ≤ zz67 ∧ zz67 ≤ 18 := (b0_18 hT :); have ob38 : (0 : Int) ≤ (th 38) ∧ (th 38) ≤ 400 := (b0_38 hT :); have ob39 : (0 : Int) ≤ (th 39) ∧ (th 39) ≤ 200 := (b0_39 hT :); have ob44 : (0 : Int) ≤ (th 44) ∧ (th 44) ≤ 30 := (b0_44 hT :); obtain ⟨o0a, o0b⟩ := (hb153 : In _ _ _); obtain ⟨o1a, o1b⟩ := (hv14_104 : In _ _ _); obtain ⟨o2a, o2b⟩ := (hv15_104 : In _ _ _); obtain ⟨o3a, o3b⟩ := (hv17_104 : In _ _ _); obtain ⟨o4a, o4b⟩ := (hv20_104 : In _ _ _); obtain ⟨o5a, o5b⟩ := (hv23_104 : In _ _ _); obtain ⟨o6a, o6b⟩ := (hv36_104 : In _ _ _); obtain ⟨o7a, o7b⟩ := (hv47_104 : In _ _ _); obtain ⟨o8a, o8b⟩ := (hv48_104 : In _ _ _); obtain ⟨o9a, o9b⟩ := (hv53_104 : In _ _ _); obtain ⟨o10a, o10b⟩ := (hv55_104 : In _ _ _); obtain ⟨o11a, o11b⟩ := (hv25_104 : In _ _ _); omega)), rfl, hv36_104, hg36_104, hv47_104, hg47_104, hv48_104, hg48_104, hv53_104, hg53_104, hv55_104, hg55_104, hrel0_104⟩ (fun q hq => ((gset_ne (fun e => hq (by subst e; decide))).trans rfl))
                  have hT : TI g ad (gset (gset (gset (gset (gset th 18 zz67) 14 zz68) 16 zz102) 24 zz103) 44 x152.toInt) f155 := TI.cast hT (by funext q; by_cases hq0 : q = 44; (subst hq0; rfl); by_cases hq1 : q = 24; (subst hq1; rfl); by_cases hq2 : q = 16; (subst hq2; rfl); by_cases hq3 : q = 14; (subst hq3; rfl); by_cases hq4 : q = 18; (subst hq4; rfl); simp only [gset, if_neg hq0, if_neg hq1, if_neg hq2, if_neg hq3, if_neg hq4])
                  refine M0e hT (fun v0_159 v2_159 v3_159 v4_159 v5_159 v6_159 v8_159 v9_159 v12_159 v13_159 v14_159 v15_159 v16_159 v17_159 v18_159 v19_159 v20_159 v21_159 v22_159 v23_159 v25_159 v36_159 v37_159 v38_159 v39_159 v40_159 v45_159 v46_159 v47_159 v48_159 v50_159 v51_159 v53_159 v55_159 hf160 hv0_159 hv2_159 hg2_159 hv3_159 hg3_159 hv4_159 hg4_159 hv5_159 hg5_159 hv6_159 hg6_159 hv8_159 hg8_159 hv9_159 hg9_159 hv12_159 hv13_159 hg13_159 hv14_159 hg14_159 hv15_159 hg15_159 hv17_159 hg17_159 hv20_159 hg20_159 hv23_159 hg23_159 hv25_159 hg25_159 hv36_159 hg36_159 hv47_159 hg47_159 hv48_159 hg48_159 hv53_159 hg53_159 hv55_159 hg55_159 hrel0_159 => ?_)
                  have hg2_159 : v2_159.toInt = th 13 := hg2_159
                  have hg3_159 : v3_159.toInt = th 37 := hg3_159
                  have hg4_159 : v4_159.toInt = th 42 := hg4_159
                  have hg5_159 : v5_159.toInt = th 40 := hg5_159
                  have hg6_159 : v6_159.toInt = th 41 := hg6_159
                  have hg8_159 : v8_159.toInt = th 43 := hg8_159
                  have hg9_159 : v9_159.toInt = th 35 := hg9_159
                  have hg13_159 : v13_159.toInt = th 36 := hg13_159
                  have hg14_159 : v14_159.toInt = th 10 := hg14_159
                  have hg15_159 : v15_159.toInt = th 11 := hg15_159
                  have hg17_159 : v17_159.toInt = th 12 := hg17_159
                  have hg20_159 : v20_159.toInt = zz68 := hg20_159
                  have hg23_159 : v23_159.toInt = th 15 := hg23_159
                  have hg25_159 : v25_159.toInt = x152.toInt := hg25_159
                  have hg36_159 : v36_159.toInt = zz67 := hg36_159
                  have hg47_159 : v47_159.toInt = zz102 := hg47_159
                  have hg48_159 : v48_159.toInt = th 17 := hg48_159
                  have hg53_159 : v53_159.toInt = th 38 := hg53_159
                  have hg55_159 : v55_159.toInt = th 39 := hg55_159
                  refine call_v (run_V (rm := rm_X11_laysDown) hx hb hml hown hts (s_X11_laysDown l g ad (gset (gset (gset (gset (gset th 18 zz67) 14 zz68) 16 zz102) 24 zz103) 44 x152.toInt) _ _ _  hst hT (show zz67 ≤ (th 20) from (by have ob10 : (0 : Int) ≤ (th 10) ∧ (th 10) ≤ 1 := (b0_10 hT :); have ob11 : (0 : Int) ≤ (th 11) ∧ (th 11) ≤ 9 := (b0_11 hT :); have ob12 : (0 : Int) ≤ (th 12) ∧ (th 12) ≤ 6 := (b0_12 hT :); have ob14 : (0 : Int) ≤ zz68 ∧ zz68 ≤ 511 := (b0_14 hT :); have ob15 : (0 : Int) ≤ (th 15) ∧ (th 15) ≤ 1 := (b0_15 hT :); have ob16 : (0 : Int) ≤ zz102 ∧ zz102 ≤ 20 := (b0_16 hT :); have ob17 : (0 : Int) ≤ (th 17) ∧ (th 17) ≤ 1 := (b0_17 hT :); have ob18 : (0 : Int) ≤ zz67 ∧ zz67 ≤ 18 := (b0_18 hT :); have ob38 : (0 : Int) ≤ (th 38) ∧ (th 38) ≤ 400 := (b0_38 hT :); have ob39 : (0 : Int) ≤ (th 39) ∧ (th 39) ≤ 200 := (b0_39 hT :); have ob44 : (0 : Int) ≤ x152.toInt ∧ x152.toInt ≤ 30 := (b0_44 hT :); obtain ⟨o0a, o0b⟩ := (hv14_159 : In _ _ _); obtain ⟨o1a, o1b⟩ := (hv15_159 : In _ _ _); obtain ⟨o2a, o2b⟩ := (hv17_159 : In _ _ _); obtain ⟨o3a, o3b⟩ := (hv20_159 : In _ _ _); obtain ⟨o4a, o4b⟩ := (hv23_159 : In _ _ _); obtain ⟨o5a, o5b⟩ := (hv25_159 : In _ _ _); obtain ⟨o6a, o6b⟩ := (hv36_159 : In _ _ _); obtain ⟨o7a, o7b⟩ := (hv47_159 : In _ _ _); obtain ⟨o8a, o8b⟩ := (hv48_159 : In _ _ _); obtain ⟨o9a, o9b⟩ := (hv53_159 : In _ _ _); obtain ⟨o10a, o10b⟩ := (hv55_159 : In _ _ _); omega)) (show (th 11) = (th 21) from (by have ob10 : (0 : Int) ≤ (th 10) ∧ (th 10) ≤ 1 := (b0_10 hT :); have ob11 : (0 : Int) ≤ (th 11) ∧ (th 11) ≤ 9 := (b0_11 hT :); have ob12 : (0 : Int) ≤ (th 12) ∧ (th 12) ≤ 6 := (b0_12 hT :); have ob14 : (0 : Int) ≤ zz68 ∧ zz68 ≤ 511 := (b0_14 hT :); have ob15 : (0 : Int) ≤ (th 15) ∧ (th 15) ≤ 1 := (b0_15 hT :); have ob16 : (0 : Int) ≤ zz102 ∧ zz102 ≤ 20 := (b0_16 hT :); have ob17 : (0 : Int) ≤ (th 17) ∧ (th 17) ≤ 1 := (b0_17 hT :); have ob18 : (0 : Int) ≤ zz67 ∧ zz67 ≤ 18 := (b0_18 hT :); have ob38 : (0 : Int) ≤ (th 38) ∧ (th 38) ≤ 400 := (b0_38 hT :); have ob39 : (0 : Int) ≤ (th 39) ∧ (th 39) ≤ 200 := (b0_39 hT :); have ob44 : (0 : Int) ≤ x152.toInt ∧ x152.toInt ≤ 30 := (b0_44 hT :); obtain ⟨o0a, o0b⟩ := (hv14_159 : In _ _ _); obtain ⟨o1a, o1b⟩ := (hv15_159 : In _ _ _); obtain ⟨o2a, o2b⟩ := (hv17_159 : In _ _ _); obtain ⟨o3a, o3b⟩ := (hv20_159 : In _ _ _); obtain ⟨o4a, o4b⟩ := (hv23_159 : In _ _ _); obtain ⟨o5a, o5b⟩ := (hv25_159 : In _ _ _); obtain ⟨o6a, o6b⟩ := (hv36_159 : In _ _ _); obtain ⟨o7a, o7b⟩ := (hv47_159 : In _ _ _); obtain ⟨o8a, o8b⟩ := (hv48_159 : In _ _ _); obtain ⟨o9a, o9b⟩ := (hv53_159 : In _ _ _); obtain ⟨o10a, o10b⟩ := (hv55_159 : In _ _ _); omega))) cV_X11_laysDown wg_1620 ⟨Nat.le_of_ble_eq_true rfl, Nat.le_of_ble_eq_true rfl⟩ hG hE hA hP hD hS (hst.1 255 (by decide)) hf160 rfl rfl hl.1 (As := []) (rest := []) rfl (Nat.le_of_ble_eq_true rfl) dX11_say_190 ⟨Nat.le_of_ble_eq_true rfl, Nat.le_of_ble_eq_true rfl⟩) hA hD hS (fun L162 f163 H locs hp164 hP hD hS => ?_)
                  obtain ⟨eL165L, eL165T, eL165F⟩ := hp164
                  have eL165L : L162 = L := eL165L
                  rw [eL165L] at hP hD
                  obtain ⟨zz166, zz167, hzz166, eL165T⟩ := eL165T
                  have hzz166 : zz166 = zz67 ∧ zz167 = 2126 := hzz166
                  have hT : TI g ad (gset (gset (gset (gset (gset (gset (gset th 18 zz67) 14 zz68) 16 zz102) 24 zz103) 44 x152.toInt) 19 zz166) 22 zz167) f163 := eL165T
                  have eL165F : ∀ b, b ≠ (ad 255) → b ≠ (ad 271) → f163 b = f155 b := eL165F
                  have hf168 := (eL165F (ad 260) (hst.ne (by decide) (by decide) (by decide)) (hst.ne (by decide) (by decide) (by decide))).trans hf158
                  refine lv_aload_n hx hb dX11_say_193 rfl (lv_at hl 1 rfl) ?_
                  refine M0e hT (fun v0_169 v2_169 v3_169 v4_169 v5_169 v6_169 v8_169 v9_169 v12_169 v13_169 v14_169 v15_169 v16_169 v17_169 v18_169 v19_169 v20_169 v21_169 v22_169 v23_169 v25_169 v36_169 v37_169 v38_169 v39_169 v40_169 v45_169 v46_169 v47_169 v48_169 v50_169 v51_169 v53_169 v55_169 hf170 hv0_169 hv2_169 hg2_169 hv3_169 hg3_169 hv4_169 hg4_169 hv5_169 hg5_169 hv6_169 hg6_169 hv8_169 hg8_169 hv9_169 hg9_169 hv12_169 hv13_169 hg13_169 hv14_169 hg14_169 hv15_169 hg15_169 hv17_169 hg17_169 hv20_169 hg20_169 hv23_169 hg23_169 hv25_169 hg25_169 hv36_169 hg36_169 hv47_169 hg47_169 hv48_169 hg48_169 hv53_169 hg53_169 hv55_169 hg55_169 hrel0_169 => ?_)
                  have hg2_169 : v2_169.toInt = th 13 := hg2_169
                  have hg3_169 : v3_169.toInt = th 37 := hg3_169
                  have hg4_169 : v4_169.toInt = th 42 := hg4_169
                  have hg5_169 : v5_169.toInt = th 40 := hg5_169
                  have hg6_169 : v6_169.toInt = th 41 := hg6_169
                  have hg8_169 : v8_169.toInt = th 43 := hg8_169
                  have hg9_169 : v9_169.toInt = th 35 := hg9_169
                  have hg13_169 : v13_169.toInt = th 36 := hg13_169
                  have hg14_169 : v14_169.toInt = th 10 := hg14_169
                  have hg15_169 : v15_169.toInt = th 11 := hg15_169
                  have hg17_169 : v17_169.toInt = th 12 := hg17_169
                  have hg20_169 : v20_169.toInt = zz68 := hg20_169
                  have hg23_169 : v23_169.toInt = th 15 := hg23_169
                  have hg25_169 : v25_169.toInt = x152.toInt := hg25_169
                  have hg36_169 : v36_169.toInt = zz67 := hg36_169
                  have hg47_169 : v47_169.toInt = zz102 := hg47_169
                  have hg48_169 : v48_169.toInt = th 17 := hg48_169
                  have hg53_169 : v53_169.toInt = th 38 := hg53_169
                  have hg55_169 : v55_169.toInt = th 39 := hg55_169
                  refine pl_get (v := .int v25_169) hx hb hts (fun w h => mT (inX11 w h)) hown hG.1 hP (hst.1 255 (by decide)) hf170 rfl 25 (by decide) (hts _ (mT wg_1361)) (fun _ h => h) rfl dX11_say_194 ?_
                  exact ret_i (ty := .int) hx hb hr hlocks (rfl) hP hD hS (Nat.le_of_ble_eq_true rfl) (Nat.le_of_ble_eq_true rfl) (⟨rfl, ⟨(gset (gset (gset (gset (gset (gset (gset th 18 zz67) 14 zz68) 16 zz102) 24 zz103) 44 x152.toInt) 19 zz166) 22 zz167), ⟨(show MI (gset (gset (gset (gset (gset (gset (gset th 18 zz67) 14 zz68) 16 zz102) 24 zz103) 44 x152.toInt) 19 zz166) 22 zz167) from ⟨m1, m2, (show th 20 = (th 12) * rnd (th 10) from m3), m4, (show zz167 = 2126 by obtain ⟨_, _⟩ := (hv14_169 : In _ _ _); obtain ⟨_, _⟩ := (hv15_169 : In _ _ _); obtain ⟨_, _⟩ := (hv17_169 : In _ _ _); obtain ⟨_, _⟩ := (hv20_169 : In _ _ _); obtain ⟨_, _⟩ := (hv23_169 : In _ _ _); obtain ⟨_, _⟩ := (hv25_169 : In _ _ _); obtain ⟨_, _⟩ := (hv36_169 : In _ _ _); obtain ⟨_, _⟩ := (hv47_169 : In _ _ _); obtain ⟨_, _⟩ := (hv48_169 : In _ _ _); obtain ⟨_, _⟩ := (hv53_169 : In _ _ _); obtain ⟨_, _⟩ := (hv55_169 : In _ _ _); omega), m6, (show zz103 = 2126 * zz102 by obtain ⟨_, _⟩ := (hv14_169 : In _ _ _); obtain ⟨_, _⟩ := (hv15_169 : In _ _ _); obtain ⟨_, _⟩ := (hv17_169 : In _ _ _); obtain ⟨_, _⟩ := (hv20_169 : In _ _ _); obtain ⟨_, _⟩ := (hv23_169 : In _ _ _); obtain ⟨_, _⟩ := (hv25_169 : In _ _ _); obtain ⟨_, _⟩ := (hv36_169 : In _ _ _); obtain ⟨_, _⟩ := (hv47_169 : In _ _ _); obtain ⟨_, _⟩ := (hv48_169 : In _ _ _); obtain ⟨_, _⟩ := (hv53_169 : In _ _ _); obtain ⟨_, _⟩ := (hv55_169 : In _ _ _); omega), (show 0 ≤ zz102 ∧ zz102 ≤ 20 by obtain ⟨_, _⟩ := (hv14_169 : In _ _ _); obtain ⟨_, _⟩ := (hv15_169 : In _ _ _); obtain ⟨_, _⟩ := (hv17_169 : In _ _ _); obtain ⟨_, _⟩ := (hv20_169 : In _ _ _); obtain ⟨_, _⟩ := (hv23_169 : In _ _ _); obtain ⟨_, _⟩ := (hv25_169 : In _ _ _); obtain ⟨_, _⟩ := (hv36_169 : In _ _ _); obtain ⟨_, _⟩ := (hv47_169 : In _ _ _); obtain ⟨_, _⟩ := (hv48_169 : In _ _ _); obtain ⟨_, _⟩ := (hv53_169 : In _ _ _); obtain ⟨_, _⟩ := (hv55_169 : In _ _ _); omega), (show 0 ≤ zz166 ∧ zz166 ≤ th 20 by obtain ⟨_, _⟩ := (hv14_169 : In _ _ _); obtain ⟨_, _⟩ := (hv15_169 : In _ _ _); obtain ⟨_, _⟩ := (hv17_169 : In _ _ _); obtain ⟨_, _⟩ := (hv20_169 : In _ _ _); obtain ⟨_, _⟩ := (hv23_169 : In _ _ _); obtain ⟨_, _⟩ := (hv25_169 : In _ _ _); obtain ⟨_, _⟩ := (hv36_169 : In _ _ _); obtain ⟨_, _⟩ := (hv47_169 : In _ _ _); obtain ⟨_, _⟩ := (hv48_169 : In _ _ _); obtain ⟨_, _⟩ := (hv53_169 : In _ _ _); obtain ⟨_, _⟩ := (hv55_169 : In _ _ _); omega), m10⟩), (SBM.set (k := 22) (SBM.set (k := 19) (SBM.set (k := 44) (SBM.set (k := 24) (SBM.set (k := 16) (SBM.set (k := 14) (SBM.set (k := 18) (SBM.rf th) (by decide)) (by decide)) (by decide)) (by decide)) (by decide)) (by decide)) (by decide))⟩, hT⟩⟩) dX11_say_197
                ·
                  have oc30 : (30 : Int32).toInt = 30 := by decide
                  have cc171 : v25_69.toInt = (30 : Int32).toInt := congrArg Int32.toInt c94
                  have hb172 : In v25_69 30 30 := In.eq1 hv25_69 (⟨by decide, by decide⟩ : In 30 30 30) cc171 (by omega) (by omega)
                  refine lv_aload_n hx hb dX11_say_111 rfl (lv_at hl 0 rfl) ?_
                  refine lv_iconst (v := 4) hx hb dX11_say_112 (by decide) ?_
                  refine call_i (run_V (rm := rm_X11_refuse) hx hb hml hown hts (s_X11_refuse l g ad (gset (gset th 18 zz67) 14 zz68) _ _ _ 4 hst hT (⟨by decide, by decide⟩ : In 4 0 4)) cV_X11_refuse wg_1710 ⟨Nat.le_of_ble_eq_true rfl, Nat.le_of_ble_eq_true rfl⟩ hG hE hA hP hD hS (hst.1 255 (by decide)) hf70 rfl rfl hl.1 (As := [.int 4]) (rest := []) rfl (Nat.le_of_ble_eq_true rfl) dX11_say_113 ⟨Nat.le_of_ble_eq_true rfl, Nat.le_of_ble_eq_true rfl⟩) hA hD hS (fun r173 L174 f175 H locs hp176 hP hD hS => ?_)
                  obtain ⟨eL177L, eL177T, eL177F⟩ := hp176
                  have eL177L : L174 = L := eL177L
                  rw [eL177L] at hP hD
                  have hT : TI g ad (gset (gset th 18 zz67) 14 zz68) f175 := eL177T
                  have eL177F : ∀ b, b ≠ (ad 275) → f175 b = f64 b := eL177F
                  have hf178 := (eL177F (ad 255) (hst.ne (by decide) (by decide) (by decide))).trans hf70
                  exact ret_i (ty := .int) hx hb hr hlocks (rfl) hP hD hS (Nat.le_of_ble_eq_true rfl) (Nat.le_of_ble_eq_true rfl) (⟨rfl, ⟨(gset (gset th 18 zz67) 14 zz68), ⟨(show MI (gset (gset th 18 zz67) 14 zz68) from ⟨m1, m2, (show th 20 = (th 12) * rnd (th 10) from m3), m4, m5, m6, m7, m8, m9, m10⟩), (SBM.set (k := 14) (SBM.set (k := 18) (SBM.rf th) (by decide)) (by decide))⟩, hT⟩⟩) dX11_say_116
              ·
                have cc179 : x88.toInt < v36_69.toInt := i32_nle c91
                have hb180 : In v36_69 1 18 := In.lt2 hb89 hv36_69 cc179 (by omega) (by omega)
                refine lv_aload_n hx hb dX11_say_96 rfl (lv_at hl 0 rfl) ?_
                refine lv_iconst (v := 3) hx hb dX11_say_97 (by decide) ?_
                refine call_i (run_V (rm := rm_X11_refuse) hx hb hml hown hts (s_X11_refuse l g ad (gset (gset th 18 zz67) 14 zz68) _ _ _ 3 hst hT (⟨by decide, by decide⟩ : In 3 0 4)) cV_X11_refuse wg_1710 ⟨Nat.le_of_ble_eq_true rfl, Nat.le_of_ble_eq_true rfl⟩ hG hE hA hP hD hS (hst.1 255 (by decide)) hf70 rfl rfl hl.1 (As := [.int 3]) (rest := []) rfl (Nat.le_of_ble_eq_true rfl) dX11_say_98 ⟨Nat.le_of_ble_eq_true rfl, Nat.le_of_ble_eq_true rfl⟩) hA hD hS (fun r181 L182 f183 H locs hp184 hP hD hS => ?_)
                obtain ⟨eL185L, eL185T, eL185F⟩ := hp184
                have eL185L : L182 = L := eL185L
                rw [eL185L] at hP hD
                have hT : TI g ad (gset (gset th 18 zz67) 14 zz68) f183 := eL185T
                have eL185F : ∀ b, b ≠ (ad 275) → f183 b = f64 b := eL185F
                have hf186 := (eL185F (ad 255) (hst.ne (by decide) (by decide) (by decide))).trans hf70
                exact ret_i (ty := .int) hx hb hr hlocks (rfl) hP hD hS (Nat.le_of_ble_eq_true rfl) (Nat.le_of_ble_eq_true rfl) (⟨rfl, ⟨(gset (gset th 18 zz67) 14 zz68), ⟨(show MI (gset (gset th 18 zz67) 14 zz68) from ⟨m1, m2, (show th 20 = (th 12) * rnd (th 10) from m3), m4, m5, m6, m7, m8, m9, m10⟩), (SBM.set (k := 14) (SBM.set (k := 18) (SBM.rf th) (by decide)) (by decide))⟩, hT⟩⟩) dX11_say_101
            ·
              have oc0 : (0 : Int32).toInt = 0 := by decide
              have cc187 : r71.toInt = (0 : Int32).toInt := congrArg Int32.toInt c77
              have hb188 : In r71 0 0 := In.eq1 eL75R (⟨by decide, by decide⟩ : In 0 0 0) cc187 (by omega) (by omega)
              refine lv_aload_n hx hb dX11_say_75 rfl (lv_at hl 0 rfl) ?_
              refine lv_iconst (v := 2) hx hb dX11_say_76 (by decide) ?_
              refine call_i (run_V (rm := rm_X11_refuse) hx hb hml hown hts (s_X11_refuse l g ad (gset (gset th 18 zz67) 14 zz68) _ _ _ 2 hst hT (⟨by decide, by decide⟩ : In 2 0 4)) cV_X11_refuse wg_1710 ⟨Nat.le_of_ble_eq_true rfl, Nat.le_of_ble_eq_true rfl⟩ hG hE hA hP hD hS (hst.1 255 (by decide)) hf70 rfl rfl hl.1 (As := [.int 2]) (rest := []) rfl (Nat.le_of_ble_eq_true rfl) dX11_say_77 ⟨Nat.le_of_ble_eq_true rfl, Nat.le_of_ble_eq_true rfl⟩) hA hD hS (fun r189 L190 f191 H locs hp192 hP hD hS => ?_)
              obtain ⟨eL193L, eL193T, eL193F⟩ := hp192
              have eL193L : L190 = L := eL193L
              rw [eL193L] at hP hD
              have hT : TI g ad (gset (gset th 18 zz67) 14 zz68) f191 := eL193T
              have eL193F : ∀ b, b ≠ (ad 275) → f191 b = f64 b := eL193F
              have hf194 := (eL193F (ad 255) (hst.ne (by decide) (by decide) (by decide))).trans hf70
              exact ret_i (ty := .int) hx hb hr hlocks (rfl) hP hD hS (Nat.le_of_ble_eq_true rfl) (Nat.le_of_ble_eq_true rfl) (⟨rfl, ⟨(gset (gset th 18 zz67) 14 zz68), ⟨(show MI (gset (gset th 18 zz67) 14 zz68) from ⟨m1, m2, (show th 20 = (th 12) * rnd (th 10) from m3), m4, m5, m6, m7, m8, m9, m10⟩), (SBM.set (k := 14) (SBM.set (k := 18) (SBM.rf th) (by decide)) (by decide))⟩, hT⟩⟩) dX11_say_80
          ·
            have oc0 : (0 : Int32).toInt = 0 := by decide
            have cc195 : r52.toInt = (0 : Int32).toInt := congrArg Int32.toInt c58
            have hb196 : In r52 0 0 := In.eq1 eL56R (⟨by decide, by decide⟩ : In 0 0 0) cc195 (by omega) (by omega)
            exact hJ57 _ _ _ hP hD hS (lv_sub hl [0, 1, 2, 3, 4, 5] rfl)
  ·
    have oc0 : (0 : Int32).toInt = 0 := by decide
    have cc197 : v23_1.toInt = (0 : Int32).toInt := congrArg Int32.toInt c6
    have hb198 : In v23_1 0 0 := In.eq1 hv23_1 (⟨by decide, by decide⟩ : In 0 0 0) cc197 (by omega) (by omega)
    refine lv_aload_n hx hb dX11_say_12 rfl (lv_at hl 0 rfl) ?_
    refine lv_iconst (v := 0) hx hb dX11_say_13 (by decide) ?_
    refine call_i (run_V (rm := rm_X11_refuse) hx hb hml hown hts (s_X11_refuse l g ad th _ _ _ 0 hst hT (⟨by decide, by decide⟩ : In 0 0 4)) cV_X11_refuse wg_1710 ⟨Nat.le_of_ble_eq_true rfl, Nat.le_of_ble_eq_true rfl⟩ hG hE hA hP hD hS (hst.1 255 (by decide)) hf4 rfl rfl hl.1 (As := [.int 0]) (rest := []) rfl (Nat.le_of_ble_eq_true rfl) dX11_say_14 ⟨Nat.le_of_ble_eq_true rfl, Nat.le_of_ble_eq_true rfl⟩) hA hD hS (fun r199 L200 f201 H locs hp202 hP hD hS => ?_)
    obtain ⟨eL203L, eL203T, eL203F⟩ := hp202
    have eL203L : L200 = L := eL203L
    rw [eL203L] at hP hD
    have hT : TI g ad th f201 := eL203T
    have eL203F : ∀ b, b ≠ (ad 275) → f201 b = f3 b := eL203F
    have hf204 := (eL203F (ad 255) (hst.ne (by decide) (by decide) (by decide))).trans hf4
    exact ret_i (ty := .int) hx hb hr hlocks (rfl) hP hD hS (Nat.le_of_ble_eq_true rfl) (Nat.le_of_ble_eq_true rfl) (⟨rfl, ⟨th, ⟨(show MI th from hM), (SBM.rf th)⟩, hT⟩⟩) dX11_say_17

abbrev rm_X11_starts_ : Room := { frames := 1, cells := 0, slots := 0, locals := 25 }
abbrev po_X11_starts_ (g : GG) (ad : Nat → Nat) (th : Nat → Int) (L : List Nat) (f : HP) (z1 : Int32) : Int32 → (List Nat × HP) → Prop := fun r u => u.1 = L ∧ (∃ th' : Nat → Int, (MI th' ∧ SBM th th') ∧ TI g ad th' u.2)
set_option maxHeartbeats 4000000 in
set_option maxRecDepth 100000 in
theorem s_X11_starts_ (l : Launch) (g : GG) (ad : Nat → Nat) (th : Nat → Int) (L : List Nat) (f : HP) (sz : Nat) (z1 : Int32) (hst : ST ad L) (hT : TI g ad th f) (hM : MI th) : MtI l g yX11_starts_ cX11_starts_ 3 (some .int) rm_X11_starts_ [.ref (ad 255), .int z1] L f sz (po_X11_starts_ g ad th L f z1) := by
  refine MtI.of (by decide +kernel) (Nat.le_of_ble_eq_true rfl) ?_
  intro p e s m below meth c A hEn hP hD hS ls hl
  obtain ⟨hx, hb, hr, hml, hown, hlocks, hts, hG, hA, hE, hnm⟩ := hEn
  have hown : s.vm.findClass "RulerWordModel" = some m.cls := hown
  have hl : lv_has ls 3 [(0, .ref (ad 255)), (1, .int z1)] := hl
  have hM0 := hM
  obtain ⟨m1, m2, m3, m4, m5, m6, m7, m8, m9, m10⟩ := hM0
  have m20 := mi20 m2 m3
  refine lv_aload_n hx hb dX11_starts__0 rfl (lv_at hl 0 rfl) ?_
  refine lv_iconst (v := 0) hx hb dX11_starts__1 (by decide) ?_
  refine M0e hT (fun v0_1 v2_1 v3_1 v4_1 v5_1 v6_1 v8_1 v9_1 v12_1 v13_1 v14_1 v15_1 v16_1 v17_1 v18_1 v19_1 v20_1 v21_1 v22_1 v23_1 v25_1 v36_1 v37_1 v38_1 v39_1 v40_1 v45_1 v46_1 v47_1 v48_1 v50_1 v51_1 v53_1 v55_1 hf2 hv0_1 hv2_1 hg2_1 hv3_1 hg3_1 hv4_1 hg4_1 hv5_1 hg5_1 hv6_1 hg6_1 hv8_1 hg8_1 hv9_1 hg9_1 hv12_1 hv13_1 hg13_1 hv14_1 hg14_1 hv15_1 hg15_1 hv17_1 hg17_1 hv20_1 hg20_1 hv23_1 hg23_1 hv25_1 hg25_1 hv36_1 hg36_1 hv47_1 hg47_1 hv48_1 hg48_1 hv53_1 hg53_1 hv55_1 hg55_1 hrel0_1 => ?_)
  refine pl_put (ty := .int) (v := .int 0) (fs' := [.int 0, .ref (ad 256), .int v2_1, .int v3_1, .int v4_1, .int v5_1, .int v6_1, .ref (ad 257), .int v8_1, .int v9_1, .ref (ad 258), .ref (ad 259), .int v12_1, .int v13_1, .int v14_1, .int v15_1, .int v16_1, .int v17_1, .int v18_1, .int v19_1, .int v20_1, .long v21_1, .long v22_1, .int v23_1, .ref (ad 260), .int v25_1, .ref (ad 261), .ref (ad 262), .ref (ad 263), .ref (ad 264), .ref (ad 265), .ref (ad 266), .ref (ad 267), .ref (ad 268), .ref (ad 269), .ref (ad 270), .int v36_1, .int v37_1, .int v38_1, .int v39_1, .int v40_1, .ref (ad 271), .ref (ad 272), .ref (ad 273), .ref (ad 274), .long v45_1, .long v46_1, .int v47_1, .int v48_1, .ref (ad 275), .int v50_1, .int v51_1, .ref (ad 276), .int v53_1, .ref (ad 277), .int v55_1]) hx hb hts (fun w h => mT (inX11 w h)) tyX11 tyX11_ok nmX11 hown hG.1 hP hD hS (hst.1 255 (by decide)) hf2 rfl 0 (by decide) (hts _ (mT wg_1336)) (fun _ h => h) rfl (by decide +kernel) (rfl) (rfl) (Nat.le_of_ble_eq_true rfl) rfl dX11_starts__2 (fun H locs f3 hf4 ho5 hP hD hS => ?_)
  refine lv_aload_n hx hb dX11_starts__5 rfl (lv_at hl 0 rfl) ?_
  refine pl_get (v := .int v23_1) hx hb hts (fun w h => mT (inX11 w h)) hown hG.1 hP (hst.1 255 (by decide)) hf4 rfl 23 (by decide) (hts _ (mT wg_1359)) (fun _ h => h) rfl dX11_starts__6 ?_
  have hT := TI.updM hT hst (k := 0) (by decide) hf4 ho5 ⟨0, v2_1, v3_1, v4_1, v5_1, v6_1, v8_1, v9_1, v12_1, v13_1, v14_1, v15_1, v16_1, v17_1, v18_1, v19_1, v20_1, v21_1, v22_1, v23_1, v25_1, v36_1, v37_1, v38_1, v39_1, v40_1, v45_1, v46_1, v47_1, v48_1, v50_1, v51_1, v53_1, v55_1, rfl, (⟨by decide, by decide⟩ : In 0 0 1), hv2_1, hg2_1, hv3_1, hg3_1, hv4_1, hg4_1, hv5_1, hg5_1, hv6_1, hg6_1, hv8_1, hg8_1, hv9_1, hg9_1, hv12_1, hv13_1, hg13_1, hv14_1, hg14_1, hv15_1, hg15_1, hv17_1, hg17_1, hv20_1, hg20_1, hv23_1, hg23_1, hv25_1, hg25_1, hv36_1, hg36_1, hv47_1, hg47_1, hv48_1, hg48_1, hv53_1, hg53_1, hv55_1, hg55_1, hrel0_1⟩
  refine lv_if_ne (tgt := 18) hx hb dX11_starts__9 (by decide) (fun c6 => ?_) (fun c6 => ?_)
  ·
    have oc0 : (0 : Int32).toInt = 0 := by decide
    have cc7 : v23_1.toInt ≠ (0 : Int32).toInt := i32_ne c6
    have hb8 : In v23_1 1 1 := In.ne1 hv23_1 (⟨by decide, by decide⟩ : In 0 0 0) cc7 (by omega) (by omega)
    refine lv_iload_n hx hb dX11_starts__18 rfl (lv_at hl 1 rfl) ?_
    refine lv_i2l hx hb dX11_starts__19 rfl ?_
    refine lv_lconst (v := 0) hx hb dX11_starts__20 (by decide) ?_
    refine lv_iconst (v := 1) hx hb dX11_starts__21 (by decide) ?_
    refine lv_aload_n hx hb dX11_starts__22 rfl (lv_at hl 0 rfl) ?_
    refine pl_get (v := .int v15_1) hx hb hts (fun w h => mT (inX11 w h)) hown hG.1 hP (hst.1 255 (by decide)) hf4 rfl 15 (by decide) (hts _ (mT wg_1351)) (fun _ h => h) rfl dX11_starts__23 ?_
    refine lv_ishl hx hb dX11_starts__26 ?_
    refine lv_topi (fun x9 ex9 => ?_)
    have hb10 : In x9 1 512 := ex9 ▸ In.shl (⟨by decide, by decide⟩ : In 1 1 1) hv15_1 (by decide) (by decide) (by decide) (by decide) (by decide) (by decide)
    refine lv_iconst (v := 1) hx hb dX11_starts__27 (by decide) ?_
    refine lv_isub hx hb dX11_starts__28 ?_
    refine lv_topi (fun x11 ex11 => ?_)
    have hb12 : In x11 0 511 := ex11 ▸ In.sub hb10 (⟨by decide, by decide⟩ : In 1 1 1) (by decide) (by decide) (by decide) (by decide)
    have et13 : x11.toInt = x9.toInt + (-1) := In.sube ex11 hb10 (k := 1) (by decide) (by decide) (by decide)
    refine lv_i2l hx hb dX11_starts__29 rfl ?_
    refine call_i (run_S (rm := rm_X11_isIn) hx hb hml hown hts (s_X11_isIn l g ad th _ _ _ (z1.toInt64) 0 (x11.toInt64) hst hT ) cS_X11_isIn wg_1581 ⟨Nat.le_of_ble_eq_true rfl, Nat.le_of_ble_eq_true rfl⟩ hG hE hA hP hD hS rfl hl.1 (As := [.long (z1.toInt64), .long 0, .long (x11.toInt64)]) (rest := []) rfl (Nat.le_of_ble_eq_true rfl) dX11_starts__30 ⟨Nat.le_of_ble_eq_true rfl, Nat.le_of_ble_eq_true rfl⟩) hA hD hS (fun r14 L15 f16 H locs hp17 hP hD hS => ?_)
    obtain ⟨eL18L, eL18T, eL18R, eL18X0, eL18X1⟩ := hp17
    have eL18L : L15 = L := eL18L
    have eL18T : f16 = f3 := eL18T
    rw [eL18L, eL18T] at hP hD
    have eL18R : In r14 0 1 := eL18R
    have hii19 : r14.toInt = 0 ∨ (0 ≤ z1.toInt ∧ z1.toInt ≤ x11.toInt) := by have z := eL18X0; rw [i2l_t z1, (by decide : (0 : Int64).toInt = 0), i2l_t x11] at z; exact z
    have hii19w : ¬ r14 = 0 → In z1 0 511 := fun c => by have c2 := i32_ne c; have e0 : (0 : Int32).toInt = 0 := (by decide); obtain ⟨o1, p1⟩ := (hb12 : In _ _ _); exact ⟨by omega, by omega⟩
    refine lv_if_ne (tgt := 42) hx hb dX11_starts__33 (by decide) (fun c20 => ?_) (fun c20 => ?_)
    ·
      have oc0 : (0 : Int32).toInt = 0 := by decide
      have cc21 : r14.toInt ≠ (0 : Int32).toInt := i32_ne c20
      have hb22 : In r14 1 1 := In.ne1 eL18R (⟨by decide, by decide⟩ : In 0 0 0) cc21 (by omega) (by omega)
      have hb23 : In z1 0 511 := In.both (hii19w c20) (In.full z1) (by decide) (by decide)
      refine lv_aload_n hx hb dX11_starts__42 rfl (lv_at hl 0 rfl) ?_
      refine call_v (run_V (rm := rm_X11_takesUp) hx hb hml hown hts (s_X11_takesUp l g ad th _ _ _  hst hT (show (th 22) = 2126 from (by have ob10 : (0 : Int) ≤ (th 10) ∧ (th 10) ≤ 1 := (b0_10 hT :); have ob11 : (0 : Int) ≤ (th 11) ∧ (th 11) ≤ 9 := (b0_11 hT :); have ob12 : (0 : Int) ≤ (th 12) ∧ (th 12) ≤ 6 := (b0_12 hT :); have ob14 : (0 : Int) ≤ (th 14) ∧ (th 14) ≤ 511 := (b0_14 hT :); have ob15 : (0 : Int) ≤ (th 15) ∧ (th 15) ≤ 1 := (b0_15 hT :); have ob16 : (0 : Int) ≤ (th 16) ∧ (th 16) ≤ 20 := (b0_16 hT :); have ob17 : (0 : Int) ≤ (th 17) ∧ (th 17) ≤ 1 := (b0_17 hT :); have ob18 : (0 : Int) ≤ (th 18) ∧ (th 18) ≤ 18 := (b0_18 hT :); have ob38 : (0 : Int) ≤ (th 38) ∧ (th 38) ≤ 400 := (b0_38 hT :); have ob39 : (0 : Int) ≤ (th 39) ∧ (th 39) ≤ 200 := (b0_39 hT :); have ob44 : (0 : Int) ≤ (th 44) ∧ (th 44) ≤ 30 := (b0_44 hT :); obtain ⟨o0a, o0b⟩ := (hv14_1 : In _ _ _); obtain ⟨o1a, o1b⟩ := (hv15_1 : In _ _ _); obtain ⟨o2a, o2b⟩ := (hv17_1 : In _ _ _); obtain ⟨o3a, o3b⟩ := (hv20_1 : In _ _ _); obtain ⟨o4a, o4b⟩ := (hb8 : In _ _ _); obtain ⟨o5a, o5b⟩ := (hv25_1 : In _ _ _); obtain ⟨o6a, o6b⟩ := (hv36_1 : In _ _ _); obtain ⟨o7a, o7b⟩ := (hv47_1 : In _ _ _); obtain ⟨o8a, o8b⟩ := (hv48_1 : In _ _ _); obtain ⟨o9a, o9b⟩ := (hv53_1 : In _ _ _); obtain ⟨o10a, o10b⟩ := (hv55_1 : In _ _ _); omega)) (show (th 20) ≤ 18 from (by have ob10 : (0 : Int) ≤ (th 10) ∧ (th 10) ≤ 1 := (b0_10 hT :); have ob11 : (0 : Int) ≤ (th 11) ∧ (th 11) ≤ 9 := (b0_11 hT :); have ob12 : (0 : Int) ≤ (th 12) ∧ (th 12) ≤ 6 := (b0_12 hT :); have ob14 : (0 : Int) ≤ (th 14) ∧ (th 14) ≤ 511 := (b0_14 hT :); have ob15 : (0 : Int) ≤ (th 15) ∧ (th 15) ≤ 1 := (b0_15 hT :); have ob16 : (0 : Int) ≤ (th 16) ∧ (th 16) ≤ 20 := (b0_16 hT :); have ob17 : (0 : Int) ≤ (th 17) ∧ (th 17) ≤ 1 := (b0_17 hT :); have ob18 : (0 : Int) ≤ (th 18) ∧ (th 18) ≤ 18 := (b0_18 hT :); have ob38 : (0 : Int) ≤ (th 38) ∧ (th 38) ≤ 400 := (b0_38 hT :); have ob39 : (0 : Int) ≤ (th 39) ∧ (th 39) ≤ 200 := (b0_39 hT :); have ob44 : (0 : Int) ≤ (th 44) ∧ (th 44) ≤ 30 := (b0_44 hT :); obtain ⟨o0a, o0b⟩ := (hv14_1 : In _ _ _); obtain ⟨o1a, o1b⟩ := (hv15_1 : In _ _ _); obtain ⟨o2a, o2b⟩ := (hv17_1 : In _ _ _); obtain ⟨o3a, o3b⟩ := (hv20_1 : In _ _ _); obtain ⟨o4a, o4b⟩ := (hb8 : In _ _ _); obtain ⟨o5a, o5b⟩ := (hv25_1 : In _ _ _); obtain ⟨o6a, o6b⟩ := (hv36_1 : In _ _ _); obtain ⟨o7a, o7b⟩ := (hv47_1 : In _ _ _); obtain ⟨o8a, o8b⟩ := (hv48_1 : In _ _ _); obtain ⟨o9a, o9b⟩ := (hv53_1 : In _ _ _); obtain ⟨o10a, o10b⟩ := (hv55_1 : In _ _ _); omega)) (show (th 21) = (th 11) from (by have ob10 : (0 : Int) ≤ (th 10) ∧ (th 10) ≤ 1 := (b0_10 hT :); have ob11 : (0 : Int) ≤ (th 11) ∧ (th 11) ≤ 9 := (b0_11 hT :); have ob12 : (0 : Int) ≤ (th 12) ∧ (th 12) ≤ 6 := (b0_12 hT :); have ob14 : (0 : Int) ≤ (th 14) ∧ (th 14) ≤ 511 := (b0_14 hT :); have ob15 : (0 : Int) ≤ (th 15) ∧ (th 15) ≤ 1 := (b0_15 hT :); have ob16 : (0 : Int) ≤ (th 16) ∧ (th 16) ≤ 20 := (b0_16 hT :); have ob17 : (0 : Int) ≤ (th 17) ∧ (th 17) ≤ 1 := (b0_17 hT :); have ob18 : (0 : Int) ≤ (th 18) ∧ (th 18) ≤ 18 := (b0_18 hT :); have ob38 : (0 : Int) ≤ (th 38) ∧ (th 38) ≤ 400 := (b0_38 hT :); have ob39 : (0 : Int) ≤ (th 39) ∧ (th 39) ≤ 200 := (b0_39 hT :); have ob44 : (0 : Int) ≤ (th 44) ∧ (th 44) ≤ 30 := (b0_44 hT :); obtain ⟨o0a, o0b⟩ := (hv14_1 : In _ _ _); obtain ⟨o1a, o1b⟩ := (hv15_1 : In _ _ _); obtain ⟨o2a, o2b⟩ := (hv17_1 : In _ _ _); obtain ⟨o3a, o3b⟩ := (hv20_1 : In _ _ _); obtain ⟨o4a, o4b⟩ := (hb8 : In _ _ _); obtain ⟨o5a, o5b⟩ := (hv25_1 : In _ _ _); obtain ⟨o6a, o6b⟩ := (hv36_1 : In _ _ _); obtain ⟨o7a, o7b⟩ := (hv47_1 : In _ _ _); obtain ⟨o8a, o8b⟩ := (hv48_1 : In _ _ _); obtain ⟨o9a, o9b⟩ := (hv53_1 : In _ _ _); obtain ⟨o10a, o10b⟩ := (hv55_1 : In _ _ _); omega))) cV_X11_takesUp wg_1648 ⟨Nat.le_of_ble_eq_true rfl, Nat.le_of_ble_eq_true rfl⟩ hG hE hA hP hD hS (hst.1 255 (by decide)) hf4 rfl rfl hl.1 (As := []) (rest := []) rfl (Nat.le_of_ble_eq_true rfl) dX11_starts__43 ⟨Nat.le_of_ble_eq_true rfl, Nat.le_of_ble_eq_true rfl⟩) hA hD hS (fun L25 f26 H locs hp27 hP hD hS => ?_)
      obtain ⟨eL28L, eL28T, eL28F⟩ := hp27
      have eL28L : L25 = L := eL28L
      rw [eL28L] at hP hD
      obtain ⟨zz29, zz30, hzz29, eL28T⟩ := eL28T
      have hzz29 : ((zz29 = (th 19) ∧ 0 ≤ zz29 ∧ zz29 ≤ (th 20)) ∧ (0 ≤ zz30 ∧ zz30 ≤ 511)) ∧ capI zz30 ((th 11)) := hzz29
      have hT : TI g ad (gset (gset th 18 zz29) 14 zz30) f26 := eL28T
      have eL28F : ∀ b, b ≠ (ad 255) → b ≠ (ad 265) → b ≠ (ad 266) → b ≠ (ad 267) → b ≠ (ad 269) → b ≠ (ad 260) → b ≠ (ad 261) → b ≠ (ad 262) → b ≠ (ad 263) → b ≠ (ad 264) → f26 b = f3 b := eL28F
      refine lv_aload_n hx hb dX11_starts__46 rfl (lv_at hl 0 rfl) ?_
      refine M0e hT (fun v0_31 v2_31 v3_31 v4_31 v5_31 v6_31 v8_31 v9_31 v12_31 v13_31 v14_31 v15_31 v16_31 v17_31 v18_31 v19_31 v20_31 v21_31 v22_31 v23_31 v25_31 v36_31 v37_31 v38_31 v39_31 v40_31 v45_31 v46_31 v47_31 v48_31 v50_31 v51_31 v53_31 v55_31 hf32 hv0_31 hv2_31 hg2_31 hv3_31 hg3_31 hv4_31 hg4_31 hv5_31 hg5_31 hv6_31 hg6_31 hv8_31 hg8_31 hv9_31 hg9_31 hv12_31 hv13_31 hg13_31 hv14_31 hg14_31 hv15_31 hg15_31 hv17_31 hg17_31 hv20_31 hg20_31 hv23_31 hg23_31 hv25_31 hg25_31 hv36_31 hg36_31 hv47_31 hg47_31 hv48_31 hg48_31 hv53_31 hg53_31 hv55_31 hg55_31 hrel0_31 => ?_)
      have hg2_31 : v2_31.toInt = th 13 := hg2_31
      have hg3_31 : v3_31.toInt = th 37 := hg3_31
      have hg4_31 : v4_31.toInt = th 42 := hg4_31
      have hg5_31 : v5_31.toInt = th 40 := hg5_31
      have hg6_31 : v6_31.toInt = th 41 := hg6_31
      have hg8_31 : v8_31.toInt = th 43 := hg8_31
      have hg9_31 : v9_31.toInt = th 35 := hg9_31
      have hg13_31 : v13_31.toInt = th 36 := hg13_31
      have hg14_31 : v14_31.toInt = th 10 := hg14_31
      have hg15_31 : v15_31.toInt = th 11 := hg15_31
      have hg17_31 : v17_31.toInt = th 12 := hg17_31
      have hg20_31 : v20_31.toInt = zz30 := hg20_31
      have hg23_31 : v23_31.toInt = th 15 := hg23_31
      have hg25_31 : v25_31.toInt = th 44 := hg25_31
      have hg36_31 : v36_31.toInt = zz29 := hg36_31
      have hg47_31 : v47_31.toInt = th 16 := hg47_31
      have hg48_31 : v48_31.toInt = th 17 := hg48_31
      have hg53_31 : v53_31.toInt = th 38 := hg53_31
      have hg55_31 : v55_31.toInt = th 39 := hg55_31
      refine pl_get (v := .int v36_31) hx hb hts (fun w h => mT (inX11 w h)) hown hG.1 hP (hst.1 255 (by decide)) hf32 rfl 36 (by decide) (hts _ (mT wg_1372)) (fun _ h => h) rfl dX11_starts__47 ?_
      refine lv_if_le (tgt := 59) hx hb dX11_starts__50 (by decide) (fun c33 => ?_) (fun c33 => ?_)
      ·
        have oc0 : (0 : Int32).toInt = 0 := by decide
        have cc34 : v36_31.toInt ≤ (0 : Int32).toInt := i32_le.mp c33
        have hb35 : In v36_31 0 0 := In.le1 hv36_31 (⟨by decide, by decide⟩ : In 0 0 0) cc34 (by omega) (by omega)
        refine lv_aload_n hx hb dX11_starts__59 rfl (lv_at hl 0 rfl) ?_
        refine call_v (run_V (rm := rm_X11_keeps) hx hb hml hown hts (s_X11_keeps l g ad (gset (gset th 18 zz29) 14 zz30) _ _ _  hst hT (show MI (gset (gset th 18 zz29) 14 zz30) from ⟨m1, m2, (show th 20 = (th 12) * rnd (th 10) from m3), m4, m5, m6, m7, m8, m9, m10⟩)) cV_X11_keeps wg_1644 ⟨Nat.le_of_ble_eq_true rfl, Nat.le_of_ble_eq_true rfl⟩ hG hE hA hP hD hS (hst.1 255 (by decide)) hf32 rfl rfl hl.1 (As := []) (rest := []) rfl (Nat.le_of_ble_eq_true rfl) dX11_starts__60 ⟨Nat.le_of_ble_eq_true rfl, Nat.le_of_ble_eq_true rfl⟩) hA hD hS (fun L37 f38 H locs hp39 hP hD hS => ?_)
        obtain ⟨eL40L, eL40T, eL40F⟩ := hp39
        have eL40L : L37 = L := eL40L
        rw [eL40L] at hP hD
        obtain ⟨zz41, zz42, hzz41, eL40T⟩ := eL40T
        have hzz41 : (1 ≤ zz41 ∧ zz41 ≤ 20) ∧ zz42 = 2126 * zz41 := hzz41
        have hT : TI g ad (gset (gset (gset (gset th 18 zz29) 14 zz30) 16 zz41) 24 zz42) f38 := eL40T
        have eL40F : ∀ b, b ≠ (ad 255) → b ≠ (ad 273) → b ≠ (ad 274) → f38 b = f26 b := eL40F
        refine lv_aload_n hx hb dX11_starts__63 rfl (lv_at hl 0 rfl) ?_
        refine M0e hT (fun v0_43 v2_43 v3_43 v4_43 v5_43 v6_43 v8_43 v9_43 v12_43 v13_43 v14_43 v15_43 v16_43 v17_43 v18_43 v19_43 v20_43 v21_43 v22_43 v23_43 v25_43 v36_43 v37_43 v38_43 v39_43 v40_43 v45_43 v46_43 v47_43 v48_43 v50_43 v51_43 v53_43 v55_43 hf44 hv0_43 hv2_43 hg2_43 hv3_43 hg3_43 hv4_43 hg4_43 hv5_43 hg5_43 hv6_43 hg6_43 hv8_43 hg8_43 hv9_43 hg9_43 hv12_43 hv13_43 hg13_43 hv14_43 hg14_43 hv15_43 hg15_43 hv17_43 hg17_43 hv20_43 hg20_43 hv23_43 hg23_43 hv25_43 hg25_43 hv36_43 hg36_43 hv47_43 hg47_43 hv48_43 hg48_43 hv53_43 hg53_43 hv55_43 hg55_43 hrel0_43 => ?_)
        have hg2_43 : v2_43.toInt = th 13 := hg2_43
        have hg3_43 : v3_43.toInt = th 37 := hg3_43
        have hg4_43 : v4_43.toInt = th 42 := hg4_43
        have hg5_43 : v5_43.toInt = th 40 := hg5_43
        have hg6_43 : v6_43.toInt = th 41 := hg6_43
        have hg8_43 : v8_43.toInt = th 43 := hg8_43
        have hg9_43 : v9_43.toInt = th 35 := hg9_43
        have hg13_43 : v13_43.toInt = th 36 := hg13_43
        have hg14_43 : v14_43.toInt = th 10 := hg14_43
        have hg15_43 : v15_43.toInt = th 11 := hg15_43
        have hg17_43 : v17_43.toInt = th 12 := hg17_43
        have hg20_43 : v20_43.toInt = zz30 := hg20_43
        have hg23_43 : v23_43.toInt = th 15 := hg23_43
        have hg25_43 : v25_43.toInt = th 44 := hg25_43
        have hg36_43 : v36_43.toInt = zz29 := hg36_43
        have hg47_43 : v47_43.toInt = zz41 := hg47_43
        have hg48_43 : v48_43.toInt = th 17 := hg48_43
        have hg53_43 : v53_43.toInt = th 38 := hg53_43
        have hg55_43 : v55_43.toInt = th 39 := hg55_43
        refine pl_get (v := .int v19_43) hx hb hts (fun w h => mT (inX11 w h)) hown hG.1 hP (hst.1 255 (by decide)) hf44 rfl 19 (by decide) (hts _ (mT wg_1355)) (fun _ h => h) rfl dX11_starts__64 ?_
        refine lv_istore_n (lv' := [(2, .int v19_43), (0, .ref (ad 255)), (1, .int z1)]) hx hb dX11_starts__67 rfl hl (by decide) rfl (fun ls hl => ?_)
        refine lv_aload_n hx hb dX11_starts__68 rfl (lv_at hl 1 rfl) ?_
        refine lv_iload_n hx hb dX11_starts__69 rfl (lv_at hl 2 rfl) ?_
        refine pl_put (ty := .int) (v := .int z1) (fs' := [.int v0_43, .ref (ad 256), .int v2_43, .int v3_43, .int v4_43, .int v5_43, .int v6_43, .ref (ad 257), .int v8_43, .int v9_43, .ref (ad 258), .ref (ad 259), .int v12_43, .int v13_43, .int v14_43, .int v15_43, .int v16_43, .int v17_43, .int v18_43, .int z1, .int v20_43, .long v21_43, .long v22_43, .int v23_43, .ref (ad 260), .int v25_43, .ref (ad 261), .ref (ad 262), .ref (ad 263), .ref (ad 264), .ref (ad 265), .ref (ad 266), .ref (ad 267), .ref (ad 268), .ref (ad 269), .ref (ad 270), .int v36_43, .int v37_43, .int v38_43, .int v39_43, .int v40_43, .ref (ad 271), .ref (ad 272), .ref (ad 273), .ref (ad 274), .long v45_43, .long v46_43, .int v47_43, .int v48_43, .ref (ad 275), .int v50_43, .int v51_43, .ref (ad 276), .int v53_43, .ref (ad 277), .int v55_43]) hx hb hts (fun w h => mT (inX11 w h)) tyX11 tyX11_ok nmX11 hown hG.1 hP hD hS (hst.1 255 (by decide)) hf44 rfl 19 (by decide) (hts _ (mT wg_1355)) (fun _ h => h) rfl (by decide +kernel) (rfl) (rfl) (Nat.le_of_ble_eq_true rfl) rfl dX11_starts__70 (fun H locs f45 hf46 ho47 hP hD hS => ?_)
        refine lv_aload_n hx hb dX11_starts__73 rfl (lv_at hl 1 rfl) ?_
        have hT := TI.updM hT hst (k := 0) (by decide) hf46 ho47 ⟨v0_43, v2_43, v3_43, v4_43, v5_43, v6_43, v8_43, v9_43, v12_43, v13_43, v14_43, v15_43, v16_43, v17_43, v18_43, z1, v20_43, v21_43, v22_43, v23_43, v25_43, v36_43, v37_43, v38_43, v39_43, v40_43, v45_43, v46_43, v47_43, v48_43, v50_43, v51_43, v53_43, v55_43, rfl, hv0_43, hv2_43, hg2_43, hv3_43, hg3_43, hv4_43, hg4_43, hv5_43, hg5_43, hv6_43, hg6_43, hv8_43, hg8_43, hv9_43, hg9_43, hv12_43, hv13_43, hg13_43, hv14_43, hg14_43, hv15_43, hg15_43, hv17_43, hg17_43, hv20_43, hg20_43, hv23_43, hg23_43, hv25_43, hg25_43, hv36_43, hg36_43, hv47_43, hg47_43, hv48_43, hg48_43, hv53_43, hg53_43, hv55_43, hg55_43, hrel0_43⟩
        refine call_v (run_V (rm := rm_X11_startsAnew) hx hb hml hown hts (s_X11_startsAnew l g ad (gset (gset (gset (gset th 18 zz29) 14 zz30) 16 zz41) 24 zz42) _ _ _  hst hT ) cV_X11_startsAnew wg_1616 ⟨Nat.le_of_ble_eq_true rfl, Nat.le_of_ble_eq_true rfl⟩ hG hE hA hP hD hS (hst.1 255 (by decide)) hf46 rfl rfl hl.1 (As := []) (rest := []) rfl (Nat.le_of_ble_eq_true rfl) dX11_starts__74 ⟨Nat.le_of_ble_eq_true rfl, Nat.le_of_ble_eq_true rfl⟩) hA hD hS (fun L49 f50 H locs hp51 hP hD hS => ?_)
        obtain ⟨eL52L, eL52T, eL52F⟩ := hp51
        have eL52L : L49 = L := eL52L
        rw [eL52L] at hP hD
        have hT : TI g ad (gset (gset (gset (gset (gset th 18 zz29) 14 zz30) 16 zz41) 24 zz42) 18 0) f50 := eL52T
        have hT : TI g ad (gset (gset (gset (gset th 14 zz30) 16 zz41) 24 zz42) 18 0) f50 := TI.cast hT (by funext q; by_cases hq0 : q = 18; (subst hq0; rfl); by_cases hq1 : q = 24; (subst hq1; rfl); by_cases hq2 : q = 16; (subst hq2; rfl); by_cases hq3 : q = 14; (subst hq3; rfl); simp only [gset, if_neg hq0, if_neg hq1, if_neg hq2, if_neg hq3])
        have eL52F : ∀ b, b ≠ (ad 255) → b ≠ (ad 261) → b ≠ (ad 262) → f50 b = f45 b := eL52F
        refine lv_aload_n hx hb dX11_starts__77 rfl (lv_at hl 1 rfl) ?_
        refine M0e hT (fun v0_53 v2_53 v3_53 v4_53 v5_53 v6_53 v8_53 v9_53 v12_53 v13_53 v14_53 v15_53 v16_53 v17_53 v18_53 v19_53 v20_53 v21_53 v22_53 v23_53 v25_53 v36_53 v37_53 v38_53 v39_53 v40_53 v45_53 v46_53 v47_53 v48_53 v50_53 v51_53 v53_53 v55_53 hf54 hv0_53 hv2_53 hg2_53 hv3_53 hg3_53 hv4_53 hg4_53 hv5_53 hg5_53 hv6_53 hg6_53 hv8_53 hg8_53 hv9_53 hg9_53 hv12_53 hv13_53 hg13_53 hv14_53 hg14_53 hv15_53 hg15_53 hv17_53 hg17_53 hv20_53 hg20_53 hv23_53 hg23_53 hv25_53 hg25_53 hv36_53 hg36_53 hv47_53 hg47_53 hv48_53 hg48_53 hv53_53 hg53_53 hv55_53 hg55_53 hrel0_53 => ?_)
        have hg2_53 : v2_53.toInt = th 13 := hg2_53
        have hg3_53 : v3_53.toInt = th 37 := hg3_53
        have hg4_53 : v4_53.toInt = th 42 := hg4_53
        have hg5_53 : v5_53.toInt = th 40 := hg5_53
        have hg6_53 : v6_53.toInt = th 41 := hg6_53
        have hg8_53 : v8_53.toInt = th 43 := hg8_53
        have hg9_53 : v9_53.toInt = th 35 := hg9_53
        have hg13_53 : v13_53.toInt = th 36 := hg13_53
        have hg14_53 : v14_53.toInt = th 10 := hg14_53
        have hg15_53 : v15_53.toInt = th 11 := hg15_53
        have hg17_53 : v17_53.toInt = th 12 := hg17_53
        have hg20_53 : v20_53.toInt = zz30 := hg20_53
        have hg23_53 : v23_53.toInt = th 15 := hg23_53
        have hg25_53 : v25_53.toInt = th 44 := hg25_53
        have hg36_53 : v36_53.toInt = 0 := hg36_53
        have hg47_53 : v47_53.toInt = zz41 := hg47_53
        have hg48_53 : v48_53.toInt = th 17 := hg48_53
        have hg53_53 : v53_53.toInt = th 38 := hg53_53
        have hg55_53 : v55_53.toInt = th 39 := hg55_53
        refine call_v (run_V (rm := rm_X11_laysDown) hx hb hml hown hts (s_X11_laysDown l g ad (gset (gset (gset (gset th 14 zz30) 16 zz41) 24 zz42) 18 0) _ _ _  hst hT (show 0 ≤ (th 20) from (by have ob10 : (0 : Int) ≤ (th 10) ∧ (th 10) ≤ 1 := (b0_10 hT :); have ob11 : (0 : Int) ≤ (th 11) ∧ (th 11) ≤ 9 := (b0_11 hT :); have ob12 : (0 : Int) ≤ (th 12) ∧ (th 12) ≤ 6 := (b0_12 hT :); have ob14 : (0 : Int) ≤ zz30 ∧ zz30 ≤ 511 := (b0_14 hT :); have ob15 : (0 : Int) ≤ (th 15) ∧ (th 15) ≤ 1 := (b0_15 hT :); have ob16 : (0 : Int) ≤ zz41 ∧ zz41 ≤ 20 := (b0_16 hT :); have ob17 : (0 : Int) ≤ (th 17) ∧ (th 17) ≤ 1 := (b0_17 hT :); have ob18 : (0 : Int) ≤ 0 ∧ 0 ≤ 18 := (b0_18 hT :); have ob38 : (0 : Int) ≤ (th 38) ∧ (th 38) ≤ 400 := (b0_38 hT :); have ob39 : (0 : Int) ≤ (th 39) ∧ (th 39) ≤ 200 := (b0_39 hT :); have ob44 : (0 : Int) ≤ (th 44) ∧ (th 44) ≤ 30 := (b0_44 hT :); obtain ⟨o0a, o0b⟩ := (hv14_53 : In _ _ _); obtain ⟨o1a, o1b⟩ := (hv15_53 : In _ _ _); obtain ⟨o2a, o2b⟩ := (hv17_53 : In _ _ _); obtain ⟨o3a, o3b⟩ := (hv20_53 : In _ _ _); obtain ⟨o4a, o4b⟩ := (hv23_53 : In _ _ _); obtain ⟨o5a, o5b⟩ := (hv25_53 : In _ _ _); obtain ⟨o6a, o6b⟩ := (hv36_53 : In _ _ _); obtain ⟨o7a, o7b⟩ := (hv47_53 : In _ _ _); obtain ⟨o8a, o8b⟩ := (hv48_53 : In _ _ _); obtain ⟨o9a, o9b⟩ := (hv53_53 : In _ _ _); obtain ⟨o10a, o10b⟩ := (hv55_53 : In _ _ _); omega)) (show (th 11) = (th 21) from (by have ob10 : (0 : Int) ≤ (th 10) ∧ (th 10) ≤ 1 := (b0_10 hT :); have ob11 : (0 : Int) ≤ (th 11) ∧ (th 11) ≤ 9 := (b0_11 hT :); have ob12 : (0 : Int) ≤ (th 12) ∧ (th 12) ≤ 6 := (b0_12 hT :); have ob14 : (0 : Int) ≤ zz30 ∧ zz30 ≤ 511 := (b0_14 hT :); have ob15 : (0 : Int) ≤ (th 15) ∧ (th 15) ≤ 1 := (b0_15 hT :); have ob16 : (0 : Int) ≤ zz41 ∧ zz41 ≤ 20 := (b0_16 hT :); have ob17 : (0 : Int) ≤ (th 17) ∧ (th 17) ≤ 1 := (b0_17 hT :); have ob18 : (0 : Int) ≤ 0 ∧ 0 ≤ 18 := (b0_18 hT :); have ob38 : (0 : Int) ≤ (th 38) ∧ (th 38) ≤ 400 := (b0_38 hT :); have ob39 : (0 : Int) ≤ (th 39) ∧ (th 39) ≤ 200 := (b0_39 hT :); have ob44 : (0 : Int) ≤ (th 44) ∧ (th 44) ≤ 30 := (b0_44 hT :); obtain ⟨o0a, o0b⟩ := (hv14_53 : In _ _ _); obtain ⟨o1a, o1b⟩ := (hv15_53 : In _ _ _); obtain ⟨o2a, o2b⟩ := (hv17_53 : In _ _ _); obtain ⟨o3a, o3b⟩ := (hv20_53 : In _ _ _); obtain ⟨o4a, o4b⟩ := (hv23_53 : In _ _ _); obtain ⟨o5a, o5b⟩ := (hv25_53 : In _ _ _); obtain ⟨o6a, o6b⟩ := (hv36_53 : In _ _ _); obtain ⟨o7a, o7b⟩ := (hv47_53 : In _ _ _); obtain ⟨o8a, o8b⟩ := (hv48_53 : In _ _ _); obtain ⟨o9a, o9b⟩ := (hv53_53 : In _ _ _); obtain ⟨o10a, o10b⟩ := (hv55_53 : In _ _ _); omega))) cV_X11_laysDown wg_1620 ⟨Nat.le_of_ble_eq_true rfl, Nat.le_of_ble_eq_true rfl⟩ hG hE hA hP hD hS (hst.1 255 (by decide)) hf54 rfl rfl hl.1 (As := []) (rest := []) rfl (Nat.le_of_ble_eq_true rfl) dX11_starts__78 ⟨Nat.le_of_ble_eq_true rfl, Nat.le_of_ble_eq_true rfl⟩) hA hD hS (fun L56 f57 H locs hp58 hP hD hS => ?_)
        obtain ⟨eL59L, eL59T, eL59F⟩ := hp58
        have eL59L : L56 = L := eL59L
        rw [eL59L] at hP hD
        obtain ⟨zz60, zz61, hzz60, eL59T⟩ := eL59T
        have hzz60 : zz60 = 0 ∧ zz61 = 2126 := hzz60
        have hT : TI g ad (gset (gset (gset (gset (gset (gset th 14 zz30) 16 zz41) 24 zz42) 18 0) 19 zz60) 22 zz61) f57 := eL59T
        have eL59F : ∀ b, b ≠ (ad 255) → b ≠ (ad 271) → f57 b = f50 b := eL59F
        refine lv_iload_n hx hb dX11_starts__81 rfl (lv_at hl 0 rfl) ?_
        exact ret_i (ty := .int) hx hb hr hlocks (rfl) hP hD hS (Nat.le_of_ble_eq_true rfl) (Nat.le_of_ble_eq_true rfl) (⟨rfl, ⟨(gset (gset (gset (gset (gset (gset th 14 zz30) 16 zz41) 24 zz42) 18 0) 19 zz60) 22 zz61), ⟨(show MI (gset (gset (gset (gset (gset (gset th 14 zz30) 16 zz41) 24 zz42) 18 0) 19 zz60) 22 zz61) from ⟨m1, m2, (show th 20 = (th 12) * rnd (th 10) from m3), m4, (show zz61 = 2126 by omega), m6, (show zz42 = 2126 * zz41 by omega), (show 0 ≤ zz41 ∧ zz41 ≤ 20 by omega), (show 0 ≤ zz60 ∧ zz60 ≤ th 20 by omega), m10⟩), (SBM.set (k := 22) (SBM.set (k := 19) (SBM.set (k := 18) (SBM.set (k := 24) (SBM.set (k := 16) (SBM.set (k := 14) (SBM.rf th) (by decide)) (by decide)) (by decide)) (by decide)) (by decide)) (by decide))⟩, hT⟩⟩) dX11_starts__82
      ·
        have oc0 : (0 : Int32).toInt = 0 := by decide
        have cc62 : (0 : Int32).toInt < v36_31.toInt := i32_nle c33
        have hb63 : In v36_31 1 18 := In.gt1 hv36_31 (⟨by decide, by decide⟩ : In 0 0 0) cc62 (by omega) (by omega)
        refine lv_aload_n hx hb dX11_starts__53 rfl (lv_at hl 0 rfl) ?_
        refine lv_iconst (v := 3) hx hb dX11_starts__54 (by decide) ?_
        refine call_i (run_V (rm := rm_X11_refuse) hx hb hml hown hts (s_X11_refuse l g ad (gset (gset th 18 zz29) 14 zz30) _ _ _ 3 hst hT (⟨by decide, by decide⟩ : In 3 0 4)) cV_X11_refuse wg_1710 ⟨Nat.le_of_ble_eq_true rfl, Nat.le_of_ble_eq_true rfl⟩ hG hE hA hP hD hS (hst.1 255 (by decide)) hf32 rfl rfl hl.1 (As := [.int 3]) (rest := []) rfl (Nat.le_of_ble_eq_true rfl) dX11_starts__55 ⟨Nat.le_of_ble_eq_true rfl, Nat.le_of_ble_eq_true rfl⟩) hA hD hS (fun r64 L65 f66 H locs hp67 hP hD hS => ?_)
        obtain ⟨eL68L, eL68T, eL68F⟩ := hp67
        have eL68L : L65 = L := eL68L
        rw [eL68L] at hP hD
        have hT : TI g ad (gset (gset th 18 zz29) 14 zz30) f66 := eL68T
        have eL68F : ∀ b, b ≠ (ad 275) → f66 b = f26 b := eL68F
        have hf69 := (eL68F (ad 255) (hst.ne (by decide) (by decide) (by decide))).trans hf32
        exact ret_i (ty := .int) hx hb hr hlocks (rfl) hP hD hS (Nat.le_of_ble_eq_true rfl) (Nat.le_of_ble_eq_true rfl) (⟨rfl, ⟨(gset (gset th 18 zz29) 14 zz30), ⟨(show MI (gset (gset th 18 zz29) 14 zz30) from ⟨m1, m2, (show th 20 = (th 12) * rnd (th 10) from m3), m4, m5, m6, m7, m8, m9, m10⟩), (SBM.set (k := 14) (SBM.set (k := 18) (SBM.rf th) (by decide)) (by decide))⟩, hT⟩⟩) dX11_starts__58
    ·
      have oc0 : (0 : Int32).toInt = 0 := by decide
      have cc70 : r14.toInt = (0 : Int32).toInt := congrArg Int32.toInt c20
      have hb71 : In r14 0 0 := In.eq1 eL18R (⟨by decide, by decide⟩ : In 0 0 0) cc70 (by omega) (by omega)
      refine lv_aload_n hx hb dX11_starts__36 rfl (lv_at hl 0 rfl) ?_
      refine lv_iconst (v := 1) hx hb dX11_starts__37 (by decide) ?_
      refine call_i (run_V (rm := rm_X11_refuse) hx hb hml hown hts (s_X11_refuse l g ad th _ _ _ 1 hst hT (⟨by decide, by decide⟩ : In 1 0 4)) cV_X11_refuse wg_1710 ⟨Nat.le_of_ble_eq_true rfl, Nat.le_of_ble_eq_true rfl⟩ hG hE hA hP hD hS (hst.1 255 (by decide)) hf4 rfl rfl hl.1 (As := [.int 1]) (rest := []) rfl (Nat.le_of_ble_eq_true rfl) dX11_starts__38 ⟨Nat.le_of_ble_eq_true rfl, Nat.le_of_ble_eq_true rfl⟩) hA hD hS (fun r72 L73 f74 H locs hp75 hP hD hS => ?_)
      obtain ⟨eL76L, eL76T, eL76F⟩ := hp75
      have eL76L : L73 = L := eL76L
      rw [eL76L] at hP hD
      have hT : TI g ad th f74 := eL76T
      have eL76F : ∀ b, b ≠ (ad 275) → f74 b = f3 b := eL76F
      have hf77 := (eL76F (ad 255) (hst.ne (by decide) (by decide) (by decide))).trans hf4
      exact ret_i (ty := .int) hx hb hr hlocks (rfl) hP hD hS (Nat.le_of_ble_eq_true rfl) (Nat.le_of_ble_eq_true rfl) (⟨rfl, ⟨th, ⟨(show MI th from hM), (SBM.rf th)⟩, hT⟩⟩) dX11_starts__41
  ·
    have oc0 : (0 : Int32).toInt = 0 := by decide
    have cc78 : v23_1.toInt = (0 : Int32).toInt := congrArg Int32.toInt c6
    have hb79 : In v23_1 0 0 := In.eq1 hv23_1 (⟨by decide, by decide⟩ : In 0 0 0) cc78 (by omega) (by omega)
    refine lv_aload_n hx hb dX11_starts__12 rfl (lv_at hl 0 rfl) ?_
    refine lv_iconst (v := 0) hx hb dX11_starts__13 (by decide) ?_
    refine call_i (run_V (rm := rm_X11_refuse) hx hb hml hown hts (s_X11_refuse l g ad th _ _ _ 0 hst hT (⟨by decide, by decide⟩ : In 0 0 4)) cV_X11_refuse wg_1710 ⟨Nat.le_of_ble_eq_true rfl, Nat.le_of_ble_eq_true rfl⟩ hG hE hA hP hD hS (hst.1 255 (by decide)) hf4 rfl rfl hl.1 (As := [.int 0]) (rest := []) rfl (Nat.le_of_ble_eq_true rfl) dX11_starts__14 ⟨Nat.le_of_ble_eq_true rfl, Nat.le_of_ble_eq_true rfl⟩) hA hD hS (fun r80 L81 f82 H locs hp83 hP hD hS => ?_)
    obtain ⟨eL84L, eL84T, eL84F⟩ := hp83
    have eL84L : L81 = L := eL84L
    rw [eL84L] at hP hD
    have hT : TI g ad th f82 := eL84T
    have eL84F : ∀ b, b ≠ (ad 275) → f82 b = f3 b := eL84F
    have hf85 := (eL84F (ad 255) (hst.ne (by decide) (by decide) (by decide))).trans hf4
    exact ret_i (ty := .int) hx hb hr hlocks (rfl) hP hD hS (Nat.le_of_ble_eq_true rfl) (Nat.le_of_ble_eq_true rfl) (⟨rfl, ⟨th, ⟨(show MI th from hM), (SBM.rf th)⟩, hT⟩⟩) dX11_starts__17

abbrev rm_X11_falseOnes : Room := { frames := 1, cells := 0, slots := 0, locals := 25 }
abbrev po_X11_falseOnes (g : GG) (ad : Nat → Nat) (th : Nat → Int) (L : List Nat) (f : HP) (z1 : Int32) : Int32 → (List Nat × HP) → Prop := fun r u => u.1 = L ∧ (∃ th' : Nat → Int, (MI th' ∧ SBM th th') ∧ TI g ad th' u.2)
set_option maxHeartbeats 4000000 in
set_option maxRecDepth 100000 in
theorem s_X11_falseOnes (l : Launch) (g : GG) (ad : Nat → Nat) (th : Nat → Int) (L : List Nat) (f : HP) (sz : Nat) (z1 : Int32) (hst : ST ad L) (hT : TI g ad th f) (hM : MI th) : MtI l g yX11_falseOnes cX11_falseOnes 6 (some .int) rm_X11_falseOnes [.ref (ad 255), .int z1] L f sz (po_X11_falseOnes g ad th L f z1) := by
  refine MtI.of (by decide +kernel) (Nat.le_of_ble_eq_true rfl) ?_
  intro p e s m below meth c A hEn hP hD hS ls hl
  obtain ⟨hx, hb, hr, hml, hown, hlocks, hts, hG, hA, hE, hnm⟩ := hEn
  have hown : s.vm.findClass "RulerWordModel" = some m.cls := hown
  have hl : lv_has ls 6 [(0, .ref (ad 255)), (1, .int z1)] := hl
  have hM0 := hM
  obtain ⟨m1, m2, m3, m4, m5, m6, m7, m8, m9, m10⟩ := hM0
  have m20 := mi20 m2 m3
  refine lv_aload_n hx hb dX11_falseOnes_0 rfl (lv_at hl 0 rfl) ?_
  refine lv_iconst (v := 0) hx hb dX11_falseOnes_1 (by decide) ?_
  refine M0e hT (fun v0_1 v2_1 v3_1 v4_1 v5_1 v6_1 v8_1 v9_1 v12_1 v13_1 v14_1 v15_1 v16_1 v17_1 v18_1 v19_1 v20_1 v21_1 v22_1 v23_1 v25_1 v36_1 v37_1 v38_1 v39_1 v40_1 v45_1 v46_1 v47_1 v48_1 v50_1 v51_1 v53_1 v55_1 hf2 hv0_1 hv2_1 hg2_1 hv3_1 hg3_1 hv4_1 hg4_1 hv5_1 hg5_1 hv6_1 hg6_1 hv8_1 hg8_1 hv9_1 hg9_1 hv12_1 hv13_1 hg13_1 hv14_1 hg14_1 hv15_1 hg15_1 hv17_1 hg17_1 hv20_1 hg20_1 hv23_1 hg23_1 hv25_1 hg25_1 hv36_1 hg36_1 hv47_1 hg47_1 hv48_1 hg48_1 hv53_1 hg53_1 hv55_1 hg55_1 hrel0_1 => ?_)
  refine pl_put (ty := .int) (v := .int 0) (fs' := [.int 0, .ref (ad 256), .int v2_1, .int v3_1, .int v4_1, .int v5_1, .int v6_1, .ref (ad 257), .int v8_1, .int v9_1, .ref (ad 258), .ref (ad 259), .int v12_1, .int v13_1, .int v14_1, .int v15_1, .int v16_1, .int v17_1, .int v18_1, .int v19_1, .int v20_1, .long v21_1, .long v22_1, .int v23_1, .ref (ad 260), .int v25_1, .ref (ad 261), .ref (ad 262), .ref (ad 263), .ref (ad 264), .ref (ad 265), .ref (ad 266), .ref (ad 267), .ref (ad 268), .ref (ad 269), .ref (ad 270), .int v36_1, .int v37_1, .int v38_1, .int v39_1, .int v40_1, .ref (ad 271), .ref (ad 272), .ref (ad 273), .ref (ad 274), .long v45_1, .long v46_1, .int v47_1, .int v48_1, .ref (ad 275), .int v50_1, .int v51_1, .ref (ad 276), .int v53_1, .ref (ad 277), .int v55_1]) hx hb hts (fun w h => mT (inX11 w h)) tyX11 tyX11_ok nmX11 hown hG.1 hP hD hS (hst.1 255 (by decide)) hf2 rfl 0 (by decide) (hts _ (mT wg_1336)) (fun _ h => h) rfl (by decide +kernel) (rfl) (rfl) (Nat.le_of_ble_eq_true rfl) rfl dX11_falseOnes_2 (fun H locs f3 hf4 ho5 hP hD hS => ?_)
  refine lv_aload_n hx hb dX11_falseOnes_5 rfl (lv_at hl 0 rfl) ?_
  refine pl_get (v := .int v23_1) hx hb hts (fun w h => mT (inX11 w h)) hown hG.1 hP (hst.1 255 (by decide)) hf4 rfl 23 (by decide) (hts _ (mT wg_1359)) (fun _ h => h) rfl dX11_falseOnes_6 ?_
  have hT := TI.updM hT hst (k := 0) (by decide) hf4 ho5 ⟨0, v2_1, v3_1, v4_1, v5_1, v6_1, v8_1, v9_1, v12_1, v13_1, v14_1, v15_1, v16_1, v17_1, v18_1, v19_1, v20_1, v21_1, v22_1, v23_1, v25_1, v36_1, v37_1, v38_1, v39_1, v40_1, v45_1, v46_1, v47_1, v48_1, v50_1, v51_1, v53_1, v55_1, rfl, (⟨by decide, by decide⟩ : In 0 0 1), hv2_1, hg2_1, hv3_1, hg3_1, hv4_1, hg4_1, hv5_1, hg5_1, hv6_1, hg6_1, hv8_1, hg8_1, hv9_1, hg9_1, hv12_1, hv13_1, hg13_1, hv14_1, hg14_1, hv15_1, hg15_1, hv17_1, hg17_1, hv20_1, hg20_1, hv23_1, hg23_1, hv25_1, hg25_1, hv36_1, hg36_1, hv47_1, hg47_1, hv48_1, hg48_1, hv53_1, hg53_1, hv55_1, hg55_1, hrel0_1⟩
  refine lv_if_ne (tgt := 18) hx hb dX11_falseOnes_9 (by decide) (fun c6 => ?_) (fun c6 => ?_)
  ·
    have oc0 : (0 : Int32).toInt = 0 := by decide
    have cc7 : v23_1.toInt ≠ (0 : Int32).toInt := i32_ne c6
    have hb8 : In v23_1 1 1 := In.ne1 hv23_1 (⟨by decide, by decide⟩ : In 0 0 0) cc7 (by omega) (by omega)
    refine lv_iload_n hx hb dX11_falseOnes_18 rfl (lv_at hl 1 rfl) ?_
    refine lv_i2l hx hb dX11_falseOnes_19 rfl ?_
    refine lv_lconst (v := 0) hx hb dX11_falseOnes_20 (by decide) ?_
    refine lv_iconst (v := 1) hx hb dX11_falseOnes_21 (by decide) ?_
    refine lv_aload_n hx hb dX11_falseOnes_22 rfl (lv_at hl 0 rfl) ?_
    refine pl_get (v := .int v15_1) hx hb hts (fun w h => mT (inX11 w h)) hown hG.1 hP (hst.1 255 (by decide)) hf4 rfl 15 (by decide) (hts _ (mT wg_1351)) (fun _ h => h) rfl dX11_falseOnes_23 ?_
    refine lv_ishl hx hb dX11_falseOnes_26 ?_
    refine lv_topi (fun x9 ex9 => ?_)
    have hb10 : In x9 1 512 := ex9 ▸ In.shl (⟨by decide, by decide⟩ : In 1 1 1) hv15_1 (by decide) (by decide) (by decide) (by decide) (by decide) (by decide)
    have hsh11 : x9.toInt = 2 ^ (th 11).toNat := by rw [(shl1 (d := 9) ex9 hv15_1 (by decide)).2, hg15_1]
    refine lv_iconst (v := 2) hx hb dX11_falseOnes_27 (by decide) ?_
    refine lv_isub hx hb dX11_falseOnes_28 ?_
    refine lv_topi (fun x12 ex12 => ?_)
    have hb13 : In x12 (-1) 510 := ex12 ▸ In.sub hb10 (⟨by decide, by decide⟩ : In 2 2 2) (by decide) (by decide) (by decide) (by decide)
    have et14 : x12.toInt = x9.toInt + (-2) := In.sube ex12 hb10 (k := 2) (by decide) (by decide) (by decide)
    refine lv_i2l hx hb dX11_falseOnes_29 rfl ?_
    refine call_i (run_S (rm := rm_X11_isIn) hx hb hml hown hts (s_X11_isIn l g ad th _ _ _ (z1.toInt64) 0 (x12.toInt64) hst hT ) cS_X11_isIn wg_1581 ⟨Nat.le_of_ble_eq_true rfl, Nat.le_of_ble_eq_true rfl⟩ hG hE hA hP hD hS rfl hl.1 (As := [.long (z1.toInt64), .long 0, .long (x12.toInt64)]) (rest := []) rfl (Nat.le_of_ble_eq_true rfl) dX11_falseOnes_30 ⟨Nat.le_of_ble_eq_true rfl, Nat.le_of_ble_eq_true rfl⟩) hA hD hS (fun r15 L16 f17 H locs hp18 hP hD hS => ?_)
    obtain ⟨eL19L, eL19T, eL19R, eL19X0, eL19X1⟩ := hp18
    have eL19L : L16 = L := eL19L
    have eL19T : f17 = f3 := eL19T
    rw [eL19L, eL19T] at hP hD
    have eL19R : In r15 0 1 := eL19R
    have hii20 : r15.toInt = 0 ∨ (0 ≤ z1.toInt ∧ z1.toInt ≤ x12.toInt) := by have z := eL19X0; rw [i2l_t z1, (by decide : (0 : Int64).toInt = 0), i2l_t x12] at z; exact z
    have hii20w : ¬ r15 = 0 → In z1 0 510 := fun c => by have c2 := i32_ne c; have e0 : (0 : Int32).toInt = 0 := (by decide); obtain ⟨o1, p1⟩ := (hb13 : In _ _ _); exact ⟨by omega, by omega⟩
    refine lv_if_ne (tgt := 42) hx hb dX11_falseOnes_33 (by decide) (fun c21 => ?_) (fun c21 => ?_)
    ·
      have oc0 : (0 : Int32).toInt = 0 := by decide
      have cc22 : r15.toInt ≠ (0 : Int32).toInt := i32_ne c21
      have hb23 : In r15 1 1 := In.ne1 eL19R (⟨by decide, by decide⟩ : In 0 0 0) cc22 (by omega) (by omega)
      have hb24 : In z1 0 510 := In.both (hii20w c21) (In.full z1) (by decide) (by decide)
      refine lv_aload_n hx hb dX11_falseOnes_42 rfl (lv_at hl 0 rfl) ?_
      refine call_v (run_V (rm := rm_X11_takesUp) hx hb hml hown hts (s_X11_takesUp l g ad th _ _ _  hst hT (show (th 22) = 2126 from (by have ob10 : (0 : Int) ≤ (th 10) ∧ (th 10) ≤ 1 := (b0_10 hT :); have ob11 : (0 : Int) ≤ (th 11) ∧ (th 11) ≤ 9 := (b0_11 hT :); have ob12 : (0 : Int) ≤ (th 12) ∧ (th 12) ≤ 6 := (b0_12 hT :); have ob14 : (0 : Int) ≤ (th 14) ∧ (th 14) ≤ 511 := (b0_14 hT :); have ob15 : (0 : Int) ≤ (th 15) ∧ (th 15) ≤ 1 := (b0_15 hT :); have ob16 : (0 : Int) ≤ (th 16) ∧ (th 16) ≤ 20 := (b0_16 hT :); have ob17 : (0 : Int) ≤ (th 17) ∧ (th 17) ≤ 1 := (b0_17 hT :); have ob18 : (0 : Int) ≤ (th 18) ∧ (th 18) ≤ 18 := (b0_18 hT :); have ob38 : (0 : Int) ≤ (th 38) ∧ (th 38) ≤ 400 := (b0_38 hT :); have ob39 : (0 : Int) ≤ (th 39) ∧ (th 39) ≤ 200 := (b0_39 hT :); have ob44 : (0 : Int) ≤ (th 44) ∧ (th 44) ≤ 30 := (b0_44 hT :); obtain ⟨o0a, o0b⟩ := (hv14_1 : In _ _ _); obtain ⟨o1a, o1b⟩ := (hv15_1 : In _ _ _); obtain ⟨o2a, o2b⟩ := (hv17_1 : In _ _ _); obtain ⟨o3a, o3b⟩ := (hv20_1 : In _ _ _); obtain ⟨o4a, o4b⟩ := (hb8 : In _ _ _); obtain ⟨o5a, o5b⟩ := (hv25_1 : In _ _ _); obtain ⟨o6a, o6b⟩ := (hv36_1 : In _ _ _); obtain ⟨o7a, o7b⟩ := (hv47_1 : In _ _ _); obtain ⟨o8a, o8b⟩ := (hv48_1 : In _ _ _); obtain ⟨o9a, o9b⟩ := (hv53_1 : In _ _ _); obtain ⟨o10a, o10b⟩ := (hv55_1 : In _ _ _); omega)) (show (th 20) ≤ 18 from (by have ob10 : (0 : Int) ≤ (th 10) ∧ (th 10) ≤ 1 := (b0_10 hT :); have ob11 : (0 : Int) ≤ (th 11) ∧ (th 11) ≤ 9 := (b0_11 hT :); have ob12 : (0 : Int) ≤ (th 12) ∧ (th 12) ≤ 6 := (b0_12 hT :); have ob14 : (0 : Int) ≤ (th 14) ∧ (th 14) ≤ 511 := (b0_14 hT :); have ob15 : (0 : Int) ≤ (th 15) ∧ (th 15) ≤ 1 := (b0_15 hT :); have ob16 : (0 : Int) ≤ (th 16) ∧ (th 16) ≤ 20 := (b0_16 hT :); have ob17 : (0 : Int) ≤ (th 17) ∧ (th 17) ≤ 1 := (b0_17 hT :); have ob18 : (0 : Int) ≤ (th 18) ∧ (th 18) ≤ 18 := (b0_18 hT :); have ob38 : (0 : Int) ≤ (th 38) ∧ (th 38) ≤ 400 := (b0_38 hT :); have ob39 : (0 : Int) ≤ (th 39) ∧ (th 39) ≤ 200 := (b0_39 hT :); have ob44 : (0 : Int) ≤ (th 44) ∧ (th 44) ≤ 30 := (b0_44 hT :); obtain ⟨o0a, o0b⟩ := (hv14_1 : In _ _ _); obtain ⟨o1a, o1b⟩ := (hv15_1 : In _ _ _); obtain ⟨o2a, o2b⟩ := (hv17_1 : In _ _ _); obtain ⟨o3a, o3b⟩ := (hv20_1 : In _ _ _); obtain ⟨o4a, o4b⟩ := (hb8 : In _ _ _); obtain ⟨o5a, o5b⟩ := (hv25_1 : In _ _ _); obtain ⟨o6a, o6b⟩ := (hv36_1 : In _ _ _); obtain ⟨o7a, o7b⟩ := (hv47_1 : In _ _ _); obtain ⟨o8a, o8b⟩ := (hv48_1 : In _ _ _); obtain ⟨o9a, o9b⟩ := (hv53_1 : In _ _ _); obtain ⟨o10a, o10b⟩ := (hv55_1 : In _ _ _); omega)) (show (th 21) = (th 11) from (by have ob10 : (0 : Int) ≤ (th 10) ∧ (th 10) ≤ 1 := (b0_10 hT :); have ob11 : (0 : Int) ≤ (th 11) ∧ (th 11) ≤ 9 := (b0_11 hT :); have ob12 : (0 : Int) ≤ (th 12) ∧ (th 12) ≤ 6 := (b0_12 hT :); have ob14 : (0 : Int) ≤ (th 14) ∧ (th 14) ≤ 511 := (b0_14 hT :); have ob15 : (0 : Int) ≤ (th 15) ∧ (th 15) ≤ 1 := (b0_15 hT :); have ob16 : (0 : Int) ≤ (th 16) ∧ (th 16) ≤ 20 := (b0_16 hT :); have ob17 : (0 : Int) ≤ (th 17) ∧ (th 17) ≤ 1 := (b0_17 hT :); have ob18 : (0 : Int) ≤ (th 18) ∧ (th 18) ≤ 18 := (b0_18 hT :); have ob38 : (0 : Int) ≤ (th 38) ∧ (th 38) ≤ 400 := (b0_38 hT :); have ob39 : (0 : Int) ≤ (th 39) ∧ (th 39) ≤ 200 := (b0_39 hT :); have ob44 : (0 : Int) ≤ (th 44) ∧ (th 44) ≤ 30 := (b0_44 hT :); obtain ⟨o0a, o0b⟩ := (hv14_1 : In _ _ _); obtain ⟨o1a, o1b⟩ := (hv15_1 : In _ _ _); obtain ⟨o2a, o2b⟩ := (hv17_1 : In _ _ _); obtain ⟨o3a, o3b⟩ := (hv20_1 : In _ _ _); obtain ⟨o4a, o4b⟩ := (hb8 : In _ _ _); obtain ⟨o5a, o5b⟩ := (hv25_1 : In _ _ _); obtain ⟨o6a, o6b⟩ := (hv36_1 : In _ _ _); obtain ⟨o7a, o7b⟩ := (hv47_1 : In _ _ _); obtain ⟨o8a, o8b⟩ := (hv48_1 : In _ _ _); obtain ⟨o9a, o9b⟩ := (hv53_1 : In _ _ _); obtain ⟨o10a, o10b⟩ := (hv55_1 : In _ _ _); omega))) cV_X11_takesUp wg_1648 ⟨Nat.le_of_ble_eq_true rfl, Nat.le_of_ble_eq_true rfl⟩ hG hE hA hP hD hS (hst.1 255 (by decide)) hf4 rfl rfl hl.1 (As := []) (rest := []) rfl (Nat.le_of_ble_eq_true rfl) dX11_falseOnes_43 ⟨Nat.le_of_ble_eq_true rfl, Nat.le_of_ble_eq_true rfl⟩) hA hD hS (fun L26 f27 H locs hp28 hP hD hS => ?_)
      obtain ⟨eL29L, eL29T, eL29F⟩ := hp28
      have eL29L : L26 = L := eL29L
      rw [eL29L] at hP hD
      obtain ⟨zz30, zz31, hzz30, eL29T⟩ := eL29T
      have hzz30 : ((zz30 = (th 19) ∧ 0 ≤ zz30 ∧ zz30 ≤ (th 20)) ∧ (0 ≤ zz31 ∧ zz31 ≤ 511)) ∧ capI zz31 ((th 11)) := hzz30
      have hT : TI g ad (gset (gset th 18 zz30) 14 zz31) f27 := eL29T
      have eL29F : ∀ b, b ≠ (ad 255) → b ≠ (ad 265) → b ≠ (ad 266) → b ≠ (ad 267) → b ≠ (ad 269) → b ≠ (ad 260) → b ≠ (ad 261) → b ≠ (ad 262) → b ≠ (ad 263) → b ≠ (ad 264) → f27 b = f3 b := eL29F
      refine lv_aload_n hx hb dX11_falseOnes_46 rfl (lv_at hl 0 rfl) ?_
      refine M0e hT (fun v0_32 v2_32 v3_32 v4_32 v5_32 v6_32 v8_32 v9_32 v12_32 v13_32 v14_32 v15_32 v16_32 v17_32 v18_32 v19_32 v20_32 v21_32 v22_32 v23_32 v25_32 v36_32 v37_32 v38_32 v39_32 v40_32 v45_32 v46_32 v47_32 v48_32 v50_32 v51_32 v53_32 v55_32 hf33 hv0_32 hv2_32 hg2_32 hv3_32 hg3_32 hv4_32 hg4_32 hv5_32 hg5_32 hv6_32 hg6_32 hv8_32 hg8_32 hv9_32 hg9_32 hv12_32 hv13_32 hg13_32 hv14_32 hg14_32 hv15_32 hg15_32 hv17_32 hg17_32 hv20_32 hg20_32 hv23_32 hg23_32 hv25_32 hg25_32 hv36_32 hg36_32 hv47_32 hg47_32 hv48_32 hg48_32 hv53_32 hg53_32 hv55_32 hg55_32 hrel0_32 => ?_)
      have hg2_32 : v2_32.toInt = th 13 := hg2_32
      have hg3_32 : v3_32.toInt = th 37 := hg3_32
      have hg4_32 : v4_32.toInt = th 42 := hg4_32
      have hg5_32 : v5_32.toInt = th 40 := hg5_32
      have hg6_32 : v6_32.toInt = th 41 := hg6_32
      have hg8_32 : v8_32.toInt = th 43 := hg8_32
      have hg9_32 : v9_32.toInt = th 35 := hg9_32
      have hg13_32 : v13_32.toInt = th 36 := hg13_32
      have hg14_32 : v14_32.toInt = th 10 := hg14_32
      have hg15_32 : v15_32.toInt = th 11 := hg15_32
      have hg17_32 : v17_32.toInt = th 12 := hg17_32
      have hg20_32 : v20_32.toInt = zz31 := hg20_32
      have hg23_32 : v23_32.toInt = th 15 := hg23_32
      have hg25_32 : v25_32.toInt = th 44 := hg25_32
      have hg36_32 : v36_32.toInt = zz30 := hg36_32
      have hg47_32 : v47_32.toInt = th 16 := hg47_32
      have hg48_32 : v48_32.toInt = th 17 := hg48_32
      have hg53_32 : v53_32.toInt = th 38 := hg53_32
      have hg55_32 : v55_32.toInt = th 39 := hg55_32
      refine pl_get (v := .int v36_32) hx hb hts (fun w h => mT (inX11 w h)) hown hG.1 hP (hst.1 255 (by decide)) hf33 rfl 36 (by decide) (hts _ (mT wg_1372)) (fun _ h => h) rfl dX11_falseOnes_47 ?_
      refine lv_if_le (tgt := 59) hx hb dX11_falseOnes_50 (by decide) (fun c34 => ?_) (fun c34 => ?_)
      ·
        have oc0 : (0 : Int32).toInt = 0 := by decide
        have cc35 : v36_32.toInt ≤ (0 : Int32).toInt := i32_le.mp c34
        have hb36 : In v36_32 0 0 := In.le1 hv36_32 (⟨by decide, by decide⟩ : In 0 0 0) cc35 (by omega) (by omega)
        refine lv_aload_n hx hb dX11_falseOnes_59 rfl (lv_at hl 0 rfl) ?_
        refine call_v (run_V (rm := rm_X11_keeps) hx hb hml hown hts (s_X11_keeps l g ad (gset (gset th 18 zz30) 14 zz31) _ _ _  hst hT (show MI (gset (gset th 18 zz30) 14 zz31) from ⟨m1, m2, (show th 20 = (th 12) * rnd (th 10) from m3), m4, m5, m6, m7, m8, m9, m10⟩)) cV_X11_keeps wg_1644 ⟨Nat.le_of_ble_eq_true rfl, Nat.le_of_ble_eq_true rfl⟩ hG hE hA hP hD hS (hst.1 255 (by decide)) hf33 rfl rfl hl.1 (As := []) (rest := []) rfl (Nat.le_of_ble_eq_true rfl) dX11_falseOnes_60 ⟨Nat.le_of_ble_eq_true rfl, Nat.le_of_ble_eq_true rfl⟩) hA hD hS (fun L38 f39 H locs hp40 hP hD hS => ?_)
        obtain ⟨eL41L, eL41T, eL41F⟩ := hp40
        have eL41L : L38 = L := eL41L
        rw [eL41L] at hP hD
        obtain ⟨zz42, zz43, hzz42, eL41T⟩ := eL41T
        have hzz42 : (1 ≤ zz42 ∧ zz42 ≤ 20) ∧ zz43 = 2126 * zz42 := hzz42
        have hT : TI g ad (gset (gset (gset (gset th 18 zz30) 14 zz31) 16 zz42) 24 zz43) f39 := eL41T
        have eL41F : ∀ b, b ≠ (ad 255) → b ≠ (ad 273) → b ≠ (ad 274) → f39 b = f27 b := eL41F
        refine lv_aload_n hx hb dX11_falseOnes_63 rfl (lv_at hl 0 rfl) ?_
        refine M0e hT (fun v0_44 v2_44 v3_44 v4_44 v5_44 v6_44 v8_44 v9_44 v12_44 v13_44 v14_44 v15_44 v16_44 v17_44 v18_44 v19_44 v20_44 v21_44 v22_44 v23_44 v25_44 v36_44 v37_44 v38_44 v39_44 v40_44 v45_44 v46_44 v47_44 v48_44 v50_44 v51_44 v53_44 v55_44 hf45 hv0_44 hv2_44 hg2_44 hv3_44 hg3_44 hv4_44 hg4_44 hv5_44 hg5_44 hv6_44 hg6_44 hv8_44 hg8_44 hv9_44 hg9_44 hv12_44 hv13_44 hg13_44 hv14_44 hg14_44 hv15_44 hg15_44 hv17_44 hg17_44 hv20_44 hg20_44 hv23_44 hg23_44 hv25_44 hg25_44 hv36_44 hg36_44 hv47_44 hg47_44 hv48_44 hg48_44 hv53_44 hg53_44 hv55_44 hg55_44 hrel0_44 => ?_)
        have hg2_44 : v2_44.toInt = th 13 := hg2_44
        have hg3_44 : v3_44.toInt = th 37 := hg3_44
        have hg4_44 : v4_44.toInt = th 42 := hg4_44
        have hg5_44 : v5_44.toInt = th 40 := hg5_44
        have hg6_44 : v6_44.toInt = th 41 := hg6_44
        have hg8_44 : v8_44.toInt = th 43 := hg8_44
        have hg9_44 : v9_44.toInt = th 35 := hg9_44
        have hg13_44 : v13_44.toInt = th 36 := hg13_44
        have hg14_44 : v14_44.toInt = th 10 := hg14_44
        have hg15_44 : v15_44.toInt = th 11 := hg15_44
        have hg17_44 : v17_44.toInt = th 12 := hg17_44
        have hg20_44 : v20_44.toInt = zz31 := hg20_44
        have hg23_44 : v23_44.toInt = th 15 := hg23_44
        have hg25_44 : v25_44.toInt = th 44 := hg25_44
        have hg36_44 : v36_44.toInt = zz30 := hg36_44
        have hg47_44 : v47_44.toInt = zz42 := hg47_44
        have hg48_44 : v48_44.toInt = th 17 := hg48_44
        have hg53_44 : v53_44.toInt = th 38 := hg53_44
        have hg55_44 : v55_44.toInt = th 39 := hg55_44
        refine pl_get (v := .int v20_44) hx hb hts (fun w h => mT (inX11 w h)) hown hG.1 hP (hst.1 255 (by decide)) hf45 rfl 20 (by decide) (hts _ (mT wg_1356)) (fun _ h => h) rfl dX11_falseOnes_64 ?_
        refine lv_istore_n (lv' := [(2, .int v20_44), (0, .ref (ad 255)), (1, .int z1)]) hx hb dX11_falseOnes_67 rfl hl (by decide) rfl (fun ls hl => ?_)
        refine lv_aload_n hx hb dX11_falseOnes_68 rfl (lv_at hl 1 rfl) ?_
        refine lv_iload_n hx hb dX11_falseOnes_69 rfl (lv_at hl 2 rfl) ?_
        refine pl_put (ty := .int) (v := .int z1) (fs' := [.int v0_44, .ref (ad 256), .int v2_44, .int v3_44, .int v4_44, .int v5_44, .int v6_44, .ref (ad 257), .int v8_44, .int v9_44, .ref (ad 258), .ref (ad 259), .int v12_44, .int v13_44, .int v14_44, .int v15_44, .int v16_44, .int v17_44, .int v18_44, .int v19_44, .int z1, .long v21_44, .long v22_44, .int v23_44, .ref (ad 260), .int v25_44, .ref (ad 261), .ref (ad 262), .ref (ad 263), .ref (ad 264), .ref (ad 265), .ref (ad 266), .ref (ad 267), .ref (ad 268), .ref (ad 269), .ref (ad 270), .int v36_44, .int v37_44, .int v38_44, .int v39_44, .int v40_44, .ref (ad 271), .ref (ad 272), .ref (ad 273), .ref (ad 274), .long v45_44, .long v46_44, .int v47_44, .int v48_44, .ref (ad 275), .int v50_44, .int v51_44, .ref (ad 276), .int v53_44, .ref (ad 277), .int v55_44]) hx hb hts (fun w h => mT (inX11 w h)) tyX11 tyX11_ok nmX11 hown hG.1 hP hD hS (hst.1 255 (by decide)) hf45 rfl 20 (by decide) (hts _ (mT wg_1356)) (fun _ h => h) rfl (by decide +kernel) (rfl) (rfl) (Nat.le_of_ble_eq_true rfl) rfl dX11_falseOnes_70 (fun H locs f46 hf47 ho48 hP hD hS => ?_)
        refine lv_iconst (v := 0) hx hb dX11_falseOnes_73 (by decide) ?_
        refine lv_istore_n (lv' := [(3, .int 0), (2, .int v20_44), (0, .ref (ad 255)), (1, .int z1)]) hx hb dX11_falseOnes_74 rfl hl (by decide) rfl (fun ls hl => ?_)
        refine lv_iconst (v := 0) hx hb dX11_falseOnes_75 (by decide) ?_
        refine lv_istore (lv' := [(4, .int 0), (3, .int 0), (2, .int v20_44), (0, .ref (ad 255)), (1, .int z1)]) hx hb dX11_falseOnes_76 hl (by decide) rfl (fun ls hl => ?_)
        have hT := TI.updMG (th' := (gset (gset (gset (gset (gset th 18 zz30) 14 zz31) 16 zz42) 24 zz43) 14 (z1.toInt))) hT hst (k := 0) (by decide) hf47 ho48 ⟨v0_44, v2_44, v3_44, v4_44, v5_44, v6_44, v8_44, v9_44, v12_44, v13_44, v14_44, v15_44, v16_44, v17_44, v18_44, v19_44, z1, v21_44, v22_44, v23_44, v25_44, v36_44, v37_44, v38_44, v39_44, v40_44, v45_44, v46_44, v47_44, v48_44, v50_44, v51_44, v53_44, v55_44, rfl, hv0_44, hv2_44, hg2_44, hv3_44, hg3_44, hv4_44, hg4_44, hv5_44, hg5_44, hv6_44, hg6_44, hv8_44, hg8_44, hv9_44, hg9_44, hv12_44, hv13_44, hg13_44, hv14_44, hg14_44, hv15_44, hg15_44, hv17_44, hg17_44, (In.mono hb24 (by decide) (by decide)), rfl, hv23_44, hg23_44, hv25_44, hg25_44, hv36_44, hg36_44, hv47_44, hg47_44, hv48_44, hg48_44, hv53_44, hg53_44, hv55_44, hg55_44, (by rw [hg15_44]; exact Or.inr (by have ob10 : (0 : Int) ≤ (th 10) ∧ (th 10) ≤ 1 := (b0_10 hT :); have ob11 : (0 : Int) ≤ (th 11) ∧ (th 11) ≤ 9 := (b0_11 hT :); have ob12 : (0 : Int) ≤ (th 12) ∧ (th 12) ≤ 6 := (b0_12 hT :); have ob14 : (0 : Int) ≤ zz31 ∧ zz31 ≤ 511 := (b0_14 hT :); have ob15 : (0 : Int) ≤ (th 15) ∧ (th 15) ≤ 1 := (b0_15 hT :); have ob16 : (0 : Int) ≤ zz42 ∧ zz42 ≤ 20 := (b0_16 hT :); have ob17 : (0 : Int) ≤ (th 17) ∧ (th 17) ≤ 1 := (b0_17 hT :); have ob18 : (0 : Int) ≤ zz30 ∧ zz30 ≤ 18 := (b0_18 hT :); have ob38 : (0 : Int) ≤ (th 38) ∧ (th 38) ≤ 400 := (b0_38 hT :); have ob39 : (0 : Int) ≤ (th 39) ∧ (th 39) ≤ 200 := (b0_39 hT :); have ob44 : (0 : Int) ≤ (th 44) ∧ (th 44) ≤ 30 := (b0_44 hT :); obtain ⟨o0a, o0b⟩ := (hb24 : In _ _ _); obtain ⟨o1a, o1b⟩ := (hv14_44 : In _ _ _); obtain ⟨o2a, o2b⟩ := (hv15_44 : In _ _ _); obtain ⟨o3a, o3b⟩ := (hv17_44 : In _ _ _); obtain ⟨o4a, o4b⟩ := (hv23_44 : In _ _ _); obtain ⟨o5a, o5b⟩ := (hv25_44 : In _ _ _); obtain ⟨o6a, o6b⟩ := (hv36_44 : In _ _ _); obtain ⟨o7a, o7b⟩ := (hv47_44 : In _ _ _); obtain ⟨o8a, o8b⟩ := (hv48_44 : In _ _ _); obtain ⟨o9a, o9b⟩ := (hv53_44 : In _ _ _); obtain ⟨o10a, o10b⟩ := (hv55_44 : In _ _ _); omega))⟩ (fun q hq => ((gset_ne (fun e => hq (by subst e; decide))).trans rfl))
        have hT : TI g ad (gset (gset (gset (gset th 18 zz30) 16 zz42) 24 zz43) 14 z1.toInt) f46 := TI.cast hT (by funext q; by_cases hq0 : q = 14; (subst hq0; rfl); by_cases hq1 : q = 24; (subst hq1; rfl); by_cases hq2 : q = 16; (subst hq2; rfl); by_cases hq3 : q = 18; (subst hq3; rfl); simp only [gset, if_neg hq0, if_neg hq1, if_neg hq2, if_neg hq3])
        have hJ78 : ∀ (k78 : Nat) (y78_l3 : Int32) (y78_l4 : Int32) (f_78 : HP) (H : Heap) (locs : List Loc) (ls : Array Slot), In y78_l3 0 30 → In y78_l4 0 30 → va_P g.1 vwCl (va_pl L f_78) H → va_D A (va_pl L f_78) → va_S A s.heap H locs → TI g ad (gset (gset (gset (gset th 18 zz30) 16 zz42) 24 zz43) 14 z1.toInt) f_78 → (y78_l3.toInt ≤ y78_l4.toInt ∧ 0 ≤ y78_l3.toInt) → lv_has ls 6 [(0, .ref (ad 255)), (1, .int z1), (2, .int v20_44), (3, .int y78_l3), (4, .int y78_l4)] → 30 - y78_l4.toInt < ((k78 : Nat) : Int) → W p l e rm_X11_falseOnes s m [.ref (ad 255), .int z1].toArray below meth c H locs 0 0 (MQ below (va_Qi (po_X11_falseOnes g ad th L f z1) (PstB g A) A) [.ref (ad 255), .int z1].toArray s rm_X11_falseOnes.cells rm_X11_falseOnes.slots A) (F0 m 78 ls []) := by
          intro k78
          induction k78 with
          | zero =>
            intro y78_l3 y78_l4 f_78 H locs ls hy78_l3 hy78_l4 hP hD hS hT hinv78_0 hl hmz78
            exact ms0 hy78_l4 hmz78
          | succ k78 ih78 =>
            intro y78_l3 y78_l4 f_78 H locs ls hy78_l3 hy78_l4 hP hD hS hT hinv78_0 hl hmz78
            refine lv_iload hx hb dX11_falseOnes_78 (lv_at hl 4 rfl) ?_
            refine lv_aload_n hx hb dX11_falseOnes_80 rfl (lv_at hl 0 rfl) ?_
            refine M0e hT (fun v0_49 v2_49 v3_49 v4_49 v5_49 v6_49 v8_49 v9_49 v12_49 v13_49 v14_49 v15_49 v16_49 v17_49 v18_49 v19_49 v20_49 v21_49 v22_49 v23_49 v25_49 v36_49 v37_49 v38_49 v39_49 v40_49 v45_49 v46_49 v47_49 v48_49 v50_49 v51_49 v53_49 v55_49 hf50 hv0_49 hv2_49 hg2_49 hv3_49 hg3_49 hv4_49 hg4_49 hv5_49 hg5_49 hv6_49 hg6_49 hv8_49 hg8_49 hv9_49 hg9_49 hv12_49 hv13_49 hg13_49 hv14_49 hg14_49 hv15_49 hg15_49 hv17_49 hg17_49 hv20_49 hg20_49 hv23_49 hg23_49 hv25_49 hg25_49 hv36_49 hg36_49 hv47_49 hg47_49 hv48_49 hg48_49 hv53_49 hg53_49 hv55_49 hg55_49 hrel0_49 => ?_)
            have hg2_49 : v2_49.toInt = th 13 := hg2_49
            have hg3_49 : v3_49.toInt = th 37 := hg3_49
            have hg4_49 : v4_49.toInt = th 42 := hg4_49
            have hg5_49 : v5_49.toInt = th 40 := hg5_49
            have hg6_49 : v6_49.toInt = th 41 := hg6_49
            have hg8_49 : v8_49.toInt = th 43 := hg8_49
            have hg9_49 : v9_49.toInt = th 35 := hg9_49
            have hg13_49 : v13_49.toInt = th 36 := hg13_49
            have hg14_49 : v14_49.toInt = th 10 := hg14_49
            have hg15_49 : v15_49.toInt = th 11 := hg15_49
            have hg17_49 : v17_49.toInt = th 12 := hg17_49
            have hg20_49 : v20_49.toInt = z1.toInt := hg20_49
            have hg23_49 : v23_49.toInt = th 15 := hg23_49
            have hg25_49 : v25_49.toInt = th 44 := hg25_49
            have hg36_49 : v36_49.toInt = zz30 := hg36_49
            have hg47_49 : v47_49.toInt = zz42 := hg47_49
            have hg48_49 : v48_49.toInt = th 17 := hg48_49
            have hg53_49 : v53_49.toInt = th 38 := hg53_49
            have hg55_49 : v55_49.toInt = th 39 := hg55_49
            refine pl_get (v := .int v25_49) hx hb hts (fun w h => mT (inX11 w h)) hown hG.1 hP (hst.1 255 (by decide)) hf50 rfl 25 (by decide) (hts _ (mT wg_1361)) (fun _ h => h) rfl dX11_falseOnes_81 ?_
            refine lv_icmp_ge (tgt := 155) hx hb dX11_falseOnes_84 (by decide) (fun c51 => ?_) (fun c51 => ?_)
            ·
              have cc52 : v25_49.toInt ≤ y78_l4.toInt := i32_le.mp c51
              refine lv_aload_n hx hb dX11_falseOnes_155 rfl (lv_at hl 0 rfl) ?_
              refine lv_iload_n hx hb dX11_falseOnes_156 rfl (lv_at hl 3 rfl) ?_
              refine pl_put (ty := .int) (v := .int y78_l3) (fs' := [.int v0_49, .ref (ad 256), .int v2_49, .int v3_49, .int v4_49, .int v5_49, .int v6_49, .ref (ad 257), .int v8_49, .int v9_49, .ref (ad 258), .ref (ad 259), .int v12_49, .int v13_49, .int v14_49, .int v15_49, .int v16_49, .int v17_49, .int v18_49, .int v19_49, .int v20_49, .long v21_49, .long v22_49, .int v23_49, .ref (ad 260), .int y78_l3, .ref (ad 261), .ref (ad 262), .ref (ad 263), .ref (ad 264), .ref (ad 265), .ref (ad 266), .ref (ad 267), .ref (ad 268), .ref (ad 269), .ref (ad 270), .int v36_49, .int v37_49, .int v38_49, .int v39_49, .int v40_49, .ref (ad 271), .ref (ad 272), .ref (ad 273), .ref (ad 274), .long v45_49, .long v46_49, .int v47_49, .int v48_49, .ref (ad 275), .int v50_49, .int v51_49, .ref (ad 276), .int v53_49, .ref (ad 277), .int v55_49]) hx hb hts (fun w h => mT (inX11 w h)) tyX11 tyX11_ok nmX11 hown hG.1 hP hD hS (hst.1 255 (by decide)) hf50 rfl 25 (by decide) (hts _ (mT wg_1361)) (fun _ h => h) rfl (by decide +kernel) (rfl) (rfl) (Nat.le_of_ble_eq_true rfl) rfl dX11_falseOnes_157 (fun H locs f53 hf54 ho55 hP hD hS => ?_)
              refine lv_aload_n hx hb dX11_falseOnes_160 rfl (lv_at hl 0 rfl) ?_
              have hT := TI.updMG (th' := (gset (gset (gset (gset (gset th 18 zz30) 16 zz42) 24 zz43) 14 z1.toInt) 44 (y78_l3.toInt))) hT hst (k := 0) (by decide) hf54 ho55 ⟨v0_49, v2_49, v3_49, v4_49, v5_49, v6_49, v8_49, v9_49, v12_49, v13_49, v14_49, v15_49, v16_49, v17_49, v18_49, v19_49, v20_49, v21_49, v22_49, v23_49, y78_l3, v36_49, v37_49, v38_49, v39_49, v40_49, v45_49, v46_49, v47_49, v48_49, v50_49, v51_49, v53_49, v55_49, rfl, hv0_49, hv2_49, hg2_49, hv3_49, hg3_49, hv4_49, hg4_49, hv5_49, hg5_49, hv6_49, hg6_49, hv8_49, hg8_49, hv9_49, hg9_49, hv12_49, hv13_49, hg13_49, hv14_49, hg14_49, hv15_49, hg15_49, hv17_49, hg17_49, hv20_49, hg20_49, hv23_49, hg23_49, hy78_l3, rfl, hv36_49, hg36_49, hv47_49, hg47_49, hv48_49, hg48_49, hv53_49, hg53_49, hv55_49, hg55_49, hrel0_49⟩ (fun q hq => ((gset_ne (fun e => hq (by subst e; decide))).trans rfl))
              have hT : TI g ad (gset (gset (gset (gset (gset th 18 zz30) 16 zz42) 24 zz43) 14 z1.toInt) 44 y78_l3.toInt) f53 := TI.cast hT (by funext q; by_cases hq0 : q = 44; (subst hq0; rfl); by_cases hq1 : q = 14; (subst hq1; rfl); by_cases hq2 : q = 24; (subst hq2; rfl); by_cases hq3 : q = 16; (subst hq3; rfl); by_cases hq4 : q = 18; (subst hq4; rfl); simp only [gset, if_neg hq0, if_neg hq1, if_neg hq2, if_neg hq3, if_neg hq4])
              refine M0e hT (fun v0_56 v2_56 v3_56 v4_56 v5_56 v6_56 v8_56 v9_56 v12_56 v13_56 v14_56 v15_56 v16_56 v17_56 v18_56 v19_56 v20_56 v21_56 v22_56 v23_56 v25_56 v36_56 v37_56 v38_56 v39_56 v40_56 v45_56 v46_56 v47_56 v48_56 v50_56 v51_56 v53_56 v55_56 hf57 hv0_56 hv2_56 hg2_56 hv3_56 hg3_56 hv4_56 hg4_56 hv5_56 hg5_56 hv6_56 hg6_56 hv8_56 hg8_56 hv9_56 hg9_56 hv12_56 hv13_56 hg13_56 hv14_56 hg14_56 hv15_56 hg15_56 hv17_56 hg17_56 hv20_56 hg20_56 hv23_56 hg23_56 hv25_56 hg25_56 hv36_56 hg36_56 hv47_56 hg47_56 hv48_56 hg48_56 hv53_56 hg53_56 hv55_56 hg55_56 hrel0_56 => ?_)
              have hg2_56 : v2_56.toInt = th 13 := hg2_56
              have hg3_56 : v3_56.toInt = th 37 := hg3_56
              have hg4_56 : v4_56.toInt = th 42 := hg4_56
              have hg5_56 : v5_56.toInt = th 40 := hg5_56
              have hg6_56 : v6_56.toInt = th 41 := hg6_56
              have hg8_56 : v8_56.toInt = th 43 := hg8_56
              have hg9_56 : v9_56.toInt = th 35 := hg9_56
              have hg13_56 : v13_56.toInt = th 36 := hg13_56
              have hg14_56 : v14_56.toInt = th 10 := hg14_56
              have hg15_56 : v15_56.toInt = th 11 := hg15_56
              have hg17_56 : v17_56.toInt = th 12 := hg17_56
              have hg20_56 : v20_56.toInt = z1.toInt := hg20_56
              have hg23_56 : v23_56.toInt = th 15 := hg23_56
              have hg25_56 : v25_56.toInt = y78_l3.toInt := hg25_56
              have hg36_56 : v36_56.toInt = zz30 := hg36_56
              have hg47_56 : v47_56.toInt = zz42 := hg47_56
              have hg48_56 : v48_56.toInt = th 17 := hg48_56
              have hg53_56 : v53_56.toInt = th 38 := hg53_56
              have hg55_56 : v55_56.toInt = th 39 := hg55_56
              refine call_v (run_V (rm := rm_X11_laysDown) hx hb hml hown hts (s_X11_laysDown l g ad (gset (gset (gset (gset (gset th 18 zz30) 16 zz42) 24 zz43) 14 z1.toInt) 44 y78_l3.toInt) _ _ _  hst hT (show zz30 ≤ (th 20) from (by have ob10 : (0 : Int) ≤ (th 10) ∧ (th 10) ≤ 1 := (b0_10 hT :); have ob11 : (0 : Int) ≤ (th 11) ∧ (th 11) ≤ 9 := (b0_11 hT :); have ob12 : (0 : Int) ≤ (th 12) ∧ (th 12) ≤ 6 := (b0_12 hT :); have ob14 : (0 : Int) ≤ z1.toInt ∧ z1.toInt ≤ 511 := (b0_14 hT :); have ob15 : (0 : Int) ≤ (th 15) ∧ (th 15) ≤ 1 := (b0_15 hT :); have ob16 : (0 : Int) ≤ zz42 ∧ zz42 ≤ 20 := (b0_16 hT :); have ob17 : (0 : Int) ≤ (th 17) ∧ (th 17) ≤ 1 := (b0_17 hT :); have ob18 : (0 : Int) ≤ zz30 ∧ zz30 ≤ 18 := (b0_18 hT :); have ob38 : (0 : Int) ≤ (th 38) ∧ (th 38) ≤ 400 := (b0_38 hT :); have ob39 : (0 : Int) ≤ (th 39) ∧ (th 39) ≤ 200 := (b0_39 hT :); have ob44 : (0 : Int) ≤ y78_l3.toInt ∧ y78_l3.toInt ≤ 30 := (b0_44 hT :); obtain ⟨o0a, o0b⟩ := (hv14_56 : In _ _ _); obtain ⟨o1a, o1b⟩ := (hv15_56 : In _ _ _); obtain ⟨o2a, o2b⟩ := (hv17_56 : In _ _ _); obtain ⟨o3a, o3b⟩ := (hv20_56 : In _ _ _); obtain ⟨o4a, o4b⟩ := (hv23_56 : In _ _ _); obtain ⟨o5a, o5b⟩ := (hv25_56 : In _ _ _); obtain ⟨o6a, o6b⟩ := (hv36_56 : In _ _ _); obtain ⟨o7a, o7b⟩ := (hv47_56 : In _ _ _); obtain ⟨o8a, o8b⟩ := (hv48_56 : In _ _ _); obtain ⟨o9a, o9b⟩ := (hv53_56 : In _ _ _); obtain ⟨o10a, o10b⟩ := (hv55_56 : In _ _ _); omega)) (show (th 11) = (th 21) from (by have ob10 : (0 : Int) ≤ (th 10) ∧ (th 10) ≤ 1 := (b0_10 hT :); have ob11 : (0 : Int) ≤ (th 11) ∧ (th 11) ≤ 9 := (b0_11 hT :); have ob12 : (0 : Int) ≤ (th 12) ∧ (th 12) ≤ 6 := (b0_12 hT :); have ob14 : (0 : Int) ≤ z1.toInt ∧ z1.toInt ≤ 511 := (b0_14 hT :); have ob15 : (0 : Int) ≤ (th 15) ∧ (th 15) ≤ 1 := (b0_15 hT :); have ob16 : (0 : Int) ≤ zz42 ∧ zz42 ≤ 20 := (b0_16 hT :); have ob17 : (0 : Int) ≤ (th 17) ∧ (th 17) ≤ 1 := (b0_17 hT :); have ob18 : (0 : Int) ≤ zz30 ∧ zz30 ≤ 18 := (b0_18 hT :); have ob38 : (0 : Int) ≤ (th 38) ∧ (th 38) ≤ 400 := (b0_38 hT :); have ob39 : (0 : Int) ≤ (th 39) ∧ (th 39) ≤ 200 := (b0_39 hT :); have ob44 : (0 : Int) ≤ y78_l3.toInt ∧ y78_l3.toInt ≤ 30 := (b0_44 hT :); obtain ⟨o0a, o0b⟩ := (hv14_56 : In _ _ _); obtain ⟨o1a, o1b⟩ := (hv15_56 : In _ _ _); obtain ⟨o2a, o2b⟩ := (hv17_56 : In _ _ _); obtain ⟨o3a, o3b⟩ := (hv20_56 : In _ _ _); obtain ⟨o4a, o4b⟩ := (hv23_56 : In _ _ _); obtain ⟨o5a, o5b⟩ := (hv25_56 : In _ _ _); obtain ⟨o6a, o6b⟩ := (hv36_56 : In _ _ _); obtain ⟨o7a, o7b⟩ := (hv47_56 : In _ _ _); obtain ⟨o8a, o8b⟩ := (hv48_56 : In _ _ _); obtain ⟨o9a, o9b⟩ := (hv53_56 : In _ _ _); obtain ⟨o10a, o10b⟩ := (hv55_56 : In _ _ _); omega))) cV_X11_laysDown wg_1620 ⟨Nat.le_of_ble_eq_true rfl, Nat.le_of_ble_eq_true rfl⟩ hG hE hA hP hD hS (hst.1 255 (by decide)) hf57 rfl rfl hl.1 (As := []) (rest := []) rfl (Nat.le_of_ble_eq_true rfl) dX11_falseOnes_161 ⟨Nat.le_of_ble_eq_true rfl, Nat.le_of_ble_eq_true rfl⟩) hA hD hS (fun L59 f60 H locs hp61 hP hD hS => ?_)
              obtain ⟨eL62L, eL62T, eL62F⟩ := hp61
              have eL62L : L59 = L := eL62L
              rw [eL62L] at hP hD
              obtain ⟨zz63, zz64, hzz63, eL62T⟩ := eL62T
              have hzz63 : zz63 = zz30 ∧ zz64 = 2126 := hzz63
              have hT : TI g ad (gset (gset (gset (gset (gset (gset (gset th 18 zz30) 16 zz42) 24 zz43) 14 z1.toInt) 44 y78_l3.toInt) 19 zz63) 22 zz64) f60 := eL62T
              have eL62F : ∀ b, b ≠ (ad 255) → b ≠ (ad 271) → f60 b = f53 b := eL62F
              refine lv_iload_n hx hb dX11_falseOnes_164 rfl (lv_at hl 2 rfl) ?_
              exact ret_i (ty := .int) hx hb hr hlocks (rfl) hP hD hS (Nat.le_of_ble_eq_true rfl) (Nat.le_of_ble_eq_true rfl) (⟨rfl, ⟨(gset (gset (gset (gset (gset (gset (gset th 18 zz30) 16 zz42) 24 zz43) 14 z1.toInt) 44 y78_l3.toInt) 19 zz63) 22 zz64), ⟨(show MI (gset (gset (gset (gset (gset (gset (gset th 18 zz30) 16 zz42) 24 zz43) 14 z1.toInt) 44 y78_l3.toInt) 19 zz63) 22 zz64) from ⟨m1, m2, (show th 20 = (th 12) * rnd (th 10) from m3), m4, (show zz64 = 2126 by omega), m6, (show zz43 = 2126 * zz42 by omega), (show 0 ≤ zz42 ∧ zz42 ≤ 20 by omega), (show 0 ≤ zz63 ∧ zz63 ≤ th 20 by omega), m10⟩), (SBM.set (k := 22) (SBM.set (k := 19) (SBM.set (k := 44) (SBM.set (k := 14) (SBM.set (k := 24) (SBM.set (k := 16) (SBM.set (k := 18) (SBM.rf th) (by decide)) (by decide)) (by decide)) (by decide)) (by decide)) (by decide)) (by decide))⟩, hT⟩⟩) dX11_falseOnes_165
            ·
              have cc65 : y78_l4.toInt < v25_49.toInt := i32_nle c51
              have hb66 : In y78_l4 0 29 := In.lt1 hy78_l4 hv25_49 cc65 (by omega) (by omega)
              have hb67 : In v25_49 1 30 := In.lt2 hy78_l4 hv25_49 cc65 (by omega) (by omega)
              refine lv_iload_n hx hb dX11_falseOnes_87 rfl (lv_at hl 1 rfl) ?_
              refine lv_aload_n hx hb dX11_falseOnes_88 rfl (lv_at hl 0 rfl) ?_
              refine pl_get (v := .ref (ad 260)) hx hb hts (fun w h => mT (inX11 w h)) hown hG.1 hP (hst.1 255 (by decide)) hf50 rfl 24 (by decide) (hts _ (mT wg_1360)) (fun _ h => h) rfl dX11_falseOnes_89 ?_
              refine lv_iconst (v := 5) hx hb dX11_falseOnes_92 (by decide) ?_
              refine lv_iload hx hb dX11_falseOnes_93 (lv_at hl 4 rfl) ?_
              refine lv_imul hx hb dX11_falseOnes_95 ?_
              refine lv_topi (fun x68 ex68 => ?_)
              have hb69 : In x68 0 145 := ex68 ▸ In.mul (⟨by decide, by decide⟩ : In 5 5 5) hb66 (by decide) (by decide) (by decide) (by decide) (by decide)
              have et70 : x68.toInt = 5 * y78_l4.toInt := In.mule ex68 (⟨by decide, by decide⟩ : In 5 5 5) hb66 (by decide) (by decide) (by decide) (by decide) rfl
              refine lv_iconst (v := 2) hx hb dX11_falseOnes_96 (by decide) ?_
              refine lv_iadd hx hb dX11_falseOnes_97 ?_
              refine lv_topi (fun x71 ex71 => ?_)
              have hb72 : In x71 2 147 := ex71 ▸ In.add hb69 (⟨by decide, by decide⟩ : In 2 2 2) (by decide) (by decide) (by decide) (by decide)
              have et73 : x71.toInt = x68.toInt + 2 := In.adde ex71 hb69 (k := 2) (by decide) (by decide) (by decide)
              obtain ⟨rw74, hf75⟩ := hT.2.2 5 (by decide)
              have hin76 : vp_in x71 150 := In.inb hb72 (by decide) (by decide)
              refine pl_iald hx hb hG.1 hP (hst.1 260 (by decide)) 0 hf75 rfl hin76 dX11_falseOnes_98 ?_
              refine lv_topi (fun x77 ex77 => ?_)
              refine call_i (run_S (rm := rm_X11_has) hx hb hml hown hts (s_X11_has l g ad (gset (gset (gset (gset th 18 zz30) 16 zz42) 24 zz43) 14 z1.toInt) _ _ _ z1 x77 hst hT ) cS_X11_has wg_1563 ⟨Nat.le_of_ble_eq_true rfl, Nat.le_of_ble_eq_true rfl⟩ hG hE hA hP hD hS rfl hl.1 (As := [.int z1, .int x77]) (rest := []) rfl (Nat.le_of_ble_eq_true rfl) dX11_falseOnes_99 ⟨Nat.le_of_ble_eq_true rfl, Nat.le_of_ble_eq_true rfl⟩) hA hD hS (fun r78 L79 f80 H locs hp81 hP hD hS => ?_)
              obtain ⟨eL82L, eL82T, eL82R, eL82X0⟩ := hp81
              have eL82L : L79 = L := eL82L
              have eL82T : f80 = f_78 := eL82T
              rw [eL82L, eL82T] at hP hD
              have eL82R : In r78 0 1 := eL82R
              have hJ149 : ∀ (y149_l3 : Int32) (f_149 : HP) (H : Heap) (locs : List Loc) (ls : Array Slot), In y149_l3 0 32 → va_P g.1 vwCl (va_pl L f_149) H → va_D A (va_pl L f_149) → va_S A s.heap H locs → TI g ad (gset (gset (gset (gset th 18 zz30) 16 zz42) 24 zz43) 14 z1.toInt) f_149 → f_149 (ad 255) = .inr (10, [.int v0_49, .ref (ad 256), .int v2_49, .int v3_49, .int v4_49, .int v5_49, .int v6_49, .ref (ad 257), .int v8_49, .int v9_49, .ref (ad 258), .ref (ad 259), .int v12_49, .int v13_49, .int v14_49, .int v15_49, .int v16_49, .int v17_49, .int v18_49, .int v19_49, .int v20_49, .long v21_49, .long v22_49, .int v23_49, .ref (ad 260), .int v25_49, .ref (ad 261), .ref (ad 262), .ref (ad 263), .ref (ad 264), .ref (ad 265), .ref (ad 266), .ref (ad 267), .ref (ad 268), .ref (ad 269), .ref (ad 270), .int v36_49, .int v37_49, .int v38_49, .int v39_49, .int v40_49, .ref (ad 271), .ref (ad 272), .ref (ad 273), .ref (ad 274), .long v45_49, .long v46_49, .int v47_49, .int v48_49, .ref (ad 275), .int v50_49, .int v51_49, .ref (ad 276), .int v53_49, .ref (ad 277), .int v55_49]) → (y149_l3.toInt ≤ y78_l4.toInt + 1 ∧ 0 ≤ y149_l3.toInt) → lv_has ls 6 [(0, .ref (ad 255)), (1, .int z1), (2, .int v20_44), (3, .int y149_l3), (4, .int y78_l4)] → W p l e rm_X11_falseOnes s m [.ref (ad 255), .int z1].toArray below meth c H locs 0 0 (MQ below (va_Qi (po_X11_falseOnes g ad th L f z1) (PstB g A) A) [.ref (ad 255), .int z1].toArray s rm_X11_falseOnes.cells rm_X11_falseOnes.slots A) (F0 m 149 ls []) := by
                intro y149_l3 f_149 H locs ls hy149_l3 hP hD hS hT hf83 hinv149_0 hl
                obtain ⟨x84, ex84⟩ : ∃ y : Int32, y = y78_l4 + 1 := ⟨_, rfl⟩
                have hb85 : In x84 1 30 := ex84 ▸ In.add hb66 (⟨by decide, by decide⟩ : In 1 1 1) (by decide) (by decide) (by decide) (by decide)
                have et86 : x84.toInt = y78_l4.toInt + 1 := In.adde ex84 hb66 (k := 1) (by decide) (by decide) (by decide)
                refine lv_iinc (v := x84) (lv' := [(4, .int x84), (0, .ref (ad 255)), (1, .int z1), (2, .int v20_44), (3, .int y149_l3)]) hx hb dX11_falseOnes_149 hl (k := 4) rfl (by rw [ex84]; rfl) (by decide) rfl (fun ls hl => ?_)
                refine lv_goto (tgt := 78) hx hb dX11_falseOnes_152 (by decide) ?_
                exact ih78 y149_l3 x84 _ _ _ _ (In.mk (by have ob10 : (0 : Int) ≤ (th 10) ∧ (th 10) ≤ 1 := (b0_10 hT :); have ob11 : (0 : Int) ≤ (th 11) ∧ (th 11) ≤ 9 := (b0_11 hT :); have ob12 : (0 : Int) ≤ (th 12) ∧ (th 12) ≤ 6 := (b0_12 hT :); have ob14 : (0 : Int) ≤ z1.toInt ∧ z1.toInt ≤ 511 := (b0_14 hT :); have ob15 : (0 : Int) ≤ (th 15) ∧ (th 15) ≤ 1 := (b0_15 hT :); have ob16 : (0 : Int) ≤ zz42 ∧ zz42 ≤ 20 := (b0_16 hT :); have ob17 : (0 : Int) ≤ (th 17) ∧ (th 17) ≤ 1 := (b0_17 hT :); have ob18 : (0 : Int) ≤ zz30 ∧ zz30 ≤ 18 := (b0_18 hT :); have ob38 : (0 : Int) ≤ (th 38) ∧ (th 38) ≤ 400 := (b0_38 hT :); have ob39 : (0 : Int) ≤ (th 39) ∧ (th 39) ≤ 200 := (b0_39 hT :); have ob44 : (0 : Int) ≤ (th 44) ∧ (th 44) ≤ 30 := (b0_44 hT :); obtain ⟨o0a, o0b⟩ := (hy149_l3 : In _ _ _); obtain ⟨o1a, o1b⟩ := (hv14_49 : In _ _ _); obtain ⟨o2a, o2b⟩ := (hv15_49 : In _ _ _); obtain ⟨o3a, o3b⟩ := (hv17_49 : In _ _ _); obtain ⟨o4a, o4b⟩ := (hv20_49 : In _ _ _); obtain ⟨o5a, o5b⟩ := (hv23_49 : In _ _ _); obtain ⟨o6a, o6b⟩ := (hb67 : In _ _ _); obtain ⟨o7a, o7b⟩ := (hv36_49 : In _ _ _); obtain ⟨o8a, o8b⟩ := (hv47_49 : In _ _ _); obtain ⟨o9a, o9b⟩ := (hv48_49 : In _ _ _); obtain ⟨o10a, o10b⟩ := (hv53_49 : In _ _ _); obtain ⟨o11a, o11b⟩ := (hv55_49 : In _ _ _); obtain ⟨o12a, o12b⟩ := (hb66 : In _ _ _); obtain ⟨o13a, o13b⟩ := (hy78_l3 : In _ _ _); omega) (by have ob10 : (0 : Int) ≤ (th 10) ∧ (th 10) ≤ 1 := (b0_10 hT :); have ob11 : (0 : Int) ≤ (th 11) ∧ (th 11) ≤ 9 := (b0_11 hT :); have ob12 : (0 : Int) ≤ (th 12) ∧ (th 12) ≤ 6 := (b0_12 hT :); have ob14 : (0 : Int) ≤ z1.toInt ∧ z1.toInt ≤ 511 := (b0_14 hT :); have ob15 : (0 : Int) ≤ (th 15) ∧ (th 15) ≤ 1 := (b0_15 hT :); have ob16 : (0 : Int) ≤ zz42 ∧ zz42 ≤ 20 := (b0_16 hT :); have ob17 : (0 : Int) ≤ (th 17) ∧ (th 17) ≤ 1 := (b0_17 hT :); have ob18 : (0 : Int) ≤ zz30 ∧ zz30 ≤ 18 := (b0_18 hT :); have ob38 : (0 : Int) ≤ (th 38) ∧ (th 38) ≤ 400 := (b0_38 hT :); have ob39 : (0 : Int) ≤ (th 39) ∧ (th 39) ≤ 200 := (b0_39 hT :); have ob44 : (0 : Int) ≤ (th 44) ∧ (th 44) ≤ 30 := (b0_44 hT :); obtain ⟨o0a, o0b⟩ := (hy149_l3 : In _ _ _); obtain ⟨o1a, o1b⟩ := (hv14_49 : In _ _ _); obtain ⟨o2a, o2b⟩ := (hv15_49 : In _ _ _); obtain ⟨o3a, o3b⟩ := (hv17_49 : In _ _ _); obtain ⟨o4a, o4b⟩ := (hv20_49 : In _ _ _); obtain ⟨o5a, o5b⟩ := (hv23_49 : In _ _ _); obtain ⟨o6a, o6b⟩ := (hb67 : In _ _ _); obtain ⟨o7a, o7b⟩ := (hv36_49 : In _ _ _); obtain ⟨o8a, o8b⟩ := (hv47_49 : In _ _ _); obtain ⟨o9a, o9b⟩ := (hv48_49 : In _ _ _); obtain ⟨o10a, o10b⟩ := (hv53_49 : In _ _ _); obtain ⟨o11a, o11b⟩ := (hv55_49 : In _ _ _); obtain ⟨o12a, o12b⟩ := (hb66 : In _ _ _); obtain ⟨o13a, o13b⟩ := (hy78_l3 : In _ _ _); omega)) (In.mono hb85 (by decide) (by decide)) hP hD hS hT (by have ob10 : (0 : Int) ≤ (th 10) ∧ (th 10) ≤ 1 := (b0_10 hT :); have ob11 : (0 : Int) ≤ (th 11) ∧ (th 11) ≤ 9 := (b0_11 hT :); have ob12 : (0 : Int) ≤ (th 12) ∧ (th 12) ≤ 6 := (b0_12 hT :); have ob14 : (0 : Int) ≤ z1.toInt ∧ z1.toInt ≤ 511 := (b0_14 hT :); have ob15 : (0 : Int) ≤ (th 15) ∧ (th 15) ≤ 1 := (b0_15 hT :); have ob16 : (0 : Int) ≤ zz42 ∧ zz42 ≤ 20 := (b0_16 hT :); have ob17 : (0 : Int) ≤ (th 17) ∧ (th 17) ≤ 1 := (b0_17 hT :); have ob18 : (0 : Int) ≤ zz30 ∧ zz30 ≤ 18 := (b0_18 hT :); have ob38 : (0 : Int) ≤ (th 38) ∧ (th 38) ≤ 400 := (b0_38 hT :); have ob39 : (0 : Int) ≤ (th 39) ∧ (th 39) ≤ 200 := (b0_39 hT :); have ob44 : (0 : Int) ≤ (th 44) ∧ (th 44) ≤ 30 := (b0_44 hT :); obtain ⟨o0a, o0b⟩ := (hy149_l3 : In _ _ _); obtain ⟨o1a, o1b⟩ := (hb85 : In _ _ _); obtain ⟨o2a, o2b⟩ := (hv14_49 : In _ _ _); obtain ⟨o3a, o3b⟩ := (hv15_49 : In _ _ _); obtain ⟨o4a, o4b⟩ := (hv17_49 : In _ _ _); obtain ⟨o5a, o5b⟩ := (hv20_49 : In _ _ _); obtain ⟨o6a, o6b⟩ := (hv23_49 : In _ _ _); obtain ⟨o7a, o7b⟩ := (hb67 : In _ _ _); obtain ⟨o8a, o8b⟩ := (hv36_49 : In _ _ _); obtain ⟨o9a, o9b⟩ := (hv47_49 : In _ _ _); obtain ⟨o10a, o10b⟩ := (hv48_49 : In _ _ _); obtain ⟨o11a, o11b⟩ := (hv53_49 : In _ _ _); obtain ⟨o12a, o12b⟩ := (hv55_49 : In _ _ _); obtain ⟨o13a, o13b⟩ := (hb66 : In _ _ _); obtain ⟨o14a, o14b⟩ := (hy78_l3 : In _ _ _); omega) (lv_sub hl [1, 2, 3, 4, 0] rfl) (msu et86 (by decide) hmz78)
              refine lv_if_ne (tgt := 108) hx hb dX11_falseOnes_102 (by decide) (fun c87 => ?_) (fun c87 => ?_)
              ·
                have oc0 : (0 : Int32).toInt = 0 := by decide
                have cc88 : r78.toInt ≠ (0 : Int32).toInt := i32_ne c87
                have hb89 : In r78 1 1 := In.ne1 eL82R (⟨by decide, by decide⟩ : In 0 0 0) cc88 (by omega) (by omega)
                refine lv_iconst (v := 0) hx hb dX11_falseOnes_108 (by decide) ?_
                refine lv_istore (lv' := [(5, .int 0), (0, .ref (ad 255)), (1, .int z1), (2, .int v20_44), (3, .int y78_l3), (4, .int y78_l4)]) hx hb dX11_falseOnes_109 hl (by decide) rfl (fun ls hl => ?_)
                have hJ111 : ∀ (k111 : Nat) (y111_l5 : Int32) (f_111 : HP) (H : Heap) (locs : List Loc) (ls : Array Slot), In y111_l5 0 5 → va_P g.1 vwCl (va_pl L f_111) H → va_D A (va_pl L f_111) → va_S A s.heap H locs → TI g ad (gset (gset (gset (gset th 18 zz30) 16 zz42) 24 zz43) 14 z1.toInt) f_111 → f_111 (ad 255) = .inr (10, [.int v0_49, .ref (ad 256), .int v2_49, .int v3_49, .int v4_49, .int v5_49, .int v6_49, .ref (ad 257), .int v8_49, .int v9_49, .ref (ad 258), .ref (ad 259), .int v12_49, .int v13_49, .int v14_49, .int v15_49, .int v16_49, .int v17_49, .int v18_49, .int v19_49, .int v20_49, .long v21_49, .long v22_49, .int v23_49, .ref (ad 260), .int v25_49, .ref (ad 261), .ref (ad 262), .ref (ad 263), .ref (ad 264), .ref (ad 265), .ref (ad 266), .ref (ad 267), .ref (ad 268), .ref (ad 269), .ref (ad 270), .int v36_49, .int v37_49, .int v38_49, .int v39_49, .int v40_49, .ref (ad 271), .ref (ad 272), .ref (ad 273), .ref (ad 274), .long v45_49, .long v46_49, .int v47_49, .int v48_49, .ref (ad 275), .int v50_49, .int v51_49, .ref (ad 276), .int v53_49, .ref (ad 277), .int v55_49]) → lv_has ls 6 [(0, .ref (ad 255)), (1, .int z1), (2, .int v20_44), (3, .int y78_l3), (4, .int y78_l4), (5, .int y111_l5)] → 5 - y111_l5.toInt < ((k111 : Nat) : Int) → W p l e rm_X11_falseOnes s m [.ref (ad 255), .int z1].toArray below meth c H locs 0 0 (MQ below (va_Qi (po_X11_falseOnes g ad th L f z1) (PstB g A) A) [.ref (ad 255), .int z1].toArray s rm_X11_falseOnes.cells rm_X11_falseOnes.slots A) (F0 m 111 ls []) := by
                  intro k111
                  induction k111 with
                  | zero =>
                    intro y111_l5 f_111 H locs ls hy111_l5 hP hD hS hT hf90 hl hmz111
                    exact ms0 hy111_l5 hmz111
                  | succ k111 ih111 =>
                    intro y111_l5 f_111 H locs ls hy111_l5 hP hD hS hT hf90 hl hmz111
                    refine lv_iload hx hb dX11_falseOnes_111 (lv_at hl 5 rfl) ?_
                    refine lv_iconst (v := 5) hx hb dX11_falseOnes_113 (by decide) ?_
                    refine lv_icmp_ge (tgt := 146) hx hb dX11_falseOnes_114 (by decide) (fun c91 => ?_) (fun c91 => ?_)
                    ·
                      have oc5 : (5 : Int32).toInt = 5 := by decide
                      have cc92 : (5 : Int32).toInt ≤ y111_l5.toInt := i32_le.mp c91
                      have hb93 : In y111_l5 5 5 := In.ge1 hy111_l5 (⟨by decide, by decide⟩ : In 5 5 5) cc92 (by omega) (by omega)
                      obtain ⟨x94, ex94⟩ : ∃ y : Int32, y = y78_l3 + 1 := ⟨_, rfl⟩
                      have hb95 : In x94 1 31 := ex94 ▸ In.add hy78_l3 (⟨by decide, by decide⟩ : In 1 1 1) (by decide) (by decide) (by decide) (by decide)
                      have et96 : x94.toInt = y78_l3.toInt + 1 := In.adde ex94 hy78_l3 (k := 1) (by decide) (by decide) (by decide)
                      refine lv_iinc (v := x94) (lv' := [(3, .int x94), (0, .ref (ad 255)), (1, .int z1), (2, .int v20_44), (4, .int y78_l4), (5, .int y111_l5)]) hx hb dX11_falseOnes_146 hl (k := 3) rfl (by rw [ex94]; rfl) (by decide) rfl (fun ls hl => ?_)
                      exact hJ149 x94 _ _ _ _ (In.mono hb95 (by decide) (by decide)) hP hD hS hT hf90 (by have ob10 : (0 : Int) ≤ (th 10) ∧ (th 10) ≤ 1 := (b0_10 hT :); have ob11 : (0 : Int) ≤ (th 11) ∧ (th 11) ≤ 9 := (b0_11 hT :); have ob12 : (0 : Int) ≤ (th 12) ∧ (th 12) ≤ 6 := (b0_12 hT :); have ob14 : (0 : Int) ≤ z1.toInt ∧ z1.toInt ≤ 511 := (b0_14 hT :); have ob15 : (0 : Int) ≤ (th 15) ∧ (th 15) ≤ 1 := (b0_15 hT :); have ob16 : (0 : Int) ≤ zz42 ∧ zz42 ≤ 20 := (b0_16 hT :); have ob17 : (0 : Int) ≤ (th 17) ∧ (th 17) ≤ 1 := (b0_17 hT :); have ob18 : (0 : Int) ≤ zz30 ∧ zz30 ≤ 18 := (b0_18 hT :); have ob38 : (0 : Int) ≤ (th 38) ∧ (th 38) ≤ 400 := (b0_38 hT :); have ob39 : (0 : Int) ≤ (th 39) ∧ (th 39) ≤ 200 := (b0_39 hT :); have ob44 : (0 : Int) ≤ (th 44) ∧ (th 44) ≤ 30 := (b0_44 hT :); obtain ⟨o0a, o0b⟩ := (hb95 : In _ _ _); obtain ⟨o1a, o1b⟩ := (hb66 : In _ _ _); obtain ⟨o2a, o2b⟩ := (hv14_49 : In _ _ _); obtain ⟨o3a, o3b⟩ := (hv15_49 : In _ _ _); obtain ⟨o4a, o4b⟩ := (hv17_49 : In _ _ _); obtain ⟨o5a, o5b⟩ := (hv20_49 : In _ _ _); obtain ⟨o6a, o6b⟩ := (hv23_49 : In _ _ _); obtain ⟨o7a, o7b⟩ := (hb67 : In _ _ _); obtain ⟨o8a, o8b⟩ := (hv36_49 : In _ _ _); obtain ⟨o9a, o9b⟩ := (hv47_49 : In _ _ _); obtain ⟨o10a, o10b⟩ := (hv48_49 : In _ _ _); obtain ⟨o11a, o11b⟩ := (hv53_49 : In _ _ _); obtain ⟨o12a, o12b⟩ := (hv55_49 : In _ _ _); obtain ⟨o13a, o13b⟩ := (hy78_l3 : In _ _ _); omega) (lv_sub hl [1, 2, 3, 0, 4] rfl)
                    ·
                      have oc5 : (5 : Int32).toInt = 5 := by decide
                      have cc97 : y111_l5.toInt < (5 : Int32).toInt := i32_nle c91
                      have hb98 : In y111_l5 0 4 := In.lt1 hy111_l5 (⟨by decide, by decide⟩ : In 5 5 5) cc97 (by omega) (by omega)
                      refine lv_aload_n hx hb dX11_falseOnes_117 rfl (lv_at hl 0 rfl) ?_
                      refine pl_get (v := .ref (ad 260)) hx hb hts (fun w h => mT (inX11 w h)) hown hG.1 hP (hst.1 255 (by decide)) hf90 rfl 24 (by decide) (hts _ (mT wg_1360)) (fun _ h => h) rfl dX11_falseOnes_118 ?_
                      refine lv_iconst (v := 5) hx hb dX11_falseOnes_121 (by decide) ?_
                      refine lv_iload_n hx hb dX11_falseOnes_122 rfl (lv_at hl 3 rfl) ?_
                      refine lv_imul hx hb dX11_falseOnes_123 ?_
                      refine lv_topi (fun x99 ex99 => ?_)
                      have hb100 : In x99 0 150 := ex99 ▸ In.mul (⟨by decide, by decide⟩ : In 5 5 5) hy78_l3 (by decide) (by decide) (by decide) (by decide) (by decide)
                      have et101 : x99.toInt = 5 * y78_l3.toInt := In.mule ex99 (⟨by decide, by decide⟩ : In 5 5 5) hy78_l3 (by decide) (by decide) (by decide) (by decide) rfl
                      refine lv_iload hx hb dX11_falseOnes_124 (lv_at hl 5 rfl) ?_
                      refine lv_iadd hx hb dX11_falseOnes_126 ?_
                      refine lv_topi (fun x102 ex102 => ?_)
                      have hb103 : In x102 0 154 := ex102 ▸ In.add hb100 hb98 (by decide) (by decide) (by decide) (by decide)
                      have et104 : x102.toInt = x99.toInt + y111_l5.toInt := In.add2e ex102 hb100 hb98 (by decide) (by decide)
                      refine lv_aload_n hx hb dX11_falseOnes_127 rfl (lv_at hl 0 rfl) ?_
                      refine pl_get (v := .ref (ad 260)) hx hb hts (fun w h => mT (inX11 w h)) hown hG.1 hP (hst.1 255 (by decide)) hf90 rfl 24 (by decide) (hts _ (mT wg_1360)) (fun _ h => h) rfl dX11_falseOnes_128 ?_
                      refine lv_iconst (v := 5) hx hb dX11_falseOnes_131 (by decide) ?_
                      refine lv_iload hx hb dX11_falseOnes_132 (lv_at hl 4 rfl) ?_
                      refine lv_imul hx hb dX11_falseOnes_134 ?_
                      refine lv_topi (fun x105 ex105 => ?_)
                      obtain rfl : x68 = x105 := ex68.trans ex105.symm
                      refine lv_iload hx hb dX11_falseOnes_135 (lv_at hl 5 rfl) ?_
                      refine lv_iadd hx hb dX11_falseOnes_137 ?_
                      refine lv_topi (fun x106 ex106 => ?_)
                      have hb107 : In x106 0 149 := ex106 ▸ In.add hb69 hb98 (by decide) (by decide) (by decide) (by decide)
                      have et108 : x106.toInt = x68.toInt + y111_l5.toInt := In.add2e ex106 hb69 hb98 (by decide) (by decide)
                      obtain ⟨rw109, hf110⟩ := hT.2.2 5 (by decide)
                      have hin111 : vp_in x106 150 := In.inb hb107 (by decide) (by decide)
                      refine pl_iald hx hb hG.1 hP (hst.1 260 (by decide)) 0 hf110 rfl hin111 dX11_falseOnes_138 ?_
                      refine lv_topi (fun x112 ex112 => ?_)
                      refine pl_iastE hx hb hG.1 hP hD hS (hst.1 260 (by decide)) 0 hf110 rfl (vp_of (by have ob10 : (0 : Int) ≤ (th 10) ∧ (th 10) ≤ 1 := (b0_10 hT :); have ob11 : (0 : Int) ≤ (th 11) ∧ (th 11) ≤ 9 := (b0_11 hT :); have ob12 : (0 : Int) ≤ (th 12) ∧ (th 12) ≤ 6 := (b0_12 hT :); have ob14 : (0 : Int) ≤ z1.toInt ∧ z1.toInt ≤ 511 := (b0_14 hT :); have ob15 : (0 : Int) ≤ (th 15) ∧ (th 15) ≤ 1 := (b0_15 hT :); have ob16 : (0 : Int) ≤ zz42 ∧ zz42 ≤ 20 := (b0_16 hT :); have ob17 : (0 : Int) ≤ (th 17) ∧ (th 17) ≤ 1 := (b0_17 hT :); have ob18 : (0 : Int) ≤ zz30 ∧ zz30 ≤ 18 := (b0_18 hT :); have ob38 : (0 : Int) ≤ (th 38) ∧ (th 38) ≤ 400 := (b0_38 hT :); have ob39 : (0 : Int) ≤ (th 39) ∧ (th 39) ≤ 200 := (b0_39 hT :); have ob44 : (0 : Int) ≤ (th 44) ∧ (th 44) ≤ 30 := (b0_44 hT :); obtain ⟨o0a, o0b⟩ := (hb103 : In _ _ _); obtain ⟨o1a, o1b⟩ := (hv14_49 : In _ _ _); obtain ⟨o2a, o2b⟩ := (hv15_49 : In _ _ _); obtain ⟨o3a, o3b⟩ := (hv17_49 : In _ _ _); obtain ⟨o4a, o4b⟩ := (hv20_49 : In _ _ _); obtain ⟨o5a, o5b⟩ := (hv23_49 : In _ _ _); obtain ⟨o6a, o6b⟩ := (hb67 : In _ _ _); obtain ⟨o7a, o7b⟩ := (hv36_49 : In _ _ _); obtain ⟨o8a, o8b⟩ := (hv47_49 : In _ _ _); obtain ⟨o9a, o9b⟩ := (hv48_49 : In _ _ _); obtain ⟨o10a, o10b⟩ := (hv53_49 : In _ _ _); obtain ⟨o11a, o11b⟩ := (hv55_49 : In _ _ _); obtain ⟨o12a, o12b⟩ := (hb100 : In _ _ _); obtain ⟨o13a, o13b⟩ := (hb98 : In _ _ _); obtain ⟨o14a, o14b⟩ := (hb66 : In _ _ _); obtain ⟨o15a, o15b⟩ := (hy78_l3 : In _ _ _); omega) (by have ob10 : (0 : Int) ≤ (th 10) ∧ (th 10) ≤ 1 := (b0_10 hT :); have ob11 : (0 : Int) ≤ (th 11) ∧ (th 11) ≤ 9 := (b0_11 hT :); have ob12 : (0 : Int) ≤ (th 12) ∧ (th 12) ≤ 6 := (b0_12 hT :); have ob14 : (0 : Int) ≤ z1.toInt ∧ z1.toInt ≤ 511 := (b0_14 hT :); have ob15 : (0 : Int) ≤ (th 15) ∧ (th 15) ≤ 1 := (b0_15 hT :); have ob16 : (0 : Int) ≤ zz42 ∧ zz42 ≤ 20 := (b0_16 hT :); have ob17 : (0 : Int) ≤ (th 17) ∧ (th 17) ≤ 1 := (b0_17 hT :); have ob18 : (0 : Int) ≤ zz30 ∧ zz30 ≤ 18 := (b0_18 hT :); have ob38 : (0 : Int) ≤ (th 38) ∧ (th 38) ≤ 400 := (b0_38 hT :); have ob39 : (0 : Int) ≤ (th 39) ∧ (th 39) ≤ 200 := (b0_39 hT :); have ob44 : (0 : Int) ≤ (th 44) ∧ (th 44) ≤ 30 := (b0_44 hT :); obtain ⟨o0a, o0b⟩ := (hb103 : In _ _ _); obtain ⟨o1a, o1b⟩ := (hv14_49 : In _ _ _); obtain ⟨o2a, o2b⟩ := (hv15_49 : In _ _ _); obtain ⟨o3a, o3b⟩ := (hv17_49 : In _ _ _); obtain ⟨o4a, o4b⟩ := (hv20_49 : In _ _ _); obtain ⟨o5a, o5b⟩ := (hv23_49 : In _ _ _); obtain ⟨o6a, o6b⟩ := (hb67 : In _ _ _); obtain ⟨o7a, o7b⟩ := (hv36_49 : In _ _ _); obtain ⟨o8a, o8b⟩ := (hv47_49 : In _ _ _); obtain ⟨o9a, o9b⟩ := (hv48_49 : In _ _ _); obtain ⟨o10a, o10b⟩ := (hv53_49 : In _ _ _); obtain ⟨o11a, o11b⟩ := (hv55_49 : In _ _ _); obtain ⟨o12a, o12b⟩ := (hb100 : In _ _ _); obtain ⟨o13a, o13b⟩ := (hb98 : In _ _ _); obtain ⟨o14a, o14b⟩ := (hb66 : In _ _ _); obtain ⟨o15a, o15b⟩ := (hy78_l3 : In _ _ _); omega)) dX11_falseOnes_139 (fun H locs f113 r116 er116 hf114 ho115 hP hD hS => ?_)
                      have hf117 := (ho115 (ad 255) (hst.ne (by decide) (by decide) (by decide))).trans hf90
                      obtain ⟨x118, ex118⟩ : ∃ y : Int32, y = y111_l5 + 1 := ⟨_, rfl⟩
                      have hb119 : In x118 1 5 := ex118 ▸ In.add hb98 (⟨by decide, by decide⟩ : In 1 1 1) (by decide) (by decide) (by decide) (by decide)
                      have et120 : x118.toInt = y111_l5.toInt + 1 := In.adde ex118 hb98 (k := 1) (by decide) (by decide) (by decide)
                      refine lv_iinc (v := x118) (lv' := [(5, .int x118), (0, .ref (ad 255)), (1, .int z1), (2, .int v20_44), (3, .int y78_l3), (4, .int y78_l4)]) hx hb dX11_falseOnes_140 hl (k := 5) rfl (by rw [ex118]; rfl) (by decide) rfl (fun ls hl => ?_)
                      have hT := TI.updM hT hst (k := 5) (by decide) hf114 ho115 ⟨r116, rfl⟩
                      refine lv_goto (tgt := 111) hx hb dX11_falseOnes_143 (by decide) ?_
                      exact ih111 x118 _ _ _ _ (In.mono hb119 (by decide) (by decide)) hP hD hS hT hf117 (lv_sub hl [1, 2, 3, 4, 5, 0] rfl) (msu et120 (by decide) hmz111)
                exact hJ111 ((5 - (0 : Int32).toInt).toNat + 1) 0 _ _ _ _ (⟨by decide, by decide⟩ : In 0 0 5) hP hD hS hT hf50 (lv_sub hl [1, 2, 3, 4, 5, 0] rfl) (msI _)
              ·
                have oc0 : (0 : Int32).toInt = 0 := by decide
                have cc121 : r78.toInt = (0 : Int32).toInt := congrArg Int32.toInt c87
                have hb122 : In r78 0 0 := In.eq1 eL82R (⟨by decide, by decide⟩ : In 0 0 0) cc121 (by omega) (by omega)
                refine lv_goto (tgt := 149) hx hb dX11_falseOnes_105 (by decide) ?_
                exact hJ149 y78_l3 _ _ _ _ (In.mono hy78_l3 (by decide) (by decide)) hP hD hS hT hf50 (by have ob10 : (0 : Int) ≤ (th 10) ∧ (th 10) ≤ 1 := (b0_10 hT :); have ob11 : (0 : Int) ≤ (th 11) ∧ (th 11) ≤ 9 := (b0_11 hT :); have ob12 : (0 : Int) ≤ (th 12) ∧ (th 12) ≤ 6 := (b0_12 hT :); have ob14 : (0 : Int) ≤ z1.toInt ∧ z1.toInt ≤ 511 := (b0_14 hT :); have ob15 : (0 : Int) ≤ (th 15) ∧ (th 15) ≤ 1 := (b0_15 hT :); have ob16 : (0 : Int) ≤ zz42 ∧ zz42 ≤ 20 := (b0_16 hT :); have ob17 : (0 : Int) ≤ (th 17) ∧ (th 17) ≤ 1 := (b0_17 hT :); have ob18 : (0 : Int) ≤ zz30 ∧ zz30 ≤ 18 := (b0_18 hT :); have ob38 : (0 : Int) ≤ (th 38) ∧ (th 38) ≤ 400 := (b0_38 hT :); have ob39 : (0 : Int) ≤ (th 39) ∧ (th 39) ≤ 200 := (b0_39 hT :); have ob44 : (0 : Int) ≤ (th 44) ∧ (th 44) ≤ 30 := (b0_44 hT :); obtain ⟨o0a, o0b⟩ := (hy78_l3 : In _ _ _); obtain ⟨o1a, o1b⟩ := (hb66 : In _ _ _); obtain ⟨o2a, o2b⟩ := (hv14_49 : In _ _ _); obtain ⟨o3a, o3b⟩ := (hv15_49 : In _ _ _); obtain ⟨o4a, o4b⟩ := (hv17_49 : In _ _ _); obtain ⟨o5a, o5b⟩ := (hv20_49 : In _ _ _); obtain ⟨o6a, o6b⟩ := (hv23_49 : In _ _ _); obtain ⟨o7a, o7b⟩ := (hb67 : In _ _ _); obtain ⟨o8a, o8b⟩ := (hv36_49 : In _ _ _); obtain ⟨o9a, o9b⟩ := (hv47_49 : In _ _ _); obtain ⟨o10a, o10b⟩ := (hv48_49 : In _ _ _); obtain ⟨o11a, o11b⟩ := (hv53_49 : In _ _ _); obtain ⟨o12a, o12b⟩ := (hv55_49 : In _ _ _); omega) (lv_sub hl [0, 1, 2, 3, 4] rfl)
        exact hJ78 ((30 - (0 : Int32).toInt).toNat + 1) 0 0 _ _ _ _ (⟨by decide, by decide⟩ : In 0 0 30) (⟨by decide, by decide⟩ : In 0 0 30) hP hD hS hT (by have ob10 : (0 : Int) ≤ (th 10) ∧ (th 10) ≤ 1 := (b0_10 hT :); have ob11 : (0 : Int) ≤ (th 11) ∧ (th 11) ≤ 9 := (b0_11 hT :); have ob12 : (0 : Int) ≤ (th 12) ∧ (th 12) ≤ 6 := (b0_12 hT :); have ob14 : (0 : Int) ≤ z1.toInt ∧ z1.toInt ≤ 511 := (b0_14 hT :); have ob15 : (0 : Int) ≤ (th 15) ∧ (th 15) ≤ 1 := (b0_15 hT :); have ob16 : (0 : Int) ≤ zz42 ∧ zz42 ≤ 20 := (b0_16 hT :); have ob17 : (0 : Int) ≤ (th 17) ∧ (th 17) ≤ 1 := (b0_17 hT :); have ob18 : (0 : Int) ≤ zz30 ∧ zz30 ≤ 18 := (b0_18 hT :); have ob38 : (0 : Int) ≤ (th 38) ∧ (th 38) ≤ 400 := (b0_38 hT :); have ob39 : (0 : Int) ≤ (th 39) ∧ (th 39) ≤ 200 := (b0_39 hT :); have ob44 : (0 : Int) ≤ (th 44) ∧ (th 44) ≤ 30 := (b0_44 hT :); have oc0 : (0 : Int32).toInt = 0 := (by decide); obtain ⟨o1a, o1b⟩ := (hb8 : In _ _ _); obtain ⟨o2a, o2b⟩ := (hb23 : In _ _ _); obtain ⟨o3a, o3b⟩ := (hb36 : In _ _ _); omega) (lv_sub hl [3, 4, 2, 1, 0] rfl) (msI _)
      ·
        have oc0 : (0 : Int32).toInt = 0 := by decide
        have cc123 : (0 : Int32).toInt < v36_32.toInt := i32_nle c34
        have hb124 : In v36_32 1 18 := In.gt1 hv36_32 (⟨by decide, by decide⟩ : In 0 0 0) cc123 (by omega) (by omega)
        refine lv_aload_n hx hb dX11_falseOnes_53 rfl (lv_at hl 0 rfl) ?_
        refine lv_iconst (v := 3) hx hb dX11_falseOnes_54 (by decide) ?_
        refine call_i (run_V (rm := rm_X11_refuse) hx hb hml hown hts (s_X11_refuse l g ad (gset (gset th 18 zz30) 14 zz31) _ _ _ 3 hst hT (⟨by decide, by decide⟩ : In 3 0 4)) cV_X11_refuse wg_1710 ⟨Nat.le_of_ble_eq_true rfl, Nat.le_of_ble_eq_true rfl⟩ hG hE hA hP hD hS (hst.1 255 (by decide)) hf33 rfl rfl hl.1 (As := [.int 3]) (rest := []) rfl (Nat.le_of_ble_eq_true rfl) dX11_falseOnes_55 ⟨Nat.le_of_ble_eq_true rfl, Nat.le_of_ble_eq_true rfl⟩) hA hD hS (fun r125 L126 f127 H locs hp128 hP hD hS => ?_)
        obtain ⟨eL129L, eL129T, eL129F⟩ := hp128
        have eL129L : L126 = L := eL129L
        rw [eL129L] at hP hD
        have hT : TI g ad (gset (gset th 18 zz30) 14 zz31) f127 := eL129T
        have eL129F : ∀ b, b ≠ (ad 275) → f127 b = f27 b := eL129F
        have hf130 := (eL129F (ad 255) (hst.ne (by decide) (by decide) (by decide))).trans hf33
        exact ret_i (ty := .int) hx hb hr hlocks (rfl) hP hD hS (Nat.le_of_ble_eq_true rfl) (Nat.le_of_ble_eq_true rfl) (⟨rfl, ⟨(gset (gset th 18 zz30) 14 zz31), ⟨(show MI (gset (gset th 18 zz30) 14 zz31) from ⟨m1, m2, (show th 20 = (th 12) * rnd (th 10) from m3), m4, m5, m6, m7, m8, m9, m10⟩), (SBM.set (k := 14) (SBM.set (k := 18) (SBM.rf th) (by decide)) (by decide))⟩, hT⟩⟩) dX11_falseOnes_58
    ·
      have oc0 : (0 : Int32).toInt = 0 := by decide
      have cc131 : r15.toInt = (0 : Int32).toInt := congrArg Int32.toInt c21
      have hb132 : In r15 0 0 := In.eq1 eL19R (⟨by decide, by decide⟩ : In 0 0 0) cc131 (by omega) (by omega)
      refine lv_aload_n hx hb dX11_falseOnes_36 rfl (lv_at hl 0 rfl) ?_
      refine lv_iconst (v := 1) hx hb dX11_falseOnes_37 (by decide) ?_
      refine call_i (run_V (rm := rm_X11_refuse) hx hb hml hown hts (s_X11_refuse l g ad th _ _ _ 1 hst hT (⟨by decide, by decide⟩ : In 1 0 4)) cV_X11_refuse wg_1710 ⟨Nat.le_of_ble_eq_true rfl, Nat.le_of_ble_eq_true rfl⟩ hG hE hA hP hD hS (hst.1 255 (by decide)) hf4 rfl rfl hl.1 (As := [.int 1]) (rest := []) rfl (Nat.le_of_ble_eq_true rfl) dX11_falseOnes_38 ⟨Nat.le_of_ble_eq_true rfl, Nat.le_of_ble_eq_true rfl⟩) hA hD hS (fun r133 L134 f135 H locs hp136 hP hD hS => ?_)
      obtain ⟨eL137L, eL137T, eL137F⟩ := hp136
      have eL137L : L134 = L := eL137L
      rw [eL137L] at hP hD
      have hT : TI g ad th f135 := eL137T
      have eL137F : ∀ b, b ≠ (ad 275) → f135 b = f3 b := eL137F
      have hf138 := (eL137F (ad 255) (hst.ne (by decide) (by decide) (by decide))).trans hf4
      exact ret_i (ty := .int) hx hb hr hlocks (rfl) hP hD hS (Nat.le_of_ble_eq_true rfl) (Nat.le_of_ble_eq_true rfl) (⟨rfl, ⟨th, ⟨(show MI th from hM), (SBM.rf th)⟩, hT⟩⟩) dX11_falseOnes_41
  ·
    have oc0 : (0 : Int32).toInt = 0 := by decide
    have cc139 : v23_1.toInt = (0 : Int32).toInt := congrArg Int32.toInt c6
    have hb140 : In v23_1 0 0 := In.eq1 hv23_1 (⟨by decide, by decide⟩ : In 0 0 0) cc139 (by omega) (by omega)
    refine lv_aload_n hx hb dX11_falseOnes_12 rfl (lv_at hl 0 rfl) ?_
    refine lv_iconst (v := 0) hx hb dX11_falseOnes_13 (by decide) ?_
    refine call_i (run_V (rm := rm_X11_refuse) hx hb hml hown hts (s_X11_refuse l g ad th _ _ _ 0 hst hT (⟨by decide, by decide⟩ : In 0 0 4)) cV_X11_refuse wg_1710 ⟨Nat.le_of_ble_eq_true rfl, Nat.le_of_ble_eq_true rfl⟩ hG hE hA hP hD hS (hst.1 255 (by decide)) hf4 rfl rfl hl.1 (As := [.int 0]) (rest := []) rfl (Nat.le_of_ble_eq_true rfl) dX11_falseOnes_14 ⟨Nat.le_of_ble_eq_true rfl, Nat.le_of_ble_eq_true rfl⟩) hA hD hS (fun r141 L142 f143 H locs hp144 hP hD hS => ?_)
    obtain ⟨eL145L, eL145T, eL145F⟩ := hp144
    have eL145L : L142 = L := eL145L
    rw [eL145L] at hP hD
    have hT : TI g ad th f143 := eL145T
    have eL145F : ∀ b, b ≠ (ad 275) → f143 b = f3 b := eL145F
    have hf146 := (eL145F (ad 255) (hst.ne (by decide) (by decide) (by decide))).trans hf4
    exact ret_i (ty := .int) hx hb hr hlocks (rfl) hP hD hS (Nat.le_of_ble_eq_true rfl) (Nat.le_of_ble_eq_true rfl) (⟨rfl, ⟨th, ⟨(show MI th from hM), (SBM.rf th)⟩, hT⟩⟩) dX11_falseOnes_17
