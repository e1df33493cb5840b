theorem GHq_st {x : Int32} {a b : Int} (h : GHq x a) (e : b = a) : x.toInt = b := (show x.toInt = a from h).trans e.symm

abbrev rm_X11_refuse : Room := { frames := 0, cells := 0, slots := 0, locals := 0 }
abbrev po_X11_refuse (g : GG) (ad : Nat → Nat) (th : Nat → Int) (L : List Nat) (f : HP) (z1 : Int32) : Int32 → (List Nat × HP) → Prop := fun r u => u.1 = L ∧ TI g ad th u.2 ∧ (∀ b, b ≠ (ad 275) → u.2 b = f b)
set_option maxHeartbeats 4000000 in
set_option maxRecDepth 100000 in
theorem s_X11_refuse (l : Launch) (g : GG) (ad : Nat → Nat) (th : Nat → Int) (L : List Nat) (f : HP) (sz : Nat) (z1 : Int32) (hst : ST ad L) (hT : TI g ad th f) (hz1 : In z1 0 4) : MtI l g yX11_refuse cX11_refuse 2 (some .int) rm_X11_refuse [.ref (ad 255), .int z1] L f sz (po_X11_refuse g ad th L f z1) := by
  refine MtI.of (by decide +kernel) (Nat.le_of_ble_eq_true rfl) ?_
  intro p e s m below meth c A hEn hP hD hS ls hl
  obtain ⟨hx, hb, hr, hml, hown, hlocks, hts, hG, hA, hE, hnm⟩ := hEn
  have hown : s.vm.findClass "RulerWordModel" = some m.cls := hown
  have hl : lv_has ls 2 [(0, .ref (ad 255)), (1, .int z1)] := hl
  have hfr : (∀ b, b ≠ (ad 275) → f b = f b) := fun b z0_ => rfl
  refine lv_aload_n hx hb dX11_refuse_0 rfl (lv_at hl 0 rfl) ?_
  refine M0e hT (fun v0_1 v2_1 v3_1 v4_1 v5_1 v6_1 v8_1 v9_1 v12_1 v13_1 v14_1 v15_1 v16_1 v17_1 v18_1 v19_1 v20_1 v21_1 v22_1 v23_1 v25_1 v36_1 v37_1 v38_1 v39_1 v40_1 v45_1 v46_1 v47_1 v48_1 v50_1 v51_1 v53_1 v55_1 hf2 hv0_1 hv2_1 hg2_1 hv3_1 hg3_1 hv4_1 hg4_1 hv5_1 hg5_1 hv6_1 hg6_1 hv8_1 hg8_1 hv9_1 hg9_1 hv12_1 hv13_1 hg13_1 hv14_1 hg14_1 hv15_1 hg15_1 hv17_1 hg17_1 hv20_1 hg20_1 hv23_1 hg23_1 hv25_1 hg25_1 hv36_1 hg36_1 hv47_1 hg47_1 hv48_1 hg48_1 hv53_1 hg53_1 hv55_1 hg55_1 hrel0_1 => ?_)
  have hg15_1 : v15_1.toInt = th 11 := hg15_1
  have hg17_1 : v17_1.toInt = th 12 := hg17_1
  have hg20_1 : v20_1.toInt = th 14 := hg20_1
  refine pl_get (v := .ref (ad 275)) hx hb hts (fun w h => mT (inX11 w h)) hown hG.1 hP (hst.1 255 (by decide)) hf2 rfl 49 (by decide) (hts _ (mT wg_1385)) (fun _ h => h) rfl dX11_refuse_1 ?_
  refine lv_iload_n hx hb dX11_refuse_4 rfl (lv_at hl 1 rfl) ?_
  refine lv_dup2_11 hx hb dX11_refuse_5 rfl rfl ?_
  obtain ⟨rw3, hf4⟩ := hT.2.2 20 (by decide)
  have hin5 : vp_in z1 5 := In.inb hz1 (by decide) (by decide)
  refine pl_iald hx hb hG.1 hP (hst.1 275 (by decide)) 0 hf4 rfl hin5 dX11_refuse_6 ?_
  refine lv_topi (fun x6 ex6 => ?_)
  refine lv_iconst (v := 1) hx hb dX11_refuse_7 (by decide) ?_
  refine lv_iadd hx hb dX11_refuse_8 ?_
  refine lv_topi (fun x7 ex7 => ?_)
  refine pl_iastE hx hb hG.1 hP hD hS (hst.1 275 (by decide)) 0 hf4 rfl (In.inb hz1 (by decide) (by decide)) dX11_refuse_9 (fun H locs f8 r11 er11 hf9 ho10 hP hD hS => ?_)
  have hf12 := (ho10 (ad 255) (hst.ne (by decide) (by decide) (by decide))).trans hf2
  have hfr : (∀ b, b ≠ (ad 275) → f8 b = f b) := fun b z0_ => (ho10 b z0_).trans (hfr b z0_)
  refine lv_iconst (v := (-1)) hx hb dX11_refuse_10 (by decide) ?_
  have hT := TI.updM hT hst (k := 20) (by decide) hf9 ho10 ⟨r11, rfl⟩
  exact ret_i (ty := .int) hx hb hr hlocks (rfl) hP hD hS (Nat.le_of_ble_eq_true rfl) (Nat.le_of_ble_eq_true rfl) (⟨rfl, hT, hfr⟩) dX11_refuse_11

abbrev rm_X11_isPeer : Room := { frames := 1, cells := 0, slots := 0, locals := 25 }
abbrev po_X11_isPeer (g : GG) (ad : Nat → Nat) (th : Nat → Int) (L : List Nat) (f : HP) (z1 : Int32) : Int32 → (List Nat × HP) → Prop := fun r u => u.1 = L ∧ u.2 = f ∧ In r 0 1 ∧ (¬ r = 0 → In z1 0 8) ∧ (r.toInt = 0 ∨ th 15 = 1)
set_option maxHeartbeats 4000000 in
set_option maxRecDepth 100000 in
theorem s_X11_isPeer (l : Launch) (g : GG) (ad : Nat → Nat) (th : Nat → Int) (L : List Nat) (f : HP) (sz : Nat) (z1 : Int32) (hst : ST ad L) (hT : TI g ad th f)  : MtI l g yX11_isPeer cX11_isPeer 2 (some .boolean) rm_X11_isPeer [.ref (ad 255), .int z1] L f sz (po_X11_isPeer g ad th L f z1) := by
  refine MtI.of (by decide +kernel) (Nat.le_of_ble_eq_true rfl) ?_
  intro p e s m below meth c A hEn hP hD hS ls hl
  obtain ⟨hx, hb, hr, hml, hown, hlocks, hts, hG, hA, hE, hnm⟩ := hEn
  have hown : s.vm.findClass "RulerWordModel" = some m.cls := hown
  have hl : lv_has ls 2 [(0, .ref (ad 255)), (1, .int z1)] := hl
  refine lv_aload_n hx hb dX11_isPeer_0 rfl (lv_at hl 0 rfl) ?_
  refine M0e hT (fun v0_1 v2_1 v3_1 v4_1 v5_1 v6_1 v8_1 v9_1 v12_1 v13_1 v14_1 v15_1 v16_1 v17_1 v18_1 v19_1 v20_1 v21_1 v22_1 v23_1 v25_1 v36_1 v37_1 v38_1 v39_1 v40_1 v45_1 v46_1 v47_1 v48_1 v50_1 v51_1 v53_1 v55_1 hf2 hv0_1 hv2_1 hg2_1 hv3_1 hg3_1 hv4_1 hg4_1 hv5_1 hg5_1 hv6_1 hg6_1 hv8_1 hg8_1 hv9_1 hg9_1 hv12_1 hv13_1 hg13_1 hv14_1 hg14_1 hv15_1 hg15_1 hv17_1 hg17_1 hv20_1 hg20_1 hv23_1 hg23_1 hv25_1 hg25_1 hv36_1 hg36_1 hv47_1 hg47_1 hv48_1 hg48_1 hv53_1 hg53_1 hv55_1 hg55_1 hrel0_1 => ?_)
  have hg15_1 : v15_1.toInt = th 11 := hg15_1
  have hg17_1 : v17_1.toInt = th 12 := hg17_1
  have hg20_1 : v20_1.toInt = th 14 := hg20_1
  refine pl_get (v := .int v23_1) hx hb hts (fun w h => mT (inX11 w h)) hown hG.1 hP (hst.1 255 (by decide)) hf2 rfl 23 (by decide) (hts _ (mT wg_1359)) (fun _ h => h) rfl dX11_isPeer_1 ?_
  have hg23_1 : v23_1.toInt = th 15 := hg23_1
  have hJ27 : ∀ (H : Heap) (locs : List Loc) (ls : Array Slot), va_P g.1 vwCl (va_pl L f) H → va_D A (va_pl L f) → va_S A s.heap H locs → lv_has ls 2 [(0, .ref (ad 255)), (1, .int z1)] → W p l e rm_X11_isPeer s m [.ref (ad 255), .int z1].toArray below meth c H locs 0 0 (MQ below (va_Qi (po_X11_isPeer g ad th L f z1) (PstB g A) A) [.ref (ad 255), .int z1].toArray s rm_X11_isPeer.cells rm_X11_isPeer.slots A) (F0 m 27 ls []) := by
    intro H locs ls hP hD hS hl
    refine lv_iconst (v := 0) hx hb dX11_isPeer_27 (by decide) ?_
    exact ret_i (ty := .boolean) hx hb hr hlocks (rfl) hP hD hS (Nat.le_of_ble_eq_true rfl) (Nat.le_of_ble_eq_true rfl) (⟨rfl, rfl, (⟨by decide, by decide⟩ : In 0 0 1), (fun q => absurd rfl q), (Or.inl (by decide))⟩) dX11_isPeer_28
  refine lv_if_eq (tgt := 27) hx hb dX11_isPeer_4 (by decide) (fun c3 => ?_) (fun c3 => ?_)
  ·
    have oc0 : (0 : Int32).toInt = 0 := by decide
    have cc4 : v23_1.toInt = (0 : Int32).toInt := congrArg Int32.toInt c3
    have hb5 : In v23_1 0 0 := In.eq1 hv23_1 (⟨by decide, by decide⟩ : In 0 0 0) cc4 (by decide) (by decide)
    exact hJ27 _ _ _ hP hD hS (lv_sub hl [0, 1] rfl)
  ·
    have oc0 : (0 : Int32).toInt = 0 := by decide
    have cc6 : v23_1.toInt ≠ (0 : Int32).toInt := i32_ne c3
    have hb7 : In v23_1 1 1 := In.ne1 hv23_1 (⟨by decide, by decide⟩ : In 0 0 0) cc6 (by decide) (by decide)
    refine lv_iload_n hx hb dX11_isPeer_7 rfl (lv_at hl 1 rfl) ?_
    refine lv_i2l hx hb dX11_isPeer_8 rfl ?_
    refine lv_lconst (v := 0) hx hb dX11_isPeer_9 (by decide) ?_
    refine lv_aload_n hx hb dX11_isPeer_10 rfl (lv_at hl 0 rfl) ?_
    refine pl_get (v := .int v15_1) hx hb hts (fun w h => mT (inX11 w h)) hown hG.1 hP (hst.1 255 (by decide)) hf2 rfl 15 (by decide) (hts _ (mT wg_1351)) (fun _ h => h) rfl dX11_isPeer_11 ?_
    refine lv_iconst (v := 1) hx hb dX11_isPeer_14 (by decide) ?_
    refine lv_isub hx hb dX11_isPeer_15 ?_
    refine lv_topi (fun x8 ex8 => ?_)
    have hb9 : In x8 (-1) 8 := ex8 ▸ In.sub hv15_1 (⟨by decide, by decide⟩ : In 1 1 1) (by decide) (by decide) (by decide) (by decide)
    have et10 : x8.toInt = v15_1.toInt + (-1) := In.sube ex8 hv15_1 (k := 1) (by decide) (by decide) (by decide)
    refine lv_i2l hx hb dX11_isPeer_16 rfl ?_
    refine call_i (run_S (rm := rm_X11_isIn) hx hb hml hown hts (s_X11_isIn l g ad th _ _ _ (z1.toInt64) 0 (x8.toInt64) hst hT ) cS_X11_isIn wg_1581 ⟨Nat.le_of_ble_eq_true rfl, Nat.le_of_ble_eq_true rfl⟩ hG hE hA hP hD hS rfl hl.1 (As := [.long (z1.toInt64), .long 0, .long (x8.toInt64)]) (rest := []) rfl (Nat.le_of_ble_eq_true rfl) dX11_isPeer_17 ⟨Nat.le_of_ble_eq_true rfl, Nat.le_of_ble_eq_true rfl⟩) hA hD hS (fun r11 L12 f13 H locs hp14 hP hD hS => ?_)
    obtain ⟨eL15L, eL15T, eL15R, eL15X0, eL15X1⟩ := hp14
    have eL15L : L12 = L := eL15L
    have eL15T : f13 = f := eL15T
    rw [eL15L, eL15T] at hP hD
    have eL15R : In r11 0 1 := eL15R
    have hii16 : r11.toInt = 0 ∨ (0 ≤ z1.toInt ∧ z1.toInt ≤ x8.toInt) := by have z := eL15X0; rw [i2l_t z1, (by decide : (0 : Int64).toInt = 0), i2l_t x8] at z; exact z
    have hii16w : ¬ r11 = 0 → In z1 0 8 := fun c => by have c2 := i32_ne c; have e0 : (0 : Int32).toInt = 0 := (by decide); obtain ⟨o1, p1⟩ := (hb9 : In _ _ _); exact ⟨by omega, by omega⟩
    refine lv_if_eq (tgt := 27) hx hb dX11_isPeer_20 (by decide) (fun c17 => ?_) (fun c17 => ?_)
    ·
      have oc0 : (0 : Int32).toInt = 0 := by decide
      have cc18 : r11.toInt = (0 : Int32).toInt := congrArg Int32.toInt c17
      have hb19 : In r11 0 0 := In.eq1 eL15R (⟨by decide, by decide⟩ : In 0 0 0) cc18 (by decide) (by decide)
      exact hJ27 _ _ _ hP hD hS (lv_sub hl [0, 1] rfl)
    ·
      have oc0 : (0 : Int32).toInt = 0 := by decide
      have cc20 : r11.toInt ≠ (0 : Int32).toInt := i32_ne c17
      have hb21 : In r11 1 1 := In.ne1 eL15R (⟨by decide, by decide⟩ : In 0 0 0) cc20 (by decide) (by decide)
      have hb22 : In z1 0 8 := In.both (hii16w c17) (In.full z1) (by decide) (by decide)
      refine lv_iconst (v := 1) hx hb dX11_isPeer_23 (by decide) ?_
      refine lv_goto (tgt := 28) hx hb dX11_isPeer_24 (by decide) ?_
      exact ret_i (ty := .boolean) hx hb hr hlocks (rfl) hP hD hS (Nat.le_of_ble_eq_true rfl) (Nat.le_of_ble_eq_true rfl) (⟨rfl, rfl, (⟨by decide, by decide⟩ : In 1 0 1), (fun _ => hb22), (Or.inr (by have ob10 : (0 : Int) ≤ (th 10) ∧ (th 10) ≤ 1 := (b0_10 hT :); have ob11 : (0 : Int) ≤ (th 11) ∧ (th 11) ≤ 9 := (b0_11 hT :); have ob12 : (0 : Int) ≤ (th 12) ∧ (th 12) ≤ 6 := (b0_12 hT :); have ob14 : (0 : Int) ≤ (th 14) ∧ (th 14) ≤ 511 := (b0_14 hT :); have ob15 : (0 : Int) ≤ (th 15) ∧ (th 15) ≤ 1 := (b0_15 hT :); have ob16 : (0 : Int) ≤ (th 16) ∧ (th 16) ≤ 20 := (b0_16 hT :); have ob17 : (0 : Int) ≤ (th 17) ∧ (th 17) ≤ 1 := (b0_17 hT :); have ob18 : (0 : Int) ≤ (th 18) ∧ (th 18) ≤ 18 := (b0_18 hT :); have ob38 : (0 : Int) ≤ (th 38) ∧ (th 38) ≤ 400 := (b0_38 hT :); have ob39 : (0 : Int) ≤ (th 39) ∧ (th 39) ≤ 200 := (b0_39 hT :); have ob44 : (0 : Int) ≤ (th 44) ∧ (th 44) ≤ 30 := (b0_44 hT :); have orn := rnd_b (th 10); obtain ⟨o0a, o0b⟩ := (hv14_1 : In _ _ _); obtain ⟨o1a, o1b⟩ := (hv15_1 : In _ _ _); obtain ⟨o2a, o2b⟩ := (hv17_1 : In _ _ _); obtain ⟨o3a, o3b⟩ := (hv20_1 : In _ _ _); obtain ⟨o4a, o4b⟩ := (hb7 : In _ _ _); obtain ⟨o5a, o5b⟩ := (hv25_1 : In _ _ _); obtain ⟨o6a, o6b⟩ := (hv36_1 : In _ _ _); obtain ⟨o7a, o7b⟩ := (hv47_1 : In _ _ _); obtain ⟨o8a, o8b⟩ := (hv48_1 : In _ _ _); obtain ⟨o9a, o9b⟩ := (hv53_1 : In _ _ _); obtain ⟨o10a, o10b⟩ := (hv55_1 : In _ _ _); omega))⟩) dX11_isPeer_28

abbrev rm_X11_isRound : Room := { frames := 1, cells := 0, slots := 0, locals := 25 }
abbrev po_X11_isRound (g : GG) (ad : Nat → Nat) (th : Nat → Int) (L : List Nat) (f : HP) (z1 : Int32) (z2 : Int32) : Int32 → (List Nat × HP) → Prop := fun r u => u.1 = L ∧ u.2 = f ∧ In r 0 1 ∧ (¬ r = 0 → In z1 0 5) ∧ (¬ r = 0 → In z2 0 2) ∧ (r.toInt = 0 ∨ th 15 = 1)
set_option maxHeartbeats 4000000 in
set_option maxRecDepth 100000 in
theorem s_X11_isRound (l : Launch) (g : GG) (ad : Nat → Nat) (th : Nat → Int) (L : List Nat) (f : HP) (sz : Nat) (z1 : Int32) (z2 : Int32) (hst : ST ad L) (hT : TI g ad th f)  : MtI l g yX11_isRound cX11_isRound 3 (some .boolean) rm_X11_isRound [.ref (ad 255), .int z1, .int z2] L f sz (po_X11_isRound g ad th L f z1 z2) := by
  refine MtI.of (by decide +kernel) (Nat.le_of_ble_eq_true rfl) ?_
  intro p e s m below meth c A hEn hP hD hS ls hl
  obtain ⟨hx, hb, hr, hml, hown, hlocks, hts, hG, hA, hE, hnm⟩ := hEn
  have hown : s.vm.findClass "RulerWordModel" = some m.cls := hown
  have hl : lv_has ls 3 [(0, .ref (ad 255)), (1, .int z1), (2, .int z2)] := hl
  refine lv_aload_n hx hb dX11_isRound_0 rfl (lv_at hl 0 rfl) ?_
  refine M0e hT (fun v0_1 v2_1 v3_1 v4_1 v5_1 v6_1 v8_1 v9_1 v12_1 v13_1 v14_1 v15_1 v16_1 v17_1 v18_1 v19_1 v20_1 v21_1 v22_1 v23_1 v25_1 v36_1 v37_1 v38_1 v39_1 v40_1 v45_1 v46_1 v47_1 v48_1 v50_1 v51_1 v53_1 v55_1 hf2 hv0_1 hv2_1 hg2_1 hv3_1 hg3_1 hv4_1 hg4_1 hv5_1 hg5_1 hv6_1 hg6_1 hv8_1 hg8_1 hv9_1 hg9_1 hv12_1 hv13_1 hg13_1 hv14_1 hg14_1 hv15_1 hg15_1 hv17_1 hg17_1 hv20_1 hg20_1 hv23_1 hg23_1 hv25_1 hg25_1 hv36_1 hg36_1 hv47_1 hg47_1 hv48_1 hg48_1 hv53_1 hg53_1 hv55_1 hg55_1 hrel0_1 => ?_)
  have hg15_1 : v15_1.toInt = th 11 := hg15_1
  have hg17_1 : v17_1.toInt = th 12 := hg17_1
  have hg20_1 : v20_1.toInt = th 14 := hg20_1
  refine pl_get (v := .int v23_1) hx hb hts (fun w h => mT (inX11 w h)) hown hG.1 hP (hst.1 255 (by decide)) hf2 rfl 23 (by decide) (hts _ (mT wg_1359)) (fun _ h => h) rfl dX11_isRound_1 ?_
  have hg23_1 : v23_1.toInt = th 15 := hg23_1
  have hJ43 : ∀ (H : Heap) (locs : List Loc) (ls : Array Slot), va_P g.1 vwCl (va_pl L f) H → va_D A (va_pl L f) → va_S A s.heap H locs → lv_has ls 3 [(0, .ref (ad 255)), (1, .int z1), (2, .int z2)] → W p l e rm_X11_isRound s m [.ref (ad 255), .int z1, .int z2].toArray below meth c H locs 0 0 (MQ below (va_Qi (po_X11_isRound g ad th L f z1 z2) (PstB g A) A) [.ref (ad 255), .int z1, .int z2].toArray s rm_X11_isRound.cells rm_X11_isRound.slots A) (F0 m 43 ls []) := by
    intro H locs ls hP hD hS hl
    refine lv_iconst (v := 0) hx hb dX11_isRound_43 (by decide) ?_
    exact ret_i (ty := .boolean) hx hb hr hlocks (rfl) hP hD hS (Nat.le_of_ble_eq_true rfl) (Nat.le_of_ble_eq_true rfl) (⟨rfl, rfl, (⟨by decide, by decide⟩ : In 0 0 1), (fun q => absurd rfl q), (fun q => absurd rfl q), (Or.inl (by decide))⟩) dX11_isRound_44
  refine lv_if_eq (tgt := 43) hx hb dX11_isRound_4 (by decide) (fun c3 => ?_) (fun c3 => ?_)
  ·
    have oc0 : (0 : Int32).toInt = 0 := by decide
    have cc4 : v23_1.toInt = (0 : Int32).toInt := congrArg Int32.toInt c3
    have hb5 : In v23_1 0 0 := In.eq1 hv23_1 (⟨by decide, by decide⟩ : In 0 0 0) cc4 (by decide) (by decide)
    exact hJ43 _ _ _ hP hD hS (lv_sub hl [0, 1, 2] rfl)
  ·
    have oc0 : (0 : Int32).toInt = 0 := by decide
    have cc6 : v23_1.toInt ≠ (0 : Int32).toInt := i32_ne c3
    have hb7 : In v23_1 1 1 := In.ne1 hv23_1 (⟨by decide, by decide⟩ : In 0 0 0) cc6 (by decide) (by decide)
    refine lv_iload_n hx hb dX11_isRound_7 rfl (lv_at hl 1 rfl) ?_
    refine lv_i2l hx hb dX11_isRound_8 rfl ?_
    refine lv_lconst (v := 0) hx hb dX11_isRound_9 (by decide) ?_
    refine lv_aload_n hx hb dX11_isRound_10 rfl (lv_at hl 0 rfl) ?_
    refine pl_get (v := .int v17_1) hx hb hts (fun w h => mT (inX11 w h)) hown hG.1 hP (hst.1 255 (by decide)) hf2 rfl 17 (by decide) (hts _ (mT wg_1353)) (fun _ h => h) rfl dX11_isRound_11 ?_
    refine lv_iconst (v := 1) hx hb dX11_isRound_14 (by decide) ?_
    refine lv_isub hx hb dX11_isRound_15 ?_
    refine lv_topi (fun x8 ex8 => ?_)
    have hb9 : In x8 (-1) 5 := ex8 ▸ In.sub hv17_1 (⟨by decide, by decide⟩ : In 1 1 1) (by decide) (by decide) (by decide) (by decide)
    have et10 : x8.toInt = v17_1.toInt + (-1) := In.sube ex8 hv17_1 (k := 1) (by decide) (by decide) (by decide)
    refine lv_i2l hx hb dX11_isRound_16 rfl ?_
    refine call_i (run_S (rm := rm_X11_isIn) hx hb hml hown hts (s_X11_isIn l g ad th _ _ _ (z1.toInt64) 0 (x8.toInt64) hst hT ) cS_X11_isIn wg_1581 ⟨Nat.le_of_ble_eq_true rfl, Nat.le_of_ble_eq_true rfl⟩ hG hE hA hP hD hS rfl hl.1 (As := [.long (z1.toInt64), .long 0, .long (x8.toInt64)]) (rest := []) rfl (Nat.le_of_ble_eq_true rfl) dX11_isRound_17 ⟨Nat.le_of_ble_eq_true rfl, Nat.le_of_ble_eq_true rfl⟩) hA hD hS (fun r11 L12 f13 H locs hp14 hP hD hS => ?_)
    obtain ⟨eL15L, eL15T, eL15R, eL15X0, eL15X1⟩ := hp14
    have eL15L : L12 = L := eL15L
    have eL15T : f13 = f := eL15T
    rw [eL15L, eL15T] at hP hD
    have eL15R : In r11 0 1 := eL15R
    have hii16 : r11.toInt = 0 ∨ (0 ≤ z1.toInt ∧ z1.toInt ≤ x8.toInt) := by have z := eL15X0; rw [i2l_t z1, (by decide : (0 : Int64).toInt = 0), i2l_t x8] at z; exact z
    have hii16w : ¬ r11 = 0 → In z1 0 5 := fun c => by have c2 := i32_ne c; have e0 : (0 : Int32).toInt = 0 := (by decide); obtain ⟨o1, p1⟩ := (hb9 : In _ _ _); exact ⟨by omega, by omega⟩
    refine lv_if_eq (tgt := 43) hx hb dX11_isRound_20 (by decide) (fun c17 => ?_) (fun c17 => ?_)
    ·
      have oc0 : (0 : Int32).toInt = 0 := by decide
      have cc18 : r11.toInt = (0 : Int32).toInt := congrArg Int32.toInt c17
      have hb19 : In r11 0 0 := In.eq1 eL15R (⟨by decide, by decide⟩ : In 0 0 0) cc18 (by decide) (by decide)
      exact hJ43 _ _ _ hP hD hS (lv_sub hl [0, 1, 2] rfl)
    ·
      have oc0 : (0 : Int32).toInt = 0 := by decide
      have cc20 : r11.toInt ≠ (0 : Int32).toInt := i32_ne c17
      have hb21 : In r11 1 1 := In.ne1 eL15R (⟨by decide, by decide⟩ : In 0 0 0) cc20 (by decide) (by decide)
      have hb22 : In z1 0 5 := In.both (hii16w c17) (In.full z1) (by decide) (by decide)
      refine lv_iload_n hx hb dX11_isRound_23 rfl (lv_at hl 2 rfl) ?_
      refine lv_i2l hx hb dX11_isRound_24 rfl ?_
      refine lv_lconst (v := 0) hx hb dX11_isRound_25 (by decide) ?_
      refine lv_aload_n hx hb dX11_isRound_26 rfl (lv_at hl 0 rfl) ?_
      refine call_i (run_V (rm := rm_X11_each) hx hb hml hown hts (s_X11_each l g ad th _ _ _  hst hT ) cV_X11_each wg_1636 ⟨Nat.le_of_ble_eq_true rfl, Nat.le_of_ble_eq_true rfl⟩ hG hE hA hP hD hS (hst.1 255 (by decide)) hf2 rfl rfl hl.1 (As := []) (rest := [.long 0, .long (z2.toInt64)]) rfl (Nat.le_of_ble_eq_true rfl) dX11_isRound_27 ⟨Nat.le_of_ble_eq_true rfl, Nat.le_of_ble_eq_true rfl⟩) hA hD hS (fun r23 L24 f25 H locs hp26 hP hD hS => ?_)
      obtain ⟨eL27L, eL27T, eL27R, eL27X0⟩ := hp26
      have eL27L : L24 = L := eL27L
      have eL27T : f25 = f := eL27T
      rw [eL27L, eL27T] at hP hD
      have eL27R : In r23 2 3 := eL27R
      have hrn28 : r23.toInt = rnd (th 10) := eL27X0
      refine lv_iconst (v := 1) hx hb dX11_isRound_30 (by decide) ?_
      refine lv_isub hx hb dX11_isRound_31 ?_
      refine lv_topi (fun x29 ex29 => ?_)
      have hb30 : In x29 1 2 := ex29 ▸ In.sub eL27R (⟨by decide, by decide⟩ : In 1 1 1) (by decide) (by decide) (by decide) (by decide)
      have et31 : x29.toInt = r23.toInt + (-1) := In.sube ex29 eL27R (k := 1) (by decide) (by decide) (by decide)
      refine lv_i2l hx hb dX11_isRound_32 rfl ?_
      refine call_i (run_S (rm := rm_X11_isIn) hx hb hml hown hts (s_X11_isIn l g ad th _ _ _ (z2.toInt64) 0 (x29.toInt64) hst hT ) cS_X11_isIn wg_1581 ⟨Nat.le_of_ble_eq_true rfl, Nat.le_of_ble_eq_true rfl⟩ hG hE hA hP hD hS rfl hl.1 (As := [.long (z2.toInt64), .long 0, .long (x29.toInt64)]) (rest := []) rfl (Nat.le_of_ble_eq_true rfl) dX11_isRound_33 ⟨Nat.le_of_ble_eq_true rfl, Nat.le_of_ble_eq_true rfl⟩) hA hD hS (fun r32 L33 f34 H locs hp35 hP hD hS => ?_)
      obtain ⟨eL36L, eL36T, eL36R, eL36X0, eL36X1⟩ := hp35
      have eL36L : L33 = L := eL36L
      have eL36T : f34 = f := eL36T
      rw [eL36L, eL36T] at hP hD
      have eL36R : In r32 0 1 := eL36R
      have hii37 : r32.toInt = 0 ∨ (0 ≤ z2.toInt ∧ z2.toInt ≤ x29.toInt) := by have z := eL36X0; rw [i2l_t z2, (by decide : (0 : Int64).toInt = 0), i2l_t x29] at z; exact z
      have hii37w : ¬ r32 = 0 → In z2 0 2 := fun c => by have c2 := i32_ne c; have e0 : (0 : Int32).toInt = 0 := (by decide); obtain ⟨o1, p1⟩ := (hb30 : In _ _ _); exact ⟨by omega, by omega⟩
      refine lv_if_eq (tgt := 43) hx hb dX11_isRound_36 (by decide) (fun c38 => ?_) (fun c38 => ?_)
      ·
        have oc0 : (0 : Int32).toInt = 0 := by decide
        have cc39 : r32.toInt = (0 : Int32).toInt := congrArg Int32.toInt c38
        have hb40 : In r32 0 0 := In.eq1 eL36R (⟨by decide, by decide⟩ : In 0 0 0) cc39 (by decide) (by decide)
        exact hJ43 _ _ _ hP hD hS (lv_sub hl [0, 1, 2] rfl)
      ·
        have oc0 : (0 : Int32).toInt = 0 := by decide
        have cc41 : r32.toInt ≠ (0 : Int32).toInt := i32_ne c38
        have hb42 : In r32 1 1 := In.ne1 eL36R (⟨by decide, by decide⟩ : In 0 0 0) cc41 (by decide) (by decide)
        have hb43 : In z2 0 2 := In.both (hii37w c38) (In.full z2) (by decide) (by decide)
        refine lv_iconst (v := 1) hx hb dX11_isRound_39 (by decide) ?_
        refine lv_goto (tgt := 44) hx hb dX11_isRound_40 (by decide) ?_
        exact ret_i (ty := .boolean) hx hb hr hlocks (rfl) hP hD hS (Nat.le_of_ble_eq_true rfl) (Nat.le_of_ble_eq_true rfl) (⟨rfl, rfl, (⟨by decide, by decide⟩ : In 1 0 1), (fun _ => hb22), (fun _ => hb43), (Or.inr (by have ob10 : (0 : Int) ≤ (th 10) ∧ (th 10) ≤ 1 := (b0_10 hT :); have ob11 : (0 : Int) ≤ (th 11) ∧ (th 11) ≤ 9 := (b0_11 hT :); have ob12 : (0 : Int) ≤ (th 12) ∧ (th 12) ≤ 6 := (b0_12 hT :); have ob14 : (0 : Int) ≤ (th 14) ∧ (th 14) ≤ 511 := (b0_14 hT :); have ob15 : (0 : Int) ≤ (th 15) ∧ (th 15) ≤ 1 := (b0_15 hT :); have ob16 : (0 : Int) ≤ (th 16) ∧ (th 16) ≤ 20 := (b0_16 hT :); have ob17 : (0 : Int) ≤ (th 17) ∧ (th 17) ≤ 1 := (b0_17 hT :); have ob18 : (0 : Int) ≤ (th 18) ∧ (th 18) ≤ 18 := (b0_18 hT :); have ob38 : (0 : Int) ≤ (th 38) ∧ (th 38) ≤ 400 := (b0_38 hT :); have ob39 : (0 : Int) ≤ (th 39) ∧ (th 39) ≤ 200 := (b0_39 hT :); have ob44 : (0 : Int) ≤ (th 44) ∧ (th 44) ≤ 30 := (b0_44 hT :); have orn := rnd_b (th 10); obtain ⟨o0a, o0b⟩ := (hv14_1 : In _ _ _); obtain ⟨o1a, o1b⟩ := (hv15_1 : In _ _ _); obtain ⟨o2a, o2b⟩ := (hv17_1 : In _ _ _); obtain ⟨o3a, o3b⟩ := (hv20_1 : In _ _ _); obtain ⟨o4a, o4b⟩ := (hb7 : In _ _ _); obtain ⟨o5a, o5b⟩ := (hv25_1 : In _ _ _); obtain ⟨o6a, o6b⟩ := (hv36_1 : In _ _ _); obtain ⟨o7a, o7b⟩ := (hv47_1 : In _ _ _); obtain ⟨o8a, o8b⟩ := (hv48_1 : In _ _ _); obtain ⟨o9a, o9b⟩ := (hv53_1 : In _ _ _); obtain ⟨o10a, o10b⟩ := (hv55_1 : In _ _ _); omega))⟩) dX11_isRound_44

abbrev rm_X11_over : Room := { frames := 1, cells := 0, slots := 0, locals := 20 }
abbrev po_X11_over (g : GG) (ad : Nat → Nat) (th : Nat → Int) (L : List Nat) (f : HP)  : Int32 → (List Nat × HP) → Prop := fun r u => u.1 = L ∧ u.2 = f ∧ In r 0 6 ∧ (r.toInt = 0 ∨ th 15 = 1)
set_option maxHeartbeats 4000000 in
set_option maxRecDepth 100000 in
theorem s_X11_over (l : Launch) (g : GG) (ad : Nat → Nat) (th : Nat → Int) (L : List Nat) (f : HP) (sz : Nat)  (hst : ST ad L) (hT : TI g ad th f) (hM : MI th) : MtI l g yX11_over cX11_over 1 (some .int) rm_X11_over [.ref (ad 255)] L f sz (po_X11_over g ad th L f ) := by
  refine MtI.of (by decide +kernel) (Nat.le_of_ble_eq_true rfl) ?_
  intro p e s m below meth c A hEn hP hD hS ls hl
  obtain ⟨hx, hb, hr, hml, hown, hlocks, hts, hG, hA, hE, hnm⟩ := hEn
  have hown : s.vm.findClass "RulerWordModel" = some m.cls := hown
  have hl : lv_has ls 1 [(0, .ref (ad 255))] := hl
  have hM0 := hM
  obtain ⟨m1, m2, m3, m4, m5, m6, m7, m8, m9, m10⟩ := hM0
  have m20 := mi20 m2 m3
  refine lv_aload_n hx hb dX11_over_0 rfl (lv_at hl 0 rfl) ?_
  refine M0e hT (fun v0_1 v2_1 v3_1 v4_1 v5_1 v6_1 v8_1 v9_1 v12_1 v13_1 v14_1 v15_1 v16_1 v17_1 v18_1 v19_1 v20_1 v21_1 v22_1 v23_1 v25_1 v36_1 v37_1 v38_1 v39_1 v40_1 v45_1 v46_1 v47_1 v48_1 v50_1 v51_1 v53_1 v55_1 hf2 hv0_1 hv2_1 hg2_1 hv3_1 hg3_1 hv4_1 hg4_1 hv5_1 hg5_1 hv6_1 hg6_1 hv8_1 hg8_1 hv9_1 hg9_1 hv12_1 hv13_1 hg13_1 hv14_1 hg14_1 hv15_1 hg15_1 hv17_1 hg17_1 hv20_1 hg20_1 hv23_1 hg23_1 hv25_1 hg25_1 hv36_1 hg36_1 hv47_1 hg47_1 hv48_1 hg48_1 hv53_1 hg53_1 hv55_1 hg55_1 hrel0_1 => ?_)
  have hg15_1 : v15_1.toInt = th 11 := hg15_1
  have hg17_1 : v17_1.toInt = th 12 := hg17_1
  have hg20_1 : v20_1.toInt = th 14 := hg20_1
  refine pl_get (v := .int v23_1) hx hb hts (fun w h => mT (inX11 w h)) hown hG.1 hP (hst.1 255 (by decide)) hf2 rfl 23 (by decide) (hts _ (mT wg_1359)) (fun _ h => h) rfl dX11_over_1 ?_
  have hg23_1 : v23_1.toInt = th 15 := hg23_1
  refine lv_if_eq (tgt := 22) hx hb dX11_over_4 (by decide) (fun c3 => ?_) (fun c3 => ?_)
  ·
    have oc0 : (0 : Int32).toInt = 0 := by decide
    have cc4 : v23_1.toInt = (0 : Int32).toInt := congrArg Int32.toInt c3
    have hb5 : In v23_1 0 0 := In.eq1 hv23_1 (⟨by decide, by decide⟩ : In 0 0 0) cc4 (by decide) (by decide)
    refine lv_iconst (v := 0) hx hb dX11_over_22 (by decide) ?_
    exact ret_i (ty := .int) hx hb hr hlocks (rfl) hP hD hS (Nat.le_of_ble_eq_true rfl) (Nat.le_of_ble_eq_true rfl) (⟨rfl, rfl, (⟨by decide, by decide⟩ : In 0 0 6), (Or.inl (by decide))⟩) dX11_over_23
  ·
    have oc0 : (0 : Int32).toInt = 0 := by decide
    have cc6 : v23_1.toInt ≠ (0 : Int32).toInt := i32_ne c3
    have hb7 : In v23_1 1 1 := In.ne1 hv23_1 (⟨by decide, by decide⟩ : In 0 0 0) cc6 (by decide) (by decide)
    refine lv_aload_n hx hb dX11_over_7 rfl (lv_at hl 0 rfl) ?_
    refine pl_get (v := .ref (ad 271)) hx hb hts (fun w h => mT (inX11 w h)) hown hG.1 hP (hst.1 255 (by decide)) hf2 rfl 41 (by decide) (hts _ (mT wg_1377)) (fun _ h => h) rfl dX11_over_8 ?_
    refine lv_bipush (v := 72) hx hb dX11_over_11 (by decide) ?_
    obtain ⟨rw8, hf9, hpi11, hc10⟩ := hT.2.2 16 (by decide)
    have hc10 : PRW 2126 (th 22) (th 20) (th 21) rw8 := hc10
    have hpi11 : ((72 : Int) < (th 22) → (rw8 72).toInt = th 19) := hpi11
    have hin12 : vp_in 72 2126 := In.inb (⟨by decide, by decide⟩ : In 72 72 72) (by decide) (by decide)
    refine pl_iald hx hb hG.1 hP (hst.1 271 (by decide)) 0 hf9 rfl hin12 dX11_over_13 ?_
    refine lv_topi (fun x13 ex13 => ?_)
    have hpd14 : PRED (th 20) (th 21) 72 x13 := by rw [ex13]; exact prw_at (k := 72) hc10 (by decide) (by decide) (by omega) (by decide)
    have hb15 : In x13 0 18 := ⟨(hpd14.1 rfl).1, Int.le_trans (hpd14.1 rfl).2 (by omega)⟩
    have hgl16 : x13.toInt = th 19 := by rw [ex13]; exact pinE (k := 72) (by decide) (hpi11 (by omega))
    have hpd14b := (hpd14.1 rfl).2
    refine lv_aload_n hx hb dX11_over_14 rfl (lv_at hl 0 rfl) ?_
    refine call_i (run_V (rm := rm_X11_each) hx hb hml hown hts (s_X11_each l g ad th _ _ _  hst hT ) cV_X11_each wg_1636 ⟨Nat.le_of_ble_eq_true rfl, Nat.le_of_ble_eq_true rfl⟩ hG hE hA hP hD hS (hst.1 255 (by decide)) hf2 rfl rfl hl.1 (As := []) (rest := [.int x13]) rfl (Nat.le_of_ble_eq_true rfl) dX11_over_15 ⟨Nat.le_of_ble_eq_true rfl, Nat.le_of_ble_eq_true rfl⟩) hA hD hS (fun r17 L18 f19 H locs hp20 hP hD hS => ?_)
    obtain ⟨eL21L, eL21T, eL21R, eL21X0⟩ := hp20
    have eL21L : L18 = L := eL21L
    have eL21T : f19 = f := eL21T
    rw [eL21L, eL21T] at hP hD
    have eL21R : In r17 2 3 := eL21R
    have hrn22 : r17.toInt = rnd (th 10) := eL21X0
    refine lv_idiv hx hb dX11_over_18 (In.ne0 eL21R (by decide)) ?_
    refine lv_topi (fun x23 ex23 => ?_)
    have hb24 : In x23 0 9 := ex23 ▸ In.div hb15 eL21R (by decide) (by decide) (by decide) (by decide)
    have hb25 : In x23 0 6 := ph6 (div_b ex23 (Int.le_trans (by decide) hb15.1) hrn22) (by omega) hb24
    refine lv_goto (tgt := 23) hx hb dX11_over_19 (by decide) ?_
    exact ret_i (ty := .int) hx hb hr hlocks (rfl) hP hD hS (Nat.le_of_ble_eq_true rfl) (Nat.le_of_ble_eq_true rfl) (⟨rfl, rfl, hb25, (Or.inr (by have ob10 : (0 : Int) ≤ (th 10) ∧ (th 10) ≤ 1 := (b0_10 hT :); have ob11 : (0 : Int) ≤ (th 11) ∧ (th 11) ≤ 9 := (b0_11 hT :); have ob12 : (0 : Int) ≤ (th 12) ∧ (th 12) ≤ 6 := (b0_12 hT :); have ob14 : (0 : Int) ≤ (th 14) ∧ (th 14) ≤ 511 := (b0_14 hT :); have ob15 : (0 : Int) ≤ (th 15) ∧ (th 15) ≤ 1 := (b0_15 hT :); have ob16 : (0 : Int) ≤ (th 16) ∧ (th 16) ≤ 20 := (b0_16 hT :); have ob17 : (0 : Int) ≤ (th 17) ∧ (th 17) ≤ 1 := (b0_17 hT :); have ob18 : (0 : Int) ≤ (th 18) ∧ (th 18) ≤ 18 := (b0_18 hT :); have ob38 : (0 : Int) ≤ (th 38) ∧ (th 38) ≤ 400 := (b0_38 hT :); have ob39 : (0 : Int) ≤ (th 39) ∧ (th 39) ≤ 200 := (b0_39 hT :); have ob44 : (0 : Int) ≤ (th 44) ∧ (th 44) ≤ 30 := (b0_44 hT :); have orn := rnd_b (th 10); obtain ⟨o0a, o0b⟩ := (hv14_1 : In _ _ _); obtain ⟨o1a, o1b⟩ := (hv15_1 : In _ _ _); obtain ⟨o2a, o2b⟩ := (hv17_1 : In _ _ _); obtain ⟨o3a, o3b⟩ := (hv20_1 : In _ _ _); obtain ⟨o4a, o4b⟩ := (hb7 : In _ _ _); obtain ⟨o5a, o5b⟩ := (hv25_1 : In _ _ _); obtain ⟨o6a, o6b⟩ := (hv36_1 : In _ _ _); obtain ⟨o7a, o7b⟩ := (hv47_1 : In _ _ _); obtain ⟨o8a, o8b⟩ := (hv48_1 : In _ _ _); obtain ⟨o9a, o9b⟩ := (hv53_1 : In _ _ _); obtain ⟨o10a, o10b⟩ := (hv55_1 : In _ _ _); omega))⟩) dX11_over_23

abbrev rm_X11_heldBehind : Room := { frames := 1, cells := 0, slots := 0, locals := 21 }
abbrev po_X11_heldBehind (g : GG) (ad : Nat → Nat) (th : Nat → Int) (L : List Nat) (f : HP) (z1 : Int32) (z2 : Int32) : Int32 → (List Nat × HP) → Prop := fun _ u => u.1 = L ∧ u.2 = f
set_option maxHeartbeats 4000000 in
set_option maxRecDepth 100000 in
theorem s_X11_heldBehind (l : Launch) (g : GG) (ad : Nat → Nat) (th : Nat → Int) (L : List Nat) (f : HP) (sz : Nat) (z1 : Int32) (z2 : Int32) (hst : ST ad L) (hT : TI g ad th f) (hz1 : In z1 (-1) 5) (hz2 : In z2 0 8) : MtI l g yX11_heldBehind cX11_heldBehind 3 (some .int) rm_X11_heldBehind [.ref (ad 255), .int z1, .int z2] L f sz (po_X11_heldBehind g ad th L f z1 z2) := by
  refine MtI.of (by decide +kernel) (Nat.le_of_ble_eq_true rfl) ?_
  intro p e s m below meth c A hEn hP hD hS ls hl
  obtain ⟨hx, hb, hr, hml, hown, hlocks, hts, hG, hA, hE, hnm⟩ := hEn
  have hown : s.vm.findClass "RulerWordModel" = some m.cls := hown
  have hl : lv_has ls 3 [(0, .ref (ad 255)), (1, .int z1), (2, .int z2)] := hl
  refine lv_iload_n hx hb dX11_heldBehind_0 rfl (lv_at hl 1 rfl) ?_
  refine lv_if_ge (tgt := 18) hx hb dX11_heldBehind_1 (by decide) (fun c1 => ?_) (fun c1 => ?_)
  ·
    have cc2 : (0 : Int32).toInt ≤ z1.toInt := i32_le.mp c1
    have hb3 : In z1 0 5 := In.ge1 hz1 (⟨by decide, by decide⟩ : In 0 0 0) cc2 (by omega) (by omega)
    refine lv_aload_n hx hb dX11_heldBehind_18 rfl (lv_at hl 0 rfl) ?_
    refine M0e hT (fun v0_4 v2_4 v3_4 v4_4 v5_4 v6_4 v8_4 v9_4 v12_4 v13_4 v14_4 v15_4 v16_4 v17_4 v18_4 v19_4 v20_4 v21_4 v22_4 v23_4 v25_4 v36_4 v37_4 v38_4 v39_4 v40_4 v45_4 v46_4 v47_4 v48_4 v50_4 v51_4 v53_4 v55_4 hf5 hv0_4 hv2_4 hg2_4 hv3_4 hg3_4 hv4_4 hg4_4 hv5_4 hg5_4 hv6_4 hg6_4 hv8_4 hg8_4 hv9_4 hg9_4 hv12_4 hv13_4 hg13_4 hv14_4 hg14_4 hv15_4 hg15_4 hv17_4 hg17_4 hv20_4 hg20_4 hv23_4 hg23_4 hv25_4 hg25_4 hv36_4 hg36_4 hv47_4 hg47_4 hv48_4 hg48_4 hv53_4 hg53_4 hv55_4 hg55_4 hrel0_4 => ?_)
    have hg15_4 : v15_4.toInt = th 11 := hg15_4
    have hg17_4 : v17_4.toInt = th 12 := hg17_4
    have hg20_4 : v20_4.toInt = th 14 := hg20_4
    refine pl_get (v := .ref (ad 271)) hx hb hts (fun w h => mT (inX11 w h)) hown hG.1 hP (hst.1 255 (by decide)) hf5 rfl 41 (by decide) (hts _ (mT wg_1377)) (fun _ h => h) rfl dX11_heldBehind_19 ?_
    refine lv_iload_n hx hb dX11_heldBehind_22 rfl (lv_at hl 1 rfl) ?_
    refine lv_iload_n hx hb dX11_heldBehind_23 rfl (lv_at hl 2 rfl) ?_
    refine call_i (run_S (rm := rm_X11_toldAt) hx hb hml hown hts (s_X11_toldAt l g ad th _ _ _ z1 z2 hst hT hb3 hz2) cS_X11_toldAt wg_1699 ⟨Nat.le_of_ble_eq_true rfl, Nat.le_of_ble_eq_true rfl⟩ hG hE hA hP hD hS rfl hl.1 (As := [.int z1, .int z2]) (rest := [.ref (ad 271)]) rfl (Nat.le_of_ble_eq_true rfl) dX11_heldBehind_24 ⟨Nat.le_of_ble_eq_true rfl, Nat.le_of_ble_eq_true rfl⟩) hA hD hS (fun r6 L7 f8 H locs hp9 hP hD hS => ?_)
    obtain ⟨eL10L, eL10T, eL10R⟩ := hp9
    have eL10L : L7 = L := eL10L
    have eL10T : f8 = f := eL10T
    rw [eL10L, eL10T] at hP hD
    have eL10R : In r6 1538 1962 := eL10R
    obtain ⟨rw11, hf12, hpi14, hc13⟩ := hT.2.2 16 (by decide)
    have hc13 : PRW 2126 (th 22) (th 20) (th 21) rw11 := hc13
    have hpi14 : ((72 : Int) < (th 22) → (rw11 72).toInt = th 19) := hpi14
    have hin15 : vp_in r6 2126 := In.inb eL10R (by decide) (by decide)
    refine pl_iald hx hb hG.1 hP (hst.1 271 (by decide)) 0 hf12 rfl hin15 dX11_heldBehind_27 ?_
    refine lv_topi (fun x16 ex16 => ?_)
    exact ret_i (ty := .int) hx hb hr hlocks (rfl) hP hD hS (Nat.le_of_ble_eq_true rfl) (Nat.le_of_ble_eq_true rfl) (⟨rfl, rfl⟩) dX11_heldBehind_28
  ·
    have cc17 : z1.toInt < (0 : Int32).toInt := i32_nle c1
    have hb18 : In z1 (-1) (-1) := In.lt1 hz1 (⟨by decide, by decide⟩ : In 0 0 0) cc17 (by omega) (by omega)
    refine lv_aload_n hx hb dX11_heldBehind_4 rfl (lv_at hl 0 rfl) ?_
    refine M0e hT (fun v0_19 v2_19 v3_19 v4_19 v5_19 v6_19 v8_19 v9_19 v12_19 v13_19 v14_19 v15_19 v16_19 v17_19 v18_19 v19_19 v20_19 v21_19 v22_19 v23_19 v25_19 v36_19 v37_19 v38_19 v39_19 v40_19 v45_19 v46_19 v47_19 v48_19 v50_19 v51_19 v53_19 v55_19 hf20 hv0_19 hv2_19 hg2_19 hv3_19 hg3_19 hv4_19 hg4_19 hv5_19 hg5_19 hv6_19 hg6_19 hv8_19 hg8_19 hv9_19 hg9_19 hv12_19 hv13_19 hg13_19 hv14_19 hg14_19 hv15_19 hg15_19 hv17_19 hg17_19 hv20_19 hg20_19 hv23_19 hg23_19 hv25_19 hg25_19 hv36_19 hg36_19 hv47_19 hg47_19 hv48_19 hg48_19 hv53_19 hg53_19 hv55_19 hg55_19 hrel0_19 => ?_)
    have hg15_19 : v15_19.toInt = th 11 := hg15_19
    have hg17_19 : v17_19.toInt = th 12 := hg17_19
    have hg20_19 : v20_19.toInt = th 14 := hg20_19
    refine pl_get (v := .ref (ad 271)) hx hb hts (fun w h => mT (inX11 w h)) hown hG.1 hP (hst.1 255 (by decide)) hf20 rfl 41 (by decide) (hts _ (mT wg_1377)) (fun _ h => h) rfl dX11_heldBehind_5 ?_
    refine lv_bipush (v := 75) hx hb dX11_heldBehind_8 (by decide) ?_
    obtain ⟨rw21, hf22, hpi24, hc23⟩ := hT.2.2 16 (by decide)
    have hc23 : PRW 2126 (th 22) (th 20) (th 21) rw21 := hc23
    have hpi24 : ((72 : Int) < (th 22) → (rw21 72).toInt = th 19) := hpi24
    have hin25 : vp_in 75 2126 := In.inb (⟨by decide, by decide⟩ : In 75 75 75) (by decide) (by decide)
    refine pl_iald hx hb hG.1 hP (hst.1 271 (by decide)) 0 hf22 rfl hin25 dX11_heldBehind_10 ?_
    refine lv_topi (fun x26 ex26 => ?_)
    refine lv_iload_n hx hb dX11_heldBehind_11 rfl (lv_at hl 2 rfl) ?_
    refine lv_ishr hx hb dX11_heldBehind_12 ?_
    refine lv_topi (fun x27 ex27 => ?_)
    refine lv_iconst (v := 1) hx hb dX11_heldBehind_13 (by decide) ?_
    refine lv_iand hx hb dX11_heldBehind_14 ?_
    refine lv_topi (fun x28 ex28 => ?_)
    have hb29 : In x28 0 1 := ex28 ▸ In.andr (⟨by decide, by decide⟩ : In 1 1 1) (by decide)
    refine lv_goto (tgt := 28) hx hb dX11_heldBehind_15 (by decide) ?_
    exact ret_i (ty := .int) hx hb hr hlocks (rfl) hP hD hS (Nat.le_of_ble_eq_true rfl) (Nat.le_of_ble_eq_true rfl) (⟨rfl, rfl⟩) dX11_heldBehind_28

abbrev rm_X11_isTrue : Room := { frames := 1, cells := 0, slots := 0, locals := 21 }
abbrev po_X11_isTrue (g : GG) (ad : Nat → Nat) (th : Nat → Int) (L : List Nat) (f : HP) (z1 : Int32) : Int32 → (List Nat × HP) → Prop := fun r u => u.1 = L ∧ u.2 = f ∧ In r 0 1
set_option maxHeartbeats 4000000 in
set_option maxRecDepth 100000 in
theorem s_X11_isTrue (l : Launch) (g : GG) (ad : Nat → Nat) (th : Nat → Int) (L : List Nat) (f : HP) (sz : Nat) (z1 : Int32) (hst : ST ad L) (hT : TI g ad th f)  : MtI l g yX11_isTrue cX11_isTrue 2 (some .boolean) rm_X11_isTrue [.ref (ad 255), .int z1] L f sz (po_X11_isTrue g ad th L f z1) := by
  refine MtI.of (by decide +kernel) (Nat.le_of_ble_eq_true rfl) ?_
  intro p e s m below meth c A hEn hP hD hS ls hl
  obtain ⟨hx, hb, hr, hml, hown, hlocks, hts, hG, hA, hE, hnm⟩ := hEn
  have hown : s.vm.findClass "RulerWordModel" = some m.cls := hown
  have hl : lv_has ls 2 [(0, .ref (ad 255)), (1, .int z1)] := hl
  refine lv_aload_n hx hb dX11_isTrue_0 rfl (lv_at hl 0 rfl) ?_
  refine M0e hT (fun v0_1 v2_1 v3_1 v4_1 v5_1 v6_1 v8_1 v9_1 v12_1 v13_1 v14_1 v15_1 v16_1 v17_1 v18_1 v19_1 v20_1 v21_1 v22_1 v23_1 v25_1 v36_1 v37_1 v38_1 v39_1 v40_1 v45_1 v46_1 v47_1 v48_1 v50_1 v51_1 v53_1 v55_1 hf2 hv0_1 hv2_1 hg2_1 hv3_1 hg3_1 hv4_1 hg4_1 hv5_1 hg5_1 hv6_1 hg6_1 hv8_1 hg8_1 hv9_1 hg9_1 hv12_1 hv13_1 hg13_1 hv14_1 hg14_1 hv15_1 hg15_1 hv17_1 hg17_1 hv20_1 hg20_1 hv23_1 hg23_1 hv25_1 hg25_1 hv36_1 hg36_1 hv47_1 hg47_1 hv48_1 hg48_1 hv53_1 hg53_1 hv55_1 hg55_1 hrel0_1 => ?_)
  have hg15_1 : v15_1.toInt = th 11 := hg15_1
  have hg17_1 : v17_1.toInt = th 12 := hg17_1
  have hg20_1 : v20_1.toInt = th 14 := hg20_1
  refine pl_get (v := .ref (ad 271)) hx hb hts (fun w h => mT (inX11 w h)) hown hG.1 hP (hst.1 255 (by decide)) hf2 rfl 41 (by decide) (hts _ (mT wg_1377)) (fun _ h => h) rfl dX11_isTrue_1 ?_
  refine lv_bipush (v := 76) hx hb dX11_isTrue_4 (by decide) ?_
  obtain ⟨rw3, hf4, hpi6, hc5⟩ := hT.2.2 16 (by decide)
  have hc5 : PRW 2126 (th 22) (th 20) (th 21) rw3 := hc5
  have hpi6 : ((72 : Int) < (th 22) → (rw3 72).toInt = th 19) := hpi6
  have hin7 : vp_in 76 2126 := In.inb (⟨by decide, by decide⟩ : In 76 76 76) (by decide) (by decide)
  refine pl_iald hx hb hG.1 hP (hst.1 271 (by decide)) 0 hf4 rfl hin7 dX11_isTrue_6 ?_
  refine lv_topi (fun x8 ex8 => ?_)
  refine lv_iload_n hx hb dX11_isTrue_7 rfl (lv_at hl 1 rfl) ?_
  refine call_i (run_S (rm := rm_X11_has) hx hb hml hown hts (s_X11_has l g ad th _ _ _ x8 z1 hst hT ) cS_X11_has wg_1563 ⟨Nat.le_of_ble_eq_true rfl, Nat.le_of_ble_eq_true rfl⟩ hG hE hA hP hD hS rfl hl.1 (As := [.int x8, .int z1]) (rest := []) rfl (Nat.le_of_ble_eq_true rfl) dX11_isTrue_8 ⟨Nat.le_of_ble_eq_true rfl, Nat.le_of_ble_eq_true rfl⟩) hA hD hS (fun r9 L10 f11 H locs hp12 hP hD hS => ?_)
  obtain ⟨eL13L, eL13T, eL13R, eL13X0⟩ := hp12
  have eL13L : L10 = L := eL13L
  have eL13T : f11 = f := eL13T
  rw [eL13L, eL13T] at hP hD
  have eL13R : In r9 0 1 := eL13R
  refine lv_if_ne (tgt := 18) hx hb dX11_isTrue_11 (by decide) (fun c14 => ?_) (fun c14 => ?_)
  ·
    have cc15 : r9.toInt ≠ (0 : Int32).toInt := i32_ne c14
    have hb16 : In r9 1 1 := In.ne1 eL13R (⟨by decide, by decide⟩ : In 0 0 0) cc15 (by omega) (by omega)
    refine lv_iconst (v := 0) hx hb dX11_isTrue_18 (by decide) ?_
    exact ret_i (ty := .boolean) hx hb hr hlocks (rfl) hP hD hS (Nat.le_of_ble_eq_true rfl) (Nat.le_of_ble_eq_true rfl) (⟨rfl, rfl, (⟨by decide, by decide⟩ : In 0 0 1)⟩) dX11_isTrue_19
  ·
    have cc17 : r9.toInt = (0 : Int32).toInt := congrArg Int32.toInt c14
    have hb18 : In r9 0 0 := In.eq1 eL13R (⟨by decide, by decide⟩ : In 0 0 0) cc17 (by omega) (by omega)
    refine lv_iconst (v := 1) hx hb dX11_isTrue_14 (by decide) ?_
    refine lv_goto (tgt := 19) hx hb dX11_isTrue_15 (by decide) ?_
    exact ret_i (ty := .boolean) hx hb hr hlocks (rfl) hP hD hS (Nat.le_of_ble_eq_true rfl) (Nat.le_of_ble_eq_true rfl) (⟨rfl, rfl, (⟨by decide, by decide⟩ : In 1 0 1)⟩) dX11_isTrue_19

abbrev rm_X11_areAgreedBehind : Room := { frames := 2, cells := 0, slots := 0, locals := 43 }
abbrev po_X11_areAgreedBehind (g : GG) (ad : Nat → Nat) (th : Nat → Int) (L : List Nat) (f : HP) (z1 : Int32) : Int32 → (List Nat × HP) → Prop := fun r u => u.1 = L ∧ u.2 = f ∧ In r 0 1
set_option maxHeartbeats 4000000 in
set_option maxRecDepth 100000 in
theorem s_X11_areAgreedBehind (l : Launch) (g : GG) (ad : Nat → Nat) (th : Nat → Int) (L : List Nat) (f : HP) (sz : Nat) (z1 : Int32) (hst : ST ad L) (hT : TI g ad th f) (hz1 : In z1 (-1) 5) : MtI l g yX11_areAgreedBehind cX11_areAgreedBehind 4 (some .boolean) rm_X11_areAgreedBehind [.ref (ad 255), .int z1] L f sz (po_X11_areAgreedBehind g ad th L f z1) := by
  refine MtI.of (by decide +kernel) (Nat.le_of_ble_eq_true rfl) ?_
  intro p e s m below meth c A hEn hP hD hS ls hl
  obtain ⟨hx, hb, hr, hml, hown, hlocks, hts, hG, hA, hE, hnm⟩ := hEn
  have hown : s.vm.findClass "RulerWordModel" = some m.cls := hown
  have hl : lv_has ls 4 [(0, .ref (ad 255)), (1, .int z1)] := hl
  refine lv_iconst (v := (-1)) hx hb dX11_areAgreedBehind_0 (by decide) ?_
  refine lv_istore_n (lv' := [(2, .int (-1)), (0, .ref (ad 255)), (1, .int z1)]) hx hb dX11_areAgreedBehind_1 rfl hl (by decide) rfl (fun ls hl => ?_)
  refine lv_iconst (v := 0) hx hb dX11_areAgreedBehind_2 (by decide) ?_
  refine lv_istore_n (lv' := [(3, .int 0), (2, .int (-1)), (0, .ref (ad 255)), (1, .int z1)]) hx hb dX11_areAgreedBehind_3 rfl hl (by decide) rfl (fun ls hl => ?_)
  have hJ4 : ∀ (k4 : Nat) (y4_l2 : Int32) (y4_l3 : Int32) (H : Heap) (locs : List Loc) (ls : Array Slot), In y4_l2 (-2147483648) 2147483647 → In y4_l3 0 9 → va_P g.1 vwCl (va_pl L f) H → va_D A (va_pl L f) → va_S A s.heap H locs → lv_has ls 4 [(0, .ref (ad 255)), (1, .int z1), (2, .int y4_l2), (3, .int y4_l3)] → 9 - y4_l3.toInt < ((k4 : Nat) : Int) → W p l e rm_X11_areAgreedBehind s m [.ref (ad 255), .int z1].toArray below meth c H locs 0 0 (MQ below (va_Qi (po_X11_areAgreedBehind g ad th L f z1) (PstB g A) A) [.ref (ad 255), .int z1].toArray s rm_X11_areAgreedBehind.cells rm_X11_areAgreedBehind.slots A) (F0 m 4 ls []) := by
    intro k4
    induction k4 with
    | zero =>
      intro y4_l2 y4_l3 H locs ls hy4_l2 hy4_l3 hP hD hS hl hmz4
      exact ms0 hy4_l3 hmz4
    | succ k4 ih4 =>
      intro y4_l2 y4_l3 H locs ls hy4_l2 hy4_l3 hP hD hS hl hmz4
      refine lv_iload_n hx hb dX11_areAgreedBehind_4 rfl (lv_at hl 3 rfl) ?_
      refine lv_aload_n hx hb dX11_areAgreedBehind_5 rfl (lv_at hl 0 rfl) ?_
      refine M0e hT (fun v0_1 v2_1 v3_1 v4_1 v5_1 v6_1 v8_1 v9_1 v12_1 v13_1 v14_1 v15_1 v16_1 v17_1 v18_1 v19_1 v20_1 v21_1 v22_1 v23_1 v25_1 v36_1 v37_1 v38_1 v39_1 v40_1 v45_1 v46_1 v47_1 v48_1 v50_1 v51_1 v53_1 v55_1 hf2 hv0_1 hv2_1 hg2_1 hv3_1 hg3_1 hv4_1 hg4_1 hv5_1 hg5_1 hv6_1 hg6_1 hv8_1 hg8_1 hv9_1 hg9_1 hv12_1 hv13_1 hg13_1 hv14_1 hg14_1 hv15_1 hg15_1 hv17_1 hg17_1 hv20_1 hg20_1 hv23_1 hg23_1 hv25_1 hg25_1 hv36_1 hg36_1 hv47_1 hg47_1 hv48_1 hg48_1 hv53_1 hg53_1 hv55_1 hg55_1 hrel0_1 => ?_)
      have hg15_1 : v15_1.toInt = th 11 := hg15_1
      have hg17_1 : v17_1.toInt = th 12 := hg17_1
      have hg20_1 : v20_1.toInt = th 14 := hg20_1
      refine pl_get (v := .int v15_1) hx hb hts (fun w h => mT (inX11 w h)) hown hG.1 hP (hst.1 255 (by decide)) hf2 rfl 15 (by decide) (hts _ (mT wg_1351)) (fun _ h => h) rfl dX11_areAgreedBehind_6 ?_
      refine lv_icmp_ge (tgt := 53) hx hb dX11_areAgreedBehind_9 (by decide) (fun c3 => ?_) (fun c3 => ?_)
      ·
        refine lv_iconst (v := 1) hx hb dX11_areAgreedBehind_53 (by decide) ?_
        exact ret_i (ty := .boolean) hx hb hr hlocks (rfl) hP hD hS (Nat.le_of_ble_eq_true rfl) (Nat.le_of_ble_eq_true rfl) (⟨rfl, rfl, (⟨by decide, by decide⟩ : In 1 0 1)⟩) dX11_areAgreedBehind_54
      ·
        have cc4 : y4_l3.toInt < v15_1.toInt := i32_nle c3
        have hb5 : In y4_l3 0 8 := In.lt1 hy4_l3 hv15_1 cc4 (by omega) (by omega)
        have hb6 : In v15_1 1 9 := In.lt2 hy4_l3 hv15_1 cc4 (by omega) (by omega)
        refine lv_aload_n hx hb dX11_areAgreedBehind_12 rfl (lv_at hl 0 rfl) ?_
        refine lv_iload_n hx hb dX11_areAgreedBehind_13 rfl (lv_at hl 3 rfl) ?_
        refine call_i (run_V (rm := rm_X11_isTrue) hx hb hml hown hts (s_X11_isTrue l g ad th _ _ _ y4_l3 hst hT ) cV_X11_isTrue wg_1782 ⟨Nat.le_of_ble_eq_true rfl, Nat.le_of_ble_eq_true rfl⟩ hG hE hA hP hD hS (hst.1 255 (by decide)) hf2 rfl rfl hl.1 (As := [.int y4_l3]) (rest := []) rfl (Nat.le_of_ble_eq_true rfl) dX11_areAgreedBehind_14 ⟨Nat.le_of_ble_eq_true rfl, Nat.le_of_ble_eq_true rfl⟩) hA hD hS (fun r7 L8 f9 H locs hp10 hP hD hS => ?_)
        obtain ⟨eL11L, eL11T, eL11R⟩ := hp10
        have eL11L : L8 = L := eL11L
        have eL11T : f9 = f := eL11T
        rw [eL11L, eL11T] at hP hD
        have eL11R : In r7 0 1 := eL11R
        have hJ47 : ∀ (y47_l2 : Int32) (H : Heap) (locs : List Loc) (ls : Array Slot), In y47_l2 (-2147483648) 2147483647 → va_P g.1 vwCl (va_pl L f) H → va_D A (va_pl L f) → va_S A s.heap H locs → lv_has ls 4 [(0, .ref (ad 255)), (1, .int z1), (2, .int y47_l2), (3, .int y4_l3)] → W p l e rm_X11_areAgreedBehind s m [.ref (ad 255), .int z1].toArray below meth c H locs 0 0 (MQ below (va_Qi (po_X11_areAgreedBehind g ad th L f z1) (PstB g A) A) [.ref (ad 255), .int z1].toArray s rm_X11_areAgreedBehind.cells rm_X11_areAgreedBehind.slots A) (F0 m 47 ls []) := by
          intro y47_l2 H locs ls hy47_l2 hP hD hS hl
          obtain ⟨x12, ex12⟩ : ∃ y : Int32, y = y4_l3 + 1 := ⟨_, rfl⟩
          have hb13 : In x12 1 9 := ex12 ▸ In.add hb5 (⟨by decide, by decide⟩ : In 1 1 1) (by decide) (by decide) (by decide) (by decide)
          have et14 : x12.toInt = y4_l3.toInt + 1 := In.adde ex12 hb5 (k := 1) (by decide) (by decide) (by decide)
          refine lv_iinc (v := x12) (lv' := [(3, .int x12), (0, .ref (ad 255)), (1, .int z1), (2, .int y47_l2)]) hx hb dX11_areAgreedBehind_47 hl (k := 3) rfl (by rw [ex12]; rfl) (by decide) rfl (fun ls hl => ?_)
          refine lv_goto (tgt := 4) hx hb dX11_areAgreedBehind_50 (by decide) ?_
          exact ih4 y47_l2 x12 _ _ _ hy47_l2 (In.mono hb13 (by decide) (by decide)) hP hD hS (lv_sub hl [1, 2, 3, 0] rfl) (msu et14 (by decide) hmz4)
        refine lv_if_ne (tgt := 23) hx hb dX11_areAgreedBehind_17 (by decide) (fun c15 => ?_) (fun c15 => ?_)
        ·
          have cc16 : r7.toInt ≠ (0 : Int32).toInt := i32_ne c15
          have hb17 : In r7 1 1 := In.ne1 eL11R (⟨by decide, by decide⟩ : In 0 0 0) cc16 (by omega) (by omega)
          refine lv_iload_n hx hb dX11_areAgreedBehind_23 rfl (lv_at hl 2 rfl) ?_
          refine lv_iconst (v := (-1)) hx hb dX11_areAgreedBehind_24 (by decide) ?_
          have hJ40 : ∀ (H : Heap) (locs : List Loc) (ls : Array Slot), va_P g.1 vwCl (va_pl L f) H → va_D A (va_pl L f) → va_S A s.heap H locs → lv_has ls 4 [(0, .ref (ad 255)), (1, .int z1), (2, .int y4_l2), (3, .int y4_l3)] → W p l e rm_X11_areAgreedBehind s m [.ref (ad 255), .int z1].toArray below meth c H locs 0 0 (MQ below (va_Qi (po_X11_areAgreedBehind g ad th L f z1) (PstB g A) A) [.ref (ad 255), .int z1].toArray s rm_X11_areAgreedBehind.cells rm_X11_areAgreedBehind.slots A) (F0 m 40 ls []) := by
            intro H locs ls hP hD hS hl
            refine lv_aload_n hx hb dX11_areAgreedBehind_40 rfl (lv_at hl 0 rfl) ?_
            refine lv_iload_n hx hb dX11_areAgreedBehind_41 rfl (lv_at hl 1 rfl) ?_
            refine lv_iload_n hx hb dX11_areAgreedBehind_42 rfl (lv_at hl 3 rfl) ?_
            refine call_i (run_V (rm := rm_X11_heldBehind) hx hb hml hown hts (s_X11_heldBehind l g ad th _ _ _ z1 y4_l3 hst hT hz1 hb5) cV_X11_heldBehind wg_1786 ⟨Nat.le_of_ble_eq_true rfl, Nat.le_of_ble_eq_true rfl⟩ hG hE hA hP hD hS (hst.1 255 (by decide)) hf2 rfl rfl hl.1 (As := [.int z1, .int y4_l3]) (rest := []) rfl (Nat.le_of_ble_eq_true rfl) dX11_areAgreedBehind_43 ⟨Nat.le_of_ble_eq_true rfl, Nat.le_of_ble_eq_true rfl⟩) hA hD hS (fun r18 L19 f20 H locs hp21 hP hD hS => ?_)
            obtain ⟨eL22L, eL22T⟩ := hp21
            have eL22L : L19 = L := eL22L
            have eL22T : f20 = f := eL22T
            rw [eL22L, eL22T] at hP hD
            refine lv_istore_n (lv' := [(2, .int r18), (0, .ref (ad 255)), (1, .int z1), (3, .int y4_l3)]) hx hb dX11_areAgreedBehind_46 rfl hl (by decide) rfl (fun ls hl => ?_)
            exact hJ47 r18 _ _ _ (In.full r18) hP hD hS (lv_sub hl [1, 2, 0, 3] rfl)
          refine lv_icmp_eq (tgt := 40) hx hb dX11_areAgreedBehind_25 (by decide) (fun c23 => ?_) (fun c23 => ?_)
          ·
            have cc24 : y4_l2.toInt = ((-1) : Int32).toInt := congrArg Int32.toInt c23
            have hb25 : In y4_l2 (-1) (-1) := In.eq1 hy4_l2 (⟨by decide, by decide⟩ : In (-1) (-1) (-1)) cc24 (by omega) (by omega)
            exact hJ40 _ _ _ hP hD hS (lv_sub hl [0, 1, 2, 3] rfl)
          ·
            refine lv_aload_n hx hb dX11_areAgreedBehind_28 rfl (lv_at hl 0 rfl) ?_
            refine lv_iload_n hx hb dX11_areAgreedBehind_29 rfl (lv_at hl 1 rfl) ?_
            refine lv_iload_n hx hb dX11_areAgreedBehind_30 rfl (lv_at hl 3 rfl) ?_
            refine call_i (run_V (rm := rm_X11_heldBehind) hx hb hml hown hts (s_X11_heldBehind l g ad th _ _ _ z1 y4_l3 hst hT hz1 hb5) cV_X11_heldBehind wg_1786 ⟨Nat.le_of_ble_eq_true rfl, Nat.le_of_ble_eq_true rfl⟩ hG hE hA hP hD hS (hst.1 255 (by decide)) hf2 rfl rfl hl.1 (As := [.int z1, .int y4_l3]) (rest := []) rfl (Nat.le_of_ble_eq_true rfl) dX11_areAgreedBehind_31 ⟨Nat.le_of_ble_eq_true rfl, Nat.le_of_ble_eq_true rfl⟩) hA hD hS (fun r26 L27 f28 H locs hp29 hP hD hS => ?_)
            obtain ⟨eL30L, eL30T⟩ := hp29
            have eL30L : L27 = L := eL30L
            have eL30T : f28 = f := eL30T
            rw [eL30L, eL30T] at hP hD
            refine lv_iload_n hx hb dX11_areAgreedBehind_34 rfl (lv_at hl 2 rfl) ?_
            refine lv_icmp_eq (tgt := 40) hx hb dX11_areAgreedBehind_35 (by decide) (fun c31 => ?_) (fun c31 => ?_)
            ·
              exact hJ40 _ _ _ hP hD hS (lv_sub hl [0, 1, 2, 3] rfl)
            ·
              refine lv_iconst (v := 0) hx hb dX11_areAgreedBehind_38 (by decide) ?_
              exact ret_i (ty := .boolean) hx hb hr hlocks (rfl) hP hD hS (Nat.le_of_ble_eq_true rfl) (Nat.le_of_ble_eq_true rfl) (⟨rfl, rfl, (⟨by decide, by decide⟩ : In 0 0 1)⟩) dX11_areAgreedBehind_39
        ·
          have cc32 : r7.toInt = (0 : Int32).toInt := congrArg Int32.toInt c15
          have hb33 : In r7 0 0 := In.eq1 eL11R (⟨by decide, by decide⟩ : In 0 0 0) cc32 (by omega) (by omega)
          refine lv_goto (tgt := 47) hx hb dX11_areAgreedBehind_20 (by decide) ?_
          exact hJ47 y4_l2 _ _ _ hy4_l2 hP hD hS (lv_sub hl [0, 1, 2, 3] rfl)
  exact hJ4 ((9 - (0 : Int32).toInt).toNat + 1) (-1) 0 _ _ _ (⟨by decide, by decide⟩ : In (-1) (-2147483648) 2147483647) (⟨by decide, by decide⟩ : In 0 0 9) hP hD hS (lv_sub hl [2, 3, 1, 0] rfl) (msI _)

abbrev rm_X11_trueOnes : Room := { frames := 2, cells := 0, slots := 0, locals := 43 }
abbrev po_X11_trueOnes (g : GG) (ad : Nat → Nat) (th : Nat → Int) (L : List Nat) (f : HP) (z1 : Int32) : Int32 → (List Nat × HP) → Prop := fun _ u => u.1 = L ∧ u.2 = f
set_option maxHeartbeats 4000000 in
set_option maxRecDepth 100000 in
theorem s_X11_trueOnes (l : Launch) (g : GG) (ad : Nat → Nat) (th : Nat → Int) (L : List Nat) (f : HP) (sz : Nat) (z1 : Int32) (hst : ST ad L) (hT : TI g ad th f) (hz1 : In z1 (-1) 5) : MtI l g yX11_trueOnes cX11_trueOnes 4 (some .int) rm_X11_trueOnes [.ref (ad 255), .int z1] L f sz (po_X11_trueOnes g ad th L f z1) := by
  refine MtI.of (by decide +kernel) (Nat.le_of_ble_eq_true rfl) ?_
  intro p e s m below meth c A hEn hP hD hS ls hl
  obtain ⟨hx, hb, hr, hml, hown, hlocks, hts, hG, hA, hE, hnm⟩ := hEn
  have hown : s.vm.findClass "RulerWordModel" = some m.cls := hown
  have hl : lv_has ls 4 [(0, .ref (ad 255)), (1, .int z1)] := hl
  refine lv_iconst (v := 0) hx hb dX11_trueOnes_0 (by decide) ?_
  refine lv_istore_n (lv' := [(2, .int 0), (0, .ref (ad 255)), (1, .int z1)]) hx hb dX11_trueOnes_1 rfl hl (by decide) rfl (fun ls hl => ?_)
  refine lv_iconst (v := 0) hx hb dX11_trueOnes_2 (by decide) ?_
  refine lv_istore_n (lv' := [(3, .int 0), (2, .int 0), (0, .ref (ad 255)), (1, .int z1)]) hx hb dX11_trueOnes_3 rfl hl (by decide) rfl (fun ls hl => ?_)
  have hJ4 : ∀ (k4 : Nat) (y4_l2 : Int32) (y4_l3 : Int32) (H : Heap) (locs : List Loc) (ls : Array Slot), In y4_l2 (-2147483648) 2147483647 → In y4_l3 0 9 → va_P g.1 vwCl (va_pl L f) H → va_D A (va_pl L f) → va_S A s.heap H locs → lv_has ls 4 [(0, .ref (ad 255)), (1, .int z1), (2, .int y4_l2), (3, .int y4_l3)] → 9 - y4_l3.toInt < ((k4 : Nat) : Int) → W p l e rm_X11_trueOnes s m [.ref (ad 255), .int z1].toArray below meth c H locs 0 0 (MQ below (va_Qi (po_X11_trueOnes g ad th L f z1) (PstB g A) A) [.ref (ad 255), .int z1].toArray s rm_X11_trueOnes.cells rm_X11_trueOnes.slots A) (F0 m 4 ls []) := by
    intro k4
    induction k4 with
    | zero =>
      intro y4_l2 y4_l3 H locs ls hy4_l2 hy4_l3 hP hD hS hl hmz4
      exact ms0 hy4_l3 hmz4
    | succ k4 ih4 =>
      intro y4_l2 y4_l3 H locs ls hy4_l2 hy4_l3 hP hD hS hl hmz4
      refine lv_iload_n hx hb dX11_trueOnes_4 rfl (lv_at hl 3 rfl) ?_
      refine lv_aload_n hx hb dX11_trueOnes_5 rfl (lv_at hl 0 rfl) ?_
      refine M0e hT (fun v0_1 v2_1 v3_1 v4_1 v5_1 v6_1 v8_1 v9_1 v12_1 v13_1 v14_1 v15_1 v16_1 v17_1 v18_1 v19_1 v20_1 v21_1 v22_1 v23_1 v25_1 v36_1 v37_1 v38_1 v39_1 v40_1 v45_1 v46_1 v47_1 v48_1 v50_1 v51_1 v53_1 v55_1 hf2 hv0_1 hv2_1 hg2_1 hv3_1 hg3_1 hv4_1 hg4_1 hv5_1 hg5_1 hv6_1 hg6_1 hv8_1 hg8_1 hv9_1 hg9_1 hv12_1 hv13_1 hg13_1 hv14_1 hg14_1 hv15_1 hg15_1 hv17_1 hg17_1 hv20_1 hg20_1 hv23_1 hg23_1 hv25_1 hg25_1 hv36_1 hg36_1 hv47_1 hg47_1 hv48_1 hg48_1 hv53_1 hg53_1 hv55_1 hg55_1 hrel0_1 => ?_)
      have hg15_1 : v15_1.toInt = th 11 := hg15_1
      have hg17_1 : v17_1.toInt = th 12 := hg17_1
      have hg20_1 : v20_1.toInt = th 14 := hg20_1
      refine pl_get (v := .int v15_1) hx hb hts (fun w h => mT (inX11 w h)) hown hG.1 hP (hst.1 255 (by decide)) hf2 rfl 15 (by decide) (hts _ (mT wg_1351)) (fun _ h => h) rfl dX11_trueOnes_6 ?_
      refine lv_icmp_ge (tgt := 39) hx hb dX11_trueOnes_9 (by decide) (fun c3 => ?_) (fun c3 => ?_)
      ·
        refine lv_iload_n hx hb dX11_trueOnes_39 rfl (lv_at hl 2 rfl) ?_
        exact ret_i (ty := .int) hx hb hr hlocks (rfl) hP hD hS (Nat.le_of_ble_eq_true rfl) (Nat.le_of_ble_eq_true rfl) (⟨rfl, rfl⟩) dX11_trueOnes_40
      ·
        have cc4 : y4_l3.toInt < v15_1.toInt := i32_nle c3
        have hb5 : In y4_l3 0 8 := In.lt1 hy4_l3 hv15_1 cc4 (by omega) (by omega)
        have hb6 : In v15_1 1 9 := In.lt2 hy4_l3 hv15_1 cc4 (by omega) (by omega)
        refine lv_iload_n hx hb dX11_trueOnes_12 rfl (lv_at hl 2 rfl) ?_
        refine lv_aload_n hx hb dX11_trueOnes_13 rfl (lv_at hl 0 rfl) ?_
        refine lv_iload_n hx hb dX11_trueOnes_14 rfl (lv_at hl 3 rfl) ?_
        refine call_i (run_V (rm := rm_X11_isTrue) hx hb hml hown hts (s_X11_isTrue l g ad th _ _ _ y4_l3 hst hT ) cV_X11_isTrue wg_1782 ⟨Nat.le_of_ble_eq_true rfl, Nat.le_of_ble_eq_true rfl⟩ hG hE hA hP hD hS (hst.1 255 (by decide)) hf2 rfl rfl hl.1 (As := [.int y4_l3]) (rest := [.int y4_l2]) rfl (Nat.le_of_ble_eq_true rfl) dX11_trueOnes_15 ⟨Nat.le_of_ble_eq_true rfl, Nat.le_of_ble_eq_true rfl⟩) hA hD hS (fun r7 L8 f9 H locs hp10 hP hD hS => ?_)
        obtain ⟨eL11L, eL11T, eL11R⟩ := hp10
        have eL11L : L8 = L := eL11L
        have eL11T : f9 = f := eL11T
        rw [eL11L, eL11T] at hP hD
        have eL11R : In r7 0 1 := eL11R
        have hJ31 : ∀ (y31_s0 : Int32) (H : Heap) (locs : List Loc) (ls : Array Slot), In y31_s0 (-2147483648) 2147483647 → va_P g.1 vwCl (va_pl L f) H → va_D A (va_pl L f) → va_S A s.heap H locs → lv_has ls 4 [(0, .ref (ad 255)), (1, .int z1), (2, .int y4_l2), (3, .int y4_l3)] → W p l e rm_X11_trueOnes s m [.ref (ad 255), .int z1].toArray below meth c H locs 0 0 (MQ below (va_Qi (po_X11_trueOnes g ad th L f z1) (PstB g A) A) [.ref (ad 255), .int z1].toArray s rm_X11_trueOnes.cells rm_X11_trueOnes.slots A) (F0 m 31 ls [.int y31_s0, .int y4_l2]) := by
          intro y31_s0 H locs ls hy31_s0 hP hD hS hl
          refine lv_iadd hx hb dX11_trueOnes_31 ?_
          refine lv_topi (fun x12 ex12 => ?_)
          refine lv_istore_n (lv' := [(2, .int x12), (0, .ref (ad 255)), (1, .int z1), (3, .int y4_l3)]) hx hb dX11_trueOnes_32 rfl hl (by decide) rfl (fun ls hl => ?_)
          obtain ⟨x13, ex13⟩ : ∃ y : Int32, y = y4_l3 + 1 := ⟨_, rfl⟩
          have hb14 : In x13 1 9 := ex13 ▸ In.add hb5 (⟨by decide, by decide⟩ : In 1 1 1) (by decide) (by decide) (by decide) (by decide)
          have et15 : x13.toInt = y4_l3.toInt + 1 := In.adde ex13 hb5 (k := 1) (by decide) (by decide) (by decide)
          refine lv_iinc (v := x13) (lv' := [(3, .int x13), (2, .int x12), (0, .ref (ad 255)), (1, .int z1)]) hx hb dX11_trueOnes_33 hl (k := 3) rfl (by rw [ex13]; rfl) (by decide) rfl (fun ls hl => ?_)
          refine lv_goto (tgt := 4) hx hb dX11_trueOnes_36 (by decide) ?_
          exact ih4 x12 x13 _ _ _ (In.full x12) (In.mono hb14 (by decide) (by decide)) hP hD hS (lv_sub hl [2, 3, 1, 0] rfl) (msu et15 (by decide) hmz4)
        refine lv_if_eq (tgt := 30) hx hb dX11_trueOnes_18 (by decide) (fun c16 => ?_) (fun c16 => ?_)
        ·
          have cc17 : r7.toInt = (0 : Int32).toInt := congrArg Int32.toInt c16
          have hb18 : In r7 0 0 := In.eq1 eL11R (⟨by decide, by decide⟩ : In 0 0 0) cc17 (by omega) (by omega)
          refine lv_iconst (v := 0) hx hb dX11_trueOnes_30 (by decide) ?_
          exact hJ31 0 _ _ _ (⟨by decide, by decide⟩ : In 0 (-2147483648) 2147483647) hP hD hS (lv_sub hl [0, 1, 2, 3] rfl)
        ·
          have cc19 : r7.toInt ≠ (0 : Int32).toInt := i32_ne c16
          have hb20 : In r7 1 1 := In.ne1 eL11R (⟨by decide, by decide⟩ : In 0 0 0) cc19 (by omega) (by omega)
          refine lv_aload_n hx hb dX11_trueOnes_21 rfl (lv_at hl 0 rfl) ?_
          refine lv_iload_n hx hb dX11_trueOnes_22 rfl (lv_at hl 1 rfl) ?_
          refine lv_iload_n hx hb dX11_trueOnes_23 rfl (lv_at hl 3 rfl) ?_
          refine call_i (run_V (rm := rm_X11_heldBehind) hx hb hml hown hts (s_X11_heldBehind l g ad th _ _ _ z1 y4_l3 hst hT hz1 hb5) cV_X11_heldBehind wg_1786 ⟨Nat.le_of_ble_eq_true rfl, Nat.le_of_ble_eq_true rfl⟩ hG hE hA hP hD hS (hst.1 255 (by decide)) hf2 rfl rfl hl.1 (As := [.int z1, .int y4_l3]) (rest := [.int y4_l2]) rfl (Nat.le_of_ble_eq_true rfl) dX11_trueOnes_24 ⟨Nat.le_of_ble_eq_true rfl, Nat.le_of_ble_eq_true rfl⟩) hA hD hS (fun r21 L22 f23 H locs hp24 hP hD hS => ?_)
          obtain ⟨eL25L, eL25T⟩ := hp24
          have eL25L : L22 = L := eL25L
          have eL25T : f23 = f := eL25T
          rw [eL25L, eL25T] at hP hD
          refine lv_goto (tgt := 31) hx hb dX11_trueOnes_27 (by decide) ?_
          exact hJ31 r21 _ _ _ (In.full r21) hP hD hS (lv_sub hl [0, 1, 2, 3] rfl)
  exact hJ4 ((9 - (0 : Int32).toInt).toNat + 1) 0 0 _ _ _ (⟨by decide, by decide⟩ : In 0 (-2147483648) 2147483647) (⟨by decide, by decide⟩ : In 0 0 9) hP hD hS (lv_sub hl [2, 3, 1, 0] rfl) (msI _)

abbrev rm_X11_isSomeStart : Room := { frames := 3, cells := 0, slots := 0, locals := 66 }
abbrev po_X11_isSomeStart (g : GG) (ad : Nat → Nat) (th : Nat → Int) (L : List Nat) (f : HP) (z1 : Int32) : Int32 → (List Nat × HP) → Prop := fun r u => u.1 = L ∧ u.2 = f ∧ In r 0 1
set_option maxHeartbeats 4000000 in
set_option maxRecDepth 100000 in
theorem s_X11_isSomeStart (l : Launch) (g : GG) (ad : Nat → Nat) (th : Nat → Int) (L : List Nat) (f : HP) (sz : Nat) (z1 : Int32) (hst : ST ad L) (hT : TI g ad th f) (hz1 : In z1 (-1) 5) : MtI l g yX11_isSomeStart cX11_isSomeStart 4 (some .boolean) rm_X11_isSomeStart [.ref (ad 255), .int z1] L f sz (po_X11_isSomeStart g ad th L f z1) := by
  refine MtI.of (by decide +kernel) (Nat.le_of_ble_eq_true rfl) ?_
  intro p e s m below meth c A hEn hP hD hS ls hl
  obtain ⟨hx, hb, hr, hml, hown, hlocks, hts, hG, hA, hE, hnm⟩ := hEn
  have hown : s.vm.findClass "RulerWordModel" = some m.cls := hown
  have hl : lv_has ls 4 [(0, .ref (ad 255)), (1, .int z1)] := hl
  refine lv_aload_n hx hb dX11_isSomeStart_0 rfl (lv_at hl 0 rfl) ?_
  refine lv_iload_n hx hb dX11_isSomeStart_1 rfl (lv_at hl 1 rfl) ?_
  refine M0e hT (fun v0_1 v2_1 v3_1 v4_1 v5_1 v6_1 v8_1 v9_1 v12_1 v13_1 v14_1 v15_1 v16_1 v17_1 v18_1 v19_1 v20_1 v21_1 v22_1 v23_1 v25_1 v36_1 v37_1 v38_1 v39_1 v40_1 v45_1 v46_1 v47_1 v48_1 v50_1 v51_1 v53_1 v55_1 hf2 hv0_1 hv2_1 hg2_1 hv3_1 hg3_1 hv4_1 hg4_1 hv5_1 hg5_1 hv6_1 hg6_1 hv8_1 hg8_1 hv9_1 hg9_1 hv12_1 hv13_1 hg13_1 hv14_1 hg14_1 hv15_1 hg15_1 hv17_1 hg17_1 hv20_1 hg20_1 hv23_1 hg23_1 hv25_1 hg25_1 hv36_1 hg36_1 hv47_1 hg47_1 hv48_1 hg48_1 hv53_1 hg53_1 hv55_1 hg55_1 hrel0_1 => ?_)
  have hg15_1 : v15_1.toInt = th 11 := hg15_1
  have hg17_1 : v17_1.toInt = th 12 := hg17_1
  have hg20_1 : v20_1.toInt = th 14 := hg20_1
  refine call_i (run_V (rm := rm_X11_trueOnes) hx hb hml hown hts (s_X11_trueOnes l g ad th _ _ _ z1 hst hT hz1) cV_X11_trueOnes wg_1794 ⟨Nat.le_of_ble_eq_true rfl, Nat.le_of_ble_eq_true rfl⟩ hG hE hA hP hD hS (hst.1 255 (by decide)) hf2 rfl rfl hl.1 (As := [.int z1]) (rest := []) rfl (Nat.le_of_ble_eq_true rfl) dX11_isSomeStart_2 ⟨Nat.le_of_ble_eq_true rfl, Nat.le_of_ble_eq_true rfl⟩) hA hD hS (fun r3 L4 f5 H locs hp6 hP hD hS => ?_)
  obtain ⟨eL7L, eL7T⟩ := hp6
  have eL7L : L4 = L := eL7L
  have eL7T : f5 = f := eL7T
  rw [eL7L, eL7T] at hP hD
  have hJ13 : ∀ (y13_s0 : Int32) (H : Heap) (locs : List Loc) (ls : Array Slot), In y13_s0 0 1 → va_P g.1 vwCl (va_pl L f) H → va_D A (va_pl L f) → va_S A s.heap H locs → lv_has ls 4 [(0, .ref (ad 255)), (1, .int z1)] → W p l e rm_X11_isSomeStart s m [.ref (ad 255), .int z1].toArray below meth c H locs 0 0 (MQ below (va_Qi (po_X11_isSomeStart g ad th L f z1) (PstB g A) A) [.ref (ad 255), .int z1].toArray s rm_X11_isSomeStart.cells rm_X11_isSomeStart.slots A) (F0 m 13 ls [.int y13_s0]) := by
    intro y13_s0 H locs ls hy13_s0 hP hD hS hl
    refine lv_istore_n (lv' := [(2, .int y13_s0), (0, .ref (ad 255)), (1, .int z1)]) hx hb dX11_isSomeStart_13 rfl hl (by decide) rfl (fun ls hl => ?_)
    refine lv_iconst (v := 0) hx hb dX11_isSomeStart_14 (by decide) ?_
    refine lv_istore_n (lv' := [(3, .int 0), (2, .int y13_s0), (0, .ref (ad 255)), (1, .int z1)]) hx hb dX11_isSomeStart_15 rfl hl (by decide) rfl (fun ls hl => ?_)
    have hJ16 : ∀ (k16 : Nat) (y16_l3 : Int32) (H : Heap) (locs : List Loc) (ls : Array Slot), In y16_l3 0 9 → va_P g.1 vwCl (va_pl L f) H → va_D A (va_pl L f) → va_S A s.heap H locs → lv_has ls 4 [(0, .ref (ad 255)), (1, .int z1), (2, .int y13_s0), (3, .int y16_l3)] → 9 - y16_l3.toInt < ((k16 : Nat) : Int) → W p l e rm_X11_isSomeStart s m [.ref (ad 255), .int z1].toArray below meth c H locs 0 0 (MQ below (va_Qi (po_X11_isSomeStart g ad th L f z1) (PstB g A) A) [.ref (ad 255), .int z1].toArray s rm_X11_isSomeStart.cells rm_X11_isSomeStart.slots A) (F0 m 16 ls []) := by
      intro k16
      induction k16 with
      | zero =>
        intro y16_l3 H locs ls hy16_l3 hP hD hS hl hmz16
        exact ms0 hy16_l3 hmz16
      | succ k16 ih16 =>
        intro y16_l3 H locs ls hy16_l3 hP hD hS hl hmz16
        refine lv_iload_n hx hb dX11_isSomeStart_16 rfl (lv_at hl 3 rfl) ?_
        refine lv_aload_n hx hb dX11_isSomeStart_17 rfl (lv_at hl 0 rfl) ?_
        refine pl_get (v := .int v15_1) hx hb hts (fun w h => mT (inX11 w h)) hown hG.1 hP (hst.1 255 (by decide)) hf2 rfl 15 (by decide) (hts _ (mT wg_1351)) (fun _ h => h) rfl dX11_isSomeStart_18 ?_
        refine lv_icmp_ge (tgt := 50) hx hb dX11_isSomeStart_21 (by decide) (fun c8 => ?_) (fun c8 => ?_)
        ·
          refine lv_iconst (v := 0) hx hb dX11_isSomeStart_50 (by decide) ?_
          exact ret_i (ty := .boolean) hx hb hr hlocks (rfl) hP hD hS (Nat.le_of_ble_eq_true rfl) (Nat.le_of_ble_eq_true rfl) (⟨rfl, rfl, (⟨by decide, by decide⟩ : In 0 0 1)⟩) dX11_isSomeStart_51
        ·
          have cc9 : y16_l3.toInt < v15_1.toInt := i32_nle c8
          have hb10 : In y16_l3 0 8 := In.lt1 hy16_l3 hv15_1 cc9 (by omega) (by omega)
          have hb11 : In v15_1 1 9 := In.lt2 hy16_l3 hv15_1 cc9 (by omega) (by omega)
          refine lv_aload_n hx hb dX11_isSomeStart_24 rfl (lv_at hl 0 rfl) ?_
          refine lv_iload_n hx hb dX11_isSomeStart_25 rfl (lv_at hl 3 rfl) ?_
          refine call_i (run_V (rm := rm_X11_isTrue) hx hb hml hown hts (s_X11_isTrue l g ad th _ _ _ y16_l3 hst hT ) cV_X11_isTrue wg_1782 ⟨Nat.le_of_ble_eq_true rfl, Nat.le_of_ble_eq_true rfl⟩ hG hE hA hP hD hS (hst.1 255 (by decide)) hf2 rfl rfl hl.1 (As := [.int y16_l3]) (rest := []) rfl (Nat.le_of_ble_eq_true rfl) dX11_isSomeStart_26 ⟨Nat.le_of_ble_eq_true rfl, Nat.le_of_ble_eq_true rfl⟩) hA hD hS (fun r12 L13 f14 H locs hp15 hP hD hS => ?_)
          obtain ⟨eL16L, eL16T, eL16R⟩ := hp15
          have eL16L : L13 = L := eL16L
          have eL16T : f14 = f := eL16T
          rw [eL16L, eL16T] at hP hD
          have eL16R : In r12 0 1 := eL16R
          have hJ44 : ∀ (H : Heap) (locs : List Loc) (ls : Array Slot), va_P g.1 vwCl (va_pl L f) H → va_D A (va_pl L f) → va_S A s.heap H locs → lv_has ls 4 [(0, .ref (ad 255)), (1, .int z1), (2, .int y13_s0), (3, .int y16_l3)] → W p l e rm_X11_isSomeStart s m [.ref (ad 255), .int z1].toArray below meth c H locs 0 0 (MQ below (va_Qi (po_X11_isSomeStart g ad th L f z1) (PstB g A) A) [.ref (ad 255), .int z1].toArray s rm_X11_isSomeStart.cells rm_X11_isSomeStart.slots A) (F0 m 44 ls []) := by
            intro H locs ls hP hD hS hl
            obtain ⟨x17, ex17⟩ : ∃ y : Int32, y = y16_l3 + 1 := ⟨_, rfl⟩
            have hb18 : In x17 1 9 := ex17 ▸ In.add hb10 (⟨by decide, by decide⟩ : In 1 1 1) (by decide) (by decide) (by decide) (by decide)
            have et19 : x17.toInt = y16_l3.toInt + 1 := In.adde ex17 hb10 (k := 1) (by decide) (by decide) (by decide)
            refine lv_iinc (v := x17) (lv' := [(3, .int x17), (0, .ref (ad 255)), (1, .int z1), (2, .int y13_s0)]) hx hb dX11_isSomeStart_44 hl (k := 3) rfl (by rw [ex17]; rfl) (by decide) rfl (fun ls hl => ?_)
            refine lv_goto (tgt := 16) hx hb dX11_isSomeStart_47 (by decide) ?_
            exact ih16 x17 _ _ _ (In.mono hb18 (by decide) (by decide)) hP hD hS (lv_sub hl [1, 2, 3, 0] rfl) (msu et19 (by decide) hmz16)
          refine lv_if_eq (tgt := 44) hx hb dX11_isSomeStart_29 (by decide) (fun c20 => ?_) (fun c20 => ?_)
          ·
            have cc21 : r12.toInt = (0 : Int32).toInt := congrArg Int32.toInt c20
            have hb22 : In r12 0 0 := In.eq1 eL16R (⟨by decide, by decide⟩ : In 0 0 0) cc21 (by omega) (by omega)
            exact hJ44 _ _ _ hP hD hS (lv_sub hl [0, 1, 2, 3] rfl)
          ·
            have cc23 : r12.toInt ≠ (0 : Int32).toInt := i32_ne c20
            have hb24 : In r12 1 1 := In.ne1 eL16R (⟨by decide, by decide⟩ : In 0 0 0) cc23 (by omega) (by omega)
            refine lv_aload_n hx hb dX11_isSomeStart_32 rfl (lv_at hl 0 rfl) ?_
            refine lv_iconst (v := (-1)) hx hb dX11_isSomeStart_33 (by decide) ?_
            refine lv_iload_n hx hb dX11_isSomeStart_34 rfl (lv_at hl 3 rfl) ?_
            refine call_i (run_V (rm := rm_X11_heldBehind) hx hb hml hown hts (s_X11_heldBehind l g ad th _ _ _ (-1) y16_l3 hst hT (⟨by decide, by decide⟩ : In (-1) (-1) 5) hb10) cV_X11_heldBehind wg_1786 ⟨Nat.le_of_ble_eq_true rfl, Nat.le_of_ble_eq_true rfl⟩ hG hE hA hP hD hS (hst.1 255 (by decide)) hf2 rfl rfl hl.1 (As := [.int (-1), .int y16_l3]) (rest := []) rfl (Nat.le_of_ble_eq_true rfl) dX11_isSomeStart_35 ⟨Nat.le_of_ble_eq_true rfl, Nat.le_of_ble_eq_true rfl⟩) hA hD hS (fun r25 L26 f27 H locs hp28 hP hD hS => ?_)
            obtain ⟨eL29L, eL29T⟩ := hp28
            have eL29L : L26 = L := eL29L
            have eL29T : f27 = f := eL29T
            rw [eL29L, eL29T] at hP hD
            refine lv_iload_n hx hb dX11_isSomeStart_38 rfl (lv_at hl 2 rfl) ?_
            refine lv_icmp_ne (tgt := 44) hx hb dX11_isSomeStart_39 (by decide) (fun c30 => ?_) (fun c30 => ?_)
            ·
              exact hJ44 _ _ _ hP hD hS (lv_sub hl [0, 1, 2, 3] rfl)
            ·
              have cc31 : r25.toInt = y13_s0.toInt := congrArg Int32.toInt c30
              have hb32 : In r25 0 1 := In.eq1 (In.full r25) hy13_s0 cc31 (by omega) (by omega)
              refine lv_iconst (v := 1) hx hb dX11_isSomeStart_42 (by decide) ?_
              exact ret_i (ty := .boolean) hx hb hr hlocks (rfl) hP hD hS (Nat.le_of_ble_eq_true rfl) (Nat.le_of_ble_eq_true rfl) (⟨rfl, rfl, (⟨by decide, by decide⟩ : In 1 0 1)⟩) dX11_isSomeStart_43
    exact hJ16 ((9 - (0 : Int32).toInt).toNat + 1) 0 _ _ _ (⟨by decide, by decide⟩ : In 0 0 9) hP hD hS (lv_sub hl [2, 3, 1, 0] rfl) (msI _)
  refine lv_if_le (tgt := 12) hx hb dX11_isSomeStart_5 (by decide) (fun c33 => ?_) (fun c33 => ?_)
  ·
    have cc34 : r3.toInt ≤ (0 : Int32).toInt := i32_le.mp c33
    have hb35 : In r3 (-2147483648) 0 := In.le1 (In.full r3) (⟨by decide, by decide⟩ : In 0 0 0) cc34 (by omega) (by omega)
    refine lv_iconst (v := 0) hx hb dX11_isSomeStart_12 (by decide) ?_
    exact hJ13 0 _ _ _ (⟨by decide, by decide⟩ : In 0 0 1) hP hD hS (lv_sub hl [0, 1] rfl)
  ·
    have cc36 : (0 : Int32).toInt < r3.toInt := i32_nle c33
    have hb37 : In r3 1 2147483647 := In.gt1 (In.full r3) (⟨by decide, by decide⟩ : In 0 0 0) cc36 (by omega) (by omega)
    refine lv_iconst (v := 1) hx hb dX11_isSomeStart_8 (by decide) ?_
    refine lv_goto (tgt := 13) hx hb dX11_isSomeStart_9 (by decide) ?_
    exact hJ13 1 _ _ _ (⟨by decide, by decide⟩ : In 1 0 1) hP hD hS (lv_sub hl [0, 1] rfl)

abbrev rm_X11_agreed : Room := { frames := 3, cells := 0, slots := 0, locals := 66 }
abbrev po_X11_agreed (g : GG) (ad : Nat → Nat) (th : Nat → Int) (L : List Nat) (f : HP)  : Int32 → (List Nat × HP) → Prop := fun r u => u.1 = L ∧ TI g ad th u.2 ∧ (∀ b, b ≠ (ad 255) → u.2 b = f b)
set_option maxHeartbeats 4000000 in
set_option maxRecDepth 100000 in
theorem s_X11_agreed (l : Launch) (g : GG) (ad : Nat → Nat) (th : Nat → Int) (L : List Nat) (f : HP) (sz : Nat)  (hst : ST ad L) (hT : TI g ad th f) (hM : MI th) : MtI l g yX11_agreed cX11_agreed 2 (some .int) rm_X11_agreed [.ref (ad 255)] L f sz (po_X11_agreed g ad th L f ) := by
  refine MtI.of (by decide +kernel) (Nat.le_of_ble_eq_true rfl) ?_
  intro p e s m below meth c A hEn hP hD hS ls hl
  obtain ⟨hx, hb, hr, hml, hown, hlocks, hts, hG, hA, hE, hnm⟩ := hEn
  have hown : s.vm.findClass "RulerWordModel" = some m.cls := hown
  have hl : lv_has ls 2 [(0, .ref (ad 255))] := hl
  have hfr : (∀ b, b ≠ (ad 255) → f b = f b) := fun b z0_ => rfl
  have hM0 := hM
  obtain ⟨m1, m2, m3, m4, m5, m6, m7, m8, m9, m10⟩ := hM0
  have m20 := mi20 m2 m3
  refine lv_aload_n hx hb dX11_agreed_0 rfl (lv_at hl 0 rfl) ?_
  refine lv_iconst (v := 0) hx hb dX11_agreed_1 (by decide) ?_
  refine M0e hT (fun v0_1 v2_1 v3_1 v4_1 v5_1 v6_1 v8_1 v9_1 v12_1 v13_1 v14_1 v15_1 v16_1 v17_1 v18_1 v19_1 v20_1 v21_1 v22_1 v23_1 v25_1 v36_1 v37_1 v38_1 v39_1 v40_1 v45_1 v46_1 v47_1 v48_1 v50_1 v51_1 v53_1 v55_1 hf2 hv0_1 hv2_1 hg2_1 hv3_1 hg3_1 hv4_1 hg4_1 hv5_1 hg5_1 hv6_1 hg6_1 hv8_1 hg8_1 hv9_1 hg9_1 hv12_1 hv13_1 hg13_1 hv14_1 hg14_1 hv15_1 hg15_1 hv17_1 hg17_1 hv20_1 hg20_1 hv23_1 hg23_1 hv25_1 hg25_1 hv36_1 hg36_1 hv47_1 hg47_1 hv48_1 hg48_1 hv53_1 hg53_1 hv55_1 hg55_1 hrel0_1 => ?_)
  have hg15_1 : v15_1.toInt = th 11 := hg15_1
  have hg17_1 : v17_1.toInt = th 12 := hg17_1
  have hg20_1 : v20_1.toInt = th 14 := hg20_1
  refine pl_put (ty := .int) (v := .int 0) (fs' := [.int 0, .ref (ad 256), .int v2_1, .int v3_1, .int v4_1, .int v5_1, .int v6_1, .ref (ad 257), .int v8_1, .int v9_1, .ref (ad 258), .ref (ad 259), .int v12_1, .int v13_1, .int v14_1, .int v15_1, .int v16_1, .int v17_1, .int v18_1, .int v19_1, .int v20_1, .long v21_1, .long v22_1, .int v23_1, .ref (ad 260), .int v25_1, .ref (ad 261), .ref (ad 262), .ref (ad 263), .ref (ad 264), .ref (ad 265), .ref (ad 266), .ref (ad 267), .ref (ad 268), .ref (ad 269), .ref (ad 270), .int v36_1, .int v37_1, .int v38_1, .int v39_1, .int v40_1, .ref (ad 271), .ref (ad 272), .ref (ad 273), .ref (ad 274), .long v45_1, .long v46_1, .int v47_1, .int v48_1, .ref (ad 275), .int v50_1, .int v51_1, .ref (ad 276), .int v53_1, .ref (ad 277), .int v55_1]) hx hb hts (fun w h => mT (inX11 w h)) tyX11 tyX11_ok nmX11 hown hG.1 hP hD hS (hst.1 255 (by decide)) hf2 rfl 0 (by decide) (hts _ (mT wg_1336)) (fun _ h => h) rfl (by decide +kernel) (rfl) (rfl) (Nat.le_of_ble_eq_true rfl) rfl dX11_agreed_2 (fun H locs f3 hf4 ho5 hP hD hS => ?_)
  have hfr : (∀ b, b ≠ (ad 255) → f3 b = f b) := fun b z0_ => (ho5 b z0_).trans (hfr b z0_)
  refine lv_aload_n hx hb dX11_agreed_5 rfl (lv_at hl 0 rfl) ?_
  have hT := TI.updM hT hst (k := 0) (by decide) hf4 ho5 ⟨0, v2_1, v3_1, v4_1, v5_1, v6_1, v8_1, v9_1, v12_1, v13_1, v14_1, v15_1, v16_1, v17_1, v18_1, v19_1, v20_1, v21_1, v22_1, v23_1, v25_1, v36_1, v37_1, v38_1, v39_1, v40_1, v45_1, v46_1, v47_1, v48_1, v50_1, v51_1, v53_1, v55_1, rfl, (⟨by decide, by decide⟩ : In 0 0 1), hv2_1, hg2_1, hv3_1, hg3_1, hv4_1, hg4_1, hv5_1, hg5_1, hv6_1, hg6_1, hv8_1, hg8_1, hv9_1, hg9_1, hv12_1, hv13_1, hg13_1, hv14_1, hg14_1, hv15_1, hg15_1, hv17_1, hg17_1, hv20_1, hg20_1, hv23_1, hg23_1, hv25_1, hg25_1, hv36_1, hg36_1, hv47_1, hg47_1, hv48_1, hg48_1, hv53_1, hg53_1, hv55_1, hg55_1, hrel0_1⟩
  refine call_i (run_V (rm := rm_X11_over) hx hb hml hown hts (s_X11_over l g ad th _ _ _  hst hT (show MI th from hM)) cV_X11_over wg_1769 ⟨Nat.le_of_ble_eq_true rfl, Nat.le_of_ble_eq_true rfl⟩ hG hE hA hP hD hS (hst.1 255 (by decide)) hf4 rfl rfl hl.1 (As := []) (rest := []) rfl (Nat.le_of_ble_eq_true rfl) dX11_agreed_6 ⟨Nat.le_of_ble_eq_true rfl, Nat.le_of_ble_eq_true rfl⟩) hA hD hS (fun r6 L7 f8 H locs hp9 hP hD hS => ?_)
  obtain ⟨eL10L, eL10T, eL10R, eL10X0⟩ := hp9
  have eL10L : L7 = L := eL10L
  have eL10T : f8 = f3 := eL10T
  rw [eL10L, eL10T] at hP hD
  have eL10R : In r6 0 6 := eL10R
  have hcl11 : r6.toInt = 0 ∨ th 15 = 1 := eL10X0
  refine lv_istore_n (lv' := [(1, .int r6), (0, .ref (ad 255))]) hx hb dX11_agreed_9 rfl hl (by decide) rfl (fun ls hl => ?_)
  have hJ10 : ∀ (k10 : Nat) (y10_l1 : Int32) (H : Heap) (locs : List Loc) (ls : Array Slot), In y10_l1 0 6 → va_P g.1 vwCl (va_pl L f3) H → va_D A (va_pl L f3) → va_S A s.heap H locs → lv_has ls 2 [(0, .ref (ad 255)), (1, .int y10_l1)] → y10_l1.toInt - 0 < ((k10 : Nat) : Int) → W p l e rm_X11_agreed s m [.ref (ad 255)].toArray below meth c H locs 0 0 (MQ below (va_Qi (po_X11_agreed g ad th L f ) (PstB g A) A) [.ref (ad 255)].toArray s rm_X11_agreed.cells rm_X11_agreed.slots A) (F0 m 10 ls []) := by
    intro k10
    induction k10 with
    | zero =>
      intro y10_l1 H locs ls hy10_l1 hP hD hS hl hmz10
      exact ms0d hy10_l1 hmz10
    | succ k10 ih10 =>
      intro y10_l1 H locs ls hy10_l1 hP hD hS hl hmz10
      refine lv_iload_n hx hb dX11_agreed_10 rfl (lv_at hl 1 rfl) ?_
      have hJ30 : ∀ (H : Heap) (locs : List Loc) (ls : Array Slot), va_P g.1 vwCl (va_pl L f3) H → va_D A (va_pl L f3) → va_S A s.heap H locs → lv_has ls 2 [(0, .ref (ad 255)), (1, .int y10_l1)] → W p l e rm_X11_agreed s m [.ref (ad 255)].toArray below meth c H locs 0 0 (MQ below (va_Qi (po_X11_agreed g ad th L f ) (PstB g A) A) [.ref (ad 255)].toArray s rm_X11_agreed.cells rm_X11_agreed.slots A) (F0 m 30 ls []) := by
        intro H locs ls hP hD hS hl
        refine lv_iload_n hx hb dX11_agreed_30 rfl (lv_at hl 1 rfl) ?_
        refine lv_aload_n hx hb dX11_agreed_31 rfl (lv_at hl 0 rfl) ?_
        refine call_i (run_V (rm := rm_X11_over) hx hb hml hown hts (s_X11_over l g ad th _ _ _  hst hT (show MI th from hM)) cV_X11_over wg_1769 ⟨Nat.le_of_ble_eq_true rfl, Nat.le_of_ble_eq_true rfl⟩ hG hE hA hP hD hS (hst.1 255 (by decide)) hf4 rfl rfl hl.1 (As := []) (rest := [.int y10_l1]) rfl (Nat.le_of_ble_eq_true rfl) dX11_agreed_32 ⟨Nat.le_of_ble_eq_true rfl, Nat.le_of_ble_eq_true rfl⟩) hA hD hS (fun r12 L13 f14 H locs hp15 hP hD hS => ?_)
        obtain ⟨eL16L, eL16T, eL16R, eL16X0⟩ := hp15
        have eL16L : L13 = L := eL16L
        have eL16T : f14 = f3 := eL16T
        rw [eL16L, eL16T] at hP hD
        have eL16R : In r12 0 6 := eL16R
        have hcl17 : r12.toInt = 0 ∨ th 15 = 1 := eL16X0
        refine lv_icmp_ge (tgt := 42) hx hb dX11_agreed_35 (by decide) (fun c18 => ?_) (fun c18 => ?_)
        ·
          have cc19 : r12.toInt ≤ y10_l1.toInt := i32_le.mp c18
          refine lv_iconst (v := (-1)) hx hb dX11_agreed_42 (by decide) ?_
          exact ret_i (ty := .int) hx hb hr hlocks (rfl) hP hD hS (Nat.le_of_ble_eq_true rfl) (Nat.le_of_ble_eq_true rfl) (⟨rfl, hT, hfr⟩) dX11_agreed_43
        ·
          have cc20 : y10_l1.toInt < r12.toInt := i32_nle c18
          have hb21 : In y10_l1 0 5 := In.lt1 hy10_l1 eL16R cc20 (by decide) (by decide)
          have hb22 : In r12 1 6 := In.lt2 hy10_l1 eL16R cc20 (by decide) (by decide)
          refine lv_iload_n hx hb dX11_agreed_38 rfl (lv_at hl 1 rfl) ?_
          refine lv_goto (tgt := 43) hx hb dX11_agreed_39 (by decide) ?_
          exact ret_i (ty := .int) hx hb hr hlocks (rfl) hP hD hS (Nat.le_of_ble_eq_true rfl) (Nat.le_of_ble_eq_true rfl) (⟨rfl, hT, hfr⟩) dX11_agreed_43
      refine lv_if_le (tgt := 30) hx hb dX11_agreed_11 (by decide) (fun c23 => ?_) (fun c23 => ?_)
      ·
        have oc0 : (0 : Int32).toInt = 0 := by decide
        have cc24 : y10_l1.toInt ≤ (0 : Int32).toInt := i32_le.mp c23
        have hb25 : In y10_l1 0 0 := In.le1 hy10_l1 (⟨by decide, by decide⟩ : In 0 0 0) cc24 (by decide) (by decide)
        exact hJ30 _ _ _ hP hD hS (lv_sub hl [0, 1] rfl)
      ·
        have oc0 : (0 : Int32).toInt = 0 := by decide
        have cc26 : (0 : Int32).toInt < y10_l1.toInt := i32_nle c23
        have hb27 : In y10_l1 1 6 := In.gt1 hy10_l1 (⟨by decide, by decide⟩ : In 0 0 0) cc26 (by decide) (by decide)
        refine lv_aload_n hx hb dX11_agreed_14 rfl (lv_at hl 0 rfl) ?_
        refine lv_iload_n hx hb dX11_agreed_15 rfl (lv_at hl 1 rfl) ?_
        refine lv_iconst (v := 1) hx hb dX11_agreed_16 (by decide) ?_
        refine lv_isub hx hb dX11_agreed_17 ?_
        refine lv_topi (fun x28 ex28 => ?_)
        have hb29 : In x28 0 5 := ex28 ▸ In.sub hb27 (⟨by decide, by decide⟩ : In 1 1 1) (by decide) (by decide) (by decide) (by decide)
        have et30 : x28.toInt = y10_l1.toInt + (-1) := In.sube ex28 hb27 (k := 1) (by decide) (by decide) (by decide)
        refine call_i (run_V (rm := rm_X11_areAgreedBehind) hx hb hml hown hts (s_X11_areAgreedBehind l g ad th _ _ _ x28 hst hT (In.mono hb29 (by decide) (by decide))) cV_X11_areAgreedBehind wg_1778 ⟨Nat.le_of_ble_eq_true rfl, Nat.le_of_ble_eq_true rfl⟩ hG hE hA hP hD hS (hst.1 255 (by decide)) hf4 rfl rfl hl.1 (As := [.int x28]) (rest := []) rfl (Nat.le_of_ble_eq_true rfl) dX11_agreed_18 ⟨Nat.le_of_ble_eq_true rfl, Nat.le_of_ble_eq_true rfl⟩) hA hD hS (fun r31 L32 f33 H locs hp34 hP hD hS => ?_)
        obtain ⟨eL35L, eL35T, eL35R⟩ := hp34
        have eL35L : L32 = L := eL35L
        have eL35T : f33 = f3 := eL35T
        rw [eL35L, eL35T] at hP hD
        have eL35R : In r31 0 1 := eL35R
        refine lv_if_eq (tgt := 30) hx hb dX11_agreed_21 (by decide) (fun c36 => ?_) (fun c36 => ?_)
        ·
          have oc0 : (0 : Int32).toInt = 0 := by decide
          have cc37 : r31.toInt = (0 : Int32).toInt := congrArg Int32.toInt c36
          have hb38 : In r31 0 0 := In.eq1 eL35R (⟨by decide, by decide⟩ : In 0 0 0) cc37 (by decide) (by decide)
          exact hJ30 _ _ _ hP hD hS (lv_sub hl [0, 1] rfl)
        ·
          have oc0 : (0 : Int32).toInt = 0 := by decide
          have cc39 : r31.toInt ≠ (0 : Int32).toInt := i32_ne c36
          have hb40 : In r31 1 1 := In.ne1 eL35R (⟨by decide, by decide⟩ : In 0 0 0) cc39 (by decide) (by decide)
          obtain ⟨x41, ex41⟩ : ∃ y : Int32, y = y10_l1 + (-1) := ⟨_, rfl⟩
          have hb42 : In x41 0 5 := ex41 ▸ In.add hb27 (⟨by decide, by decide⟩ : In (-1) (-1) (-1)) (by decide) (by decide) (by decide) (by decide)
          have et43 : x41.toInt = y10_l1.toInt + (-1) := In.adde ex41 hb27 (k := (-1)) (by decide) (by decide) (by decide)
          refine lv_iinc (v := x41) (lv' := [(1, .int x41), (0, .ref (ad 255))]) hx hb dX11_agreed_24 hl (k := 1) rfl (by rw [ex41]; rfl) (by decide) rfl (fun ls hl => ?_)
          refine lv_goto (tgt := 10) hx hb dX11_agreed_27 (by decide) ?_
          exact ih10 x41 _ _ _ (In.mono hb42 (by decide) (by decide)) hP hD hS (lv_sub hl [1, 0] rfl) (msd et43 (by decide) hmz10)
  exact hJ10 ((r6.toInt - 0).toNat + 1) r6 _ _ _ eL10R hP hD hS (lv_sub hl [1, 0] rfl) (msI _)

abbrev rm_X11_state : Room := { frames := 4, cells := 0, slots := 0, locals := 89 }
abbrev po_X11_state (g : GG) (ad : Nat → Nat) (th : Nat → Int) (L : List Nat) (f : HP) (z1 : Int32) : Int32 → (List Nat × HP) → Prop := fun r u => u.1 = L ∧ TI g ad th u.2 ∧ (∀ b, b ≠ (ad 255) → u.2 b = f b)
set_option maxHeartbeats 4000000 in
set_option maxRecDepth 100000 in
theorem s_X11_state (l : Launch) (g : GG) (ad : Nat → Nat) (th : Nat → Int) (L : List Nat) (f : HP) (sz : Nat) (z1 : Int32) (hst : ST ad L) (hT : TI g ad th f) (hM : MI th) : MtI l g yX11_state cX11_state 3 (some .int) rm_X11_state [.ref (ad 255), .int z1] L f sz (po_X11_state g ad th L f z1) := by
  refine MtI.of (by decide +kernel) (Nat.le_of_ble_eq_true rfl) ?_
  intro p e s m below meth c A hEn hP hD hS ls hl
  obtain ⟨hx, hb, hr, hml, hown, hlocks, hts, hG, hA, hE, hnm⟩ := hEn
  have hown : s.vm.findClass "RulerWordModel" = some m.cls := hown
  have hl : lv_has ls 3 [(0, .ref (ad 255)), (1, .int z1)] := hl
  have hfr : (∀ b, b ≠ (ad 255) → f b = f b) := fun b z0_ => rfl
  have hM0 := hM
  obtain ⟨m1, m2, m3, m4, m5, m6, m7, m8, m9, m10⟩ := hM0
  have m20 := mi20 m2 m3
  refine lv_aload_n hx hb dX11_state_0 rfl (lv_at hl 0 rfl) ?_
  refine lv_iconst (v := 0) hx hb dX11_state_1 (by decide) ?_
  refine M0e hT (fun v0_1 v2_1 v3_1 v4_1 v5_1 v6_1 v8_1 v9_1 v12_1 v13_1 v14_1 v15_1 v16_1 v17_1 v18_1 v19_1 v20_1 v21_1 v22_1 v23_1 v25_1 v36_1 v37_1 v38_1 v39_1 v40_1 v45_1 v46_1 v47_1 v48_1 v50_1 v51_1 v53_1 v55_1 hf2 hv0_1 hv2_1 hg2_1 hv3_1 hg3_1 hv4_1 hg4_1 hv5_1 hg5_1 hv6_1 hg6_1 hv8_1 hg8_1 hv9_1 hg9_1 hv12_1 hv13_1 hg13_1 hv14_1 hg14_1 hv15_1 hg15_1 hv17_1 hg17_1 hv20_1 hg20_1 hv23_1 hg23_1 hv25_1 hg25_1 hv36_1 hg36_1 hv47_1 hg47_1 hv48_1 hg48_1 hv53_1 hg53_1 hv55_1 hg55_1 hrel0_1 => ?_)
  have hg15_1 : v15_1.toInt = th 11 := hg15_1
  have hg17_1 : v17_1.toInt = th 12 := hg17_1
  have hg20_1 : v20_1.toInt = th 14 := hg20_1
  refine pl_put (ty := .int) (v := .int 0) (fs' := [.int 0, .ref (ad 256), .int v2_1, .int v3_1, .int v4_1, .int v5_1, .int v6_1, .ref (ad 257), .int v8_1, .int v9_1, .ref (ad 258), .ref (ad 259), .int v12_1, .int v13_1, .int v14_1, .int v15_1, .int v16_1, .int v17_1, .int v18_1, .int v19_1, .int v20_1, .long v21_1, .long v22_1, .int v23_1, .ref (ad 260), .int v25_1, .ref (ad 261), .ref (ad 262), .ref (ad 263), .ref (ad 264), .ref (ad 265), .ref (ad 266), .ref (ad 267), .ref (ad 268), .ref (ad 269), .ref (ad 270), .int v36_1, .int v37_1, .int v38_1, .int v39_1, .int v40_1, .ref (ad 271), .ref (ad 272), .ref (ad 273), .ref (ad 274), .long v45_1, .long v46_1, .int v47_1, .int v48_1, .ref (ad 275), .int v50_1, .int v51_1, .ref (ad 276), .int v53_1, .ref (ad 277), .int v55_1]) hx hb hts (fun w h => mT (inX11 w h)) tyX11 tyX11_ok nmX11 hown hG.1 hP hD hS (hst.1 255 (by decide)) hf2 rfl 0 (by decide) (hts _ (mT wg_1336)) (fun _ h => h) rfl (by decide +kernel) (rfl) (rfl) (Nat.le_of_ble_eq_true rfl) rfl dX11_state_2 (fun H locs f3 hf4 ho5 hP hD hS => ?_)
  have hfr : (∀ b, b ≠ (ad 255) → f3 b = f b) := fun b z0_ => (ho5 b z0_).trans (hfr b z0_)
  refine lv_aload_n hx hb dX11_state_5 rfl (lv_at hl 0 rfl) ?_
  refine pl_get (v := .int v23_1) hx hb hts (fun w h => mT (inX11 w h)) hown hG.1 hP (hst.1 255 (by decide)) hf4 rfl 23 (by decide) (hts _ (mT wg_1359)) (fun _ h => h) rfl dX11_state_6 ?_
  have hg23_1 : v23_1.toInt = th 15 := hg23_1
  have hT := TI.updM hT hst (k := 0) (by decide) hf4 ho5 ⟨0, v2_1, v3_1, v4_1, v5_1, v6_1, v8_1, v9_1, v12_1, v13_1, v14_1, v15_1, v16_1, v17_1, v18_1, v19_1, v20_1, v21_1, v22_1, v23_1, v25_1, v36_1, v37_1, v38_1, v39_1, v40_1, v45_1, v46_1, v47_1, v48_1, v50_1, v51_1, v53_1, v55_1, rfl, (⟨by decide, by decide⟩ : In 0 0 1), hv2_1, hg2_1, hv3_1, hg3_1, hv4_1, hg4_1, hv5_1, hg5_1, hv6_1, hg6_1, hv8_1, hg8_1, hv9_1, hg9_1, hv12_1, hv13_1, hg13_1, hv14_1, hg14_1, hv15_1, hg15_1, hv17_1, hg17_1, hv20_1, hg20_1, hv23_1, hg23_1, hv25_1, hg25_1, hv36_1, hg36_1, hv47_1, hg47_1, hv48_1, hg48_1, hv53_1, hg53_1, hv55_1, hg55_1, hrel0_1⟩
  refine lv_if_ne (tgt := 14) hx hb dX11_state_9 (by decide) (fun c6 => ?_) (fun c6 => ?_)
  ·
    have oc0 : (0 : Int32).toInt = 0 := by decide
    have cc7 : v23_1.toInt ≠ (0 : Int32).toInt := i32_ne c6
    have hb8 : In v23_1 1 1 := In.ne1 hv23_1 (⟨by decide, by decide⟩ : In 0 0 0) cc7 (by decide) (by decide)
    refine lv_aload_n hx hb dX11_state_14 rfl (lv_at hl 0 rfl) ?_
    refine call_i (run_V (rm := rm_X11_over) hx hb hml hown hts (s_X11_over l g ad th _ _ _  hst hT (show MI th from hM)) cV_X11_over wg_1769 ⟨Nat.le_of_ble_eq_true rfl, Nat.le_of_ble_eq_true rfl⟩ hG hE hA hP hD hS (hst.1 255 (by decide)) hf4 rfl rfl hl.1 (As := []) (rest := []) rfl (Nat.le_of_ble_eq_true rfl) dX11_state_15 ⟨Nat.le_of_ble_eq_true rfl, Nat.le_of_ble_eq_true rfl⟩) hA hD hS (fun r9 L10 f11 H locs hp12 hP hD hS => ?_)
    obtain ⟨eL13L, eL13T, eL13R, eL13X0⟩ := hp12
    have eL13L : L10 = L := eL13L
    have eL13T : f11 = f3 := eL13T
    rw [eL13L, eL13T] at hP hD
    have eL13R : In r9 0 6 := eL13R
    have hcl14 : r9.toInt = 0 ∨ th 15 = 1 := eL13X0
    refine lv_iconst (v := 1) hx hb dX11_state_18 (by decide) ?_
    refine lv_isub hx hb dX11_state_19 ?_
    refine lv_topi (fun x15 ex15 => ?_)
    have hb16 : In x15 (-1) 5 := ex15 ▸ In.sub eL13R (⟨by decide, by decide⟩ : In 1 1 1) (by decide) (by decide) (by decide) (by decide)
    have et17 : x15.toInt = r9.toInt + (-1) := In.sube ex15 eL13R (k := 1) (by decide) (by decide) (by decide)
    refine lv_istore_n (lv' := [(2, .int x15), (0, .ref (ad 255)), (1, .int z1)]) hx hb dX11_state_20 rfl hl (by decide) rfl (fun ls hl => ?_)
    refine lv_iload_n hx hb dX11_state_21 rfl (lv_at hl 2 rfl) ?_
    by_cases c18 : z1 = 0
    ·
      refine lv_tableIn (off := 30) (tgt := 52) hx hb dX11_state_22 (by rw [c18]; decide) (by rw [c18]; decide) (by rw [c18]; decide) (by decide) ?_
      have hb19 : In z1 0 0 := by rw [c18]; exact ⟨by decide, by decide⟩
      refine lv_aload_n hx hb dX11_state_52 rfl (lv_at hl 1 rfl) ?_
      refine lv_iload_n hx hb dX11_state_53 rfl (lv_at hl 0 rfl) ?_
      refine call_i (run_V (rm := rm_X11_areAgreedBehind) hx hb hml hown hts (s_X11_areAgreedBehind l g ad th _ _ _ x15 hst hT hb16) cV_X11_areAgreedBehind wg_1778 ⟨Nat.le_of_ble_eq_true rfl, Nat.le_of_ble_eq_true rfl⟩ hG hE hA hP hD hS (hst.1 255 (by decide)) hf4 rfl rfl hl.1 (As := [.int x15]) (rest := []) rfl (Nat.le_of_ble_eq_true rfl) dX11_state_54 ⟨Nat.le_of_ble_eq_true rfl, Nat.le_of_ble_eq_true rfl⟩) hA hD hS (fun r20 L21 f22 H locs hp23 hP hD hS => ?_)
      obtain ⟨eL24L, eL24T, eL24R⟩ := hp23
      have eL24L : L21 = L := eL24L
      have eL24T : f22 = f3 := eL24T
      rw [eL24L, eL24T] at hP hD
      have eL24R : In r20 0 1 := eL24R
      refine lv_if_eq (tgt := 64) hx hb dX11_state_57 (by decide) (fun c25 => ?_) (fun c25 => ?_)
      ·
        have oc0 : (0 : Int32).toInt = 0 := by decide
        have cc26 : r20.toInt = (0 : Int32).toInt := congrArg Int32.toInt c25
        have hb27 : In r20 0 0 := In.eq1 eL24R (⟨by decide, by decide⟩ : In 0 0 0) cc26 (by decide) (by decide)
        refine lv_iconst (v := 0) hx hb dX11_state_64 (by decide) ?_
        exact ret_i (ty := .int) hx hb hr hlocks (rfl) hP hD hS (Nat.le_of_ble_eq_true rfl) (Nat.le_of_ble_eq_true rfl) (⟨rfl, hT, hfr⟩) dX11_state_65
      ·
        have oc0 : (0 : Int32).toInt = 0 := by decide
        have cc28 : r20.toInt ≠ (0 : Int32).toInt := i32_ne c25
        have hb29 : In r20 1 1 := In.ne1 eL24R (⟨by decide, by decide⟩ : In 0 0 0) cc28 (by decide) (by decide)
        refine lv_iconst (v := 1) hx hb dX11_state_60 (by decide) ?_
        refine lv_goto (tgt := 65) hx hb dX11_state_61 (by decide) ?_
        exact ret_i (ty := .int) hx hb hr hlocks (rfl) hP hD hS (Nat.le_of_ble_eq_true rfl) (Nat.le_of_ble_eq_true rfl) (⟨rfl, hT, hfr⟩) dX11_state_65
    by_cases c30 : z1 = 1
    ·
      refine lv_tableIn (off := 44) (tgt := 66) hx hb dX11_state_22 (by rw [c30]; decide) (by rw [c30]; decide) (by rw [c30]; decide) (by decide) ?_
      have hb31 : In z1 1 1 := by rw [c30]; exact ⟨by decide, by decide⟩
      refine lv_aload_n hx hb dX11_state_66 rfl (lv_at hl 1 rfl) ?_
      refine lv_iload_n hx hb dX11_state_67 rfl (lv_at hl 0 rfl) ?_
      refine call_i (run_V (rm := rm_X11_trueOnes) hx hb hml hown hts (s_X11_trueOnes l g ad th _ _ _ x15 hst hT hb16) cV_X11_trueOnes wg_1794 ⟨Nat.le_of_ble_eq_true rfl, Nat.le_of_ble_eq_true rfl⟩ hG hE hA hP hD hS (hst.1 255 (by decide)) hf4 rfl rfl hl.1 (As := [.int x15]) (rest := []) rfl (Nat.le_of_ble_eq_true rfl) dX11_state_68 ⟨Nat.le_of_ble_eq_true rfl, Nat.le_of_ble_eq_true rfl⟩) hA hD hS (fun r32 L33 f34 H locs hp35 hP hD hS => ?_)
      obtain ⟨eL36L, eL36T⟩ := hp35
      have eL36L : L33 = L := eL36L
      have eL36T : f34 = f3 := eL36T
      rw [eL36L, eL36T] at hP hD
      exact ret_i (ty := .int) hx hb hr hlocks (rfl) hP hD hS (Nat.le_of_ble_eq_true rfl) (Nat.le_of_ble_eq_true rfl) (⟨rfl, hT, hfr⟩) dX11_state_71
    by_cases c37 : z1 = 2
    ·
      refine lv_tableIn (off := 50) (tgt := 72) hx hb dX11_state_22 (by rw [c37]; decide) (by rw [c37]; decide) (by rw [c37]; decide) (by decide) ?_
      have hb38 : In z1 2 2 := by rw [c37]; exact ⟨by decide, by decide⟩
      refine lv_aload_n hx hb dX11_state_72 rfl (lv_at hl 1 rfl) ?_
      refine lv_iload_n hx hb dX11_state_73 rfl (lv_at hl 0 rfl) ?_
      refine call_i (run_V (rm := rm_X11_areAgreedBehind) hx hb hml hown hts (s_X11_areAgreedBehind l g ad th _ _ _ x15 hst hT hb16) cV_X11_areAgreedBehind wg_1778 ⟨Nat.le_of_ble_eq_true rfl, Nat.le_of_ble_eq_true rfl⟩ hG hE hA hP hD hS (hst.1 255 (by decide)) hf4 rfl rfl hl.1 (As := [.int x15]) (rest := []) rfl (Nat.le_of_ble_eq_true rfl) dX11_state_74 ⟨Nat.le_of_ble_eq_true rfl, Nat.le_of_ble_eq_true rfl⟩) hA hD hS (fun r39 L40 f41 H locs hp42 hP hD hS => ?_)
      obtain ⟨eL43L, eL43T, eL43R⟩ := hp42
      have eL43L : L40 = L := eL43L
      have eL43T : f41 = f3 := eL43T
      rw [eL43L, eL43T] at hP hD
      have eL43R : In r39 0 1 := eL43R
      have hJ92 : ∀ (H : Heap) (locs : List Loc) (ls : Array Slot), va_P g.1 vwCl (va_pl L f3) H → va_D A (va_pl L f3) → va_S A s.heap H locs → lv_has ls 3 [(0, .ref (ad 255)), (1, .int z1), (2, .int x15)] → W p l e rm_X11_state s m [.ref (ad 255), .int z1].toArray below meth c H locs 0 0 (MQ below (va_Qi (po_X11_state g ad th L f z1) (PstB g A) A) [.ref (ad 255), .int z1].toArray s rm_X11_state.cells rm_X11_state.slots A) (F0 m 92 ls []) := by
        intro H locs ls hP hD hS hl
        refine lv_iconst (v := 0) hx hb dX11_state_92 (by decide) ?_
        exact ret_i (ty := .int) hx hb hr hlocks (rfl) hP hD hS (Nat.le_of_ble_eq_true rfl) (Nat.le_of_ble_eq_true rfl) (⟨rfl, hT, hfr⟩) dX11_state_93
      refine lv_if_eq (tgt := 92) hx hb dX11_state_77 (by decide) (fun c44 => ?_) (fun c44 => ?_)
      ·
        have oc0 : (0 : Int32).toInt = 0 := by decide
        have cc45 : r39.toInt = (0 : Int32).toInt := congrArg Int32.toInt c44
        have hb46 : In r39 0 0 := In.eq1 eL43R (⟨by decide, by decide⟩ : In 0 0 0) cc45 (by decide) (by decide)
        exact hJ92 _ _ _ hP hD hS (lv_sub hl [1, 2, 0] rfl)
      ·
        have oc0 : (0 : Int32).toInt = 0 := by decide
        have cc47 : r39.toInt ≠ (0 : Int32).toInt := i32_ne c44
        have hb48 : In r39 1 1 := In.ne1 eL43R (⟨by decide, by decide⟩ : In 0 0 0) cc47 (by decide) (by decide)
        refine lv_aload_n hx hb dX11_state_80 rfl (lv_at hl 1 rfl) ?_
        refine lv_iload_n hx hb dX11_state_81 rfl (lv_at hl 0 rfl) ?_
        refine call_i (run_V (rm := rm_X11_isSomeStart) hx hb hml hown hts (s_X11_isSomeStart l g ad th _ _ _ x15 hst hT hb16) cV_X11_isSomeStart wg_1798 ⟨Nat.le_of_ble_eq_true rfl, Nat.le_of_ble_eq_true rfl⟩ hG hE hA hP hD hS (hst.1 255 (by decide)) hf4 rfl rfl hl.1 (As := [.int x15]) (rest := []) rfl (Nat.le_of_ble_eq_true rfl) dX11_state_82 ⟨Nat.le_of_ble_eq_true rfl, Nat.le_of_ble_eq_true rfl⟩) hA hD hS (fun r49 L50 f51 H locs hp52 hP hD hS => ?_)
        obtain ⟨eL53L, eL53T, eL53R⟩ := hp52
        have eL53L : L50 = L := eL53L
        have eL53T : f51 = f3 := eL53T
        rw [eL53L, eL53T] at hP hD
        have eL53R : In r49 0 1 := eL53R
        refine lv_if_eq (tgt := 92) hx hb dX11_state_85 (by decide) (fun c54 => ?_) (fun c54 => ?_)
        ·
          have oc0 : (0 : Int32).toInt = 0 := by decide
          have cc55 : r49.toInt = (0 : Int32).toInt := congrArg Int32.toInt c54
          have hb56 : In r49 0 0 := In.eq1 eL53R (⟨by decide, by decide⟩ : In 0 0 0) cc55 (by decide) (by decide)
          exact hJ92 _ _ _ hP hD hS (lv_sub hl [1, 2, 0] rfl)
        ·
          have oc0 : (0 : Int32).toInt = 0 := by decide
          have cc57 : r49.toInt ≠ (0 : Int32).toInt := i32_ne c54
          have hb58 : In r49 1 1 := In.ne1 eL53R (⟨by decide, by decide⟩ : In 0 0 0) cc57 (by decide) (by decide)
          refine lv_iconst (v := 1) hx hb dX11_state_88 (by decide) ?_
          refine lv_goto (tgt := 93) hx hb dX11_state_89 (by decide) ?_
          exact ret_i (ty := .int) hx hb hr hlocks (rfl) hP hD hS (Nat.le_of_ble_eq_true rfl) (Nat.le_of_ble_eq_true rfl) (⟨rfl, hT, hfr⟩) dX11_state_93
    by_cases c59 : z1 = 3
    ·
      refine lv_tableIn (off := 72) (tgt := 94) hx hb dX11_state_22 (by rw [c59]; decide) (by rw [c59]; decide) (by rw [c59]; decide) (by decide) ?_
      have hb60 : In z1 3 3 := by rw [c59]; exact ⟨by decide, by decide⟩
      refine lv_aload_n hx hb dX11_state_94 rfl (lv_at hl 1 rfl) ?_
      refine lv_iconst (v := (-1)) hx hb dX11_state_95 (by decide) ?_
      refine call_i (run_V (rm := rm_X11_areAgreedBehind) hx hb hml hown hts (s_X11_areAgreedBehind l g ad th _ _ _ (-1) hst hT (⟨by decide, by decide⟩ : In (-1) (-1) 5)) cV_X11_areAgreedBehind wg_1778 ⟨Nat.le_of_ble_eq_true rfl, Nat.le_of_ble_eq_true rfl⟩ hG hE hA hP hD hS (hst.1 255 (by decide)) hf4 rfl rfl hl.1 (As := [.int (-1)]) (rest := []) rfl (Nat.le_of_ble_eq_true rfl) dX11_state_96 ⟨Nat.le_of_ble_eq_true rfl, Nat.le_of_ble_eq_true rfl⟩) hA hD hS (fun r61 L62 f63 H locs hp64 hP hD hS => ?_)
      obtain ⟨eL65L, eL65T, eL65R⟩ := hp64
      have eL65L : L62 = L := eL65L
      have eL65T : f63 = f3 := eL65T
      rw [eL65L, eL65T] at hP hD
      have eL65R : In r61 0 1 := eL65R
      refine lv_if_eq (tgt := 106) hx hb dX11_state_99 (by decide) (fun c66 => ?_) (fun c66 => ?_)
      ·
        have oc0 : (0 : Int32).toInt = 0 := by decide
        have cc67 : r61.toInt = (0 : Int32).toInt := congrArg Int32.toInt c66
        have hb68 : In r61 0 0 := In.eq1 eL65R (⟨by decide, by decide⟩ : In 0 0 0) cc67 (by decide) (by decide)
        refine lv_iconst (v := 0) hx hb dX11_state_106 (by decide) ?_
        exact ret_i (ty := .int) hx hb hr hlocks (rfl) hP hD hS (Nat.le_of_ble_eq_true rfl) (Nat.le_of_ble_eq_true rfl) (⟨rfl, hT, hfr⟩) dX11_state_107
      ·
        have oc0 : (0 : Int32).toInt = 0 := by decide
        have cc69 : r61.toInt ≠ (0 : Int32).toInt := i32_ne c66
        have hb70 : In r61 1 1 := In.ne1 eL65R (⟨by decide, by decide⟩ : In 0 0 0) cc69 (by decide) (by decide)
        refine lv_iconst (v := 1) hx hb dX11_state_102 (by decide) ?_
        refine lv_goto (tgt := 107) hx hb dX11_state_103 (by decide) ?_
        exact ret_i (ty := .int) hx hb hr hlocks (rfl) hP hD hS (Nat.le_of_ble_eq_true rfl) (Nat.le_of_ble_eq_true rfl) (⟨rfl, hT, hfr⟩) dX11_state_107
    refine lv_tableOut (tgt := 108) hx hb dX11_state_22 (tb_out (by decide) (by decide) (fun k h1 h2 => ?_)) (by decide) ?_
    · rcases (show k = 0 ∨ k = 1 ∨ k = 2 ∨ k = 3 by omega) with rfl | rfl | rfl | rfl
      · exact fun e => c18 (e.trans (by decide))
      · exact fun e => c30 (e.trans (by decide))
      · exact fun e => c37 (e.trans (by decide))
      · exact fun e => c59 (e.trans (by decide))
    ·
      have csc18 : z1.toInt ≠ 0 := fun e => i32_ne c18 (e.trans (by decide))
      have csc30 : z1.toInt ≠ 1 := fun e => i32_ne c30 (e.trans (by decide))
      have csc37 : z1.toInt ≠ 2 := fun e => i32_ne c37 (e.trans (by decide))
      have csc59 : z1.toInt ≠ 3 := fun e => i32_ne c59 (e.trans (by decide))
      refine lv_iconst (v := (-1)) hx hb dX11_state_108 (by decide) ?_
      exact ret_i (ty := .int) hx hb hr hlocks (rfl) hP hD hS (Nat.le_of_ble_eq_true rfl) (Nat.le_of_ble_eq_true rfl) (⟨rfl, hT, hfr⟩) dX11_state_109
  ·
    have oc0 : (0 : Int32).toInt = 0 := by decide
    have cc71 : v23_1.toInt = (0 : Int32).toInt := congrArg Int32.toInt c6
    have hb72 : In v23_1 0 0 := In.eq1 hv23_1 (⟨by decide, by decide⟩ : In 0 0 0) cc71 (by decide) (by decide)
    refine lv_iconst (v := (-1)) hx hb dX11_state_12 (by decide) ?_
    exact ret_i (ty := .int) hx hb hr hlocks (rfl) hP hD hS (Nat.le_of_ble_eq_true rfl) (Nat.le_of_ble_eq_true rfl) (⟨rfl, hT, hfr⟩) dX11_state_13

abbrev rm_X11_foretold : Room := { frames := 0, cells := 0, slots := 0, locals := 0 }
abbrev po_X11_foretold (g : GG) (ad : Nat → Nat) (th : Nat → Int) (L : List Nat) (f : HP) (z1 : Int32) : Int32 → (List Nat × HP) → Prop := fun _ u => u.1 = L ∧ u.2 = f
set_option maxHeartbeats 4000000 in
set_option maxRecDepth 100000 in
theorem s_X11_foretold (l : Launch) (g : GG) (ad : Nat → Nat) (th : Nat → Int) (L : List Nat) (f : HP) (sz : Nat) (z1 : Int32) (hst : ST ad L) (hT : TI g ad th f)  : MtI l g yX11_foretold cX11_foretold 2 (some .int) rm_X11_foretold [.ref (ad 255), .int z1] L f sz (po_X11_foretold g ad th L f z1) := by
  refine MtI.of (by decide +kernel) (Nat.le_of_ble_eq_true rfl) ?_
  intro p e s m below meth c A hEn hP hD hS ls hl
  obtain ⟨hx, hb, hr, hml, hown, hlocks, hts, hG, hA, hE, hnm⟩ := hEn
  have hown : s.vm.findClass "RulerWordModel" = some m.cls := hown
  have hl : lv_has ls 2 [(0, .ref (ad 255)), (1, .int z1)] := hl
  refine lv_iload_n hx hb dX11_foretold_0 rfl (lv_at hl 1 rfl) ?_
  refine lv_if_ne (tgt := 30) hx hb dX11_foretold_1 (by decide) (fun c1 => ?_) (fun c1 => ?_)
  ·
    refine lv_aload_n hx hb dX11_foretold_30 rfl (lv_at hl 0 rfl) ?_
    refine M0e hT (fun v0_2 v2_2 v3_2 v4_2 v5_2 v6_2 v8_2 v9_2 v12_2 v13_2 v14_2 v15_2 v16_2 v17_2 v18_2 v19_2 v20_2 v21_2 v22_2 v23_2 v25_2 v36_2 v37_2 v38_2 v39_2 v40_2 v45_2 v46_2 v47_2 v48_2 v50_2 v51_2 v53_2 v55_2 hf3 hv0_2 hv2_2 hg2_2 hv3_2 hg3_2 hv4_2 hg4_2 hv5_2 hg5_2 hv6_2 hg6_2 hv8_2 hg8_2 hv9_2 hg9_2 hv12_2 hv13_2 hg13_2 hv14_2 hg14_2 hv15_2 hg15_2 hv17_2 hg17_2 hv20_2 hg20_2 hv23_2 hg23_2 hv25_2 hg25_2 hv36_2 hg36_2 hv47_2 hg47_2 hv48_2 hg48_2 hv53_2 hg53_2 hv55_2 hg55_2 hrel0_2 => ?_)
    have hg15_2 : v15_2.toInt = th 11 := hg15_2
    have hg17_2 : v17_2.toInt = th 12 := hg17_2
    have hg20_2 : v20_2.toInt = th 14 := hg20_2
    refine pl_get (v := .int v17_2) hx hb hts (fun w h => mT (inX11 w h)) hown hG.1 hP (hst.1 255 (by decide)) hf3 rfl 17 (by decide) (hts _ (mT wg_1353)) (fun _ h => h) rfl dX11_foretold_31 ?_
    refine lv_aload_n hx hb dX11_foretold_34 rfl (lv_at hl 0 rfl) ?_
    refine pl_get (v := .int v15_2) hx hb hts (fun w h => mT (inX11 w h)) hown hG.1 hP (hst.1 255 (by decide)) hf3 rfl 15 (by decide) (hts _ (mT wg_1351)) (fun _ h => h) rfl dX11_foretold_35 ?_
    refine lv_aload_n hx hb dX11_foretold_38 rfl (lv_at hl 0 rfl) ?_
    refine pl_get (v := .int v15_2) hx hb hts (fun w h => mT (inX11 w h)) hown hG.1 hP (hst.1 255 (by decide)) hf3 rfl 15 (by decide) (hts _ (mT wg_1351)) (fun _ h => h) rfl dX11_foretold_39 ?_
    refine lv_imul hx hb dX11_foretold_42 ?_
    refine lv_topi (fun x4 ex4 => ?_)
    have hb5 : In x4 0 81 := ex4 ▸ In.mul hv15_2 hv15_2 (by decide) (by decide) (by decide) (by decide) (by decide)
    refine lv_iconst (v := 1) hx hb dX11_foretold_43 (by decide) ?_
    refine lv_isub hx hb dX11_foretold_44 ?_
    refine lv_topi (fun x6 ex6 => ?_)
    have hb7 : In x6 (-1) 80 := ex6 ▸ In.sub hb5 (⟨by decide, by decide⟩ : In 1 1 1) (by decide) (by decide) (by decide) (by decide)
    have et8 : x6.toInt = x4.toInt + (-1) := In.sube ex6 hb5 (k := 1) (by decide) (by decide) (by decide)
    refine lv_imul hx hb dX11_foretold_45 ?_
    refine lv_topi (fun x9 ex9 => ?_)
    exact ret_i (ty := .int) hx hb hr hlocks (rfl) hP hD hS (Nat.le_of_ble_eq_true rfl) (Nat.le_of_ble_eq_true rfl) (⟨rfl, rfl⟩) dX11_foretold_46
  ·
    have cc10 : z1.toInt = (0 : Int32).toInt := congrArg Int32.toInt c1
    have hb11 : In z1 0 0 := In.eq1 (In.full z1) (⟨by decide, by decide⟩ : In 0 0 0) cc10 (by omega) (by omega)
    refine lv_aload_n hx hb dX11_foretold_4 rfl (lv_at hl 0 rfl) ?_
    refine M0e hT (fun v0_12 v2_12 v3_12 v4_12 v5_12 v6_12 v8_12 v9_12 v12_12 v13_12 v14_12 v15_12 v16_12 v17_12 v18_12 v19_12 v20_12 v21_12 v22_12 v23_12 v25_12 v36_12 v37_12 v38_12 v39_12 v40_12 v45_12 v46_12 v47_12 v48_12 v50_12 v51_12 v53_12 v55_12 hf13 hv0_12 hv2_12 hg2_12 hv3_12 hg3_12 hv4_12 hg4_12 hv5_12 hg5_12 hv6_12 hg6_12 hv8_12 hg8_12 hv9_12 hg9_12 hv12_12 hv13_12 hg13_12 hv14_12 hg14_12 hv15_12 hg15_12 hv17_12 hg17_12 hv20_12 hg20_12 hv23_12 hg23_12 hv25_12 hg25_12 hv36_12 hg36_12 hv47_12 hg47_12 hv48_12 hg48_12 hv53_12 hg53_12 hv55_12 hg55_12 hrel0_12 => ?_)
    have hg15_12 : v15_12.toInt = th 11 := hg15_12
    have hg17_12 : v17_12.toInt = th 12 := hg17_12
    have hg20_12 : v20_12.toInt = th 14 := hg20_12
    refine pl_get (v := .int v17_12) hx hb hts (fun w h => mT (inX11 w h)) hown hG.1 hP (hst.1 255 (by decide)) hf13 rfl 17 (by decide) (hts _ (mT wg_1353)) (fun _ h => h) rfl dX11_foretold_5 ?_
    refine lv_iconst (v := 2) hx hb dX11_foretold_8 (by decide) ?_
    refine lv_aload_n hx hb dX11_foretold_9 rfl (lv_at hl 0 rfl) ?_
    refine pl_get (v := .int v15_12) hx hb hts (fun w h => mT (inX11 w h)) hown hG.1 hP (hst.1 255 (by decide)) hf13 rfl 15 (by decide) (hts _ (mT wg_1351)) (fun _ h => h) rfl dX11_foretold_10 ?_
    refine lv_imul hx hb dX11_foretold_13 ?_
    refine lv_topi (fun x14 ex14 => ?_)
    have hb15 : In x14 0 18 := ex14 ▸ In.mul (⟨by decide, by decide⟩ : In 2 2 2) hv15_12 (by decide) (by decide) (by decide) (by decide) (by decide)
    refine lv_aload_n hx hb dX11_foretold_14 rfl (lv_at hl 0 rfl) ?_
    refine pl_get (v := .int v15_12) hx hb hts (fun w h => mT (inX11 w h)) hown hG.1 hP (hst.1 255 (by decide)) hf13 rfl 15 (by decide) (hts _ (mT wg_1351)) (fun _ h => h) rfl dX11_foretold_15 ?_
    refine lv_imul hx hb dX11_foretold_18 ?_
    refine lv_topi (fun x16 ex16 => ?_)
    have hb17 : In x16 0 162 := ex16 ▸ In.mul hb15 hv15_12 (by decide) (by decide) (by decide) (by decide) (by decide)
    refine lv_aload_n hx hb dX11_foretold_19 rfl (lv_at hl 0 rfl) ?_
    refine pl_get (v := .int v15_12) hx hb hts (fun w h => mT (inX11 w h)) hown hG.1 hP (hst.1 255 (by decide)) hf13 rfl 15 (by decide) (hts _ (mT wg_1351)) (fun _ h => h) rfl dX11_foretold_20 ?_
    refine lv_isub hx hb dX11_foretold_23 ?_
    refine lv_topi (fun x18 ex18 => ?_)
    have hb19 : In x18 (-9) 162 := ex18 ▸ In.sub hb17 hv15_12 (by decide) (by decide) (by decide) (by decide)
    have et20 : x18.toInt = x16.toInt - v15_12.toInt := In.sub2e ex18 hb17 hv15_12 (by decide) (by decide)
    refine lv_iconst (v := 1) hx hb dX11_foretold_24 (by decide) ?_
    refine lv_isub hx hb dX11_foretold_25 ?_
    refine lv_topi (fun x21 ex21 => ?_)
    have hb22 : In x21 (-10) 161 := ex21 ▸ In.sub hb19 (⟨by decide, by decide⟩ : In 1 1 1) (by decide) (by decide) (by decide) (by decide)
    have et23 : x21.toInt = x18.toInt + (-1) := In.sube ex21 hb19 (k := 1) (by decide) (by decide) (by decide)
    refine lv_imul hx hb dX11_foretold_26 ?_
    refine lv_topi (fun x24 ex24 => ?_)
    refine lv_goto (tgt := 46) hx hb dX11_foretold_27 (by decide) ?_
    exact ret_i (ty := .int) hx hb hr hlocks (rfl) hP hD hS (Nat.le_of_ble_eq_true rfl) (Nat.le_of_ble_eq_true rfl) (⟨rfl, rfl⟩) dX11_foretold_46

abbrev rm_X11_letters : Room := { frames := 2, cells := 0, slots := 0, locals := 40 }
abbrev po_X11_letters (g : GG) (ad : Nat → Nat) (th : Nat → Int) (L : List Nat) (f : HP) (z1 : Int32) : Int32 → (List Nat × HP) → Prop := fun r u => u.1 = L ∧ TI g ad th u.2 ∧ (∀ b, b ≠ (ad 255) → u.2 b = f b)
set_option maxHeartbeats 4000000 in
set_option maxRecDepth 100000 in
theorem s_X11_letters (l : Launch) (g : GG) (ad : Nat → Nat) (th : Nat → Int) (L : List Nat) (f : HP) (sz : Nat) (z1 : Int32) (hst : ST ad L) (hT : TI g ad th f) (hM : MI th) : MtI l g yX11_letters cX11_letters 2 (some .int) rm_X11_letters [.ref (ad 255), .int z1] L f sz (po_X11_letters g ad th L f z1) := by
  refine MtI.of (by decide +kernel) (Nat.le_of_ble_eq_true rfl) ?_
  intro p e s m below meth c A hEn hP hD hS ls hl
  obtain ⟨hx, hb, hr, hml, hown, hlocks, hts, hG, hA, hE, hnm⟩ := hEn
  have hown : s.vm.findClass "RulerWordModel" = some m.cls := hown
  have hl : lv_has ls 2 [(0, .ref (ad 255)), (1, .int z1)] := hl
  have hfr : (∀ b, b ≠ (ad 255) → f b = f b) := fun b z0_ => rfl
  have hM0 := hM
  obtain ⟨m1, m2, m3, m4, m5, m6, m7, m8, m9, m10⟩ := hM0
  have m20 := mi20 m2 m3
  refine lv_aload_n hx hb dX11_letters_0 rfl (lv_at hl 0 rfl) ?_
  refine lv_iconst (v := 0) hx hb dX11_letters_1 (by decide) ?_
  refine M0e hT (fun v0_1 v2_1 v3_1 v4_1 v5_1 v6_1 v8_1 v9_1 v12_1 v13_1 v14_1 v15_1 v16_1 v17_1 v18_1 v19_1 v20_1 v21_1 v22_1 v23_1 v25_1 v36_1 v37_1 v38_1 v39_1 v40_1 v45_1 v46_1 v47_1 v48_1 v50_1 v51_1 v53_1 v55_1 hf2 hv0_1 hv2_1 hg2_1 hv3_1 hg3_1 hv4_1 hg4_1 hv5_1 hg5_1 hv6_1 hg6_1 hv8_1 hg8_1 hv9_1 hg9_1 hv12_1 hv13_1 hg13_1 hv14_1 hg14_1 hv15_1 hg15_1 hv17_1 hg17_1 hv20_1 hg20_1 hv23_1 hg23_1 hv25_1 hg25_1 hv36_1 hg36_1 hv47_1 hg47_1 hv48_1 hg48_1 hv53_1 hg53_1 hv55_1 hg55_1 hrel0_1 => ?_)
  have hg15_1 : v15_1.toInt = th 11 := hg15_1
  have hg17_1 : v17_1.toInt = th 12 := hg17_1
  have hg20_1 : v20_1.toInt = th 14 := hg20_1
  refine pl_put (ty := .int) (v := .int 0) (fs' := [.int 0, .ref (ad 256), .int v2_1, .int v3_1, .int v4_1, .int v5_1, .int v6_1, .ref (ad 257), .int v8_1, .int v9_1, .ref (ad 258), .ref (ad 259), .int v12_1, .int v13_1, .int v14_1, .int v15_1, .int v16_1, .int v17_1, .int v18_1, .int v19_1, .int v20_1, .long v21_1, .long v22_1, .int v23_1, .ref (ad 260), .int v25_1, .ref (ad 261), .ref (ad 262), .ref (ad 263), .ref (ad 264), .ref (ad 265), .ref (ad 266), .ref (ad 267), .ref (ad 268), .ref (ad 269), .ref (ad 270), .int v36_1, .int v37_1, .int v38_1, .int v39_1, .int v40_1, .ref (ad 271), .ref (ad 272), .ref (ad 273), .ref (ad 274), .long v45_1, .long v46_1, .int v47_1, .int v48_1, .ref (ad 275), .int v50_1, .int v51_1, .ref (ad 276), .int v53_1, .ref (ad 277), .int v55_1]) hx hb hts (fun w h => mT (inX11 w h)) tyX11 tyX11_ok nmX11 hown hG.1 hP hD hS (hst.1 255 (by decide)) hf2 rfl 0 (by decide) (hts _ (mT wg_1336)) (fun _ h => h) rfl (by decide +kernel) (rfl) (rfl) (Nat.le_of_ble_eq_true rfl) rfl dX11_letters_2 (fun H locs f3 hf4 ho5 hP hD hS => ?_)
  have hfr : (∀ b, b ≠ (ad 255) → f3 b = f b) := fun b z0_ => (ho5 b z0_).trans (hfr b z0_)
  refine lv_aload_n hx hb dX11_letters_5 rfl (lv_at hl 0 rfl) ?_
  refine pl_get (v := .int v23_1) hx hb hts (fun w h => mT (inX11 w h)) hown hG.1 hP (hst.1 255 (by decide)) hf4 rfl 23 (by decide) (hts _ (mT wg_1359)) (fun _ h => h) rfl dX11_letters_6 ?_
  have hg23_1 : v23_1.toInt = th 15 := hg23_1
  have hT := TI.updM hT hst (k := 0) (by decide) hf4 ho5 ⟨0, v2_1, v3_1, v4_1, v5_1, v6_1, v8_1, v9_1, v12_1, v13_1, v14_1, v15_1, v16_1, v17_1, v18_1, v19_1, v20_1, v21_1, v22_1, v23_1, v25_1, v36_1, v37_1, v38_1, v39_1, v40_1, v45_1, v46_1, v47_1, v48_1, v50_1, v51_1, v53_1, v55_1, rfl, (⟨by decide, by decide⟩ : In 0 0 1), hv2_1, hg2_1, hv3_1, hg3_1, hv4_1, hg4_1, hv5_1, hg5_1, hv6_1, hg6_1, hv8_1, hg8_1, hv9_1, hg9_1, hv12_1, hv13_1, hg13_1, hv14_1, hg14_1, hv15_1, hg15_1, hv17_1, hg17_1, hv20_1, hg20_1, hv23_1, hg23_1, hv25_1, hg25_1, hv36_1, hg36_1, hv47_1, hg47_1, hv48_1, hg48_1, hv53_1, hg53_1, hv55_1, hg55_1, hrel0_1⟩
  refine lv_if_ne (tgt := 14) hx hb dX11_letters_9 (by decide) (fun c6 => ?_) (fun c6 => ?_)
  ·
    have oc0 : (0 : Int32).toInt = 0 := by decide
    have cc7 : v23_1.toInt ≠ (0 : Int32).toInt := i32_ne c6
    have hb8 : In v23_1 1 1 := In.ne1 hv23_1 (⟨by decide, by decide⟩ : In 0 0 0) cc7 (by decide) (by decide)
    refine lv_iload_n hx hb dX11_letters_14 rfl (lv_at hl 1 rfl) ?_
    by_cases c9 : z1 = 0
    ·
      refine lv_tableIn (off := 29) (tgt := 44) hx hb dX11_letters_15 (by rw [c9]; decide) (by rw [c9]; decide) (by rw [c9]; decide) (by decide) ?_
      have hb10 : In z1 0 0 := by rw [c9]; exact ⟨by decide, by decide⟩
      refine lv_aload_n hx hb dX11_letters_44 rfl (lv_at hl 0 rfl) ?_
      refine pl_get (v := .ref (ad 271)) hx hb hts (fun w h => mT (inX11 w h)) hown hG.1 hP (hst.1 255 (by decide)) hf4 rfl 41 (by decide) (hts _ (mT wg_1377)) (fun _ h => h) rfl dX11_letters_45 ?_
      refine lv_bipush (v := 73) hx hb dX11_letters_48 (by decide) ?_
      obtain ⟨rw11, hf12, hpi14, hc13⟩ := hT.2.2 16 (by decide)
      have hc13 : PRW 2126 (th 22) (th 20) (th 21) rw11 := hc13
      have hpi14 : ((72 : Int) < (th 22) → (rw11 72).toInt = th 19) := hpi14
      have hin15 : vp_in 73 2126 := In.inb (⟨by decide, by decide⟩ : In 73 73 73) (by decide) (by decide)
      refine pl_iald hx hb hG.1 hP (hst.1 271 (by decide)) 0 hf12 rfl hin15 dX11_letters_50 ?_
      refine lv_topi (fun x16 ex16 => ?_)
      exact ret_i (ty := .int) hx hb hr hlocks (rfl) hP hD hS (Nat.le_of_ble_eq_true rfl) (Nat.le_of_ble_eq_true rfl) (⟨rfl, hT, hfr⟩) dX11_letters_51
    by_cases c17 : z1 = 1
    ·
      refine lv_tableIn (off := 37) (tgt := 52) hx hb dX11_letters_15 (by rw [c17]; decide) (by rw [c17]; decide) (by rw [c17]; decide) (by decide) ?_
      have hb18 : In z1 1 1 := by rw [c17]; exact ⟨by decide, by decide⟩
      refine lv_aload_n hx hb dX11_letters_52 rfl (lv_at hl 0 rfl) ?_
      refine pl_get (v := .ref (ad 271)) hx hb hts (fun w h => mT (inX11 w h)) hown hG.1 hP (hst.1 255 (by decide)) hf4 rfl 41 (by decide) (hts _ (mT wg_1377)) (fun _ h => h) rfl dX11_letters_53 ?_
      refine lv_bipush (v := 74) hx hb dX11_letters_56 (by decide) ?_
      obtain ⟨rw19, hf20, hpi22, hc21⟩ := hT.2.2 16 (by decide)
      have hc21 : PRW 2126 (th 22) (th 20) (th 21) rw19 := hc21
      have hpi22 : ((72 : Int) < (th 22) → (rw19 72).toInt = th 19) := hpi22
      have hin23 : vp_in 74 2126 := In.inb (⟨by decide, by decide⟩ : In 74 74 74) (by decide) (by decide)
      refine pl_iald hx hb hG.1 hP (hst.1 271 (by decide)) 0 hf20 rfl hin23 dX11_letters_58 ?_
      refine lv_topi (fun x24 ex24 => ?_)
      exact ret_i (ty := .int) hx hb hr hlocks (rfl) hP hD hS (Nat.le_of_ble_eq_true rfl) (Nat.le_of_ble_eq_true rfl) (⟨rfl, hT, hfr⟩) dX11_letters_59
    by_cases c25 : z1 = 2
    ·
      refine lv_tableIn (off := 45) (tgt := 60) hx hb dX11_letters_15 (by rw [c25]; decide) (by rw [c25]; decide) (by rw [c25]; decide) (by decide) ?_
      have hb26 : In z1 2 2 := by rw [c25]; exact ⟨by decide, by decide⟩
      refine lv_aload_n hx hb dX11_letters_60 rfl (lv_at hl 0 rfl) ?_
      refine lv_aload_n hx hb dX11_letters_61 rfl (lv_at hl 0 rfl) ?_
      refine pl_get (v := .int v14_1) hx hb hts (fun w h => mT (inX11 w h)) hown hG.1 hP (hst.1 255 (by decide)) hf4 rfl 14 (by decide) (hts _ (mT wg_1350)) (fun _ h => h) rfl dX11_letters_62 ?_
      have hg14_1 : v14_1.toInt = th 10 := hg14_1
      refine call_i (run_V (rm := rm_X11_foretold) hx hb hml hown hts (s_X11_foretold l g ad th _ _ _ v14_1 hst hT ) cV_X11_foretold wg_1806 ⟨Nat.le_of_ble_eq_true rfl, Nat.le_of_ble_eq_true rfl⟩ hG hE hA hP hD hS (hst.1 255 (by decide)) hf4 rfl rfl hl.1 (As := [.int v14_1]) (rest := []) rfl (Nat.le_of_ble_eq_true rfl) dX11_letters_65 ⟨Nat.le_of_ble_eq_true rfl, Nat.le_of_ble_eq_true rfl⟩) hA hD hS (fun r27 L28 f29 H locs hp30 hP hD hS => ?_)
      obtain ⟨eL31L, eL31T⟩ := hp30
      have eL31L : L28 = L := eL31L
      have eL31T : f29 = f3 := eL31T
      rw [eL31L, eL31T] at hP hD
      exact ret_i (ty := .int) hx hb hr hlocks (rfl) hP hD hS (Nat.le_of_ble_eq_true rfl) (Nat.le_of_ble_eq_true rfl) (⟨rfl, hT, hfr⟩) dX11_letters_68
    by_cases c32 : z1 = 3
    ·
      refine lv_tableIn (off := 54) (tgt := 69) hx hb dX11_letters_15 (by rw [c32]; decide) (by rw [c32]; decide) (by rw [c32]; decide) (by decide) ?_
      have hb33 : In z1 3 3 := by rw [c32]; exact ⟨by decide, by decide⟩
      refine lv_aload_n hx hb dX11_letters_69 rfl (lv_at hl 0 rfl) ?_
      refine call_i (run_V (rm := rm_X11_over) hx hb hml hown hts (s_X11_over l g ad th _ _ _  hst hT (show MI th from hM)) cV_X11_over wg_1769 ⟨Nat.le_of_ble_eq_true rfl, Nat.le_of_ble_eq_true rfl⟩ hG hE hA hP hD hS (hst.1 255 (by decide)) hf4 rfl rfl hl.1 (As := []) (rest := []) rfl (Nat.le_of_ble_eq_true rfl) dX11_letters_70 ⟨Nat.le_of_ble_eq_true rfl, Nat.le_of_ble_eq_true rfl⟩) hA hD hS (fun r34 L35 f36 H locs hp37 hP hD hS => ?_)
      obtain ⟨eL38L, eL38T, eL38R, eL38X0⟩ := hp37
      have eL38L : L35 = L := eL38L
      have eL38T : f36 = f3 := eL38T
      rw [eL38L, eL38T] at hP hD
      have eL38R : In r34 0 6 := eL38R
      have hcl39 : r34.toInt = 0 ∨ th 15 = 1 := eL38X0
      refine lv_if_ne (tgt := 80) hx hb dX11_letters_73 (by decide) (fun c40 => ?_) (fun c40 => ?_)
      ·
        have oc0 : (0 : Int32).toInt = 0 := by decide
        have cc41 : r34.toInt ≠ (0 : Int32).toInt := i32_ne c40
        have hb42 : In r34 1 6 := In.ne1 eL38R (⟨by decide, by decide⟩ : In 0 0 0) cc41 (by decide) (by decide)
        refine lv_aload_n hx hb dX11_letters_80 rfl (lv_at hl 0 rfl) ?_
        refine pl_get (v := .ref (ad 271)) hx hb hts (fun w h => mT (inX11 w h)) hown hG.1 hP (hst.1 255 (by decide)) hf4 rfl 41 (by decide) (hts _ (mT wg_1377)) (fun _ h => h) rfl dX11_letters_81 ?_
        refine lv_sipush (v := 1970) hx hb dX11_letters_84 (by decide) ?_
        refine lv_aload_n hx hb dX11_letters_87 rfl (lv_at hl 0 rfl) ?_
        refine call_i (run_V (rm := rm_X11_over) hx hb hml hown hts (s_X11_over l g ad th _ _ _  hst hT (show MI th from hM)) cV_X11_over wg_1769 ⟨Nat.le_of_ble_eq_true rfl, Nat.le_of_ble_eq_true rfl⟩ hG hE hA hP hD hS (hst.1 255 (by decide)) hf4 rfl rfl hl.1 (As := []) (rest := [.int 1970, .ref (ad 271)]) rfl (Nat.le_of_ble_eq_true rfl) dX11_letters_88 ⟨Nat.le_of_ble_eq_true rfl, Nat.le_of_ble_eq_true rfl⟩) hA hD hS (fun r43 L44 f45 H locs hp46 hP hD hS => ?_)
        obtain ⟨eL47L, eL47T, eL47R, eL47X0⟩ := hp46
        have eL47L : L44 = L := eL47L
        have eL47T : f45 = f3 := eL47T
        rw [eL47L, eL47T] at hP hD
        have eL47R : In r43 0 6 := eL47R
        have hcl48 : r43.toInt = 0 ∨ th 15 = 1 := eL47X0
        refine lv_iadd hx hb dX11_letters_91 ?_
        refine lv_topi (fun x49 ex49 => ?_)
        have hb50 : In x49 1970 1976 := ex49 ▸ In.add (⟨by decide, by decide⟩ : In 1970 1970 1970) eL47R (by decide) (by decide) (by decide) (by decide)
        have et51 : x49.toInt = (1970 : Int32).toInt + r43.toInt := In.add2e ex49 (⟨by decide, by decide⟩ : In 1970 1970 1970) eL47R (by decide) (by decide)
        refine lv_iconst (v := 1) hx hb dX11_letters_92 (by decide) ?_
        refine lv_isub hx hb dX11_letters_93 ?_
        refine lv_topi (fun x52 ex52 => ?_)
        have hb53 : In x52 1969 1975 := ex52 ▸ In.sub hb50 (⟨by decide, by decide⟩ : In 1 1 1) (by decide) (by decide) (by decide) (by decide)
        have et54 : x52.toInt = x49.toInt + (-1) := In.sube ex52 hb50 (k := 1) (by decide) (by decide) (by decide)
        obtain ⟨rw55, hf56, hpi58, hc57⟩ := hT.2.2 16 (by decide)
        have hc57 : PRW 2126 (th 22) (th 20) (th 21) rw55 := hc57
        have hpi58 : ((72 : Int) < (th 22) → (rw55 72).toInt = th 19) := hpi58
        have hin59 : vp_in x52 2126 := In.inb hb53 (by decide) (by decide)
        refine pl_iald hx hb hG.1 hP (hst.1 271 (by decide)) 0 hf56 rfl hin59 dX11_letters_94 ?_
        refine lv_topi (fun x60 ex60 => ?_)
        exact ret_i (ty := .int) hx hb hr hlocks (rfl) hP hD hS (Nat.le_of_ble_eq_true rfl) (Nat.le_of_ble_eq_true rfl) (⟨rfl, hT, hfr⟩) dX11_letters_95
      ·
        have oc0 : (0 : Int32).toInt = 0 := by decide
        have cc61 : r34.toInt = (0 : Int32).toInt := congrArg Int32.toInt c40
        have hb62 : In r34 0 0 := In.eq1 eL38R (⟨by decide, by decide⟩ : In 0 0 0) cc61 (by decide) (by decide)
        refine lv_iconst (v := 0) hx hb dX11_letters_76 (by decide) ?_
        refine lv_goto (tgt := 95) hx hb dX11_letters_77 (by decide) ?_
        exact ret_i (ty := .int) hx hb hr hlocks (rfl) hP hD hS (Nat.le_of_ble_eq_true rfl) (Nat.le_of_ble_eq_true rfl) (⟨rfl, hT, hfr⟩) dX11_letters_95
    refine lv_tableOut (tgt := 96) hx hb dX11_letters_15 (tb_out (by decide) (by decide) (fun k h1 h2 => ?_)) (by decide) ?_
    · rcases (show k = 0 ∨ k = 1 ∨ k = 2 ∨ k = 3 by omega) with rfl | rfl | rfl | rfl
      · exact fun e => c9 (e.trans (by decide))
      · exact fun e => c17 (e.trans (by decide))
      · exact fun e => c25 (e.trans (by decide))
      · exact fun e => c32 (e.trans (by decide))
    ·
      have csc9 : z1.toInt ≠ 0 := fun e => i32_ne c9 (e.trans (by decide))
      have csc17 : z1.toInt ≠ 1 := fun e => i32_ne c17 (e.trans (by decide))
      have csc25 : z1.toInt ≠ 2 := fun e => i32_ne c25 (e.trans (by decide))
      have csc32 : z1.toInt ≠ 3 := fun e => i32_ne c32 (e.trans (by decide))
      refine lv_iconst (v := (-1)) hx hb dX11_letters_96 (by decide) ?_
      exact ret_i (ty := .int) hx hb hr hlocks (rfl) hP hD hS (Nat.le_of_ble_eq_true rfl) (Nat.le_of_ble_eq_true rfl) (⟨rfl, hT, hfr⟩) dX11_letters_97
  ·
    have oc0 : (0 : Int32).toInt = 0 := by decide
    have cc63 : v23_1.toInt = (0 : Int32).toInt := congrArg Int32.toInt c6
    have hb64 : In v23_1 0 0 := In.eq1 hv23_1 (⟨by decide, by decide⟩ : In 0 0 0) cc63 (by decide) (by decide)
    refine lv_iconst (v := (-1)) hx hb dX11_letters_12 (by decide) ?_
    exact ret_i (ty := .int) hx hb hr hlocks (rfl) hP hD hS (Nat.le_of_ble_eq_true rfl) (Nat.le_of_ble_eq_true rfl) (⟨rfl, hT, hfr⟩) dX11_letters_13

abbrev rm_X11_trueRuler : Room := { frames := 2, cells := 0, slots := 0, locals := 42 }
abbrev po_X11_trueRuler (g : GG) (ad : Nat → Nat) (th : Nat → Int) (L : List Nat) (f : HP)  : Int32 → (List Nat × HP) → Prop := fun r u => u.1 = L ∧ TI g ad th u.2 ∧ (∀ b, b ≠ (ad 255) → u.2 b = f b)
set_option maxHeartbeats 4000000 in
set_option maxRecDepth 100000 in
theorem s_X11_trueRuler (l : Launch) (g : GG) (ad : Nat → Nat) (th : Nat → Int) (L : List Nat) (f : HP) (sz : Nat)  (hst : ST ad L) (hT : TI g ad th f) (hM : MI th) : MtI l g yX11_trueRuler cX11_trueRuler 2 (some .int) rm_X11_trueRuler [.ref (ad 255)] L f sz (po_X11_trueRuler g ad th L f ) := by
  refine MtI.of (by decide +kernel) (Nat.le_of_ble_eq_true rfl) ?_
  intro p e s m below meth c A hEn hP hD hS ls hl
  obtain ⟨hx, hb, hr, hml, hown, hlocks, hts, hG, hA, hE, hnm⟩ := hEn
  have hown : s.vm.findClass "RulerWordModel" = some m.cls := hown
  have hl : lv_has ls 2 [(0, .ref (ad 255))] := hl
  have hfr : (∀ b, b ≠ (ad 255) → f b = f b) := fun b z0_ => rfl
  have hM0 := hM
  obtain ⟨m1, m2, m3, m4, m5, m6, m7, m8, m9, m10⟩ := hM0
  have m20 := mi20 m2 m3
  refine lv_aload_n hx hb dX11_trueRuler_0 rfl (lv_at hl 0 rfl) ?_
  refine lv_iconst (v := 0) hx hb dX11_trueRuler_1 (by decide) ?_
  refine M0e hT (fun v0_1 v2_1 v3_1 v4_1 v5_1 v6_1 v8_1 v9_1 v12_1 v13_1 v14_1 v15_1 v16_1 v17_1 v18_1 v19_1 v20_1 v21_1 v22_1 v23_1 v25_1 v36_1 v37_1 v38_1 v39_1 v40_1 v45_1 v46_1 v47_1 v48_1 v50_1 v51_1 v53_1 v55_1 hf2 hv0_1 hv2_1 hg2_1 hv3_1 hg3_1 hv4_1 hg4_1 hv5_1 hg5_1 hv6_1 hg6_1 hv8_1 hg8_1 hv9_1 hg9_1 hv12_1 hv13_1 hg13_1 hv14_1 hg14_1 hv15_1 hg15_1 hv17_1 hg17_1 hv20_1 hg20_1 hv23_1 hg23_1 hv25_1 hg25_1 hv36_1 hg36_1 hv47_1 hg47_1 hv48_1 hg48_1 hv53_1 hg53_1 hv55_1 hg55_1 hrel0_1 => ?_)
  have hg15_1 : v15_1.toInt = th 11 := hg15_1
  have hg17_1 : v17_1.toInt = th 12 := hg17_1
  have hg20_1 : v20_1.toInt = th 14 := hg20_1
  refine pl_put (ty := .int) (v := .int 0) (fs' := [.int 0, .ref (ad 256), .int v2_1, .int v3_1, .int v4_1, .int v5_1, .int v6_1, .ref (ad 257), .int v8_1, .int v9_1, .ref (ad 258), .ref (ad 259), .int v12_1, .int v13_1, .int v14_1, .int v15_1, .int v16_1, .int v17_1, .int v18_1, .int v19_1, .int v20_1, .long v21_1, .long v22_1, .int v23_1, .ref (ad 260), .int v25_1, .ref (ad 261), .ref (ad 262), .ref (ad 263), .ref (ad 264), .ref (ad 265), .ref (ad 266), .ref (ad 267), .ref (ad 268), .ref (ad 269), .ref (ad 270), .int v36_1, .int v37_1, .int v38_1, .int v39_1, .int v40_1, .ref (ad 271), .ref (ad 272), .ref (ad 273), .ref (ad 274), .long v45_1, .long v46_1, .int v47_1, .int v48_1, .ref (ad 275), .int v50_1, .int v51_1, .ref (ad 276), .int v53_1, .ref (ad 277), .int v55_1]) hx hb hts (fun w h => mT (inX11 w h)) tyX11 tyX11_ok nmX11 hown hG.1 hP hD hS (hst.1 255 (by decide)) hf2 rfl 0 (by decide) (hts _ (mT wg_1336)) (fun _ h => h) rfl (by decide +kernel) (rfl) (rfl) (Nat.le_of_ble_eq_true rfl) rfl dX11_trueRuler_2 (fun H locs f3 hf4 ho5 hP hD hS => ?_)
  have hfr : (∀ b, b ≠ (ad 255) → f3 b = f b) := fun b z0_ => (ho5 b z0_).trans (hfr b z0_)
  refine lv_iconst (v := 0) hx hb dX11_trueRuler_5 (by decide) ?_
  refine lv_istore_n (lv' := [(1, .int 0), (0, .ref (ad 255))]) hx hb dX11_trueRuler_6 rfl hl (by decide) rfl (fun ls hl => ?_)
  have hT := TI.updM hT hst (k := 0) (by decide) hf4 ho5 ⟨0, v2_1, v3_1, v4_1, v5_1, v6_1, v8_1, v9_1, v12_1, v13_1, v14_1, v15_1, v16_1, v17_1, v18_1, v19_1, v20_1, v21_1, v22_1, v23_1, v25_1, v36_1, v37_1, v38_1, v39_1, v40_1, v45_1, v46_1, v47_1, v48_1, v50_1, v51_1, v53_1, v55_1, rfl, (⟨by decide, by decide⟩ : In 0 0 1), hv2_1, hg2_1, hv3_1, hg3_1, hv4_1, hg4_1, hv5_1, hg5_1, hv6_1, hg6_1, hv8_1, hg8_1, hv9_1, hg9_1, hv12_1, hv13_1, hg13_1, hv14_1, hg14_1, hv15_1, hg15_1, hv17_1, hg17_1, hv20_1, hg20_1, hv23_1, hg23_1, hv25_1, hg25_1, hv36_1, hg36_1, hv47_1, hg47_1, hv48_1, hg48_1, hv53_1, hg53_1, hv55_1, hg55_1, hrel0_1⟩
  have hJ7 : ∀ (k7 : Nat) (y7_l1 : Int32) (H : Heap) (locs : List Loc) (ls : Array Slot), In y7_l1 0 6 → va_P g.1 vwCl (va_pl L f3) H → va_D A (va_pl L f3) → va_S A s.heap H locs → lv_has ls 2 [(0, .ref (ad 255)), (1, .int y7_l1)] → 6 - y7_l1.toInt < ((k7 : Nat) : Int) → W p l e rm_X11_trueRuler s m [.ref (ad 255)].toArray below meth c H locs 0 0 (MQ below (va_Qi (po_X11_trueRuler g ad th L f ) (PstB g A) A) [.ref (ad 255)].toArray s rm_X11_trueRuler.cells rm_X11_trueRuler.slots A) (F0 m 7 ls []) := by
    intro k7
    induction k7 with
    | zero =>
      intro y7_l1 H locs ls hy7_l1 hP hD hS hl hmz7
      exact ms0 hy7_l1 hmz7
    | succ k7 ih7 =>
      intro y7_l1 H locs ls hy7_l1 hP hD hS hl hmz7
      refine lv_iload_n hx hb dX11_trueRuler_7 rfl (lv_at hl 1 rfl) ?_
      refine lv_aload_n hx hb dX11_trueRuler_8 rfl (lv_at hl 0 rfl) ?_
      refine pl_get (v := .int v17_1) hx hb hts (fun w h => mT (inX11 w h)) hown hG.1 hP (hst.1 255 (by decide)) hf4 rfl 17 (by decide) (hts _ (mT wg_1353)) (fun _ h => h) rfl dX11_trueRuler_9 ?_
      refine lv_icmp_ge (tgt := 43) hx hb dX11_trueRuler_12 (by decide) (fun c6 => ?_) (fun c6 => ?_)
      ·
        have cc7 : v17_1.toInt ≤ y7_l1.toInt := i32_le.mp c6
        refine lv_iconst (v := (-1)) hx hb dX11_trueRuler_43 (by decide) ?_
        exact ret_i (ty := .int) hx hb hr hlocks (rfl) hP hD hS (Nat.le_of_ble_eq_true rfl) (Nat.le_of_ble_eq_true rfl) (⟨rfl, hT, hfr⟩) dX11_trueRuler_44
      ·
        have cc8 : y7_l1.toInt < v17_1.toInt := i32_nle c6
        have hb9 : In y7_l1 0 5 := In.lt1 hy7_l1 hv17_1 cc8 (by decide) (by decide)
        have hb10 : In v17_1 1 6 := In.lt2 hy7_l1 hv17_1 cc8 (by decide) (by decide)
        refine lv_aload_n hx hb dX11_trueRuler_15 rfl (lv_at hl 0 rfl) ?_
        refine pl_get (v := .int v23_1) hx hb hts (fun w h => mT (inX11 w h)) hown hG.1 hP (hst.1 255 (by decide)) hf4 rfl 23 (by decide) (hts _ (mT wg_1359)) (fun _ h => h) rfl dX11_trueRuler_16 ?_
        have hg23_1 : v23_1.toInt = th 15 := hg23_1
        refine lv_if_eq (tgt := 43) hx hb dX11_trueRuler_19 (by decide) (fun c11 => ?_) (fun c11 => ?_)
        ·
          have oc0 : (0 : Int32).toInt = 0 := by decide
          have cc12 : v23_1.toInt = (0 : Int32).toInt := congrArg Int32.toInt c11
          have hb13 : In v23_1 0 0 := In.eq1 hv23_1 (⟨by decide, by decide⟩ : In 0 0 0) cc12 (by decide) (by decide)
          refine lv_iconst (v := (-1)) hx hb dX11_trueRuler_43 (by decide) ?_
          exact ret_i (ty := .int) hx hb hr hlocks (rfl) hP hD hS (Nat.le_of_ble_eq_true rfl) (Nat.le_of_ble_eq_true rfl) (⟨rfl, hT, hfr⟩) dX11_trueRuler_44
        ·
          have oc0 : (0 : Int32).toInt = 0 := by decide
          have cc14 : v23_1.toInt ≠ (0 : Int32).toInt := i32_ne c11
          have hb15 : In v23_1 1 1 := In.ne1 hv23_1 (⟨by decide, by decide⟩ : In 0 0 0) cc14 (by decide) (by decide)
          refine lv_aload_n hx hb dX11_trueRuler_22 rfl (lv_at hl 0 rfl) ?_
          refine lv_iload_n hx hb dX11_trueRuler_23 rfl (lv_at hl 1 rfl) ?_
          refine lv_aload_n hx hb dX11_trueRuler_24 rfl (lv_at hl 0 rfl) ?_
          refine pl_get (v := .int v15_1) hx hb hts (fun w h => mT (inX11 w h)) hown hG.1 hP (hst.1 255 (by decide)) hf4 rfl 15 (by decide) (hts _ (mT wg_1351)) (fun _ h => h) rfl dX11_trueRuler_25 ?_
          have hb16 : In v15_1 1 9 := In.mk (by have ob10 : (0 : Int) ≤ (th 10) ∧ (th 10) ≤ 1 := (b0_10 hT :); have ob11 : (0 : Int) ≤ (th 11) ∧ (th 11) ≤ 9 := (b0_11 hT :); have ob12 : (0 : Int) ≤ (th 12) ∧ (th 12) ≤ 6 := (b0_12 hT :); have ob14 : (0 : Int) ≤ (th 14) ∧ (th 14) ≤ 511 := (b0_14 hT :); have ob15 : (0 : Int) ≤ (th 15) ∧ (th 15) ≤ 1 := (b0_15 hT :); have ob16 : (0 : Int) ≤ (th 16) ∧ (th 16) ≤ 20 := (b0_16 hT :); have ob17 : (0 : Int) ≤ (th 17) ∧ (th 17) ≤ 1 := (b0_17 hT :); have ob18 : (0 : Int) ≤ (th 18) ∧ (th 18) ≤ 18 := (b0_18 hT :); have ob38 : (0 : Int) ≤ (th 38) ∧ (th 38) ≤ 400 := (b0_38 hT :); have ob39 : (0 : Int) ≤ (th 39) ∧ (th 39) ≤ 200 := (b0_39 hT :); have ob44 : (0 : Int) ≤ (th 44) ∧ (th 44) ≤ 30 := (b0_44 hT :); have orn := rnd_b (th 10); obtain ⟨o0a, o0b⟩ := (hv15_1 : In _ _ _); obtain ⟨o1a, o1b⟩ := (hv14_1 : In _ _ _); obtain ⟨o2a, o2b⟩ := (hb10 : In _ _ _); obtain ⟨o3a, o3b⟩ := (hv20_1 : In _ _ _); obtain ⟨o4a, o4b⟩ := (hb15 : In _ _ _); obtain ⟨o5a, o5b⟩ := (hv25_1 : In _ _ _); obtain ⟨o6a, o6b⟩ := (hv36_1 : In _ _ _); obtain ⟨o7a, o7b⟩ := (hv47_1 : In _ _ _); obtain ⟨o8a, o8b⟩ := (hv48_1 : In _ _ _); obtain ⟨o9a, o9b⟩ := (hv53_1 : In _ _ _); obtain ⟨o10a, o10b⟩ := (hv55_1 : In _ _ _); obtain ⟨o11a, o11b⟩ := (hb9 : In _ _ _); omega) (by have ob10 : (0 : Int) ≤ (th 10) ∧ (th 10) ≤ 1 := (b0_10 hT :); have ob11 : (0 : Int) ≤ (th 11) ∧ (th 11) ≤ 9 := (b0_11 hT :); have ob12 : (0 : Int) ≤ (th 12) ∧ (th 12) ≤ 6 := (b0_12 hT :); have ob14 : (0 : Int) ≤ (th 14) ∧ (th 14) ≤ 511 := (b0_14 hT :); have ob15 : (0 : Int) ≤ (th 15) ∧ (th 15) ≤ 1 := (b0_15 hT :); have ob16 : (0 : Int) ≤ (th 16) ∧ (th 16) ≤ 20 := (b0_16 hT :); have ob17 : (0 : Int) ≤ (th 17) ∧ (th 17) ≤ 1 := (b0_17 hT :); have ob18 : (0 : Int) ≤ (th 18) ∧ (th 18) ≤ 18 := (b0_18 hT :); have ob38 : (0 : Int) ≤ (th 38) ∧ (th 38) ≤ 400 := (b0_38 hT :); have ob39 : (0 : Int) ≤ (th 39) ∧ (th 39) ≤ 200 := (b0_39 hT :); have ob44 : (0 : Int) ≤ (th 44) ∧ (th 44) ≤ 30 := (b0_44 hT :); have orn := rnd_b (th 10); obtain ⟨o0a, o0b⟩ := (hv15_1 : In _ _ _); obtain ⟨o1a, o1b⟩ := (hv14_1 : In _ _ _); obtain ⟨o2a, o2b⟩ := (hb10 : In _ _ _); obtain ⟨o3a, o3b⟩ := (hv20_1 : In _ _ _); obtain ⟨o4a, o4b⟩ := (hb15 : In _ _ _); obtain ⟨o5a, o5b⟩ := (hv25_1 : In _ _ _); obtain ⟨o6a, o6b⟩ := (hv36_1 : In _ _ _); obtain ⟨o7a, o7b⟩ := (hv47_1 : In _ _ _); obtain ⟨o8a, o8b⟩ := (hv48_1 : In _ _ _); obtain ⟨o9a, o9b⟩ := (hv53_1 : In _ _ _); obtain ⟨o10a, o10b⟩ := (hv55_1 : In _ _ _); obtain ⟨o11a, o11b⟩ := (hb9 : In _ _ _); omega)
          refine lv_irem hx hb dX11_trueRuler_28 (In.ne0 hb16 (by decide)) ?_
          refine lv_topi (fun x17 ex17 => ?_)
          have hb18 : In x17 0 5 := ex17 ▸ In.rem hb9 hb16 (by decide) (by decide) (by decide)
          refine call_i (run_V (rm := rm_X11_isTrue) hx hb hml hown hts (s_X11_isTrue l g ad th _ _ _ x17 hst hT ) cV_X11_isTrue wg_1782 ⟨Nat.le_of_ble_eq_true rfl, Nat.le_of_ble_eq_true rfl⟩ hG hE hA hP hD hS (hst.1 255 (by decide)) hf4 rfl rfl hl.1 (As := [.int x17]) (rest := []) rfl (Nat.le_of_ble_eq_true rfl) dX11_trueRuler_29 ⟨Nat.le_of_ble_eq_true rfl, Nat.le_of_ble_eq_true rfl⟩) hA hD hS (fun r19 L20 f21 H locs hp22 hP hD hS => ?_)
          obtain ⟨eL23L, eL23T, eL23R⟩ := hp22
          have eL23L : L20 = L := eL23L
          have eL23T : f21 = f3 := eL23T
          rw [eL23L, eL23T] at hP hD
          have eL23R : In r19 0 1 := eL23R
          refine lv_if_eq (tgt := 37) hx hb dX11_trueRuler_32 (by decide) (fun c24 => ?_) (fun c24 => ?_)
          ·
            have oc0 : (0 : Int32).toInt = 0 := by decide
            have cc25 : r19.toInt = (0 : Int32).toInt := congrArg Int32.toInt c24
            have hb26 : In r19 0 0 := In.eq1 eL23R (⟨by decide, by decide⟩ : In 0 0 0) cc25 (by decide) (by decide)
            obtain ⟨x27, ex27⟩ : ∃ y : Int32, y = y7_l1 + 1 := ⟨_, rfl⟩
            have hb28 : In x27 1 6 := ex27 ▸ In.add hb9 (⟨by decide, by decide⟩ : In 1 1 1) (by decide) (by decide) (by decide) (by decide)
            have et29 : x27.toInt = y7_l1.toInt + 1 := In.adde ex27 hb9 (k := 1) (by decide) (by decide) (by decide)
            refine lv_iinc (v := x27) (lv' := [(1, .int x27), (0, .ref (ad 255))]) hx hb dX11_trueRuler_37 hl (k := 1) rfl (by rw [ex27]; rfl) (by decide) rfl (fun ls hl => ?_)
            refine lv_goto (tgt := 7) hx hb dX11_trueRuler_40 (by decide) ?_
            exact ih7 x27 _ _ _ (In.mono hb28 (by decide) (by decide)) hP hD hS (lv_sub hl [1, 0] rfl) (msu et29 (by decide) hmz7)
          ·
            have oc0 : (0 : Int32).toInt = 0 := by decide
            have cc30 : r19.toInt ≠ (0 : Int32).toInt := i32_ne c24
            have hb31 : In r19 1 1 := In.ne1 eL23R (⟨by decide, by decide⟩ : In 0 0 0) cc30 (by decide) (by decide)
            refine lv_iload_n hx hb dX11_trueRuler_35 rfl (lv_at hl 1 rfl) ?_
            exact ret_i (ty := .int) hx hb hr hlocks (rfl) hP hD hS (Nat.le_of_ble_eq_true rfl) (Nat.le_of_ble_eq_true rfl) (⟨rfl, hT, hfr⟩) dX11_trueRuler_36
  exact hJ7 ((6 - (0 : Int32).toInt).toNat + 1) 0 _ _ _ (⟨by decide, by decide⟩ : In 0 0 6) hP hD hS (lv_sub hl [1, 0] rfl) (msI _)

abbrev rm_X11_status : Room := { frames := 1, cells := 0, slots := 0, locals := 25 }
abbrev po_X11_status (g : GG) (ad : Nat → Nat) (th : Nat → Int) (L : List Nat) (f : HP) (z1 : Int32) : Int32 → (List Nat × HP) → Prop := fun r u => u.1 = L ∧ TI g ad th u.2 ∧ (∀ b, b ≠ (ad 255) → u.2 b = f b)
set_option maxHeartbeats 4000000 in
set_option maxRecDepth 100000 in
theorem s_X11_status (l : Launch) (g : GG) (ad : Nat → Nat) (th : Nat → Int) (L : List Nat) (f : HP) (sz : Nat) (z1 : Int32) (hst : ST ad L) (hT : TI g ad th f)  : MtI l g yX11_status cX11_status 2 (some .int) rm_X11_status [.ref (ad 255), .int z1] L f sz (po_X11_status g ad th L f z1) := by
  refine MtI.of (by decide +kernel) (Nat.le_of_ble_eq_true rfl) ?_
  intro p e s m below meth c A hEn hP hD hS ls hl
  obtain ⟨hx, hb, hr, hml, hown, hlocks, hts, hG, hA, hE, hnm⟩ := hEn
  have hown : s.vm.findClass "RulerWordModel" = some m.cls := hown
  have hl : lv_has ls 2 [(0, .ref (ad 255)), (1, .int z1)] := hl
  have hfr : (∀ b, b ≠ (ad 255) → f b = f b) := fun b z0_ => rfl
  refine lv_aload_n hx hb dX11_status_0 rfl (lv_at hl 0 rfl) ?_
  refine lv_iconst (v := 0) hx hb dX11_status_1 (by decide) ?_
  refine M0e hT (fun v0_1 v2_1 v3_1 v4_1 v5_1 v6_1 v8_1 v9_1 v12_1 v13_1 v14_1 v15_1 v16_1 v17_1 v18_1 v19_1 v20_1 v21_1 v22_1 v23_1 v25_1 v36_1 v37_1 v38_1 v39_1 v40_1 v45_1 v46_1 v47_1 v48_1 v50_1 v51_1 v53_1 v55_1 hf2 hv0_1 hv2_1 hg2_1 hv3_1 hg3_1 hv4_1 hg4_1 hv5_1 hg5_1 hv6_1 hg6_1 hv8_1 hg8_1 hv9_1 hg9_1 hv12_1 hv13_1 hg13_1 hv14_1 hg14_1 hv15_1 hg15_1 hv17_1 hg17_1 hv20_1 hg20_1 hv23_1 hg23_1 hv25_1 hg25_1 hv36_1 hg36_1 hv47_1 hg47_1 hv48_1 hg48_1 hv53_1 hg53_1 hv55_1 hg55_1 hrel0_1 => ?_)
  have hg15_1 : v15_1.toInt = th 11 := hg15_1
  have hg17_1 : v17_1.toInt = th 12 := hg17_1
  have hg20_1 : v20_1.toInt = th 14 := hg20_1
  refine pl_put (ty := .int) (v := .int 0) (fs' := [.int 0, .ref (ad 256), .int v2_1, .int v3_1, .int v4_1, .int v5_1, .int v6_1, .ref (ad 257), .int v8_1, .int v9_1, .ref (ad 258), .ref (ad 259), .int v12_1, .int v13_1, .int v14_1, .int v15_1, .int v16_1, .int v17_1, .int v18_1, .int v19_1, .int v20_1, .long v21_1, .long v22_1, .int v23_1, .ref (ad 260), .int v25_1, .ref (ad 261), .ref (ad 262), .ref (ad 263), .ref (ad 264), .ref (ad 265), .ref (ad 266), .ref (ad 267), .ref (ad 268), .ref (ad 269), .ref (ad 270), .int v36_1, .int v37_1, .int v38_1, .int v39_1, .int v40_1, .ref (ad 271), .ref (ad 272), .ref (ad 273), .ref (ad 274), .long v45_1, .long v46_1, .int v47_1, .int v48_1, .ref (ad 275), .int v50_1, .int v51_1, .ref (ad 276), .int v53_1, .ref (ad 277), .int v55_1]) hx hb hts (fun w h => mT (inX11 w h)) tyX11 tyX11_ok nmX11 hown hG.1 hP hD hS (hst.1 255 (by decide)) hf2 rfl 0 (by decide) (hts _ (mT wg_1336)) (fun _ h => h) rfl (by decide +kernel) (rfl) (rfl) (Nat.le_of_ble_eq_true rfl) rfl dX11_status_2 (fun H locs f3 hf4 ho5 hP hD hS => ?_)
  have hfr : (∀ b, b ≠ (ad 255) → f3 b = f b) := fun b z0_ => (ho5 b z0_).trans (hfr b z0_)
  refine lv_iload_n hx hb dX11_status_5 rfl (lv_at hl 1 rfl) ?_
  refine lv_i2l hx hb dX11_status_6 rfl ?_
  refine lv_lconst (v := 0) hx hb dX11_status_7 (by decide) ?_
  refine lv_ldc2 hx hb hown (hts _ (mT wg_1747)) dX11_status_8 ?_
  have hT := TI.updM hT hst (k := 0) (by decide) hf4 ho5 ⟨0, v2_1, v3_1, v4_1, v5_1, v6_1, v8_1, v9_1, v12_1, v13_1, v14_1, v15_1, v16_1, v17_1, v18_1, v19_1, v20_1, v21_1, v22_1, v23_1, v25_1, v36_1, v37_1, v38_1, v39_1, v40_1, v45_1, v46_1, v47_1, v48_1, v50_1, v51_1, v53_1, v55_1, rfl, (⟨by decide, by decide⟩ : In 0 0 1), hv2_1, hg2_1, hv3_1, hg3_1, hv4_1, hg4_1, hv5_1, hg5_1, hv6_1, hg6_1, hv8_1, hg8_1, hv9_1, hg9_1, hv12_1, hv13_1, hg13_1, hv14_1, hg14_1, hv15_1, hg15_1, hv17_1, hg17_1, hv20_1, hg20_1, hv23_1, hg23_1, hv25_1, hg25_1, hv36_1, hg36_1, hv47_1, hg47_1, hv48_1, hg48_1, hv53_1, hg53_1, hv55_1, hg55_1, hrel0_1⟩
  refine call_i (run_S (rm := rm_X11_isIn) hx hb hml hown hts (s_X11_isIn l g ad th _ _ _ (z1.toInt64) 0 4 hst hT ) cS_X11_isIn wg_1581 ⟨Nat.le_of_ble_eq_true rfl, Nat.le_of_ble_eq_true rfl⟩ hG hE hA hP hD hS rfl hl.1 (As := [.long (z1.toInt64), .long 0, .long 4]) (rest := []) rfl (Nat.le_of_ble_eq_true rfl) dX11_status_11 ⟨Nat.le_of_ble_eq_true rfl, Nat.le_of_ble_eq_true rfl⟩) hA hD hS (fun r6 L7 f8 H locs hp9 hP hD hS => ?_)
  obtain ⟨eL10L, eL10T, eL10R, eL10X0, eL10X1⟩ := hp9
  have eL10L : L7 = L := eL10L
  have eL10T : f8 = f3 := eL10T
  rw [eL10L, eL10T] at hP hD
  have eL10R : In r6 0 1 := eL10R
  have hii11 : r6.toInt = 0 ∨ (0 ≤ z1.toInt ∧ z1.toInt ≤ 4) := by have z := eL10X0; rw [i2l_t z1, (by decide : (0 : Int64).toInt = 0), (by decide : (4 : Int64).toInt = 4)] at z; exact z
  have hii11w : ¬ r6 = 0 → In z1 0 4 := fun c => by have c2 := i32_ne c; have e0 : (0 : Int32).toInt = 0 := (by decide); exact ⟨by omega, by omega⟩
  refine lv_if_eq (tgt := 26) hx hb dX11_status_14 (by decide) (fun c12 => ?_) (fun c12 => ?_)
  ·
    have cc13 : r6.toInt = (0 : Int32).toInt := congrArg Int32.toInt c12
    have hb14 : In r6 0 0 := In.eq1 eL10R (⟨by decide, by decide⟩ : In 0 0 0) cc13 (by omega) (by omega)
    refine lv_iconst (v := (-1)) hx hb dX11_status_26 (by decide) ?_
    exact ret_i (ty := .int) hx hb hr hlocks (rfl) hP hD hS (Nat.le_of_ble_eq_true rfl) (Nat.le_of_ble_eq_true rfl) (⟨rfl, hT, hfr⟩) dX11_status_27
  ·
    have cc15 : r6.toInt ≠ (0 : Int32).toInt := i32_ne c12
    have hb16 : In r6 1 1 := In.ne1 eL10R (⟨by decide, by decide⟩ : In 0 0 0) cc15 (by omega) (by omega)
    have hb17 : In z1 0 4 := In.both (hii11w c12) (In.full z1) (by decide) (by decide)
    refine lv_aload_n hx hb dX11_status_17 rfl (lv_at hl 0 rfl) ?_
    refine pl_get (v := .ref (ad 275)) hx hb hts (fun w h => mT (inX11 w h)) hown hG.1 hP (hst.1 255 (by decide)) hf4 rfl 49 (by decide) (hts _ (mT wg_1385)) (fun _ h => h) rfl dX11_status_18 ?_
    refine lv_iload_n hx hb dX11_status_21 rfl (lv_at hl 1 rfl) ?_
    obtain ⟨rw18, hf19⟩ := hT.2.2 20 (by decide)
    have hin20 : vp_in z1 5 := In.inb hb17 (by decide) (by decide)
    refine pl_iald hx hb hG.1 hP (hst.1 275 (by decide)) 0 hf19 rfl hin20 dX11_status_22 ?_
    refine lv_topi (fun x21 ex21 => ?_)
    refine lv_goto (tgt := 27) hx hb dX11_status_23 (by decide) ?_
    exact ret_i (ty := .int) hx hb hr hlocks (rfl) hP hD hS (Nat.le_of_ble_eq_true rfl) (Nat.le_of_ble_eq_true rfl) (⟨rfl, hT, hfr⟩) dX11_status_27

abbrev rm_X11_heard : Room := { frames := 2, cells := 0, slots := 0, locals := 47 }
abbrev po_X11_heard (g : GG) (ad : Nat → Nat) (th : Nat → Int) (L : List Nat) (f : HP) (z1 : Int32) (z2 : Int32) (z3 : Int32) (z4 : Int32) : Int32 → (List Nat × HP) → Prop := fun r u => u.1 = L ∧ TI g ad th u.2 ∧ (∀ b, b ≠ (ad 255) → u.2 b = f b)
set_option maxHeartbeats 4000000 in
set_option maxRecDepth 100000 in
theorem s_X11_heard (l : Launch) (g : GG) (ad : Nat → Nat) (th : Nat → Int) (L : List Nat) (f : HP) (sz : Nat) (z1 : Int32) (z2 : Int32) (z3 : Int32) (z4 : Int32) (hst : ST ad L) (hT : TI g ad th f) (hM : MI th) : MtI l g yX11_heard cX11_heard 5 (some .int) rm_X11_heard [.ref (ad 255), .int z1, .int z2, .int z3, .int z4] L f sz (po_X11_heard g ad th L f z1 z2 z3 z4) := by
  refine MtI.of (by decide +kernel) (Nat.le_of_ble_eq_true rfl) ?_
  intro p e s m below meth c A hEn hP hD hS ls hl
  obtain ⟨hx, hb, hr, hml, hown, hlocks, hts, hG, hA, hE, hnm⟩ := hEn
  have hown : s.vm.findClass "RulerWordModel" = some m.cls := hown
  have hl : lv_has ls 5 [(0, .ref (ad 255)), (1, .int z1), (2, .int z2), (3, .int z3), (4, .int z4)] := hl
  have hfr : (∀ b, b ≠ (ad 255) → f b = f b) := fun b z0_ => rfl
  have hM0 := hM
  obtain ⟨m1, m2, m3, m4, m5, m6, m7, m8, m9, m10⟩ := hM0
  have m20 := mi20 m2 m3
  refine lv_aload_n hx hb dX11_heard_0 rfl (lv_at hl 0 rfl) ?_
  refine lv_iconst (v := 0) hx hb dX11_heard_1 (by decide) ?_
  refine M0e hT (fun v0_1 v2_1 v3_1 v4_1 v5_1 v6_1 v8_1 v9_1 v12_1 v13_1 v14_1 v15_1 v16_1 v17_1 v18_1 v19_1 v20_1 v21_1 v22_1 v23_1 v25_1 v36_1 v37_1 v38_1 v39_1 v40_1 v45_1 v46_1 v47_1 v48_1 v50_1 v51_1 v53_1 v55_1 hf2 hv0_1 hv2_1 hg2_1 hv3_1 hg3_1 hv4_1 hg4_1 hv5_1 hg5_1 hv6_1 hg6_1 hv8_1 hg8_1 hv9_1 hg9_1 hv12_1 hv13_1 hg13_1 hv14_1 hg14_1 hv15_1 hg15_1 hv17_1 hg17_1 hv20_1 hg20_1 hv23_1 hg23_1 hv25_1 hg25_1 hv36_1 hg36_1 hv47_1 hg47_1 hv48_1 hg48_1 hv53_1 hg53_1 hv55_1 hg55_1 hrel0_1 => ?_)
  have hg15_1 : v15_1.toInt = th 11 := hg15_1
  have hg17_1 : v17_1.toInt = th 12 := hg17_1
  have hg20_1 : v20_1.toInt = th 14 := hg20_1
  refine pl_put (ty := .int) (v := .int 0) (fs' := [.int 0, .ref (ad 256), .int v2_1, .int v3_1, .int v4_1, .int v5_1, .int v6_1, .ref (ad 257), .int v8_1, .int v9_1, .ref (ad 258), .ref (ad 259), .int v12_1, .int v13_1, .int v14_1, .int v15_1, .int v16_1, .int v17_1, .int v18_1, .int v19_1, .int v20_1, .long v21_1, .long v22_1, .int v23_1, .ref (ad 260), .int v25_1, .ref (ad 261), .ref (ad 262), .ref (ad 263), .ref (ad 264), .ref (ad 265), .ref (ad 266), .ref (ad 267), .ref (ad 268), .ref (ad 269), .ref (ad 270), .int v36_1, .int v37_1, .int v38_1, .int v39_1, .int v40_1, .ref (ad 271), .ref (ad 272), .ref (ad 273), .ref (ad 274), .long v45_1, .long v46_1, .int v47_1, .int v48_1, .ref (ad 275), .int v50_1, .int v51_1, .ref (ad 276), .int v53_1, .ref (ad 277), .int v55_1]) hx hb hts (fun w h => mT (inX11 w h)) tyX11 tyX11_ok nmX11 hown hG.1 hP hD hS (hst.1 255 (by decide)) hf2 rfl 0 (by decide) (hts _ (mT wg_1336)) (fun _ h => h) rfl (by decide +kernel) (rfl) (rfl) (Nat.le_of_ble_eq_true rfl) rfl dX11_heard_2 (fun H locs f3 hf4 ho5 hP hD hS => ?_)
  have hfr : (∀ b, b ≠ (ad 255) → f3 b = f b) := fun b z0_ => (ho5 b z0_).trans (hfr b z0_)
  refine lv_aload_n hx hb dX11_heard_5 rfl (lv_at hl 0 rfl) ?_
  refine lv_iload_n hx hb dX11_heard_6 rfl (lv_at hl 1 rfl) ?_
  refine lv_iload_n hx hb dX11_heard_7 rfl (lv_at hl 2 rfl) ?_
  have hT := TI.updM hT hst (k := 0) (by decide) hf4 ho5 ⟨0, v2_1, v3_1, v4_1, v5_1, v6_1, v8_1, v9_1, v12_1, v13_1, v14_1, v15_1, v16_1, v17_1, v18_1, v19_1, v20_1, v21_1, v22_1, v23_1, v25_1, v36_1, v37_1, v38_1, v39_1, v40_1, v45_1, v46_1, v47_1, v48_1, v50_1, v51_1, v53_1, v55_1, rfl, (⟨by decide, by decide⟩ : In 0 0 1), hv2_1, hg2_1, hv3_1, hg3_1, hv4_1, hg4_1, hv5_1, hg5_1, hv6_1, hg6_1, hv8_1, hg8_1, hv9_1, hg9_1, hv12_1, hv13_1, hg13_1, hv14_1, hg14_1, hv15_1, hg15_1, hv17_1, hg17_1, hv20_1, hg20_1, hv23_1, hg23_1, hv25_1, hg25_1, hv36_1, hg36_1, hv47_1, hg47_1, hv48_1, hg48_1, hv53_1, hg53_1, hv55_1, hg55_1, hrel0_1⟩
  refine call_i (run_V (rm := rm_X11_isRound) hx hb hml hown hts (s_X11_isRound l g ad th _ _ _ z1 z2 hst hT ) cV_X11_isRound wg_1714 ⟨Nat.le_of_ble_eq_true rfl, Nat.le_of_ble_eq_true rfl⟩ hG hE hA hP hD hS (hst.1 255 (by decide)) hf4 rfl rfl hl.1 (As := [.int z1, .int z2]) (rest := []) rfl (Nat.le_of_ble_eq_true rfl) dX11_heard_8 ⟨Nat.le_of_ble_eq_true rfl, Nat.le_of_ble_eq_true rfl⟩) hA hD hS (fun r6 L7 f8 H locs hp9 hP hD hS => ?_)
  obtain ⟨eL10L, eL10T, eL10R, eL10W0, eL10W1, eL10X0⟩ := hp9
  have eL10L : L7 = L := eL10L
  have eL10T : f8 = f3 := eL10T
  rw [eL10L, eL10T] at hP hD
  have eL10R : In r6 0 1 := eL10R
  have hcl11 : r6.toInt = 0 ∨ th 15 = 1 := eL10X0
  refine lv_if_eq (tgt := 49) hx hb dX11_heard_11 (by decide) (fun c12 => ?_) (fun c12 => ?_)
  ·
    have oc0 : (0 : Int32).toInt = 0 := by decide
    have cc13 : r6.toInt = (0 : Int32).toInt := congrArg Int32.toInt c12
    have hb14 : In r6 0 0 := In.eq1 eL10R (⟨by decide, by decide⟩ : In 0 0 0) cc13 (by decide) (by decide)
    refine lv_iconst (v := (-1)) hx hb dX11_heard_49 (by decide) ?_
    exact ret_i (ty := .int) hx hb hr hlocks (rfl) hP hD hS (Nat.le_of_ble_eq_true rfl) (Nat.le_of_ble_eq_true rfl) (⟨rfl, hT, hfr⟩) dX11_heard_50
  ·
    have oc0 : (0 : Int32).toInt = 0 := by decide
    have cc15 : r6.toInt ≠ (0 : Int32).toInt := i32_ne c12
    have hb16 : In r6 1 1 := In.ne1 eL10R (⟨by decide, by decide⟩ : In 0 0 0) cc15 (by decide) (by decide)
    have hb17 : In z1 0 5 := In.both (eL10W0 c12) (In.full z1) (by decide) (by decide)
    have hb18 : In z2 0 2 := In.both (eL10W1 c12) (In.full z2) (by decide) (by decide)
    refine lv_aload_n hx hb dX11_heard_14 rfl (lv_at hl 0 rfl) ?_
    refine lv_iload_n hx hb dX11_heard_15 rfl (lv_at hl 3 rfl) ?_
    refine call_i (run_V (rm := rm_X11_isPeer) hx hb hml hown hts (s_X11_isPeer l g ad th _ _ _ z3 hst hT ) cV_X11_isPeer wg_1718 ⟨Nat.le_of_ble_eq_true rfl, Nat.le_of_ble_eq_true rfl⟩ hG hE hA hP hD hS (hst.1 255 (by decide)) hf4 rfl rfl hl.1 (As := [.int z3]) (rest := []) rfl (Nat.le_of_ble_eq_true rfl) dX11_heard_16 ⟨Nat.le_of_ble_eq_true rfl, Nat.le_of_ble_eq_true rfl⟩) hA hD hS (fun r19 L20 f21 H locs hp22 hP hD hS => ?_)
    obtain ⟨eL23L, eL23T, eL23R, eL23W0, eL23X0⟩ := hp22
    have eL23L : L20 = L := eL23L
    have eL23T : f21 = f3 := eL23T
    rw [eL23L, eL23T] at hP hD
    have eL23R : In r19 0 1 := eL23R
    have hcl24 : r19.toInt = 0 ∨ th 15 = 1 := eL23X0
    refine lv_if_eq (tgt := 49) hx hb dX11_heard_19 (by decide) (fun c25 => ?_) (fun c25 => ?_)
    ·
      have oc0 : (0 : Int32).toInt = 0 := by decide
      have cc26 : r19.toInt = (0 : Int32).toInt := congrArg Int32.toInt c25
      have hb27 : In r19 0 0 := In.eq1 eL23R (⟨by decide, by decide⟩ : In 0 0 0) cc26 (by decide) (by decide)
      refine lv_iconst (v := (-1)) hx hb dX11_heard_49 (by decide) ?_
      exact ret_i (ty := .int) hx hb hr hlocks (rfl) hP hD hS (Nat.le_of_ble_eq_true rfl) (Nat.le_of_ble_eq_true rfl) (⟨rfl, hT, hfr⟩) dX11_heard_50
    ·
      have oc0 : (0 : Int32).toInt = 0 := by decide
      have cc28 : r19.toInt ≠ (0 : Int32).toInt := i32_ne c25
      have hb29 : In r19 1 1 := In.ne1 eL23R (⟨by decide, by decide⟩ : In 0 0 0) cc28 (by decide) (by decide)
      have hb30 : In z3 0 8 := In.both (eL23W0 c25) (In.full z3) (by decide) (by decide)
      refine lv_aload_n hx hb dX11_heard_22 rfl (lv_at hl 0 rfl) ?_
      refine lv_iload hx hb dX11_heard_23 (lv_at hl 4 rfl) ?_
      refine call_i (run_V (rm := rm_X11_isPeer) hx hb hml hown hts (s_X11_isPeer l g ad th _ _ _ z4 hst hT ) cV_X11_isPeer wg_1718 ⟨Nat.le_of_ble_eq_true rfl, Nat.le_of_ble_eq_true rfl⟩ hG hE hA hP hD hS (hst.1 255 (by decide)) hf4 rfl rfl hl.1 (As := [.int z4]) (rest := []) rfl (Nat.le_of_ble_eq_true rfl) dX11_heard_25 ⟨Nat.le_of_ble_eq_true rfl, Nat.le_of_ble_eq_true rfl⟩) hA hD hS (fun r31 L32 f33 H locs hp34 hP hD hS => ?_)
      obtain ⟨eL35L, eL35T, eL35R, eL35W0, eL35X0⟩ := hp34
      have eL35L : L32 = L := eL35L
      have eL35T : f33 = f3 := eL35T
      rw [eL35L, eL35T] at hP hD
      have eL35R : In r31 0 1 := eL35R
      have hcl36 : r31.toInt = 0 ∨ th 15 = 1 := eL35X0
      refine lv_if_eq (tgt := 49) hx hb dX11_heard_28 (by decide) (fun c37 => ?_) (fun c37 => ?_)
      ·
        have oc0 : (0 : Int32).toInt = 0 := by decide
        have cc38 : r31.toInt = (0 : Int32).toInt := congrArg Int32.toInt c37
        have hb39 : In r31 0 0 := In.eq1 eL35R (⟨by decide, by decide⟩ : In 0 0 0) cc38 (by decide) (by decide)
        refine lv_iconst (v := (-1)) hx hb dX11_heard_49 (by decide) ?_
        exact ret_i (ty := .int) hx hb hr hlocks (rfl) hP hD hS (Nat.le_of_ble_eq_true rfl) (Nat.le_of_ble_eq_true rfl) (⟨rfl, hT, hfr⟩) dX11_heard_50
      ·
        have oc0 : (0 : Int32).toInt = 0 := by decide
        have cc40 : r31.toInt ≠ (0 : Int32).toInt := i32_ne c37
        have hb41 : In r31 1 1 := In.ne1 eL35R (⟨by decide, by decide⟩ : In 0 0 0) cc40 (by decide) (by decide)
        have hb42 : In z4 0 8 := In.both (eL35W0 c37) (In.full z4) (by decide) (by decide)
        refine lv_aload_n hx hb dX11_heard_31 rfl (lv_at hl 0 rfl) ?_
        refine call_i (run_V (rm := rm_X11_each) hx hb hml hown hts (s_X11_each l g ad th _ _ _  hst hT ) cV_X11_each wg_1636 ⟨Nat.le_of_ble_eq_true rfl, Nat.le_of_ble_eq_true rfl⟩ hG hE hA hP hD hS (hst.1 255 (by decide)) hf4 rfl rfl hl.1 (As := []) (rest := []) rfl (Nat.le_of_ble_eq_true rfl) dX11_heard_32 ⟨Nat.le_of_ble_eq_true rfl, Nat.le_of_ble_eq_true rfl⟩) hA hD hS (fun r43 L44 f45 H locs hp46 hP hD hS => ?_)
        obtain ⟨eL47L, eL47T, eL47R, eL47X0⟩ := hp46
        have eL47L : L44 = L := eL47L
        have eL47T : f45 = f3 := eL47T
        rw [eL47L, eL47T] at hP hD
        have eL47R : In r43 2 3 := eL47R
        have hrn48 : r43.toInt = rnd (th 10) := eL47X0
        refine lv_iload_n hx hb dX11_heard_35 rfl (lv_at hl 1 rfl) ?_
        refine lv_imul hx hb dX11_heard_36 ?_
        refine lv_topi (fun x49 ex49 => ?_)
        have hb50 : In x49 0 15 := ex49 ▸ In.mul eL47R hb17 (by decide) (by decide) (by decide) (by decide) (by decide)
        refine lv_iload_n hx hb dX11_heard_37 rfl (lv_at hl 2 rfl) ?_
        refine lv_iadd hx hb dX11_heard_38 ?_
        refine lv_topi (fun x51 ex51 => ?_)
        have hb52 : In x51 0 17 := ex51 ▸ In.add hb50 hb18 (by decide) (by decide) (by decide) (by decide)
        have et53 : x51.toInt = x49.toInt + z2.toInt := In.add2e ex51 hb50 hb18 (by decide) (by decide)
        refine lv_aload_n hx hb dX11_heard_39 rfl (lv_at hl 0 rfl) ?_
        refine pl_get (v := .ref (ad 271)) hx hb hts (fun w h => mT (inX11 w h)) hown hG.1 hP (hst.1 255 (by decide)) hf4 rfl 41 (by decide) (hts _ (mT wg_1377)) (fun _ h => h) rfl dX11_heard_40 ?_
        refine lv_bipush (v := 72) hx hb dX11_heard_43 (by decide) ?_
        obtain ⟨rw54, hf55, hpi57, hc56⟩ := hT.2.2 16 (by decide)
        have hc56 : PRW 2126 (th 22) (th 20) (th 21) rw54 := hc56
        have hpi57 : ((72 : Int) < (th 22) → (rw54 72).toInt = th 19) := hpi57
        have hin58 : vp_in 72 2126 := In.inb (⟨by decide, by decide⟩ : In 72 72 72) (by decide) (by decide)
        refine pl_iald hx hb hG.1 hP (hst.1 271 (by decide)) 0 hf55 rfl hin58 dX11_heard_45 ?_
        refine lv_topi (fun x59 ex59 => ?_)
        have hpd60 : PRED (th 20) (th 21) 72 x59 := by rw [ex59]; exact prw_at (k := 72) hc56 (by decide) (by decide) (by omega) (by decide)
        have hb61 : In x59 0 18 := ⟨(hpd60.1 rfl).1, Int.le_trans (hpd60.1 rfl).2 (by omega)⟩
        have hgl62 : x59.toInt = th 19 := by rw [ex59]; exact pinE (k := 72) (by decide) (hpi57 (by omega))
        have hpd60b := (hpd60.1 rfl).2
        refine lv_icmp_lt (tgt := 51) hx hb dX11_heard_46 (by decide) (fun c63 => ?_) (fun c63 => ?_)
        ·
          have cc64 : x51.toInt < x59.toInt := i32_lt.mp c63
          have hb65 : In x59 1 18 := In.lt2 hb52 hb61 cc64 (by decide) (by decide)
          refine lv_aload_n hx hb dX11_heard_51 rfl (lv_at hl 0 rfl) ?_
          refine pl_get (v := .ref (ad 271)) hx hb hts (fun w h => mT (inX11 w h)) hown hG.1 hP (hst.1 255 (by decide)) hf4 rfl 41 (by decide) (hts _ (mT wg_1377)) (fun _ h => h) rfl dX11_heard_52 ?_
          refine lv_bipush (v := 80) hx hb dX11_heard_55 (by decide) ?_
          refine lv_bipush (v := 81) hx hb dX11_heard_57 (by decide) ?_
          refine lv_iconst (v := 3) hx hb dX11_heard_59 (by decide) ?_
          refine lv_iload_n hx hb dX11_heard_60 rfl (lv_at hl 1 rfl) ?_
          refine lv_imul hx hb dX11_heard_61 ?_
          refine lv_topi (fun x66 ex66 => ?_)
          have hb67 : In x66 0 15 := ex66 ▸ In.mul (⟨by decide, by decide⟩ : In 3 3 3) hb17 (by decide) (by decide) (by decide) (by decide) (by decide)
          have et68 : x66.toInt = 3 * z1.toInt := In.mule ex66 (⟨by decide, by decide⟩ : In 3 3 3) hb17 (by decide) (by decide) (by decide) (by decide) rfl
          refine lv_iload_n hx hb dX11_heard_62 rfl (lv_at hl 2 rfl) ?_
          refine lv_iadd hx hb dX11_heard_63 ?_
          refine lv_topi (fun x69 ex69 => ?_)
          have hb70 : In x69 0 17 := ex69 ▸ In.add hb67 hb18 (by decide) (by decide) (by decide) (by decide)
          have et71 : x69.toInt = x66.toInt + z2.toInt := In.add2e ex69 hb67 hb18 (by decide) (by decide)
          refine lv_imul hx hb dX11_heard_64 ?_
          refine lv_topi (fun x72 ex72 => ?_)
          have hb73 : In x72 0 1377 := ex72 ▸ In.mul (⟨by decide, by decide⟩ : In 81 81 81) hb70 (by decide) (by decide) (by decide) (by decide) (by decide)
          have et74 : x72.toInt = 81 * x69.toInt := In.mule ex72 (⟨by decide, by decide⟩ : In 81 81 81) hb70 (by decide) (by decide) (by decide) (by decide) rfl
          refine lv_iadd hx hb dX11_heard_65 ?_
          refine lv_topi (fun x75 ex75 => ?_)
          have hb76 : In x75 80 1457 := ex75 ▸ In.add (⟨by decide, by decide⟩ : In 80 80 80) hb73 (by decide) (by decide) (by decide) (by decide)
          have et77 : x75.toInt = (80 : Int32).toInt + x72.toInt := In.add2e ex75 (⟨by decide, by decide⟩ : In 80 80 80) hb73 (by decide) (by decide)
          refine lv_bipush (v := 9) hx hb dX11_heard_66 (by decide) ?_
          refine lv_iload_n hx hb dX11_heard_68 rfl (lv_at hl 3 rfl) ?_
          refine lv_imul hx hb dX11_heard_69 ?_
          refine lv_topi (fun x78 ex78 => ?_)
          have hb79 : In x78 0 72 := ex78 ▸ In.mul (⟨by decide, by decide⟩ : In 9 9 9) hb30 (by decide) (by decide) (by decide) (by decide) (by decide)
          have et80 : x78.toInt = 9 * z3.toInt := In.mule ex78 (⟨by decide, by decide⟩ : In 9 9 9) hb30 (by decide) (by decide) (by decide) (by decide) rfl
          refine lv_iadd hx hb dX11_heard_70 ?_
          refine lv_topi (fun x81 ex81 => ?_)
          have hb82 : In x81 80 1529 := ex81 ▸ In.add hb76 hb79 (by decide) (by decide) (by decide) (by decide)
          have et83 : x81.toInt = x75.toInt + x78.toInt := In.add2e ex81 hb76 hb79 (by decide) (by decide)
          refine lv_iload hx hb dX11_heard_71 (lv_at hl 4 rfl) ?_
          refine lv_iadd hx hb dX11_heard_73 ?_
          refine lv_topi (fun x84 ex84 => ?_)
          have hb85 : In x84 80 1537 := ex84 ▸ In.add hb82 hb42 (by decide) (by decide) (by decide) (by decide)
          have et86 : x84.toInt = x81.toInt + z4.toInt := In.add2e ex84 hb82 hb42 (by decide) (by decide)
          have hin87 : vp_in x84 2126 := In.inb hb85 (by decide) (by decide)
          refine pl_iald hx hb hG.1 hP (hst.1 271 (by decide)) 0 hf55 rfl hin87 dX11_heard_74 ?_
          refine lv_topi (fun x88 ex88 => ?_)
          exact ret_i (ty := .int) hx hb hr hlocks (rfl) hP hD hS (Nat.le_of_ble_eq_true rfl) (Nat.le_of_ble_eq_true rfl) (⟨rfl, hT, hfr⟩) dX11_heard_75
        ·
          have cc89 : x59.toInt ≤ x51.toInt := i32_nlt c63
          have hb90 : In x59 0 17 := In.ge2 hb52 hb61 cc89 (by decide) (by decide)
          refine lv_iconst (v := (-1)) hx hb dX11_heard_49 (by decide) ?_
          exact ret_i (ty := .int) hx hb hr hlocks (rfl) hP hD hS (Nat.le_of_ble_eq_true rfl) (Nat.le_of_ble_eq_true rfl) (⟨rfl, hT, hfr⟩) dX11_heard_50

abbrev rm_X11_told : Room := { frames := 2, cells := 0, slots := 0, locals := 46 }
abbrev po_X11_told (g : GG) (ad : Nat → Nat) (th : Nat → Int) (L : List Nat) (f : HP) (z1 : Int32) (z2 : Int32) (z3 : Int32) : Int32 → (List Nat × HP) → Prop := fun r u => u.1 = L ∧ TI g ad th u.2 ∧ (∀ b, b ≠ (ad 255) → u.2 b = f b)
set_option maxHeartbeats 4000000 in
set_option maxRecDepth 100000 in
theorem s_X11_told (l : Launch) (g : GG) (ad : Nat → Nat) (th : Nat → Int) (L : List Nat) (f : HP) (sz : Nat) (z1 : Int32) (z2 : Int32) (z3 : Int32) (hst : ST ad L) (hT : TI g ad th f) (hM : MI th) : MtI l g yX11_told cX11_told 4 (some .int) rm_X11_told [.ref (ad 255), .int z1, .int z2, .int z3] L f sz (po_X11_told g ad th L f z1 z2 z3) := by
  refine MtI.of (by decide +kernel) (Nat.le_of_ble_eq_true rfl) ?_
  intro p e s m below meth c A hEn hP hD hS ls hl
  obtain ⟨hx, hb, hr, hml, hown, hlocks, hts, hG, hA, hE, hnm⟩ := hEn
  have hown : s.vm.findClass "RulerWordModel" = some m.cls := hown
  have hl : lv_has ls 4 [(0, .ref (ad 255)), (1, .int z1), (2, .int z2), (3, .int z3)] := hl
  have hfr : (∀ b, b ≠ (ad 255) → f b = f b) := fun b z0_ => rfl
  have hM0 := hM
  obtain ⟨m1, m2, m3, m4, m5, m6, m7, m8, m9, m10⟩ := hM0
  have m20 := mi20 m2 m3
  refine lv_aload_n hx hb dX11_told_0 rfl (lv_at hl 0 rfl) ?_
  refine lv_iconst (v := 0) hx hb dX11_told_1 (by decide) ?_
  refine M0e hT (fun v0_1 v2_1 v3_1 v4_1 v5_1 v6_1 v8_1 v9_1 v12_1 v13_1 v14_1 v15_1 v16_1 v17_1 v18_1 v19_1 v20_1 v21_1 v22_1 v23_1 v25_1 v36_1 v37_1 v38_1 v39_1 v40_1 v45_1 v46_1 v47_1 v48_1 v50_1 v51_1 v53_1 v55_1 hf2 hv0_1 hv2_1 hg2_1 hv3_1 hg3_1 hv4_1 hg4_1 hv5_1 hg5_1 hv6_1 hg6_1 hv8_1 hg8_1 hv9_1 hg9_1 hv12_1 hv13_1 hg13_1 hv14_1 hg14_1 hv15_1 hg15_1 hv17_1 hg17_1 hv20_1 hg20_1 hv23_1 hg23_1 hv25_1 hg25_1 hv36_1 hg36_1 hv47_1 hg47_1 hv48_1 hg48_1 hv53_1 hg53_1 hv55_1 hg55_1 hrel0_1 => ?_)
  have hg15_1 : v15_1.toInt = th 11 := hg15_1
  have hg17_1 : v17_1.toInt = th 12 := hg17_1
  have hg20_1 : v20_1.toInt = th 14 := hg20_1
  refine pl_put (ty := .int) (v := .int 0) (fs' := [.int 0, .ref (ad 256), .int v2_1, .int v3_1, .int v4_1, .int v5_1, .int v6_1, .ref (ad 257), .int v8_1, .int v9_1, .ref (ad 258), .ref (ad 259), .int v12_1, .int v13_1, .int v14_1, .int v15_1, .int v16_1, .int v17_1, .int v18_1, .int v19_1, .int v20_1, .long v21_1, .long v22_1, .int v23_1, .ref (ad 260), .int v25_1, .ref (ad 261), .ref (ad 262), .ref (ad 263), .ref (ad 264), .ref (ad 265), .ref (ad 266), .ref (ad 267), .ref (ad 268), .ref (ad 269), .ref (ad 270), .int v36_1, .int v37_1, .int v38_1, .int v39_1, .int v40_1, .ref (ad 271), .ref (ad 272), .ref (ad 273), .ref (ad 274), .long v45_1, .long v46_1, .int v47_1, .int v48_1, .ref (ad 275), .int v50_1, .int v51_1, .ref (ad 276), .int v53_1, .ref (ad 277), .int v55_1]) hx hb hts (fun w h => mT (inX11 w h)) tyX11 tyX11_ok nmX11 hown hG.1 hP hD hS (hst.1 255 (by decide)) hf2 rfl 0 (by decide) (hts _ (mT wg_1336)) (fun _ h => h) rfl (by decide +kernel) (rfl) (rfl) (Nat.le_of_ble_eq_true rfl) rfl dX11_told_2 (fun H locs f3 hf4 ho5 hP hD hS => ?_)
  have hfr : (∀ b, b ≠ (ad 255) → f3 b = f b) := fun b z0_ => (ho5 b z0_).trans (hfr b z0_)
  refine lv_aload_n hx hb dX11_told_5 rfl (lv_at hl 0 rfl) ?_
  refine lv_iload_n hx hb dX11_told_6 rfl (lv_at hl 1 rfl) ?_
  have hT := TI.updM hT hst (k := 0) (by decide) hf4 ho5 ⟨0, v2_1, v3_1, v4_1, v5_1, v6_1, v8_1, v9_1, v12_1, v13_1, v14_1, v15_1, v16_1, v17_1, v18_1, v19_1, v20_1, v21_1, v22_1, v23_1, v25_1, v36_1, v37_1, v38_1, v39_1, v40_1, v45_1, v46_1, v47_1, v48_1, v50_1, v51_1, v53_1, v55_1, rfl, (⟨by decide, by decide⟩ : In 0 0 1), hv2_1, hg2_1, hv3_1, hg3_1, hv4_1, hg4_1, hv5_1, hg5_1, hv6_1, hg6_1, hv8_1, hg8_1, hv9_1, hg9_1, hv12_1, hv13_1, hg13_1, hv14_1, hg14_1, hv15_1, hg15_1, hv17_1, hg17_1, hv20_1, hg20_1, hv23_1, hg23_1, hv25_1, hg25_1, hv36_1, hg36_1, hv47_1, hg47_1, hv48_1, hg48_1, hv53_1, hg53_1, hv55_1, hg55_1, hrel0_1⟩
  refine call_i (run_V (rm := rm_X11_isPeer) hx hb hml hown hts (s_X11_isPeer l g ad th _ _ _ z1 hst hT ) cV_X11_isPeer wg_1718 ⟨Nat.le_of_ble_eq_true rfl, Nat.le_of_ble_eq_true rfl⟩ hG hE hA hP hD hS (hst.1 255 (by decide)) hf4 rfl rfl hl.1 (As := [.int z1]) (rest := []) rfl (Nat.le_of_ble_eq_true rfl) dX11_told_7 ⟨Nat.le_of_ble_eq_true rfl, Nat.le_of_ble_eq_true rfl⟩) hA hD hS (fun r6 L7 f8 H locs hp9 hP hD hS => ?_)
  obtain ⟨eL10L, eL10T, eL10R, eL10W0, eL10X0⟩ := hp9
  have eL10L : L7 = L := eL10L
  have eL10T : f8 = f3 := eL10T
  rw [eL10L, eL10T] at hP hD
  have eL10R : In r6 0 1 := eL10R
  have hcl11 : r6.toInt = 0 ∨ th 15 = 1 := eL10X0
  have hJ56 : ∀ (H : Heap) (locs : List Loc) (ls : Array Slot), va_P g.1 vwCl (va_pl L f3) H → va_D A (va_pl L f3) → va_S A s.heap H locs → lv_has ls 4 [(0, .ref (ad 255)), (1, .int z1), (2, .int z2), (3, .int z3)] → W p l e rm_X11_told s m [.ref (ad 255), .int z1, .int z2, .int z3].toArray below meth c H locs 0 0 (MQ below (va_Qi (po_X11_told g ad th L f z1 z2 z3) (PstB g A) A) [.ref (ad 255), .int z1, .int z2, .int z3].toArray s rm_X11_told.cells rm_X11_told.slots A) (F0 m 56 ls []) := by
    intro H locs ls hP hD hS hl
    refine lv_iconst (v := (-1)) hx hb dX11_told_56 (by decide) ?_
    exact ret_i (ty := .int) hx hb hr hlocks (rfl) hP hD hS (Nat.le_of_ble_eq_true rfl) (Nat.le_of_ble_eq_true rfl) (⟨rfl, hT, hfr⟩) dX11_told_57
  refine lv_if_eq (tgt := 56) hx hb dX11_told_10 (by decide) (fun c12 => ?_) (fun c12 => ?_)
  ·
    have oc0 : (0 : Int32).toInt = 0 := by decide
    have cc13 : r6.toInt = (0 : Int32).toInt := congrArg Int32.toInt c12
    have hb14 : In r6 0 0 := In.eq1 eL10R (⟨by decide, by decide⟩ : In 0 0 0) cc13 (by decide) (by decide)
    exact hJ56 _ _ _ hP hD hS (lv_sub hl [0, 1, 2, 3] rfl)
  ·
    have oc0 : (0 : Int32).toInt = 0 := by decide
    have cc15 : r6.toInt ≠ (0 : Int32).toInt := i32_ne c12
    have hb16 : In r6 1 1 := In.ne1 eL10R (⟨by decide, by decide⟩ : In 0 0 0) cc15 (by decide) (by decide)
    have hb17 : In z1 0 8 := In.both (eL10W0 c12) (In.full z1) (by decide) (by decide)
    refine lv_iload_n hx hb dX11_told_13 rfl (lv_at hl 2 rfl) ?_
    refine lv_i2l hx hb dX11_told_14 rfl ?_
    refine lv_lconst (v := 0) hx hb dX11_told_15 (by decide) ?_
    refine lv_aload_n hx hb dX11_told_16 rfl (lv_at hl 0 rfl) ?_
    refine call_i (run_V (rm := rm_X11_over) hx hb hml hown hts (s_X11_over l g ad th _ _ _  hst hT (show MI th from hM)) cV_X11_over wg_1769 ⟨Nat.le_of_ble_eq_true rfl, Nat.le_of_ble_eq_true rfl⟩ hG hE hA hP hD hS (hst.1 255 (by decide)) hf4 rfl rfl hl.1 (As := []) (rest := [.long 0, .long (z2.toInt64)]) rfl (Nat.le_of_ble_eq_true rfl) dX11_told_17 ⟨Nat.le_of_ble_eq_true rfl, Nat.le_of_ble_eq_true rfl⟩) hA hD hS (fun r18 L19 f20 H locs hp21 hP hD hS => ?_)
    obtain ⟨eL22L, eL22T, eL22R, eL22X0⟩ := hp21
    have eL22L : L19 = L := eL22L
    have eL22T : f20 = f3 := eL22T
    rw [eL22L, eL22T] at hP hD
    have eL22R : In r18 0 6 := eL22R
    have hcl23 : r18.toInt = 0 ∨ th 15 = 1 := eL22X0
    refine lv_iconst (v := 1) hx hb dX11_told_20 (by decide) ?_
    refine lv_isub hx hb dX11_told_21 ?_
    refine lv_topi (fun x24 ex24 => ?_)
    have hb25 : In x24 (-1) 5 := ex24 ▸ In.sub eL22R (⟨by decide, by decide⟩ : In 1 1 1) (by decide) (by decide) (by decide) (by decide)
    have et26 : x24.toInt = r18.toInt + (-1) := In.sube ex24 eL22R (k := 1) (by decide) (by decide) (by decide)
    refine lv_i2l hx hb dX11_told_22 rfl ?_
    refine call_i (run_S (rm := rm_X11_isIn) hx hb hml hown hts (s_X11_isIn l g ad th _ _ _ (z2.toInt64) 0 (x24.toInt64) hst hT ) cS_X11_isIn wg_1581 ⟨Nat.le_of_ble_eq_true rfl, Nat.le_of_ble_eq_true rfl⟩ hG hE hA hP hD hS rfl hl.1 (As := [.long (z2.toInt64), .long 0, .long (x24.toInt64)]) (rest := []) rfl (Nat.le_of_ble_eq_true rfl) dX11_told_23 ⟨Nat.le_of_ble_eq_true rfl, Nat.le_of_ble_eq_true rfl⟩) hA hD hS (fun r27 L28 f29 H locs hp30 hP hD hS => ?_)
    obtain ⟨eL31L, eL31T, eL31R, eL31X0, eL31X1⟩ := hp30
    have eL31L : L28 = L := eL31L
    have eL31T : f29 = f3 := eL31T
    rw [eL31L, eL31T] at hP hD
    have eL31R : In r27 0 1 := eL31R
    have hii32 : r27.toInt = 0 ∨ (0 ≤ z2.toInt ∧ z2.toInt ≤ x24.toInt) := by have z := eL31X0; rw [i2l_t z2, (by decide : (0 : Int64).toInt = 0), i2l_t x24] at z; exact z
    have hii32w : ¬ r27 = 0 → In z2 0 5 := fun c => by have c2 := i32_ne c; have e0 : (0 : Int32).toInt = 0 := (by decide); obtain ⟨o1, p1⟩ := (hb25 : In _ _ _); exact ⟨by omega, by omega⟩
    refine lv_if_eq (tgt := 56) hx hb dX11_told_26 (by decide) (fun c33 => ?_) (fun c33 => ?_)
    ·
      have oc0 : (0 : Int32).toInt = 0 := by decide
      have cc34 : r27.toInt = (0 : Int32).toInt := congrArg Int32.toInt c33
      have hb35 : In r27 0 0 := In.eq1 eL31R (⟨by decide, by decide⟩ : In 0 0 0) cc34 (by decide) (by decide)
      exact hJ56 _ _ _ hP hD hS (lv_sub hl [0, 1, 2, 3] rfl)
    ·
      have oc0 : (0 : Int32).toInt = 0 := by decide
      have cc36 : r27.toInt ≠ (0 : Int32).toInt := i32_ne c33
      have hb37 : In r27 1 1 := In.ne1 eL31R (⟨by decide, by decide⟩ : In 0 0 0) cc36 (by decide) (by decide)
      have hb38 : In z2 0 5 := In.both (hii32w c33) (In.full z2) (by decide) (by decide)
      refine lv_iload_n hx hb dX11_told_29 rfl (lv_at hl 3 rfl) ?_
      refine lv_i2l hx hb dX11_told_30 rfl ?_
      refine lv_lconst (v := 0) hx hb dX11_told_31 (by decide) ?_
      refine lv_ldc2 hx hb hown (hts _ (mT wg_1773)) dX11_told_32 ?_
      refine call_i (run_S (rm := rm_X11_isIn) hx hb hml hown hts (s_X11_isIn l g ad th _ _ _ (z3.toInt64) 0 7 hst hT ) cS_X11_isIn wg_1581 ⟨Nat.le_of_ble_eq_true rfl, Nat.le_of_ble_eq_true rfl⟩ hG hE hA hP hD hS rfl hl.1 (As := [.long (z3.toInt64), .long 0, .long 7]) (rest := []) rfl (Nat.le_of_ble_eq_true rfl) dX11_told_35 ⟨Nat.le_of_ble_eq_true rfl, Nat.le_of_ble_eq_true rfl⟩) hA hD hS (fun r39 L40 f41 H locs hp42 hP hD hS => ?_)
      obtain ⟨eL43L, eL43T, eL43R, eL43X0, eL43X1⟩ := hp42
      have eL43L : L40 = L := eL43L
      have eL43T : f41 = f3 := eL43T
      rw [eL43L, eL43T] at hP hD
      have eL43R : In r39 0 1 := eL43R
      have hii44 : r39.toInt = 0 ∨ (0 ≤ z3.toInt ∧ z3.toInt ≤ 7) := by have z := eL43X0; rw [i2l_t z3, (by decide : (0 : Int64).toInt = 0), (by decide : (7 : Int64).toInt = 7)] at z; exact z
      have hii44w : ¬ r39 = 0 → In z3 0 7 := fun c => by have c2 := i32_ne c; have e0 : (0 : Int32).toInt = 0 := (by decide); exact ⟨by omega, by omega⟩
      refine lv_if_eq (tgt := 56) hx hb dX11_told_38 (by decide) (fun c45 => ?_) (fun c45 => ?_)
      ·
        have oc0 : (0 : Int32).toInt = 0 := by decide
        have cc46 : r39.toInt = (0 : Int32).toInt := congrArg Int32.toInt c45
        have hb47 : In r39 0 0 := In.eq1 eL43R (⟨by decide, by decide⟩ : In 0 0 0) cc46 (by decide) (by decide)
        exact hJ56 _ _ _ hP hD hS (lv_sub hl [0, 1, 2, 3] rfl)
      ·
        have oc0 : (0 : Int32).toInt = 0 := by decide
        have cc48 : r39.toInt ≠ (0 : Int32).toInt := i32_ne c45
        have hb49 : In r39 1 1 := In.ne1 eL43R (⟨by decide, by decide⟩ : In 0 0 0) cc48 (by decide) (by decide)
        have hb50 : In z3 0 7 := In.both (hii44w c45) (In.full z3) (by decide) (by decide)
        refine lv_aload_n hx hb dX11_told_41 rfl (lv_at hl 0 rfl) ?_
        refine pl_get (v := .ref (ad 271)) hx hb hts (fun w h => mT (inX11 w h)) hown hG.1 hP (hst.1 255 (by decide)) hf4 rfl 41 (by decide) (hts _ (mT wg_1377)) (fun _ h => h) rfl dX11_told_42 ?_
        refine lv_iload_n hx hb dX11_told_45 rfl (lv_at hl 2 rfl) ?_
        refine lv_iload_n hx hb dX11_told_46 rfl (lv_at hl 1 rfl) ?_
        refine call_i (run_S (rm := rm_X11_toldAt) hx hb hml hown hts (s_X11_toldAt l g ad th _ _ _ z2 z1 hst hT hb38 hb17) cS_X11_toldAt wg_1699 ⟨Nat.le_of_ble_eq_true rfl, Nat.le_of_ble_eq_true rfl⟩ hG hE hA hP hD hS rfl hl.1 (As := [.int z2, .int z1]) (rest := [.ref (ad 271)]) rfl (Nat.le_of_ble_eq_true rfl) dX11_told_47 ⟨Nat.le_of_ble_eq_true rfl, Nat.le_of_ble_eq_true rfl⟩) hA hD hS (fun r51 L52 f53 H locs hp54 hP hD hS => ?_)
        obtain ⟨eL55L, eL55T, eL55R⟩ := hp54
        have eL55L : L52 = L := eL55L
        have eL55T : f53 = f3 := eL55T
        rw [eL55L, eL55T] at hP hD
        have eL55R : In r51 1538 1962 := eL55R
        refine lv_iload_n hx hb dX11_told_50 rfl (lv_at hl 3 rfl) ?_
        refine lv_iadd hx hb dX11_told_51 ?_
        refine lv_topi (fun x56 ex56 => ?_)
        have hb57 : In x56 1538 1969 := ex56 ▸ In.add eL55R hb50 (by decide) (by decide) (by decide) (by decide)
        have et58 : x56.toInt = r51.toInt + z3.toInt := In.add2e ex56 eL55R hb50 (by decide) (by decide)
        obtain ⟨rw59, hf60, hpi62, hc61⟩ := hT.2.2 16 (by decide)
        have hc61 : PRW 2126 (th 22) (th 20) (th 21) rw59 := hc61
        have hpi62 : ((72 : Int) < (th 22) → (rw59 72).toInt = th 19) := hpi62
        have hin63 : vp_in x56 2126 := In.inb hb57 (by decide) (by decide)
        refine pl_iald hx hb hG.1 hP (hst.1 271 (by decide)) 0 hf60 rfl hin63 dX11_told_52 ?_
        refine lv_topi (fun x64 ex64 => ?_)
        refine lv_goto (tgt := 57) hx hb dX11_told_53 (by decide) ?_
        exact ret_i (ty := .int) hx hb hr hlocks (rfl) hP hD hS (Nat.le_of_ble_eq_true rfl) (Nat.le_of_ble_eq_true rfl) (⟨rfl, hT, hfr⟩) dX11_told_57

abbrev rm_X11_line : Room := { frames := 1, cells := 0, slots := 0, locals := 25 }
abbrev po_X11_line (g : GG) (ad : Nat → Nat) (th : Nat → Int) (L : List Nat) (f : HP) (z1 : Int32) (z2 : Int32) : Int32 → (List Nat × HP) → Prop := fun r u => u.1 = L ∧ TI g ad th u.2 ∧ (∀ b, b ≠ (ad 255) → u.2 b = f b)
set_option maxHeartbeats 4000000 in
set_option maxRecDepth 100000 in
theorem s_X11_line (l : Launch) (g : GG) (ad : Nat → Nat) (th : Nat → Int) (L : List Nat) (f : HP) (sz : Nat) (z1 : Int32) (z2 : Int32) (hst : ST ad L) (hT : TI g ad th f)  : MtI l g yX11_line cX11_line 3 (some .int) rm_X11_line [.ref (ad 255), .int z1, .int z2] L f sz (po_X11_line g ad th L f z1 z2) := by
  refine MtI.of (by decide +kernel) (Nat.le_of_ble_eq_true rfl) ?_
  intro p e s m below meth c A hEn hP hD hS ls hl
  obtain ⟨hx, hb, hr, hml, hown, hlocks, hts, hG, hA, hE, hnm⟩ := hEn
  have hown : s.vm.findClass "RulerWordModel" = some m.cls := hown
  have hl : lv_has ls 3 [(0, .ref (ad 255)), (1, .int z1), (2, .int z2)] := hl
  have hfr : (∀ b, b ≠ (ad 255) → f b = f b) := fun b z0_ => rfl
  refine lv_aload_n hx hb dX11_line_0 rfl (lv_at hl 0 rfl) ?_
  refine lv_iload_n hx hb dX11_line_1 rfl (lv_at hl 1 rfl) ?_
  refine lv_i2l hx hb dX11_line_2 rfl ?_
  refine lv_lconst (v := 0) hx hb dX11_line_3 (by decide) ?_
  refine lv_aload_n hx hb dX11_line_4 rfl (lv_at hl 0 rfl) ?_
  refine M0e hT (fun v0_1 v2_1 v3_1 v4_1 v5_1 v6_1 v8_1 v9_1 v12_1 v13_1 v14_1 v15_1 v16_1 v17_1 v18_1 v19_1 v20_1 v21_1 v22_1 v23_1 v25_1 v36_1 v37_1 v38_1 v39_1 v40_1 v45_1 v46_1 v47_1 v48_1 v50_1 v51_1 v53_1 v55_1 hf2 hv0_1 hv2_1 hg2_1 hv3_1 hg3_1 hv4_1 hg4_1 hv5_1 hg5_1 hv6_1 hg6_1 hv8_1 hg8_1 hv9_1 hg9_1 hv12_1 hv13_1 hg13_1 hv14_1 hg14_1 hv15_1 hg15_1 hv17_1 hg17_1 hv20_1 hg20_1 hv23_1 hg23_1 hv25_1 hg25_1 hv36_1 hg36_1 hv47_1 hg47_1 hv48_1 hg48_1 hv53_1 hg53_1 hv55_1 hg55_1 hrel0_1 => ?_)
  have hg15_1 : v15_1.toInt = th 11 := hg15_1
  have hg17_1 : v17_1.toInt = th 12 := hg17_1
  have hg20_1 : v20_1.toInt = th 14 := hg20_1
  refine pl_get (v := .int v12_1) hx hb hts (fun w h => mT (inX11 w h)) hown hG.1 hP (hst.1 255 (by decide)) hf2 rfl 12 (by decide) (hts _ (mT wg_1348)) (fun _ h => h) rfl dX11_line_5 ?_
  refine lv_iconst (v := 1) hx hb dX11_line_8 (by decide) ?_
  refine lv_isub hx hb dX11_line_9 ?_
  refine lv_topi (fun x3 ex3 => ?_)
  have hb4 : In x3 (-1) 19 := ex3 ▸ In.sub hv12_1 (⟨by decide, by decide⟩ : In 1 1 1) (by decide) (by decide) (by decide) (by decide)
  have et5 : x3.toInt = v12_1.toInt + (-1) := In.sube ex3 hv12_1 (k := 1) (by decide) (by decide) (by decide)
  refine lv_i2l hx hb dX11_line_10 rfl ?_
  refine call_i (run_S (rm := rm_X11_isIn) hx hb hml hown hts (s_X11_isIn l g ad th _ _ _ (z1.toInt64) 0 (x3.toInt64) hst hT ) cS_X11_isIn wg_1581 ⟨Nat.le_of_ble_eq_true rfl, Nat.le_of_ble_eq_true rfl⟩ hG hE hA hP hD hS rfl hl.1 (As := [.long (z1.toInt64), .long 0, .long (x3.toInt64)]) (rest := [.ref (ad 255)]) rfl (Nat.le_of_ble_eq_true rfl) dX11_line_11 ⟨Nat.le_of_ble_eq_true rfl, Nat.le_of_ble_eq_true rfl⟩) hA hD hS (fun r6 L7 f8 H locs hp9 hP hD hS => ?_)
  obtain ⟨eL10L, eL10T, eL10R, eL10X0, eL10X1⟩ := hp9
  have eL10L : L7 = L := eL10L
  have eL10T : f8 = f := eL10T
  rw [eL10L, eL10T] at hP hD
  have eL10R : In r6 0 1 := eL10R
  have hii11 : r6.toInt = 0 ∨ (0 ≤ z1.toInt ∧ z1.toInt ≤ x3.toInt) := by have z := eL10X0; rw [i2l_t z1, (by decide : (0 : Int64).toInt = 0), i2l_t x3] at z; exact z
  have hii11w : ¬ r6 = 0 → In z1 0 19 := fun c => by have c2 := i32_ne c; have e0 : (0 : Int32).toInt = 0 := (by decide); obtain ⟨o1, p1⟩ := (hb4 : In _ _ _); exact ⟨by omega, by omega⟩
  have hJ33 : ∀ (H : Heap) (locs : List Loc) (ls : Array Slot), va_P g.1 vwCl (va_pl L f) H → va_D A (va_pl L f) → va_S A s.heap H locs → lv_has ls 3 [(0, .ref (ad 255)), (1, .int z1), (2, .int z2)] → W p l e rm_X11_line s m [.ref (ad 255), .int z1, .int z2].toArray below meth c H locs 0 0 (MQ below (va_Qi (po_X11_line g ad th L f z1 z2) (PstB g A) A) [.ref (ad 255), .int z1, .int z2].toArray s rm_X11_line.cells rm_X11_line.slots A) (F0 m 33 ls [.ref (ad 255)]) := by
    intro H locs ls hP hD hS hl
    refine lv_iconst (v := 1) hx hb dX11_line_33 (by decide) ?_
    refine pl_put (ty := .int) (v := .int 1) (fs' := [.int 1, .ref (ad 256), .int v2_1, .int v3_1, .int v4_1, .int v5_1, .int v6_1, .ref (ad 257), .int v8_1, .int v9_1, .ref (ad 258), .ref (ad 259), .int v12_1, .int v13_1, .int v14_1, .int v15_1, .int v16_1, .int v17_1, .int v18_1, .int v19_1, .int v20_1, .long v21_1, .long v22_1, .int v23_1, .ref (ad 260), .int v25_1, .ref (ad 261), .ref (ad 262), .ref (ad 263), .ref (ad 264), .ref (ad 265), .ref (ad 266), .ref (ad 267), .ref (ad 268), .ref (ad 269), .ref (ad 270), .int v36_1, .int v37_1, .int v38_1, .int v39_1, .int v40_1, .ref (ad 271), .ref (ad 272), .ref (ad 273), .ref (ad 274), .long v45_1, .long v46_1, .int v47_1, .int v48_1, .ref (ad 275), .int v50_1, .int v51_1, .ref (ad 276), .int v53_1, .ref (ad 277), .int v55_1]) hx hb hts (fun w h => mT (inX11 w h)) tyX11 tyX11_ok nmX11 hown hG.1 hP hD hS (hst.1 255 (by decide)) hf2 rfl 0 (by decide) (hts _ (mT wg_1336)) (fun _ h => h) rfl (by decide +kernel) (rfl) (rfl) (Nat.le_of_ble_eq_true rfl) rfl dX11_line_34 (fun H locs f12 hf13 ho14 hP hD hS => ?_)
    have hfr : (∀ b, b ≠ (ad 255) → f12 b = f b) := fun b z0_ => (ho14 b z0_).trans (hfr b z0_)
    refine lv_aload_n hx hb dX11_line_37 rfl (lv_at hl 0 rfl) ?_
    refine pl_get (v := .int 1) hx hb hts (fun w h => mT (inX11 w h)) hown hG.1 hP (hst.1 255 (by decide)) hf13 rfl 0 (by decide) (hts _ (mT wg_1336)) (fun _ h => h) rfl dX11_line_38 ?_
    have hT := TI.updM hT hst (k := 0) (by decide) hf13 ho14 ⟨1, v2_1, v3_1, v4_1, v5_1, v6_1, v8_1, v9_1, v12_1, v13_1, v14_1, v15_1, v16_1, v17_1, v18_1, v19_1, v20_1, v21_1, v22_1, v23_1, v25_1, v36_1, v37_1, v38_1, v39_1, v40_1, v45_1, v46_1, v47_1, v48_1, v50_1, v51_1, v53_1, v55_1, rfl, (⟨by decide, by decide⟩ : In 1 0 1), hv2_1, hg2_1, hv3_1, hg3_1, hv4_1, hg4_1, hv5_1, hg5_1, hv6_1, hg6_1, hv8_1, hg8_1, hv9_1, hg9_1, hv12_1, hv13_1, hg13_1, hv14_1, hg14_1, hv15_1, hg15_1, hv17_1, hg17_1, hv20_1, hg20_1, hv23_1, hg23_1, hv25_1, hg25_1, hv36_1, hg36_1, hv47_1, hg47_1, hv48_1, hg48_1, hv53_1, hg53_1, hv55_1, hg55_1, hrel0_1⟩
    refine lv_if_le (tgt := 48) hx hb dX11_line_41 (by decide) (fun c15 => ?_) (fun c15 => ?_)
    ·
      have oc1 : (1 : Int32).toInt = 1 := by decide
      have oc0 : (0 : Int32).toInt = 0 := by decide
      have cc16 : (1 : Int32).toInt ≤ (0 : Int32).toInt := i32_le.mp c15
      exact In.empty (lo := 1) (hi := 0) (In.le1 (⟨by decide, by decide⟩ : In 1 1 1) (⟨by decide, by decide⟩ : In 0 0 0) cc16 (by decide) (by decide)) (by decide)
    ·
      have oc1 : (1 : Int32).toInt = 1 := by decide
      have oc0 : (0 : Int32).toInt = 0 := by decide
      have cc17 : (0 : Int32).toInt < (1 : Int32).toInt := i32_nle c15
      refine lv_iconst (v := 0) hx hb dX11_line_44 (by decide) ?_
      refine lv_goto (tgt := 58) hx hb dX11_line_45 (by decide) ?_
      exact ret_i (ty := .int) hx hb hr hlocks (rfl) hP hD hS (Nat.le_of_ble_eq_true rfl) (Nat.le_of_ble_eq_true rfl) (⟨rfl, hT, hfr⟩) dX11_line_58
  refine lv_if_eq (tgt := 33) hx hb dX11_line_14 (by decide) (fun c18 => ?_) (fun c18 => ?_)
  ·
    have oc0 : (0 : Int32).toInt = 0 := by decide
    have cc19 : r6.toInt = (0 : Int32).toInt := congrArg Int32.toInt c18
    have hb20 : In r6 0 0 := In.eq1 eL10R (⟨by decide, by decide⟩ : In 0 0 0) cc19 (by decide) (by decide)
    exact hJ33 _ _ _ hP hD hS (lv_sub hl [0, 1, 2] rfl)
  ·
    have oc0 : (0 : Int32).toInt = 0 := by decide
    have cc21 : r6.toInt ≠ (0 : Int32).toInt := i32_ne c18
    have hb22 : In r6 1 1 := In.ne1 eL10R (⟨by decide, by decide⟩ : In 0 0 0) cc21 (by decide) (by decide)
    have hb23 : In z1 0 19 := In.both (hii11w c18) (In.full z1) (by decide) (by decide)
    refine lv_iload_n hx hb dX11_line_17 rfl (lv_at hl 2 rfl) ?_
    refine lv_i2l hx hb dX11_line_18 rfl ?_
    refine lv_lconst (v := 0) hx hb dX11_line_19 (by decide) ?_
    refine lv_ldc2 hx hb hown (hts _ (mT wg_1747)) dX11_line_20 ?_
    refine call_i (run_S (rm := rm_X11_isIn) hx hb hml hown hts (s_X11_isIn l g ad th _ _ _ (z2.toInt64) 0 4 hst hT ) cS_X11_isIn wg_1581 ⟨Nat.le_of_ble_eq_true rfl, Nat.le_of_ble_eq_true rfl⟩ hG hE hA hP hD hS rfl hl.1 (As := [.long (z2.toInt64), .long 0, .long 4]) (rest := [.ref (ad 255)]) rfl (Nat.le_of_ble_eq_true rfl) dX11_line_23 ⟨Nat.le_of_ble_eq_true rfl, Nat.le_of_ble_eq_true rfl⟩) hA hD hS (fun r24 L25 f26 H locs hp27 hP hD hS => ?_)
    obtain ⟨eL28L, eL28T, eL28R, eL28X0, eL28X1⟩ := hp27
    have eL28L : L25 = L := eL28L
    have eL28T : f26 = f := eL28T
    rw [eL28L, eL28T] at hP hD
    have eL28R : In r24 0 1 := eL28R
    have hii29 : r24.toInt = 0 ∨ (0 ≤ z2.toInt ∧ z2.toInt ≤ 4) := by have z := eL28X0; rw [i2l_t z2, (by decide : (0 : Int64).toInt = 0), (by decide : (4 : Int64).toInt = 4)] at z; exact z
    have hii29w : ¬ r24 = 0 → In z2 0 4 := fun c => by have c2 := i32_ne c; have e0 : (0 : Int32).toInt = 0 := (by decide); exact ⟨by omega, by omega⟩
    refine lv_if_eq (tgt := 33) hx hb dX11_line_26 (by decide) (fun c30 => ?_) (fun c30 => ?_)
    ·
      have oc0 : (0 : Int32).toInt = 0 := by decide
      have cc31 : r24.toInt = (0 : Int32).toInt := congrArg Int32.toInt c30
      have hb32 : In r24 0 0 := In.eq1 eL28R (⟨by decide, by decide⟩ : In 0 0 0) cc31 (by decide) (by decide)
      exact hJ33 _ _ _ hP hD hS (lv_sub hl [0, 1, 2] rfl)
    ·
      have oc0 : (0 : Int32).toInt = 0 := by decide
      have cc33 : r24.toInt ≠ (0 : Int32).toInt := i32_ne c30
      have hb34 : In r24 1 1 := In.ne1 eL28R (⟨by decide, by decide⟩ : In 0 0 0) cc33 (by decide) (by decide)
      have hb35 : In z2 0 4 := In.both (hii29w c30) (In.full z2) (by decide) (by decide)
      refine lv_iconst (v := 0) hx hb dX11_line_29 (by decide) ?_
      refine lv_goto (tgt := 34) hx hb dX11_line_30 (by decide) ?_
      refine pl_put (ty := .int) (v := .int 0) (fs' := [.int 0, .ref (ad 256), .int v2_1, .int v3_1, .int v4_1, .int v5_1, .int v6_1, .ref (ad 257), .int v8_1, .int v9_1, .ref (ad 258), .ref (ad 259), .int v12_1, .int v13_1, .int v14_1, .int v15_1, .int v16_1, .int v17_1, .int v18_1, .int v19_1, .int v20_1, .long v21_1, .long v22_1, .int v23_1, .ref (ad 260), .int v25_1, .ref (ad 261), .ref (ad 262), .ref (ad 263), .ref (ad 264), .ref (ad 265), .ref (ad 266), .ref (ad 267), .ref (ad 268), .ref (ad 269), .ref (ad 270), .int v36_1, .int v37_1, .int v38_1, .int v39_1, .int v40_1, .ref (ad 271), .ref (ad 272), .ref (ad 273), .ref (ad 274), .long v45_1, .long v46_1, .int v47_1, .int v48_1, .ref (ad 275), .int v50_1, .int v51_1, .ref (ad 276), .int v53_1, .ref (ad 277), .int v55_1]) hx hb hts (fun w h => mT (inX11 w h)) tyX11 tyX11_ok nmX11 hown hG.1 hP hD hS (hst.1 255 (by decide)) hf2 rfl 0 (by decide) (hts _ (mT wg_1336)) (fun _ h => h) rfl (by decide +kernel) (rfl) (rfl) (Nat.le_of_ble_eq_true rfl) rfl dX11_line_34 (fun H locs f36 hf37 ho38 hP hD hS => ?_)
      have hfr : (∀ b, b ≠ (ad 255) → f36 b = f b) := fun b z0_ => (ho38 b z0_).trans (hfr b z0_)
      refine lv_aload_n hx hb dX11_line_37 rfl (lv_at hl 0 rfl) ?_
      refine pl_get (v := .int 0) hx hb hts (fun w h => mT (inX11 w h)) hown hG.1 hP (hst.1 255 (by decide)) hf37 rfl 0 (by decide) (hts _ (mT wg_1336)) (fun _ h => h) rfl dX11_line_38 ?_
      have hT := TI.updM hT hst (k := 0) (by decide) hf37 ho38 ⟨0, v2_1, v3_1, v4_1, v5_1, v6_1, v8_1, v9_1, v12_1, v13_1, v14_1, v15_1, v16_1, v17_1, v18_1, v19_1, v20_1, v21_1, v22_1, v23_1, v25_1, v36_1, v37_1, v38_1, v39_1, v40_1, v45_1, v46_1, v47_1, v48_1, v50_1, v51_1, v53_1, v55_1, rfl, (⟨by decide, by decide⟩ : In 0 0 1), hv2_1, hg2_1, hv3_1, hg3_1, hv4_1, hg4_1, hv5_1, hg5_1, hv6_1, hg6_1, hv8_1, hg8_1, hv9_1, hg9_1, hv12_1, hv13_1, hg13_1, hv14_1, hg14_1, hv15_1, hg15_1, hv17_1, hg17_1, hv20_1, hg20_1, hv23_1, hg23_1, hv25_1, hg25_1, hv36_1, hg36_1, hv47_1, hg47_1, hv48_1, hg48_1, hv53_1, hg53_1, hv55_1, hg55_1, hrel0_1⟩
      refine lv_if_le (tgt := 48) hx hb dX11_line_41 (by decide) (fun c39 => ?_) (fun c39 => ?_)
      ·
        have oc0 : (0 : Int32).toInt = 0 := by decide
        have oc0 : (0 : Int32).toInt = 0 := by decide
        have cc40 : (0 : Int32).toInt ≤ (0 : Int32).toInt := i32_le.mp c39
        refine lv_aload_n hx hb dX11_line_48 rfl (lv_at hl 0 rfl) ?_
        refine pl_get (v := .ref (ad 258)) hx hb hts (fun w h => mT (inX11 w h)) hown hG.1 hP (hst.1 255 (by decide)) hf37 rfl 10 (by decide) (hts _ (mT wg_1346)) (fun _ h => h) rfl dX11_line_49 ?_
        refine lv_iconst (v := 5) hx hb dX11_line_52 (by decide) ?_
        refine lv_iload_n hx hb dX11_line_53 rfl (lv_at hl 1 rfl) ?_
        refine lv_imul hx hb dX11_line_54 ?_
        refine lv_topi (fun x41 ex41 => ?_)
        have hb42 : In x41 0 95 := ex41 ▸ In.mul (⟨by decide, by decide⟩ : In 5 5 5) hb23 (by decide) (by decide) (by decide) (by decide) (by decide)
        have et43 : x41.toInt = 5 * z1.toInt := In.mule ex41 (⟨by decide, by decide⟩ : In 5 5 5) hb23 (by decide) (by decide) (by decide) (by decide) rfl
        refine lv_iload_n hx hb dX11_line_55 rfl (lv_at hl 2 rfl) ?_
        refine lv_iadd hx hb dX11_line_56 ?_
        refine lv_topi (fun x44 ex44 => ?_)
        have hb45 : In x44 0 99 := ex44 ▸ In.add hb42 hb35 (by decide) (by decide) (by decide) (by decide)
        have et46 : x44.toInt = x41.toInt + z2.toInt := In.add2e ex44 hb42 hb35 (by decide) (by decide)
        obtain ⟨rw47, hf48⟩ := hT.2.2 3 (by decide)
        have hin49 : vp_in x44 100 := In.inb hb45 (by decide) (by decide)
        refine pl_iald hx hb hG.1 hP (hst.1 258 (by decide)) 0 hf48 rfl hin49 dX11_line_57 ?_
        refine lv_topi (fun x50 ex50 => ?_)
        exact ret_i (ty := .int) hx hb hr hlocks (rfl) hP hD hS (Nat.le_of_ble_eq_true rfl) (Nat.le_of_ble_eq_true rfl) (⟨rfl, hT, hfr⟩) dX11_line_58
      ·
        have oc0 : (0 : Int32).toInt = 0 := by decide
        have oc0 : (0 : Int32).toInt = 0 := by decide
        have cc51 : (0 : Int32).toInt < (0 : Int32).toInt := i32_nle c39
        exact In.empty (lo := 1) (hi := 0) (In.gt1 (⟨by decide, by decide⟩ : In 0 0 0) (⟨by decide, by decide⟩ : In 0 0 0) cc51 (by decide) (by decide)) (by decide)

abbrev rm_X11_count : Room := { frames := 0, cells := 0, slots := 0, locals := 0 }
abbrev po_X11_count (g : GG) (ad : Nat → Nat) (th : Nat → Int) (L : List Nat) (f : HP) (z1 : Int32) : Int32 → (List Nat × HP) → Prop := fun r u => u.1 = L ∧ TI g ad th u.2 ∧ (∀ b, b ≠ (ad 255) → u.2 b = f b)
set_option maxHeartbeats 4000000 in
set_option maxRecDepth 100000 in
theorem s_X11_count (l : Launch) (g : GG) (ad : Nat → Nat) (th : Nat → Int) (L : List Nat) (f : HP) (sz : Nat) (z1 : Int32) (hst : ST ad L) (hT : TI g ad th f) (hM : MI th) : MtI l g yX11_count cX11_count 2 (some .int) rm_X11_count [.ref (ad 255), .int z1] L f sz (po_X11_count g ad th L f z1) := by
  refine MtI.of (by decide +kernel) (Nat.le_of_ble_eq_true rfl) ?_
  intro p e s m below meth c A hEn hP hD hS ls hl
  obtain ⟨hx, hb, hr, hml, hown, hlocks, hts, hG, hA, hE, hnm⟩ := hEn
  have hown : s.vm.findClass "RulerWordModel" = some m.cls := hown
  have hl : lv_has ls 2 [(0, .ref (ad 255)), (1, .int z1)] := hl
  have hfr : (∀ b, b ≠ (ad 255) → f b = f b) := fun b z0_ => rfl
  have hM0 := hM
  obtain ⟨m1, m2, m3, m4, m5, m6, m7, m8, m9, m10⟩ := hM0
  have m20 := mi20 m2 m3
  refine lv_aload_n hx hb dX11_count_0 rfl (lv_at hl 0 rfl) ?_
  refine lv_iconst (v := 0) hx hb dX11_count_1 (by decide) ?_
  refine M0e hT (fun v0_1 v2_1 v3_1 v4_1 v5_1 v6_1 v8_1 v9_1 v12_1 v13_1 v14_1 v15_1 v16_1 v17_1 v18_1 v19_1 v20_1 v21_1 v22_1 v23_1 v25_1 v36_1 v37_1 v38_1 v39_1 v40_1 v45_1 v46_1 v47_1 v48_1 v50_1 v51_1 v53_1 v55_1 hf2 hv0_1 hv2_1 hg2_1 hv3_1 hg3_1 hv4_1 hg4_1 hv5_1 hg5_1 hv6_1 hg6_1 hv8_1 hg8_1 hv9_1 hg9_1 hv12_1 hv13_1 hg13_1 hv14_1 hg14_1 hv15_1 hg15_1 hv17_1 hg17_1 hv20_1 hg20_1 hv23_1 hg23_1 hv25_1 hg25_1 hv36_1 hg36_1 hv47_1 hg47_1 hv48_1 hg48_1 hv53_1 hg53_1 hv55_1 hg55_1 hrel0_1 => ?_)
  have hg15_1 : v15_1.toInt = th 11 := hg15_1
  have hg17_1 : v17_1.toInt = th 12 := hg17_1
  have hg20_1 : v20_1.toInt = th 14 := hg20_1
  refine pl_put (ty := .int) (v := .int 0) (fs' := [.int 0, .ref (ad 256), .int v2_1, .int v3_1, .int v4_1, .int v5_1, .int v6_1, .ref (ad 257), .int v8_1, .int v9_1, .ref (ad 258), .ref (ad 259), .int v12_1, .int v13_1, .int v14_1, .int v15_1, .int v16_1, .int v17_1, .int v18_1, .int v19_1, .int v20_1, .long v21_1, .long v22_1, .int v23_1, .ref (ad 260), .int v25_1, .ref (ad 261), .ref (ad 262), .ref (ad 263), .ref (ad 264), .ref (ad 265), .ref (ad 266), .ref (ad 267), .ref (ad 268), .ref (ad 269), .ref (ad 270), .int v36_1, .int v37_1, .int v38_1, .int v39_1, .int v40_1, .ref (ad 271), .ref (ad 272), .ref (ad 273), .ref (ad 274), .long v45_1, .long v46_1, .int v47_1, .int v48_1, .ref (ad 275), .int v50_1, .int v51_1, .ref (ad 276), .int v53_1, .ref (ad 277), .int v55_1]) hx hb hts (fun w h => mT (inX11 w h)) tyX11 tyX11_ok nmX11 hown hG.1 hP hD hS (hst.1 255 (by decide)) hf2 rfl 0 (by decide) (hts _ (mT wg_1336)) (fun _ h => h) rfl (by decide +kernel) (rfl) (rfl) (Nat.le_of_ble_eq_true rfl) rfl dX11_count_2 (fun H locs f3 hf4 ho5 hP hD hS => ?_)
  have hfr : (∀ b, b ≠ (ad 255) → f3 b = f b) := fun b z0_ => (ho5 b z0_).trans (hfr b z0_)
  refine lv_iload_n hx hb dX11_count_5 rfl (lv_at hl 1 rfl) ?_
  have hT := TI.updM hT hst (k := 0) (by decide) hf4 ho5 ⟨0, v2_1, v3_1, v4_1, v5_1, v6_1, v8_1, v9_1, v12_1, v13_1, v14_1, v15_1, v16_1, v17_1, v18_1, v19_1, v20_1, v21_1, v22_1, v23_1, v25_1, v36_1, v37_1, v38_1, v39_1, v40_1, v45_1, v46_1, v47_1, v48_1, v50_1, v51_1, v53_1, v55_1, rfl, (⟨by decide, by decide⟩ : In 0 0 1), hv2_1, hg2_1, hv3_1, hg3_1, hv4_1, hg4_1, hv5_1, hg5_1, hv6_1, hg6_1, hv8_1, hg8_1, hv9_1, hg9_1, hv12_1, hv13_1, hg13_1, hv14_1, hg14_1, hv15_1, hg15_1, hv17_1, hg17_1, hv20_1, hg20_1, hv23_1, hg23_1, hv25_1, hg25_1, hv36_1, hg36_1, hv47_1, hg47_1, hv48_1, hg48_1, hv53_1, hg53_1, hv55_1, hg55_1, hrel0_1⟩
  refine lv_if_ne (tgt := 16) hx hb dX11_count_6 (by decide) (fun c6 => ?_) (fun c6 => ?_)
  ·
    have oc0 : (0 : Int32).toInt = 0 := by decide
    have cc7 : z1.toInt ≠ (0 : Int32).toInt := i32_ne c6
    refine lv_iload_n hx hb dX11_count_16 rfl (lv_at hl 1 rfl) ?_
    refine lv_iconst (v := 1) hx hb dX11_count_17 (by decide) ?_
    refine lv_icmp_ne (tgt := 28) hx hb dX11_count_18 (by decide) (fun c8 => ?_) (fun c8 => ?_)
    ·
      have oc1 : (1 : Int32).toInt = 1 := by decide
      have cc9 : z1.toInt ≠ (1 : Int32).toInt := i32_ne c8
      refine lv_iload_n hx hb dX11_count_28 rfl (lv_at hl 1 rfl) ?_
      refine lv_iconst (v := 2) hx hb dX11_count_29 (by decide) ?_
      refine lv_icmp_ne (tgt := 54) hx hb dX11_count_30 (by decide) (fun c10 => ?_) (fun c10 => ?_)
      ·
        have oc2 : (2 : Int32).toInt = 2 := by decide
        have cc11 : z1.toInt ≠ (2 : Int32).toInt := i32_ne c10
        refine lv_iconst (v := (-1)) hx hb dX11_count_54 (by decide) ?_
        exact ret_i (ty := .int) hx hb hr hlocks (rfl) hP hD hS (Nat.le_of_ble_eq_true rfl) (Nat.le_of_ble_eq_true rfl) (⟨rfl, hT, hfr⟩) dX11_count_55
      ·
        have oc2 : (2 : Int32).toInt = 2 := by decide
        have cc12 : z1.toInt = (2 : Int32).toInt := congrArg Int32.toInt c10
        have hb13 : In z1 2 2 := In.eq1 (In.full z1) (⟨by decide, by decide⟩ : In 2 2 2) cc12 (by decide) (by decide)
        refine lv_aload_n hx hb dX11_count_33 rfl (lv_at hl 0 rfl) ?_
        refine pl_get (v := .int v23_1) hx hb hts (fun w h => mT (inX11 w h)) hown hG.1 hP (hst.1 255 (by decide)) hf4 rfl 23 (by decide) (hts _ (mT wg_1359)) (fun _ h => h) rfl dX11_count_34 ?_
        have hg23_1 : v23_1.toInt = th 15 := hg23_1
        refine lv_if_eq (tgt := 50) hx hb dX11_count_37 (by decide) (fun c14 => ?_) (fun c14 => ?_)
        ·
          have oc0 : (0 : Int32).toInt = 0 := by decide
          have cc15 : v23_1.toInt = (0 : Int32).toInt := congrArg Int32.toInt c14
          have hb16 : In v23_1 0 0 := In.eq1 hv23_1 (⟨by decide, by decide⟩ : In 0 0 0) cc15 (by decide) (by decide)
          refine lv_iconst (v := 0) hx hb dX11_count_50 (by decide) ?_
          refine lv_goto (tgt := 55) hx hb dX11_count_51 (by decide) ?_
          exact ret_i (ty := .int) hx hb hr hlocks (rfl) hP hD hS (Nat.le_of_ble_eq_true rfl) (Nat.le_of_ble_eq_true rfl) (⟨rfl, hT, hfr⟩) dX11_count_55
        ·
          have oc0 : (0 : Int32).toInt = 0 := by decide
          have cc17 : v23_1.toInt ≠ (0 : Int32).toInt := i32_ne c14
          have hb18 : In v23_1 1 1 := In.ne1 hv23_1 (⟨by decide, by decide⟩ : In 0 0 0) cc17 (by decide) (by decide)
          refine lv_aload_n hx hb dX11_count_40 rfl (lv_at hl 0 rfl) ?_
          refine pl_get (v := .ref (ad 271)) hx hb hts (fun w h => mT (inX11 w h)) hown hG.1 hP (hst.1 255 (by decide)) hf4 rfl 41 (by decide) (hts _ (mT wg_1377)) (fun _ h => h) rfl dX11_count_41 ?_
          refine lv_bipush (v := 72) hx hb dX11_count_44 (by decide) ?_
          obtain ⟨rw19, hf20, hpi22, hc21⟩ := hT.2.2 16 (by decide)
          have hc21 : PRW 2126 (th 22) (th 20) (th 21) rw19 := hc21
          have hpi22 : ((72 : Int) < (th 22) → (rw19 72).toInt = th 19) := hpi22
          have hin23 : vp_in 72 2126 := In.inb (⟨by decide, by decide⟩ : In 72 72 72) (by decide) (by decide)
          refine pl_iald hx hb hG.1 hP (hst.1 271 (by decide)) 0 hf20 rfl hin23 dX11_count_46 ?_
          refine lv_topi (fun x24 ex24 => ?_)
          have hpd25 : PRED (th 20) (th 21) 72 x24 := by rw [ex24]; exact prw_at (k := 72) hc21 (by decide) (by decide) (by omega) (by decide)
          have hb26 : In x24 0 18 := ⟨(hpd25.1 rfl).1, Int.le_trans (hpd25.1 rfl).2 (by omega)⟩
          have hgl27 : x24.toInt = th 19 := by rw [ex24]; exact pinE (k := 72) (by decide) (hpi22 (by omega))
          have hpd25b := (hpd25.1 rfl).2
          refine lv_goto (tgt := 55) hx hb dX11_count_47 (by decide) ?_
          exact ret_i (ty := .int) hx hb hr hlocks (rfl) hP hD hS (Nat.le_of_ble_eq_true rfl) (Nat.le_of_ble_eq_true rfl) (⟨rfl, hT, hfr⟩) dX11_count_55
    ·
      have oc1 : (1 : Int32).toInt = 1 := by decide
      have cc28 : z1.toInt = (1 : Int32).toInt := congrArg Int32.toInt c8
      have hb29 : In z1 1 1 := In.eq1 (In.full z1) (⟨by decide, by decide⟩ : In 1 1 1) cc28 (by decide) (by decide)
      refine lv_aload_n hx hb dX11_count_21 rfl (lv_at hl 0 rfl) ?_
      refine pl_get (v := .int v47_1) hx hb hts (fun w h => mT (inX11 w h)) hown hG.1 hP (hst.1 255 (by decide)) hf4 rfl 47 (by decide) (hts _ (mT wg_1383)) (fun _ h => h) rfl dX11_count_22 ?_
      have hg47_1 : v47_1.toInt = th 16 := hg47_1
      refine lv_goto (tgt := 55) hx hb dX11_count_25 (by decide) ?_
      exact ret_i (ty := .int) hx hb hr hlocks (rfl) hP hD hS (Nat.le_of_ble_eq_true rfl) (Nat.le_of_ble_eq_true rfl) (⟨rfl, hT, hfr⟩) dX11_count_55
  ·
    have oc0 : (0 : Int32).toInt = 0 := by decide
    have cc30 : z1.toInt = (0 : Int32).toInt := congrArg Int32.toInt c6
    have hb31 : In z1 0 0 := In.eq1 (In.full z1) (⟨by decide, by decide⟩ : In 0 0 0) cc30 (by decide) (by decide)
    refine lv_aload_n hx hb dX11_count_9 rfl (lv_at hl 0 rfl) ?_
    refine pl_get (v := .int v2_1) hx hb hts (fun w h => mT (inX11 w h)) hown hG.1 hP (hst.1 255 (by decide)) hf4 rfl 2 (by decide) (hts _ (mT wg_1338)) (fun _ h => h) rfl dX11_count_10 ?_
    have hg2_1 : v2_1.toInt = th 13 := hg2_1
    refine lv_goto (tgt := 55) hx hb dX11_count_13 (by decide) ?_
    exact ret_i (ty := .int) hx hb hr hlocks (rfl) hP hD hS (Nat.le_of_ble_eq_true rfl) (Nat.le_of_ble_eq_true rfl) (⟨rfl, hT, hfr⟩) dX11_count_55

abbrev rm_X11_rule : Room := { frames := 1, cells := 0, slots := 0, locals := 21 }
abbrev po_X11_rule (g : GG) (ad : Nat → Nat) (th : Nat → Int) (L : List Nat) (f : HP) (z1 : Int32) : Int32 → (List Nat × HP) → Prop := fun r u => u.1 = L ∧ (∃ th' : Nat → Int, (MI th' ∧ SBM th th') ∧ TI g ad th' u.2) ∧ (∀ b, b ≠ (ad 255) → b ≠ (ad 265) → b ≠ (ad 266) → b ≠ (ad 267) → b ≠ (ad 269) → b ≠ (ad 260) → b ≠ (ad 261) → b ≠ (ad 262) → b ≠ (ad 263) → b ≠ (ad 264) → u.2 b = f b)
set_option maxHeartbeats 4000000 in
set_option maxRecDepth 100000 in
theorem s_X11_rule (l : Launch) (g : GG) (ad : Nat → Nat) (th : Nat → Int) (L : List Nat) (f : HP) (sz : Nat) (z1 : Int32) (hst : ST ad L) (hT : TI g ad th f) (hM : MI th) : MtI l g yX11_rule cX11_rule 2 (some .int) rm_X11_rule [.ref (ad 255), .int z1] L f sz (po_X11_rule g ad th L f z1) := by
  refine MtI.of (by decide +kernel) (Nat.le_of_ble_eq_true rfl) ?_
  intro p e s m below meth c A hEn hP hD hS ls hl
  obtain ⟨hx, hb, hr, hml, hown, hlocks, hts, hG, hA, hE, hnm⟩ := hEn
  have hown : s.vm.findClass "RulerWordModel" = some m.cls := hown
  have hl : lv_has ls 2 [(0, .ref (ad 255)), (1, .int z1)] := hl
  have hfr : (∀ b, b ≠ (ad 255) → b ≠ (ad 265) → b ≠ (ad 266) → b ≠ (ad 267) → b ≠ (ad 269) → b ≠ (ad 260) → b ≠ (ad 261) → b ≠ (ad 262) → b ≠ (ad 263) → b ≠ (ad 264) → f b = f b) := fun b z0_ z1_ z2_ z3_ z4_ z5_ z6_ z7_ z8_ z9_ => rfl
  have hM0 := hM
  obtain ⟨m1, m2, m3, m4, m5, m6, m7, m8, m9, m10⟩ := hM0
  have m20 := mi20 m2 m3
  refine lv_aload_n hx hb dX11_rule_0 rfl (lv_at hl 0 rfl) ?_
  refine lv_iconst (v := 0) hx hb dX11_rule_1 (by decide) ?_
  refine M0e hT (fun v0_1 v2_1 v3_1 v4_1 v5_1 v6_1 v8_1 v9_1 v12_1 v13_1 v14_1 v15_1 v16_1 v17_1 v18_1 v19_1 v20_1 v21_1 v22_1 v23_1 v25_1 v36_1 v37_1 v38_1 v39_1 v40_1 v45_1 v46_1 v47_1 v48_1 v50_1 v51_1 v53_1 v55_1 hf2 hv0_1 hv2_1 hg2_1 hv3_1 hg3_1 hv4_1 hg4_1 hv5_1 hg5_1 hv6_1 hg6_1 hv8_1 hg8_1 hv9_1 hg9_1 hv12_1 hv13_1 hg13_1 hv14_1 hg14_1 hv15_1 hg15_1 hv17_1 hg17_1 hv20_1 hg20_1 hv23_1 hg23_1 hv25_1 hg25_1 hv36_1 hg36_1 hv47_1 hg47_1 hv48_1 hg48_1 hv53_1 hg53_1 hv55_1 hg55_1 hrel0_1 => ?_)
  have hg15_1 : v15_1.toInt = th 11 := hg15_1
  have hg17_1 : v17_1.toInt = th 12 := hg17_1
  have hg20_1 : v20_1.toInt = th 14 := hg20_1
  refine pl_put (ty := .int) (v := .int 0) (fs' := [.int 0, .ref (ad 256), .int v2_1, .int v3_1, .int v4_1, .int v5_1, .int v6_1, .ref (ad 257), .int v8_1, .int v9_1, .ref (ad 258), .ref (ad 259), .int v12_1, .int v13_1, .int v14_1, .int v15_1, .int v16_1, .int v17_1, .int v18_1, .int v19_1, .int v20_1, .long v21_1, .long v22_1, .int v23_1, .ref (ad 260), .int v25_1, .ref (ad 261), .ref (ad 262), .ref (ad 263), .ref (ad 264), .ref (ad 265), .ref (ad 266), .ref (ad 267), .ref (ad 268), .ref (ad 269), .ref (ad 270), .int v36_1, .int v37_1, .int v38_1, .int v39_1, .int v40_1, .ref (ad 271), .ref (ad 272), .ref (ad 273), .ref (ad 274), .long v45_1, .long v46_1, .int v47_1, .int v48_1, .ref (ad 275), .int v50_1, .int v51_1, .ref (ad 276), .int v53_1, .ref (ad 277), .int v55_1]) hx hb hts (fun w h => mT (inX11 w h)) tyX11 tyX11_ok nmX11 hown hG.1 hP hD hS (hst.1 255 (by decide)) hf2 rfl 0 (by decide) (hts _ (mT wg_1336)) (fun _ h => h) rfl (by decide +kernel) (rfl) (rfl) (Nat.le_of_ble_eq_true rfl) rfl dX11_rule_2 (fun H locs f3 hf4 ho5 hP hD hS => ?_)
  have hfr : (∀ b, b ≠ (ad 255) → b ≠ (ad 265) → b ≠ (ad 266) → b ≠ (ad 267) → b ≠ (ad 269) → b ≠ (ad 260) → b ≠ (ad 261) → b ≠ (ad 262) → b ≠ (ad 263) → b ≠ (ad 264) → f3 b = f b) := fun b z0_ z1_ z2_ z3_ z4_ z5_ z6_ z7_ z8_ z9_ => (ho5 b z0_).trans (hfr b z0_ z1_ z2_ z3_ z4_ z5_ z6_ z7_ z8_ z9_)
  refine lv_iload_n hx hb dX11_rule_5 rfl (lv_at hl 1 rfl) ?_
  refine lv_bipush (v := 10) hx hb dX11_rule_6 (by decide) ?_
  have hT := TI.updM hT hst (k := 0) (by decide) hf4 ho5 ⟨0, v2_1, v3_1, v4_1, v5_1, v6_1, v8_1, v9_1, v12_1, v13_1, v14_1, v15_1, v16_1, v17_1, v18_1, v19_1, v20_1, v21_1, v22_1, v23_1, v25_1, v36_1, v37_1, v38_1, v39_1, v40_1, v45_1, v46_1, v47_1, v48_1, v50_1, v51_1, v53_1, v55_1, rfl, (⟨by decide, by decide⟩ : In 0 0 1), hv2_1, hg2_1, hv3_1, hg3_1, hv4_1, hg4_1, hv5_1, hg5_1, hv6_1, hg6_1, hv8_1, hg8_1, hv9_1, hg9_1, hv12_1, hv13_1, hg13_1, hv14_1, hg14_1, hv15_1, hg15_1, hv17_1, hg17_1, hv20_1, hg20_1, hv23_1, hg23_1, hv25_1, hg25_1, hv36_1, hg36_1, hv47_1, hg47_1, hv48_1, hg48_1, hv53_1, hg53_1, hv55_1, hg55_1, hrel0_1⟩
  refine lv_icmp_ne (tgt := 16) hx hb dX11_rule_8 (by decide) (fun c6 => ?_) (fun c6 => ?_)
  ·
    have oc10 : (10 : Int32).toInt = 10 := by decide
    have cc7 : z1.toInt ≠ (10 : Int32).toInt := i32_ne c6
    refine lv_aload_n hx hb dX11_rule_16 rfl (lv_at hl 0 rfl) ?_
    refine pl_get (v := .int v23_1) hx hb hts (fun w h => mT (inX11 w h)) hown hG.1 hP (hst.1 255 (by decide)) hf4 rfl 23 (by decide) (hts _ (mT wg_1359)) (fun _ h => h) rfl dX11_rule_17 ?_
    have hg23_1 : v23_1.toInt = th 15 := hg23_1
    refine lv_if_ne (tgt := 27) hx hb dX11_rule_20 (by decide) (fun c8 => ?_) (fun c8 => ?_)
    ·
      have oc0 : (0 : Int32).toInt = 0 := by decide
      have cc9 : v23_1.toInt ≠ (0 : Int32).toInt := i32_ne c8
      have hb10 : In v23_1 1 1 := In.ne1 hv23_1 (⟨by decide, by decide⟩ : In 0 0 0) cc9 (by decide) (by decide)
      refine lv_aload_n hx hb dX11_rule_27 rfl (lv_at hl 0 rfl) ?_
      refine call_v (run_V (rm := rm_X11_takesUp) hx hb hml hown hts (s_X11_takesUp l g ad th _ _ _  hst hT (show (th 22) = 2126 from (by have ob10 : (0 : Int) ≤ (th 10) ∧ (th 10) ≤ 1 := (b0_10 hT :); have ob11 : (0 : Int) ≤ (th 11) ∧ (th 11) ≤ 9 := (b0_11 hT :); have ob12 : (0 : Int) ≤ (th 12) ∧ (th 12) ≤ 6 := (b0_12 hT :); have ob14 : (0 : Int) ≤ (th 14) ∧ (th 14) ≤ 511 := (b0_14 hT :); have ob15 : (0 : Int) ≤ (th 15) ∧ (th 15) ≤ 1 := (b0_15 hT :); have ob16 : (0 : Int) ≤ (th 16) ∧ (th 16) ≤ 20 := (b0_16 hT :); have ob17 : (0 : Int) ≤ (th 17) ∧ (th 17) ≤ 1 := (b0_17 hT :); have ob18 : (0 : Int) ≤ (th 18) ∧ (th 18) ≤ 18 := (b0_18 hT :); have ob38 : (0 : Int) ≤ (th 38) ∧ (th 38) ≤ 400 := (b0_38 hT :); have ob39 : (0 : Int) ≤ (th 39) ∧ (th 39) ≤ 200 := (b0_39 hT :); have ob44 : (0 : Int) ≤ (th 44) ∧ (th 44) ≤ 30 := (b0_44 hT :); have orn := rnd_b (th 10); obtain ⟨o0a, o0b⟩ := (hv14_1 : In _ _ _); obtain ⟨o1a, o1b⟩ := (hv15_1 : In _ _ _); obtain ⟨o2a, o2b⟩ := (hv17_1 : In _ _ _); obtain ⟨o3a, o3b⟩ := (hv20_1 : In _ _ _); obtain ⟨o4a, o4b⟩ := (hb10 : In _ _ _); obtain ⟨o5a, o5b⟩ := (hv25_1 : In _ _ _); obtain ⟨o6a, o6b⟩ := (hv36_1 : In _ _ _); obtain ⟨o7a, o7b⟩ := (hv47_1 : In _ _ _); obtain ⟨o8a, o8b⟩ := (hv48_1 : In _ _ _); obtain ⟨o9a, o9b⟩ := (hv53_1 : In _ _ _); obtain ⟨o10a, o10b⟩ := (hv55_1 : In _ _ _); omega)) (show (th 20) ≤ 18 from (by have ob10 : (0 : Int) ≤ (th 10) ∧ (th 10) ≤ 1 := (b0_10 hT :); have ob11 : (0 : Int) ≤ (th 11) ∧ (th 11) ≤ 9 := (b0_11 hT :); have ob12 : (0 : Int) ≤ (th 12) ∧ (th 12) ≤ 6 := (b0_12 hT :); have ob14 : (0 : Int) ≤ (th 14) ∧ (th 14) ≤ 511 := (b0_14 hT :); have ob15 : (0 : Int) ≤ (th 15) ∧ (th 15) ≤ 1 := (b0_15 hT :); have ob16 : (0 : Int) ≤ (th 16) ∧ (th 16) ≤ 20 := (b0_16 hT :); have ob17 : (0 : Int) ≤ (th 17) ∧ (th 17) ≤ 1 := (b0_17 hT :); have ob18 : (0 : Int) ≤ (th 18) ∧ (th 18) ≤ 18 := (b0_18 hT :); have ob38 : (0 : Int) ≤ (th 38) ∧ (th 38) ≤ 400 := (b0_38 hT :); have ob39 : (0 : Int) ≤ (th 39) ∧ (th 39) ≤ 200 := (b0_39 hT :); have ob44 : (0 : Int) ≤ (th 44) ∧ (th 44) ≤ 30 := (b0_44 hT :); have orn := rnd_b (th 10); obtain ⟨o0a, o0b⟩ := (hv14_1 : In _ _ _); obtain ⟨o1a, o1b⟩ := (hv15_1 : In _ _ _); obtain ⟨o2a, o2b⟩ := (hv17_1 : In _ _ _); obtain ⟨o3a, o3b⟩ := (hv20_1 : In _ _ _); obtain ⟨o4a, o4b⟩ := (hb10 : In _ _ _); obtain ⟨o5a, o5b⟩ := (hv25_1 : In _ _ _); obtain ⟨o6a, o6b⟩ := (hv36_1 : In _ _ _); obtain ⟨o7a, o7b⟩ := (hv47_1 : In _ _ _); obtain ⟨o8a, o8b⟩ := (hv48_1 : In _ _ _); obtain ⟨o9a, o9b⟩ := (hv53_1 : In _ _ _); obtain ⟨o10a, o10b⟩ := (hv55_1 : In _ _ _); omega)) (show (th 21) = (th 11) from (by have ob10 : (0 : Int) ≤ (th 10) ∧ (th 10) ≤ 1 := (b0_10 hT :); have ob11 : (0 : Int) ≤ (th 11) ∧ (th 11) ≤ 9 := (b0_11 hT :); have ob12 : (0 : Int) ≤ (th 12) ∧ (th 12) ≤ 6 := (b0_12 hT :); have ob14 : (0 : Int) ≤ (th 14) ∧ (th 14) ≤ 511 := (b0_14 hT :); have ob15 : (0 : Int) ≤ (th 15) ∧ (th 15) ≤ 1 := (b0_15 hT :); have ob16 : (0 : Int) ≤ (th 16) ∧ (th 16) ≤ 20 := (b0_16 hT :); have ob17 : (0 : Int) ≤ (th 17) ∧ (th 17) ≤ 1 := (b0_17 hT :); have ob18 : (0 : Int) ≤ (th 18) ∧ (th 18) ≤ 18 := (b0_18 hT :); have ob38 : (0 : Int) ≤ (th 38) ∧ (th 38) ≤ 400 := (b0_38 hT :); have ob39 : (0 : Int) ≤ (th 39) ∧ (th 39) ≤ 200 := (b0_39 hT :); have ob44 : (0 : Int) ≤ (th 44) ∧ (th 44) ≤ 30 := (b0_44 hT :); have orn := rnd_b (th 10); obtain ⟨o0a, o0b⟩ := (hv14_1 : In _ _ _); obtain ⟨o1a, o1b⟩ := (hv15_1 : In _ _ _); obtain ⟨o2a, o2b⟩ := (hv17_1 : In _ _ _); obtain ⟨o3a, o3b⟩ := (hv20_1 : In _ _ _); obtain ⟨o4a, o4b⟩ := (hb10 : In _ _ _); obtain ⟨o5a, o5b⟩ := (hv25_1 : In _ _ _); obtain ⟨o6a, o6b⟩ := (hv36_1 : In _ _ _); obtain ⟨o7a, o7b⟩ := (hv47_1 : In _ _ _); obtain ⟨o8a, o8b⟩ := (hv48_1 : In _ _ _); obtain ⟨o9a, o9b⟩ := (hv53_1 : In _ _ _); obtain ⟨o10a, o10b⟩ := (hv55_1 : In _ _ _); omega))) cV_X11_takesUp wg_1648 ⟨Nat.le_of_ble_eq_true rfl, Nat.le_of_ble_eq_true rfl⟩ hG hE hA hP hD hS (hst.1 255 (by decide)) hf4 rfl rfl hl.1 (As := []) (rest := []) rfl (Nat.le_of_ble_eq_true rfl) dX11_rule_28 ⟨Nat.le_of_ble_eq_true rfl, Nat.le_of_ble_eq_true rfl⟩) hA hD hS (fun L12 f13 H locs hp14 hP hD hS => ?_)
      obtain ⟨eL15L, eL15T, eL15F⟩ := hp14
      have eL15L : L12 = L := eL15L
      rw [eL15L] at hP hD
      obtain ⟨zz16, zz17, zz18, hzz16, eL15T⟩ := eL15T
      have hzz16 : ((zz16 = (th 19) ∧ 0 ≤ zz16 ∧ zz16 ≤ (th 20)) ∧ (0 ≤ zz17 ∧ zz17 ≤ 511)) ∧ capI zz17 ((th 11)) := hzz16
      have hT : TI g ad (gset (gset (gset th 18 zz16) 14 zz17) 44 zz18) f13 := eL15T
      have eL15F : ∀ b, b ≠ (ad 255) → b ≠ (ad 265) → b ≠ (ad 266) → b ≠ (ad 267) → b ≠ (ad 269) → b ≠ (ad 260) → b ≠ (ad 261) → b ≠ (ad 262) → b ≠ (ad 263) → b ≠ (ad 264) → f13 b = f3 b := eL15F
      have hfr : (∀ b, b ≠ (ad 255) → b ≠ (ad 265) → b ≠ (ad 266) → b ≠ (ad 267) → b ≠ (ad 269) → b ≠ (ad 260) → b ≠ (ad 261) → b ≠ (ad 262) → b ≠ (ad 263) → b ≠ (ad 264) → f13 b = f b) := fun b z0_ z1_ z2_ z3_ z4_ z5_ z6_ z7_ z8_ z9_ => (eL15F b z0_ z1_ z2_ z3_ z4_ z5_ z6_ z7_ z8_ z9_).trans (hfr b z0_ z1_ z2_ z3_ z4_ z5_ z6_ z7_ z8_ z9_)
      refine lv_iload_n hx hb dX11_rule_31 rfl (lv_at hl 1 rfl) ?_
      by_cases c19 : z1 = 0
      ·
        refine lv_tableIn (off := 64) (tgt := 96) hx hb dX11_rule_32 (by rw [c19]; decide) (by rw [c19]; decide) (by rw [c19]; decide) (by decide) ?_
        have hb20 : In z1 0 0 := by rw [c19]; exact ⟨by decide, by decide⟩
        refine lv_aload_n hx hb dX11_rule_96 rfl (lv_at hl 0 rfl) ?_
        refine M0e hT (fun v0_21 v2_21 v3_21 v4_21 v5_21 v6_21 v8_21 v9_21 v12_21 v13_21 v14_21 v15_21 v16_21 v17_21 v18_21 v19_21 v20_21 v21_21 v22_21 v23_21 v25_21 v36_21 v37_21 v38_21 v39_21 v40_21 v45_21 v46_21 v47_21 v48_21 v50_21 v51_21 v53_21 v55_21 hf22 hv0_21 hv2_21 hg2_21 hv3_21 hg3_21 hv4_21 hg4_21 hv5_21 hg5_21 hv6_21 hg6_21 hv8_21 hg8_21 hv9_21 hg9_21 hv12_21 hv13_21 hg13_21 hv14_21 hg14_21 hv15_21 hg15_21 hv17_21 hg17_21 hv20_21 hg20_21 hv23_21 hg23_21 hv25_21 hg25_21 hv36_21 hg36_21 hv47_21 hg47_21 hv48_21 hg48_21 hv53_21 hg53_21 hv55_21 hg55_21 hrel0_21 => ?_)
        have hg15_21 : v15_21.toInt = th 11 := hg15_21
        have hg17_21 : v17_21.toInt = th 12 := hg17_21
        have hg20_21 : v20_21.toInt = zz17 := hg20_21
        refine pl_get (v := .int v14_21) hx hb hts (fun w h => mT (inX11 w h)) hown hG.1 hP (hst.1 255 (by decide)) hf22 rfl 14 (by decide) (hts _ (mT wg_1350)) (fun _ h => h) rfl dX11_rule_97 ?_
        have hg14_21 : v14_21.toInt = th 10 := hg14_21
        exact ret_i (ty := .int) hx hb hr hlocks (rfl) hP hD hS (Nat.le_of_ble_eq_true rfl) (Nat.le_of_ble_eq_true rfl) (⟨rfl, ⟨(gset (gset (gset th 18 zz16) 14 zz17) 44 zz18), ⟨(show MI (gset (gset (gset th 18 zz16) 14 zz17) 44 zz18) from ⟨m1, m2, (show th 20 = (th 12) * rnd (th 10) from m3), m4, m5, m6, m7, m8, m9, m10⟩), (SBM.set (k := 44) (SBM.set (k := 14) (SBM.set (k := 18) (SBM.rf th) (by decide)) (by decide)) (by decide))⟩, hT⟩, hfr⟩) dX11_rule_100
      by_cases c23 : z1 = 1
      ·
        refine lv_tableIn (off := 69) (tgt := 101) hx hb dX11_rule_32 (by rw [c23]; decide) (by rw [c23]; decide) (by rw [c23]; decide) (by decide) ?_
        have hb24 : In z1 1 1 := by rw [c23]; exact ⟨by decide, by decide⟩
        refine lv_aload_n hx hb dX11_rule_101 rfl (lv_at hl 0 rfl) ?_
        refine M0e hT (fun v0_25 v2_25 v3_25 v4_25 v5_25 v6_25 v8_25 v9_25 v12_25 v13_25 v14_25 v15_25 v16_25 v17_25 v18_25 v19_25 v20_25 v21_25 v22_25 v23_25 v25_25 v36_25 v37_25 v38_25 v39_25 v40_25 v45_25 v46_25 v47_25 v48_25 v50_25 v51_25 v53_25 v55_25 hf26 hv0_25 hv2_25 hg2_25 hv3_25 hg3_25 hv4_25 hg4_25 hv5_25 hg5_25 hv6_25 hg6_25 hv8_25 hg8_25 hv9_25 hg9_25 hv12_25 hv13_25 hg13_25 hv14_25 hg14_25 hv15_25 hg15_25 hv17_25 hg17_25 hv20_25 hg20_25 hv23_25 hg23_25 hv25_25 hg25_25 hv36_25 hg36_25 hv47_25 hg47_25 hv48_25 hg48_25 hv53_25 hg53_25 hv55_25 hg55_25 hrel0_25 => ?_)
        have hg15_25 : v15_25.toInt = th 11 := hg15_25
        have hg17_25 : v17_25.toInt = th 12 := hg17_25
        have hg20_25 : v20_25.toInt = zz17 := hg20_25
        refine pl_get (v := .int v15_25) hx hb hts (fun w h => mT (inX11 w h)) hown hG.1 hP (hst.1 255 (by decide)) hf26 rfl 15 (by decide) (hts _ (mT wg_1351)) (fun _ h => h) rfl dX11_rule_102 ?_
        exact ret_i (ty := .int) hx hb hr hlocks (rfl) hP hD hS (Nat.le_of_ble_eq_true rfl) (Nat.le_of_ble_eq_true rfl) (⟨rfl, ⟨(gset (gset (gset th 18 zz16) 14 zz17) 44 zz18), ⟨(show MI (gset (gset (gset th 18 zz16) 14 zz17) 44 zz18) from ⟨m1, m2, (show th 20 = (th 12) * rnd (th 10) from m3), m4, m5, m6, m7, m8, m9, m10⟩), (SBM.set (k := 44) (SBM.set (k := 14) (SBM.set (k := 18) (SBM.rf th) (by decide)) (by decide)) (by decide))⟩, hT⟩, hfr⟩) dX11_rule_105
      by_cases c27 : z1 = 2
      ·
        refine lv_tableIn (off := 74) (tgt := 106) hx hb dX11_rule_32 (by rw [c27]; decide) (by rw [c27]; decide) (by rw [c27]; decide) (by decide) ?_
        have hb28 : In z1 2 2 := by rw [c27]; exact ⟨by decide, by decide⟩
        refine lv_aload_n hx hb dX11_rule_106 rfl (lv_at hl 0 rfl) ?_
        refine M0e hT (fun v0_29 v2_29 v3_29 v4_29 v5_29 v6_29 v8_29 v9_29 v12_29 v13_29 v14_29 v15_29 v16_29 v17_29 v18_29 v19_29 v20_29 v21_29 v22_29 v23_29 v25_29 v36_29 v37_29 v38_29 v39_29 v40_29 v45_29 v46_29 v47_29 v48_29 v50_29 v51_29 v53_29 v55_29 hf30 hv0_29 hv2_29 hg2_29 hv3_29 hg3_29 hv4_29 hg4_29 hv5_29 hg5_29 hv6_29 hg6_29 hv8_29 hg8_29 hv9_29 hg9_29 hv12_29 hv13_29 hg13_29 hv14_29 hg14_29 hv15_29 hg15_29 hv17_29 hg17_29 hv20_29 hg20_29 hv23_29 hg23_29 hv25_29 hg25_29 hv36_29 hg36_29 hv47_29 hg47_29 hv48_29 hg48_29 hv53_29 hg53_29 hv55_29 hg55_29 hrel0_29 => ?_)
        have hg15_29 : v15_29.toInt = th 11 := hg15_29
        have hg17_29 : v17_29.toInt = th 12 := hg17_29
        have hg20_29 : v20_29.toInt = zz17 := hg20_29
        refine pl_get (v := .int v16_29) hx hb hts (fun w h => mT (inX11 w h)) hown hG.1 hP (hst.1 255 (by decide)) hf30 rfl 16 (by decide) (hts _ (mT wg_1352)) (fun _ h => h) rfl dX11_rule_107 ?_
        exact ret_i (ty := .int) hx hb hr hlocks (rfl) hP hD hS (Nat.le_of_ble_eq_true rfl) (Nat.le_of_ble_eq_true rfl) (⟨rfl, ⟨(gset (gset (gset th 18 zz16) 14 zz17) 44 zz18), ⟨(show MI (gset (gset (gset th 18 zz16) 14 zz17) 44 zz18) from ⟨m1, m2, (show th 20 = (th 12) * rnd (th 10) from m3), m4, m5, m6, m7, m8, m9, m10⟩), (SBM.set (k := 44) (SBM.set (k := 14) (SBM.set (k := 18) (SBM.rf th) (by decide)) (by decide)) (by decide))⟩, hT⟩, hfr⟩) dX11_rule_110
      by_cases c31 : z1 = 3
      ·
        refine lv_tableIn (off := 79) (tgt := 111) hx hb dX11_rule_32 (by rw [c31]; decide) (by rw [c31]; decide) (by rw [c31]; decide) (by decide) ?_
        have hb32 : In z1 3 3 := by rw [c31]; exact ⟨by decide, by decide⟩
        refine lv_aload_n hx hb dX11_rule_111 rfl (lv_at hl 0 rfl) ?_
        refine M0e hT (fun v0_33 v2_33 v3_33 v4_33 v5_33 v6_33 v8_33 v9_33 v12_33 v13_33 v14_33 v15_33 v16_33 v17_33 v18_33 v19_33 v20_33 v21_33 v22_33 v23_33 v25_33 v36_33 v37_33 v38_33 v39_33 v40_33 v45_33 v46_33 v47_33 v48_33 v50_33 v51_33 v53_33 v55_33 hf34 hv0_33 hv2_33 hg2_33 hv3_33 hg3_33 hv4_33 hg4_33 hv5_33 hg5_33 hv6_33 hg6_33 hv8_33 hg8_33 hv9_33 hg9_33 hv12_33 hv13_33 hg13_33 hv14_33 hg14_33 hv15_33 hg15_33 hv17_33 hg17_33 hv20_33 hg20_33 hv23_33 hg23_33 hv25_33 hg25_33 hv36_33 hg36_33 hv47_33 hg47_33 hv48_33 hg48_33 hv53_33 hg53_33 hv55_33 hg55_33 hrel0_33 => ?_)
        have hg15_33 : v15_33.toInt = th 11 := hg15_33
        have hg17_33 : v17_33.toInt = th 12 := hg17_33
        have hg20_33 : v20_33.toInt = zz17 := hg20_33
        refine pl_get (v := .int v17_33) hx hb hts (fun w h => mT (inX11 w h)) hown hG.1 hP (hst.1 255 (by decide)) hf34 rfl 17 (by decide) (hts _ (mT wg_1353)) (fun _ h => h) rfl dX11_rule_112 ?_
        exact ret_i (ty := .int) hx hb hr hlocks (rfl) hP hD hS (Nat.le_of_ble_eq_true rfl) (Nat.le_of_ble_eq_true rfl) (⟨rfl, ⟨(gset (gset (gset th 18 zz16) 14 zz17) 44 zz18), ⟨(show MI (gset (gset (gset th 18 zz16) 14 zz17) 44 zz18) from ⟨m1, m2, (show th 20 = (th 12) * rnd (th 10) from m3), m4, m5, m6, m7, m8, m9, m10⟩), (SBM.set (k := 44) (SBM.set (k := 14) (SBM.set (k := 18) (SBM.rf th) (by decide)) (by decide)) (by decide))⟩, hT⟩, hfr⟩) dX11_rule_115
      by_cases c35 : z1 = 4
      ·
        refine lv_tableIn (off := 84) (tgt := 116) hx hb dX11_rule_32 (by rw [c35]; decide) (by rw [c35]; decide) (by rw [c35]; decide) (by decide) ?_
        have hb36 : In z1 4 4 := by rw [c35]; exact ⟨by decide, by decide⟩
        refine lv_aload_n hx hb dX11_rule_116 rfl (lv_at hl 0 rfl) ?_
        refine M0e hT (fun v0_37 v2_37 v3_37 v4_37 v5_37 v6_37 v8_37 v9_37 v12_37 v13_37 v14_37 v15_37 v16_37 v17_37 v18_37 v19_37 v20_37 v21_37 v22_37 v23_37 v25_37 v36_37 v37_37 v38_37 v39_37 v40_37 v45_37 v46_37 v47_37 v48_37 v50_37 v51_37 v53_37 v55_37 hf38 hv0_37 hv2_37 hg2_37 hv3_37 hg3_37 hv4_37 hg4_37 hv5_37 hg5_37 hv6_37 hg6_37 hv8_37 hg8_37 hv9_37 hg9_37 hv12_37 hv13_37 hg13_37 hv14_37 hg14_37 hv15_37 hg15_37 hv17_37 hg17_37 hv20_37 hg20_37 hv23_37 hg23_37 hv25_37 hg25_37 hv36_37 hg36_37 hv47_37 hg47_37 hv48_37 hg48_37 hv53_37 hg53_37 hv55_37 hg55_37 hrel0_37 => ?_)
        have hg15_37 : v15_37.toInt = th 11 := hg15_37
        have hg17_37 : v17_37.toInt = th 12 := hg17_37
        have hg20_37 : v20_37.toInt = zz17 := hg20_37
        refine pl_get (v := .int v19_37) hx hb hts (fun w h => mT (inX11 w h)) hown hG.1 hP (hst.1 255 (by decide)) hf38 rfl 19 (by decide) (hts _ (mT wg_1355)) (fun _ h => h) rfl dX11_rule_117 ?_
        exact ret_i (ty := .int) hx hb hr hlocks (rfl) hP hD hS (Nat.le_of_ble_eq_true rfl) (Nat.le_of_ble_eq_true rfl) (⟨rfl, ⟨(gset (gset (gset th 18 zz16) 14 zz17) 44 zz18), ⟨(show MI (gset (gset (gset th 18 zz16) 14 zz17) 44 zz18) from ⟨m1, m2, (show th 20 = (th 12) * rnd (th 10) from m3), m4, m5, m6, m7, m8, m9, m10⟩), (SBM.set (k := 44) (SBM.set (k := 14) (SBM.set (k := 18) (SBM.rf th) (by decide)) (by decide)) (by decide))⟩, hT⟩, hfr⟩) dX11_rule_120
      by_cases c39 : z1 = 5
      ·
        refine lv_tableIn (off := 89) (tgt := 121) hx hb dX11_rule_32 (by rw [c39]; decide) (by rw [c39]; decide) (by rw [c39]; decide) (by decide) ?_
        have hb40 : In z1 5 5 := by rw [c39]; exact ⟨by decide, by decide⟩
        refine lv_aload_n hx hb dX11_rule_121 rfl (lv_at hl 0 rfl) ?_
        refine M0e hT (fun v0_41 v2_41 v3_41 v4_41 v5_41 v6_41 v8_41 v9_41 v12_41 v13_41 v14_41 v15_41 v16_41 v17_41 v18_41 v19_41 v20_41 v21_41 v22_41 v23_41 v25_41 v36_41 v37_41 v38_41 v39_41 v40_41 v45_41 v46_41 v47_41 v48_41 v50_41 v51_41 v53_41 v55_41 hf42 hv0_41 hv2_41 hg2_41 hv3_41 hg3_41 hv4_41 hg4_41 hv5_41 hg5_41 hv6_41 hg6_41 hv8_41 hg8_41 hv9_41 hg9_41 hv12_41 hv13_41 hg13_41 hv14_41 hg14_41 hv15_41 hg15_41 hv17_41 hg17_41 hv20_41 hg20_41 hv23_41 hg23_41 hv25_41 hg25_41 hv36_41 hg36_41 hv47_41 hg47_41 hv48_41 hg48_41 hv53_41 hg53_41 hv55_41 hg55_41 hrel0_41 => ?_)
        have hg15_41 : v15_41.toInt = th 11 := hg15_41
        have hg17_41 : v17_41.toInt = th 12 := hg17_41
        have hg20_41 : v20_41.toInt = zz17 := hg20_41
        refine pl_get (v := .int v20_41) hx hb hts (fun w h => mT (inX11 w h)) hown hG.1 hP (hst.1 255 (by decide)) hf42 rfl 20 (by decide) (hts _ (mT wg_1356)) (fun _ h => h) rfl dX11_rule_122 ?_
        exact ret_i (ty := .int) hx hb hr hlocks (rfl) hP hD hS (Nat.le_of_ble_eq_true rfl) (Nat.le_of_ble_eq_true rfl) (⟨rfl, ⟨(gset (gset (gset th 18 zz16) 14 zz17) 44 zz18), ⟨(show MI (gset (gset (gset th 18 zz16) 14 zz17) 44 zz18) from ⟨m1, m2, (show th 20 = (th 12) * rnd (th 10) from m3), m4, m5, m6, m7, m8, m9, m10⟩), (SBM.set (k := 44) (SBM.set (k := 14) (SBM.set (k := 18) (SBM.rf th) (by decide)) (by decide)) (by decide))⟩, hT⟩, hfr⟩) dX11_rule_125
      by_cases c43 : z1 = 6
      ·
        refine lv_tableIn (off := 94) (tgt := 126) hx hb dX11_rule_32 (by rw [c43]; decide) (by rw [c43]; decide) (by rw [c43]; decide) (by decide) ?_
        have hb44 : In z1 6 6 := by rw [c43]; exact ⟨by decide, by decide⟩
        refine lv_aload_n hx hb dX11_rule_126 rfl (lv_at hl 0 rfl) ?_
        refine M0e hT (fun v0_45 v2_45 v3_45 v4_45 v5_45 v6_45 v8_45 v9_45 v12_45 v13_45 v14_45 v15_45 v16_45 v17_45 v18_45 v19_45 v20_45 v21_45 v22_45 v23_45 v25_45 v36_45 v37_45 v38_45 v39_45 v40_45 v45_45 v46_45 v47_45 v48_45 v50_45 v51_45 v53_45 v55_45 hf46 hv0_45 hv2_45 hg2_45 hv3_45 hg3_45 hv4_45 hg4_45 hv5_45 hg5_45 hv6_45 hg6_45 hv8_45 hg8_45 hv9_45 hg9_45 hv12_45 hv13_45 hg13_45 hv14_45 hg14_45 hv15_45 hg15_45 hv17_45 hg17_45 hv20_45 hg20_45 hv23_45 hg23_45 hv25_45 hg25_45 hv36_45 hg36_45 hv47_45 hg47_45 hv48_45 hg48_45 hv53_45 hg53_45 hv55_45 hg55_45 hrel0_45 => ?_)
        have hg15_45 : v15_45.toInt = th 11 := hg15_45
        have hg17_45 : v17_45.toInt = th 12 := hg17_45
        have hg20_45 : v20_45.toInt = zz17 := hg20_45
        refine pl_get (v := .int v18_45) hx hb hts (fun w h => mT (inX11 w h)) hown hG.1 hP (hst.1 255 (by decide)) hf46 rfl 18 (by decide) (hts _ (mT wg_1354)) (fun _ h => h) rfl dX11_rule_127 ?_
        exact ret_i (ty := .int) hx hb hr hlocks (rfl) hP hD hS (Nat.le_of_ble_eq_true rfl) (Nat.le_of_ble_eq_true rfl) (⟨rfl, ⟨(gset (gset (gset th 18 zz16) 14 zz17) 44 zz18), ⟨(show MI (gset (gset (gset th 18 zz16) 14 zz17) 44 zz18) from ⟨m1, m2, (show th 20 = (th 12) * rnd (th 10) from m3), m4, m5, m6, m7, m8, m9, m10⟩), (SBM.set (k := 44) (SBM.set (k := 14) (SBM.set (k := 18) (SBM.rf th) (by decide)) (by decide)) (by decide))⟩, hT⟩, hfr⟩) dX11_rule_130
      by_cases c47 : z1 = 7
      ·
        refine lv_tableIn (off := 99) (tgt := 131) hx hb dX11_rule_32 (by rw [c47]; decide) (by rw [c47]; decide) (by rw [c47]; decide) (by decide) ?_
        have hb48 : In z1 7 7 := by rw [c47]; exact ⟨by decide, by decide⟩
        refine lv_aload_n hx hb dX11_rule_131 rfl (lv_at hl 0 rfl) ?_
        refine M0e hT (fun v0_49 v2_49 v3_49 v4_49 v5_49 v6_49 v8_49 v9_49 v12_49 v13_49 v14_49 v15_49 v16_49 v17_49 v18_49 v19_49 v20_49 v21_49 v22_49 v23_49 v25_49 v36_49 v37_49 v38_49 v39_49 v40_49 v45_49 v46_49 v47_49 v48_49 v50_49 v51_49 v53_49 v55_49 hf50 hv0_49 hv2_49 hg2_49 hv3_49 hg3_49 hv4_49 hg4_49 hv5_49 hg5_49 hv6_49 hg6_49 hv8_49 hg8_49 hv9_49 hg9_49 hv12_49 hv13_49 hg13_49 hv14_49 hg14_49 hv15_49 hg15_49 hv17_49 hg17_49 hv20_49 hg20_49 hv23_49 hg23_49 hv25_49 hg25_49 hv36_49 hg36_49 hv47_49 hg47_49 hv48_49 hg48_49 hv53_49 hg53_49 hv55_49 hg55_49 hrel0_49 => ?_)
        have hg15_49 : v15_49.toInt = th 11 := hg15_49
        have hg17_49 : v17_49.toInt = th 12 := hg17_49
        have hg20_49 : v20_49.toInt = zz17 := hg20_49
        refine pl_get (v := .int v36_49) hx hb hts (fun w h => mT (inX11 w h)) hown hG.1 hP (hst.1 255 (by decide)) hf50 rfl 36 (by decide) (hts _ (mT wg_1372)) (fun _ h => h) rfl dX11_rule_132 ?_
        have hg36_49 : v36_49.toInt = zz16 := hg36_49
        refine lv_aload_n hx hb dX11_rule_135 rfl (lv_at hl 0 rfl) ?_
        refine call_i (run_V (rm := rm_X11_each) hx hb hml hown hts (s_X11_each l g ad (gset (gset (gset th 18 zz16) 14 zz17) 44 zz18) _ _ _  hst hT ) cV_X11_each wg_1636 ⟨Nat.le_of_ble_eq_true rfl, Nat.le_of_ble_eq_true rfl⟩ hG hE hA hP hD hS (hst.1 255 (by decide)) hf50 rfl rfl hl.1 (As := []) (rest := [.int v36_49]) rfl (Nat.le_of_ble_eq_true rfl) dX11_rule_136 ⟨Nat.le_of_ble_eq_true rfl, Nat.le_of_ble_eq_true rfl⟩) hA hD hS (fun r51 L52 f53 H locs hp54 hP hD hS => ?_)
        obtain ⟨eL55L, eL55T, eL55R, eL55X0⟩ := hp54
        have eL55L : L52 = L := eL55L
        have eL55T : f53 = f13 := eL55T
        rw [eL55L, eL55T] at hP hD
        have eL55R : In r51 2 3 := eL55R
        have hrn56 : r51.toInt = rnd (th 10) := eL55X0
        refine lv_idiv hx hb dX11_rule_139 (In.ne0 eL55R (by decide)) ?_
        refine lv_topi (fun x57 ex57 => ?_)
        have hb58 : In x57 0 9 := ex57 ▸ In.div hv36_49 eL55R (by decide) (by decide) (by decide) (by decide)
        exact ret_i (ty := .int) hx hb hr hlocks (rfl) hP hD hS (Nat.le_of_ble_eq_true rfl) (Nat.le_of_ble_eq_true rfl) (⟨rfl, ⟨(gset (gset (gset th 18 zz16) 14 zz17) 44 zz18), ⟨(show MI (gset (gset (gset th 18 zz16) 14 zz17) 44 zz18) from ⟨m1, m2, (show th 20 = (th 12) * rnd (th 10) from m3), m4, m5, m6, m7, m8, m9, m10⟩), (SBM.set (k := 44) (SBM.set (k := 14) (SBM.set (k := 18) (SBM.rf th) (by decide)) (by decide)) (by decide))⟩, hT⟩, hfr⟩) dX11_rule_140
      by_cases c59 : z1 = 8
      ·
        refine lv_tableIn (off := 109) (tgt := 141) hx hb dX11_rule_32 (by rw [c59]; decide) (by rw [c59]; decide) (by rw [c59]; decide) (by decide) ?_
        have hb60 : In z1 8 8 := by rw [c59]; exact ⟨by decide, by decide⟩
        refine lv_aload_n hx hb dX11_rule_141 rfl (lv_at hl 0 rfl) ?_
        refine M0e hT (fun v0_61 v2_61 v3_61 v4_61 v5_61 v6_61 v8_61 v9_61 v12_61 v13_61 v14_61 v15_61 v16_61 v17_61 v18_61 v19_61 v20_61 v21_61 v22_61 v23_61 v25_61 v36_61 v37_61 v38_61 v39_61 v40_61 v45_61 v46_61 v47_61 v48_61 v50_61 v51_61 v53_61 v55_61 hf62 hv0_61 hv2_61 hg2_61 hv3_61 hg3_61 hv4_61 hg4_61 hv5_61 hg5_61 hv6_61 hg6_61 hv8_61 hg8_61 hv9_61 hg9_61 hv12_61 hv13_61 hg13_61 hv14_61 hg14_61 hv15_61 hg15_61 hv17_61 hg17_61 hv20_61 hg20_61 hv23_61 hg23_61 hv25_61 hg25_61 hv36_61 hg36_61 hv47_61 hg47_61 hv48_61 hg48_61 hv53_61 hg53_61 hv55_61 hg55_61 hrel0_61 => ?_)
        have hg15_61 : v15_61.toInt = th 11 := hg15_61
        have hg17_61 : v17_61.toInt = th 12 := hg17_61
        have hg20_61 : v20_61.toInt = zz17 := hg20_61
        refine pl_get (v := .int v36_61) hx hb hts (fun w h => mT (inX11 w h)) hown hG.1 hP (hst.1 255 (by decide)) hf62 rfl 36 (by decide) (hts _ (mT wg_1372)) (fun _ h => h) rfl dX11_rule_142 ?_
        have hg36_61 : v36_61.toInt = zz16 := hg36_61
        refine lv_aload_n hx hb dX11_rule_145 rfl (lv_at hl 0 rfl) ?_
        refine call_i (run_V (rm := rm_X11_each) hx hb hml hown hts (s_X11_each l g ad (gset (gset (gset th 18 zz16) 14 zz17) 44 zz18) _ _ _  hst hT ) cV_X11_each wg_1636 ⟨Nat.le_of_ble_eq_true rfl, Nat.le_of_ble_eq_true rfl⟩ hG hE hA hP hD hS (hst.1 255 (by decide)) hf62 rfl rfl hl.1 (As := []) (rest := [.int v36_61]) rfl (Nat.le_of_ble_eq_true rfl) dX11_rule_146 ⟨Nat.le_of_ble_eq_true rfl, Nat.le_of_ble_eq_true rfl⟩) hA hD hS (fun r63 L64 f65 H locs hp66 hP hD hS => ?_)
        obtain ⟨eL67L, eL67T, eL67R, eL67X0⟩ := hp66
        have eL67L : L64 = L := eL67L
        have eL67T : f65 = f13 := eL67T
        rw [eL67L, eL67T] at hP hD
        have eL67R : In r63 2 3 := eL67R
        have hrn68 : r63.toInt = rnd (th 10) := eL67X0
        refine lv_irem hx hb dX11_rule_149 (In.ne0 eL67R (by decide)) ?_
        refine lv_topi (fun x69 ex69 => ?_)
        have hb70 : In x69 0 2 := ex69 ▸ In.rem hv36_61 eL67R (by decide) (by decide) (by decide)
        exact ret_i (ty := .int) hx hb hr hlocks (rfl) hP hD hS (Nat.le_of_ble_eq_true rfl) (Nat.le_of_ble_eq_true rfl) (⟨rfl, ⟨(gset (gset (gset th 18 zz16) 14 zz17) 44 zz18), ⟨(show MI (gset (gset (gset th 18 zz16) 14 zz17) 44 zz18) from ⟨m1, m2, (show th 20 = (th 12) * rnd (th 10) from m3), m4, m5, m6, m7, m8, m9, m10⟩), (SBM.set (k := 44) (SBM.set (k := 14) (SBM.set (k := 18) (SBM.rf th) (by decide)) (by decide)) (by decide))⟩, hT⟩, hfr⟩) dX11_rule_150
      by_cases c71 : z1 = 9
      ·
        refine lv_tableIn (off := 119) (tgt := 151) hx hb dX11_rule_32 (by rw [c71]; decide) (by rw [c71]; decide) (by rw [c71]; decide) (by decide) ?_
        have hb72 : In z1 9 9 := by rw [c71]; exact ⟨by decide, by decide⟩
        refine lv_aload_n hx hb dX11_rule_151 rfl (lv_at hl 0 rfl) ?_
        refine M0e hT (fun v0_73 v2_73 v3_73 v4_73 v5_73 v6_73 v8_73 v9_73 v12_73 v13_73 v14_73 v15_73 v16_73 v17_73 v18_73 v19_73 v20_73 v21_73 v22_73 v23_73 v25_73 v36_73 v37_73 v38_73 v39_73 v40_73 v45_73 v46_73 v47_73 v48_73 v50_73 v51_73 v53_73 v55_73 hf74 hv0_73 hv2_73 hg2_73 hv3_73 hg3_73 hv4_73 hg4_73 hv5_73 hg5_73 hv6_73 hg6_73 hv8_73 hg8_73 hv9_73 hg9_73 hv12_73 hv13_73 hg13_73 hv14_73 hg14_73 hv15_73 hg15_73 hv17_73 hg17_73 hv20_73 hg20_73 hv23_73 hg23_73 hv25_73 hg25_73 hv36_73 hg36_73 hv47_73 hg47_73 hv48_73 hg48_73 hv53_73 hg53_73 hv55_73 hg55_73 hrel0_73 => ?_)
        have hg15_73 : v15_73.toInt = th 11 := hg15_73
        have hg17_73 : v17_73.toInt = th 12 := hg17_73
        have hg20_73 : v20_73.toInt = zz17 := hg20_73
        refine call_i (run_V (rm := rm_X11_each) hx hb hml hown hts (s_X11_each l g ad (gset (gset (gset th 18 zz16) 14 zz17) 44 zz18) _ _ _  hst hT ) cV_X11_each wg_1636 ⟨Nat.le_of_ble_eq_true rfl, Nat.le_of_ble_eq_true rfl⟩ hG hE hA hP hD hS (hst.1 255 (by decide)) hf74 rfl rfl hl.1 (As := []) (rest := []) rfl (Nat.le_of_ble_eq_true rfl) dX11_rule_152 ⟨Nat.le_of_ble_eq_true rfl, Nat.le_of_ble_eq_true rfl⟩) hA hD hS (fun r75 L76 f77 H locs hp78 hP hD hS => ?_)
        obtain ⟨eL79L, eL79T, eL79R, eL79X0⟩ := hp78
        have eL79L : L76 = L := eL79L
        have eL79T : f77 = f13 := eL79T
        rw [eL79L, eL79T] at hP hD
        have eL79R : In r75 2 3 := eL79R
        have hrn80 : r75.toInt = rnd (th 10) := eL79X0
        exact ret_i (ty := .int) hx hb hr hlocks (rfl) hP hD hS (Nat.le_of_ble_eq_true rfl) (Nat.le_of_ble_eq_true rfl) (⟨rfl, ⟨(gset (gset (gset th 18 zz16) 14 zz17) 44 zz18), ⟨(show MI (gset (gset (gset th 18 zz16) 14 zz17) 44 zz18) from ⟨m1, m2, (show th 20 = (th 12) * rnd (th 10) from m3), m4, m5, m6, m7, m8, m9, m10⟩), (SBM.set (k := 44) (SBM.set (k := 14) (SBM.set (k := 18) (SBM.rf th) (by decide)) (by decide)) (by decide))⟩, hT⟩, hfr⟩) dX11_rule_155
      by_cases c81 : z1 = 10
      ·
        refine lv_tableIn (off := 129) (tgt := 161) hx hb dX11_rule_32 (by rw [c81]; decide) (by rw [c81]; decide) (by rw [c81]; decide) (by decide) ?_
        have hb82 : In z1 10 10 := by rw [c81]; exact ⟨by decide, by decide⟩
        refine lv_ldcw hx hb hown (hts _ (mT wg_1752)) dX11_rule_161 ?_
        exact ret_i (ty := .int) hx hb hr hlocks (rfl) hP hD hS (Nat.le_of_ble_eq_true rfl) (Nat.le_of_ble_eq_true rfl) (⟨rfl, ⟨(gset (gset (gset th 18 zz16) 14 zz17) 44 zz18), ⟨(show MI (gset (gset (gset th 18 zz16) 14 zz17) 44 zz18) from ⟨m1, m2, (show th 20 = (th 12) * rnd (th 10) from m3), m4, m5, m6, m7, m8, m9, m10⟩), (SBM.set (k := 44) (SBM.set (k := 14) (SBM.set (k := 18) (SBM.rf th) (by decide)) (by decide)) (by decide))⟩, hT⟩, hfr⟩) dX11_rule_164
      by_cases c83 : z1 = 11
      ·
        refine lv_tableIn (off := 124) (tgt := 156) hx hb dX11_rule_32 (by rw [c83]; decide) (by rw [c83]; decide) (by rw [c83]; decide) (by decide) ?_
        have hb84 : In z1 11 11 := by rw [c83]; exact ⟨by decide, by decide⟩
        refine lv_aload_n hx hb dX11_rule_156 rfl (lv_at hl 0 rfl) ?_
        refine M0e hT (fun v0_85 v2_85 v3_85 v4_85 v5_85 v6_85 v8_85 v9_85 v12_85 v13_85 v14_85 v15_85 v16_85 v17_85 v18_85 v19_85 v20_85 v21_85 v22_85 v23_85 v25_85 v36_85 v37_85 v38_85 v39_85 v40_85 v45_85 v46_85 v47_85 v48_85 v50_85 v51_85 v53_85 v55_85 hf86 hv0_85 hv2_85 hg2_85 hv3_85 hg3_85 hv4_85 hg4_85 hv5_85 hg5_85 hv6_85 hg6_85 hv8_85 hg8_85 hv9_85 hg9_85 hv12_85 hv13_85 hg13_85 hv14_85 hg14_85 hv15_85 hg15_85 hv17_85 hg17_85 hv20_85 hg20_85 hv23_85 hg23_85 hv25_85 hg25_85 hv36_85 hg36_85 hv47_85 hg47_85 hv48_85 hg48_85 hv53_85 hg53_85 hv55_85 hg55_85 hrel0_85 => ?_)
        have hg15_85 : v15_85.toInt = th 11 := hg15_85
        have hg17_85 : v17_85.toInt = th 12 := hg17_85
        have hg20_85 : v20_85.toInt = zz17 := hg20_85
        refine pl_get (v := .int v25_85) hx hb hts (fun w h => mT (inX11 w h)) hown hG.1 hP (hst.1 255 (by decide)) hf86 rfl 25 (by decide) (hts _ (mT wg_1361)) (fun _ h => h) rfl dX11_rule_157 ?_
        have hg25_85 : v25_85.toInt = zz18 := hg25_85
        exact ret_i (ty := .int) hx hb hr hlocks (rfl) hP hD hS (Nat.le_of_ble_eq_true rfl) (Nat.le_of_ble_eq_true rfl) (⟨rfl, ⟨(gset (gset (gset th 18 zz16) 14 zz17) 44 zz18), ⟨(show MI (gset (gset (gset th 18 zz16) 14 zz17) 44 zz18) from ⟨m1, m2, (show th 20 = (th 12) * rnd (th 10) from m3), m4, m5, m6, m7, m8, m9, m10⟩), (SBM.set (k := 44) (SBM.set (k := 14) (SBM.set (k := 18) (SBM.rf th) (by decide)) (by decide)) (by decide))⟩, hT⟩, hfr⟩) dX11_rule_160
      refine lv_tableOut (tgt := 161) hx hb dX11_rule_32 (tb_out (by decide) (by decide) (fun k h1 h2 => ?_)) (by decide) ?_
      · rcases (show k = 0 ∨ k = 1 ∨ k = 2 ∨ k = 3 ∨ k = 4 ∨ k = 5 ∨ k = 6 ∨ k = 7 ∨ k = 8 ∨ k = 9 ∨ k = 10 ∨ k = 11 by omega) with rfl | rfl | rfl | rfl | rfl | rfl | rfl | rfl | rfl | rfl | rfl | rfl
        · exact fun e => c19 (e.trans (by decide))
        · exact fun e => c23 (e.trans (by decide))
        · exact fun e => c27 (e.trans (by decide))
        · exact fun e => c31 (e.trans (by decide))
        · exact fun e => c35 (e.trans (by decide))
        · exact fun e => c39 (e.trans (by decide))
        · exact fun e => c43 (e.trans (by decide))
        · exact fun e => c47 (e.trans (by decide))
        · exact fun e => c59 (e.trans (by decide))
        · exact fun e => c71 (e.trans (by decide))
        · exact fun e => c81 (e.trans (by decide))
        · exact fun e => c83 (e.trans (by decide))
      ·
        have csc19 : z1.toInt ≠ 0 := fun e => i32_ne c19 (e.trans (by decide))
        have csc23 : z1.toInt ≠ 1 := fun e => i32_ne c23 (e.trans (by decide))
        have csc27 : z1.toInt ≠ 2 := fun e => i32_ne c27 (e.trans (by decide))
        have csc31 : z1.toInt ≠ 3 := fun e => i32_ne c31 (e.trans (by decide))
        have csc35 : z1.toInt ≠ 4 := fun e => i32_ne c35 (e.trans (by decide))
        have csc39 : z1.toInt ≠ 5 := fun e => i32_ne c39 (e.trans (by decide))
        have csc43 : z1.toInt ≠ 6 := fun e => i32_ne c43 (e.trans (by decide))
        have csc47 : z1.toInt ≠ 7 := fun e => i32_ne c47 (e.trans (by decide))
        have csc59 : z1.toInt ≠ 8 := fun e => i32_ne c59 (e.trans (by decide))
        have csc71 : z1.toInt ≠ 9 := fun e => i32_ne c71 (e.trans (by decide))
        have csc81 : z1.toInt ≠ 10 := fun e => i32_ne c81 (e.trans (by decide))
        have csc83 : z1.toInt ≠ 11 := fun e => i32_ne c83 (e.trans (by decide))
        refine lv_ldcw hx hb hown (hts _ (mT wg_1752)) dX11_rule_161 ?_
        exact ret_i (ty := .int) hx hb hr hlocks (rfl) hP hD hS (Nat.le_of_ble_eq_true rfl) (Nat.le_of_ble_eq_true rfl) (⟨rfl, ⟨(gset (gset (gset th 18 zz16) 14 zz17) 44 zz18), ⟨(show MI (gset (gset (gset th 18 zz16) 14 zz17) 44 zz18) from ⟨m1, m2, (show th 20 = (th 12) * rnd (th 10) from m3), m4, m5, m6, m7, m8, m9, m10⟩), (SBM.set (k := 44) (SBM.set (k := 14) (SBM.set (k := 18) (SBM.rf th) (by decide)) (by decide)) (by decide))⟩, hT⟩, hfr⟩) dX11_rule_164
    ·
      have oc0 : (0 : Int32).toInt = 0 := by decide
      have cc87 : v23_1.toInt = (0 : Int32).toInt := congrArg Int32.toInt c8
      have hb88 : In v23_1 0 0 := In.eq1 hv23_1 (⟨by decide, by decide⟩ : In 0 0 0) cc87 (by decide) (by decide)
      refine lv_ldcw hx hb hown (hts _ (mT wg_1752)) dX11_rule_23 ?_
      exact ret_i (ty := .int) hx hb hr hlocks (rfl) hP hD hS (Nat.le_of_ble_eq_true rfl) (Nat.le_of_ble_eq_true rfl) (⟨rfl, ⟨th, ⟨(show MI th from hM), (SBM.rf th)⟩, hT⟩, hfr⟩) dX11_rule_26
  ·
    have oc10 : (10 : Int32).toInt = 10 := by decide
    have cc89 : z1.toInt = (10 : Int32).toInt := congrArg Int32.toInt c6
    have hb90 : In z1 10 10 := In.eq1 (In.full z1) (⟨by decide, by decide⟩ : In 10 10 10) cc89 (by decide) (by decide)
    refine lv_aload_n hx hb dX11_rule_11 rfl (lv_at hl 0 rfl) ?_
    refine pl_get (v := .int v12_1) hx hb hts (fun w h => mT (inX11 w h)) hown hG.1 hP (hst.1 255 (by decide)) hf4 rfl 12 (by decide) (hts _ (mT wg_1348)) (fun _ h => h) rfl dX11_rule_12 ?_
    exact ret_i (ty := .int) hx hb hr hlocks (rfl) hP hD hS (Nat.le_of_ble_eq_true rfl) (Nat.le_of_ble_eq_true rfl) (⟨rfl, ⟨th, ⟨(show MI th from hM), (SBM.rf th)⟩, hT⟩, hfr⟩) dX11_rule_15

abbrev rm_X11_peer : Room := { frames := 2, cells := 0, slots := 0, locals := 46 }
abbrev po_X11_peer (g : GG) (ad : Nat → Nat) (th : Nat → Int) (L : List Nat) (f : HP) (z1 : Int32) (z2 : Int32) : Int32 → (List Nat × HP) → Prop := fun r u => u.1 = L ∧ (∃ th' : Nat → Int, (MI th' ∧ SBM th th') ∧ TI g ad th' u.2) ∧ (∀ b, b ≠ (ad 255) → b ≠ (ad 265) → b ≠ (ad 266) → b ≠ (ad 267) → b ≠ (ad 269) → b ≠ (ad 260) → b ≠ (ad 261) → b ≠ (ad 262) → b ≠ (ad 263) → b ≠ (ad 264) → u.2 b = f b)
set_option maxHeartbeats 4000000 in
set_option maxRecDepth 100000 in
theorem s_X11_peer (l : Launch) (g : GG) (ad : Nat → Nat) (th : Nat → Int) (L : List Nat) (f : HP) (sz : Nat) (z1 : Int32) (z2 : Int32) (hst : ST ad L) (hT : TI g ad th f) (hM : MI th) : MtI l g yX11_peer cX11_peer 3 (some .int) rm_X11_peer [.ref (ad 255), .int z1, .int z2] L f sz (po_X11_peer g ad th L f z1 z2) := by
  refine MtI.of (by decide +kernel) (Nat.le_of_ble_eq_true rfl) ?_
  intro p e s m below meth c A hEn hP hD hS ls hl
  obtain ⟨hx, hb, hr, hml, hown, hlocks, hts, hG, hA, hE, hnm⟩ := hEn
  have hown : s.vm.findClass "RulerWordModel" = some m.cls := hown
  have hl : lv_has ls 3 [(0, .ref (ad 255)), (1, .int z1), (2, .int z2)] := hl
  have hfr : (∀ b, b ≠ (ad 255) → b ≠ (ad 265) → b ≠ (ad 266) → b ≠ (ad 267) → b ≠ (ad 269) → b ≠ (ad 260) → b ≠ (ad 261) → b ≠ (ad 262) → b ≠ (ad 263) → b ≠ (ad 264) → f b = f b) := fun b z0_ z1_ z2_ z3_ z4_ z5_ z6_ z7_ z8_ z9_ => rfl
  have hM0 := hM
  obtain ⟨m1, m2, m3, m4, m5, m6, m7, m8, m9, m10⟩ := hM0
  have m20 := mi20 m2 m3
  refine lv_aload_n hx hb dX11_peer_0 rfl (lv_at hl 0 rfl) ?_
  refine lv_iconst (v := 0) hx hb dX11_peer_1 (by decide) ?_
  refine M0e hT (fun v0_1 v2_1 v3_1 v4_1 v5_1 v6_1 v8_1 v9_1 v12_1 v13_1 v14_1 v15_1 v16_1 v17_1 v18_1 v19_1 v20_1 v21_1 v22_1 v23_1 v25_1 v36_1 v37_1 v38_1 v39_1 v40_1 v45_1 v46_1 v47_1 v48_1 v50_1 v51_1 v53_1 v55_1 hf2 hv0_1 hv2_1 hg2_1 hv3_1 hg3_1 hv4_1 hg4_1 hv5_1 hg5_1 hv6_1 hg6_1 hv8_1 hg8_1 hv9_1 hg9_1 hv12_1 hv13_1 hg13_1 hv14_1 hg14_1 hv15_1 hg15_1 hv17_1 hg17_1 hv20_1 hg20_1 hv23_1 hg23_1 hv25_1 hg25_1 hv36_1 hg36_1 hv47_1 hg47_1 hv48_1 hg48_1 hv53_1 hg53_1 hv55_1 hg55_1 hrel0_1 => ?_)
  have hg15_1 : v15_1.toInt = th 11 := hg15_1
  have hg17_1 : v17_1.toInt = th 12 := hg17_1
  have hg20_1 : v20_1.toInt = th 14 := hg20_1
  refine pl_put (ty := .int) (v := .int 0) (fs' := [.int 0, .ref (ad 256), .int v2_1, .int v3_1, .int v4_1, .int v5_1, .int v6_1, .ref (ad 257), .int v8_1, .int v9_1, .ref (ad 258), .ref (ad 259), .int v12_1, .int v13_1, .int v14_1, .int v15_1, .int v16_1, .int v17_1, .int v18_1, .int v19_1, .int v20_1, .long v21_1, .long v22_1, .int v23_1, .ref (ad 260), .int v25_1, .ref (ad 261), .ref (ad 262), .ref (ad 263), .ref (ad 264), .ref (ad 265), .ref (ad 266), .ref (ad 267), .ref (ad 268), .ref (ad 269), .ref (ad 270), .int v36_1, .int v37_1, .int v38_1, .int v39_1, .int v40_1, .ref (ad 271), .ref (ad 272), .ref (ad 273), .ref (ad 274), .long v45_1, .long v46_1, .int v47_1, .int v48_1, .ref (ad 275), .int v50_1, .int v51_1, .ref (ad 276), .int v53_1, .ref (ad 277), .int v55_1]) hx hb hts (fun w h => mT (inX11 w h)) tyX11 tyX11_ok nmX11 hown hG.1 hP hD hS (hst.1 255 (by decide)) hf2 rfl 0 (by decide) (hts _ (mT wg_1336)) (fun _ h => h) rfl (by decide +kernel) (rfl) (rfl) (Nat.le_of_ble_eq_true rfl) rfl dX11_peer_2 (fun H locs f3 hf4 ho5 hP hD hS => ?_)
  have hfr : (∀ b, b ≠ (ad 255) → b ≠ (ad 265) → b ≠ (ad 266) → b ≠ (ad 267) → b ≠ (ad 269) → b ≠ (ad 260) → b ≠ (ad 261) → b ≠ (ad 262) → b ≠ (ad 263) → b ≠ (ad 264) → f3 b = f b) := fun b z0_ z1_ z2_ z3_ z4_ z5_ z6_ z7_ z8_ z9_ => (ho5 b z0_).trans (hfr b z0_ z1_ z2_ z3_ z4_ z5_ z6_ z7_ z8_ z9_)
  refine lv_aload_n hx hb dX11_peer_5 rfl (lv_at hl 0 rfl) ?_
  refine lv_iload_n hx hb dX11_peer_6 rfl (lv_at hl 1 rfl) ?_
  have hT := TI.updM hT hst (k := 0) (by decide) hf4 ho5 ⟨0, v2_1, v3_1, v4_1, v5_1, v6_1, v8_1, v9_1, v12_1, v13_1, v14_1, v15_1, v16_1, v17_1, v18_1, v19_1, v20_1, v21_1, v22_1, v23_1, v25_1, v36_1, v37_1, v38_1, v39_1, v40_1, v45_1, v46_1, v47_1, v48_1, v50_1, v51_1, v53_1, v55_1, rfl, (⟨by decide, by decide⟩ : In 0 0 1), hv2_1, hg2_1, hv3_1, hg3_1, hv4_1, hg4_1, hv5_1, hg5_1, hv6_1, hg6_1, hv8_1, hg8_1, hv9_1, hg9_1, hv12_1, hv13_1, hg13_1, hv14_1, hg14_1, hv15_1, hg15_1, hv17_1, hg17_1, hv20_1, hg20_1, hv23_1, hg23_1, hv25_1, hg25_1, hv36_1, hg36_1, hv47_1, hg47_1, hv48_1, hg48_1, hv53_1, hg53_1, hv55_1, hg55_1, hrel0_1⟩
  refine call_i (run_V (rm := rm_X11_isPeer) hx hb hml hown hts (s_X11_isPeer l g ad th _ _ _ z1 hst hT ) cV_X11_isPeer wg_1718 ⟨Nat.le_of_ble_eq_true rfl, Nat.le_of_ble_eq_true rfl⟩ hG hE hA hP hD hS (hst.1 255 (by decide)) hf4 rfl rfl hl.1 (As := [.int z1]) (rest := []) rfl (Nat.le_of_ble_eq_true rfl) dX11_peer_7 ⟨Nat.le_of_ble_eq_true rfl, Nat.le_of_ble_eq_true rfl⟩) hA hD hS (fun r6 L7 f8 H locs hp9 hP hD hS => ?_)
  obtain ⟨eL10L, eL10T, eL10R, eL10W0, eL10X0⟩ := hp9
  have eL10L : L7 = L := eL10L
  have eL10T : f8 = f3 := eL10T
  rw [eL10L, eL10T] at hP hD
  have eL10R : In r6 0 1 := eL10R
  have hcl11 : r6.toInt = 0 ∨ th 15 = 1 := eL10X0
  refine lv_if_ne (tgt := 15) hx hb dX11_peer_10 (by decide) (fun c12 => ?_) (fun c12 => ?_)
  ·
    have oc0 : (0 : Int32).toInt = 0 := by decide
    have cc13 : r6.toInt ≠ (0 : Int32).toInt := i32_ne c12
    have hb14 : In r6 1 1 := In.ne1 eL10R (⟨by decide, by decide⟩ : In 0 0 0) cc13 (by decide) (by decide)
    have hb15 : In z1 0 8 := In.both (eL10W0 c12) (In.full z1) (by decide) (by decide)
    refine lv_aload_n hx hb dX11_peer_15 rfl (lv_at hl 0 rfl) ?_
    refine call_v (run_V (rm := rm_X11_takesUp) hx hb hml hown hts (s_X11_takesUp l g ad th _ _ _  hst hT (show (th 22) = 2126 from (by have ob10 : (0 : Int) ≤ (th 10) ∧ (th 10) ≤ 1 := (b0_10 hT :); have ob11 : (0 : Int) ≤ (th 11) ∧ (th 11) ≤ 9 := (b0_11 hT :); have ob12 : (0 : Int) ≤ (th 12) ∧ (th 12) ≤ 6 := (b0_12 hT :); have ob14 : (0 : Int) ≤ (th 14) ∧ (th 14) ≤ 511 := (b0_14 hT :); have ob15 : (0 : Int) ≤ (th 15) ∧ (th 15) ≤ 1 := (b0_15 hT :); have ob16 : (0 : Int) ≤ (th 16) ∧ (th 16) ≤ 20 := (b0_16 hT :); have ob17 : (0 : Int) ≤ (th 17) ∧ (th 17) ≤ 1 := (b0_17 hT :); have ob18 : (0 : Int) ≤ (th 18) ∧ (th 18) ≤ 18 := (b0_18 hT :); have ob38 : (0 : Int) ≤ (th 38) ∧ (th 38) ≤ 400 := (b0_38 hT :); have ob39 : (0 : Int) ≤ (th 39) ∧ (th 39) ≤ 200 := (b0_39 hT :); have ob44 : (0 : Int) ≤ (th 44) ∧ (th 44) ≤ 30 := (b0_44 hT :); have orn := rnd_b (th 10); obtain ⟨o0a, o0b⟩ := (hv14_1 : In _ _ _); obtain ⟨o1a, o1b⟩ := (hv15_1 : In _ _ _); obtain ⟨o2a, o2b⟩ := (hv17_1 : In _ _ _); obtain ⟨o3a, o3b⟩ := (hv20_1 : In _ _ _); obtain ⟨o4a, o4b⟩ := (hv23_1 : In _ _ _); obtain ⟨o5a, o5b⟩ := (hv25_1 : In _ _ _); obtain ⟨o6a, o6b⟩ := (hv36_1 : In _ _ _); obtain ⟨o7a, o7b⟩ := (hv47_1 : In _ _ _); obtain ⟨o8a, o8b⟩ := (hv48_1 : In _ _ _); obtain ⟨o9a, o9b⟩ := (hv53_1 : In _ _ _); obtain ⟨o10a, o10b⟩ := (hv55_1 : In _ _ _); omega)) (show (th 20) ≤ 18 from (by have ob10 : (0 : Int) ≤ (th 10) ∧ (th 10) ≤ 1 := (b0_10 hT :); have ob11 : (0 : Int) ≤ (th 11) ∧ (th 11) ≤ 9 := (b0_11 hT :); have ob12 : (0 : Int) ≤ (th 12) ∧ (th 12) ≤ 6 := (b0_12 hT :); have ob14 : (0 : Int) ≤ (th 14) ∧ (th 14) ≤ 511 := (b0_14 hT :); have ob15 : (0 : Int) ≤ (th 15) ∧ (th 15) ≤ 1 := (b0_15 hT :); have ob16 : (0 : Int) ≤ (th 16) ∧ (th 16) ≤ 20 := (b0_16 hT :); have ob17 : (0 : Int) ≤ (th 17) ∧ (th 17) ≤ 1 := (b0_17 hT :); have ob18 : (0 : Int) ≤ (th 18) ∧ (th 18) ≤ 18 := (b0_18 hT :); have ob38 : (0 : Int) ≤ (th 38) ∧ (th 38) ≤ 400 := (b0_38 hT :); have ob39 : (0 : Int) ≤ (th 39) ∧ (th 39) ≤ 200 := (b0_39 hT :); have ob44 : (0 : Int) ≤ (th 44) ∧ (th 44) ≤ 30 := (b0_44 hT :); have orn := rnd_b (th 10); obtain ⟨o0a, o0b⟩ := (hv14_1 : In _ _ _); obtain ⟨o1a, o1b⟩ := (hv15_1 : In _ _ _); obtain ⟨o2a, o2b⟩ := (hv17_1 : In _ _ _); obtain ⟨o3a, o3b⟩ := (hv20_1 : In _ _ _); obtain ⟨o4a, o4b⟩ := (hv23_1 : In _ _ _); obtain ⟨o5a, o5b⟩ := (hv25_1 : In _ _ _); obtain ⟨o6a, o6b⟩ := (hv36_1 : In _ _ _); obtain ⟨o7a, o7b⟩ := (hv47_1 : In _ _ _); obtain ⟨o8a, o8b⟩ := (hv48_1 : In _ _ _); obtain ⟨o9a, o9b⟩ := (hv53_1 : In _ _ _); obtain ⟨o10a, o10b⟩ := (hv55_1 : In _ _ _); omega)) (show (th 21) = (th 11) from (by have ob10 : (0 : Int) ≤ (th 10) ∧ (th 10) ≤ 1 := (b0_10 hT :); have ob11 : (0 : Int) ≤ (th 11) ∧ (th 11) ≤ 9 := (b0_11 hT :); have ob12 : (0 : Int) ≤ (th 12) ∧ (th 12) ≤ 6 := (b0_12 hT :); have ob14 : (0 : Int) ≤ (th 14) ∧ (th 14) ≤ 511 := (b0_14 hT :); have ob15 : (0 : Int) ≤ (th 15) ∧ (th 15) ≤ 1 := (b0_15 hT :); have ob16 : (0 : Int) ≤ (th 16) ∧ (th 16) ≤ 20 := (b0_16 hT :); have ob17 : (0 : Int) ≤ (th 17) ∧ (th 17) ≤ 1 := (b0_17 hT :); have ob18 : (0 : Int) ≤ (th 18) ∧ (th 18) ≤ 18 := (b0_18 hT :); have ob38 : (0 : Int) ≤ (th 38) ∧ (th 38) ≤ 400 := (b0_38 hT :); have ob39 : (0 : Int) ≤ (th 39) ∧ (th 39) ≤ 200 := (b0_39 hT :); have ob44 : (0 : Int) ≤ (th 44) ∧ (th 44) ≤ 30 := (b0_44 hT :); have orn := rnd_b (th 10); obtain ⟨o0a, o0b⟩ := (hv14_1 : In _ _ _); obtain ⟨o1a, o1b⟩ := (hv15_1 : In _ _ _); obtain ⟨o2a, o2b⟩ := (hv17_1 : In _ _ _); obtain ⟨o3a, o3b⟩ := (hv20_1 : In _ _ _); obtain ⟨o4a, o4b⟩ := (hv23_1 : In _ _ _); obtain ⟨o5a, o5b⟩ := (hv25_1 : In _ _ _); obtain ⟨o6a, o6b⟩ := (hv36_1 : In _ _ _); obtain ⟨o7a, o7b⟩ := (hv47_1 : In _ _ _); obtain ⟨o8a, o8b⟩ := (hv48_1 : In _ _ _); obtain ⟨o9a, o9b⟩ := (hv53_1 : In _ _ _); obtain ⟨o10a, o10b⟩ := (hv55_1 : In _ _ _); omega))) cV_X11_takesUp wg_1648 ⟨Nat.le_of_ble_eq_true rfl, Nat.le_of_ble_eq_true rfl⟩ hG hE hA hP hD hS (hst.1 255 (by decide)) hf4 rfl rfl hl.1 (As := []) (rest := []) rfl (Nat.le_of_ble_eq_true rfl) dX11_peer_16 ⟨Nat.le_of_ble_eq_true rfl, Nat.le_of_ble_eq_true rfl⟩) hA hD hS (fun L17 f18 H locs hp19 hP hD hS => ?_)
    obtain ⟨eL20L, eL20T, eL20F⟩ := hp19
    have eL20L : L17 = L := eL20L
    rw [eL20L] at hP hD
    obtain ⟨zz21, zz22, zz23, hzz21, eL20T⟩ := eL20T
    have hzz21 : ((zz21 = (th 19) ∧ 0 ≤ zz21 ∧ zz21 ≤ (th 20)) ∧ (0 ≤ zz22 ∧ zz22 ≤ 511)) ∧ capI zz22 ((th 11)) := hzz21
    have hT : TI g ad (gset (gset (gset th 18 zz21) 14 zz22) 44 zz23) f18 := eL20T
    have eL20F : ∀ b, b ≠ (ad 255) → b ≠ (ad 265) → b ≠ (ad 266) → b ≠ (ad 267) → b ≠ (ad 269) → b ≠ (ad 260) → b ≠ (ad 261) → b ≠ (ad 262) → b ≠ (ad 263) → b ≠ (ad 264) → f18 b = f3 b := eL20F
    have hfr : (∀ b, b ≠ (ad 255) → b ≠ (ad 265) → b ≠ (ad 266) → b ≠ (ad 267) → b ≠ (ad 269) → b ≠ (ad 260) → b ≠ (ad 261) → b ≠ (ad 262) → b ≠ (ad 263) → b ≠ (ad 264) → f18 b = f b) := fun b z0_ z1_ z2_ z3_ z4_ z5_ z6_ z7_ z8_ z9_ => (eL20F b z0_ z1_ z2_ z3_ z4_ z5_ z6_ z7_ z8_ z9_).trans (hfr b z0_ z1_ z2_ z3_ z4_ z5_ z6_ z7_ z8_ z9_)
    refine lv_iload_n hx hb dX11_peer_19 rfl (lv_at hl 2 rfl) ?_
    by_cases c24 : z2 = 0
    ·
      refine lv_tableIn (off := 32) (tgt := 52) hx hb dX11_peer_20 (by rw [c24]; decide) (by rw [c24]; decide) (by rw [c24]; decide) (by decide) ?_
      have hb25 : In z2 0 0 := by rw [c24]; exact ⟨by decide, by decide⟩
      refine lv_aload_n hx hb dX11_peer_52 rfl (lv_at hl 0 rfl) ?_
      refine M0e hT (fun v0_26 v2_26 v3_26 v4_26 v5_26 v6_26 v8_26 v9_26 v12_26 v13_26 v14_26 v15_26 v16_26 v17_26 v18_26 v19_26 v20_26 v21_26 v22_26 v23_26 v25_26 v36_26 v37_26 v38_26 v39_26 v40_26 v45_26 v46_26 v47_26 v48_26 v50_26 v51_26 v53_26 v55_26 hf27 hv0_26 hv2_26 hg2_26 hv3_26 hg3_26 hv4_26 hg4_26 hv5_26 hg5_26 hv6_26 hg6_26 hv8_26 hg8_26 hv9_26 hg9_26 hv12_26 hv13_26 hg13_26 hv14_26 hg14_26 hv15_26 hg15_26 hv17_26 hg17_26 hv20_26 hg20_26 hv23_26 hg23_26 hv25_26 hg25_26 hv36_26 hg36_26 hv47_26 hg47_26 hv48_26 hg48_26 hv53_26 hg53_26 hv55_26 hg55_26 hrel0_26 => ?_)
      have hg15_26 : v15_26.toInt = th 11 := hg15_26
      have hg17_26 : v17_26.toInt = th 12 := hg17_26
      have hg20_26 : v20_26.toInt = zz22 := hg20_26
      refine pl_get (v := .ref (ad 261)) hx hb hts (fun w h => mT (inX11 w h)) hown hG.1 hP (hst.1 255 (by decide)) hf27 rfl 26 (by decide) (hts _ (mT wg_1362)) (fun _ h => h) rfl dX11_peer_53 ?_
      refine lv_iload_n hx hb dX11_peer_56 rfl (lv_at hl 1 rfl) ?_
      obtain ⟨rw28, hf29⟩ := hT.2.2 6 (by decide)
      have hin30 : vp_in z1 9 := In.inb hb15 (by decide) (by decide)
      refine pl_iald hx hb hG.1 hP (hst.1 261 (by decide)) 0 hf29 rfl hin30 dX11_peer_57 ?_
      refine lv_topi (fun x31 ex31 => ?_)
      exact ret_i (ty := .int) hx hb hr hlocks (rfl) hP hD hS (Nat.le_of_ble_eq_true rfl) (Nat.le_of_ble_eq_true rfl) (⟨rfl, ⟨(gset (gset (gset th 18 zz21) 14 zz22) 44 zz23), ⟨(show MI (gset (gset (gset th 18 zz21) 14 zz22) 44 zz23) from ⟨m1, m2, (show th 20 = (th 12) * rnd (th 10) from m3), m4, m5, m6, m7, m8, m9, m10⟩), (SBM.set (k := 44) (SBM.set (k := 14) (SBM.set (k := 18) (SBM.rf th) (by decide)) (by decide)) (by decide))⟩, hT⟩, hfr⟩) dX11_peer_58
    by_cases c32 : z2 = 1
    ·
      refine lv_tableIn (off := 39) (tgt := 59) hx hb dX11_peer_20 (by rw [c32]; decide) (by rw [c32]; decide) (by rw [c32]; decide) (by decide) ?_
      have hb33 : In z2 1 1 := by rw [c32]; exact ⟨by decide, by decide⟩
      refine lv_aload_n hx hb dX11_peer_59 rfl (lv_at hl 0 rfl) ?_
      refine M0e hT (fun v0_34 v2_34 v3_34 v4_34 v5_34 v6_34 v8_34 v9_34 v12_34 v13_34 v14_34 v15_34 v16_34 v17_34 v18_34 v19_34 v20_34 v21_34 v22_34 v23_34 v25_34 v36_34 v37_34 v38_34 v39_34 v40_34 v45_34 v46_34 v47_34 v48_34 v50_34 v51_34 v53_34 v55_34 hf35 hv0_34 hv2_34 hg2_34 hv3_34 hg3_34 hv4_34 hg4_34 hv5_34 hg5_34 hv6_34 hg6_34 hv8_34 hg8_34 hv9_34 hg9_34 hv12_34 hv13_34 hg13_34 hv14_34 hg14_34 hv15_34 hg15_34 hv17_34 hg17_34 hv20_34 hg20_34 hv23_34 hg23_34 hv25_34 hg25_34 hv36_34 hg36_34 hv47_34 hg47_34 hv48_34 hg48_34 hv53_34 hg53_34 hv55_34 hg55_34 hrel0_34 => ?_)
      have hg15_34 : v15_34.toInt = th 11 := hg15_34
      have hg17_34 : v17_34.toInt = th 12 := hg17_34
      have hg20_34 : v20_34.toInt = zz22 := hg20_34
      refine pl_get (v := .ref (ad 262)) hx hb hts (fun w h => mT (inX11 w h)) hown hG.1 hP (hst.1 255 (by decide)) hf35 rfl 27 (by decide) (hts _ (mT wg_1363)) (fun _ h => h) rfl dX11_peer_60 ?_
      refine lv_iload_n hx hb dX11_peer_63 rfl (lv_at hl 1 rfl) ?_
      obtain ⟨rw36, hf37⟩ := hT.2.2 7 (by decide)
      have hin38 : vp_in z1 9 := In.inb hb15 (by decide) (by decide)
      refine pl_iald hx hb hG.1 hP (hst.1 262 (by decide)) 0 hf37 rfl hin38 dX11_peer_64 ?_
      refine lv_topi (fun x39 ex39 => ?_)
      exact ret_i (ty := .int) hx hb hr hlocks (rfl) hP hD hS (Nat.le_of_ble_eq_true rfl) (Nat.le_of_ble_eq_true rfl) (⟨rfl, ⟨(gset (gset (gset th 18 zz21) 14 zz22) 44 zz23), ⟨(show MI (gset (gset (gset th 18 zz21) 14 zz22) 44 zz23) from ⟨m1, m2, (show th 20 = (th 12) * rnd (th 10) from m3), m4, m5, m6, m7, m8, m9, m10⟩), (SBM.set (k := 44) (SBM.set (k := 14) (SBM.set (k := 18) (SBM.rf th) (by decide)) (by decide)) (by decide))⟩, hT⟩, hfr⟩) dX11_peer_65
    by_cases c40 : z2 = 2
    ·
      refine lv_tableIn (off := 46) (tgt := 66) hx hb dX11_peer_20 (by rw [c40]; decide) (by rw [c40]; decide) (by rw [c40]; decide) (by decide) ?_
      have hb41 : In z2 2 2 := by rw [c40]; exact ⟨by decide, by decide⟩
      refine lv_aload_n hx hb dX11_peer_66 rfl (lv_at hl 0 rfl) ?_
      refine lv_iload_n hx hb dX11_peer_67 rfl (lv_at hl 1 rfl) ?_
      refine M0e hT (fun v0_42 v2_42 v3_42 v4_42 v5_42 v6_42 v8_42 v9_42 v12_42 v13_42 v14_42 v15_42 v16_42 v17_42 v18_42 v19_42 v20_42 v21_42 v22_42 v23_42 v25_42 v36_42 v37_42 v38_42 v39_42 v40_42 v45_42 v46_42 v47_42 v48_42 v50_42 v51_42 v53_42 v55_42 hf43 hv0_42 hv2_42 hg2_42 hv3_42 hg3_42 hv4_42 hg4_42 hv5_42 hg5_42 hv6_42 hg6_42 hv8_42 hg8_42 hv9_42 hg9_42 hv12_42 hv13_42 hg13_42 hv14_42 hg14_42 hv15_42 hg15_42 hv17_42 hg17_42 hv20_42 hg20_42 hv23_42 hg23_42 hv25_42 hg25_42 hv36_42 hg36_42 hv47_42 hg47_42 hv48_42 hg48_42 hv53_42 hg53_42 hv55_42 hg55_42 hrel0_42 => ?_)
      have hg15_42 : v15_42.toInt = th 11 := hg15_42
      have hg17_42 : v17_42.toInt = th 12 := hg17_42
      have hg20_42 : v20_42.toInt = zz22 := hg20_42
      refine call_i (run_V (rm := rm_X11_isLiar) hx hb hml hown hts (s_X11_isLiar l g ad (gset (gset (gset th 18 zz21) 14 zz22) 44 zz23) _ _ _ z1 hst hT ) cV_X11_isLiar wg_1664 ⟨Nat.le_of_ble_eq_true rfl, Nat.le_of_ble_eq_true rfl⟩ hG hE hA hP hD hS (hst.1 255 (by decide)) hf43 rfl rfl hl.1 (As := [.int z1]) (rest := []) rfl (Nat.le_of_ble_eq_true rfl) dX11_peer_68 ⟨Nat.le_of_ble_eq_true rfl, Nat.le_of_ble_eq_true rfl⟩) hA hD hS (fun r44 L45 f46 H locs hp47 hP hD hS => ?_)
      obtain ⟨eL48L, eL48T, eL48R, eL48X0⟩ := hp47
      have eL48L : L45 = L := eL48L
      have eL48T : f46 = f18 := eL48T
      rw [eL48L, eL48T] at hP hD
      have eL48R : In r44 0 1 := eL48R
      have hbl49 : r44.toInt = bitI (zz22) z1.toInt := eL48X0 (In.mono hb15 (by decide) (by decide))
      refine lv_if_eq (tgt := 78) hx hb dX11_peer_71 (by decide) (fun c50 => ?_) (fun c50 => ?_)
      ·
        have oc0 : (0 : Int32).toInt = 0 := by decide
        have cc51 : r44.toInt = (0 : Int32).toInt := congrArg Int32.toInt c50
        have hb52 : In r44 0 0 := In.eq1 eL48R (⟨by decide, by decide⟩ : In 0 0 0) cc51 (by decide) (by decide)
        refine lv_iconst (v := 0) hx hb dX11_peer_78 (by decide) ?_
        exact ret_i (ty := .int) hx hb hr hlocks (rfl) hP hD hS (Nat.le_of_ble_eq_true rfl) (Nat.le_of_ble_eq_true rfl) (⟨rfl, ⟨(gset (gset (gset th 18 zz21) 14 zz22) 44 zz23), ⟨(show MI (gset (gset (gset th 18 zz21) 14 zz22) 44 zz23) from ⟨m1, m2, (show th 20 = (th 12) * rnd (th 10) from m3), m4, m5, m6, m7, m8, m9, m10⟩), (SBM.set (k := 44) (SBM.set (k := 14) (SBM.set (k := 18) (SBM.rf th) (by decide)) (by decide)) (by decide))⟩, hT⟩, hfr⟩) dX11_peer_79
      ·
        have oc0 : (0 : Int32).toInt = 0 := by decide
        have cc53 : r44.toInt ≠ (0 : Int32).toInt := i32_ne c50
        have hb54 : In r44 1 1 := In.ne1 eL48R (⟨by decide, by decide⟩ : In 0 0 0) cc53 (by decide) (by decide)
        refine lv_iconst (v := 1) hx hb dX11_peer_74 (by decide) ?_
        refine lv_goto (tgt := 79) hx hb dX11_peer_75 (by decide) ?_
        exact ret_i (ty := .int) hx hb hr hlocks (rfl) hP hD hS (Nat.le_of_ble_eq_true rfl) (Nat.le_of_ble_eq_true rfl) (⟨rfl, ⟨(gset (gset (gset th 18 zz21) 14 zz22) 44 zz23), ⟨(show MI (gset (gset (gset th 18 zz21) 14 zz22) 44 zz23) from ⟨m1, m2, (show th 20 = (th 12) * rnd (th 10) from m3), m4, m5, m6, m7, m8, m9, m10⟩), (SBM.set (k := 44) (SBM.set (k := 14) (SBM.set (k := 18) (SBM.rf th) (by decide)) (by decide)) (by decide))⟩, hT⟩, hfr⟩) dX11_peer_79
    by_cases c55 : z2 = 3
    ·
      refine lv_tableIn (off := 60) (tgt := 80) hx hb dX11_peer_20 (by rw [c55]; decide) (by rw [c55]; decide) (by rw [c55]; decide) (by decide) ?_
      have hb56 : In z2 3 3 := by rw [c55]; exact ⟨by decide, by decide⟩
      refine lv_aload_n hx hb dX11_peer_80 rfl (lv_at hl 0 rfl) ?_
      refine M0e hT (fun v0_57 v2_57 v3_57 v4_57 v5_57 v6_57 v8_57 v9_57 v12_57 v13_57 v14_57 v15_57 v16_57 v17_57 v18_57 v19_57 v20_57 v21_57 v22_57 v23_57 v25_57 v36_57 v37_57 v38_57 v39_57 v40_57 v45_57 v46_57 v47_57 v48_57 v50_57 v51_57 v53_57 v55_57 hf58 hv0_57 hv2_57 hg2_57 hv3_57 hg3_57 hv4_57 hg4_57 hv5_57 hg5_57 hv6_57 hg6_57 hv8_57 hg8_57 hv9_57 hg9_57 hv12_57 hv13_57 hg13_57 hv14_57 hg14_57 hv15_57 hg15_57 hv17_57 hg17_57 hv20_57 hg20_57 hv23_57 hg23_57 hv25_57 hg25_57 hv36_57 hg36_57 hv47_57 hg47_57 hv48_57 hg48_57 hv53_57 hg53_57 hv55_57 hg55_57 hrel0_57 => ?_)
      have hg15_57 : v15_57.toInt = th 11 := hg15_57
      have hg17_57 : v17_57.toInt = th 12 := hg17_57
      have hg20_57 : v20_57.toInt = zz22 := hg20_57
      refine pl_get (v := .int v19_57) hx hb hts (fun w h => mT (inX11 w h)) hown hG.1 hP (hst.1 255 (by decide)) hf58 rfl 19 (by decide) (hts _ (mT wg_1355)) (fun _ h => h) rfl dX11_peer_81 ?_
      refine lv_iload_n hx hb dX11_peer_84 rfl (lv_at hl 1 rfl) ?_
      refine lv_ishr hx hb dX11_peer_85 ?_
      refine lv_topi (fun x59 ex59 => ?_)
      refine lv_iconst (v := 1) hx hb dX11_peer_86 (by decide) ?_
      refine lv_iand hx hb dX11_peer_87 ?_
      refine lv_topi (fun x60 ex60 => ?_)
      have hb61 : In x60 0 1 := ex60 ▸ In.andr (⟨by decide, by decide⟩ : In 1 1 1) (by decide)
      exact ret_i (ty := .int) hx hb hr hlocks (rfl) hP hD hS (Nat.le_of_ble_eq_true rfl) (Nat.le_of_ble_eq_true rfl) (⟨rfl, ⟨(gset (gset (gset th 18 zz21) 14 zz22) 44 zz23), ⟨(show MI (gset (gset (gset th 18 zz21) 14 zz22) 44 zz23) from ⟨m1, m2, (show th 20 = (th 12) * rnd (th 10) from m3), m4, m5, m6, m7, m8, m9, m10⟩), (SBM.set (k := 44) (SBM.set (k := 14) (SBM.set (k := 18) (SBM.rf th) (by decide)) (by decide)) (by decide))⟩, hT⟩, hfr⟩) dX11_peer_88
    refine lv_tableOut (tgt := 89) hx hb dX11_peer_20 (tb_out (by decide) (by decide) (fun k h1 h2 => ?_)) (by decide) ?_
    · rcases (show k = 0 ∨ k = 1 ∨ k = 2 ∨ k = 3 by omega) with rfl | rfl | rfl | rfl
      · exact fun e => c24 (e.trans (by decide))
      · exact fun e => c32 (e.trans (by decide))
      · exact fun e => c40 (e.trans (by decide))
      · exact fun e => c55 (e.trans (by decide))
    ·
      have csc24 : z2.toInt ≠ 0 := fun e => i32_ne c24 (e.trans (by decide))
      have csc32 : z2.toInt ≠ 1 := fun e => i32_ne c32 (e.trans (by decide))
      have csc40 : z2.toInt ≠ 2 := fun e => i32_ne c40 (e.trans (by decide))
      have csc55 : z2.toInt ≠ 3 := fun e => i32_ne c55 (e.trans (by decide))
      refine lv_iconst (v := (-1)) hx hb dX11_peer_89 (by decide) ?_
      exact ret_i (ty := .int) hx hb hr hlocks (rfl) hP hD hS (Nat.le_of_ble_eq_true rfl) (Nat.le_of_ble_eq_true rfl) (⟨rfl, ⟨(gset (gset (gset th 18 zz21) 14 zz22) 44 zz23), ⟨(show MI (gset (gset (gset th 18 zz21) 14 zz22) 44 zz23) from ⟨m1, m2, (show th 20 = (th 12) * rnd (th 10) from m3), m4, m5, m6, m7, m8, m9, m10⟩), (SBM.set (k := 44) (SBM.set (k := 14) (SBM.set (k := 18) (SBM.rf th) (by decide)) (by decide)) (by decide))⟩, hT⟩, hfr⟩) dX11_peer_90
  ·
    have oc0 : (0 : Int32).toInt = 0 := by decide
    have cc62 : r6.toInt = (0 : Int32).toInt := congrArg Int32.toInt c12
    have hb63 : In r6 0 0 := In.eq1 eL10R (⟨by decide, by decide⟩ : In 0 0 0) cc62 (by decide) (by decide)
    refine lv_iconst (v := (-1)) hx hb dX11_peer_13 (by decide) ?_
    exact ret_i (ty := .int) hx hb hr hlocks (rfl) hP hD hS (Nat.le_of_ble_eq_true rfl) (Nat.le_of_ble_eq_true rfl) (⟨rfl, ⟨th, ⟨(show MI th from hM), (SBM.rf th)⟩, hT⟩, hfr⟩) dX11_peer_14

abbrev rm_X11_say : Room := { frames := 2, cells := 0, slots := 0, locals := 47 }
abbrev po_X11_say (g : GG) (ad : Nat → Nat) (th : Nat → Int) (L : List Nat) (f : HP) (z1 : Int32) (z2 : Int32) (z3 : Int32) (z4 : Int32) (z5 : Int32) : Int32 → (List Nat × HP) → Prop := fun r u => u.1 = L ∧ (∃ th' : Nat → Int, (MI th' ∧ SBM th th') ∧ TI g ad th' u.2)
set_option maxHeartbeats 4000000 in
set_option maxRecDepth 100000 in
theorem s_X11_say (l : Launch) (g : GG) (ad : Nat → Nat) (th : Nat → Int) (L : List Nat) (f : HP) (sz : Nat) (z1 : Int32) (z2 : Int32) (z3 : Int32) (z4 : Int32) (z5 : Int32) (hst : ST ad L) (hT : TI g ad th f) (hM : MI th) : MtI l g yX11_say cX11_say 7 (some .int) rm_X11_say [.ref (ad 255), .int z1, .int z2, .int z3, .int z4, .int z5] L f sz (po_X11_say g ad th L f z1 z2 z3 z4 z5) := by
  refine MtI.of (by decide +kernel) (Nat.le_of_ble_eq_true rfl) ?_
  intro p e s m below meth c A hEn hP hD hS ls hl
  obtain ⟨hx, hb, hr, hml, hown, hlocks, hts, hG, hA, hE, hnm⟩ := hEn
  have hown : s.vm.findClass "RulerWordModel" = some m.cls := hown
  have hl : lv_has ls 7 [(0, .ref (ad 255)), (1, .int z1), (2, .int z2), (3, .int z3), (4, .int z4), (5, .int z5)] := hl
  have hM0 := hM
  obtain ⟨m1, m2, m3, m4, m5, m6, m7, m8, m9, m10⟩ := hM0
  have m20 := mi20 m2 m3
  refine lv_aload_n hx hb dX11_say_0 rfl (lv_at hl 0 rfl) ?_
  refine lv_iconst (v := 0) hx hb dX11_say_1 (by decide) ?_
  refine M0e hT (fun v0_1 v2_1 v3_1 v4_1 v5_1 v6_1 v8_1 v9_1 v12_1 v13_1 v14_1 v15_1 v16_1 v17_1 v18_1 v19_1 v20_1 v21_1 v22_1 v23_1 v25_1 v36_1 v37_1 v38_1 v39_1 v40_1 v45_1 v46_1 v47_1 v48_1 v50_1 v51_1 v53_1 v55_1 hf2 hv0_1 hv2_1 hg2_1 hv3_1 hg3_1 hv4_1 hg4_1 hv5_1 hg5_1 hv6_1 hg6_1 hv8_1 hg8_1 hv9_1 hg9_1 hv12_1 hv13_1 hg13_1 hv14_1 hg14_1 hv15_1 hg15_1 hv17_1 hg17_1 hv20_1 hg20_1 hv23_1 hg23_1 hv25_1 hg25_1 hv36_1 hg36_1 hv47_1 hg47_1 hv48_1 hg48_1 hv53_1 hg53_1 hv55_1 hg55_1 hrel0_1 => ?_)
  have hg15_1 : v15_1.toInt = th 11 := hg15_1
  have hg17_1 : v17_1.toInt = th 12 := hg17_1
  have hg20_1 : v20_1.toInt = th 14 := hg20_1
  refine pl_put (ty := .int) (v := .int 0) (fs' := [.int 0, .ref (ad 256), .int v2_1, .int v3_1, .int v4_1, .int v5_1, .int v6_1, .ref (ad 257), .int v8_1, .int v9_1, .ref (ad 258), .ref (ad 259), .int v12_1, .int v13_1, .int v14_1, .int v15_1, .int v16_1, .int v17_1, .int v18_1, .int v19_1, .int v20_1, .long v21_1, .long v22_1, .int v23_1, .ref (ad 260), .int v25_1, .ref (ad 261), .ref (ad 262), .ref (ad 263), .ref (ad 264), .ref (ad 265), .ref (ad 266), .ref (ad 267), .ref (ad 268), .ref (ad 269), .ref (ad 270), .int v36_1, .int v37_1, .int v38_1, .int v39_1, .int v40_1, .ref (ad 271), .ref (ad 272), .ref (ad 273), .ref (ad 274), .long v45_1, .long v46_1, .int v47_1, .int v48_1, .ref (ad 275), .int v50_1, .int v51_1, .ref (ad 276), .int v53_1, .ref (ad 277), .int v55_1]) hx hb hts (fun w h => mT (inX11 w h)) tyX11 tyX11_ok nmX11 hown hG.1 hP hD hS (hst.1 255 (by decide)) hf2 rfl 0 (by decide) (hts _ (mT wg_1336)) (fun _ h => h) rfl (by decide +kernel) (rfl) (rfl) (Nat.le_of_ble_eq_true rfl) rfl dX11_say_2 (fun H locs f3 hf4 ho5 hP hD hS => ?_)
  refine lv_aload_n hx hb dX11_say_5 rfl (lv_at hl 0 rfl) ?_
  refine pl_get (v := .int v23_1) hx hb hts (fun w h => mT (inX11 w h)) hown hG.1 hP (hst.1 255 (by decide)) hf4 rfl 23 (by decide) (hts _ (mT wg_1359)) (fun _ h => h) rfl dX11_say_6 ?_
  have hg23_1 : v23_1.toInt = th 15 := hg23_1
  have hT := TI.updM hT hst (k := 0) (by decide) hf4 ho5 ⟨0, v2_1, v3_1, v4_1, v5_1, v6_1, v8_1, v9_1, v12_1, v13_1, v14_1, v15_1, v16_1, v17_1, v18_1, v19_1, v20_1, v21_1, v22_1, v23_1, v25_1, v36_1, v37_1, v38_1, v39_1, v40_1, v45_1, v46_1, v47_1, v48_1, v50_1, v51_1, v53_1, v55_1, rfl, (⟨by decide, by decide⟩ : In 0 0 1), hv2_1, hg2_1, hv3_1, hg3_1, hv4_1, hg4_1, hv5_1, hg5_1, hv6_1, hg6_1, hv8_1, hg8_1, hv9_1, hg9_1, hv12_1, hv13_1, hg13_1, hv14_1, hg14_1, hv15_1, hg15_1, hv17_1, hg17_1, hv20_1, hg20_1, hv23_1, hg23_1, hv25_1, hg25_1, hv36_1, hg36_1, hv47_1, hg47_1, hv48_1, hg48_1, hv53_1, hg53_1, hv55_1, hg55_1, hrel0_1⟩
  refine lv_if_ne (tgt := 18) hx hb dX11_say_9 (by decide) (fun c6 => ?_) (fun c6 => ?_)
  ·
    have oc0 : (0 : Int32).toInt = 0 := by decide
    have cc7 : v23_1.toInt ≠ (0 : Int32).toInt := i32_ne c6
    have hb8 : In v23_1 1 1 := In.ne1 hv23_1 (⟨by decide, by decide⟩ : In 0 0 0) cc7 (by decide) (by decide)
    refine lv_aload_n hx hb dX11_say_18 rfl (lv_at hl 0 rfl) ?_
    refine lv_iload_n hx hb dX11_say_19 rfl (lv_at hl 1 rfl) ?_
    refine lv_iload_n hx hb dX11_say_20 rfl (lv_at hl 2 rfl) ?_
    refine call_i (run_V (rm := rm_X11_isRound) hx hb hml hown hts (s_X11_isRound l g ad th _ _ _ z1 z2 hst hT ) cV_X11_isRound wg_1714 ⟨Nat.le_of_ble_eq_true rfl, Nat.le_of_ble_eq_true rfl⟩ hG hE hA hP hD hS (hst.1 255 (by decide)) hf4 rfl rfl hl.1 (As := [.int z1, .int z2]) (rest := []) rfl (Nat.le_of_ble_eq_true rfl) dX11_say_21 ⟨Nat.le_of_ble_eq_true rfl, Nat.le_of_ble_eq_true rfl⟩) hA hD hS (fun r9 L10 f11 H locs hp12 hP hD hS => ?_)
    obtain ⟨eL13L, eL13T, eL13R, eL13W0, eL13W1, eL13X0⟩ := hp12
    have eL13L : L10 = L := eL13L
    have eL13T : f11 = f3 := eL13T
    rw [eL13L, eL13T] at hP hD
    have eL13R : In r9 0 1 := eL13R
    have hcl14 : r9.toInt = 0 ∨ th 15 = 1 := eL13X0
    have hJ57 : ∀ (H : Heap) (locs : List Loc) (ls : Array Slot), va_P g.1 vwCl (va_pl L f3) H → va_D A (va_pl L f3) → va_S A s.heap H locs → lv_has ls 7 [(0, .ref (ad 255)), (1, .int z1), (2, .int z2), (3, .int z3), (4, .int z4), (5, .int z5)] → W p l e rm_X11_say s m [.ref (ad 255), .int z1, .int z2, .int z3, .int z4, .int z5].toArray below meth c H locs 0 0 (MQ below (va_Qi (po_X11_say g ad th L f z1 z2 z3 z4 z5) (PstB g A) A) [.ref (ad 255), .int z1, .int z2, .int z3, .int z4, .int z5].toArray s rm_X11_say.cells rm_X11_say.slots A) (F0 m 57 ls []) := by
      intro H locs ls hP hD hS hl
      refine lv_aload_n hx hb dX11_say_57 rfl (lv_at hl 0 rfl) ?_
      refine lv_iconst (v := 1) hx hb dX11_say_58 (by decide) ?_
      refine call_i (run_V (rm := rm_X11_refuse) hx hb hml hown hts (s_X11_refuse l g ad th _ _ _ 1 hst hT (⟨by decide, by decide⟩ : In 1 0 4)) cV_X11_refuse wg_1710 ⟨Nat.le_of_ble_eq_true rfl, Nat.le_of_ble_eq_true rfl⟩ hG hE hA hP hD hS (hst.1 255 (by decide)) hf4 rfl rfl hl.1 (As := [.int 1]) (rest := []) rfl (Nat.le_of_ble_eq_true rfl) dX11_say_59 ⟨Nat.le_of_ble_eq_true rfl, Nat.le_of_ble_eq_true rfl⟩) hA hD hS (fun r15 L16 f17 H locs hp18 hP hD hS => ?_)
      obtain ⟨eL19L, eL19T, eL19F⟩ := hp18
      have eL19L : L16 = L := eL19L
      rw [eL19L] at hP hD
      have hT : TI g ad th f17 := eL19T
      have eL19F : ∀ b, b ≠ (ad 275) → f17 b = f3 b := eL19F
      have hf20 := (eL19F (ad 255) (hst.ne (by decide) (by decide) (by decide))).trans hf4
      exact ret_i (ty := .int) hx hb hr hlocks (rfl) hP hD hS (Nat.le_of_ble_eq_true rfl) (Nat.le_of_ble_eq_true rfl) (⟨rfl, ⟨th, ⟨(show MI th from hM), (SBM.rf th)⟩, hT⟩⟩) dX11_say_62
    refine lv_if_eq (tgt := 57) hx hb dX11_say_24 (by decide) (fun c21 => ?_) (fun c21 => ?_)
    ·
      have oc0 : (0 : Int32).toInt = 0 := by decide
      have cc22 : r9.toInt = (0 : Int32).toInt := congrArg Int32.toInt c21
      have hb23 : In r9 0 0 := In.eq1 eL13R (⟨by decide, by decide⟩ : In 0 0 0) cc22 (by decide) (by decide)
      exact hJ57 _ _ _ hP hD hS (lv_sub hl [0, 1, 2, 3, 4, 5] rfl)
    ·
      have oc0 : (0 : Int32).toInt = 0 := by decide
      have cc24 : r9.toInt ≠ (0 : Int32).toInt := i32_ne c21
      have hb25 : In r9 1 1 := In.ne1 eL13R (⟨by decide, by decide⟩ : In 0 0 0) cc24 (by decide) (by decide)
      have hb26 : In z1 0 5 := In.both (eL13W0 c21) (In.full z1) (by decide) (by decide)
      have hb27 : In z2 0 2 := In.both (eL13W1 c21) (In.full z2) (by decide) (by decide)
      refine lv_aload_n hx hb dX11_say_27 rfl (lv_at hl 0 rfl) ?_
      refine lv_iload_n hx hb dX11_say_28 rfl (lv_at hl 3 rfl) ?_
      refine call_i (run_V (rm := rm_X11_isPeer) hx hb hml hown hts (s_X11_isPeer l g ad th _ _ _ z3 hst hT ) cV_X11_isPeer wg_1718 ⟨Nat.le_of_ble_eq_true rfl, Nat.le_of_ble_eq_true rfl⟩ hG hE hA hP hD hS (hst.1 255 (by decide)) hf4 rfl rfl hl.1 (As := [.int z3]) (rest := []) rfl (Nat.le_of_ble_eq_true rfl) dX11_say_29 ⟨Nat.le_of_ble_eq_true rfl, Nat.le_of_ble_eq_true rfl⟩) hA hD hS (fun r28 L29 f30 H locs hp31 hP hD hS => ?_)
      obtain ⟨eL32L, eL32T, eL32R, eL32W0, eL32X0⟩ := hp31
      have eL32L : L29 = L := eL32L
      have eL32T : f30 = f3 := eL32T
      rw [eL32L, eL32T] at hP hD
      have eL32R : In r28 0 1 := eL32R
      have hcl33 : r28.toInt = 0 ∨ th 15 = 1 := eL32X0
      refine lv_if_eq (tgt := 57) hx hb dX11_say_32 (by decide) (fun c34 => ?_) (fun c34 => ?_)
      ·
        have oc0 : (0 : Int32).toInt = 0 := by decide
        have cc35 : r28.toInt = (0 : Int32).toInt := congrArg Int32.toInt c34
        have hb36 : In r28 0 0 := In.eq1 eL32R (⟨by decide, by decide⟩ : In 0 0 0) cc35 (by decide) (by decide)
        exact hJ57 _ _ _ hP hD hS (lv_sub hl [0, 1, 2, 3, 4, 5] rfl)
      ·
        have oc0 : (0 : Int32).toInt = 0 := by decide
        have cc37 : r28.toInt ≠ (0 : Int32).toInt := i32_ne c34
        have hb38 : In r28 1 1 := In.ne1 eL32R (⟨by decide, by decide⟩ : In 0 0 0) cc37 (by decide) (by decide)
        have hb39 : In z3 0 8 := In.both (eL32W0 c34) (In.full z3) (by decide) (by decide)
        refine lv_aload_n hx hb dX11_say_35 rfl (lv_at hl 0 rfl) ?_
        refine lv_iload hx hb dX11_say_36 (lv_at hl 4 rfl) ?_
        refine call_i (run_V (rm := rm_X11_isPeer) hx hb hml hown hts (s_X11_isPeer l g ad th _ _ _ z4 hst hT ) cV_X11_isPeer wg_1718 ⟨Nat.le_of_ble_eq_true rfl, Nat.le_of_ble_eq_true rfl⟩ hG hE hA hP hD hS (hst.1 255 (by decide)) hf4 rfl rfl hl.1 (As := [.int z4]) (rest := []) rfl (Nat.le_of_ble_eq_true rfl) dX11_say_38 ⟨Nat.le_of_ble_eq_true rfl, Nat.le_of_ble_eq_true rfl⟩) hA hD hS (fun r40 L41 f42 H locs hp43 hP hD hS => ?_)
        obtain ⟨eL44L, eL44T, eL44R, eL44W0, eL44X0⟩ := hp43
        have eL44L : L41 = L := eL44L
        have eL44T : f42 = f3 := eL44T
        rw [eL44L, eL44T] at hP hD
        have eL44R : In r40 0 1 := eL44R
        have hcl45 : r40.toInt = 0 ∨ th 15 = 1 := eL44X0
        refine lv_if_eq (tgt := 57) hx hb dX11_say_41 (by decide) (fun c46 => ?_) (fun c46 => ?_)
        ·
          have oc0 : (0 : Int32).toInt = 0 := by decide
          have cc47 : r40.toInt = (0 : Int32).toInt := congrArg Int32.toInt c46
          have hb48 : In r40 0 0 := In.eq1 eL44R (⟨by decide, by decide⟩ : In 0 0 0) cc47 (by decide) (by decide)
          exact hJ57 _ _ _ hP hD hS (lv_sub hl [0, 1, 2, 3, 4, 5] rfl)
        ·
          have oc0 : (0 : Int32).toInt = 0 := by decide
          have cc49 : r40.toInt ≠ (0 : Int32).toInt := i32_ne c46
          have hb50 : In r40 1 1 := In.ne1 eL44R (⟨by decide, by decide⟩ : In 0 0 0) cc49 (by decide) (by decide)
          have hb51 : In z4 0 8 := In.both (eL44W0 c46) (In.full z4) (by decide) (by decide)
          refine lv_iload hx hb dX11_say_44 (lv_at hl 5 rfl) ?_
          refine lv_i2l hx hb dX11_say_46 rfl ?_
          refine lv_lconst (v := 0) hx hb dX11_say_47 (by decide) ?_
          refine lv_ldc2 hx hb hown (hts _ (mT wg_1722)) dX11_say_48 ?_
          refine call_i (run_S (rm := rm_X11_isIn) hx hb hml hown hts (s_X11_isIn l g ad th _ _ _ (z5.toInt64) 0 2 hst hT ) cS_X11_isIn wg_1581 ⟨Nat.le_of_ble_eq_true rfl, Nat.le_of_ble_eq_true rfl⟩ hG hE hA hP hD hS rfl hl.1 (As := [.long (z5.toInt64), .long 0, .long 2]) (rest := []) rfl (Nat.le_of_ble_eq_true rfl) dX11_say_51 ⟨Nat.le_of_ble_eq_true rfl, Nat.le_of_ble_eq_true rfl⟩) hA hD hS (fun r52 L53 f54 H locs hp55 hP hD hS => ?_)
          obtain ⟨eL56L, eL56T, eL56R, eL56X0, eL56X1⟩ := hp55
          have eL56L : L53 = L := eL56L
          have eL56T : f54 = f3 := eL56T
          rw [eL56L, eL56T] at hP hD
          have eL56R : In r52 0 1 := eL56R
          have hii57 : r52.toInt = 0 ∨ (0 ≤ z5.toInt ∧ z5.toInt ≤ 2) := by have z := eL56X0; rw [i2l_t z5, (by decide : (0 : Int64).toInt = 0), (by decide : (2 : Int64).toInt = 2)] at z; exact z
          have hii57w : ¬ r52 = 0 → In z5 0 2 := fun c => by have c2 := i32_ne c; have e0 : (0 : Int32).toInt = 0 := (by decide); exact ⟨by omega, by omega⟩
          refine lv_if_ne (tgt := 63) hx hb dX11_say_54 (by decide) (fun c58 => ?_) (fun c58 => ?_)
          ·
            have oc0 : (0 : Int32).toInt = 0 := by decide
            have cc59 : r52.toInt ≠ (0 : Int32).toInt := i32_ne c58
            have hb60 : In r52 1 1 := In.ne1 eL56R (⟨by decide, by decide⟩ : In 0 0 0) cc59 (by decide) (by decide)
            have hb61 : In z5 0 2 := In.both (hii57w c58) (In.full z5) (by decide) (by decide)
            refine lv_aload_n hx hb dX11_say_63 rfl (lv_at hl 0 rfl) ?_
            refine call_v (run_V (rm := rm_X11_takesUp) hx hb hml hown hts (s_X11_takesUp l g ad th _ _ _  hst hT (show (th 22) = 2126 from (by have ob10 : (0 : Int) ≤ (th 10) ∧ (th 10) ≤ 1 := (b0_10 hT :); have ob11 : (0 : Int) ≤ (th 11) ∧ (th 11) ≤ 9 := (b0_11 hT :); have ob12 : (0 : Int) ≤ (th 12) ∧ (th 12) ≤ 6 := (b0_12 hT :); have ob14 : (0 : Int) ≤ (th 14) ∧ (th 14) ≤ 511 := (b0_14 hT :); have ob15 : (0 : Int) ≤ (th 15) ∧ (th 15) ≤ 1 := (b0_15 hT :); have ob16 : (0 : Int) ≤ (th 16) ∧ (th 16) ≤ 20 := (b0_16 hT :); have ob17 : (0 : Int) ≤ (th 17) ∧ (th 17) ≤ 1 := (b0_17 hT :); have ob18 : (0 : Int) ≤ (th 18) ∧ (th 18) ≤ 18 := (b0_18 hT :); have ob38 : (0 : Int) ≤ (th 38) ∧ (th 38) ≤ 400 := (b0_38 hT :); have ob39 : (0 : Int) ≤ (th 39) ∧ (th 39) ≤ 200 := (b0_39 hT :); have ob44 : (0 : Int) ≤ (th 44) ∧ (th 44) ≤ 30 := (b0_44 hT :); have orn := rnd_b (th 10); obtain ⟨o0a, o0b⟩ := (hv14_1 : In _ _ _); obtain ⟨o1a, o1b⟩ := (hv15_1 : In _ _ _); obtain ⟨o2a, o2b⟩ := (hv17_1 : In _ _ _); obtain ⟨o3a, o3b⟩ := (hv20_1 : In _ _ _); obtain ⟨o4a, o4b⟩ := (hb8 : In _ _ _); obtain ⟨o5a, o5b⟩ := (hv25_1 : In _ _ _); obtain ⟨o6a, o6b⟩ := (hv36_1 : In _ _ _); obtain ⟨o7a, o7b⟩ := (hv47_1 : In _ _ _); obtain ⟨o8a, o8b⟩ := (hv48_1 : In _ _ _); obtain ⟨o9a, o9b⟩ := (hv53_1 : In _ _ _); obtain ⟨o10a, o10b⟩ := (hv55_1 : In _ _ _); omega)) (show (th 20) ≤ 18 from (by have ob10 : (0 : Int) ≤ (th 10) ∧ (th 10) ≤ 1 := (b0_10 hT :); have ob11 : (0 : Int) ≤ (th 11) ∧ (th 11) ≤ 9 := (b0_11 hT :); have ob12 : (0 : Int) ≤ (th 12) ∧ (th 12) ≤ 6 := (b0_12 hT :); have ob14 : (0 : Int) ≤ (th 14) ∧ (th 14) ≤ 511 := (b0_14 hT :); have ob15 : (0 : Int) ≤ (th 15) ∧ (th 15) ≤ 1 := (b0_15 hT :); have ob16 : (0 : Int) ≤ (th 16) ∧ (th 16) ≤ 20 := (b0_16 hT :); have ob17 : (0 : Int) ≤ (th 17) ∧ (th 17) ≤ 1 := (b0_17 hT :); have ob18 : (0 : Int) ≤ (th 18) ∧ (th 18) ≤ 18 := (b0_18 hT :); have ob38 : (0 : Int) ≤ (th 38) ∧ (th 38) ≤ 400 := (b0_38 hT :); have ob39 : (0 : Int) ≤ (th 39) ∧ (th 39) ≤ 200 := (b0_39 hT :); have ob44 : (0 : Int) ≤ (th 44) ∧ (th 44) ≤ 30 := (b0_44 hT :); have orn := rnd_b (th 10); obtain ⟨o0a, o0b⟩ := (hv14_1 : In _ _ _); obtain ⟨o1a, o1b⟩ := (hv15_1 : In _ _ _); obtain ⟨o2a, o2b⟩ := (hv17_1 : In _ _ _); obtain ⟨o3a, o3b⟩ := (hv20_1 : In _ _ _); obtain ⟨o4a, o4b⟩ := (hb8 : In _ _ _); obtain ⟨o5a, o5b⟩ := (hv25_1 : In _ _ _); obtain ⟨o6a, o6b⟩ := (hv36_1 : In _ _ _); obtain ⟨o7a, o7b⟩ := (hv47_1 : In _ _ _); obtain ⟨o8a, o8b⟩ := (hv48_1 : In _ _ _); obtain ⟨o9a, o9b⟩ := (hv53_1 : In _ _ _); obtain ⟨o10a, o10b⟩ := (hv55_1 : In _ _ _); omega)) (show (th 21) = (th 11) from (by have ob10 : (0 : Int) ≤ (th 10) ∧ (th 10) ≤ 1 := (b0_10 hT :); have ob11 : (0 : Int) ≤ (th 11) ∧ (th 11) ≤ 9 := (b0_11 hT :); have ob12 : (0 : Int) ≤ (th 12) ∧ (th 12) ≤ 6 := (b0_12 hT :); have ob14 : (0 : Int) ≤ (th 14) ∧ (th 14) ≤ 511 := (b0_14 hT :); have ob15 : (0 : Int) ≤ (th 15) ∧ (th 15) ≤ 1 := (b0_15 hT :); have ob16 : (0 : Int) ≤ (th 16) ∧ (th 16) ≤ 20 := (b0_16 hT :); have ob17 : (0 : Int) ≤ (th 17) ∧ (th 17) ≤ 1 := (b0_17 hT :); have ob18 : (0 : Int) ≤ (th 18) ∧ (th 18) ≤ 18 := (b0_18 hT :); have ob38 : (0 : Int) ≤ (th 38) ∧ (th 38) ≤ 400 := (b0_38 hT :); have ob39 : (0 : Int) ≤ (th 39) ∧ (th 39) ≤ 200 := (b0_39 hT :); have ob44 : (0 : Int) ≤ (th 44) ∧ (th 44) ≤ 30 := (b0_44 hT :); have orn := rnd_b (th 10); obtain ⟨o0a, o0b⟩ := (hv14_1 : In _ _ _); obtain ⟨o1a, o1b⟩ := (hv15_1 : In _ _ _); obtain ⟨o2a, o2b⟩ := (hv17_1 : In _ _ _); obtain ⟨o3a, o3b⟩ := (hv20_1 : In _ _ _); obtain ⟨o4a, o4b⟩ := (hb8 : In _ _ _); obtain ⟨o5a, o5b⟩ := (hv25_1 : In _ _ _); obtain ⟨o6a, o6b⟩ := (hv36_1 : In _ _ _); obtain ⟨o7a, o7b⟩ := (hv47_1 : In _ _ _); obtain ⟨o8a, o8b⟩ := (hv48_1 : In _ _ _); obtain ⟨o9a, o9b⟩ := (hv53_1 : In _ _ _); obtain ⟨o10a, o10b⟩ := (hv55_1 : In _ _ _); omega))) cV_X11_takesUp wg_1648 ⟨Nat.le_of_ble_eq_true rfl, Nat.le_of_ble_eq_true rfl⟩ hG hE hA hP hD hS (hst.1 255 (by decide)) hf4 rfl rfl hl.1 (As := []) (rest := []) rfl (Nat.le_of_ble_eq_true rfl) dX11_say_64 ⟨Nat.le_of_ble_eq_true rfl, Nat.le_of_ble_eq_true rfl⟩) hA hD hS (fun L63 f64 H locs hp65 hP hD hS => ?_)
            obtain ⟨eL66L, eL66T, eL66F⟩ := hp65
            have eL66L : L63 = L := eL66L
            rw [eL66L] at hP hD
            obtain ⟨zz67, zz68, zz69, hzz67, eL66T⟩ := eL66T
            have hzz67 : ((zz67 = (th 19) ∧ 0 ≤ zz67 ∧ zz67 ≤ (th 20)) ∧ (0 ≤ zz68 ∧ zz68 ≤ 511)) ∧ capI zz68 ((th 11)) := hzz67
            have hT : TI g ad (gset (gset (gset th 18 zz67) 14 zz68) 44 zz69) f64 := eL66T
            have eL66F : ∀ b, b ≠ (ad 255) → b ≠ (ad 265) → b ≠ (ad 266) → b ≠ (ad 267) → b ≠ (ad 269) → b ≠ (ad 260) → b ≠ (ad 261) → b ≠ (ad 262) → b ≠ (ad 263) → b ≠ (ad 264) → f64 b = f3 b := eL66F
            refine lv_aload_n hx hb dX11_say_67 rfl (lv_at hl 0 rfl) ?_
            refine lv_iload_n hx hb dX11_say_68 rfl (lv_at hl 3 rfl) ?_
            refine M0e hT (fun v0_70 v2_70 v3_70 v4_70 v5_70 v6_70 v8_70 v9_70 v12_70 v13_70 v14_70 v15_70 v16_70 v17_70 v18_70 v19_70 v20_70 v21_70 v22_70 v23_70 v25_70 v36_70 v37_70 v38_70 v39_70 v40_70 v45_70 v46_70 v47_70 v48_70 v50_70 v51_70 v53_70 v55_70 hf71 hv0_70 hv2_70 hg2_70 hv3_70 hg3_70 hv4_70 hg4_70 hv5_70 hg5_70 hv6_70 hg6_70 hv8_70 hg8_70 hv9_70 hg9_70 hv12_70 hv13_70 hg13_70 hv14_70 hg14_70 hv15_70 hg15_70 hv17_70 hg17_70 hv20_70 hg20_70 hv23_70 hg23_70 hv25_70 hg25_70 hv36_70 hg36_70 hv47_70 hg47_70 hv48_70 hg48_70 hv53_70 hg53_70 hv55_70 hg55_70 hrel0_70 => ?_)
            have hg15_70 : v15_70.toInt = th 11 := hg15_70
            have hg17_70 : v17_70.toInt = th 12 := hg17_70
            have hg20_70 : v20_70.toInt = zz68 := hg20_70
            refine call_i (run_V (rm := rm_X11_isLiar) hx hb hml hown hts (s_X11_isLiar l g ad (gset (gset (gset th 18 zz67) 14 zz68) 44 zz69) _ _ _ z3 hst hT ) cV_X11_isLiar wg_1664 ⟨Nat.le_of_ble_eq_true rfl, Nat.le_of_ble_eq_true rfl⟩ hG hE hA hP hD hS (hst.1 255 (by decide)) hf71 rfl rfl hl.1 (As := [.int z3]) (rest := []) rfl (Nat.le_of_ble_eq_true rfl) dX11_say_69 ⟨Nat.le_of_ble_eq_true rfl, Nat.le_of_ble_eq_true rfl⟩) hA hD hS (fun r72 L73 f74 H locs hp75 hP hD hS => ?_)
            obtain ⟨eL76L, eL76T, eL76R, eL76X0⟩ := hp75
            have eL76L : L73 = L := eL76L
            have eL76T : f74 = f64 := eL76T
            rw [eL76L, eL76T] at hP hD
            have eL76R : In r72 0 1 := eL76R
            have hbl77 : r72.toInt = bitI (zz68) z3.toInt := eL76X0 (In.mono hb39 (by decide) (by decide))
            refine lv_if_ne (tgt := 81) hx hb dX11_say_72 (by decide) (fun c78 => ?_) (fun c78 => ?_)
            ·
              have oc0 : (0 : Int32).toInt = 0 := by decide
              have cc79 : r72.toInt ≠ (0 : Int32).toInt := i32_ne c78
              have hb80 : In r72 1 1 := In.ne1 eL76R (⟨by decide, by decide⟩ : In 0 0 0) cc79 (by decide) (by decide)
              refine lv_aload_n hx hb dX11_say_81 rfl (lv_at hl 0 rfl) ?_
              refine call_i (run_V (rm := rm_X11_each) hx hb hml hown hts (s_X11_each l g ad (gset (gset (gset th 18 zz67) 14 zz68) 44 zz69) _ _ _  hst hT ) cV_X11_each wg_1636 ⟨Nat.le_of_ble_eq_true rfl, Nat.le_of_ble_eq_true rfl⟩ hG hE hA hP hD hS (hst.1 255 (by decide)) hf71 rfl rfl hl.1 (As := []) (rest := []) rfl (Nat.le_of_ble_eq_true rfl) dX11_say_82 ⟨Nat.le_of_ble_eq_true rfl, Nat.le_of_ble_eq_true rfl⟩) hA hD hS (fun r81 L82 f83 H locs hp84 hP hD hS => ?_)
              obtain ⟨eL85L, eL85T, eL85R, eL85X0⟩ := hp84
              have eL85L : L82 = L := eL85L
              have eL85T : f83 = f64 := eL85T
              rw [eL85L, eL85T] at hP hD
              have eL85R : In r81 2 3 := eL85R
              have hrn86 : r81.toInt = rnd (th 10) := eL85X0
              refine lv_iload_n hx hb dX11_say_85 rfl (lv_at hl 1 rfl) ?_
              refine lv_imul hx hb dX11_say_86 ?_
              refine lv_topi (fun x87 ex87 => ?_)
              have hb88 : In x87 0 15 := ex87 ▸ In.mul eL85R hb26 (by decide) (by decide) (by decide) (by decide) (by decide)
              refine lv_iload_n hx hb dX11_say_87 rfl (lv_at hl 2 rfl) ?_
              refine lv_iadd hx hb dX11_say_88 ?_
              refine lv_topi (fun x89 ex89 => ?_)
              have hb90 : In x89 0 17 := ex89 ▸ In.add hb88 hb27 (by decide) (by decide) (by decide) (by decide)
              have et91 : x89.toInt = x87.toInt + z2.toInt := In.add2e ex89 hb88 hb27 (by decide) (by decide)
              refine lv_aload_n hx hb dX11_say_89 rfl (lv_at hl 0 rfl) ?_
              refine pl_get (v := .int v36_70) hx hb hts (fun w h => mT (inX11 w h)) hown hG.1 hP (hst.1 255 (by decide)) hf71 rfl 36 (by decide) (hts _ (mT wg_1372)) (fun _ h => h) rfl dX11_say_90 ?_
              have hg36_70 : v36_70.toInt = zz67 := hg36_70
              refine lv_icmp_ge (tgt := 102) hx hb dX11_say_93 (by decide) (fun c92 => ?_) (fun c92 => ?_)
              ·
                have cc93 : v36_70.toInt ≤ x89.toInt := i32_le.mp c92
                have hb94 : In v36_70 0 17 := In.ge2 hb90 hv36_70 cc93 (by decide) (by decide)
                refine lv_aload_n hx hb dX11_say_102 rfl (lv_at hl 0 rfl) ?_
                refine pl_get (v := .int v25_70) hx hb hts (fun w h => mT (inX11 w h)) hown hG.1 hP (hst.1 255 (by decide)) hf71 rfl 25 (by decide) (hts _ (mT wg_1361)) (fun _ h => h) rfl dX11_say_103 ?_
                have hg25_70 : v25_70.toInt = zz69 := hg25_70
                refine lv_bipush (v := 30) hx hb dX11_say_106 (by decide) ?_
                refine lv_icmp_ne (tgt := 117) hx hb dX11_say_108 (by decide) (fun c95 => ?_) (fun c95 => ?_)
                ·
                  have oc30 : (30 : Int32).toInt = 30 := by decide
                  have cc96 : v25_70.toInt ≠ (30 : Int32).toInt := i32_ne c95
                  have hb97 : In v25_70 0 29 := In.ne1 hv25_70 (⟨by decide, by decide⟩ : In 30 30 30) cc96 (by decide) (by decide)
                  refine lv_aload_n hx hb dX11_say_117 rfl (lv_at hl 0 rfl) ?_
                  refine call_v (run_V (rm := rm_X11_keeps) hx hb hml hown hts (s_X11_keeps l g ad (gset (gset (gset th 18 zz67) 14 zz68) 44 zz69) _ _ _  hst hT (show MI (gset (gset (gset th 18 zz67) 14 zz68) 44 zz69) from ⟨m1, m2, (show th 20 = (th 12) * rnd (th 10) from m3), m4, m5, m6, m7, m8, m9, m10⟩)) cV_X11_keeps wg_1644 ⟨Nat.le_of_ble_eq_true rfl, Nat.le_of_ble_eq_true rfl⟩ hG hE hA hP hD hS (hst.1 255 (by decide)) hf71 rfl rfl hl.1 (As := []) (rest := []) rfl (Nat.le_of_ble_eq_true rfl) dX11_say_118 ⟨Nat.le_of_ble_eq_true rfl, Nat.le_of_ble_eq_true rfl⟩) hA hD hS (fun L99 f100 H locs hp101 hP hD hS => ?_)
                  obtain ⟨eL102L, eL102T, eL102F⟩ := hp101
                  have eL102L : L99 = L := eL102L
                  rw [eL102L] at hP hD
                  obtain ⟨zz103, zz104, hzz103, eL102T⟩ := eL102T
                  have hzz103 : (1 ≤ zz103 ∧ zz103 ≤ 20) ∧ zz104 = 2126 * zz103 := hzz103
                  have hT : TI g ad (gset (gset (gset (gset (gset th 18 zz67) 14 zz68) 44 zz69) 16 zz103) 24 zz104) f100 := eL102T
                  have eL102F : ∀ b, b ≠ (ad 255) → b ≠ (ad 273) → b ≠ (ad 274) → f100 b = f64 b := eL102F
                  refine lv_iconst (v := 5) hx hb dX11_say_121 (by decide) ?_
                  refine lv_aload_n hx hb dX11_say_122 rfl (lv_at hl 0 rfl) ?_
                  refine M0e hT (fun v0_105 v2_105 v3_105 v4_105 v5_105 v6_105 v8_105 v9_105 v12_105 v13_105 v14_105 v15_105 v16_105 v17_105 v18_105 v19_105 v20_105 v21_105 v22_105 v23_105 v25_105 v36_105 v37_105 v38_105 v39_105 v40_105 v45_105 v46_105 v47_105 v48_105 v50_105 v51_105 v53_105 v55_105 hf106 hv0_105 hv2_105 hg2_105 hv3_105 hg3_105 hv4_105 hg4_105 hv5_105 hg5_105 hv6_105 hg6_105 hv8_105 hg8_105 hv9_105 hg9_105 hv12_105 hv13_105 hg13_105 hv14_105 hg14_105 hv15_105 hg15_105 hv17_105 hg17_105 hv20_105 hg20_105 hv23_105 hg23_105 hv25_105 hg25_105 hv36_105 hg36_105 hv47_105 hg47_105 hv48_105 hg48_105 hv53_105 hg53_105 hv55_105 hg55_105 hrel0_105 => ?_)
                  have hg15_105 : v15_105.toInt = th 11 := hg15_105
                  have hg17_105 : v17_105.toInt = th 12 := hg17_105
                  have hg20_105 : v20_105.toInt = zz68 := hg20_105
                  refine pl_get (v := .int v25_105) hx hb hts (fun w h => mT (inX11 w h)) hown hG.1 hP (hst.1 255 (by decide)) hf106 rfl 25 (by decide) (hts _ (mT wg_1361)) (fun _ h => h) rfl dX11_say_123 ?_
                  have hg25_105 : v25_105.toInt = zz69 := hg25_105
                  refine lv_imul hx hb dX11_say_126 ?_
                  refine lv_topi (fun x107 ex107 => ?_)
                  have hb108 : In x107 0 150 := ex107 ▸ In.mul (⟨by decide, by decide⟩ : In 5 5 5) hv25_105 (by decide) (by decide) (by decide) (by decide) (by decide)
                  have et109 : x107.toInt = 5 * v25_105.toInt := In.mule ex107 (⟨by decide, by decide⟩ : In 5 5 5) hv25_105 (by decide) (by decide) (by decide) (by decide) rfl
                  refine lv_istore (lv' := [(6, .int x107), (0, .ref (ad 255)), (1, .int z1), (2, .int z2), (3, .int z3), (4, .int z4), (5, .int z5)]) hx hb dX11_say_127 hl (by decide) rfl (fun ls hl => ?_)
                  refine lv_aload_n hx hb dX11_say_129 rfl (lv_at hl 1 rfl) ?_
                  refine pl_get (v := .ref (ad 260)) hx hb hts (fun w h => mT (inX11 w h)) hown hG.1 hP (hst.1 255 (by decide)) hf106 rfl 24 (by decide) (hts _ (mT wg_1360)) (fun _ h => h) rfl dX11_say_130 ?_
                  refine lv_iload hx hb dX11_say_133 (lv_at hl 0 rfl) ?_
                  refine lv_iload_n hx hb dX11_say_135 rfl (lv_at hl 2 rfl) ?_
                  obtain ⟨rw110, hf111⟩ := hT.2.2 5 (by decide)
                  refine pl_iastE hx hb hG.1 hP hD hS (hst.1 260 (by decide)) 0 hf111 rfl (vp_of (by have ob10 : (0 : Int) ≤ (th 10) ∧ (th 10) ≤ 1 := (b0_10 hT :); have ob11 : (0 : Int) ≤ (th 11) ∧ (th 11) ≤ 9 := (b0_11 hT :); have ob12 : (0 : Int) ≤ (th 12) ∧ (th 12) ≤ 6 := (b0_12 hT :); have ob14 : (0 : Int) ≤ zz68 ∧ zz68 ≤ 511 := (b0_14 hT :); have ob15 : (0 : Int) ≤ (th 15) ∧ (th 15) ≤ 1 := (b0_15 hT :); have ob16 : (0 : Int) ≤ zz103 ∧ zz103 ≤ 20 := (b0_16 hT :); have ob17 : (0 : Int) ≤ (th 17) ∧ (th 17) ≤ 1 := (b0_17 hT :); have ob18 : (0 : Int) ≤ zz67 ∧ zz67 ≤ 18 := (b0_18 hT :); have ob38 : (0 : Int) ≤ (th 38) ∧ (th 38) ≤ 400 := (b0_38 hT :); have ob39 : (0 : Int) ≤ (th 39) ∧ (th 39) ≤ 200 := (b0_39 hT :); have ob44 : (0 : Int) ≤ zz69 ∧ zz69 ≤ 30 := (b0_44 hT :); have orn := rnd_b (th 10); obtain ⟨o0a, o0b⟩ := (hb108 : In _ _ _); obtain ⟨o1a, o1b⟩ := (hv14_105 : In _ _ _); obtain ⟨o2a, o2b⟩ := (hv15_105 : In _ _ _); obtain ⟨o3a, o3b⟩ := (hv17_105 : In _ _ _); obtain ⟨o4a, o4b⟩ := (hv20_105 : In _ _ _); obtain ⟨o5a, o5b⟩ := (hv23_105 : In _ _ _); obtain ⟨o6a, o6b⟩ := (hv25_105 : In _ _ _); obtain ⟨o7a, o7b⟩ := (hv36_105 : In _ _ _); obtain ⟨o8a, o8b⟩ := (hv47_105 : In _ _ _); obtain ⟨o9a, o9b⟩ := (hv48_105 : In _ _ _); obtain ⟨o10a, o10b⟩ := (hv53_105 : In _ _ _); obtain ⟨o11a, o11b⟩ := (hv55_105 : In _ _ _); omega) (by have ob10 : (0 : Int) ≤ (th 10) ∧ (th 10) ≤ 1 := (b0_10 hT :); have ob11 : (0 : Int) ≤ (th 11) ∧ (th 11) ≤ 9 := (b0_11 hT :); have ob12 : (0 : Int) ≤ (th 12) ∧ (th 12) ≤ 6 := (b0_12 hT :); have ob14 : (0 : Int) ≤ zz68 ∧ zz68 ≤ 511 := (b0_14 hT :); have ob15 : (0 : Int) ≤ (th 15) ∧ (th 15) ≤ 1 := (b0_15 hT :); have ob16 : (0 : Int) ≤ zz103 ∧ zz103 ≤ 20 := (b0_16 hT :); have ob17 : (0 : Int) ≤ (th 17) ∧ (th 17) ≤ 1 := (b0_17 hT :); have ob18 : (0 : Int) ≤ zz67 ∧ zz67 ≤ 18 := (b0_18 hT :); have ob38 : (0 : Int) ≤ (th 38) ∧ (th 38) ≤ 400 := (b0_38 hT :); have ob39 : (0 : Int) ≤ (th 39) ∧ (th 39) ≤ 200 := (b0_39 hT :); have ob44 : (0 : Int) ≤ zz69 ∧ zz69 ≤ 30 := (b0_44 hT :); have orn := rnd_b (th 10); obtain ⟨o0a, o0b⟩ := (hb108 : In _ _ _); obtain ⟨o1a, o1b⟩ := (hv14_105 : In _ _ _); obtain ⟨o2a, o2b⟩ := (hv15_105 : In _ _ _); obtain ⟨o3a, o3b⟩ := (hv17_105 : In _ _ _); obtain ⟨o4a, o4b⟩ := (hv20_105 : In _ _ _); obtain ⟨o5a, o5b⟩ := (hv23_105 : In _ _ _); obtain ⟨o6a, o6b⟩ := (hv25_105 : In _ _ _); obtain ⟨o7a, o7b⟩ := (hv36_105 : In _ _ _); obtain ⟨o8a, o8b⟩ := (hv47_105 : In _ _ _); obtain ⟨o9a, o9b⟩ := (hv48_105 : In _ _ _); obtain ⟨o10a, o10b⟩ := (hv53_105 : In _ _ _); obtain ⟨o11a, o11b⟩ := (hv55_105 : In _ _ _); omega)) dX11_say_136 (fun H locs f112 r115 er115 hf113 ho114 hP hD hS => ?_)
                  have hf116 := (ho114 (ad 255) (hst.ne (by decide) (by decide) (by decide))).trans hf106
                  refine lv_aload_n hx hb dX11_say_137 rfl (lv_at hl 1 rfl) ?_
                  refine pl_get (v := .ref (ad 260)) hx hb hts (fun w h => mT (inX11 w h)) hown hG.1 hP (hst.1 255 (by decide)) hf116 rfl 24 (by decide) (hts _ (mT wg_1360)) (fun _ h => h) rfl dX11_say_138 ?_
                  refine lv_iload hx hb dX11_say_141 (lv_at hl 0 rfl) ?_
                  refine lv_iconst (v := 1) hx hb dX11_say_143 (by decide) ?_
                  refine lv_iadd hx hb dX11_say_144 ?_
                  refine lv_topi (fun x117 ex117 => ?_)
                  have hb118 : In x117 1 151 := ex117 ▸ In.add hb108 (⟨by decide, by decide⟩ : In 1 1 1) (by decide) (by decide) (by decide) (by decide)
                  have et119 : x117.toInt = x107.toInt + 1 := In.adde ex117 hb108 (k := 1) (by decide) (by decide) (by decide)
                  refine lv_iload_n hx hb dX11_say_145 rfl (lv_at hl 3 rfl) ?_
                  refine pl_iastE hx hb hG.1 hP hD hS (hst.1 260 (by decide)) 0 hf113 rfl (vp_of (by have ob10 : (0 : Int) ≤ (th 10) ∧ (th 10) ≤ 1 := (b0_10 hT :); have ob11 : (0 : Int) ≤ (th 11) ∧ (th 11) ≤ 9 := (b0_11 hT :); have ob12 : (0 : Int) ≤ (th 12) ∧ (th 12) ≤ 6 := (b0_12 hT :); have ob14 : (0 : Int) ≤ zz68 ∧ zz68 ≤ 511 := (b0_14 hT :); have ob15 : (0 : Int) ≤ (th 15) ∧ (th 15) ≤ 1 := (b0_15 hT :); have ob16 : (0 : Int) ≤ zz103 ∧ zz103 ≤ 20 := (b0_16 hT :); have ob17 : (0 : Int) ≤ (th 17) ∧ (th 17) ≤ 1 := (b0_17 hT :); have ob18 : (0 : Int) ≤ zz67 ∧ zz67 ≤ 18 := (b0_18 hT :); have ob38 : (0 : Int) ≤ (th 38) ∧ (th 38) ≤ 400 := (b0_38 hT :); have ob39 : (0 : Int) ≤ (th 39) ∧ (th 39) ≤ 200 := (b0_39 hT :); have ob44 : (0 : Int) ≤ zz69 ∧ zz69 ≤ 30 := (b0_44 hT :); have orn := rnd_b (th 10); obtain ⟨o0a, o0b⟩ := (hb118 : In _ _ _); obtain ⟨o1a, o1b⟩ := (hv14_105 : In _ _ _); obtain ⟨o2a, o2b⟩ := (hv15_105 : In _ _ _); obtain ⟨o3a, o3b⟩ := (hv17_105 : In _ _ _); obtain ⟨o4a, o4b⟩ := (hv20_105 : In _ _ _); obtain ⟨o5a, o5b⟩ := (hv23_105 : In _ _ _); obtain ⟨o6a, o6b⟩ := (hv25_105 : In _ _ _); obtain ⟨o7a, o7b⟩ := (hv36_105 : In _ _ _); obtain ⟨o8a, o8b⟩ := (hv47_105 : In _ _ _); obtain ⟨o9a, o9b⟩ := (hv48_105 : In _ _ _); obtain ⟨o10a, o10b⟩ := (hv53_105 : In _ _ _); obtain ⟨o11a, o11b⟩ := (hv55_105 : In _ _ _); obtain ⟨o12a, o12b⟩ := (hb108 : In _ _ _); omega) (by have ob10 : (0 : Int) ≤ (th 10) ∧ (th 10) ≤ 1 := (b0_10 hT :); have ob11 : (0 : Int) ≤ (th 11) ∧ (th 11) ≤ 9 := (b0_11 hT :); have ob12 : (0 : Int) ≤ (th 12) ∧ (th 12) ≤ 6 := (b0_12 hT :); have ob14 : (0 : Int) ≤ zz68 ∧ zz68 ≤ 511 := (b0_14 hT :); have ob15 : (0 : Int) ≤ (th 15) ∧ (th 15) ≤ 1 := (b0_15 hT :); have ob16 : (0 : Int) ≤ zz103 ∧ zz103 ≤ 20 := (b0_16 hT :); have ob17 : (0 : Int) ≤ (th 17) ∧ (th 17) ≤ 1 := (b0_17 hT :); have ob18 : (0 : Int) ≤ zz67 ∧ zz67 ≤ 18 := (b0_18 hT :); have ob38 : (0 : Int) ≤ (th 38) ∧ (th 38) ≤ 400 := (b0_38 hT :); have ob39 : (0 : Int) ≤ (th 39) ∧ (th 39) ≤ 200 := (b0_39 hT :); have ob44 : (0 : Int) ≤ zz69 ∧ zz69 ≤ 30 := (b0_44 hT :); have orn := rnd_b (th 10); obtain ⟨o0a, o0b⟩ := (hb118 : In _ _ _); obtain ⟨o1a, o1b⟩ := (hv14_105 : In _ _ _); obtain ⟨o2a, o2b⟩ := (hv15_105 : In _ _ _); obtain ⟨o3a, o3b⟩ := (hv17_105 : In _ _ _); obtain ⟨o4a, o4b⟩ := (hv20_105 : In _ _ _); obtain ⟨o5a, o5b⟩ := (hv23_105 : In _ _ _); obtain ⟨o6a, o6b⟩ := (hv25_105 : In _ _ _); obtain ⟨o7a, o7b⟩ := (hv36_105 : In _ _ _); obtain ⟨o8a, o8b⟩ := (hv47_105 : In _ _ _); obtain ⟨o9a, o9b⟩ := (hv48_105 : In _ _ _); obtain ⟨o10a, o10b⟩ := (hv53_105 : In _ _ _); obtain ⟨o11a, o11b⟩ := (hv55_105 : In _ _ _); obtain ⟨o12a, o12b⟩ := (hb108 : In _ _ _); omega)) dX11_say_146 (fun H locs f120 r123 er123 hf121 ho122 hP hD hS => ?_)
                  have hf124 := (ho122 (ad 255) (hst.ne (by decide) (by decide) (by decide))).trans hf116
                  have ho125 : ∀ b, b ≠ (ad 260) → f120 b = _ := fun b hb => (ho122 b hb).trans (ho114 b hb)
                  refine lv_aload_n hx hb dX11_say_147 rfl (lv_at hl 1 rfl) ?_
                  refine pl_get (v := .ref (ad 260)) hx hb hts (fun w h => mT (inX11 w h)) hown hG.1 hP (hst.1 255 (by decide)) hf124 rfl 24 (by decide) (hts _ (mT wg_1360)) (fun _ h => h) rfl dX11_say_148 ?_
                  refine lv_iload hx hb dX11_say_151 (lv_at hl 0 rfl) ?_
                  refine lv_iconst (v := 2) hx hb dX11_say_153 (by decide) ?_
                  refine lv_iadd hx hb dX11_say_154 ?_
                  refine lv_topi (fun x126 ex126 => ?_)
                  have hb127 : In x126 2 152 := ex126 ▸ In.add hb108 (⟨by decide, by decide⟩ : In 2 2 2) (by decide) (by decide) (by decide) (by decide)
                  have et128 : x126.toInt = x107.toInt + 2 := In.adde ex126 hb108 (k := 2) (by decide) (by decide) (by decide)
                  refine lv_iload_n hx hb dX11_say_155 rfl (lv_at hl 4 rfl) ?_
                  refine pl_iastE hx hb hG.1 hP hD hS (hst.1 260 (by decide)) 0 hf121 rfl (vp_of (by have ob10 : (0 : Int) ≤ (th 10) ∧ (th 10) ≤ 1 := (b0_10 hT :); have ob11 : (0 : Int) ≤ (th 11) ∧ (th 11) ≤ 9 := (b0_11 hT :); have ob12 : (0 : Int) ≤ (th 12) ∧ (th 12) ≤ 6 := (b0_12 hT :); have ob14 : (0 : Int) ≤ zz68 ∧ zz68 ≤ 511 := (b0_14 hT :); have ob15 : (0 : Int) ≤ (th 15) ∧ (th 15) ≤ 1 := (b0_15 hT :); have ob16 : (0 : Int) ≤ zz103 ∧ zz103 ≤ 20 := (b0_16 hT :); have ob17 : (0 : Int) ≤ (th 17) ∧ (th 17) ≤ 1 := (b0_17 hT :); have ob18 : (0 : Int) ≤ zz67 ∧ zz67 ≤ 18 := (b0_18 hT :); have ob38 : (0 : Int) ≤ (th 38) ∧ (th 38) ≤ 400 := (b0_38 hT :); have ob39 : (0 : Int) ≤ (th 39) ∧ (th 39) ≤ 200 := (b0_39 hT :); have ob44 : (0 : Int) ≤ zz69 ∧ zz69 ≤ 30 := (b0_44 hT :); have orn := rnd_b (th 10); obtain ⟨o0a, o0b⟩ := (hb127 : In _ _ _); obtain ⟨o1a, o1b⟩ := (hv14_105 : In _ _ _); obtain ⟨o2a, o2b⟩ := (hv15_105 : In _ _ _); obtain ⟨o3a, o3b⟩ := (hv17_105 : In _ _ _); obtain ⟨o4a, o4b⟩ := (hv20_105 : In _ _ _); obtain ⟨o5a, o5b⟩ := (hv23_105 : In _ _ _); obtain ⟨o6a, o6b⟩ := (hv25_105 : In _ _ _); obtain ⟨o7a, o7b⟩ := (hv36_105 : In _ _ _); obtain ⟨o8a, o8b⟩ := (hv47_105 : In _ _ _); obtain ⟨o9a, o9b⟩ := (hv48_105 : In _ _ _); obtain ⟨o10a, o10b⟩ := (hv53_105 : In _ _ _); obtain ⟨o11a, o11b⟩ := (hv55_105 : In _ _ _); obtain ⟨o12a, o12b⟩ := (hb108 : In _ _ _); omega) (by have ob10 : (0 : Int) ≤ (th 10) ∧ (th 10) ≤ 1 := (b0_10 hT :); have ob11 : (0 : Int) ≤ (th 11) ∧ (th 11) ≤ 9 := (b0_11 hT :); have ob12 : (0 : Int) ≤ (th 12) ∧ (th 12) ≤ 6 := (b0_12 hT :); have ob14 : (0 : Int) ≤ zz68 ∧ zz68 ≤ 511 := (b0_14 hT :); have ob15 : (0 : Int) ≤ (th 15) ∧ (th 15) ≤ 1 := (b0_15 hT :); have ob16 : (0 : Int) ≤ zz103 ∧ zz103 ≤ 20 := (b0_16 hT :); have ob17 : (0 : Int) ≤ (th 17) ∧ (th 17) ≤ 1 := (b0_17 hT :); have ob18 : (0 : Int) ≤ zz67 ∧ zz67 ≤ 18 := (b0_18 hT :); have ob38 : (0 : Int) ≤ (th 38) ∧ (th 38) ≤ 400 := (b0_38 hT :); have ob39 : (0 : Int) ≤ (th 39) ∧ (th 39) ≤ 200 := (b0_39 hT :); have ob44 : (0 : Int) ≤ zz69 ∧ zz69 ≤ 30 := (b0_44 hT :); have orn := rnd_b (th 10); obtain ⟨o0a, o0b⟩ := (hb127 : In _ _ _); obtain ⟨o1a, o1b⟩ := (hv14_105 : In _ _ _); obtain ⟨o2a, o2b⟩ := (hv15_105 : In _ _ _); obtain ⟨o3a, o3b⟩ := (hv17_105 : In _ _ _); obtain ⟨o4a, o4b⟩ := (hv20_105 : In _ _ _); obtain ⟨o5a, o5b⟩ := (hv23_105 : In _ _ _); obtain ⟨o6a, o6b⟩ := (hv25_105 : In _ _ _); obtain ⟨o7a, o7b⟩ := (hv36_105 : In _ _ _); obtain ⟨o8a, o8b⟩ := (hv47_105 : In _ _ _); obtain ⟨o9a, o9b⟩ := (hv48_105 : In _ _ _); obtain ⟨o10a, o10b⟩ := (hv53_105 : In _ _ _); obtain ⟨o11a, o11b⟩ := (hv55_105 : In _ _ _); obtain ⟨o12a, o12b⟩ := (hb108 : In _ _ _); omega)) dX11_say_156 (fun H locs f129 r132 er132 hf130 ho131 hP hD hS => ?_)
                  have hf133 := (ho131 (ad 255) (hst.ne (by decide) (by decide) (by decide))).trans hf124
                  have ho134 : ∀ b, b ≠ (ad 260) → f129 b = _ := fun b hb => (ho131 b hb).trans (ho125 b hb)
                  refine lv_aload_n hx hb dX11_say_157 rfl (lv_at hl 1 rfl) ?_
                  refine pl_get (v := .ref (ad 260)) hx hb hts (fun w h => mT (inX11 w h)) hown hG.1 hP (hst.1 255 (by decide)) hf133 rfl 24 (by decide) (hts _ (mT wg_1360)) (fun _ h => h) rfl dX11_say_158 ?_
                  refine lv_iload hx hb dX11_say_161 (lv_at hl 0 rfl) ?_
                  refine lv_iconst (v := 3) hx hb dX11_say_163 (by decide) ?_
                  refine lv_iadd hx hb dX11_say_164 ?_
                  refine lv_topi (fun x135 ex135 => ?_)
                  have hb136 : In x135 3 153 := ex135 ▸ In.add hb108 (⟨by decide, by decide⟩ : In 3 3 3) (by decide) (by decide) (by decide) (by decide)
                  have et137 : x135.toInt = x107.toInt + 3 := In.adde ex135 hb108 (k := 3) (by decide) (by decide) (by decide)
                  refine lv_iload hx hb dX11_say_165 (lv_at hl 5 rfl) ?_
                  refine pl_iastE hx hb hG.1 hP hD hS (hst.1 260 (by decide)) 0 hf130 rfl (vp_of (by have ob10 : (0 : Int) ≤ (th 10) ∧ (th 10) ≤ 1 := (b0_10 hT :); have ob11 : (0 : Int) ≤ (th 11) ∧ (th 11) ≤ 9 := (b0_11 hT :); have ob12 : (0 : Int) ≤ (th 12) ∧ (th 12) ≤ 6 := (b0_12 hT :); have ob14 : (0 : Int) ≤ zz68 ∧ zz68 ≤ 511 := (b0_14 hT :); have ob15 : (0 : Int) ≤ (th 15) ∧ (th 15) ≤ 1 := (b0_15 hT :); have ob16 : (0 : Int) ≤ zz103 ∧ zz103 ≤ 20 := (b0_16 hT :); have ob17 : (0 : Int) ≤ (th 17) ∧ (th 17) ≤ 1 := (b0_17 hT :); have ob18 : (0 : Int) ≤ zz67 ∧ zz67 ≤ 18 := (b0_18 hT :); have ob38 : (0 : Int) ≤ (th 38) ∧ (th 38) ≤ 400 := (b0_38 hT :); have ob39 : (0 : Int) ≤ (th 39) ∧ (th 39) ≤ 200 := (b0_39 hT :); have ob44 : (0 : Int) ≤ zz69 ∧ zz69 ≤ 30 := (b0_44 hT :); have orn := rnd_b (th 10); obtain ⟨o0a, o0b⟩ := (hb136 : In _ _ _); obtain ⟨o1a, o1b⟩ := (hv14_105 : In _ _ _); obtain ⟨o2a, o2b⟩ := (hv15_105 : In _ _ _); obtain ⟨o3a, o3b⟩ := (hv17_105 : In _ _ _); obtain ⟨o4a, o4b⟩ := (hv20_105 : In _ _ _); obtain ⟨o5a, o5b⟩ := (hv23_105 : In _ _ _); obtain ⟨o6a, o6b⟩ := (hv25_105 : In _ _ _); obtain ⟨o7a, o7b⟩ := (hv36_105 : In _ _ _); obtain ⟨o8a, o8b⟩ := (hv47_105 : In _ _ _); obtain ⟨o9a, o9b⟩ := (hv48_105 : In _ _ _); obtain ⟨o10a, o10b⟩ := (hv53_105 : In _ _ _); obtain ⟨o11a, o11b⟩ := (hv55_105 : In _ _ _); obtain ⟨o12a, o12b⟩ := (hb108 : In _ _ _); omega) (by have ob10 : (0 : Int) ≤ (th 10) ∧ (th 10) ≤ 1 := (b0_10 hT :); have ob11 : (0 : Int) ≤ (th 11) ∧ (th 11) ≤ 9 := (b0_11 hT :); have ob12 : (0 : Int) ≤ (th 12) ∧ (th 12) ≤ 6 := (b0_12 hT :); have ob14 : (0 : Int) ≤ zz68 ∧ zz68 ≤ 511 := (b0_14 hT :); have ob15 : (0 : Int) ≤ (th 15) ∧ (th 15) ≤ 1 := (b0_15 hT :); have ob16 : (0 : Int) ≤ zz103 ∧ zz103 ≤ 20 := (b0_16 hT :); have ob17 : (0 : Int) ≤ (th 17) ∧ (th 17) ≤ 1 := (b0_17 hT :); have ob18 : (0 : Int) ≤ zz67 ∧ zz67 ≤ 18 := (b0_18 hT :); have ob38 : (0 : Int) ≤ (th 38) ∧ (th 38) ≤ 400 := (b0_38 hT :); have ob39 : (0 : Int) ≤ (th 39) ∧ (th 39) ≤ 200 := (b0_39 hT :); have ob44 : (0 : Int) ≤ zz69 ∧ zz69 ≤ 30 := (b0_44 hT :); have orn := rnd_b (th 10); obtain ⟨o0a, o0b⟩ := (hb136 : In _ _ _); obtain ⟨o1a, o1b⟩ := (hv14_105 : In _ _ _); obtain ⟨o2a, o2b⟩ := (hv15_105 : In _ _ _); obtain ⟨o3a, o3b⟩ := (hv17_105 : In _ _ _); obtain ⟨o4a, o4b⟩ := (hv20_105 : In _ _ _); obtain ⟨o5a, o5b⟩ := (hv23_105 : In _ _ _); obtain ⟨o6a, o6b⟩ := (hv25_105 : In _ _ _); obtain ⟨o7a, o7b⟩ := (hv36_105 : In _ _ _); obtain ⟨o8a, o8b⟩ := (hv47_105 : In _ _ _); obtain ⟨o9a, o9b⟩ := (hv48_105 : In _ _ _); obtain ⟨o10a, o10b⟩ := (hv53_105 : In _ _ _); obtain ⟨o11a, o11b⟩ := (hv55_105 : In _ _ _); obtain ⟨o12a, o12b⟩ := (hb108 : In _ _ _); omega)) dX11_say_167 (fun H locs f138 r141 er141 hf139 ho140 hP hD hS => ?_)
                  have hf142 := (ho140 (ad 255) (hst.ne (by decide) (by decide) (by decide))).trans hf133
                  have ho143 : ∀ b, b ≠ (ad 260) → f138 b = _ := fun b hb => (ho140 b hb).trans (ho134 b hb)
                  refine lv_aload_n hx hb dX11_say_168 rfl (lv_at hl 1 rfl) ?_
                  refine pl_get (v := .ref (ad 260)) hx hb hts (fun w h => mT (inX11 w h)) hown hG.1 hP (hst.1 255 (by decide)) hf142 rfl 24 (by decide) (hts _ (mT wg_1360)) (fun _ h => h) rfl dX11_say_169 ?_
                  refine lv_iload hx hb dX11_say_172 (lv_at hl 0 rfl) ?_
                  refine lv_iconst (v := 4) hx hb dX11_say_174 (by decide) ?_
                  refine lv_iadd hx hb dX11_say_175 ?_
                  refine lv_topi (fun x144 ex144 => ?_)
                  have hb145 : In x144 4 154 := ex144 ▸ In.add hb108 (⟨by decide, by decide⟩ : In 4 4 4) (by decide) (by decide) (by decide) (by decide)
                  have et146 : x144.toInt = x107.toInt + 4 := In.adde ex144 hb108 (k := 4) (by decide) (by decide) (by decide)
                  refine lv_iload hx hb dX11_say_176 (lv_at hl 6 rfl) ?_
                  refine pl_iastE hx hb hG.1 hP hD hS (hst.1 260 (by decide)) 0 hf139 rfl (vp_of (by have ob10 : (0 : Int) ≤ (th 10) ∧ (th 10) ≤ 1 := (b0_10 hT :); have ob11 : (0 : Int) ≤ (th 11) ∧ (th 11) ≤ 9 := (b0_11 hT :); have ob12 : (0 : Int) ≤ (th 12) ∧ (th 12) ≤ 6 := (b0_12 hT :); have ob14 : (0 : Int) ≤ zz68 ∧ zz68 ≤ 511 := (b0_14 hT :); have ob15 : (0 : Int) ≤ (th 15) ∧ (th 15) ≤ 1 := (b0_15 hT :); have ob16 : (0 : Int) ≤ zz103 ∧ zz103 ≤ 20 := (b0_16 hT :); have ob17 : (0 : Int) ≤ (th 17) ∧ (th 17) ≤ 1 := (b0_17 hT :); have ob18 : (0 : Int) ≤ zz67 ∧ zz67 ≤ 18 := (b0_18 hT :); have ob38 : (0 : Int) ≤ (th 38) ∧ (th 38) ≤ 400 := (b0_38 hT :); have ob39 : (0 : Int) ≤ (th 39) ∧ (th 39) ≤ 200 := (b0_39 hT :); have ob44 : (0 : Int) ≤ zz69 ∧ zz69 ≤ 30 := (b0_44 hT :); have orn := rnd_b (th 10); obtain ⟨o0a, o0b⟩ := (hb145 : In _ _ _); obtain ⟨o1a, o1b⟩ := (hv14_105 : In _ _ _); obtain ⟨o2a, o2b⟩ := (hv15_105 : In _ _ _); obtain ⟨o3a, o3b⟩ := (hv17_105 : In _ _ _); obtain ⟨o4a, o4b⟩ := (hv20_105 : In _ _ _); obtain ⟨o5a, o5b⟩ := (hv23_105 : In _ _ _); obtain ⟨o6a, o6b⟩ := (hv25_105 : In _ _ _); obtain ⟨o7a, o7b⟩ := (hv36_105 : In _ _ _); obtain ⟨o8a, o8b⟩ := (hv47_105 : In _ _ _); obtain ⟨o9a, o9b⟩ := (hv48_105 : In _ _ _); obtain ⟨o10a, o10b⟩ := (hv53_105 : In _ _ _); obtain ⟨o11a, o11b⟩ := (hv55_105 : In _ _ _); obtain ⟨o12a, o12b⟩ := (hb108 : In _ _ _); omega) (by have ob10 : (0 : Int) ≤ (th 10) ∧ (th 10) ≤ 1 := (b0_10 hT :); have ob11 : (0 : Int) ≤ (th 11) ∧ (th 11) ≤ 9 := (b0_11 hT :); have ob12 : (0 : Int) ≤ (th 12) ∧ (th 12) ≤ 6 := (b0_12 hT :); have ob14 : (0 : Int) ≤ zz68 ∧ zz68 ≤ 511 := (b0_14 hT :); have ob15 : (0 : Int) ≤ (th 15) ∧ (th 15) ≤ 1 := (b0_15 hT :); have ob16 : (0 : Int) ≤ zz103 ∧ zz103 ≤ 20 := (b0_16 hT :); have ob17 : (0 : Int) ≤ (th 17) ∧ (th 17) ≤ 1 := (b0_17 hT :); have ob18 : (0 : Int) ≤ zz67 ∧ zz67 ≤ 18 := (b0_18 hT :); have ob38 : (0 : Int) ≤ (th 38) ∧ (th 38) ≤ 400 := (b0_38 hT :); have ob39 : (0 : Int) ≤ (th 39) ∧ (th 39) ≤ 200 := (b0_39 hT :); have ob44 : (0 : Int) ≤ zz69 ∧ zz69 ≤ 30 := (b0_44 hT :); have orn := rnd_b (th 10); obtain ⟨o0a, o0b⟩ := (hb145 : In _ _ _); obtain ⟨o1a, o1b⟩ := (hv14_105 : In _ _ _); obtain ⟨o2a, o2b⟩ := (hv15_105 : In _ _ _); obtain ⟨o3a, o3b⟩ := (hv17_105 : In _ _ _); obtain ⟨o4a, o4b⟩ := (hv20_105 : In _ _ _); obtain ⟨o5a, o5b⟩ := (hv23_105 : In _ _ _); obtain ⟨o6a, o6b⟩ := (hv25_105 : In _ _ _); obtain ⟨o7a, o7b⟩ := (hv36_105 : In _ _ _); obtain ⟨o8a, o8b⟩ := (hv47_105 : In _ _ _); obtain ⟨o9a, o9b⟩ := (hv48_105 : In _ _ _); obtain ⟨o10a, o10b⟩ := (hv53_105 : In _ _ _); obtain ⟨o11a, o11b⟩ := (hv55_105 : In _ _ _); obtain ⟨o12a, o12b⟩ := (hb108 : In _ _ _); omega)) dX11_say_178 (fun H locs f147 r150 er150 hf148 ho149 hP hD hS => ?_)
                  have hf151 := (ho149 (ad 255) (hst.ne (by decide) (by decide) (by decide))).trans hf142
                  have ho152 : ∀ b, b ≠ (ad 260) → f147 b = _ := fun b hb => (ho149 b hb).trans (ho143 b hb)
                  refine lv_aload_n hx hb dX11_say_179 rfl (lv_at hl 1 rfl) ?_
                  refine lv_dup hx hb dX11_say_180 rfl ?_
                  refine pl_get (v := .int v25_105) hx hb hts (fun w h => mT (inX11 w h)) hown hG.1 hP (hst.1 255 (by decide)) hf151 rfl 25 (by decide) (hts _ (mT wg_1361)) (fun _ h => h) rfl dX11_say_181 ?_
                  refine lv_iconst (v := 1) hx hb dX11_say_184 (by decide) ?_
                  refine lv_iadd hx hb dX11_say_185 ?_
                  refine lv_topi (fun x153 ex153 => ?_)
                  have hb154 : In x153 1 31 := ex153 ▸ In.add hv25_105 (⟨by decide, by decide⟩ : In 1 1 1) (by decide) (by decide) (by decide) (by decide)
                  have et155 : x153.toInt = v25_105.toInt + 1 := In.adde ex153 hv25_105 (k := 1) (by decide) (by decide) (by decide)
                  have hT := TI.updM hT hst (k := 5) (by decide) hf148 ho152 ⟨r150, rfl⟩
                  refine pl_put (ty := .int) (v := .int x153) (fs' := [.int v0_105, .ref (ad 256), .int v2_105, .int v3_105, .int v4_105, .int v5_105, .int v6_105, .ref (ad 257), .int v8_105, .int v9_105, .ref (ad 258), .ref (ad 259), .int v12_105, .int v13_105, .int v14_105, .int v15_105, .int v16_105, .int v17_105, .int v18_105, .int v19_105, .int v20_105, .long v21_105, .long v22_105, .int v23_105, .ref (ad 260), .int x153, .ref (ad 261), .ref (ad 262), .ref (ad 263), .ref (ad 264), .ref (ad 265), .ref (ad 266), .ref (ad 267), .ref (ad 268), .ref (ad 269), .ref (ad 270), .int v36_105, .int v37_105, .int v38_105, .int v39_105, .int v40_105, .ref (ad 271), .ref (ad 272), .ref (ad 273), .ref (ad 274), .long v45_105, .long v46_105, .int v47_105, .int v48_105, .ref (ad 275), .int v50_105, .int v51_105, .ref (ad 276), .int v53_105, .ref (ad 277), .int v55_105]) hx hb hts (fun w h => mT (inX11 w h)) tyX11 tyX11_ok nmX11 hown hG.1 hP hD hS (hst.1 255 (by decide)) hf151 rfl 25 (by decide) (hts _ (mT wg_1361)) (fun _ h => h) rfl (by decide +kernel) (rfl) (rfl) (Nat.le_of_ble_eq_true rfl) rfl dX11_say_186 (fun H locs f156 hf157 ho158 hP hD hS => ?_)
                  have hf159 := (ho158 (ad 260) (hst.ne (by decide) (by decide) (by decide))).trans hf148
                  refine lv_aload_n hx hb dX11_say_189 rfl (lv_at hl 1 rfl) ?_
                  have hT := TI.updMG (th' := (gset (gset (gset (gset (gset (gset th 18 zz67) 14 zz68) 44 zz69) 16 zz103) 24 zz104) 44 (x153.toInt))) hT hst (k := 0) (by decide) hf157 ho158 ⟨v0_105, v2_105, v3_105, v4_105, v5_105, v6_105, v8_105, v9_105, v12_105, v13_105, v14_105, v15_105, v16_105, v17_105, v18_105, v19_105, v20_105, v21_105, v22_105, v23_105, x153, v36_105, v37_105, v38_105, v39_105, v40_105, v45_105, v46_105, v47_105, v48_105, v50_105, v51_105, v53_105, v55_105, rfl, hv0_105, hv2_105, hg2_105, hv3_105, hg3_105, hv4_105, hg4_105, hv5_105, hg5_105, hv6_105, hg6_105, hv8_105, hg8_105, hv9_105, hg9_105, hv12_105, hv13_105, hg13_105, hv14_105, hg14_105, hv15_105, hg15_105, hv17_105, hg17_105, hv20_105, hg20_105, hv23_105, hg23_105, (In.mk (by have ob10 : (0 : Int) ≤ (th 10) ∧ (th 10) ≤ 1 := (b0_10 hT :); have ob11 : (0 : Int) ≤ (th 11) ∧ (th 11) ≤ 9 := (b0_11 hT :); have ob12 : (0 : Int) ≤ (th 12) ∧ (th 12) ≤ 6 := (b0_12 hT :); have ob14 : (0 : Int) ≤ zz68 ∧ zz68 ≤ 511 := (b0_14 hT :); have ob15 : (0 : Int) ≤ (th 15) ∧ (th 15) ≤ 1 := (b0_15 hT :); have ob16 : (0 : Int) ≤ zz103 ∧ zz103 ≤ 20 := (b0_16 hT :); have ob17 : (0 : Int) ≤ (th 17) ∧ (th 17) ≤ 1 := (b0_17 hT :); have ob18 : (0 : Int) ≤ zz67 ∧ zz67 ≤ 18 := (b0_18 hT :); have ob38 : (0 : Int) ≤ (th 38) ∧ (th 38) ≤ 400 := (b0_38 hT :); have ob39 : (0 : Int) ≤ (th 39) ∧ (th 39) ≤ 200 := (b0_39 hT :); have ob44 : (0 : Int) ≤ zz69 ∧ zz69 ≤ 30 := (b0_44 hT :); have orn := rnd_b (th 10); obtain ⟨o0a, o0b⟩ := (hb154 : In _ _ _); obtain ⟨o1a, o1b⟩ := (hv14_105 : In _ _ _); obtain ⟨o2a, o2b⟩ := (hv15_105 : In _ _ _); obtain ⟨o3a, o3b⟩ := (hv17_105 : In _ _ _); obtain ⟨o4a, o4b⟩ := (hv20_105 : In _ _ _); obtain ⟨o5a, o5b⟩ := (hv23_105 : In _ _ _); obtain ⟨o6a, o6b⟩ := (hv36_105 : In _ _ _); obtain ⟨o7a, o7b⟩ := (hv47_105 : In _ _ _); obtain ⟨o8a, o8b⟩ := (hv48_105 : In _ _ _); obtain ⟨o9a, o9b⟩ := (hv53_105 : In _ _ _); obtain ⟨o10a, o10b⟩ := (hv55_105 : In _ _ _); obtain ⟨o11a, o11b⟩ := (hv25_105 : In _ _ _); omega) (by have ob10 : (0 : Int) ≤ (th 10) ∧ (th 10) ≤ 1 := (b0_10 hT :); have ob11 : (0 : Int) ≤ (th 11) ∧ (th 11) ≤ 9 := (b0_11 hT :); have ob12 : (0 : Int) ≤ (th 12) ∧ (th 12) ≤ 6 := (b0_12 hT :); have ob14 : (0 : Int) ≤ zz68 ∧ zz68 ≤ 511 := (b0_14 hT :); have ob15 : (0 : Int) ≤ (th 15) ∧ (th 15) ≤ 1 := (b0_15 hT :); have ob16 : (0 : Int) ≤ zz103 ∧ zz103 ≤ 20 := (b0_16 hT :); have ob17 : (0 : Int) ≤ (th 17) ∧ (th 17) ≤ 1 := (b0_17 hT :); have ob18 : (0 : Int) ≤ zz67 ∧ zz67 ≤ 18 := (b0_18 hT :); have ob38 : (0 : Int) ≤ (th 38) ∧ (th 38) ≤ 400 := (b0_38 hT :); have ob39 : (0 : Int) ≤ (th 39) ∧ (th 39) ≤ 200 := (b0_39 hT :); have ob44 : (0 : Int) ≤ zz69 ∧ zz69 ≤ 30 := (b0_44 hT :); have orn := rnd_b (th 10); obtain ⟨o0a, o0b⟩ := (hb154 : In _ _ _); obtain ⟨o1a, o1b⟩ := (hv14_105 : In _ _ _); obtain ⟨o2a, o2b⟩ := (hv15_105 : In _ _ _); obtain ⟨o3a, o3b⟩ := (hv17_105 : In _ _ _); obtain ⟨o4a, o4b⟩ := (hv20_105 : In _ _ _); obtain ⟨o5a, o5b⟩ := (hv23_105 : In _ _ _); obtain ⟨o6a, o6b⟩ := (hv36_105 : In _ _ _); obtain ⟨o7a, o7b⟩ := (hv47_105 : In _ _ _); obtain ⟨o8a, o8b⟩ := (hv48_105 : In _ _ _); obtain ⟨o9a, o9b⟩ := (hv53_105 : In _ _ _); obtain ⟨o10a, o10b⟩ := (hv55_105 : In _ _ _); obtain ⟨o11a, o11b⟩ := (hv25_105 : In _ _ _); omega)), rfl, hv36_105, hg36_105, hv47_105, hg47_105, hv48_105, hg48_105, hv53_105, hg53_105, hv55_105, hg55_105, hrel0_105⟩ (fun q hq => ((gset_ne (fun e => hq (by subst e; decide))).trans rfl))
                  have hT : TI g ad (gset (gset (gset (gset (gset th 18 zz67) 14 zz68) 16 zz103) 24 zz104) 44 x153.toInt) f156 := TI.cast hT (by funext q; by_cases hq0 : q = 44; (subst hq0; rfl); by_cases hq1 : q = 24; (subst hq1; rfl); by_cases hq2 : q = 16; (subst hq2; rfl); by_cases hq3 : q = 14; (subst hq3; rfl); by_cases hq4 : q = 18; (subst hq4; rfl); simp only [gset, if_neg hq0, if_neg hq1, if_neg hq2, if_neg hq3, if_neg hq4])
                  refine M0e hT (fun v0_160 v2_160 v3_160 v4_160 v5_160 v6_160 v8_160 v9_160 v12_160 v13_160 v14_160 v15_160 v16_160 v17_160 v18_160 v19_160 v20_160 v21_160 v22_160 v23_160 v25_160 v36_160 v37_160 v38_160 v39_160 v40_160 v45_160 v46_160 v47_160 v48_160 v50_160 v51_160 v53_160 v55_160 hf161 hv0_160 hv2_160 hg2_160 hv3_160 hg3_160 hv4_160 hg4_160 hv5_160 hg5_160 hv6_160 hg6_160 hv8_160 hg8_160 hv9_160 hg9_160 hv12_160 hv13_160 hg13_160 hv14_160 hg14_160 hv15_160 hg15_160 hv17_160 hg17_160 hv20_160 hg20_160 hv23_160 hg23_160 hv25_160 hg25_160 hv36_160 hg36_160 hv47_160 hg47_160 hv48_160 hg48_160 hv53_160 hg53_160 hv55_160 hg55_160 hrel0_160 => ?_)
                  have hg15_160 : v15_160.toInt = th 11 := hg15_160
                  have hg17_160 : v17_160.toInt = th 12 := hg17_160
                  have hg20_160 : v20_160.toInt = zz68 := hg20_160
                  refine call_v (run_V (rm := rm_X11_laysDown) hx hb hml hown hts (s_X11_laysDown l g ad (gset (gset (gset (gset (gset th 18 zz67) 14 zz68) 16 zz103) 24 zz104) 44 x153.toInt) _ _ _  hst hT (show zz67 ≤ (th 20) from (by have ob10 : (0 : Int) ≤ (th 10) ∧ (th 10) ≤ 1 := (b0_10 hT :); have ob11 : (0 : Int) ≤ (th 11) ∧ (th 11) ≤ 9 := (b0_11 hT :); have ob12 : (0 : Int) ≤ (th 12) ∧ (th 12) ≤ 6 := (b0_12 hT :); have ob14 : (0 : Int) ≤ zz68 ∧ zz68 ≤ 511 := (b0_14 hT :); have ob15 : (0 : Int) ≤ (th 15) ∧ (th 15) ≤ 1 := (b0_15 hT :); have ob16 : (0 : Int) ≤ zz103 ∧ zz103 ≤ 20 := (b0_16 hT :); have ob17 : (0 : Int) ≤ (th 17) ∧ (th 17) ≤ 1 := (b0_17 hT :); have ob18 : (0 : Int) ≤ zz67 ∧ zz67 ≤ 18 := (b0_18 hT :); have ob38 : (0 : Int) ≤ (th 38) ∧ (th 38) ≤ 400 := (b0_38 hT :); have ob39 : (0 : Int) ≤ (th 39) ∧ (th 39) ≤ 200 := (b0_39 hT :); have ob44 : (0 : Int) ≤ x153.toInt ∧ x153.toInt ≤ 30 := (b0_44 hT :); have orn := rnd_b (th 10); obtain ⟨o0a, o0b⟩ := (hv14_160 : In _ _ _); obtain ⟨o1a, o1b⟩ := (hv15_160 : In _ _ _); obtain ⟨o2a, o2b⟩ := (hv17_160 : In _ _ _); obtain ⟨o3a, o3b⟩ := (hv20_160 : In _ _ _); obtain ⟨o4a, o4b⟩ := (hv23_160 : In _ _ _); obtain ⟨o5a, o5b⟩ := (hv25_160 : In _ _ _); obtain ⟨o6a, o6b⟩ := (hv36_160 : In _ _ _); obtain ⟨o7a, o7b⟩ := (hv47_160 : In _ _ _); obtain ⟨o8a, o8b⟩ := (hv48_160 : In _ _ _); obtain ⟨o9a, o9b⟩ := (hv53_160 : In _ _ _); obtain ⟨o10a, o10b⟩ := (hv55_160 : In _ _ _); omega)) (show (th 11) = (th 21) from (by have ob10 : (0 : Int) ≤ (th 10) ∧ (th 10) ≤ 1 := (b0_10 hT :); have ob11 : (0 : Int) ≤ (th 11) ∧ (th 11) ≤ 9 := (b0_11 hT :); have ob12 : (0 : Int) ≤ (th 12) ∧ (th 12) ≤ 6 := (b0_12 hT :); have ob14 : (0 : Int) ≤ zz68 ∧ zz68 ≤ 511 := (b0_14 hT :); have ob15 : (0 : Int) ≤ (th 15) ∧ (th 15) ≤ 1 := (b0_15 hT :); have ob16 : (0 : Int) ≤ zz103 ∧ zz103 ≤ 20 := (b0_16 hT :); have ob17 : (0 : Int) ≤ (th 17) ∧ (th 17) ≤ 1 := (b0_17 hT :); have ob18 : (0 : Int) ≤ zz67 ∧ zz67 ≤ 18 := (b0_18 hT :); have ob38 : (0 : Int) ≤ (th 38) ∧ (th 38) ≤ 400 := (b0_38 hT :); have ob39 : (0 : Int) ≤ (th 39) ∧ (th 39) ≤ 200 := (b0_39 hT :); have ob44 : (0 : Int) ≤ x153.toInt ∧ x153.toInt ≤ 30 := (b0_44 hT :); have orn := rnd_b (th 10); obtain ⟨o0a, o0b⟩ := (hv14_160 : In _ _ _); obtain ⟨o1a, o1b⟩ := (hv15_160 : In _ _ _); obtain ⟨o2a, o2b⟩ := (hv17_160 : In _ _ _); obtain ⟨o3a, o3b⟩ := (hv20_160 : In _ _ _); obtain ⟨o4a, o4b⟩ := (hv23_160 : In _ _ _); obtain ⟨o5a, o5b⟩ := (hv25_160 : In _ _ _); obtain ⟨o6a, o6b⟩ := (hv36_160 : In _ _ _); obtain ⟨o7a, o7b⟩ := (hv47_160 : In _ _ _); obtain ⟨o8a, o8b⟩ := (hv48_160 : In _ _ _); obtain ⟨o9a, o9b⟩ := (hv53_160 : In _ _ _); obtain ⟨o10a, o10b⟩ := (hv55_160 : In _ _ _); omega))) cV_X11_laysDown wg_1620 ⟨Nat.le_of_ble_eq_true rfl, Nat.le_of_ble_eq_true rfl⟩ hG hE hA hP hD hS (hst.1 255 (by decide)) hf161 rfl rfl hl.1 (As := []) (rest := []) rfl (Nat.le_of_ble_eq_true rfl) dX11_say_190 ⟨Nat.le_of_ble_eq_true rfl, Nat.le_of_ble_eq_true rfl⟩) hA hD hS (fun L163 f164 H locs hp165 hP hD hS => ?_)
                  obtain ⟨eL166L, eL166T, eL166F⟩ := hp165
                  have eL166L : L163 = L := eL166L
                  rw [eL166L] at hP hD
                  obtain ⟨zz167, zz168, hzz167, eL166T⟩ := eL166T
                  have hzz167 : zz167 = zz67 ∧ zz168 = 2126 := hzz167
                  have hT : TI g ad (gset (gset (gset (gset (gset (gset (gset th 18 zz67) 14 zz68) 16 zz103) 24 zz104) 44 x153.toInt) 19 zz167) 22 zz168) f164 := eL166T
                  have eL166F : ∀ b, b ≠ (ad 255) → b ≠ (ad 271) → f164 b = f156 b := eL166F
                  have hf169 := (eL166F (ad 260) (hst.ne (by decide) (by decide) (by decide)) (hst.ne (by decide) (by decide) (by decide))).trans hf159
                  refine lv_aload_n hx hb dX11_say_193 rfl (lv_at hl 1 rfl) ?_
                  refine M0e hT (fun v0_170 v2_170 v3_170 v4_170 v5_170 v6_170 v8_170 v9_170 v12_170 v13_170 v14_170 v15_170 v16_170 v17_170 v18_170 v19_170 v20_170 v21_170 v22_170 v23_170 v25_170 v36_170 v37_170 v38_170 v39_170 v40_170 v45_170 v46_170 v47_170 v48_170 v50_170 v51_170 v53_170 v55_170 hf171 hv0_170 hv2_170 hg2_170 hv3_170 hg3_170 hv4_170 hg4_170 hv5_170 hg5_170 hv6_170 hg6_170 hv8_170 hg8_170 hv9_170 hg9_170 hv12_170 hv13_170 hg13_170 hv14_170 hg14_170 hv15_170 hg15_170 hv17_170 hg17_170 hv20_170 hg20_170 hv23_170 hg23_170 hv25_170 hg25_170 hv36_170 hg36_170 hv47_170 hg47_170 hv48_170 hg48_170 hv53_170 hg53_170 hv55_170 hg55_170 hrel0_170 => ?_)
                  have hg15_170 : v15_170.toInt = th 11 := hg15_170
                  have hg17_170 : v17_170.toInt = th 12 := hg17_170
                  have hg20_170 : v20_170.toInt = zz68 := hg20_170
                  refine pl_get (v := .int v25_170) hx hb hts (fun w h => mT (inX11 w h)) hown hG.1 hP (hst.1 255 (by decide)) hf171 rfl 25 (by decide) (hts _ (mT wg_1361)) (fun _ h => h) rfl dX11_say_194 ?_
                  have hg25_170 : v25_170.toInt = x153.toInt := hg25_170
                  exact ret_i (ty := .int) hx hb hr hlocks (rfl) hP hD hS (Nat.le_of_ble_eq_true rfl) (Nat.le_of_ble_eq_true rfl) (⟨rfl, ⟨(gset (gset (gset (gset (gset (gset (gset th 18 zz67) 14 zz68) 16 zz103) 24 zz104) 44 x153.toInt) 19 zz167) 22 zz168), ⟨(show MI (gset (gset (gset (gset (gset (gset (gset th 18 zz67) 14 zz68) 16 zz103) 24 zz104) 44 x153.toInt) 19 zz167) 22 zz168) from ⟨m1, m2, (show th 20 = (th 12) * rnd (th 10) from m3), m4, (show zz168 = 2126 from (by have ob10 : (0 : Int) ≤ (th 10) ∧ (th 10) ≤ 1 := (b0_10 hT :); have ob11 : (0 : Int) ≤ (th 11) ∧ (th 11) ≤ 9 := (b0_11 hT :); have ob12 : (0 : Int) ≤ (th 12) ∧ (th 12) ≤ 6 := (b0_12 hT :); have ob14 : (0 : Int) ≤ zz68 ∧ zz68 ≤ 511 := (b0_14 hT :); have ob15 : (0 : Int) ≤ (th 15) ∧ (th 15) ≤ 1 := (b0_15 hT :); have ob16 : (0 : Int) ≤ zz103 ∧ zz103 ≤ 20 := (b0_16 hT :); have ob17 : (0 : Int) ≤ (th 17) ∧ (th 17) ≤ 1 := (b0_17 hT :); have ob18 : (0 : Int) ≤ zz67 ∧ zz67 ≤ 18 := (b0_18 hT :); have ob38 : (0 : Int) ≤ (th 38) ∧ (th 38) ≤ 400 := (b0_38 hT :); have ob39 : (0 : Int) ≤ (th 39) ∧ (th 39) ≤ 200 := (b0_39 hT :); have ob44 : (0 : Int) ≤ x153.toInt ∧ x153.toInt ≤ 30 := (b0_44 hT :); have orn := rnd_b (th 10); obtain ⟨o0a, o0b⟩ := (hb26 : In _ _ _); obtain ⟨o1a, o1b⟩ := (hb27 : In _ _ _); obtain ⟨o2a, o2b⟩ := (hb39 : In _ _ _); obtain ⟨o3a, o3b⟩ := (hb51 : In _ _ _); obtain ⟨o4a, o4b⟩ := (hb61 : In _ _ _); obtain ⟨o5a, o5b⟩ := (hb108 : In _ _ _); obtain ⟨o6a, o6b⟩ := (hv14_170 : In _ _ _); obtain ⟨o7a, o7b⟩ := (hv15_170 : In _ _ _); obtain ⟨o8a, o8b⟩ := (hv17_170 : In _ _ _); obtain ⟨o9a, o9b⟩ := (hv20_170 : In _ _ _); obtain ⟨o10a, o10b⟩ := (hv23_170 : In _ _ _); obtain ⟨o11a, o11b⟩ := (hv25_170 : In _ _ _); obtain ⟨o12a, o12b⟩ := (hv36_170 : In _ _ _); obtain ⟨o13a, o13b⟩ := (hv47_170 : In _ _ _); obtain ⟨o14a, o14b⟩ := (hv48_170 : In _ _ _); obtain ⟨o15a, o15b⟩ := (hv53_170 : In _ _ _); obtain ⟨o16a, o16b⟩ := (hv55_170 : In _ _ _); obtain ⟨o17a, o17b⟩ := (hv25_105 : In _ _ _); omega)), m6, (show zz104 = 2126 * zz103 from (by have ob10 : (0 : Int) ≤ (th 10) ∧ (th 10) ≤ 1 := (b0_10 hT :); have ob11 : (0 : Int) ≤ (th 11) ∧ (th 11) ≤ 9 := (b0_11 hT :); have ob12 : (0 : Int) ≤ (th 12) ∧ (th 12) ≤ 6 := (b0_12 hT :); have ob14 : (0 : Int) ≤ zz68 ∧ zz68 ≤ 511 := (b0_14 hT :); have ob15 : (0 : Int) ≤ (th 15) ∧ (th 15) ≤ 1 := (b0_15 hT :); have ob16 : (0 : Int) ≤ zz103 ∧ zz103 ≤ 20 := (b0_16 hT :); have ob17 : (0 : Int) ≤ (th 17) ∧ (th 17) ≤ 1 := (b0_17 hT :); have ob18 : (0 : Int) ≤ zz67 ∧ zz67 ≤ 18 := (b0_18 hT :); have ob38 : (0 : Int) ≤ (th 38) ∧ (th 38) ≤ 400 := (b0_38 hT :); have ob39 : (0 : Int) ≤ (th 39) ∧ (th 39) ≤ 200 := (b0_39 hT :); have ob44 : (0 : Int) ≤ x153.toInt ∧ x153.toInt ≤ 30 := (b0_44 hT :); have orn := rnd_b (th 10); obtain ⟨o0a, o0b⟩ := (hb26 : In _ _ _); obtain ⟨o1a, o1b⟩ := (hb27 : In _ _ _); obtain ⟨o2a, o2b⟩ := (hb39 : In _ _ _); obtain ⟨o3a, o3b⟩ := (hb51 : In _ _ _); obtain ⟨o4a, o4b⟩ := (hb61 : In _ _ _); obtain ⟨o5a, o5b⟩ := (hb108 : In _ _ _); obtain ⟨o6a, o6b⟩ := (hv14_170 : In _ _ _); obtain ⟨o7a, o7b⟩ := (hv15_170 : In _ _ _); obtain ⟨o8a, o8b⟩ := (hv17_170 : In _ _ _); obtain ⟨o9a, o9b⟩ := (hv20_170 : In _ _ _); obtain ⟨o10a, o10b⟩ := (hv23_170 : In _ _ _); obtain ⟨o11a, o11b⟩ := (hv25_170 : In _ _ _); obtain ⟨o12a, o12b⟩ := (hv36_170 : In _ _ _); obtain ⟨o13a, o13b⟩ := (hv47_170 : In _ _ _); obtain ⟨o14a, o14b⟩ := (hv48_170 : In _ _ _); obtain ⟨o15a, o15b⟩ := (hv53_170 : In _ _ _); obtain ⟨o16a, o16b⟩ := (hv55_170 : In _ _ _); obtain ⟨o17a, o17b⟩ := (hv25_105 : In _ _ _); omega)), (show 0 ≤ zz103 ∧ zz103 ≤ 20 from (by have ob10 : (0 : Int) ≤ (th 10) ∧ (th 10) ≤ 1 := (b0_10 hT :); have ob11 : (0 : Int) ≤ (th 11) ∧ (th 11) ≤ 9 := (b0_11 hT :); have ob12 : (0 : Int) ≤ (th 12) ∧ (th 12) ≤ 6 := (b0_12 hT :); have ob14 : (0 : Int) ≤ zz68 ∧ zz68 ≤ 511 := (b0_14 hT :); have ob15 : (0 : Int) ≤ (th 15) ∧ (th 15) ≤ 1 := (b0_15 hT :); have ob16 : (0 : Int) ≤ zz103 ∧ zz103 ≤ 20 := (b0_16 hT :); have ob17 : (0 : Int) ≤ (th 17) ∧ (th 17) ≤ 1 := (b0_17 hT :); have ob18 : (0 : Int) ≤ zz67 ∧ zz67 ≤ 18 := (b0_18 hT :); have ob38 : (0 : Int) ≤ (th 38) ∧ (th 38) ≤ 400 := (b0_38 hT :); have ob39 : (0 : Int) ≤ (th 39) ∧ (th 39) ≤ 200 := (b0_39 hT :); have ob44 : (0 : Int) ≤ x153.toInt ∧ x153.toInt ≤ 30 := (b0_44 hT :); have orn := rnd_b (th 10); obtain ⟨o0a, o0b⟩ := (hb26 : In _ _ _); obtain ⟨o1a, o1b⟩ := (hb27 : In _ _ _); obtain ⟨o2a, o2b⟩ := (hb39 : In _ _ _); obtain ⟨o3a, o3b⟩ := (hb51 : In _ _ _); obtain ⟨o4a, o4b⟩ := (hb61 : In _ _ _); obtain ⟨o5a, o5b⟩ := (hb108 : In _ _ _); obtain ⟨o6a, o6b⟩ := (hv14_170 : In _ _ _); obtain ⟨o7a, o7b⟩ := (hv15_170 : In _ _ _); obtain ⟨o8a, o8b⟩ := (hv17_170 : In _ _ _); obtain ⟨o9a, o9b⟩ := (hv20_170 : In _ _ _); obtain ⟨o10a, o10b⟩ := (hv23_170 : In _ _ _); obtain ⟨o11a, o11b⟩ := (hv25_170 : In _ _ _); obtain ⟨o12a, o12b⟩ := (hv36_170 : In _ _ _); obtain ⟨o13a, o13b⟩ := (hv47_170 : In _ _ _); obtain ⟨o14a, o14b⟩ := (hv48_170 : In _ _ _); obtain ⟨o15a, o15b⟩ := (hv53_170 : In _ _ _); obtain ⟨o16a, o16b⟩ := (hv55_170 : In _ _ _); obtain ⟨o17a, o17b⟩ := (hv25_105 : In _ _ _); omega)), (show 0 ≤ zz167 ∧ zz167 ≤ th 20 from (by have ob10 : (0 : Int) ≤ (th 10) ∧ (th 10) ≤ 1 := (b0_10 hT :); have ob11 : (0 : Int) ≤ (th 11) ∧ (th 11) ≤ 9 := (b0_11 hT :); have ob12 : (0 : Int) ≤ (th 12) ∧ (th 12) ≤ 6 := (b0_12 hT :); have ob14 : (0 : Int) ≤ zz68 ∧ zz68 ≤ 511 := (b0_14 hT :); have ob15 : (0 : Int) ≤ (th 15) ∧ (th 15) ≤ 1 := (b0_15 hT :); have ob16 : (0 : Int) ≤ zz103 ∧ zz103 ≤ 20 := (b0_16 hT :); have ob17 : (0 : Int) ≤ (th 17) ∧ (th 17) ≤ 1 := (b0_17 hT :); have ob18 : (0 : Int) ≤ zz67 ∧ zz67 ≤ 18 := (b0_18 hT :); have ob38 : (0 : Int) ≤ (th 38) ∧ (th 38) ≤ 400 := (b0_38 hT :); have ob39 : (0 : Int) ≤ (th 39) ∧ (th 39) ≤ 200 := (b0_39 hT :); have ob44 : (0 : Int) ≤ x153.toInt ∧ x153.toInt ≤ 30 := (b0_44 hT :); have orn := rnd_b (th 10); obtain ⟨o0a, o0b⟩ := (hb26 : In _ _ _); obtain ⟨o1a, o1b⟩ := (hb27 : In _ _ _); obtain ⟨o2a, o2b⟩ := (hb39 : In _ _ _); obtain ⟨o3a, o3b⟩ := (hb51 : In _ _ _); obtain ⟨o4a, o4b⟩ := (hb61 : In _ _ _); obtain ⟨o5a, o5b⟩ := (hb108 : In _ _ _); obtain ⟨o6a, o6b⟩ := (hv14_170 : In _ _ _); obtain ⟨o7a, o7b⟩ := (hv15_170 : In _ _ _); obtain ⟨o8a, o8b⟩ := (hv17_170 : In _ _ _); obtain ⟨o9a, o9b⟩ := (hv20_170 : In _ _ _); obtain ⟨o10a, o10b⟩ := (hv23_170 : In _ _ _); obtain ⟨o11a, o11b⟩ := (hv25_170 : In _ _ _); obtain ⟨o12a, o12b⟩ := (hv36_170 : In _ _ _); obtain ⟨o13a, o13b⟩ := (hv47_170 : In _ _ _); obtain ⟨o14a, o14b⟩ := (hv48_170 : In _ _ _); obtain ⟨o15a, o15b⟩ := (hv53_170 : In _ _ _); obtain ⟨o16a, o16b⟩ := (hv55_170 : In _ _ _); obtain ⟨o17a, o17b⟩ := (hv25_105 : In _ _ _); omega)), m10⟩), (SBM.set (k := 22) (SBM.set (k := 19) (SBM.set (k := 44) (SBM.set (k := 24) (SBM.set (k := 16) (SBM.set (k := 14) (SBM.set (k := 18) (SBM.rf th) (by decide)) (by decide)) (by decide)) (by decide)) (by decide)) (by decide)) (by decide))⟩, hT⟩⟩) dX11_say_197
                ·
                  have oc30 : (30 : Int32).toInt = 30 := by decide
                  have cc172 : v25_70.toInt = (30 : Int32).toInt := congrArg Int32.toInt c95
                  have hb173 : In v25_70 30 30 := In.eq1 hv25_70 (⟨by decide, by decide⟩ : In 30 30 30) cc172 (by decide) (by decide)
                  refine lv_aload_n hx hb dX11_say_111 rfl (lv_at hl 0 rfl) ?_
                  refine lv_iconst (v := 4) hx hb dX11_say_112 (by decide) ?_
                  refine call_i (run_V (rm := rm_X11_refuse) hx hb hml hown hts (s_X11_refuse l g ad (gset (gset (gset th 18 zz67) 14 zz68) 44 zz69) _ _ _ 4 hst hT (⟨by decide, by decide⟩ : In 4 0 4)) cV_X11_refuse wg_1710 ⟨Nat.le_of_ble_eq_true rfl, Nat.le_of_ble_eq_true rfl⟩ hG hE hA hP hD hS (hst.1 255 (by decide)) hf71 rfl rfl hl.1 (As := [.int 4]) (rest := []) rfl (Nat.le_of_ble_eq_true rfl) dX11_say_113 ⟨Nat.le_of_ble_eq_true rfl, Nat.le_of_ble_eq_true rfl⟩) hA hD hS (fun r174 L175 f176 H locs hp177 hP hD hS => ?_)
                  obtain ⟨eL178L, eL178T, eL178F⟩ := hp177
                  have eL178L : L175 = L := eL178L
                  rw [eL178L] at hP hD
                  have hT : TI g ad (gset (gset (gset th 18 zz67) 14 zz68) 44 zz69) f176 := eL178T
                  have eL178F : ∀ b, b ≠ (ad 275) → f176 b = f64 b := eL178F
                  have hf179 := (eL178F (ad 255) (hst.ne (by decide) (by decide) (by decide))).trans hf71
                  exact ret_i (ty := .int) hx hb hr hlocks (rfl) hP hD hS (Nat.le_of_ble_eq_true rfl) (Nat.le_of_ble_eq_true rfl) (⟨rfl, ⟨(gset (gset (gset th 18 zz67) 14 zz68) 44 zz69), ⟨(show MI (gset (gset (gset th 18 zz67) 14 zz68) 44 zz69) from ⟨m1, m2, (show th 20 = (th 12) * rnd (th 10) from m3), m4, m5, m6, m7, m8, m9, m10⟩), (SBM.set (k := 44) (SBM.set (k := 14) (SBM.set (k := 18) (SBM.rf th) (by decide)) (by decide)) (by decide))⟩, hT⟩⟩) dX11_say_116
              ·
                have cc180 : x89.toInt < v36_70.toInt := i32_nle c92
                have hb181 : In v36_70 1 18 := In.lt2 hb90 hv36_70 cc180 (by decide) (by decide)
                refine lv_aload_n hx hb dX11_say_96 rfl (lv_at hl 0 rfl) ?_
                refine lv_iconst (v := 3) hx hb dX11_say_97 (by decide) ?_
                refine call_i (run_V (rm := rm_X11_refuse) hx hb hml hown hts (s_X11_refuse l g ad (gset (gset (gset th 18 zz67) 14 zz68) 44 zz69) _ _ _ 3 hst hT (⟨by decide, by decide⟩ : In 3 0 4)) cV_X11_refuse wg_1710 ⟨Nat.le_of_ble_eq_true rfl, Nat.le_of_ble_eq_true rfl⟩ hG hE hA hP hD hS (hst.1 255 (by decide)) hf71 rfl rfl hl.1 (As := [.int 3]) (rest := []) rfl (Nat.le_of_ble_eq_true rfl) dX11_say_98 ⟨Nat.le_of_ble_eq_true rfl, Nat.le_of_ble_eq_true rfl⟩) hA hD hS (fun r182 L183 f184 H locs hp185 hP hD hS => ?_)
                obtain ⟨eL186L, eL186T, eL186F⟩ := hp185
                have eL186L : L183 = L := eL186L
                rw [eL186L] at hP hD
                have hT : TI g ad (gset (gset (gset th 18 zz67) 14 zz68) 44 zz69) f184 := eL186T
                have eL186F : ∀ b, b ≠ (ad 275) → f184 b = f64 b := eL186F
                have hf187 := (eL186F (ad 255) (hst.ne (by decide) (by decide) (by decide))).trans hf71
                exact ret_i (ty := .int) hx hb hr hlocks (rfl) hP hD hS (Nat.le_of_ble_eq_true rfl) (Nat.le_of_ble_eq_true rfl) (⟨rfl, ⟨(gset (gset (gset th 18 zz67) 14 zz68) 44 zz69), ⟨(show MI (gset (gset (gset th 18 zz67) 14 zz68) 44 zz69) from ⟨m1, m2, (show th 20 = (th 12) * rnd (th 10) from m3), m4, m5, m6, m7, m8, m9, m10⟩), (SBM.set (k := 44) (SBM.set (k := 14) (SBM.set (k := 18) (SBM.rf th) (by decide)) (by decide)) (by decide))⟩, hT⟩⟩) dX11_say_101
            ·
              have oc0 : (0 : Int32).toInt = 0 := by decide
              have cc188 : r72.toInt = (0 : Int32).toInt := congrArg Int32.toInt c78
              have hb189 : In r72 0 0 := In.eq1 eL76R (⟨by decide, by decide⟩ : In 0 0 0) cc188 (by decide) (by decide)
              refine lv_aload_n hx hb dX11_say_75 rfl (lv_at hl 0 rfl) ?_
              refine lv_iconst (v := 2) hx hb dX11_say_76 (by decide) ?_
              refine call_i (run_V (rm := rm_X11_refuse) hx hb hml hown hts (s_X11_refuse l g ad (gset (gset (gset th 18 zz67) 14 zz68) 44 zz69) _ _ _ 2 hst hT (⟨by decide, by decide⟩ : In 2 0 4)) cV_X11_refuse wg_1710 ⟨Nat.le_of_ble_eq_true rfl, Nat.le_of_ble_eq_true rfl⟩ hG hE hA hP hD hS (hst.1 255 (by decide)) hf71 rfl rfl hl.1 (As := [.int 2]) (rest := []) rfl (Nat.le_of_ble_eq_true rfl) dX11_say_77 ⟨Nat.le_of_ble_eq_true rfl, Nat.le_of_ble_eq_true rfl⟩) hA hD hS (fun r190 L191 f192 H locs hp193 hP hD hS => ?_)
              obtain ⟨eL194L, eL194T, eL194F⟩ := hp193
              have eL194L : L191 = L := eL194L
              rw [eL194L] at hP hD
              have hT : TI g ad (gset (gset (gset th 18 zz67) 14 zz68) 44 zz69) f192 := eL194T
              have eL194F : ∀ b, b ≠ (ad 275) → f192 b = f64 b := eL194F
              have hf195 := (eL194F (ad 255) (hst.ne (by decide) (by decide) (by decide))).trans hf71
              exact ret_i (ty := .int) hx hb hr hlocks (rfl) hP hD hS (Nat.le_of_ble_eq_true rfl) (Nat.le_of_ble_eq_true rfl) (⟨rfl, ⟨(gset (gset (gset th 18 zz67) 14 zz68) 44 zz69), ⟨(show MI (gset (gset (gset th 18 zz67) 14 zz68) 44 zz69) from ⟨m1, m2, (show th 20 = (th 12) * rnd (th 10) from m3), m4, m5, m6, m7, m8, m9, m10⟩), (SBM.set (k := 44) (SBM.set (k := 14) (SBM.set (k := 18) (SBM.rf th) (by decide)) (by decide)) (by decide))⟩, hT⟩⟩) dX11_say_80
          ·
            have oc0 : (0 : Int32).toInt = 0 := by decide
            have cc196 : r52.toInt = (0 : Int32).toInt := congrArg Int32.toInt c58
            have hb197 : In r52 0 0 := In.eq1 eL56R (⟨by decide, by decide⟩ : In 0 0 0) cc196 (by decide) (by decide)
            exact hJ57 _ _ _ hP hD hS (lv_sub hl [0, 1, 2, 3, 4, 5] rfl)
  ·
    have oc0 : (0 : Int32).toInt = 0 := by decide
    have cc198 : v23_1.toInt = (0 : Int32).toInt := congrArg Int32.toInt c6
    have hb199 : In v23_1 0 0 := In.eq1 hv23_1 (⟨by decide, by decide⟩ : In 0 0 0) cc198 (by decide) (by decide)
    refine lv_aload_n hx hb dX11_say_12 rfl (lv_at hl 0 rfl) ?_
    refine lv_iconst (v := 0) hx hb dX11_say_13 (by decide) ?_
    refine call_i (run_V (rm := rm_X11_refuse) hx hb hml hown hts (s_X11_refuse l g ad th _ _ _ 0 hst hT (⟨by decide, by decide⟩ : In 0 0 4)) cV_X11_refuse wg_1710 ⟨Nat.le_of_ble_eq_true rfl, Nat.le_of_ble_eq_true rfl⟩ hG hE hA hP hD hS (hst.1 255 (by decide)) hf4 rfl rfl hl.1 (As := [.int 0]) (rest := []) rfl (Nat.le_of_ble_eq_true rfl) dX11_say_14 ⟨Nat.le_of_ble_eq_true rfl, Nat.le_of_ble_eq_true rfl⟩) hA hD hS (fun r200 L201 f202 H locs hp203 hP hD hS => ?_)
    obtain ⟨eL204L, eL204T, eL204F⟩ := hp203
    have eL204L : L201 = L := eL204L
    rw [eL204L] at hP hD
    have hT : TI g ad th f202 := eL204T
    have eL204F : ∀ b, b ≠ (ad 275) → f202 b = f3 b := eL204F
    have hf205 := (eL204F (ad 255) (hst.ne (by decide) (by decide) (by decide))).trans hf4
    exact ret_i (ty := .int) hx hb hr hlocks (rfl) hP hD hS (Nat.le_of_ble_eq_true rfl) (Nat.le_of_ble_eq_true rfl) (⟨rfl, ⟨th, ⟨(show MI th from hM), (SBM.rf th)⟩, hT⟩⟩) dX11_say_17

abbrev rm_X11_starts_ : Room := { frames := 1, cells := 0, slots := 0, locals := 25 }
abbrev po_X11_starts_ (g : GG) (ad : Nat → Nat) (th : Nat → Int) (L : List Nat) (f : HP) (z1 : Int32) : Int32 → (List Nat × HP) → Prop := fun r u => u.1 = L ∧ (∃ th' : Nat → Int, (MI th' ∧ SBM th th') ∧ TI g ad th' u.2)
set_option maxHeartbeats 4000000 in
set_option maxRecDepth 100000 in
theorem s_X11_starts_ (l : Launch) (g : GG) (ad : Nat → Nat) (th : Nat → Int) (L : List Nat) (f : HP) (sz : Nat) (z1 : Int32) (hst : ST ad L) (hT : TI g ad th f) (hM : MI th) : MtI l g yX11_starts_ cX11_starts_ 3 (some .int) rm_X11_starts_ [.ref (ad 255), .int z1] L f sz (po_X11_starts_ g ad th L f z1) := by
  refine MtI.of (by decide +kernel) (Nat.le_of_ble_eq_true rfl) ?_
  intro p e s m below meth c A hEn hP hD hS ls hl
  obtain ⟨hx, hb, hr, hml, hown, hlocks, hts, hG, hA, hE, hnm⟩ := hEn
  have hown : s.vm.findClass "RulerWordModel" = some m.cls := hown
  have hl : lv_has ls 3 [(0, .ref (ad 255)), (1, .int z1)] := hl
  have hM0 := hM
  obtain ⟨m1, m2, m3, m4, m5, m6, m7, m8, m9, m10⟩ := hM0
  have m20 := mi20 m2 m3
  refine lv_aload_n hx hb dX11_starts__0 rfl (lv_at hl 0 rfl) ?_
  refine lv_iconst (v := 0) hx hb dX11_starts__1 (by decide) ?_
  refine M0e hT (fun v0_1 v2_1 v3_1 v4_1 v5_1 v6_1 v8_1 v9_1 v12_1 v13_1 v14_1 v15_1 v16_1 v17_1 v18_1 v19_1 v20_1 v21_1 v22_1 v23_1 v25_1 v36_1 v37_1 v38_1 v39_1 v40_1 v45_1 v46_1 v47_1 v48_1 v50_1 v51_1 v53_1 v55_1 hf2 hv0_1 hv2_1 hg2_1 hv3_1 hg3_1 hv4_1 hg4_1 hv5_1 hg5_1 hv6_1 hg6_1 hv8_1 hg8_1 hv9_1 hg9_1 hv12_1 hv13_1 hg13_1 hv14_1 hg14_1 hv15_1 hg15_1 hv17_1 hg17_1 hv20_1 hg20_1 hv23_1 hg23_1 hv25_1 hg25_1 hv36_1 hg36_1 hv47_1 hg47_1 hv48_1 hg48_1 hv53_1 hg53_1 hv55_1 hg55_1 hrel0_1 => ?_)
  have hg15_1 : v15_1.toInt = th 11 := hg15_1
  have hg17_1 : v17_1.toInt = th 12 := hg17_1
  have hg20_1 : v20_1.toInt = th 14 := hg20_1
  refine pl_put (ty := .int) (v := .int 0) (fs' := [.int 0, .ref (ad 256), .int v2_1, .int v3_1, .int v4_1, .int v5_1, .int v6_1, .ref (ad 257), .int v8_1, .int v9_1, .ref (ad 258), .ref (ad 259), .int v12_1, .int v13_1, .int v14_1, .int v15_1, .int v16_1, .int v17_1, .int v18_1, .int v19_1, .int v20_1, .long v21_1, .long v22_1, .int v23_1, .ref (ad 260), .int v25_1, .ref (ad 261), .ref (ad 262), .ref (ad 263), .ref (ad 264), .ref (ad 265), .ref (ad 266), .ref (ad 267), .ref (ad 268), .ref (ad 269), .ref (ad 270), .int v36_1, .int v37_1, .int v38_1, .int v39_1, .int v40_1, .ref (ad 271), .ref (ad 272), .ref (ad 273), .ref (ad 274), .long v45_1, .long v46_1, .int v47_1, .int v48_1, .ref (ad 275), .int v50_1, .int v51_1, .ref (ad 276), .int v53_1, .ref (ad 277), .int v55_1]) hx hb hts (fun w h => mT (inX11 w h)) tyX11 tyX11_ok nmX11 hown hG.1 hP hD hS (hst.1 255 (by decide)) hf2 rfl 0 (by decide) (hts _ (mT wg_1336)) (fun _ h => h) rfl (by decide +kernel) (rfl) (rfl) (Nat.le_of_ble_eq_true rfl) rfl dX11_starts__2 (fun H locs f3 hf4 ho5 hP hD hS => ?_)
  refine lv_aload_n hx hb dX11_starts__5 rfl (lv_at hl 0 rfl) ?_
  refine pl_get (v := .int v23_1) hx hb hts (fun w h => mT (inX11 w h)) hown hG.1 hP (hst.1 255 (by decide)) hf4 rfl 23 (by decide) (hts _ (mT wg_1359)) (fun _ h => h) rfl dX11_starts__6 ?_
  have hg23_1 : v23_1.toInt = th 15 := hg23_1
  have hT := TI.updM hT hst (k := 0) (by decide) hf4 ho5 ⟨0, v2_1, v3_1, v4_1, v5_1, v6_1, v8_1, v9_1, v12_1, v13_1, v14_1, v15_1, v16_1, v17_1, v18_1, v19_1, v20_1, v21_1, v22_1, v23_1, v25_1, v36_1, v37_1, v38_1, v39_1, v40_1, v45_1, v46_1, v47_1, v48_1, v50_1, v51_1, v53_1, v55_1, rfl, (⟨by decide, by decide⟩ : In 0 0 1), hv2_1, hg2_1, hv3_1, hg3_1, hv4_1, hg4_1, hv5_1, hg5_1, hv6_1, hg6_1, hv8_1, hg8_1, hv9_1, hg9_1, hv12_1, hv13_1, hg13_1, hv14_1, hg14_1, hv15_1, hg15_1, hv17_1, hg17_1, hv20_1, hg20_1, hv23_1, hg23_1, hv25_1, hg25_1, hv36_1, hg36_1, hv47_1, hg47_1, hv48_1, hg48_1, hv53_1, hg53_1, hv55_1, hg55_1, hrel0_1⟩
  refine lv_if_ne (tgt := 18) hx hb dX11_starts__9 (by decide) (fun c6 => ?_) (fun c6 => ?_)
  ·
    have oc0 : (0 : Int32).toInt = 0 := by decide
    have cc7 : v23_1.toInt ≠ (0 : Int32).toInt := i32_ne c6
    have hb8 : In v23_1 1 1 := In.ne1 hv23_1 (⟨by decide, by decide⟩ : In 0 0 0) cc7 (by decide) (by decide)
    refine lv_iload_n hx hb dX11_starts__18 rfl (lv_at hl 1 rfl) ?_
    refine lv_i2l hx hb dX11_starts__19 rfl ?_
    refine lv_lconst (v := 0) hx hb dX11_starts__20 (by decide) ?_
    refine lv_iconst (v := 1) hx hb dX11_starts__21 (by decide) ?_
    refine lv_aload_n hx hb dX11_starts__22 rfl (lv_at hl 0 rfl) ?_
    refine pl_get (v := .int v15_1) hx hb hts (fun w h => mT (inX11 w h)) hown hG.1 hP (hst.1 255 (by decide)) hf4 rfl 15 (by decide) (hts _ (mT wg_1351)) (fun _ h => h) rfl dX11_starts__23 ?_
    refine lv_ishl hx hb dX11_starts__26 ?_
    refine lv_topi (fun x9 ex9 => ?_)
    have hb10 : In x9 1 512 := ex9 ▸ In.shl (⟨by decide, by decide⟩ : In 1 1 1) hv15_1 (by decide) (by decide) (by decide) (by decide) (by decide) (by decide)
    refine lv_iconst (v := 1) hx hb dX11_starts__27 (by decide) ?_
    refine lv_isub hx hb dX11_starts__28 ?_
    refine lv_topi (fun x11 ex11 => ?_)
    have hb12 : In x11 0 511 := ex11 ▸ In.sub hb10 (⟨by decide, by decide⟩ : In 1 1 1) (by decide) (by decide) (by decide) (by decide)
    have et13 : x11.toInt = x9.toInt + (-1) := In.sube ex11 hb10 (k := 1) (by decide) (by decide) (by decide)
    refine lv_i2l hx hb dX11_starts__29 rfl ?_
    refine call_i (run_S (rm := rm_X11_isIn) hx hb hml hown hts (s_X11_isIn l g ad th _ _ _ (z1.toInt64) 0 (x11.toInt64) hst hT ) cS_X11_isIn wg_1581 ⟨Nat.le_of_ble_eq_true rfl, Nat.le_of_ble_eq_true rfl⟩ hG hE hA hP hD hS rfl hl.1 (As := [.long (z1.toInt64), .long 0, .long (x11.toInt64)]) (rest := []) rfl (Nat.le_of_ble_eq_true rfl) dX11_starts__30 ⟨Nat.le_of_ble_eq_true rfl, Nat.le_of_ble_eq_true rfl⟩) hA hD hS (fun r14 L15 f16 H locs hp17 hP hD hS => ?_)
    obtain ⟨eL18L, eL18T, eL18R, eL18X0, eL18X1⟩ := hp17
    have eL18L : L15 = L := eL18L
    have eL18T : f16 = f3 := eL18T
    rw [eL18L, eL18T] at hP hD
    have eL18R : In r14 0 1 := eL18R
    have hii19 : r14.toInt = 0 ∨ (0 ≤ z1.toInt ∧ z1.toInt ≤ x11.toInt) := by have z := eL18X0; rw [i2l_t z1, (by decide : (0 : Int64).toInt = 0), i2l_t x11] at z; exact z
    have hii19w : ¬ r14 = 0 → In z1 0 511 := fun c => by have c2 := i32_ne c; have e0 : (0 : Int32).toInt = 0 := (by decide); obtain ⟨o1, p1⟩ := (hb12 : In _ _ _); exact ⟨by omega, by omega⟩
    refine lv_if_ne (tgt := 42) hx hb dX11_starts__33 (by decide) (fun c20 => ?_) (fun c20 => ?_)
    ·
      have oc0 : (0 : Int32).toInt = 0 := by decide
      have cc21 : r14.toInt ≠ (0 : Int32).toInt := i32_ne c20
      have hb22 : In r14 1 1 := In.ne1 eL18R (⟨by decide, by decide⟩ : In 0 0 0) cc21 (by decide) (by decide)
      have hb23 : In z1 0 511 := In.both (hii19w c20) (In.full z1) (by decide) (by decide)
      refine lv_aload_n hx hb dX11_starts__42 rfl (lv_at hl 0 rfl) ?_
      refine call_v (run_V (rm := rm_X11_takesUp) hx hb hml hown hts (s_X11_takesUp l g ad th _ _ _  hst hT (show (th 22) = 2126 from (by have ob10 : (0 : Int) ≤ (th 10) ∧ (th 10) ≤ 1 := (b0_10 hT :); have ob11 : (0 : Int) ≤ (th 11) ∧ (th 11) ≤ 9 := (b0_11 hT :); have ob12 : (0 : Int) ≤ (th 12) ∧ (th 12) ≤ 6 := (b0_12 hT :); have ob14 : (0 : Int) ≤ (th 14) ∧ (th 14) ≤ 511 := (b0_14 hT :); have ob15 : (0 : Int) ≤ (th 15) ∧ (th 15) ≤ 1 := (b0_15 hT :); have ob16 : (0 : Int) ≤ (th 16) ∧ (th 16) ≤ 20 := (b0_16 hT :); have ob17 : (0 : Int) ≤ (th 17) ∧ (th 17) ≤ 1 := (b0_17 hT :); have ob18 : (0 : Int) ≤ (th 18) ∧ (th 18) ≤ 18 := (b0_18 hT :); have ob38 : (0 : Int) ≤ (th 38) ∧ (th 38) ≤ 400 := (b0_38 hT :); have ob39 : (0 : Int) ≤ (th 39) ∧ (th 39) ≤ 200 := (b0_39 hT :); have ob44 : (0 : Int) ≤ (th 44) ∧ (th 44) ≤ 30 := (b0_44 hT :); have orn := rnd_b (th 10); obtain ⟨o0a, o0b⟩ := (hv14_1 : In _ _ _); obtain ⟨o1a, o1b⟩ := (hv15_1 : In _ _ _); obtain ⟨o2a, o2b⟩ := (hv17_1 : In _ _ _); obtain ⟨o3a, o3b⟩ := (hv20_1 : In _ _ _); obtain ⟨o4a, o4b⟩ := (hb8 : In _ _ _); obtain ⟨o5a, o5b⟩ := (hv25_1 : In _ _ _); obtain ⟨o6a, o6b⟩ := (hv36_1 : In _ _ _); obtain ⟨o7a, o7b⟩ := (hv47_1 : In _ _ _); obtain ⟨o8a, o8b⟩ := (hv48_1 : In _ _ _); obtain ⟨o9a, o9b⟩ := (hv53_1 : In _ _ _); obtain ⟨o10a, o10b⟩ := (hv55_1 : In _ _ _); omega)) (show (th 20) ≤ 18 from (by have ob10 : (0 : Int) ≤ (th 10) ∧ (th 10) ≤ 1 := (b0_10 hT :); have ob11 : (0 : Int) ≤ (th 11) ∧ (th 11) ≤ 9 := (b0_11 hT :); have ob12 : (0 : Int) ≤ (th 12) ∧ (th 12) ≤ 6 := (b0_12 hT :); have ob14 : (0 : Int) ≤ (th 14) ∧ (th 14) ≤ 511 := (b0_14 hT :); have ob15 : (0 : Int) ≤ (th 15) ∧ (th 15) ≤ 1 := (b0_15 hT :); have ob16 : (0 : Int) ≤ (th 16) ∧ (th 16) ≤ 20 := (b0_16 hT :); have ob17 : (0 : Int) ≤ (th 17) ∧ (th 17) ≤ 1 := (b0_17 hT :); have ob18 : (0 : Int) ≤ (th 18) ∧ (th 18) ≤ 18 := (b0_18 hT :); have ob38 : (0 : Int) ≤ (th 38) ∧ (th 38) ≤ 400 := (b0_38 hT :); have ob39 : (0 : Int) ≤ (th 39) ∧ (th 39) ≤ 200 := (b0_39 hT :); have ob44 : (0 : Int) ≤ (th 44) ∧ (th 44) ≤ 30 := (b0_44 hT :); have orn := rnd_b (th 10); obtain ⟨o0a, o0b⟩ := (hv14_1 : In _ _ _); obtain ⟨o1a, o1b⟩ := (hv15_1 : In _ _ _); obtain ⟨o2a, o2b⟩ := (hv17_1 : In _ _ _); obtain ⟨o3a, o3b⟩ := (hv20_1 : In _ _ _); obtain ⟨o4a, o4b⟩ := (hb8 : In _ _ _); obtain ⟨o5a, o5b⟩ := (hv25_1 : In _ _ _); obtain ⟨o6a, o6b⟩ := (hv36_1 : In _ _ _); obtain ⟨o7a, o7b⟩ := (hv47_1 : In _ _ _); obtain ⟨o8a, o8b⟩ := (hv48_1 : In _ _ _); obtain ⟨o9a, o9b⟩ := (hv53_1 : In _ _ _); obtain ⟨o10a, o10b⟩ := (hv55_1 : In _ _ _); omega)) (show (th 21) = (th 11) from (by have ob10 : (0 : Int) ≤ (th 10) ∧ (th 10) ≤ 1 := (b0_10 hT :); have ob11 : (0 : Int) ≤ (th 11) ∧ (th 11) ≤ 9 := (b0_11 hT :); have ob12 : (0 : Int) ≤ (th 12) ∧ (th 12) ≤ 6 := (b0_12 hT :); have ob14 : (0 : Int) ≤ (th 14) ∧ (th 14) ≤ 511 := (b0_14 hT :); have ob15 : (0 : Int) ≤ (th 15) ∧ (th 15) ≤ 1 := (b0_15 hT :); have ob16 : (0 : Int) ≤ (th 16) ∧ (th 16) ≤ 20 := (b0_16 hT :); have ob17 : (0 : Int) ≤ (th 17) ∧ (th 17) ≤ 1 := (b0_17 hT :); have ob18 : (0 : Int) ≤ (th 18) ∧ (th 18) ≤ 18 := (b0_18 hT :); have ob38 : (0 : Int) ≤ (th 38) ∧ (th 38) ≤ 400 := (b0_38 hT :); have ob39 : (0 : Int) ≤ (th 39) ∧ (th 39) ≤ 200 := (b0_39 hT :); have ob44 : (0 : Int) ≤ (th 44) ∧ (th 44) ≤ 30 := (b0_44 hT :); have orn := rnd_b (th 10); obtain ⟨o0a, o0b⟩ := (hv14_1 : In _ _ _); obtain ⟨o1a, o1b⟩ := (hv15_1 : In _ _ _); obtain ⟨o2a, o2b⟩ := (hv17_1 : In _ _ _); obtain ⟨o3a, o3b⟩ := (hv20_1 : In _ _ _); obtain ⟨o4a, o4b⟩ := (hb8 : In _ _ _); obtain ⟨o5a, o5b⟩ := (hv25_1 : In _ _ _); obtain ⟨o6a, o6b⟩ := (hv36_1 : In _ _ _); obtain ⟨o7a, o7b⟩ := (hv47_1 : In _ _ _); obtain ⟨o8a, o8b⟩ := (hv48_1 : In _ _ _); obtain ⟨o9a, o9b⟩ := (hv53_1 : In _ _ _); obtain ⟨o10a, o10b⟩ := (hv55_1 : In _ _ _); omega))) cV_X11_takesUp wg_1648 ⟨Nat.le_of_ble_eq_true rfl, Nat.le_of_ble_eq_true rfl⟩ hG hE hA hP hD hS (hst.1 255 (by decide)) hf4 rfl rfl hl.1 (As := []) (rest := []) rfl (Nat.le_of_ble_eq_true rfl) dX11_starts__43 ⟨Nat.le_of_ble_eq_true rfl, Nat.le_of_ble_eq_true rfl⟩) hA hD hS (fun L25 f26 H locs hp27 hP hD hS => ?_)
      obtain ⟨eL28L, eL28T, eL28F⟩ := hp27
      have eL28L : L25 = L := eL28L
      rw [eL28L] at hP hD
      obtain ⟨zz29, zz30, zz31, hzz29, eL28T⟩ := eL28T
      have hzz29 : ((zz29 = (th 19) ∧ 0 ≤ zz29 ∧ zz29 ≤ (th 20)) ∧ (0 ≤ zz30 ∧ zz30 ≤ 511)) ∧ capI zz30 ((th 11)) := hzz29
      have hT : TI g ad (gset (gset (gset th 18 zz29) 14 zz30) 44 zz31) f26 := eL28T
      have eL28F : ∀ b, b ≠ (ad 255) → b ≠ (ad 265) → b ≠ (ad 266) → b ≠ (ad 267) → b ≠ (ad 269) → b ≠ (ad 260) → b ≠ (ad 261) → b ≠ (ad 262) → b ≠ (ad 263) → b ≠ (ad 264) → f26 b = f3 b := eL28F
      refine lv_aload_n hx hb dX11_starts__46 rfl (lv_at hl 0 rfl) ?_
      refine M0e hT (fun v0_32 v2_32 v3_32 v4_32 v5_32 v6_32 v8_32 v9_32 v12_32 v13_32 v14_32 v15_32 v16_32 v17_32 v18_32 v19_32 v20_32 v21_32 v22_32 v23_32 v25_32 v36_32 v37_32 v38_32 v39_32 v40_32 v45_32 v46_32 v47_32 v48_32 v50_32 v51_32 v53_32 v55_32 hf33 hv0_32 hv2_32 hg2_32 hv3_32 hg3_32 hv4_32 hg4_32 hv5_32 hg5_32 hv6_32 hg6_32 hv8_32 hg8_32 hv9_32 hg9_32 hv12_32 hv13_32 hg13_32 hv14_32 hg14_32 hv15_32 hg15_32 hv17_32 hg17_32 hv20_32 hg20_32 hv23_32 hg23_32 hv25_32 hg25_32 hv36_32 hg36_32 hv47_32 hg47_32 hv48_32 hg48_32 hv53_32 hg53_32 hv55_32 hg55_32 hrel0_32 => ?_)
      have hg15_32 : v15_32.toInt = th 11 := hg15_32
      have hg17_32 : v17_32.toInt = th 12 := hg17_32
      have hg20_32 : v20_32.toInt = zz30 := hg20_32
      refine pl_get (v := .int v36_32) hx hb hts (fun w h => mT (inX11 w h)) hown hG.1 hP (hst.1 255 (by decide)) hf33 rfl 36 (by decide) (hts _ (mT wg_1372)) (fun _ h => h) rfl dX11_starts__47 ?_
      have hg36_32 : v36_32.toInt = zz29 := hg36_32
      refine lv_if_le (tgt := 59) hx hb dX11_starts__50 (by decide) (fun c34 => ?_) (fun c34 => ?_)
      ·
        have oc0 : (0 : Int32).toInt = 0 := by decide
        have cc35 : v36_32.toInt ≤ (0 : Int32).toInt := i32_le.mp c34
        have hb36 : In v36_32 0 0 := In.le1 hv36_32 (⟨by decide, by decide⟩ : In 0 0 0) cc35 (by decide) (by decide)
        refine lv_aload_n hx hb dX11_starts__59 rfl (lv_at hl 0 rfl) ?_
        refine call_v (run_V (rm := rm_X11_keeps) hx hb hml hown hts (s_X11_keeps l g ad (gset (gset (gset th 18 zz29) 14 zz30) 44 zz31) _ _ _  hst hT (show MI (gset (gset (gset th 18 zz29) 14 zz30) 44 zz31) from ⟨m1, m2, (show th 20 = (th 12) * rnd (th 10) from m3), m4, m5, m6, m7, m8, m9, m10⟩)) cV_X11_keeps wg_1644 ⟨Nat.le_of_ble_eq_true rfl, Nat.le_of_ble_eq_true rfl⟩ hG hE hA hP hD hS (hst.1 255 (by decide)) hf33 rfl rfl hl.1 (As := []) (rest := []) rfl (Nat.le_of_ble_eq_true rfl) dX11_starts__60 ⟨Nat.le_of_ble_eq_true rfl, Nat.le_of_ble_eq_true rfl⟩) hA hD hS (fun L38 f39 H locs hp40 hP hD hS => ?_)
        obtain ⟨eL41L, eL41T, eL41F⟩ := hp40
        have eL41L : L38 = L := eL41L
        rw [eL41L] at hP hD
        obtain ⟨zz42, zz43, hzz42, eL41T⟩ := eL41T
        have hzz42 : (1 ≤ zz42 ∧ zz42 ≤ 20) ∧ zz43 = 2126 * zz42 := hzz42
        have hT : TI g ad (gset (gset (gset (gset (gset th 18 zz29) 14 zz30) 44 zz31) 16 zz42) 24 zz43) f39 := eL41T
        have eL41F : ∀ b, b ≠ (ad 255) → b ≠ (ad 273) → b ≠ (ad 274) → f39 b = f26 b := eL41F
        refine lv_aload_n hx hb dX11_starts__63 rfl (lv_at hl 0 rfl) ?_
        refine M0e hT (fun v0_44 v2_44 v3_44 v4_44 v5_44 v6_44 v8_44 v9_44 v12_44 v13_44 v14_44 v15_44 v16_44 v17_44 v18_44 v19_44 v20_44 v21_44 v22_44 v23_44 v25_44 v36_44 v37_44 v38_44 v39_44 v40_44 v45_44 v46_44 v47_44 v48_44 v50_44 v51_44 v53_44 v55_44 hf45 hv0_44 hv2_44 hg2_44 hv3_44 hg3_44 hv4_44 hg4_44 hv5_44 hg5_44 hv6_44 hg6_44 hv8_44 hg8_44 hv9_44 hg9_44 hv12_44 hv13_44 hg13_44 hv14_44 hg14_44 hv15_44 hg15_44 hv17_44 hg17_44 hv20_44 hg20_44 hv23_44 hg23_44 hv25_44 hg25_44 hv36_44 hg36_44 hv47_44 hg47_44 hv48_44 hg48_44 hv53_44 hg53_44 hv55_44 hg55_44 hrel0_44 => ?_)
        have hg15_44 : v15_44.toInt = th 11 := hg15_44
        have hg17_44 : v17_44.toInt = th 12 := hg17_44
        have hg20_44 : v20_44.toInt = zz30 := hg20_44
        refine pl_get (v := .int v19_44) hx hb hts (fun w h => mT (inX11 w h)) hown hG.1 hP (hst.1 255 (by decide)) hf45 rfl 19 (by decide) (hts _ (mT wg_1355)) (fun _ h => h) rfl dX11_starts__64 ?_
        refine lv_istore_n (lv' := [(2, .int v19_44), (0, .ref (ad 255)), (1, .int z1)]) hx hb dX11_starts__67 rfl hl (by decide) rfl (fun ls hl => ?_)
        refine lv_aload_n hx hb dX11_starts__68 rfl (lv_at hl 1 rfl) ?_
        refine lv_iload_n hx hb dX11_starts__69 rfl (lv_at hl 2 rfl) ?_
        refine pl_put (ty := .int) (v := .int z1) (fs' := [.int v0_44, .ref (ad 256), .int v2_44, .int v3_44, .int v4_44, .int v5_44, .int v6_44, .ref (ad 257), .int v8_44, .int v9_44, .ref (ad 258), .ref (ad 259), .int v12_44, .int v13_44, .int v14_44, .int v15_44, .int v16_44, .int v17_44, .int v18_44, .int z1, .int v20_44, .long v21_44, .long v22_44, .int v23_44, .ref (ad 260), .int v25_44, .ref (ad 261), .ref (ad 262), .ref (ad 263), .ref (ad 264), .ref (ad 265), .ref (ad 266), .ref (ad 267), .ref (ad 268), .ref (ad 269), .ref (ad 270), .int v36_44, .int v37_44, .int v38_44, .int v39_44, .int v40_44, .ref (ad 271), .ref (ad 272), .ref (ad 273), .ref (ad 274), .long v45_44, .long v46_44, .int v47_44, .int v48_44, .ref (ad 275), .int v50_44, .int v51_44, .ref (ad 276), .int v53_44, .ref (ad 277), .int v55_44]) hx hb hts (fun w h => mT (inX11 w h)) tyX11 tyX11_ok nmX11 hown hG.1 hP hD hS (hst.1 255 (by decide)) hf45 rfl 19 (by decide) (hts _ (mT wg_1355)) (fun _ h => h) rfl (by decide +kernel) (rfl) (rfl) (Nat.le_of_ble_eq_true rfl) rfl dX11_starts__70 (fun H locs f46 hf47 ho48 hP hD hS => ?_)
        refine lv_aload_n hx hb dX11_starts__73 rfl (lv_at hl 1 rfl) ?_
        have hT := TI.updM hT hst (k := 0) (by decide) hf47 ho48 ⟨v0_44, v2_44, v3_44, v4_44, v5_44, v6_44, v8_44, v9_44, v12_44, v13_44, v14_44, v15_44, v16_44, v17_44, v18_44, z1, v20_44, v21_44, v22_44, v23_44, v25_44, v36_44, v37_44, v38_44, v39_44, v40_44, v45_44, v46_44, v47_44, v48_44, v50_44, v51_44, v53_44, v55_44, rfl, hv0_44, hv2_44, hg2_44, hv3_44, hg3_44, hv4_44, hg4_44, hv5_44, hg5_44, hv6_44, hg6_44, hv8_44, hg8_44, hv9_44, hg9_44, hv12_44, hv13_44, hg13_44, hv14_44, hg14_44, hv15_44, hg15_44, hv17_44, hg17_44, hv20_44, hg20_44, hv23_44, hg23_44, hv25_44, hg25_44, hv36_44, hg36_44, hv47_44, hg47_44, hv48_44, hg48_44, hv53_44, hg53_44, hv55_44, hg55_44, hrel0_44⟩
        refine call_v (run_V (rm := rm_X11_startsAnew) hx hb hml hown hts (s_X11_startsAnew l g ad (gset (gset (gset (gset (gset th 18 zz29) 14 zz30) 44 zz31) 16 zz42) 24 zz43) _ _ _  hst hT ) cV_X11_startsAnew wg_1616 ⟨Nat.le_of_ble_eq_true rfl, Nat.le_of_ble_eq_true rfl⟩ hG hE hA hP hD hS (hst.1 255 (by decide)) hf47 rfl rfl hl.1 (As := []) (rest := []) rfl (Nat.le_of_ble_eq_true rfl) dX11_starts__74 ⟨Nat.le_of_ble_eq_true rfl, Nat.le_of_ble_eq_true rfl⟩) hA hD hS (fun L50 f51 H locs hp52 hP hD hS => ?_)
        obtain ⟨eL53L, eL53T, eL53F⟩ := hp52
        have eL53L : L50 = L := eL53L
        rw [eL53L] at hP hD
        have hT : TI g ad (gset (gset (gset (gset (gset (gset th 18 zz29) 14 zz30) 44 zz31) 16 zz42) 24 zz43) 18 0) f51 := eL53T
        have hT : TI g ad (gset (gset (gset (gset (gset th 14 zz30) 44 zz31) 16 zz42) 24 zz43) 18 0) f51 := TI.cast hT (by funext q; by_cases hq0 : q = 18; (subst hq0; rfl); by_cases hq1 : q = 24; (subst hq1; rfl); by_cases hq2 : q = 16; (subst hq2; rfl); by_cases hq3 : q = 44; (subst hq3; rfl); by_cases hq4 : q = 14; (subst hq4; rfl); simp only [gset, if_neg hq0, if_neg hq1, if_neg hq2, if_neg hq3, if_neg hq4])
        have eL53F : ∀ b, b ≠ (ad 255) → b ≠ (ad 261) → b ≠ (ad 262) → f51 b = f46 b := eL53F
        refine lv_aload_n hx hb dX11_starts__77 rfl (lv_at hl 1 rfl) ?_
        refine M0e hT (fun v0_54 v2_54 v3_54 v4_54 v5_54 v6_54 v8_54 v9_54 v12_54 v13_54 v14_54 v15_54 v16_54 v17_54 v18_54 v19_54 v20_54 v21_54 v22_54 v23_54 v25_54 v36_54 v37_54 v38_54 v39_54 v40_54 v45_54 v46_54 v47_54 v48_54 v50_54 v51_54 v53_54 v55_54 hf55 hv0_54 hv2_54 hg2_54 hv3_54 hg3_54 hv4_54 hg4_54 hv5_54 hg5_54 hv6_54 hg6_54 hv8_54 hg8_54 hv9_54 hg9_54 hv12_54 hv13_54 hg13_54 hv14_54 hg14_54 hv15_54 hg15_54 hv17_54 hg17_54 hv20_54 hg20_54 hv23_54 hg23_54 hv25_54 hg25_54 hv36_54 hg36_54 hv47_54 hg47_54 hv48_54 hg48_54 hv53_54 hg53_54 hv55_54 hg55_54 hrel0_54 => ?_)
        have hg15_54 : v15_54.toInt = th 11 := hg15_54
        have hg17_54 : v17_54.toInt = th 12 := hg17_54
        have hg20_54 : v20_54.toInt = zz30 := hg20_54
        refine call_v (run_V (rm := rm_X11_laysDown) hx hb hml hown hts (s_X11_laysDown l g ad (gset (gset (gset (gset (gset th 14 zz30) 44 zz31) 16 zz42) 24 zz43) 18 0) _ _ _  hst hT (show 0 ≤ (th 20) from (by have ob10 : (0 : Int) ≤ (th 10) ∧ (th 10) ≤ 1 := (b0_10 hT :); have ob11 : (0 : Int) ≤ (th 11) ∧ (th 11) ≤ 9 := (b0_11 hT :); have ob12 : (0 : Int) ≤ (th 12) ∧ (th 12) ≤ 6 := (b0_12 hT :); have ob14 : (0 : Int) ≤ zz30 ∧ zz30 ≤ 511 := (b0_14 hT :); have ob15 : (0 : Int) ≤ (th 15) ∧ (th 15) ≤ 1 := (b0_15 hT :); have ob16 : (0 : Int) ≤ zz42 ∧ zz42 ≤ 20 := (b0_16 hT :); have ob17 : (0 : Int) ≤ (th 17) ∧ (th 17) ≤ 1 := (b0_17 hT :); have ob18 : (0 : Int) ≤ (0 : Int) ∧ (0 : Int) ≤ 18 := (b0_18 hT :); have ob38 : (0 : Int) ≤ (th 38) ∧ (th 38) ≤ 400 := (b0_38 hT :); have ob39 : (0 : Int) ≤ (th 39) ∧ (th 39) ≤ 200 := (b0_39 hT :); have ob44 : (0 : Int) ≤ zz31 ∧ zz31 ≤ 30 := (b0_44 hT :); have orn := rnd_b (th 10); obtain ⟨o0a, o0b⟩ := (hv14_54 : In _ _ _); obtain ⟨o1a, o1b⟩ := (hv15_54 : In _ _ _); obtain ⟨o2a, o2b⟩ := (hv17_54 : In _ _ _); obtain ⟨o3a, o3b⟩ := (hv20_54 : In _ _ _); obtain ⟨o4a, o4b⟩ := (hv23_54 : In _ _ _); obtain ⟨o5a, o5b⟩ := (hv25_54 : In _ _ _); obtain ⟨o6a, o6b⟩ := (hv36_54 : In _ _ _); obtain ⟨o7a, o7b⟩ := (hv47_54 : In _ _ _); obtain ⟨o8a, o8b⟩ := (hv48_54 : In _ _ _); obtain ⟨o9a, o9b⟩ := (hv53_54 : In _ _ _); obtain ⟨o10a, o10b⟩ := (hv55_54 : In _ _ _); omega)) (show (th 11) = (th 21) from (by have ob10 : (0 : Int) ≤ (th 10) ∧ (th 10) ≤ 1 := (b0_10 hT :); have ob11 : (0 : Int) ≤ (th 11) ∧ (th 11) ≤ 9 := (b0_11 hT :); have ob12 : (0 : Int) ≤ (th 12) ∧ (th 12) ≤ 6 := (b0_12 hT :); have ob14 : (0 : Int) ≤ zz30 ∧ zz30 ≤ 511 := (b0_14 hT :); have ob15 : (0 : Int) ≤ (th 15) ∧ (th 15) ≤ 1 := (b0_15 hT :); have ob16 : (0 : Int) ≤ zz42 ∧ zz42 ≤ 20 := (b0_16 hT :); have ob17 : (0 : Int) ≤ (th 17) ∧ (th 17) ≤ 1 := (b0_17 hT :); have ob18 : (0 : Int) ≤ (0 : Int) ∧ (0 : Int) ≤ 18 := (b0_18 hT :); have ob38 : (0 : Int) ≤ (th 38) ∧ (th 38) ≤ 400 := (b0_38 hT :); have ob39 : (0 : Int) ≤ (th 39) ∧ (th 39) ≤ 200 := (b0_39 hT :); have ob44 : (0 : Int) ≤ zz31 ∧ zz31 ≤ 30 := (b0_44 hT :); have orn := rnd_b (th 10); obtain ⟨o0a, o0b⟩ := (hv14_54 : In _ _ _); obtain ⟨o1a, o1b⟩ := (hv15_54 : In _ _ _); obtain ⟨o2a, o2b⟩ := (hv17_54 : In _ _ _); obtain ⟨o3a, o3b⟩ := (hv20_54 : In _ _ _); obtain ⟨o4a, o4b⟩ := (hv23_54 : In _ _ _); obtain ⟨o5a, o5b⟩ := (hv25_54 : In _ _ _); obtain ⟨o6a, o6b⟩ := (hv36_54 : In _ _ _); obtain ⟨o7a, o7b⟩ := (hv47_54 : In _ _ _); obtain ⟨o8a, o8b⟩ := (hv48_54 : In _ _ _); obtain ⟨o9a, o9b⟩ := (hv53_54 : In _ _ _); obtain ⟨o10a, o10b⟩ := (hv55_54 : In _ _ _); omega))) cV_X11_laysDown wg_1620 ⟨Nat.le_of_ble_eq_true rfl, Nat.le_of_ble_eq_true rfl⟩ hG hE hA hP hD hS (hst.1 255 (by decide)) hf55 rfl rfl hl.1 (As := []) (rest := []) rfl (Nat.le_of_ble_eq_true rfl) dX11_starts__78 ⟨Nat.le_of_ble_eq_true rfl, Nat.le_of_ble_eq_true rfl⟩) hA hD hS (fun L57 f58 H locs hp59 hP hD hS => ?_)
        obtain ⟨eL60L, eL60T, eL60F⟩ := hp59
        have eL60L : L57 = L := eL60L
        rw [eL60L] at hP hD
        obtain ⟨zz61, zz62, hzz61, eL60T⟩ := eL60T
        have hzz61 : zz61 = 0 ∧ zz62 = 2126 := hzz61
        have hT : TI g ad (gset (gset (gset (gset (gset (gset (gset th 14 zz30) 44 zz31) 16 zz42) 24 zz43) 18 0) 19 zz61) 22 zz62) f58 := eL60T
        have eL60F : ∀ b, b ≠ (ad 255) → b ≠ (ad 271) → f58 b = f51 b := eL60F
        refine lv_iload_n hx hb dX11_starts__81 rfl (lv_at hl 0 rfl) ?_
        exact ret_i (ty := .int) hx hb hr hlocks (rfl) hP hD hS (Nat.le_of_ble_eq_true rfl) (Nat.le_of_ble_eq_true rfl) (⟨rfl, ⟨(gset (gset (gset (gset (gset (gset (gset th 14 zz30) 44 zz31) 16 zz42) 24 zz43) 18 0) 19 zz61) 22 zz62), ⟨(show MI (gset (gset (gset (gset (gset (gset (gset th 14 zz30) 44 zz31) 16 zz42) 24 zz43) 18 0) 19 zz61) 22 zz62) from ⟨m1, m2, (show th 20 = (th 12) * rnd (th 10) from m3), m4, (show zz62 = 2126 from (by have ob10 : (0 : Int) ≤ (th 10) ∧ (th 10) ≤ 1 := (b0_10 hT :); have ob11 : (0 : Int) ≤ (th 11) ∧ (th 11) ≤ 9 := (b0_11 hT :); have ob12 : (0 : Int) ≤ (th 12) ∧ (th 12) ≤ 6 := (b0_12 hT :); have ob14 : (0 : Int) ≤ zz30 ∧ zz30 ≤ 511 := (b0_14 hT :); have ob15 : (0 : Int) ≤ (th 15) ∧ (th 15) ≤ 1 := (b0_15 hT :); have ob16 : (0 : Int) ≤ zz42 ∧ zz42 ≤ 20 := (b0_16 hT :); have ob17 : (0 : Int) ≤ (th 17) ∧ (th 17) ≤ 1 := (b0_17 hT :); have ob18 : (0 : Int) ≤ (0 : Int) ∧ (0 : Int) ≤ 18 := (b0_18 hT :); have ob38 : (0 : Int) ≤ (th 38) ∧ (th 38) ≤ 400 := (b0_38 hT :); have ob39 : (0 : Int) ≤ (th 39) ∧ (th 39) ≤ 200 := (b0_39 hT :); have ob44 : (0 : Int) ≤ zz31 ∧ zz31 ≤ 30 := (b0_44 hT :); have orn := rnd_b (th 10); obtain ⟨o0a, o0b⟩ := (hb23 : In _ _ _); omega)), m6, (show zz43 = 2126 * zz42 from (by have ob10 : (0 : Int) ≤ (th 10) ∧ (th 10) ≤ 1 := (b0_10 hT :); have ob11 : (0 : Int) ≤ (th 11) ∧ (th 11) ≤ 9 := (b0_11 hT :); have ob12 : (0 : Int) ≤ (th 12) ∧ (th 12) ≤ 6 := (b0_12 hT :); have ob14 : (0 : Int) ≤ zz30 ∧ zz30 ≤ 511 := (b0_14 hT :); have ob15 : (0 : Int) ≤ (th 15) ∧ (th 15) ≤ 1 := (b0_15 hT :); have ob16 : (0 : Int) ≤ zz42 ∧ zz42 ≤ 20 := (b0_16 hT :); have ob17 : (0 : Int) ≤ (th 17) ∧ (th 17) ≤ 1 := (b0_17 hT :); have ob18 : (0 : Int) ≤ (0 : Int) ∧ (0 : Int) ≤ 18 := (b0_18 hT :); have ob38 : (0 : Int) ≤ (th 38) ∧ (th 38) ≤ 400 := (b0_38 hT :); have ob39 : (0 : Int) ≤ (th 39) ∧ (th 39) ≤ 200 := (b0_39 hT :); have ob44 : (0 : Int) ≤ zz31 ∧ zz31 ≤ 30 := (b0_44 hT :); have orn := rnd_b (th 10); obtain ⟨o0a, o0b⟩ := (hb23 : In _ _ _); omega)), (show 0 ≤ zz42 ∧ zz42 ≤ 20 from (by have ob10 : (0 : Int) ≤ (th 10) ∧ (th 10) ≤ 1 := (b0_10 hT :); have ob11 : (0 : Int) ≤ (th 11) ∧ (th 11) ≤ 9 := (b0_11 hT :); have ob12 : (0 : Int) ≤ (th 12) ∧ (th 12) ≤ 6 := (b0_12 hT :); have ob14 : (0 : Int) ≤ zz30 ∧ zz30 ≤ 511 := (b0_14 hT :); have ob15 : (0 : Int) ≤ (th 15) ∧ (th 15) ≤ 1 := (b0_15 hT :); have ob16 : (0 : Int) ≤ zz42 ∧ zz42 ≤ 20 := (b0_16 hT :); have ob17 : (0 : Int) ≤ (th 17) ∧ (th 17) ≤ 1 := (b0_17 hT :); have ob18 : (0 : Int) ≤ (0 : Int) ∧ (0 : Int) ≤ 18 := (b0_18 hT :); have ob38 : (0 : Int) ≤ (th 38) ∧ (th 38) ≤ 400 := (b0_38 hT :); have ob39 : (0 : Int) ≤ (th 39) ∧ (th 39) ≤ 200 := (b0_39 hT :); have ob44 : (0 : Int) ≤ zz31 ∧ zz31 ≤ 30 := (b0_44 hT :); have orn := rnd_b (th 10); obtain ⟨o0a, o0b⟩ := (hb23 : In _ _ _); omega)), (show 0 ≤ zz61 ∧ zz61 ≤ th 20 from (by have ob10 : (0 : Int) ≤ (th 10) ∧ (th 10) ≤ 1 := (b0_10 hT :); have ob11 : (0 : Int) ≤ (th 11) ∧ (th 11) ≤ 9 := (b0_11 hT :); have ob12 : (0 : Int) ≤ (th 12) ∧ (th 12) ≤ 6 := (b0_12 hT :); have ob14 : (0 : Int) ≤ zz30 ∧ zz30 ≤ 511 := (b0_14 hT :); have ob15 : (0 : Int) ≤ (th 15) ∧ (th 15) ≤ 1 := (b0_15 hT :); have ob16 : (0 : Int) ≤ zz42 ∧ zz42 ≤ 20 := (b0_16 hT :); have ob17 : (0 : Int) ≤ (th 17) ∧ (th 17) ≤ 1 := (b0_17 hT :); have ob18 : (0 : Int) ≤ (0 : Int) ∧ (0 : Int) ≤ 18 := (b0_18 hT :); have ob38 : (0 : Int) ≤ (th 38) ∧ (th 38) ≤ 400 := (b0_38 hT :); have ob39 : (0 : Int) ≤ (th 39) ∧ (th 39) ≤ 200 := (b0_39 hT :); have ob44 : (0 : Int) ≤ zz31 ∧ zz31 ≤ 30 := (b0_44 hT :); have orn := rnd_b (th 10); obtain ⟨o0a, o0b⟩ := (hb23 : In _ _ _); omega)), m10⟩), (SBM.set (k := 22) (SBM.set (k := 19) (SBM.set (k := 18) (SBM.set (k := 24) (SBM.set (k := 16) (SBM.set (k := 44) (SBM.set (k := 14) (SBM.rf th) (by decide)) (by decide)) (by decide)) (by decide)) (by decide)) (by decide)) (by decide))⟩, hT⟩⟩) dX11_starts__82
      ·
        have oc0 : (0 : Int32).toInt = 0 := by decide
        have cc63 : (0 : Int32).toInt < v36_32.toInt := i32_nle c34
        have hb64 : In v36_32 1 18 := In.gt1 hv36_32 (⟨by decide, by decide⟩ : In 0 0 0) cc63 (by decide) (by decide)
        refine lv_aload_n hx hb dX11_starts__53 rfl (lv_at hl 0 rfl) ?_
        refine lv_iconst (v := 3) hx hb dX11_starts__54 (by decide) ?_
        refine call_i (run_V (rm := rm_X11_refuse) hx hb hml hown hts (s_X11_refuse l g ad (gset (gset (gset th 18 zz29) 14 zz30) 44 zz31) _ _ _ 3 hst hT (⟨by decide, by decide⟩ : In 3 0 4)) cV_X11_refuse wg_1710 ⟨Nat.le_of_ble_eq_true rfl, Nat.le_of_ble_eq_true rfl⟩ hG hE hA hP hD hS (hst.1 255 (by decide)) hf33 rfl rfl hl.1 (As := [.int 3]) (rest := []) rfl (Nat.le_of_ble_eq_true rfl) dX11_starts__55 ⟨Nat.le_of_ble_eq_true rfl, Nat.le_of_ble_eq_true rfl⟩) hA hD hS (fun r65 L66 f67 H locs hp68 hP hD hS => ?_)
        obtain ⟨eL69L, eL69T, eL69F⟩ := hp68
        have eL69L : L66 = L := eL69L
        rw [eL69L] at hP hD
        have hT : TI g ad (gset (gset (gset th 18 zz29) 14 zz30) 44 zz31) f67 := eL69T
        have eL69F : ∀ b, b ≠ (ad 275) → f67 b = f26 b := eL69F
        have hf70 := (eL69F (ad 255) (hst.ne (by decide) (by decide) (by decide))).trans hf33
        exact ret_i (ty := .int) hx hb hr hlocks (rfl) hP hD hS (Nat.le_of_ble_eq_true rfl) (Nat.le_of_ble_eq_true rfl) (⟨rfl, ⟨(gset (gset (gset th 18 zz29) 14 zz30) 44 zz31), ⟨(show MI (gset (gset (gset th 18 zz29) 14 zz30) 44 zz31) from ⟨m1, m2, (show th 20 = (th 12) * rnd (th 10) from m3), m4, m5, m6, m7, m8, m9, m10⟩), (SBM.set (k := 44) (SBM.set (k := 14) (SBM.set (k := 18) (SBM.rf th) (by decide)) (by decide)) (by decide))⟩, hT⟩⟩) dX11_starts__58
    ·
      have oc0 : (0 : Int32).toInt = 0 := by decide
      have cc71 : r14.toInt = (0 : Int32).toInt := congrArg Int32.toInt c20
      have hb72 : In r14 0 0 := In.eq1 eL18R (⟨by decide, by decide⟩ : In 0 0 0) cc71 (by decide) (by decide)
      refine lv_aload_n hx hb dX11_starts__36 rfl (lv_at hl 0 rfl) ?_
      refine lv_iconst (v := 1) hx hb dX11_starts__37 (by decide) ?_
      refine call_i (run_V (rm := rm_X11_refuse) hx hb hml hown hts (s_X11_refuse l g ad th _ _ _ 1 hst hT (⟨by decide, by decide⟩ : In 1 0 4)) cV_X11_refuse wg_1710 ⟨Nat.le_of_ble_eq_true rfl, Nat.le_of_ble_eq_true rfl⟩ hG hE hA hP hD hS (hst.1 255 (by decide)) hf4 rfl rfl hl.1 (As := [.int 1]) (rest := []) rfl (Nat.le_of_ble_eq_true rfl) dX11_starts__38 ⟨Nat.le_of_ble_eq_true rfl, Nat.le_of_ble_eq_true rfl⟩) hA hD hS (fun r73 L74 f75 H locs hp76 hP hD hS => ?_)
      obtain ⟨eL77L, eL77T, eL77F⟩ := hp76
      have eL77L : L74 = L := eL77L
      rw [eL77L] at hP hD
      have hT : TI g ad th f75 := eL77T
      have eL77F : ∀ b, b ≠ (ad 275) → f75 b = f3 b := eL77F
      have hf78 := (eL77F (ad 255) (hst.ne (by decide) (by decide) (by decide))).trans hf4
      exact ret_i (ty := .int) hx hb hr hlocks (rfl) hP hD hS (Nat.le_of_ble_eq_true rfl) (Nat.le_of_ble_eq_true rfl) (⟨rfl, ⟨th, ⟨(show MI th from hM), (SBM.rf th)⟩, hT⟩⟩) dX11_starts__41
  ·
    have oc0 : (0 : Int32).toInt = 0 := by decide
    have cc79 : v23_1.toInt = (0 : Int32).toInt := congrArg Int32.toInt c6
    have hb80 : In v23_1 0 0 := In.eq1 hv23_1 (⟨by decide, by decide⟩ : In 0 0 0) cc79 (by decide) (by decide)
    refine lv_aload_n hx hb dX11_starts__12 rfl (lv_at hl 0 rfl) ?_
    refine lv_iconst (v := 0) hx hb dX11_starts__13 (by decide) ?_
    refine call_i (run_V (rm := rm_X11_refuse) hx hb hml hown hts (s_X11_refuse l g ad th _ _ _ 0 hst hT (⟨by decide, by decide⟩ : In 0 0 4)) cV_X11_refuse wg_1710 ⟨Nat.le_of_ble_eq_true rfl, Nat.le_of_ble_eq_true rfl⟩ hG hE hA hP hD hS (hst.1 255 (by decide)) hf4 rfl rfl hl.1 (As := [.int 0]) (rest := []) rfl (Nat.le_of_ble_eq_true rfl) dX11_starts__14 ⟨Nat.le_of_ble_eq_true rfl, Nat.le_of_ble_eq_true rfl⟩) hA hD hS (fun r81 L82 f83 H locs hp84 hP hD hS => ?_)
    obtain ⟨eL85L, eL85T, eL85F⟩ := hp84
    have eL85L : L82 = L := eL85L
    rw [eL85L] at hP hD
    have hT : TI g ad th f83 := eL85T
    have eL85F : ∀ b, b ≠ (ad 275) → f83 b = f3 b := eL85F
    have hf86 := (eL85F (ad 255) (hst.ne (by decide) (by decide) (by decide))).trans hf4
    exact ret_i (ty := .int) hx hb hr hlocks (rfl) hP hD hS (Nat.le_of_ble_eq_true rfl) (Nat.le_of_ble_eq_true rfl) (⟨rfl, ⟨th, ⟨(show MI th from hM), (SBM.rf th)⟩, hT⟩⟩) dX11_starts__17

abbrev rm_X11_falseOnes : Room := { frames := 1, cells := 0, slots := 0, locals := 25 }
abbrev po_X11_falseOnes (g : GG) (ad : Nat → Nat) (th : Nat → Int) (L : List Nat) (f : HP) (z1 : Int32) : Int32 → (List Nat × HP) → Prop := fun r u => u.1 = L ∧ (∃ th' : Nat → Int, (MI th' ∧ SBM th th') ∧ TI g ad th' u.2)
set_option maxHeartbeats 4000000 in
set_option maxRecDepth 100000 in
theorem s_X11_falseOnes (l : Launch) (g : GG) (ad : Nat → Nat) (th : Nat → Int) (L : List Nat) (f : HP) (sz : Nat) (z1 : Int32) (hst : ST ad L) (hT : TI g ad th f) (hM : MI th) : MtI l g yX11_falseOnes cX11_falseOnes 6 (some .int) rm_X11_falseOnes [.ref (ad 255), .int z1] L f sz (po_X11_falseOnes g ad th L f z1) := by
  refine MtI.of (by decide +kernel) (Nat.le_of_ble_eq_true rfl) ?_
  intro p e s m below meth c A hEn hP hD hS ls hl
  obtain ⟨hx, hb, hr, hml, hown, hlocks, hts, hG, hA, hE, hnm⟩ := hEn
  have hown : s.vm.findClass "RulerWordModel" = some m.cls := hown
  have hl : lv_has ls 6 [(0, .ref (ad 255)), (1, .int z1)] := hl
  have hM0 := hM
  obtain ⟨m1, m2, m3, m4, m5, m6, m7, m8, m9, m10⟩ := hM0
  have m20 := mi20 m2 m3
  refine lv_aload_n hx hb dX11_falseOnes_0 rfl (lv_at hl 0 rfl) ?_
  refine lv_iconst (v := 0) hx hb dX11_falseOnes_1 (by decide) ?_
  refine M0e hT (fun v0_1 v2_1 v3_1 v4_1 v5_1 v6_1 v8_1 v9_1 v12_1 v13_1 v14_1 v15_1 v16_1 v17_1 v18_1 v19_1 v20_1 v21_1 v22_1 v23_1 v25_1 v36_1 v37_1 v38_1 v39_1 v40_1 v45_1 v46_1 v47_1 v48_1 v50_1 v51_1 v53_1 v55_1 hf2 hv0_1 hv2_1 hg2_1 hv3_1 hg3_1 hv4_1 hg4_1 hv5_1 hg5_1 hv6_1 hg6_1 hv8_1 hg8_1 hv9_1 hg9_1 hv12_1 hv13_1 hg13_1 hv14_1 hg14_1 hv15_1 hg15_1 hv17_1 hg17_1 hv20_1 hg20_1 hv23_1 hg23_1 hv25_1 hg25_1 hv36_1 hg36_1 hv47_1 hg47_1 hv48_1 hg48_1 hv53_1 hg53_1 hv55_1 hg55_1 hrel0_1 => ?_)
  have hg15_1 : v15_1.toInt = th 11 := hg15_1
  have hg17_1 : v17_1.toInt = th 12 := hg17_1
  have hg20_1 : v20_1.toInt = th 14 := hg20_1
  refine pl_put (ty := .int) (v := .int 0) (fs' := [.int 0, .ref (ad 256), .int v2_1, .int v3_1, .int v4_1, .int v5_1, .int v6_1, .ref (ad 257), .int v8_1, .int v9_1, .ref (ad 258), .ref (ad 259), .int v12_1, .int v13_1, .int v14_1, .int v15_1, .int v16_1, .int v17_1, .int v18_1, .int v19_1, .int v20_1, .long v21_1, .long v22_1, .int v23_1, .ref (ad 260), .int v25_1, .ref (ad 261), .ref (ad 262), .ref (ad 263), .ref (ad 264), .ref (ad 265), .ref (ad 266), .ref (ad 267), .ref (ad 268), .ref (ad 269), .ref (ad 270), .int v36_1, .int v37_1, .int v38_1, .int v39_1, .int v40_1, .ref (ad 271), .ref (ad 272), .ref (ad 273), .ref (ad 274), .long v45_1, .long v46_1, .int v47_1, .int v48_1, .ref (ad 275), .int v50_1, .int v51_1, .ref (ad 276), .int v53_1, .ref (ad 277), .int v55_1]) hx hb hts (fun w h => mT (inX11 w h)) tyX11 tyX11_ok nmX11 hown hG.1 hP hD hS (hst.1 255 (by decide)) hf2 rfl 0 (by decide) (hts _ (mT wg_1336)) (fun _ h => h) rfl (by decide +kernel) (rfl) (rfl) (Nat.le_of_ble_eq_true rfl) rfl dX11_falseOnes_2 (fun H locs f3 hf4 ho5 hP hD hS => ?_)
  refine lv_aload_n hx hb dX11_falseOnes_5 rfl (lv_at hl 0 rfl) ?_
  refine pl_get (v := .int v23_1) hx hb hts (fun w h => mT (inX11 w h)) hown hG.1 hP (hst.1 255 (by decide)) hf4 rfl 23 (by decide) (hts _ (mT wg_1359)) (fun _ h => h) rfl dX11_falseOnes_6 ?_
  have hg23_1 : v23_1.toInt = th 15 := hg23_1
  have hT := TI.updM hT hst (k := 0) (by decide) hf4 ho5 ⟨0, v2_1, v3_1, v4_1, v5_1, v6_1, v8_1, v9_1, v12_1, v13_1, v14_1, v15_1, v16_1, v17_1, v18_1, v19_1, v20_1, v21_1, v22_1, v23_1, v25_1, v36_1, v37_1, v38_1, v39_1, v40_1, v45_1, v46_1, v47_1, v48_1, v50_1, v51_1, v53_1, v55_1, rfl, (⟨by decide, by decide⟩ : In 0 0 1), hv2_1, hg2_1, hv3_1, hg3_1, hv4_1, hg4_1, hv5_1, hg5_1, hv6_1, hg6_1, hv8_1, hg8_1, hv9_1, hg9_1, hv12_1, hv13_1, hg13_1, hv14_1, hg14_1, hv15_1, hg15_1, hv17_1, hg17_1, hv20_1, hg20_1, hv23_1, hg23_1, hv25_1, hg25_1, hv36_1, hg36_1, hv47_1, hg47_1, hv48_1, hg48_1, hv53_1, hg53_1, hv55_1, hg55_1, hrel0_1⟩
  refine lv_if_ne (tgt := 18) hx hb dX11_falseOnes_9 (by decide) (fun c6 => ?_) (fun c6 => ?_)
  ·
    have oc0 : (0 : Int32).toInt = 0 := by decide
    have cc7 : v23_1.toInt ≠ (0 : Int32).toInt := i32_ne c6
    have hb8 : In v23_1 1 1 := In.ne1 hv23_1 (⟨by decide, by decide⟩ : In 0 0 0) cc7 (by decide) (by decide)
    refine lv_iload_n hx hb dX11_falseOnes_18 rfl (lv_at hl 1 rfl) ?_
    refine lv_i2l hx hb dX11_falseOnes_19 rfl ?_
    refine lv_lconst (v := 0) hx hb dX11_falseOnes_20 (by decide) ?_
    refine lv_iconst (v := 1) hx hb dX11_falseOnes_21 (by decide) ?_
    refine lv_aload_n hx hb dX11_falseOnes_22 rfl (lv_at hl 0 rfl) ?_
    refine pl_get (v := .int v15_1) hx hb hts (fun w h => mT (inX11 w h)) hown hG.1 hP (hst.1 255 (by decide)) hf4 rfl 15 (by decide) (hts _ (mT wg_1351)) (fun _ h => h) rfl dX11_falseOnes_23 ?_
    refine lv_ishl hx hb dX11_falseOnes_26 ?_
    refine lv_topi (fun x9 ex9 => ?_)
    have hb10 : In x9 1 512 := ex9 ▸ In.shl (⟨by decide, by decide⟩ : In 1 1 1) hv15_1 (by decide) (by decide) (by decide) (by decide) (by decide) (by decide)
    have hsh11 : x9.toInt = 2 ^ (th 11).toNat := by rw [(shl1 (d := 9) ex9 hv15_1 (by decide)).2, hg15_1]
    refine lv_iconst (v := 2) hx hb dX11_falseOnes_27 (by decide) ?_
    refine lv_isub hx hb dX11_falseOnes_28 ?_
    refine lv_topi (fun x12 ex12 => ?_)
    have hb13 : In x12 (-1) 510 := ex12 ▸ In.sub hb10 (⟨by decide, by decide⟩ : In 2 2 2) (by decide) (by decide) (by decide) (by decide)
    have et14 : x12.toInt = x9.toInt + (-2) := In.sube ex12 hb10 (k := 2) (by decide) (by decide) (by decide)
    refine lv_i2l hx hb dX11_falseOnes_29 rfl ?_
    refine call_i (run_S (rm := rm_X11_isIn) hx hb hml hown hts (s_X11_isIn l g ad th _ _ _ (z1.toInt64) 0 (x12.toInt64) hst hT ) cS_X11_isIn wg_1581 ⟨Nat.le_of_ble_eq_true rfl, Nat.le_of_ble_eq_true rfl⟩ hG hE hA hP hD hS rfl hl.1 (As := [.long (z1.toInt64), .long 0, .long (x12.toInt64)]) (rest := []) rfl (Nat.le_of_ble_eq_true rfl) dX11_falseOnes_30 ⟨Nat.le_of_ble_eq_true rfl, Nat.le_of_ble_eq_true rfl⟩) hA hD hS (fun r15 L16 f17 H locs hp18 hP hD hS => ?_)
    obtain ⟨eL19L, eL19T, eL19R, eL19X0, eL19X1⟩ := hp18
    have eL19L : L16 = L := eL19L
    have eL19T : f17 = f3 := eL19T
    rw [eL19L, eL19T] at hP hD
    have eL19R : In r15 0 1 := eL19R
    have hii20 : r15.toInt = 0 ∨ (0 ≤ z1.toInt ∧ z1.toInt ≤ x12.toInt) := by have z := eL19X0; rw [i2l_t z1, (by decide : (0 : Int64).toInt = 0), i2l_t x12] at z; exact z
    have hii20w : ¬ r15 = 0 → In z1 0 510 := fun c => by have c2 := i32_ne c; have e0 : (0 : Int32).toInt = 0 := (by decide); obtain ⟨o1, p1⟩ := (hb13 : In _ _ _); exact ⟨by omega, by omega⟩
    refine lv_if_ne (tgt := 42) hx hb dX11_falseOnes_33 (by decide) (fun c21 => ?_) (fun c21 => ?_)
    ·
      have oc0 : (0 : Int32).toInt = 0 := by decide
      have cc22 : r15.toInt ≠ (0 : Int32).toInt := i32_ne c21
      have hb23 : In r15 1 1 := In.ne1 eL19R (⟨by decide, by decide⟩ : In 0 0 0) cc22 (by decide) (by decide)
      have hb24 : In z1 0 510 := In.both (hii20w c21) (In.full z1) (by decide) (by decide)
      refine lv_aload_n hx hb dX11_falseOnes_42 rfl (lv_at hl 0 rfl) ?_
      refine call_v (run_V (rm := rm_X11_takesUp) hx hb hml hown hts (s_X11_takesUp l g ad th _ _ _  hst hT (show (th 22) = 2126 from (by have ob10 : (0 : Int) ≤ (th 10) ∧ (th 10) ≤ 1 := (b0_10 hT :); have ob11 : (0 : Int) ≤ (th 11) ∧ (th 11) ≤ 9 := (b0_11 hT :); have ob12 : (0 : Int) ≤ (th 12) ∧ (th 12) ≤ 6 := (b0_12 hT :); have ob14 : (0 : Int) ≤ (th 14) ∧ (th 14) ≤ 511 := (b0_14 hT :); have ob15 : (0 : Int) ≤ (th 15) ∧ (th 15) ≤ 1 := (b0_15 hT :); have ob16 : (0 : Int) ≤ (th 16) ∧ (th 16) ≤ 20 := (b0_16 hT :); have ob17 : (0 : Int) ≤ (th 17) ∧ (th 17) ≤ 1 := (b0_17 hT :); have ob18 : (0 : Int) ≤ (th 18) ∧ (th 18) ≤ 18 := (b0_18 hT :); have ob38 : (0 : Int) ≤ (th 38) ∧ (th 38) ≤ 400 := (b0_38 hT :); have ob39 : (0 : Int) ≤ (th 39) ∧ (th 39) ≤ 200 := (b0_39 hT :); have ob44 : (0 : Int) ≤ (th 44) ∧ (th 44) ≤ 30 := (b0_44 hT :); have orn := rnd_b (th 10); obtain ⟨o0a, o0b⟩ := (hv14_1 : In _ _ _); obtain ⟨o1a, o1b⟩ := (hv15_1 : In _ _ _); obtain ⟨o2a, o2b⟩ := (hv17_1 : In _ _ _); obtain ⟨o3a, o3b⟩ := (hv20_1 : In _ _ _); obtain ⟨o4a, o4b⟩ := (hb8 : In _ _ _); obtain ⟨o5a, o5b⟩ := (hv25_1 : In _ _ _); obtain ⟨o6a, o6b⟩ := (hv36_1 : In _ _ _); obtain ⟨o7a, o7b⟩ := (hv47_1 : In _ _ _); obtain ⟨o8a, o8b⟩ := (hv48_1 : In _ _ _); obtain ⟨o9a, o9b⟩ := (hv53_1 : In _ _ _); obtain ⟨o10a, o10b⟩ := (hv55_1 : In _ _ _); omega)) (show (th 20) ≤ 18 from (by have ob10 : (0 : Int) ≤ (th 10) ∧ (th 10) ≤ 1 := (b0_10 hT :); have ob11 : (0 : Int) ≤ (th 11) ∧ (th 11) ≤ 9 := (b0_11 hT :); have ob12 : (0 : Int) ≤ (th 12) ∧ (th 12) ≤ 6 := (b0_12 hT :); have ob14 : (0 : Int) ≤ (th 14) ∧ (th 14) ≤ 511 := (b0_14 hT :); have ob15 : (0 : Int) ≤ (th 15) ∧ (th 15) ≤ 1 := (b0_15 hT :); have ob16 : (0 : Int) ≤ (th 16) ∧ (th 16) ≤ 20 := (b0_16 hT :); have ob17 : (0 : Int) ≤ (th 17) ∧ (th 17) ≤ 1 := (b0_17 hT :); have ob18 : (0 : Int) ≤ (th 18) ∧ (th 18) ≤ 18 := (b0_18 hT :); have ob38 : (0 : Int) ≤ (th 38) ∧ (th 38) ≤ 400 := (b0_38 hT :); have ob39 : (0 : Int) ≤ (th 39) ∧ (th 39) ≤ 200 := (b0_39 hT :); have ob44 : (0 : Int) ≤ (th 44) ∧ (th 44) ≤ 30 := (b0_44 hT :); have orn := rnd_b (th 10); obtain ⟨o0a, o0b⟩ := (hv14_1 : In _ _ _); obtain ⟨o1a, o1b⟩ := (hv15_1 : In _ _ _); obtain ⟨o2a, o2b⟩ := (hv17_1 : In _ _ _); obtain ⟨o3a, o3b⟩ := (hv20_1 : In _ _ _); obtain ⟨o4a, o4b⟩ := (hb8 : In _ _ _); obtain ⟨o5a, o5b⟩ := (hv25_1 : In _ _ _); obtain ⟨o6a, o6b⟩ := (hv36_1 : In _ _ _); obtain ⟨o7a, o7b⟩ := (hv47_1 : In _ _ _); obtain ⟨o8a, o8b⟩ := (hv48_1 : In _ _ _); obtain ⟨o9a, o9b⟩ := (hv53_1 : In _ _ _); obtain ⟨o10a, o10b⟩ := (hv55_1 : In _ _ _); omega)) (show (th 21) = (th 11) from (by have ob10 : (0 : Int) ≤ (th 10) ∧ (th 10) ≤ 1 := (b0_10 hT :); have ob11 : (0 : Int) ≤ (th 11) ∧ (th 11) ≤ 9 := (b0_11 hT :); have ob12 : (0 : Int) ≤ (th 12) ∧ (th 12) ≤ 6 := (b0_12 hT :); have ob14 : (0 : Int) ≤ (th 14) ∧ (th 14) ≤ 511 := (b0_14 hT :); have ob15 : (0 : Int) ≤ (th 15) ∧ (th 15) ≤ 1 := (b0_15 hT :); have ob16 : (0 : Int) ≤ (th 16) ∧ (th 16) ≤ 20 := (b0_16 hT :); have ob17 : (0 : Int) ≤ (th 17) ∧ (th 17) ≤ 1 := (b0_17 hT :); have ob18 : (0 : Int) ≤ (th 18) ∧ (th 18) ≤ 18 := (b0_18 hT :); have ob38 : (0 : Int) ≤ (th 38) ∧ (th 38) ≤ 400 := (b0_38 hT :); have ob39 : (0 : Int) ≤ (th 39) ∧ (th 39) ≤ 200 := (b0_39 hT :); have ob44 : (0 : Int) ≤ (th 44) ∧ (th 44) ≤ 30 := (b0_44 hT :); have orn := rnd_b (th 10); obtain ⟨o0a, o0b⟩ := (hv14_1 : In _ _ _); obtain ⟨o1a, o1b⟩ := (hv15_1 : In _ _ _); obtain ⟨o2a, o2b⟩ := (hv17_1 : In _ _ _); obtain ⟨o3a, o3b⟩ := (hv20_1 : In _ _ _); obtain ⟨o4a, o4b⟩ := (hb8 : In _ _ _); obtain ⟨o5a, o5b⟩ := (hv25_1 : In _ _ _); obtain ⟨o6a, o6b⟩ := (hv36_1 : In _ _ _); obtain ⟨o7a, o7b⟩ := (hv47_1 : In _ _ _); obtain ⟨o8a, o8b⟩ := (hv48_1 : In _ _ _); obtain ⟨o9a, o9b⟩ := (hv53_1 : In _ _ _); obtain ⟨o10a, o10b⟩ := (hv55_1 : In _ _ _); omega))) cV_X11_takesUp wg_1648 ⟨Nat.le_of_ble_eq_true rfl, Nat.le_of_ble_eq_true rfl⟩ hG hE hA hP hD hS (hst.1 255 (by decide)) hf4 rfl rfl hl.1 (As := []) (rest := []) rfl (Nat.le_of_ble_eq_true rfl) dX11_falseOnes_43 ⟨Nat.le_of_ble_eq_true rfl, Nat.le_of_ble_eq_true rfl⟩) hA hD hS (fun L26 f27 H locs hp28 hP hD hS => ?_)
      obtain ⟨eL29L, eL29T, eL29F⟩ := hp28
      have eL29L : L26 = L := eL29L
      rw [eL29L] at hP hD
      obtain ⟨zz30, zz31, zz32, hzz30, eL29T⟩ := eL29T
      have hzz30 : ((zz30 = (th 19) ∧ 0 ≤ zz30 ∧ zz30 ≤ (th 20)) ∧ (0 ≤ zz31 ∧ zz31 ≤ 511)) ∧ capI zz31 ((th 11)) := hzz30
      have hT : TI g ad (gset (gset (gset th 18 zz30) 14 zz31) 44 zz32) f27 := eL29T
      have eL29F : ∀ b, b ≠ (ad 255) → b ≠ (ad 265) → b ≠ (ad 266) → b ≠ (ad 267) → b ≠ (ad 269) → b ≠ (ad 260) → b ≠ (ad 261) → b ≠ (ad 262) → b ≠ (ad 263) → b ≠ (ad 264) → f27 b = f3 b := eL29F
      refine lv_aload_n hx hb dX11_falseOnes_46 rfl (lv_at hl 0 rfl) ?_
      refine M0e hT (fun v0_33 v2_33 v3_33 v4_33 v5_33 v6_33 v8_33 v9_33 v12_33 v13_33 v14_33 v15_33 v16_33 v17_33 v18_33 v19_33 v20_33 v21_33 v22_33 v23_33 v25_33 v36_33 v37_33 v38_33 v39_33 v40_33 v45_33 v46_33 v47_33 v48_33 v50_33 v51_33 v53_33 v55_33 hf34 hv0_33 hv2_33 hg2_33 hv3_33 hg3_33 hv4_33 hg4_33 hv5_33 hg5_33 hv6_33 hg6_33 hv8_33 hg8_33 hv9_33 hg9_33 hv12_33 hv13_33 hg13_33 hv14_33 hg14_33 hv15_33 hg15_33 hv17_33 hg17_33 hv20_33 hg20_33 hv23_33 hg23_33 hv25_33 hg25_33 hv36_33 hg36_33 hv47_33 hg47_33 hv48_33 hg48_33 hv53_33 hg53_33 hv55_33 hg55_33 hrel0_33 => ?_)
      have hg15_33 : v15_33.toInt = th 11 := hg15_33
      have hg17_33 : v17_33.toInt = th 12 := hg17_33
      have hg20_33 : v20_33.toInt = zz31 := hg20_33
      refine pl_get (v := .int v36_33) hx hb hts (fun w h => mT (inX11 w h)) hown hG.1 hP (hst.1 255 (by decide)) hf34 rfl 36 (by decide) (hts _ (mT wg_1372)) (fun _ h => h) rfl dX11_falseOnes_47 ?_
      have hg36_33 : v36_33.toInt = zz30 := hg36_33
      refine lv_if_le (tgt := 59) hx hb dX11_falseOnes_50 (by decide) (fun c35 => ?_) (fun c35 => ?_)
      ·
        have oc0 : (0 : Int32).toInt = 0 := by decide
        have cc36 : v36_33.toInt ≤ (0 : Int32).toInt := i32_le.mp c35
        have hb37 : In v36_33 0 0 := In.le1 hv36_33 (⟨by decide, by decide⟩ : In 0 0 0) cc36 (by decide) (by decide)
        refine lv_aload_n hx hb dX11_falseOnes_59 rfl (lv_at hl 0 rfl) ?_
        refine call_v (run_V (rm := rm_X11_keeps) hx hb hml hown hts (s_X11_keeps l g ad (gset (gset (gset th 18 zz30) 14 zz31) 44 zz32) _ _ _  hst hT (show MI (gset (gset (gset th 18 zz30) 14 zz31) 44 zz32) from ⟨m1, m2, (show th 20 = (th 12) * rnd (th 10) from m3), m4, m5, m6, m7, m8, m9, m10⟩)) cV_X11_keeps wg_1644 ⟨Nat.le_of_ble_eq_true rfl, Nat.le_of_ble_eq_true rfl⟩ hG hE hA hP hD hS (hst.1 255 (by decide)) hf34 rfl rfl hl.1 (As := []) (rest := []) rfl (Nat.le_of_ble_eq_true rfl) dX11_falseOnes_60 ⟨Nat.le_of_ble_eq_true rfl, Nat.le_of_ble_eq_true rfl⟩) hA hD hS (fun L39 f40 H locs hp41 hP hD hS => ?_)
        obtain ⟨eL42L, eL42T, eL42F⟩ := hp41
        have eL42L : L39 = L := eL42L
        rw [eL42L] at hP hD
        obtain ⟨zz43, zz44, hzz43, eL42T⟩ := eL42T
        have hzz43 : (1 ≤ zz43 ∧ zz43 ≤ 20) ∧ zz44 = 2126 * zz43 := hzz43
        have hT : TI g ad (gset (gset (gset (gset (gset th 18 zz30) 14 zz31) 44 zz32) 16 zz43) 24 zz44) f40 := eL42T
        have eL42F : ∀ b, b ≠ (ad 255) → b ≠ (ad 273) → b ≠ (ad 274) → f40 b = f27 b := eL42F
        refine lv_aload_n hx hb dX11_falseOnes_63 rfl (lv_at hl 0 rfl) ?_
        refine M0e hT (fun v0_45 v2_45 v3_45 v4_45 v5_45 v6_45 v8_45 v9_45 v12_45 v13_45 v14_45 v15_45 v16_45 v17_45 v18_45 v19_45 v20_45 v21_45 v22_45 v23_45 v25_45 v36_45 v37_45 v38_45 v39_45 v40_45 v45_45 v46_45 v47_45 v48_45 v50_45 v51_45 v53_45 v55_45 hf46 hv0_45 hv2_45 hg2_45 hv3_45 hg3_45 hv4_45 hg4_45 hv5_45 hg5_45 hv6_45 hg6_45 hv8_45 hg8_45 hv9_45 hg9_45 hv12_45 hv13_45 hg13_45 hv14_45 hg14_45 hv15_45 hg15_45 hv17_45 hg17_45 hv20_45 hg20_45 hv23_45 hg23_45 hv25_45 hg25_45 hv36_45 hg36_45 hv47_45 hg47_45 hv48_45 hg48_45 hv53_45 hg53_45 hv55_45 hg55_45 hrel0_45 => ?_)
        have hg15_45 : v15_45.toInt = th 11 := hg15_45
        have hg17_45 : v17_45.toInt = th 12 := hg17_45
        have hg20_45 : v20_45.toInt = zz31 := hg20_45
        refine pl_get (v := .int v20_45) hx hb hts (fun w h => mT (inX11 w h)) hown hG.1 hP (hst.1 255 (by decide)) hf46 rfl 20 (by decide) (hts _ (mT wg_1356)) (fun _ h => h) rfl dX11_falseOnes_64 ?_
        refine lv_istore_n (lv' := [(2, .int v20_45), (0, .ref (ad 255)), (1, .int z1)]) hx hb dX11_falseOnes_67 rfl hl (by decide) rfl (fun ls hl => ?_)
        refine lv_aload_n hx hb dX11_falseOnes_68 rfl (lv_at hl 1 rfl) ?_
        refine lv_iload_n hx hb dX11_falseOnes_69 rfl (lv_at hl 2 rfl) ?_
        refine pl_put (ty := .int) (v := .int z1) (fs' := [.int v0_45, .ref (ad 256), .int v2_45, .int v3_45, .int v4_45, .int v5_45, .int v6_45, .ref (ad 257), .int v8_45, .int v9_45, .ref (ad 258), .ref (ad 259), .int v12_45, .int v13_45, .int v14_45, .int v15_45, .int v16_45, .int v17_45, .int v18_45, .int v19_45, .int z1, .long v21_45, .long v22_45, .int v23_45, .ref (ad 260), .int v25_45, .ref (ad 261), .ref (ad 262), .ref (ad 263), .ref (ad 264), .ref (ad 265), .ref (ad 266), .ref (ad 267), .ref (ad 268), .ref (ad 269), .ref (ad 270), .int v36_45, .int v37_45, .int v38_45, .int v39_45, .int v40_45, .ref (ad 271), .ref (ad 272), .ref (ad 273), .ref (ad 274), .long v45_45, .long v46_45, .int v47_45, .int v48_45, .ref (ad 275), .int v50_45, .int v51_45, .ref (ad 276), .int v53_45, .ref (ad 277), .int v55_45]) hx hb hts (fun w h => mT (inX11 w h)) tyX11 tyX11_ok nmX11 hown hG.1 hP hD hS (hst.1 255 (by decide)) hf46 rfl 20 (by decide) (hts _ (mT wg_1356)) (fun _ h => h) rfl (by decide +kernel) (rfl) (rfl) (Nat.le_of_ble_eq_true rfl) rfl dX11_falseOnes_70 (fun H locs f47 hf48 ho49 hP hD hS => ?_)
        refine lv_iconst (v := 0) hx hb dX11_falseOnes_73 (by decide) ?_
        refine lv_istore_n (lv' := [(3, .int 0), (2, .int v20_45), (0, .ref (ad 255)), (1, .int z1)]) hx hb dX11_falseOnes_74 rfl hl (by decide) rfl (fun ls hl => ?_)
        refine lv_iconst (v := 0) hx hb dX11_falseOnes_75 (by decide) ?_
        refine lv_istore (lv' := [(4, .int 0), (3, .int 0), (2, .int v20_45), (0, .ref (ad 255)), (1, .int z1)]) hx hb dX11_falseOnes_76 hl (by decide) rfl (fun ls hl => ?_)
        have hT := TI.updMG (th' := (gset (gset (gset (gset (gset (gset th 18 zz30) 14 zz31) 44 zz32) 16 zz43) 24 zz44) 14 (z1.toInt))) hT hst (k := 0) (by decide) hf48 ho49 ⟨v0_45, v2_45, v3_45, v4_45, v5_45, v6_45, v8_45, v9_45, v12_45, v13_45, v14_45, v15_45, v16_45, v17_45, v18_45, v19_45, z1, v21_45, v22_45, v23_45, v25_45, v36_45, v37_45, v38_45, v39_45, v40_45, v45_45, v46_45, v47_45, v48_45, v50_45, v51_45, v53_45, v55_45, rfl, hv0_45, hv2_45, (GHq_st hg2_45 (gset_ne (by decide))), hv3_45, (GHq_st hg3_45 (gset_ne (by decide))), hv4_45, (GHq_st hg4_45 (gset_ne (by decide))), hv5_45, (GHq_st hg5_45 (gset_ne (by decide))), hv6_45, (GHq_st hg6_45 (gset_ne (by decide))), hv8_45, (GHq_st hg8_45 (gset_ne (by decide))), hv9_45, (GHq_st hg9_45 (gset_ne (by decide))), hv12_45, hv13_45, (GHq_st hg13_45 (gset_ne (by decide))), hv14_45, (GHq_st hg14_45 (gset_ne (by decide))), hv15_45, hg15_45, hv17_45, hg17_45, (In.mono hb24 (by decide) (by decide)), rfl, hv23_45, (GHq_st hg23_45 (gset_ne (by decide))), hv25_45, (GHq_st hg25_45 (gset_ne (by decide))), hv36_45, (GHq_st hg36_45 (gset_ne (by decide))), hv47_45, (GHq_st hg47_45 (gset_ne (by decide))), hv48_45, (GHq_st hg48_45 (gset_ne (by decide))), hv53_45, (GHq_st hg53_45 (gset_ne (by decide))), hv55_45, (GHq_st hg55_45 (gset_ne (by decide))), (by rw [hg15_45]; exact Or.inr (by have ob10 : (0 : Int) ≤ (th 10) ∧ (th 10) ≤ 1 := (b0_10 hT :); have ob11 : (0 : Int) ≤ (th 11) ∧ (th 11) ≤ 9 := (b0_11 hT :); have ob12 : (0 : Int) ≤ (th 12) ∧ (th 12) ≤ 6 := (b0_12 hT :); have ob14 : (0 : Int) ≤ zz31 ∧ zz31 ≤ 511 := (b0_14 hT :); have ob15 : (0 : Int) ≤ (th 15) ∧ (th 15) ≤ 1 := (b0_15 hT :); have ob16 : (0 : Int) ≤ zz43 ∧ zz43 ≤ 20 := (b0_16 hT :); have ob17 : (0 : Int) ≤ (th 17) ∧ (th 17) ≤ 1 := (b0_17 hT :); have ob18 : (0 : Int) ≤ zz30 ∧ zz30 ≤ 18 := (b0_18 hT :); have ob38 : (0 : Int) ≤ (th 38) ∧ (th 38) ≤ 400 := (b0_38 hT :); have ob39 : (0 : Int) ≤ (th 39) ∧ (th 39) ≤ 200 := (b0_39 hT :); have ob44 : (0 : Int) ≤ zz32 ∧ zz32 ≤ 30 := (b0_44 hT :); have orn := rnd_b (th 10); obtain ⟨o0a, o0b⟩ := (hb24 : In _ _ _); obtain ⟨o1a, o1b⟩ := (hv14_45 : In _ _ _); obtain ⟨o2a, o2b⟩ := (hv15_45 : In _ _ _); obtain ⟨o3a, o3b⟩ := (hv17_45 : In _ _ _); obtain ⟨o4a, o4b⟩ := (hv23_45 : In _ _ _); obtain ⟨o5a, o5b⟩ := (hv25_45 : In _ _ _); obtain ⟨o6a, o6b⟩ := (hv36_45 : In _ _ _); obtain ⟨o7a, o7b⟩ := (hv47_45 : In _ _ _); obtain ⟨o8a, o8b⟩ := (hv48_45 : In _ _ _); obtain ⟨o9a, o9b⟩ := (hv53_45 : In _ _ _); obtain ⟨o10a, o10b⟩ := (hv55_45 : In _ _ _); omega))⟩ (fun q hq => ((gset_ne (fun e => hq (by subst e; decide))).trans rfl))
        have hT : TI g ad (gset (gset (gset (gset (gset th 18 zz30) 44 zz32) 16 zz43) 24 zz44) 14 z1.toInt) f47 := TI.cast hT (by funext q; by_cases hq0 : q = 14; (subst hq0; simp [gset]); by_cases hq1 : q = 24; (subst hq1; simp [gset]); by_cases hq2 : q = 16; (subst hq2; simp [gset]); by_cases hq3 : q = 44; (subst hq3; simp [gset]); by_cases hq4 : q = 18; (subst hq4; simp [gset]); simp only [gset, if_neg hq0, if_neg hq1, if_neg hq2, if_neg hq3, if_neg hq4])
        have hJ78 : ∀ (k78 : Nat) (y78_l3 : Int32) (y78_l4 : Int32) (f_78 : HP) (H : Heap) (locs : List Loc) (ls : Array Slot), In y78_l3 0 30 → In y78_l4 0 30 → va_P g.1 vwCl (va_pl L f_78) H → va_D A (va_pl L f_78) → va_S A s.heap H locs → TI g ad (gset (gset (gset (gset (gset th 18 zz30) 44 zz32) 16 zz43) 24 zz44) 14 z1.toInt) f_78 → (y78_l3.toInt ≤ y78_l4.toInt ∧ 0 ≤ y78_l3.toInt) → lv_has ls 6 [(0, .ref (ad 255)), (1, .int z1), (2, .int v20_45), (3, .int y78_l3), (4, .int y78_l4)] → 30 - y78_l4.toInt < ((k78 : Nat) : Int) → W p l e rm_X11_falseOnes s m [.ref (ad 255), .int z1].toArray below meth c H locs 0 0 (MQ below (va_Qi (po_X11_falseOnes g ad th L f z1) (PstB g A) A) [.ref (ad 255), .int z1].toArray s rm_X11_falseOnes.cells rm_X11_falseOnes.slots A) (F0 m 78 ls []) := by
          intro k78
          induction k78 with
          | zero =>
            intro y78_l3 y78_l4 f_78 H locs ls hy78_l3 hy78_l4 hP hD hS hT hinv78_0 hl hmz78
            exact ms0 hy78_l4 hmz78
          | succ k78 ih78 =>
            intro y78_l3 y78_l4 f_78 H locs ls hy78_l3 hy78_l4 hP hD hS hT hinv78_0 hl hmz78
            refine lv_iload hx hb dX11_falseOnes_78 (lv_at hl 4 rfl) ?_
            refine lv_aload_n hx hb dX11_falseOnes_80 rfl (lv_at hl 0 rfl) ?_
            refine M0e hT (fun v0_50 v2_50 v3_50 v4_50 v5_50 v6_50 v8_50 v9_50 v12_50 v13_50 v14_50 v15_50 v16_50 v17_50 v18_50 v19_50 v20_50 v21_50 v22_50 v23_50 v25_50 v36_50 v37_50 v38_50 v39_50 v40_50 v45_50 v46_50 v47_50 v48_50 v50_50 v51_50 v53_50 v55_50 hf51 hv0_50 hv2_50 hg2_50 hv3_50 hg3_50 hv4_50 hg4_50 hv5_50 hg5_50 hv6_50 hg6_50 hv8_50 hg8_50 hv9_50 hg9_50 hv12_50 hv13_50 hg13_50 hv14_50 hg14_50 hv15_50 hg15_50 hv17_50 hg17_50 hv20_50 hg20_50 hv23_50 hg23_50 hv25_50 hg25_50 hv36_50 hg36_50 hv47_50 hg47_50 hv48_50 hg48_50 hv53_50 hg53_50 hv55_50 hg55_50 hrel0_50 => ?_)
            have hg15_50 : v15_50.toInt = th 11 := hg15_50
            have hg17_50 : v17_50.toInt = th 12 := hg17_50
            have hg20_50 : v20_50.toInt = z1.toInt := hg20_50
            refine pl_get (v := .int v25_50) hx hb hts (fun w h => mT (inX11 w h)) hown hG.1 hP (hst.1 255 (by decide)) hf51 rfl 25 (by decide) (hts _ (mT wg_1361)) (fun _ h => h) rfl dX11_falseOnes_81 ?_
            have hg25_50 : v25_50.toInt = zz32 := hg25_50
            refine lv_icmp_ge (tgt := 155) hx hb dX11_falseOnes_84 (by decide) (fun c52 => ?_) (fun c52 => ?_)
            ·
              have cc53 : v25_50.toInt ≤ y78_l4.toInt := i32_le.mp c52
              refine lv_aload_n hx hb dX11_falseOnes_155 rfl (lv_at hl 0 rfl) ?_
              refine lv_iload_n hx hb dX11_falseOnes_156 rfl (lv_at hl 3 rfl) ?_
              refine pl_put (ty := .int) (v := .int y78_l3) (fs' := [.int v0_50, .ref (ad 256), .int v2_50, .int v3_50, .int v4_50, .int v5_50, .int v6_50, .ref (ad 257), .int v8_50, .int v9_50, .ref (ad 258), .ref (ad 259), .int v12_50, .int v13_50, .int v14_50, .int v15_50, .int v16_50, .int v17_50, .int v18_50, .int v19_50, .int v20_50, .long v21_50, .long v22_50, .int v23_50, .ref (ad 260), .int y78_l3, .ref (ad 261), .ref (ad 262), .ref (ad 263), .ref (ad 264), .ref (ad 265), .ref (ad 266), .ref (ad 267), .ref (ad 268), .ref (ad 269), .ref (ad 270), .int v36_50, .int v37_50, .int v38_50, .int v39_50, .int v40_50, .ref (ad 271), .ref (ad 272), .ref (ad 273), .ref (ad 274), .long v45_50, .long v46_50, .int v47_50, .int v48_50, .ref (ad 275), .int v50_50, .int v51_50, .ref (ad 276), .int v53_50, .ref (ad 277), .int v55_50]) hx hb hts (fun w h => mT (inX11 w h)) tyX11 tyX11_ok nmX11 hown hG.1 hP hD hS (hst.1 255 (by decide)) hf51 rfl 25 (by decide) (hts _ (mT wg_1361)) (fun _ h => h) rfl (by decide +kernel) (rfl) (rfl) (Nat.le_of_ble_eq_true rfl) rfl dX11_falseOnes_157 (fun H locs f54 hf55 ho56 hP hD hS => ?_)
              refine lv_aload_n hx hb dX11_falseOnes_160 rfl (lv_at hl 0 rfl) ?_
              have hT := TI.updMG (th' := (gset (gset (gset (gset (gset (gset th 18 zz30) 44 zz32) 16 zz43) 24 zz44) 14 z1.toInt) 44 (y78_l3.toInt))) hT hst (k := 0) (by decide) hf55 ho56 ⟨v0_50, v2_50, v3_50, v4_50, v5_50, v6_50, v8_50, v9_50, v12_50, v13_50, v14_50, v15_50, v16_50, v17_50, v18_50, v19_50, v20_50, v21_50, v22_50, v23_50, y78_l3, v36_50, v37_50, v38_50, v39_50, v40_50, v45_50, v46_50, v47_50, v48_50, v50_50, v51_50, v53_50, v55_50, rfl, hv0_50, hv2_50, (GHq_st hg2_50 (gset_ne (by decide))), hv3_50, (GHq_st hg3_50 (gset_ne (by decide))), hv4_50, (GHq_st hg4_50 (gset_ne (by decide))), hv5_50, (GHq_st hg5_50 (gset_ne (by decide))), hv6_50, (GHq_st hg6_50 (gset_ne (by decide))), hv8_50, (GHq_st hg8_50 (gset_ne (by decide))), hv9_50, (GHq_st hg9_50 (gset_ne (by decide))), hv12_50, hv13_50, (GHq_st hg13_50 (gset_ne (by decide))), hv14_50, (GHq_st hg14_50 (gset_ne (by decide))), hv15_50, hg15_50, hv17_50, hg17_50, hv20_50, (hg20_50.trans ((gset_ne (by omega)).trans ((gset_eq _ _ _))).symm), hv23_50, (GHq_st hg23_50 (gset_ne (by decide))), hy78_l3, rfl, hv36_50, (GHq_st hg36_50 (gset_ne (by decide))), hv47_50, (GHq_st hg47_50 (gset_ne (by decide))), hv48_50, (GHq_st hg48_50 (gset_ne (by decide))), hv53_50, (GHq_st hg53_50 (gset_ne (by decide))), hv55_50, (GHq_st hg55_50 (gset_ne (by decide))), hrel0_50⟩ (fun q hq => ((gset_ne (fun e => hq (by subst e; decide))).trans rfl))
              have hT : TI g ad (gset (gset (gset (gset (gset th 18 zz30) 16 zz43) 24 zz44) 14 z1.toInt) 44 y78_l3.toInt) f54 := TI.cast hT (by funext q; by_cases hq0 : q = 44; (subst hq0; simp [gset]); by_cases hq1 : q = 14; (subst hq1; simp [gset]); by_cases hq2 : q = 24; (subst hq2; simp [gset]); by_cases hq3 : q = 16; (subst hq3; simp [gset]); by_cases hq4 : q = 18; (subst hq4; simp [gset]); simp only [gset, if_neg hq0, if_neg hq1, if_neg hq2, if_neg hq3, if_neg hq4])
              refine M0e hT (fun v0_57 v2_57 v3_57 v4_57 v5_57 v6_57 v8_57 v9_57 v12_57 v13_57 v14_57 v15_57 v16_57 v17_57 v18_57 v19_57 v20_57 v21_57 v22_57 v23_57 v25_57 v36_57 v37_57 v38_57 v39_57 v40_57 v45_57 v46_57 v47_57 v48_57 v50_57 v51_57 v53_57 v55_57 hf58 hv0_57 hv2_57 hg2_57 hv3_57 hg3_57 hv4_57 hg4_57 hv5_57 hg5_57 hv6_57 hg6_57 hv8_57 hg8_57 hv9_57 hg9_57 hv12_57 hv13_57 hg13_57 hv14_57 hg14_57 hv15_57 hg15_57 hv17_57 hg17_57 hv20_57 hg20_57 hv23_57 hg23_57 hv25_57 hg25_57 hv36_57 hg36_57 hv47_57 hg47_57 hv48_57 hg48_57 hv53_57 hg53_57 hv55_57 hg55_57 hrel0_57 => ?_)
              have hg15_57 : v15_57.toInt = th 11 := hg15_57
              have hg17_57 : v17_57.toInt = th 12 := hg17_57
              have hg20_57 : v20_57.toInt = z1.toInt := hg20_57
              refine call_v (run_V (rm := rm_X11_laysDown) hx hb hml hown hts (s_X11_laysDown l g ad (gset (gset (gset (gset (gset th 18 zz30) 16 zz43) 24 zz44) 14 z1.toInt) 44 y78_l3.toInt) _ _ _  hst hT (show zz30 ≤ (th 20) from (by have ob10 : (0 : Int) ≤ (th 10) ∧ (th 10) ≤ 1 := (b0_10 hT :); have ob11 : (0 : Int) ≤ (th 11) ∧ (th 11) ≤ 9 := (b0_11 hT :); have ob12 : (0 : Int) ≤ (th 12) ∧ (th 12) ≤ 6 := (b0_12 hT :); have ob14 : (0 : Int) ≤ z1.toInt ∧ z1.toInt ≤ 511 := (b0_14 hT :); have ob15 : (0 : Int) ≤ (th 15) ∧ (th 15) ≤ 1 := (b0_15 hT :); have ob16 : (0 : Int) ≤ zz43 ∧ zz43 ≤ 20 := (b0_16 hT :); have ob17 : (0 : Int) ≤ (th 17) ∧ (th 17) ≤ 1 := (b0_17 hT :); have ob18 : (0 : Int) ≤ zz30 ∧ zz30 ≤ 18 := (b0_18 hT :); have ob38 : (0 : Int) ≤ (th 38) ∧ (th 38) ≤ 400 := (b0_38 hT :); have ob39 : (0 : Int) ≤ (th 39) ∧ (th 39) ≤ 200 := (b0_39 hT :); have ob44 : (0 : Int) ≤ y78_l3.toInt ∧ y78_l3.toInt ≤ 30 := (b0_44 hT :); have orn := rnd_b (th 10); obtain ⟨o0a, o0b⟩ := (hv14_57 : In _ _ _); obtain ⟨o1a, o1b⟩ := (hv15_57 : In _ _ _); obtain ⟨o2a, o2b⟩ := (hv17_57 : In _ _ _); obtain ⟨o3a, o3b⟩ := (hv20_57 : In _ _ _); obtain ⟨o4a, o4b⟩ := (hv23_57 : In _ _ _); obtain ⟨o5a, o5b⟩ := (hv25_57 : In _ _ _); obtain ⟨o6a, o6b⟩ := (hv36_57 : In _ _ _); obtain ⟨o7a, o7b⟩ := (hv47_57 : In _ _ _); obtain ⟨o8a, o8b⟩ := (hv48_57 : In _ _ _); obtain ⟨o9a, o9b⟩ := (hv53_57 : In _ _ _); obtain ⟨o10a, o10b⟩ := (hv55_57 : In _ _ _); omega)) (show (th 11) = (th 21) from (by have ob10 : (0 : Int) ≤ (th 10) ∧ (th 10) ≤ 1 := (b0_10 hT :); have ob11 : (0 : Int) ≤ (th 11) ∧ (th 11) ≤ 9 := (b0_11 hT :); have ob12 : (0 : Int) ≤ (th 12) ∧ (th 12) ≤ 6 := (b0_12 hT :); have ob14 : (0 : Int) ≤ z1.toInt ∧ z1.toInt ≤ 511 := (b0_14 hT :); have ob15 : (0 : Int) ≤ (th 15) ∧ (th 15) ≤ 1 := (b0_15 hT :); have ob16 : (0 : Int) ≤ zz43 ∧ zz43 ≤ 20 := (b0_16 hT :); have ob17 : (0 : Int) ≤ (th 17) ∧ (th 17) ≤ 1 := (b0_17 hT :); have ob18 : (0 : Int) ≤ zz30 ∧ zz30 ≤ 18 := (b0_18 hT :); have ob38 : (0 : Int) ≤ (th 38) ∧ (th 38) ≤ 400 := (b0_38 hT :); have ob39 : (0 : Int) ≤ (th 39) ∧ (th 39) ≤ 200 := (b0_39 hT :); have ob44 : (0 : Int) ≤ y78_l3.toInt ∧ y78_l3.toInt ≤ 30 := (b0_44 hT :); have orn := rnd_b (th 10); obtain ⟨o0a, o0b⟩ := (hv14_57 : In _ _ _); obtain ⟨o1a, o1b⟩ := (hv15_57 : In _ _ _); obtain ⟨o2a, o2b⟩ := (hv17_57 : In _ _ _); obtain ⟨o3a, o3b⟩ := (hv20_57 : In _ _ _); obtain ⟨o4a, o4b⟩ := (hv23_57 : In _ _ _); obtain ⟨o5a, o5b⟩ := (hv25_57 : In _ _ _); obtain ⟨o6a, o6b⟩ := (hv36_57 : In _ _ _); obtain ⟨o7a, o7b⟩ := (hv47_57 : In _ _ _); obtain ⟨o8a, o8b⟩ := (hv48_57 : In _ _ _); obtain ⟨o9a, o9b⟩ := (hv53_57 : In _ _ _); obtain ⟨o10a, o10b⟩ := (hv55_57 : In _ _ _); omega))) cV_X11_laysDown wg_1620 ⟨Nat.le_of_ble_eq_true rfl, Nat.le_of_ble_eq_true rfl⟩ hG hE hA hP hD hS (hst.1 255 (by decide)) hf58 rfl rfl hl.1 (As := []) (rest := []) rfl (Nat.le_of_ble_eq_true rfl) dX11_falseOnes_161 ⟨Nat.le_of_ble_eq_true rfl, Nat.le_of_ble_eq_true rfl⟩) hA hD hS (fun L60 f61 H locs hp62 hP hD hS => ?_)
              obtain ⟨eL63L, eL63T, eL63F⟩ := hp62
              have eL63L : L60 = L := eL63L
              rw [eL63L] at hP hD
              obtain ⟨zz64, zz65, hzz64, eL63T⟩ := eL63T
              have hzz64 : zz64 = zz30 ∧ zz65 = 2126 := hzz64
              have hT : TI g ad (gset (gset (gset (gset (gset (gset (gset th 18 zz30) 16 zz43) 24 zz44) 14 z1.toInt) 44 y78_l3.toInt) 19 zz64) 22 zz65) f61 := eL63T
              have eL63F : ∀ b, b ≠ (ad 255) → b ≠ (ad 271) → f61 b = f54 b := eL63F
              refine lv_iload_n hx hb dX11_falseOnes_164 rfl (lv_at hl 2 rfl) ?_
              exact ret_i (ty := .int) hx hb hr hlocks (rfl) hP hD hS (Nat.le_of_ble_eq_true rfl) (Nat.le_of_ble_eq_true rfl) (⟨rfl, ⟨(gset (gset (gset (gset (gset (gset (gset th 18 zz30) 16 zz43) 24 zz44) 14 z1.toInt) 44 y78_l3.toInt) 19 zz64) 22 zz65), ⟨(show MI (gset (gset (gset (gset (gset (gset (gset th 18 zz30) 16 zz43) 24 zz44) 14 z1.toInt) 44 y78_l3.toInt) 19 zz64) 22 zz65) from ⟨m1, m2, (show th 20 = (th 12) * rnd (th 10) from m3), m4, (show zz65 = 2126 from (by have ob10 : (0 : Int) ≤ (th 10) ∧ (th 10) ≤ 1 := (b0_10 hT :); have ob11 : (0 : Int) ≤ (th 11) ∧ (th 11) ≤ 9 := (b0_11 hT :); have ob12 : (0 : Int) ≤ (th 12) ∧ (th 12) ≤ 6 := (b0_12 hT :); have ob14 : (0 : Int) ≤ z1.toInt ∧ z1.toInt ≤ 511 := (b0_14 hT :); have ob15 : (0 : Int) ≤ (th 15) ∧ (th 15) ≤ 1 := (b0_15 hT :); have ob16 : (0 : Int) ≤ zz43 ∧ zz43 ≤ 20 := (b0_16 hT :); have ob17 : (0 : Int) ≤ (th 17) ∧ (th 17) ≤ 1 := (b0_17 hT :); have ob18 : (0 : Int) ≤ zz30 ∧ zz30 ≤ 18 := (b0_18 hT :); have ob38 : (0 : Int) ≤ (th 38) ∧ (th 38) ≤ 400 := (b0_38 hT :); have ob39 : (0 : Int) ≤ (th 39) ∧ (th 39) ≤ 200 := (b0_39 hT :); have ob44 : (0 : Int) ≤ y78_l3.toInt ∧ y78_l3.toInt ≤ 30 := (b0_44 hT :); have orn := rnd_b (th 10); obtain ⟨o0a, o0b⟩ := (hb24 : In _ _ _); obtain ⟨o1a, o1b⟩ := (hv20_45 : In _ _ _); obtain ⟨o2a, o2b⟩ := (hy78_l3 : In _ _ _); obtain ⟨o3a, o3b⟩ := (hy78_l4 : In _ _ _); obtain ⟨o4a, o4b⟩ := (hv25_50 : In _ _ _); omega)), m6, (show zz44 = 2126 * zz43 from (by have ob10 : (0 : Int) ≤ (th 10) ∧ (th 10) ≤ 1 := (b0_10 hT :); have ob11 : (0 : Int) ≤ (th 11) ∧ (th 11) ≤ 9 := (b0_11 hT :); have ob12 : (0 : Int) ≤ (th 12) ∧ (th 12) ≤ 6 := (b0_12 hT :); have ob14 : (0 : Int) ≤ z1.toInt ∧ z1.toInt ≤ 511 := (b0_14 hT :); have ob15 : (0 : Int) ≤ (th 15) ∧ (th 15) ≤ 1 := (b0_15 hT :); have ob16 : (0 : Int) ≤ zz43 ∧ zz43 ≤ 20 := (b0_16 hT :); have ob17 : (0 : Int) ≤ (th 17) ∧ (th 17) ≤ 1 := (b0_17 hT :); have ob18 : (0 : Int) ≤ zz30 ∧ zz30 ≤ 18 := (b0_18 hT :); have ob38 : (0 : Int) ≤ (th 38) ∧ (th 38) ≤ 400 := (b0_38 hT :); have ob39 : (0 : Int) ≤ (th 39) ∧ (th 39) ≤ 200 := (b0_39 hT :); have ob44 : (0 : Int) ≤ y78_l3.toInt ∧ y78_l3.toInt ≤ 30 := (b0_44 hT :); have orn := rnd_b (th 10); obtain ⟨o0a, o0b⟩ := (hb24 : In _ _ _); obtain ⟨o1a, o1b⟩ := (hv20_45 : In _ _ _); obtain ⟨o2a, o2b⟩ := (hy78_l3 : In _ _ _); obtain ⟨o3a, o3b⟩ := (hy78_l4 : In _ _ _); obtain ⟨o4a, o4b⟩ := (hv25_50 : In _ _ _); omega)), (show 0 ≤ zz43 ∧ zz43 ≤ 20 from (by have ob10 : (0 : Int) ≤ (th 10) ∧ (th 10) ≤ 1 := (b0_10 hT :); have ob11 : (0 : Int) ≤ (th 11) ∧ (th 11) ≤ 9 := (b0_11 hT :); have ob12 : (0 : Int) ≤ (th 12) ∧ (th 12) ≤ 6 := (b0_12 hT :); have ob14 : (0 : Int) ≤ z1.toInt ∧ z1.toInt ≤ 511 := (b0_14 hT :); have ob15 : (0 : Int) ≤ (th 15) ∧ (th 15) ≤ 1 := (b0_15 hT :); have ob16 : (0 : Int) ≤ zz43 ∧ zz43 ≤ 20 := (b0_16 hT :); have ob17 : (0 : Int) ≤ (th 17) ∧ (th 17) ≤ 1 := (b0_17 hT :); have ob18 : (0 : Int) ≤ zz30 ∧ zz30 ≤ 18 := (b0_18 hT :); have ob38 : (0 : Int) ≤ (th 38) ∧ (th 38) ≤ 400 := (b0_38 hT :); have ob39 : (0 : Int) ≤ (th 39) ∧ (th 39) ≤ 200 := (b0_39 hT :); have ob44 : (0 : Int) ≤ y78_l3.toInt ∧ y78_l3.toInt ≤ 30 := (b0_44 hT :); have orn := rnd_b (th 10); obtain ⟨o0a, o0b⟩ := (hb24 : In _ _ _); obtain ⟨o1a, o1b⟩ := (hv20_45 : In _ _ _); obtain ⟨o2a, o2b⟩ := (hy78_l3 : In _ _ _); obtain ⟨o3a, o3b⟩ := (hy78_l4 : In _ _ _); obtain ⟨o4a, o4b⟩ := (hv25_50 : In _ _ _); omega)), (show 0 ≤ zz64 ∧ zz64 ≤ th 20 from (by have ob10 : (0 : Int) ≤ (th 10) ∧ (th 10) ≤ 1 := (b0_10 hT :); have ob11 : (0 : Int) ≤ (th 11) ∧ (th 11) ≤ 9 := (b0_11 hT :); have ob12 : (0 : Int) ≤ (th 12) ∧ (th 12) ≤ 6 := (b0_12 hT :); have ob14 : (0 : Int) ≤ z1.toInt ∧ z1.toInt ≤ 511 := (b0_14 hT :); have ob15 : (0 : Int) ≤ (th 15) ∧ (th 15) ≤ 1 := (b0_15 hT :); have ob16 : (0 : Int) ≤ zz43 ∧ zz43 ≤ 20 := (b0_16 hT :); have ob17 : (0 : Int) ≤ (th 17) ∧ (th 17) ≤ 1 := (b0_17 hT :); have ob18 : (0 : Int) ≤ zz30 ∧ zz30 ≤ 18 := (b0_18 hT :); have ob38 : (0 : Int) ≤ (th 38) ∧ (th 38) ≤ 400 := (b0_38 hT :); have ob39 : (0 : Int) ≤ (th 39) ∧ (th 39) ≤ 200 := (b0_39 hT :); have ob44 : (0 : Int) ≤ y78_l3.toInt ∧ y78_l3.toInt ≤ 30 := (b0_44 hT :); have orn := rnd_b (th 10); obtain ⟨o0a, o0b⟩ := (hb24 : In _ _ _); obtain ⟨o1a, o1b⟩ := (hv20_45 : In _ _ _); obtain ⟨o2a, o2b⟩ := (hy78_l3 : In _ _ _); obtain ⟨o3a, o3b⟩ := (hy78_l4 : In _ _ _); obtain ⟨o4a, o4b⟩ := (hv25_50 : In _ _ _); omega)), m10⟩), (SBM.set (k := 22) (SBM.set (k := 19) (SBM.set (k := 44) (SBM.set (k := 14) (SBM.set (k := 24) (SBM.set (k := 16) (SBM.set (k := 18) (SBM.rf th) (by decide)) (by decide)) (by decide)) (by decide)) (by decide)) (by decide)) (by decide))⟩, hT⟩⟩) dX11_falseOnes_165
            ·
              have cc66 : y78_l4.toInt < v25_50.toInt := i32_nle c52
              have hb67 : In y78_l4 0 29 := In.lt1 hy78_l4 hv25_50 cc66 (by decide) (by decide)
              have hb68 : In v25_50 1 30 := In.lt2 hy78_l4 hv25_50 cc66 (by decide) (by decide)
              refine lv_iload_n hx hb dX11_falseOnes_87 rfl (lv_at hl 1 rfl) ?_
              refine lv_aload_n hx hb dX11_falseOnes_88 rfl (lv_at hl 0 rfl) ?_
              refine pl_get (v := .ref (ad 260)) hx hb hts (fun w h => mT (inX11 w h)) hown hG.1 hP (hst.1 255 (by decide)) hf51 rfl 24 (by decide) (hts _ (mT wg_1360)) (fun _ h => h) rfl dX11_falseOnes_89 ?_
              refine lv_iconst (v := 5) hx hb dX11_falseOnes_92 (by decide) ?_
              refine lv_iload hx hb dX11_falseOnes_93 (lv_at hl 4 rfl) ?_
              refine lv_imul hx hb dX11_falseOnes_95 ?_
              refine lv_topi (fun x69 ex69 => ?_)
              have hb70 : In x69 0 145 := ex69 ▸ In.mul (⟨by decide, by decide⟩ : In 5 5 5) hb67 (by decide) (by decide) (by decide) (by decide) (by decide)
              have et71 : x69.toInt = 5 * y78_l4.toInt := In.mule ex69 (⟨by decide, by decide⟩ : In 5 5 5) hb67 (by decide) (by decide) (by decide) (by decide) rfl
              refine lv_iconst (v := 2) hx hb dX11_falseOnes_96 (by decide) ?_
              refine lv_iadd hx hb dX11_falseOnes_97 ?_
              refine lv_topi (fun x72 ex72 => ?_)
              have hb73 : In x72 2 147 := ex72 ▸ In.add hb70 (⟨by decide, by decide⟩ : In 2 2 2) (by decide) (by decide) (by decide) (by decide)
              have et74 : x72.toInt = x69.toInt + 2 := In.adde ex72 hb70 (k := 2) (by decide) (by decide) (by decide)
              obtain ⟨rw75, hf76⟩ := hT.2.2 5 (by decide)
              have hin77 : vp_in x72 150 := In.inb hb73 (by decide) (by decide)
              refine pl_iald hx hb hG.1 hP (hst.1 260 (by decide)) 0 hf76 rfl hin77 dX11_falseOnes_98 ?_
              refine lv_topi (fun x78 ex78 => ?_)
              refine call_i (run_S (rm := rm_X11_has) hx hb hml hown hts (s_X11_has l g ad (gset (gset (gset (gset (gset th 18 zz30) 44 zz32) 16 zz43) 24 zz44) 14 z1.toInt) _ _ _ z1 x78 hst hT ) cS_X11_has wg_1563 ⟨Nat.le_of_ble_eq_true rfl, Nat.le_of_ble_eq_true rfl⟩ hG hE hA hP hD hS rfl hl.1 (As := [.int z1, .int x78]) (rest := []) rfl (Nat.le_of_ble_eq_true rfl) dX11_falseOnes_99 ⟨Nat.le_of_ble_eq_true rfl, Nat.le_of_ble_eq_true rfl⟩) hA hD hS (fun r79 L80 f81 H locs hp82 hP hD hS => ?_)
              obtain ⟨eL83L, eL83T, eL83R, eL83X0⟩ := hp82
              have eL83L : L80 = L := eL83L
              have eL83T : f81 = f_78 := eL83T
              rw [eL83L, eL83T] at hP hD
              have eL83R : In r79 0 1 := eL83R
              have hJ149 : ∀ (y149_l3 : Int32) (f_149 : HP) (H : Heap) (locs : List Loc) (ls : Array Slot), In y149_l3 0 32 → va_P g.1 vwCl (va_pl L f_149) H → va_D A (va_pl L f_149) → va_S A s.heap H locs → TI g ad (gset (gset (gset (gset (gset th 18 zz30) 44 zz32) 16 zz43) 24 zz44) 14 z1.toInt) f_149 → f_149 (ad 255) = .inr (10, [.int v0_50, .ref (ad 256), .int v2_50, .int v3_50, .int v4_50, .int v5_50, .int v6_50, .ref (ad 257), .int v8_50, .int v9_50, .ref (ad 258), .ref (ad 259), .int v12_50, .int v13_50, .int v14_50, .int v15_50, .int v16_50, .int v17_50, .int v18_50, .int v19_50, .int v20_50, .long v21_50, .long v22_50, .int v23_50, .ref (ad 260), .int v25_50, .ref (ad 261), .ref (ad 262), .ref (ad 263), .ref (ad 264), .ref (ad 265), .ref (ad 266), .ref (ad 267), .ref (ad 268), .ref (ad 269), .ref (ad 270), .int v36_50, .int v37_50, .int v38_50, .int v39_50, .int v40_50, .ref (ad 271), .ref (ad 272), .ref (ad 273), .ref (ad 274), .long v45_50, .long v46_50, .int v47_50, .int v48_50, .ref (ad 275), .int v50_50, .int v51_50, .ref (ad 276), .int v53_50, .ref (ad 277), .int v55_50]) → (y149_l3.toInt ≤ y78_l4.toInt + 1 ∧ 0 ≤ y149_l3.toInt) → lv_has ls 6 [(0, .ref (ad 255)), (1, .int z1), (2, .int v20_45), (3, .int y149_l3), (4, .int y78_l4)] → W p l e rm_X11_falseOnes s m [.ref (ad 255), .int z1].toArray below meth c H locs 0 0 (MQ below (va_Qi (po_X11_falseOnes g ad th L f z1) (PstB g A) A) [.ref (ad 255), .int z1].toArray s rm_X11_falseOnes.cells rm_X11_falseOnes.slots A) (F0 m 149 ls []) := by
                intro y149_l3 f_149 H locs ls hy149_l3 hP hD hS hT hf84 hinv149_0 hl
                obtain ⟨x85, ex85⟩ : ∃ y : Int32, y = y78_l4 + 1 := ⟨_, rfl⟩
                have hb86 : In x85 1 30 := ex85 ▸ In.add hb67 (⟨by decide, by decide⟩ : In 1 1 1) (by decide) (by decide) (by decide) (by decide)
                have et87 : x85.toInt = y78_l4.toInt + 1 := In.adde ex85 hb67 (k := 1) (by decide) (by decide) (by decide)
                refine lv_iinc (v := x85) (lv' := [(4, .int x85), (0, .ref (ad 255)), (1, .int z1), (2, .int v20_45), (3, .int y149_l3)]) hx hb dX11_falseOnes_149 hl (k := 4) rfl (by rw [ex85]; rfl) (by decide) rfl (fun ls hl => ?_)
                refine lv_goto (tgt := 78) hx hb dX11_falseOnes_152 (by decide) ?_
                exact ih78 y149_l3 x85 _ _ _ _ (In.mk (by have ob10 : (0 : Int) ≤ (th 10) ∧ (th 10) ≤ 1 := (b0_10 hT :); have ob11 : (0 : Int) ≤ (th 11) ∧ (th 11) ≤ 9 := (b0_11 hT :); have ob12 : (0 : Int) ≤ (th 12) ∧ (th 12) ≤ 6 := (b0_12 hT :); have ob14 : (0 : Int) ≤ z1.toInt ∧ z1.toInt ≤ 511 := (b0_14 hT :); have ob15 : (0 : Int) ≤ (th 15) ∧ (th 15) ≤ 1 := (b0_15 hT :); have ob16 : (0 : Int) ≤ zz43 ∧ zz43 ≤ 20 := (b0_16 hT :); have ob17 : (0 : Int) ≤ (th 17) ∧ (th 17) ≤ 1 := (b0_17 hT :); have ob18 : (0 : Int) ≤ zz30 ∧ zz30 ≤ 18 := (b0_18 hT :); have ob38 : (0 : Int) ≤ (th 38) ∧ (th 38) ≤ 400 := (b0_38 hT :); have ob39 : (0 : Int) ≤ (th 39) ∧ (th 39) ≤ 200 := (b0_39 hT :); have ob44 : (0 : Int) ≤ zz32 ∧ zz32 ≤ 30 := (b0_44 hT :); have orn := rnd_b (th 10); obtain ⟨o0a, o0b⟩ := (hy149_l3 : In _ _ _); obtain ⟨o1a, o1b⟩ := (hv14_50 : In _ _ _); obtain ⟨o2a, o2b⟩ := (hv15_50 : In _ _ _); obtain ⟨o3a, o3b⟩ := (hv17_50 : In _ _ _); obtain ⟨o4a, o4b⟩ := (hv20_50 : In _ _ _); obtain ⟨o5a, o5b⟩ := (hv23_50 : In _ _ _); obtain ⟨o6a, o6b⟩ := (hb68 : In _ _ _); obtain ⟨o7a, o7b⟩ := (hv36_50 : In _ _ _); obtain ⟨o8a, o8b⟩ := (hv47_50 : In _ _ _); obtain ⟨o9a, o9b⟩ := (hv48_50 : In _ _ _); obtain ⟨o10a, o10b⟩ := (hv53_50 : In _ _ _); obtain ⟨o11a, o11b⟩ := (hv55_50 : In _ _ _); obtain ⟨o12a, o12b⟩ := (hb67 : In _ _ _); obtain ⟨o13a, o13b⟩ := (hy78_l3 : In _ _ _); omega) (by have ob10 : (0 : Int) ≤ (th 10) ∧ (th 10) ≤ 1 := (b0_10 hT :); have ob11 : (0 : Int) ≤ (th 11) ∧ (th 11) ≤ 9 := (b0_11 hT :); have ob12 : (0 : Int) ≤ (th 12) ∧ (th 12) ≤ 6 := (b0_12 hT :); have ob14 : (0 : Int) ≤ z1.toInt ∧ z1.toInt ≤ 511 := (b0_14 hT :); have ob15 : (0 : Int) ≤ (th 15) ∧ (th 15) ≤ 1 := (b0_15 hT :); have ob16 : (0 : Int) ≤ zz43 ∧ zz43 ≤ 20 := (b0_16 hT :); have ob17 : (0 : Int) ≤ (th 17) ∧ (th 17) ≤ 1 := (b0_17 hT :); have ob18 : (0 : Int) ≤ zz30 ∧ zz30 ≤ 18 := (b0_18 hT :); have ob38 : (0 : Int) ≤ (th 38) ∧ (th 38) ≤ 400 := (b0_38 hT :); have ob39 : (0 : Int) ≤ (th 39) ∧ (th 39) ≤ 200 := (b0_39 hT :); have ob44 : (0 : Int) ≤ zz32 ∧ zz32 ≤ 30 := (b0_44 hT :); have orn := rnd_b (th 10); obtain ⟨o0a, o0b⟩ := (hy149_l3 : In _ _ _); obtain ⟨o1a, o1b⟩ := (hv14_50 : In _ _ _); obtain ⟨o2a, o2b⟩ := (hv15_50 : In _ _ _); obtain ⟨o3a, o3b⟩ := (hv17_50 : In _ _ _); obtain ⟨o4a, o4b⟩ := (hv20_50 : In _ _ _); obtain ⟨o5a, o5b⟩ := (hv23_50 : In _ _ _); obtain ⟨o6a, o6b⟩ := (hb68 : In _ _ _); obtain ⟨o7a, o7b⟩ := (hv36_50 : In _ _ _); obtain ⟨o8a, o8b⟩ := (hv47_50 : In _ _ _); obtain ⟨o9a, o9b⟩ := (hv48_50 : In _ _ _); obtain ⟨o10a, o10b⟩ := (hv53_50 : In _ _ _); obtain ⟨o11a, o11b⟩ := (hv55_50 : In _ _ _); obtain ⟨o12a, o12b⟩ := (hb67 : In _ _ _); obtain ⟨o13a, o13b⟩ := (hy78_l3 : In _ _ _); omega)) (In.mono hb86 (by decide) (by decide)) hP hD hS hT (by have ob10 : (0 : Int) ≤ (th 10) ∧ (th 10) ≤ 1 := (b0_10 hT :); have ob11 : (0 : Int) ≤ (th 11) ∧ (th 11) ≤ 9 := (b0_11 hT :); have ob12 : (0 : Int) ≤ (th 12) ∧ (th 12) ≤ 6 := (b0_12 hT :); have ob14 : (0 : Int) ≤ z1.toInt ∧ z1.toInt ≤ 511 := (b0_14 hT :); have ob15 : (0 : Int) ≤ (th 15) ∧ (th 15) ≤ 1 := (b0_15 hT :); have ob16 : (0 : Int) ≤ zz43 ∧ zz43 ≤ 20 := (b0_16 hT :); have ob17 : (0 : Int) ≤ (th 17) ∧ (th 17) ≤ 1 := (b0_17 hT :); have ob18 : (0 : Int) ≤ zz30 ∧ zz30 ≤ 18 := (b0_18 hT :); have ob38 : (0 : Int) ≤ (th 38) ∧ (th 38) ≤ 400 := (b0_38 hT :); have ob39 : (0 : Int) ≤ (th 39) ∧ (th 39) ≤ 200 := (b0_39 hT :); have ob44 : (0 : Int) ≤ zz32 ∧ zz32 ≤ 30 := (b0_44 hT :); have orn := rnd_b (th 10); obtain ⟨o0a, o0b⟩ := (hy149_l3 : In _ _ _); obtain ⟨o1a, o1b⟩ := (hb86 : In _ _ _); obtain ⟨o2a, o2b⟩ := (hv14_50 : In _ _ _); obtain ⟨o3a, o3b⟩ := (hv15_50 : In _ _ _); obtain ⟨o4a, o4b⟩ := (hv17_50 : In _ _ _); obtain ⟨o5a, o5b⟩ := (hv20_50 : In _ _ _); obtain ⟨o6a, o6b⟩ := (hv23_50 : In _ _ _); obtain ⟨o7a, o7b⟩ := (hb68 : In _ _ _); obtain ⟨o8a, o8b⟩ := (hv36_50 : In _ _ _); obtain ⟨o9a, o9b⟩ := (hv47_50 : In _ _ _); obtain ⟨o10a, o10b⟩ := (hv48_50 : In _ _ _); obtain ⟨o11a, o11b⟩ := (hv53_50 : In _ _ _); obtain ⟨o12a, o12b⟩ := (hv55_50 : In _ _ _); obtain ⟨o13a, o13b⟩ := (hb67 : In _ _ _); obtain ⟨o14a, o14b⟩ := (hy78_l3 : In _ _ _); omega) (lv_sub hl [1, 2, 3, 4, 0] rfl) (msu et87 (by decide) hmz78)
              refine lv_if_ne (tgt := 108) hx hb dX11_falseOnes_102 (by decide) (fun c88 => ?_) (fun c88 => ?_)
              ·
                have oc0 : (0 : Int32).toInt = 0 := by decide
                have cc89 : r79.toInt ≠ (0 : Int32).toInt := i32_ne c88
                have hb90 : In r79 1 1 := In.ne1 eL83R (⟨by decide, by decide⟩ : In 0 0 0) cc89 (by decide) (by decide)
                refine lv_iconst (v := 0) hx hb dX11_falseOnes_108 (by decide) ?_
                refine lv_istore (lv' := [(5, .int 0), (0, .ref (ad 255)), (1, .int z1), (2, .int v20_45), (3, .int y78_l3), (4, .int y78_l4)]) hx hb dX11_falseOnes_109 hl (by decide) rfl (fun ls hl => ?_)
                have hJ111 : ∀ (k111 : Nat) (y111_l5 : Int32) (f_111 : HP) (H : Heap) (locs : List Loc) (ls : Array Slot), In y111_l5 0 5 → va_P g.1 vwCl (va_pl L f_111) H → va_D A (va_pl L f_111) → va_S A s.heap H locs → TI g ad (gset (gset (gset (gset (gset th 18 zz30) 44 zz32) 16 zz43) 24 zz44) 14 z1.toInt) f_111 → f_111 (ad 255) = .inr (10, [.int v0_50, .ref (ad 256), .int v2_50, .int v3_50, .int v4_50, .int v5_50, .int v6_50, .ref (ad 257), .int v8_50, .int v9_50, .ref (ad 258), .ref (ad 259), .int v12_50, .int v13_50, .int v14_50, .int v15_50, .int v16_50, .int v17_50, .int v18_50, .int v19_50, .int v20_50, .long v21_50, .long v22_50, .int v23_50, .ref (ad 260), .int v25_50, .ref (ad 261), .ref (ad 262), .ref (ad 263), .ref (ad 264), .ref (ad 265), .ref (ad 266), .ref (ad 267), .ref (ad 268), .ref (ad 269), .ref (ad 270), .int v36_50, .int v37_50, .int v38_50, .int v39_50, .int v40_50, .ref (ad 271), .ref (ad 272), .ref (ad 273), .ref (ad 274), .long v45_50, .long v46_50, .int v47_50, .int v48_50, .ref (ad 275), .int v50_50, .int v51_50, .ref (ad 276), .int v53_50, .ref (ad 277), .int v55_50]) → lv_has ls 6 [(0, .ref (ad 255)), (1, .int z1), (2, .int v20_45), (3, .int y78_l3), (4, .int y78_l4), (5, .int y111_l5)] → 5 - y111_l5.toInt < ((k111 : Nat) : Int) → W p l e rm_X11_falseOnes s m [.ref (ad 255), .int z1].toArray below meth c H locs 0 0 (MQ below (va_Qi (po_X11_falseOnes g ad th L f z1) (PstB g A) A) [.ref (ad 255), .int z1].toArray s rm_X11_falseOnes.cells rm_X11_falseOnes.slots A) (F0 m 111 ls []) := by
                  intro k111
                  induction k111 with
                  | zero =>
                    intro y111_l5 f_111 H locs ls hy111_l5 hP hD hS hT hf91 hl hmz111
                    exact ms0 hy111_l5 hmz111
                  | succ k111 ih111 =>
                    intro y111_l5 f_111 H locs ls hy111_l5 hP hD hS hT hf91 hl hmz111
                    refine lv_iload hx hb dX11_falseOnes_111 (lv_at hl 5 rfl) ?_
                    refine lv_iconst (v := 5) hx hb dX11_falseOnes_113 (by decide) ?_
                    refine lv_icmp_ge (tgt := 146) hx hb dX11_falseOnes_114 (by decide) (fun c92 => ?_) (fun c92 => ?_)
                    ·
                      have oc5 : (5 : Int32).toInt = 5 := by decide
                      have cc93 : (5 : Int32).toInt ≤ y111_l5.toInt := i32_le.mp c92
                      have hb94 : In y111_l5 5 5 := In.ge1 hy111_l5 (⟨by decide, by decide⟩ : In 5 5 5) cc93 (by decide) (by decide)
                      obtain ⟨x95, ex95⟩ : ∃ y : Int32, y = y78_l3 + 1 := ⟨_, rfl⟩
                      have hb96 : In x95 1 31 := ex95 ▸ In.add hy78_l3 (⟨by decide, by decide⟩ : In 1 1 1) (by decide) (by decide) (by decide) (by decide)
                      have et97 : x95.toInt = y78_l3.toInt + 1 := In.adde ex95 hy78_l3 (k := 1) (by decide) (by decide) (by decide)
                      refine lv_iinc (v := x95) (lv' := [(3, .int x95), (0, .ref (ad 255)), (1, .int z1), (2, .int v20_45), (4, .int y78_l4), (5, .int y111_l5)]) hx hb dX11_falseOnes_146 hl (k := 3) rfl (by rw [ex95]; rfl) (by decide) rfl (fun ls hl => ?_)
                      exact hJ149 x95 _ _ _ _ (In.mono hb96 (by decide) (by decide)) hP hD hS hT hf91 (by have ob10 : (0 : Int) ≤ (th 10) ∧ (th 10) ≤ 1 := (b0_10 hT :); have ob11 : (0 : Int) ≤ (th 11) ∧ (th 11) ≤ 9 := (b0_11 hT :); have ob12 : (0 : Int) ≤ (th 12) ∧ (th 12) ≤ 6 := (b0_12 hT :); have ob14 : (0 : Int) ≤ z1.toInt ∧ z1.toInt ≤ 511 := (b0_14 hT :); have ob15 : (0 : Int) ≤ (th 15) ∧ (th 15) ≤ 1 := (b0_15 hT :); have ob16 : (0 : Int) ≤ zz43 ∧ zz43 ≤ 20 := (b0_16 hT :); have ob17 : (0 : Int) ≤ (th 17) ∧ (th 17) ≤ 1 := (b0_17 hT :); have ob18 : (0 : Int) ≤ zz30 ∧ zz30 ≤ 18 := (b0_18 hT :); have ob38 : (0 : Int) ≤ (th 38) ∧ (th 38) ≤ 400 := (b0_38 hT :); have ob39 : (0 : Int) ≤ (th 39) ∧ (th 39) ≤ 200 := (b0_39 hT :); have ob44 : (0 : Int) ≤ zz32 ∧ zz32 ≤ 30 := (b0_44 hT :); have orn := rnd_b (th 10); obtain ⟨o0a, o0b⟩ := (hb96 : In _ _ _); obtain ⟨o1a, o1b⟩ := (hb67 : In _ _ _); obtain ⟨o2a, o2b⟩ := (hv14_50 : In _ _ _); obtain ⟨o3a, o3b⟩ := (hv15_50 : In _ _ _); obtain ⟨o4a, o4b⟩ := (hv17_50 : In _ _ _); obtain ⟨o5a, o5b⟩ := (hv20_50 : In _ _ _); obtain ⟨o6a, o6b⟩ := (hv23_50 : In _ _ _); obtain ⟨o7a, o7b⟩ := (hb68 : In _ _ _); obtain ⟨o8a, o8b⟩ := (hv36_50 : In _ _ _); obtain ⟨o9a, o9b⟩ := (hv47_50 : In _ _ _); obtain ⟨o10a, o10b⟩ := (hv48_50 : In _ _ _); obtain ⟨o11a, o11b⟩ := (hv53_50 : In _ _ _); obtain ⟨o12a, o12b⟩ := (hv55_50 : In _ _ _); obtain ⟨o13a, o13b⟩ := (hy78_l3 : In _ _ _); omega) (lv_sub hl [1, 2, 3, 0, 4] rfl)
                    ·
                      have oc5 : (5 : Int32).toInt = 5 := by decide
                      have cc98 : y111_l5.toInt < (5 : Int32).toInt := i32_nle c92
                      have hb99 : In y111_l5 0 4 := In.lt1 hy111_l5 (⟨by decide, by decide⟩ : In 5 5 5) cc98 (by decide) (by decide)
                      refine lv_aload_n hx hb dX11_falseOnes_117 rfl (lv_at hl 0 rfl) ?_
                      refine pl_get (v := .ref (ad 260)) hx hb hts (fun w h => mT (inX11 w h)) hown hG.1 hP (hst.1 255 (by decide)) hf91 rfl 24 (by decide) (hts _ (mT wg_1360)) (fun _ h => h) rfl dX11_falseOnes_118 ?_
                      refine lv_iconst (v := 5) hx hb dX11_falseOnes_121 (by decide) ?_
                      refine lv_iload_n hx hb dX11_falseOnes_122 rfl (lv_at hl 3 rfl) ?_
                      refine lv_imul hx hb dX11_falseOnes_123 ?_
                      refine lv_topi (fun x100 ex100 => ?_)
                      have hb101 : In x100 0 150 := ex100 ▸ In.mul (⟨by decide, by decide⟩ : In 5 5 5) hy78_l3 (by decide) (by decide) (by decide) (by decide) (by decide)
                      have et102 : x100.toInt = 5 * y78_l3.toInt := In.mule ex100 (⟨by decide, by decide⟩ : In 5 5 5) hy78_l3 (by decide) (by decide) (by decide) (by decide) rfl
                      refine lv_iload hx hb dX11_falseOnes_124 (lv_at hl 5 rfl) ?_
                      refine lv_iadd hx hb dX11_falseOnes_126 ?_
                      refine lv_topi (fun x103 ex103 => ?_)
                      have hb104 : In x103 0 154 := ex103 ▸ In.add hb101 hb99 (by decide) (by decide) (by decide) (by decide)
                      have et105 : x103.toInt = x100.toInt + y111_l5.toInt := In.add2e ex103 hb101 hb99 (by decide) (by decide)
                      refine lv_aload_n hx hb dX11_falseOnes_127 rfl (lv_at hl 0 rfl) ?_
                      refine pl_get (v := .ref (ad 260)) hx hb hts (fun w h => mT (inX11 w h)) hown hG.1 hP (hst.1 255 (by decide)) hf91 rfl 24 (by decide) (hts _ (mT wg_1360)) (fun _ h => h) rfl dX11_falseOnes_128 ?_
                      refine lv_iconst (v := 5) hx hb dX11_falseOnes_131 (by decide) ?_
                      refine lv_iload hx hb dX11_falseOnes_132 (lv_at hl 4 rfl) ?_
                      refine lv_imul hx hb dX11_falseOnes_134 ?_
                      refine lv_topi (fun x106 ex106 => ?_)
                      obtain rfl : x69 = x106 := ex69.trans ex106.symm
                      refine lv_iload hx hb dX11_falseOnes_135 (lv_at hl 5 rfl) ?_
                      refine lv_iadd hx hb dX11_falseOnes_137 ?_
                      refine lv_topi (fun x107 ex107 => ?_)
                      have hb108 : In x107 0 149 := ex107 ▸ In.add hb70 hb99 (by decide) (by decide) (by decide) (by decide)
                      have et109 : x107.toInt = x69.toInt + y111_l5.toInt := In.add2e ex107 hb70 hb99 (by decide) (by decide)
                      obtain ⟨rw110, hf111⟩ := hT.2.2 5 (by decide)
                      have hin112 : vp_in x107 150 := In.inb hb108 (by decide) (by decide)
                      refine pl_iald hx hb hG.1 hP (hst.1 260 (by decide)) 0 hf111 rfl hin112 dX11_falseOnes_138 ?_
                      refine lv_topi (fun x113 ex113 => ?_)
                      refine pl_iastE hx hb hG.1 hP hD hS (hst.1 260 (by decide)) 0 hf111 rfl (vp_of (by have ob10 : (0 : Int) ≤ (th 10) ∧ (th 10) ≤ 1 := (b0_10 hT :); have ob11 : (0 : Int) ≤ (th 11) ∧ (th 11) ≤ 9 := (b0_11 hT :); have ob12 : (0 : Int) ≤ (th 12) ∧ (th 12) ≤ 6 := (b0_12 hT :); have ob14 : (0 : Int) ≤ z1.toInt ∧ z1.toInt ≤ 511 := (b0_14 hT :); have ob15 : (0 : Int) ≤ (th 15) ∧ (th 15) ≤ 1 := (b0_15 hT :); have ob16 : (0 : Int) ≤ zz43 ∧ zz43 ≤ 20 := (b0_16 hT :); have ob17 : (0 : Int) ≤ (th 17) ∧ (th 17) ≤ 1 := (b0_17 hT :); have ob18 : (0 : Int) ≤ zz30 ∧ zz30 ≤ 18 := (b0_18 hT :); have ob38 : (0 : Int) ≤ (th 38) ∧ (th 38) ≤ 400 := (b0_38 hT :); have ob39 : (0 : Int) ≤ (th 39) ∧ (th 39) ≤ 200 := (b0_39 hT :); have ob44 : (0 : Int) ≤ zz32 ∧ zz32 ≤ 30 := (b0_44 hT :); have orn := rnd_b (th 10); obtain ⟨o0a, o0b⟩ := (hb104 : In _ _ _); obtain ⟨o1a, o1b⟩ := (hv14_50 : In _ _ _); obtain ⟨o2a, o2b⟩ := (hv15_50 : In _ _ _); obtain ⟨o3a, o3b⟩ := (hv17_50 : In _ _ _); obtain ⟨o4a, o4b⟩ := (hv20_50 : In _ _ _); obtain ⟨o5a, o5b⟩ := (hv23_50 : In _ _ _); obtain ⟨o6a, o6b⟩ := (hb68 : In _ _ _); obtain ⟨o7a, o7b⟩ := (hv36_50 : In _ _ _); obtain ⟨o8a, o8b⟩ := (hv47_50 : In _ _ _); obtain ⟨o9a, o9b⟩ := (hv48_50 : In _ _ _); obtain ⟨o10a, o10b⟩ := (hv53_50 : In _ _ _); obtain ⟨o11a, o11b⟩ := (hv55_50 : In _ _ _); obtain ⟨o12a, o12b⟩ := (hb101 : In _ _ _); obtain ⟨o13a, o13b⟩ := (hb99 : In _ _ _); obtain ⟨o14a, o14b⟩ := (hb67 : In _ _ _); obtain ⟨o15a, o15b⟩ := (hy78_l3 : In _ _ _); omega) (by have ob10 : (0 : Int) ≤ (th 10) ∧ (th 10) ≤ 1 := (b0_10 hT :); have ob11 : (0 : Int) ≤ (th 11) ∧ (th 11) ≤ 9 := (b0_11 hT :); have ob12 : (0 : Int) ≤ (th 12) ∧ (th 12) ≤ 6 := (b0_12 hT :); have ob14 : (0 : Int) ≤ z1.toInt ∧ z1.toInt ≤ 511 := (b0_14 hT :); have ob15 : (0 : Int) ≤ (th 15) ∧ (th 15) ≤ 1 := (b0_15 hT :); have ob16 : (0 : Int) ≤ zz43 ∧ zz43 ≤ 20 := (b0_16 hT :); have ob17 : (0 : Int) ≤ (th 17) ∧ (th 17) ≤ 1 := (b0_17 hT :); have ob18 : (0 : Int) ≤ zz30 ∧ zz30 ≤ 18 := (b0_18 hT :); have ob38 : (0 : Int) ≤ (th 38) ∧ (th 38) ≤ 400 := (b0_38 hT :); have ob39 : (0 : Int) ≤ (th 39) ∧ (th 39) ≤ 200 := (b0_39 hT :); have ob44 : (0 : Int) ≤ zz32 ∧ zz32 ≤ 30 := (b0_44 hT :); have orn := rnd_b (th 10); obtain ⟨o0a, o0b⟩ := (hb104 : In _ _ _); obtain ⟨o1a, o1b⟩ := (hv14_50 : In _ _ _); obtain ⟨o2a, o2b⟩ := (hv15_50 : In _ _ _); obtain ⟨o3a, o3b⟩ := (hv17_50 : In _ _ _); obtain ⟨o4a, o4b⟩ := (hv20_50 : In _ _ _); obtain ⟨o5a, o5b⟩ := (hv23_50 : In _ _ _); obtain ⟨o6a, o6b⟩ := (hb68 : In _ _ _); obtain ⟨o7a, o7b⟩ := (hv36_50 : In _ _ _); obtain ⟨o8a, o8b⟩ := (hv47_50 : In _ _ _); obtain ⟨o9a, o9b⟩ := (hv48_50 : In _ _ _); obtain ⟨o10a, o10b⟩ := (hv53_50 : In _ _ _); obtain ⟨o11a, o11b⟩ := (hv55_50 : In _ _ _); obtain ⟨o12a, o12b⟩ := (hb101 : In _ _ _); obtain ⟨o13a, o13b⟩ := (hb99 : In _ _ _); obtain ⟨o14a, o14b⟩ := (hb67 : In _ _ _); obtain ⟨o15a, o15b⟩ := (hy78_l3 : In _ _ _); omega)) dX11_falseOnes_139 (fun H locs f114 r117 er117 hf115 ho116 hP hD hS => ?_)
                      have hf118 := (ho116 (ad 255) (hst.ne (by decide) (by decide) (by decide))).trans hf91
                      obtain ⟨x119, ex119⟩ : ∃ y : Int32, y = y111_l5 + 1 := ⟨_, rfl⟩
                      have hb120 : In x119 1 5 := ex119 ▸ In.add hb99 (⟨by decide, by decide⟩ : In 1 1 1) (by decide) (by decide) (by decide) (by decide)
                      have et121 : x119.toInt = y111_l5.toInt + 1 := In.adde ex119 hb99 (k := 1) (by decide) (by decide) (by decide)
                      refine lv_iinc (v := x119) (lv' := [(5, .int x119), (0, .ref (ad 255)), (1, .int z1), (2, .int v20_45), (3, .int y78_l3), (4, .int y78_l4)]) hx hb dX11_falseOnes_140 hl (k := 5) rfl (by rw [ex119]; rfl) (by decide) rfl (fun ls hl => ?_)
                      have hT := TI.updM hT hst (k := 5) (by decide) hf115 ho116 ⟨r117, rfl⟩
                      refine lv_goto (tgt := 111) hx hb dX11_falseOnes_143 (by decide) ?_
                      exact ih111 x119 _ _ _ _ (In.mono hb120 (by decide) (by decide)) hP hD hS hT hf118 (lv_sub hl [1, 2, 3, 4, 5, 0] rfl) (msu et121 (by decide) hmz111)
                exact hJ111 ((5 - (0 : Int32).toInt).toNat + 1) 0 _ _ _ _ (⟨by decide, by decide⟩ : In 0 0 5) hP hD hS hT hf51 (lv_sub hl [1, 2, 3, 4, 5, 0] rfl) (msI _)
              ·
                have oc0 : (0 : Int32).toInt = 0 := by decide
                have cc122 : r79.toInt = (0 : Int32).toInt := congrArg Int32.toInt c88
                have hb123 : In r79 0 0 := In.eq1 eL83R (⟨by decide, by decide⟩ : In 0 0 0) cc122 (by decide) (by decide)
                refine lv_goto (tgt := 149) hx hb dX11_falseOnes_105 (by decide) ?_
                exact hJ149 y78_l3 _ _ _ _ (In.mono hy78_l3 (by decide) (by decide)) hP hD hS hT hf51 (by have ob10 : (0 : Int) ≤ (th 10) ∧ (th 10) ≤ 1 := (b0_10 hT :); have ob11 : (0 : Int) ≤ (th 11) ∧ (th 11) ≤ 9 := (b0_11 hT :); have ob12 : (0 : Int) ≤ (th 12) ∧ (th 12) ≤ 6 := (b0_12 hT :); have ob14 : (0 : Int) ≤ z1.toInt ∧ z1.toInt ≤ 511 := (b0_14 hT :); have ob15 : (0 : Int) ≤ (th 15) ∧ (th 15) ≤ 1 := (b0_15 hT :); have ob16 : (0 : Int) ≤ zz43 ∧ zz43 ≤ 20 := (b0_16 hT :); have ob17 : (0 : Int) ≤ (th 17) ∧ (th 17) ≤ 1 := (b0_17 hT :); have ob18 : (0 : Int) ≤ zz30 ∧ zz30 ≤ 18 := (b0_18 hT :); have ob38 : (0 : Int) ≤ (th 38) ∧ (th 38) ≤ 400 := (b0_38 hT :); have ob39 : (0 : Int) ≤ (th 39) ∧ (th 39) ≤ 200 := (b0_39 hT :); have ob44 : (0 : Int) ≤ zz32 ∧ zz32 ≤ 30 := (b0_44 hT :); have orn := rnd_b (th 10); obtain ⟨o0a, o0b⟩ := (hy78_l3 : In _ _ _); obtain ⟨o1a, o1b⟩ := (hb67 : In _ _ _); obtain ⟨o2a, o2b⟩ := (hv14_50 : In _ _ _); obtain ⟨o3a, o3b⟩ := (hv15_50 : In _ _ _); obtain ⟨o4a, o4b⟩ := (hv17_50 : In _ _ _); obtain ⟨o5a, o5b⟩ := (hv20_50 : In _ _ _); obtain ⟨o6a, o6b⟩ := (hv23_50 : In _ _ _); obtain ⟨o7a, o7b⟩ := (hb68 : In _ _ _); obtain ⟨o8a, o8b⟩ := (hv36_50 : In _ _ _); obtain ⟨o9a, o9b⟩ := (hv47_50 : In _ _ _); obtain ⟨o10a, o10b⟩ := (hv48_50 : In _ _ _); obtain ⟨o11a, o11b⟩ := (hv53_50 : In _ _ _); obtain ⟨o12a, o12b⟩ := (hv55_50 : In _ _ _); omega) (lv_sub hl [0, 1, 2, 3, 4] rfl)
        exact hJ78 ((30 - (0 : Int32).toInt).toNat + 1) 0 0 _ _ _ _ (⟨by decide, by decide⟩ : In 0 0 30) (⟨by decide, by decide⟩ : In 0 0 30) hP hD hS hT (by have ob10 : (0 : Int) ≤ (th 10) ∧ (th 10) ≤ 1 := (b0_10 hT :); have ob11 : (0 : Int) ≤ (th 11) ∧ (th 11) ≤ 9 := (b0_11 hT :); have ob12 : (0 : Int) ≤ (th 12) ∧ (th 12) ≤ 6 := (b0_12 hT :); have ob14 : (0 : Int) ≤ z1.toInt ∧ z1.toInt ≤ 511 := (b0_14 hT :); have ob15 : (0 : Int) ≤ (th 15) ∧ (th 15) ≤ 1 := (b0_15 hT :); have ob16 : (0 : Int) ≤ zz43 ∧ zz43 ≤ 20 := (b0_16 hT :); have ob17 : (0 : Int) ≤ (th 17) ∧ (th 17) ≤ 1 := (b0_17 hT :); have ob18 : (0 : Int) ≤ zz30 ∧ zz30 ≤ 18 := (b0_18 hT :); have ob38 : (0 : Int) ≤ (th 38) ∧ (th 38) ≤ 400 := (b0_38 hT :); have ob39 : (0 : Int) ≤ (th 39) ∧ (th 39) ≤ 200 := (b0_39 hT :); have ob44 : (0 : Int) ≤ zz32 ∧ zz32 ≤ 30 := (b0_44 hT :); have orn := rnd_b (th 10); have oc0 : (0 : Int32).toInt = 0 := (by decide); obtain ⟨o1a, o1b⟩ := (hb8 : In _ _ _); obtain ⟨o2a, o2b⟩ := (hb23 : In _ _ _); obtain ⟨o3a, o3b⟩ := (hb37 : In _ _ _); omega) (lv_sub hl [3, 4, 2, 1, 0] rfl) (msI _)
      ·
        have oc0 : (0 : Int32).toInt = 0 := by decide
        have cc124 : (0 : Int32).toInt < v36_33.toInt := i32_nle c35
        have hb125 : In v36_33 1 18 := In.gt1 hv36_33 (⟨by decide, by decide⟩ : In 0 0 0) cc124 (by decide) (by decide)
        refine lv_aload_n hx hb dX11_falseOnes_53 rfl (lv_at hl 0 rfl) ?_
        refine lv_iconst (v := 3) hx hb dX11_falseOnes_54 (by decide) ?_
        refine call_i (run_V (rm := rm_X11_refuse) hx hb hml hown hts (s_X11_refuse l g ad (gset (gset (gset th 18 zz30) 14 zz31) 44 zz32) _ _ _ 3 hst hT (⟨by decide, by decide⟩ : In 3 0 4)) cV_X11_refuse wg_1710 ⟨Nat.le_of_ble_eq_true rfl, Nat.le_of_ble_eq_true rfl⟩ hG hE hA hP hD hS (hst.1 255 (by decide)) hf34 rfl rfl hl.1 (As := [.int 3]) (rest := []) rfl (Nat.le_of_ble_eq_true rfl) dX11_falseOnes_55 ⟨Nat.le_of_ble_eq_true rfl, Nat.le_of_ble_eq_true rfl⟩) hA hD hS (fun r126 L127 f128 H locs hp129 hP hD hS => ?_)
        obtain ⟨eL130L, eL130T, eL130F⟩ := hp129
        have eL130L : L127 = L := eL130L
        rw [eL130L] at hP hD
        have hT : TI g ad (gset (gset (gset th 18 zz30) 14 zz31) 44 zz32) f128 := eL130T
        have eL130F : ∀ b, b ≠ (ad 275) → f128 b = f27 b := eL130F
        have hf131 := (eL130F (ad 255) (hst.ne (by decide) (by decide) (by decide))).trans hf34
        exact ret_i (ty := .int) hx hb hr hlocks (rfl) hP hD hS (Nat.le_of_ble_eq_true rfl) (Nat.le_of_ble_eq_true rfl) (⟨rfl, ⟨(gset (gset (gset th 18 zz30) 14 zz31) 44 zz32), ⟨(show MI (gset (gset (gset th 18 zz30) 14 zz31) 44 zz32) from ⟨m1, m2, (show th 20 = (th 12) * rnd (th 10) from m3), m4, m5, m6, m7, m8, m9, m10⟩), (SBM.set (k := 44) (SBM.set (k := 14) (SBM.set (k := 18) (SBM.rf th) (by decide)) (by decide)) (by decide))⟩, hT⟩⟩) dX11_falseOnes_58
    ·
      have oc0 : (0 : Int32).toInt = 0 := by decide
      have cc132 : r15.toInt = (0 : Int32).toInt := congrArg Int32.toInt c21
      have hb133 : In r15 0 0 := In.eq1 eL19R (⟨by decide, by decide⟩ : In 0 0 0) cc132 (by decide) (by decide)
      refine lv_aload_n hx hb dX11_falseOnes_36 rfl (lv_at hl 0 rfl) ?_
      refine lv_iconst (v := 1) hx hb dX11_falseOnes_37 (by decide) ?_
      refine call_i (run_V (rm := rm_X11_refuse) hx hb hml hown hts (s_X11_refuse l g ad th _ _ _ 1 hst hT (⟨by decide, by decide⟩ : In 1 0 4)) cV_X11_refuse wg_1710 ⟨Nat.le_of_ble_eq_true rfl, Nat.le_of_ble_eq_true rfl⟩ hG hE hA hP hD hS (hst.1 255 (by decide)) hf4 rfl rfl hl.1 (As := [.int 1]) (rest := []) rfl (Nat.le_of_ble_eq_true rfl) dX11_falseOnes_38 ⟨Nat.le_of_ble_eq_true rfl, Nat.le_of_ble_eq_true rfl⟩) hA hD hS (fun r134 L135 f136 H locs hp137 hP hD hS => ?_)
      obtain ⟨eL138L, eL138T, eL138F⟩ := hp137
      have eL138L : L135 = L := eL138L
      rw [eL138L] at hP hD
      have hT : TI g ad th f136 := eL138T
      have eL138F : ∀ b, b ≠ (ad 275) → f136 b = f3 b := eL138F
      have hf139 := (eL138F (ad 255) (hst.ne (by decide) (by decide) (by decide))).trans hf4
      exact ret_i (ty := .int) hx hb hr hlocks (rfl) hP hD hS (Nat.le_of_ble_eq_true rfl) (Nat.le_of_ble_eq_true rfl) (⟨rfl, ⟨th, ⟨(show MI th from hM), (SBM.rf th)⟩, hT⟩⟩) dX11_falseOnes_41
  ·
    have oc0 : (0 : Int32).toInt = 0 := by decide
    have cc140 : v23_1.toInt = (0 : Int32).toInt := congrArg Int32.toInt c6
    have hb141 : In v23_1 0 0 := In.eq1 hv23_1 (⟨by decide, by decide⟩ : In 0 0 0) cc140 (by decide) (by decide)
    refine lv_aload_n hx hb dX11_falseOnes_12 rfl (lv_at hl 0 rfl) ?_
    refine lv_iconst (v := 0) hx hb dX11_falseOnes_13 (by decide) ?_
    refine call_i (run_V (rm := rm_X11_refuse) hx hb hml hown hts (s_X11_refuse l g ad th _ _ _ 0 hst hT (⟨by decide, by decide⟩ : In 0 0 4)) cV_X11_refuse wg_1710 ⟨Nat.le_of_ble_eq_true rfl, Nat.le_of_ble_eq_true rfl⟩ hG hE hA hP hD hS (hst.1 255 (by decide)) hf4 rfl rfl hl.1 (As := [.int 0]) (rest := []) rfl (Nat.le_of_ble_eq_true rfl) dX11_falseOnes_14 ⟨Nat.le_of_ble_eq_true rfl, Nat.le_of_ble_eq_true rfl⟩) hA hD hS (fun r142 L143 f144 H locs hp145 hP hD hS => ?_)
    obtain ⟨eL146L, eL146T, eL146F⟩ := hp145
    have eL146L : L143 = L := eL146L
    rw [eL146L] at hP hD
    have hT : TI g ad th f144 := eL146T
    have eL146F : ∀ b, b ≠ (ad 275) → f144 b = f3 b := eL146F
    have hf147 := (eL146F (ad 255) (hst.ne (by decide) (by decide) (by decide))).trans hf4
    exact ret_i (ty := .int) hx hb hr hlocks (rfl) hP hD hS (Nat.le_of_ble_eq_true rfl) (Nat.le_of_ble_eq_true rfl) (⟨rfl, ⟨th, ⟨(show MI th from hM), (SBM.rf th)⟩, hT⟩⟩) dX11_falseOnes_17
