abbrev rm_X11_each : Room := { frames := 0, cells := 0, slots := 0, locals := 0 }
abbrev po_X11_each (g : GG) (ad : Nat → Nat) (th : Nat → Int) (L : List Nat) (f : HP)  : Int32 → (List Nat × HP) → Prop := fun r u => u.1 = L ∧ u.2 = f ∧ In r 2 3 ∧ r.toInt = rnd (th 10)
set_option maxHeartbeats 4000000 in
set_option maxRecDepth 100000 in
theorem s_X11_each (l : Launch) (g : GG) (ad : Nat → Nat) (th : Nat → Int) (L : List Nat) (f : HP) (sz : Nat)  (hst : ST ad L) (hT : TI g ad th f)  : MtI l g yX11_each cX11_each 1 (some .int) rm_X11_each [.ref (ad 255)] L f sz (po_X11_each g ad th L f ) := by
  refine MtI.of (by decide +kernel) (Nat.le_of_ble_eq_true rfl) ?_
  intro p e s m below meth c A hEn hP hD hS ls hl
  obtain ⟨hx, hb, hr, hml, hown, hlocks, hts, hG, hA, hE, hnm⟩ := hEn
  have hown : s.vm.findClass "RulerWordModel" = some m.cls := hown
  have hl : lv_has ls 1 [(0, .ref (ad 255))] := hl
  refine lv_aload_n hx hb dX11_each_0 rfl (lv_at hl 0 rfl) ?_
  refine M0e hT (fun v0_1 v2_1 v3_1 v4_1 v5_1 v6_1 v8_1 v9_1 v12_1 v13_1 v14_1 v15_1 v16_1 v17_1 v18_1 v19_1 v20_1 v21_1 v22_1 v23_1 v25_1 v36_1 v37_1 v38_1 v39_1 v40_1 v45_1 v46_1 v47_1 v48_1 v50_1 v51_1 v53_1 v55_1 hf2 hv0_1 hv2_1 hg2_1 hv3_1 hg3_1 hv4_1 hg4_1 hv5_1 hg5_1 hv6_1 hg6_1 hv8_1 hg8_1 hv9_1 hg9_1 hv12_1 hv13_1 hg13_1 hv14_1 hg14_1 hv15_1 hg15_1 hv17_1 hg17_1 hv20_1 hg20_1 hv23_1 hg23_1 hv25_1 hg25_1 hv36_1 hg36_1 hv47_1 hg47_1 hv48_1 hg48_1 hv53_1 hg53_1 hv55_1 hg55_1 hrel0_1 => ?_)
  have hg15_1 : v15_1.toInt = th 11 := hg15_1
  have hg17_1 : v17_1.toInt = th 12 := hg17_1
  have hg20_1 : v20_1.toInt = th 14 := hg20_1
  refine pl_get (v := .int v14_1) hx hb hts (fun w h => mT (inX11 w h)) hown hG.1 hP (hst.1 255 (by decide)) hf2 rfl 14 (by decide) (hts _ (mT wg_1350)) (fun _ h => h) rfl dX11_each_1 ?_
  have hg14_1 : v14_1.toInt = th 10 := hg14_1
  refine lv_if_ne (tgt := 11) hx hb dX11_each_4 (by decide) (fun c3 => ?_) (fun c3 => ?_)
  ·
    have cc4 : v14_1.toInt ≠ (0 : Int32).toInt := i32_ne c3
    have hb5 : In v14_1 1 1 := In.ne1 hv14_1 (⟨by decide, by decide⟩ : In 0 0 0) cc4 (by omega) (by omega)
    refine lv_iconst (v := 2) hx hb dX11_each_11 (by decide) ?_
    exact ret_i (ty := .int) hx hb hr hlocks (rfl) hP hD hS (Nat.le_of_ble_eq_true rfl) (Nat.le_of_ble_eq_true rfl) (⟨rfl, rfl, (⟨by decide, by decide⟩ : In 2 2 3), (rnd_t hg14_1 c3)⟩) dX11_each_12
  ·
    have cc6 : v14_1.toInt = (0 : Int32).toInt := congrArg Int32.toInt c3
    have hb7 : In v14_1 0 0 := In.eq1 hv14_1 (⟨by decide, by decide⟩ : In 0 0 0) cc6 (by omega) (by omega)
    refine lv_iconst (v := 3) hx hb dX11_each_7 (by decide) ?_
    refine lv_goto (tgt := 12) hx hb dX11_each_8 (by decide) ?_
    exact ret_i (ty := .int) hx hb hr hlocks (rfl) hP hD hS (Nat.le_of_ble_eq_true rfl) (Nat.le_of_ble_eq_true rfl) (⟨rfl, rfl, (⟨by decide, by decide⟩ : In 3 2 3), (rnd_f hg14_1 c3)⟩) dX11_each_12

abbrev rm_X11_isLiar : Room := { frames := 1, cells := 0, slots := 0, locals := 21 }
abbrev po_X11_isLiar (g : GG) (ad : Nat → Nat) (th : Nat → Int) (L : List Nat) (f : HP) (z1 : Int32) : Int32 → (List Nat × HP) → Prop := fun r u => u.1 = L ∧ u.2 = f ∧ In r 0 1 ∧ (In z1 0 30 → r.toInt = bitI (th 14) z1.toInt)
set_option maxHeartbeats 4000000 in
set_option maxRecDepth 100000 in
theorem s_X11_isLiar (l : Launch) (g : GG) (ad : Nat → Nat) (th : Nat → Int) (L : List Nat) (f : HP) (sz : Nat) (z1 : Int32) (hst : ST ad L) (hT : TI g ad th f)  : MtI l g yX11_isLiar cX11_isLiar 2 (some .boolean) rm_X11_isLiar [.ref (ad 255), .int z1] L f sz (po_X11_isLiar g ad th L f z1) := by
  refine MtI.of (by decide +kernel) (Nat.le_of_ble_eq_true rfl) ?_
  intro p e s m below meth c A hEn hP hD hS ls hl
  obtain ⟨hx, hb, hr, hml, hown, hlocks, hts, hG, hA, hE, hnm⟩ := hEn
  have hown : s.vm.findClass "RulerWordModel" = some m.cls := hown
  have hl : lv_has ls 2 [(0, .ref (ad 255)), (1, .int z1)] := hl
  refine lv_aload_n hx hb dX11_isLiar_0 rfl (lv_at hl 0 rfl) ?_
  refine M0e hT (fun v0_1 v2_1 v3_1 v4_1 v5_1 v6_1 v8_1 v9_1 v12_1 v13_1 v14_1 v15_1 v16_1 v17_1 v18_1 v19_1 v20_1 v21_1 v22_1 v23_1 v25_1 v36_1 v37_1 v38_1 v39_1 v40_1 v45_1 v46_1 v47_1 v48_1 v50_1 v51_1 v53_1 v55_1 hf2 hv0_1 hv2_1 hg2_1 hv3_1 hg3_1 hv4_1 hg4_1 hv5_1 hg5_1 hv6_1 hg6_1 hv8_1 hg8_1 hv9_1 hg9_1 hv12_1 hv13_1 hg13_1 hv14_1 hg14_1 hv15_1 hg15_1 hv17_1 hg17_1 hv20_1 hg20_1 hv23_1 hg23_1 hv25_1 hg25_1 hv36_1 hg36_1 hv47_1 hg47_1 hv48_1 hg48_1 hv53_1 hg53_1 hv55_1 hg55_1 hrel0_1 => ?_)
  have hg15_1 : v15_1.toInt = th 11 := hg15_1
  have hg17_1 : v17_1.toInt = th 12 := hg17_1
  have hg20_1 : v20_1.toInt = th 14 := hg20_1
  refine pl_get (v := .int v20_1) hx hb hts (fun w h => mT (inX11 w h)) hown hG.1 hP (hst.1 255 (by decide)) hf2 rfl 20 (by decide) (hts _ (mT wg_1356)) (fun _ h => h) rfl dX11_isLiar_1 ?_
  refine lv_iload_n hx hb dX11_isLiar_4 rfl (lv_at hl 1 rfl) ?_
  refine call_i (run_S (rm := rm_X11_has) hx hb hml hown hts (s_X11_has l g ad th _ _ _ v20_1 z1 hst hT ) cS_X11_has wg_1563 ⟨Nat.le_of_ble_eq_true rfl, Nat.le_of_ble_eq_true rfl⟩ hG hE hA hP hD hS rfl hl.1 (As := [.int v20_1, .int z1]) (rest := []) rfl (Nat.le_of_ble_eq_true rfl) dX11_isLiar_5 ⟨Nat.le_of_ble_eq_true rfl, Nat.le_of_ble_eq_true rfl⟩) hA hD hS (fun r3 L4 f5 H locs hp6 hP hD hS => ?_)
  obtain ⟨eL7L, eL7T, eL7R, eL7X0⟩ := hp6
  have eL7L : L4 = L := eL7L
  have eL7T : f5 = f := eL7T
  rw [eL7L, eL7T] at hP hD
  have eL7R : In r3 0 1 := eL7R
  exact ret_i (ty := .boolean) hx hb hr hlocks (nar_z eL7R) hP hD hS (Nat.le_of_ble_eq_true rfl) (Nat.le_of_ble_eq_true rfl) (⟨rfl, rfl, eL7R, (fun hk => (eL7X0 (Int.le_trans (by decide) hv20_1.1) hk).trans (by rw [hg20_1]))⟩) dX11_isLiar_8

abbrev rm_X11_draw : Room := { frames := 0, cells := 0, slots := 0, locals := 0 }
abbrev po_X11_draw (g : GG) (ad : Nat → Nat) (th : Nat → Int) (L : List Nat) (f : HP)  : Int32 → (List Nat × HP) → Prop := fun r u => u.1 = L ∧ TI g ad th u.2 ∧ (∀ b, b ≠ (ad 255) → u.2 b = f b)
set_option maxHeartbeats 4000000 in
set_option maxRecDepth 100000 in
theorem s_X11_draw (l : Launch) (g : GG) (ad : Nat → Nat) (th : Nat → Int) (L : List Nat) (f : HP) (sz : Nat)  (hst : ST ad L) (hT : TI g ad th f)  : MtI l g yX11_draw cX11_draw 1 (some .int) rm_X11_draw [.ref (ad 255)] L f sz (po_X11_draw g ad th L f ) := by
  refine MtI.of (by decide +kernel) (Nat.le_of_ble_eq_true rfl) ?_
  intro p e s m below meth c A hEn hP hD hS ls hl
  obtain ⟨hx, hb, hr, hml, hown, hlocks, hts, hG, hA, hE, hnm⟩ := hEn
  have hown : s.vm.findClass "RulerWordModel" = some m.cls := hown
  have hl : lv_has ls 1 [(0, .ref (ad 255))] := hl
  have hfr : (∀ b, b ≠ (ad 255) → f b = f b) := fun b z0_ => rfl
  refine lv_aload_n hx hb dX11_draw_0 rfl (lv_at hl 0 rfl) ?_
  refine lv_aload_n hx hb dX11_draw_1 rfl (lv_at hl 0 rfl) ?_
  refine M0e hT (fun v0_1 v2_1 v3_1 v4_1 v5_1 v6_1 v8_1 v9_1 v12_1 v13_1 v14_1 v15_1 v16_1 v17_1 v18_1 v19_1 v20_1 v21_1 v22_1 v23_1 v25_1 v36_1 v37_1 v38_1 v39_1 v40_1 v45_1 v46_1 v47_1 v48_1 v50_1 v51_1 v53_1 v55_1 hf2 hv0_1 hv2_1 hg2_1 hv3_1 hg3_1 hv4_1 hg4_1 hv5_1 hg5_1 hv6_1 hg6_1 hv8_1 hg8_1 hv9_1 hg9_1 hv12_1 hv13_1 hg13_1 hv14_1 hg14_1 hv15_1 hg15_1 hv17_1 hg17_1 hv20_1 hg20_1 hv23_1 hg23_1 hv25_1 hg25_1 hv36_1 hg36_1 hv47_1 hg47_1 hv48_1 hg48_1 hv53_1 hg53_1 hv55_1 hg55_1 hrel0_1 => ?_)
  have hg15_1 : v15_1.toInt = th 11 := hg15_1
  have hg17_1 : v17_1.toInt = th 12 := hg17_1
  have hg20_1 : v20_1.toInt = th 14 := hg20_1
  refine pl_get (v := .long v22_1) hx hb hts (fun w h => mT (inX11 w h)) hown hG.1 hP (hst.1 255 (by decide)) hf2 rfl 22 (by decide) (hts _ (mT wg_1358)) (fun _ h => h) rfl dX11_draw_2 ?_
  refine lv_ldc2 hx hb hown (hts _ (mT wg_1679)) dX11_draw_5 ?_
  refine lv_lmul hx hb dX11_draw_8 ?_
  refine lv_topl (fun x3 ex3 => ?_)
  refine lv_ldc2 hx hb hown (hts _ (mT wg_1680)) dX11_draw_9 ?_
  refine lv_ladd hx hb dX11_draw_12 ?_
  refine lv_topl (fun x4 ex4 => ?_)
  refine pl_put (ty := .long) (v := .long x4) (fs' := [.int v0_1, .ref (ad 256), .int v2_1, .int v3_1, .int v4_1, .int v5_1, .int v6_1, .ref (ad 257), .int v8_1, .int v9_1, .ref (ad 258), .ref (ad 259), .int v12_1, .int v13_1, .int v14_1, .int v15_1, .int v16_1, .int v17_1, .int v18_1, .int v19_1, .int v20_1, .long v21_1, .long x4, .int v23_1, .ref (ad 260), .int v25_1, .ref (ad 261), .ref (ad 262), .ref (ad 263), .ref (ad 264), .ref (ad 265), .ref (ad 266), .ref (ad 267), .ref (ad 268), .ref (ad 269), .ref (ad 270), .int v36_1, .int v37_1, .int v38_1, .int v39_1, .int v40_1, .ref (ad 271), .ref (ad 272), .ref (ad 273), .ref (ad 274), .long v45_1, .long v46_1, .int v47_1, .int v48_1, .ref (ad 275), .int v50_1, .int v51_1, .ref (ad 276), .int v53_1, .ref (ad 277), .int v55_1]) hx hb hts (fun w h => mT (inX11 w h)) tyX11 tyX11_ok nmX11 hown hG.1 hP hD hS (hst.1 255 (by decide)) hf2 rfl 22 (by decide) (hts _ (mT wg_1358)) (fun _ h => h) rfl (by decide +kernel) (rfl) (rfl) (Nat.le_of_ble_eq_true rfl) rfl dX11_draw_13 (fun H locs f5 hf6 ho7 hP hD hS => ?_)
  have hfr : (∀ b, b ≠ (ad 255) → f5 b = f b) := fun b z0_ => (ho7 b z0_).trans (hfr b z0_)
  refine lv_aload_n hx hb dX11_draw_16 rfl (lv_at hl 0 rfl) ?_
  refine pl_get (v := .long x4) hx hb hts (fun w h => mT (inX11 w h)) hown hG.1 hP (hst.1 255 (by decide)) hf6 rfl 22 (by decide) (hts _ (mT wg_1358)) (fun _ h => h) rfl dX11_draw_17 ?_
  refine lv_bipush (v := 33) hx hb dX11_draw_20 (by decide) ?_
  refine lv_lushr hx hb dX11_draw_22 rfl ?_
  refine lv_topl (fun x8 ex8 => ?_)
  refine lv_ldc2 hx hb hown (hts _ (mT wg_1681)) dX11_draw_23 ?_
  refine lv_lrem hx hb dX11_draw_26 (by decide) ?_
  refine lv_topl (fun x9 ex9 => ?_)
  refine lv_l2i hx hb dX11_draw_27 rfl ?_
  refine lv_topi (fun x10 ex10 => ?_)
  have hT := TI.updM hT hst (k := 0) (by decide) hf6 ho7 ⟨v0_1, v2_1, v3_1, v4_1, v5_1, v6_1, v8_1, v9_1, v12_1, v13_1, v14_1, v15_1, v16_1, v17_1, v18_1, v19_1, v20_1, v21_1, x4, v23_1, v25_1, v36_1, v37_1, v38_1, v39_1, v40_1, v45_1, v46_1, v47_1, v48_1, v50_1, v51_1, v53_1, v55_1, rfl, hv0_1, hv2_1, hg2_1, hv3_1, hg3_1, hv4_1, hg4_1, hv5_1, hg5_1, hv6_1, hg6_1, hv8_1, hg8_1, hv9_1, hg9_1, hv12_1, hv13_1, hg13_1, hv14_1, hg14_1, hv15_1, hg15_1, hv17_1, hg17_1, hv20_1, hg20_1, hv23_1, hg23_1, hv25_1, hg25_1, hv36_1, hg36_1, hv47_1, hg47_1, hv48_1, hg48_1, hv53_1, hg53_1, hv55_1, hg55_1, hrel0_1⟩
  exact ret_i (ty := .int) hx hb hr hlocks (rfl) hP hD hS (Nat.le_of_ble_eq_true rfl) (Nat.le_of_ble_eq_true rfl) (⟨rfl, hT, hfr⟩) dX11_draw_28

abbrev rm_X11_agrees : Room := { frames := 0, cells := 0, slots := 0, locals := 0 }
abbrev po_X11_agrees (g : GG) (ad : Nat → Nat) (th : Nat → Int) (L : List Nat) (f : HP) (z0 : Int32) (z1 : Int32) : Int32 → (List Nat × HP) → Prop := fun r u => u.1 = L ∧ u.2 = f ∧ In r 0 1
set_option maxHeartbeats 4000000 in
set_option maxRecDepth 100000 in
theorem s_X11_agrees (l : Launch) (g : GG) (ad : Nat → Nat) (th : Nat → Int) (L : List Nat) (f : HP) (sz : Nat) (z0 : Int32) (z1 : Int32) (hst : ST ad L) (hT : TI g ad th f)  : MtI l g yX11_agrees cX11_agrees 2 (some .boolean) rm_X11_agrees [.int z0, .int z1] L f sz (po_X11_agrees g ad th L f z0 z1) := by
  refine MtI.of (by decide +kernel) (Nat.le_of_ble_eq_true rfl) ?_
  intro p e s m below meth c A hEn hP hD hS ls hl
  obtain ⟨hx, hb, hr, hml, hown, hlocks, hts, hG, hA, hE, hnm⟩ := hEn
  have hown : s.vm.findClass "RulerWordModel" = some m.cls := hown
  have hl : lv_has ls 2 [(0, .int z0), (1, .int z1)] := hl
  refine lv_iload_n hx hb dX11_agrees_0 rfl (lv_at hl 0 rfl) ?_
  refine lv_iconst (v := (-1)) hx hb dX11_agrees_1 (by decide) ?_
  have hJ10 : ∀ (H : Heap) (locs : List Loc) (ls : Array Slot), va_P g.1 vwCl (va_pl L f) H → va_D A (va_pl L f) → va_S A s.heap H locs → lv_has ls 2 [(0, .int z0), (1, .int z1)] → W p l e rm_X11_agrees s m [.int z0, .int z1].toArray below meth c H locs 0 0 (MQ below (va_Qi (po_X11_agrees g ad th L f z0 z1) (PstB g A) A) [.int z0, .int z1].toArray s rm_X11_agrees.cells rm_X11_agrees.slots A) (F0 m 10 ls []) := by
    intro H locs ls hP hD hS hl
    refine lv_iconst (v := 1) hx hb dX11_agrees_10 (by decide) ?_
    refine lv_goto (tgt := 15) hx hb dX11_agrees_11 (by decide) ?_
    exact ret_i (ty := .boolean) hx hb hr hlocks (rfl) hP hD hS (Nat.le_of_ble_eq_true rfl) (Nat.le_of_ble_eq_true rfl) (⟨rfl, rfl, (⟨by decide, by decide⟩ : In 1 0 1)⟩) dX11_agrees_15
  refine lv_icmp_eq (tgt := 10) hx hb dX11_agrees_2 (by decide) (fun c1 => ?_) (fun c1 => ?_)
  ·
    have cc2 : z0.toInt = ((-1) : Int32).toInt := congrArg Int32.toInt c1
    have hb3 : In z0 (-1) (-1) := In.eq1 (In.full z0) (⟨by decide, by decide⟩ : In (-1) (-1) (-1)) cc2 (by omega) (by omega)
    exact hJ10 _ _ _ hP hD hS (lv_sub hl [0, 1] rfl)
  ·
    refine lv_iload_n hx hb dX11_agrees_5 rfl (lv_at hl 0 rfl) ?_
    refine lv_iload_n hx hb dX11_agrees_6 rfl (lv_at hl 1 rfl) ?_
    refine lv_icmp_ne (tgt := 14) hx hb dX11_agrees_7 (by decide) (fun c4 => ?_) (fun c4 => ?_)
    ·
      refine lv_iconst (v := 0) hx hb dX11_agrees_14 (by decide) ?_
      exact ret_i (ty := .boolean) hx hb hr hlocks (rfl) hP hD hS (Nat.le_of_ble_eq_true rfl) (Nat.le_of_ble_eq_true rfl) (⟨rfl, rfl, (⟨by decide, by decide⟩ : In 0 0 1)⟩) dX11_agrees_15
    ·
      exact hJ10 _ _ _ hP hD hS (lv_sub hl [0, 1] rfl)

abbrev rm_X11_byPlan : Room := { frames := 1, cells := 0, slots := 0, locals := 21 }
abbrev po_X11_byPlan (g : GG) (ad : Nat → Nat) (th : Nat → Int) (L : List Nat) (f : HP) (z1 : Int32) (z2 : Int32) (z3 : Int32) (z4 : Int32) (z5 : Int32) : Int32 → (List Nat × HP) → Prop := fun r u => u.1 = L ∧ TI g ad th u.2 ∧ (∀ b, b ≠ (ad 255) → u.2 b = f b)
set_option maxHeartbeats 4000000 in
set_option maxRecDepth 100000 in
theorem s_X11_byPlan (l : Launch) (g : GG) (ad : Nat → Nat) (th : Nat → Int) (L : List Nat) (f : HP) (sz : Nat) (z1 : Int32) (z2 : Int32) (z3 : Int32) (z4 : Int32) (z5 : Int32) (hst : ST ad L) (hT : TI g ad th f)  : MtI l g yX11_byPlan cX11_byPlan 9 (some .int) rm_X11_byPlan [.ref (ad 255), .int z1, .int z2, .int z3, .int z4, .int z5] L f sz (po_X11_byPlan g ad th L f z1 z2 z3 z4 z5) := by
  refine MtI.of (by decide +kernel) (Nat.le_of_ble_eq_true rfl) ?_
  intro p e s m below meth c A hEn hP hD hS ls hl
  obtain ⟨hx, hb, hr, hml, hown, hlocks, hts, hG, hA, hE, hnm⟩ := hEn
  have hown : s.vm.findClass "RulerWordModel" = some m.cls := hown
  have hl : lv_has ls 9 [(0, .ref (ad 255)), (1, .int z1), (2, .int z2), (3, .int z3), (4, .int z4), (5, .int z5)] := hl
  have hfr : (∀ b, b ≠ (ad 255) → f b = f b) := fun b z0_ => rfl
  refine lv_aload_n hx hb dX11_byPlan_0 rfl (lv_at hl 0 rfl) ?_
  refine M0e hT (fun v0_1 v2_1 v3_1 v4_1 v5_1 v6_1 v8_1 v9_1 v12_1 v13_1 v14_1 v15_1 v16_1 v17_1 v18_1 v19_1 v20_1 v21_1 v22_1 v23_1 v25_1 v36_1 v37_1 v38_1 v39_1 v40_1 v45_1 v46_1 v47_1 v48_1 v50_1 v51_1 v53_1 v55_1 hf2 hv0_1 hv2_1 hg2_1 hv3_1 hg3_1 hv4_1 hg4_1 hv5_1 hg5_1 hv6_1 hg6_1 hv8_1 hg8_1 hv9_1 hg9_1 hv12_1 hv13_1 hg13_1 hv14_1 hg14_1 hv15_1 hg15_1 hv17_1 hg17_1 hv20_1 hg20_1 hv23_1 hg23_1 hv25_1 hg25_1 hv36_1 hg36_1 hv47_1 hg47_1 hv48_1 hg48_1 hv53_1 hg53_1 hv55_1 hg55_1 hrel0_1 => ?_)
  have hg15_1 : v15_1.toInt = th 11 := hg15_1
  have hg17_1 : v17_1.toInt = th 12 := hg17_1
  have hg20_1 : v20_1.toInt = th 14 := hg20_1
  refine pl_get (v := .int v25_1) hx hb hts (fun w h => mT (inX11 w h)) hown hG.1 hP (hst.1 255 (by decide)) hf2 rfl 25 (by decide) (hts _ (mT wg_1361)) (fun _ h => h) rfl dX11_byPlan_1 ?_
  have hg25_1 : v25_1.toInt = th 44 := hg25_1
  refine lv_iconst (v := 1) hx hb dX11_byPlan_4 (by decide) ?_
  refine lv_isub hx hb dX11_byPlan_5 ?_
  refine lv_topi (fun x3 ex3 => ?_)
  have hb4 : In x3 (-1) 29 := ex3 ▸ In.sub hv25_1 (⟨by decide, by decide⟩ : In 1 1 1) (by decide) (by decide) (by decide) (by decide)
  have et5 : x3.toInt = v25_1.toInt + (-1) := In.sube ex3 hv25_1 (k := 1) (by decide) (by decide) (by decide)
  refine lv_istore (lv' := [(6, .int x3), (0, .ref (ad 255)), (1, .int z1), (2, .int z2), (3, .int z3), (4, .int z4), (5, .int z5)]) hx hb dX11_byPlan_6 hl (by decide) rfl (fun ls hl => ?_)
  have hJ8 : ∀ (k8 : Nat) (y8_l6 : Int32) (H : Heap) (locs : List Loc) (ls : Array Slot), In y8_l6 (-1) 29 → va_P g.1 vwCl (va_pl L f) H → va_D A (va_pl L f) → va_S A s.heap H locs → lv_has ls 9 [(0, .ref (ad 255)), (1, .int z1), (2, .int z2), (3, .int z3), (4, .int z4), (5, .int z5), (6, .int y8_l6)] → y8_l6.toInt - (-1) < ((k8 : Nat) : Int) → W p l e rm_X11_byPlan s m [.ref (ad 255), .int z1, .int z2, .int z3, .int z4, .int z5].toArray below meth c H locs 0 0 (MQ below (va_Qi (po_X11_byPlan g ad th L f z1 z2 z3 z4 z5) (PstB g A) A) [.ref (ad 255), .int z1, .int z2, .int z3, .int z4, .int z5].toArray s rm_X11_byPlan.cells rm_X11_byPlan.slots A) (F0 m 8 ls []) := by
    intro k8
    induction k8 with
    | zero =>
      intro y8_l6 H locs ls hy8_l6 hP hD hS hl hmz8
      exact ms0d hy8_l6 hmz8
    | succ k8 ih8 =>
      intro y8_l6 H locs ls hy8_l6 hP hD hS hl hmz8
      refine lv_iload hx hb dX11_byPlan_8 (lv_at hl 6 rfl) ?_
      refine lv_if_lt (tgt := 86) hx hb dX11_byPlan_10 (by decide) (fun c6 => ?_) (fun c6 => ?_)
      ·
        have cc7 : y8_l6.toInt < (0 : Int32).toInt := i32_lt.mp c6
        have hb8 : In y8_l6 (-1) (-1) := In.lt1 hy8_l6 (⟨by decide, by decide⟩ : In 0 0 0) cc7 (by omega) (by omega)
        refine lv_iconst (v := 0) hx hb dX11_byPlan_86 (by decide) ?_
        refine lv_istore (lv' := [(6, .int 0), (0, .ref (ad 255)), (1, .int z1), (2, .int z2), (3, .int z3), (4, .int z4), (5, .int z5)]) hx hb dX11_byPlan_87 hl (by decide) rfl (fun ls hl => ?_)
        have hJ89 : ∀ (k89 : Nat) (y89_l6 : Int32) (H : Heap) (locs : List Loc) (ls : Array Slot), In y89_l6 0 20 → va_P g.1 vwCl (va_pl L f) H → va_D A (va_pl L f) → va_S A s.heap H locs → lv_has ls 9 [(0, .ref (ad 255)), (1, .int z1), (2, .int z2), (3, .int z3), (4, .int z4), (5, .int z5), (6, .int y89_l6)] → 20 - y89_l6.toInt < ((k89 : Nat) : Int) → W p l e rm_X11_byPlan s m [.ref (ad 255), .int z1, .int z2, .int z3, .int z4, .int z5].toArray below meth c H locs 0 0 (MQ below (va_Qi (po_X11_byPlan g ad th L f z1 z2 z3 z4 z5) (PstB g A) A) [.ref (ad 255), .int z1, .int z2, .int z3, .int z4, .int z5].toArray s rm_X11_byPlan.cells rm_X11_byPlan.slots A) (F0 m 89 ls []) := by
          intro k89
          induction k89 with
          | zero =>
            intro y89_l6 H locs ls hy89_l6 hP hD hS hl hmz89
            exact ms0 hy89_l6 hmz89
          | succ k89 ih89 =>
            intro y89_l6 H locs ls hy89_l6 hP hD hS hl hmz89
            refine lv_iload hx hb dX11_byPlan_89 (lv_at hl 6 rfl) ?_
            refine lv_aload_n hx hb dX11_byPlan_91 rfl (lv_at hl 0 rfl) ?_
            refine pl_get (v := .int v12_1) hx hb hts (fun w h => mT (inX11 w h)) hown hG.1 hP (hst.1 255 (by decide)) hf2 rfl 12 (by decide) (hts _ (mT wg_1348)) (fun _ h => h) rfl dX11_byPlan_92 ?_
            refine lv_icmp_ge (tgt := 244) hx hb dX11_byPlan_95 (by decide) (fun c9 => ?_) (fun c9 => ?_)
            ·
              refine lv_iload hx hb dX11_byPlan_244 (lv_at hl 5 rfl) ?_
              exact ret_i (ty := .int) hx hb hr hlocks (rfl) hP hD hS (Nat.le_of_ble_eq_true rfl) (Nat.le_of_ble_eq_true rfl) (⟨rfl, hT, hfr⟩) dX11_byPlan_246
            ·
              have cc10 : y89_l6.toInt < v12_1.toInt := i32_nle c9
              have hb11 : In y89_l6 0 19 := In.lt1 hy89_l6 hv12_1 cc10 (by omega) (by omega)
              have hb12 : In v12_1 1 20 := In.lt2 hy89_l6 hv12_1 cc10 (by omega) (by omega)
              refine lv_iconst (v := 5) hx hb dX11_byPlan_98 (by decide) ?_
              refine lv_iload hx hb dX11_byPlan_99 (lv_at hl 6 rfl) ?_
              refine lv_imul hx hb dX11_byPlan_101 ?_
              refine lv_topi (fun x13 ex13 => ?_)
              have hb14 : In x13 0 95 := ex13 ▸ In.mul (⟨by decide, by decide⟩ : In 5 5 5) hb11 (by decide) (by decide) (by decide) (by decide) (by decide)
              refine lv_istore (lv' := [(7, .int x13), (0, .ref (ad 255)), (1, .int z1), (2, .int z2), (3, .int z3), (4, .int z4), (5, .int z5), (6, .int y89_l6)]) hx hb dX11_byPlan_102 hl (by decide) rfl (fun ls hl => ?_)
              refine lv_aload_n hx hb dX11_byPlan_104 rfl (lv_at hl 1 rfl) ?_
              refine pl_get (v := .ref (ad 258)) hx hb hts (fun w h => mT (inX11 w h)) hown hG.1 hP (hst.1 255 (by decide)) hf2 rfl 10 (by decide) (hts _ (mT wg_1346)) (fun _ h => h) rfl dX11_byPlan_105 ?_
              refine lv_iload hx hb dX11_byPlan_108 (lv_at hl 0 rfl) ?_
              obtain ⟨rw15, hf16⟩ := hT.2.2 3 (by decide)
              have hin17 : vp_in x13 100 := In.inb hb14 (by decide) (by decide)
              refine pl_iald hx hb hG.1 hP (hst.1 258 (by decide)) 0 hf16 rfl hin17 dX11_byPlan_110 ?_
              refine lv_topi (fun x18 ex18 => ?_)
              refine lv_iload_n hx hb dX11_byPlan_111 rfl (lv_at hl 2 rfl) ?_
              refine call_i (run_S (rm := rm_X11_agrees) hx hb hml hown hts (s_X11_agrees l g ad th _ _ _ x18 z1 hst hT ) cS_X11_agrees wg_1672 ⟨Nat.le_of_ble_eq_true rfl, Nat.le_of_ble_eq_true rfl⟩ hG hE hA hP hD hS rfl hl.1 (As := [.int x18, .int z1]) (rest := []) rfl (Nat.le_of_ble_eq_true rfl) dX11_byPlan_112 ⟨Nat.le_of_ble_eq_true rfl, Nat.le_of_ble_eq_true rfl⟩) hA hD hS (fun r19 L20 f21 H locs hp22 hP hD hS => ?_)
              obtain ⟨eL23L, eL23T, eL23R⟩ := hp22
              have eL23L : L20 = L := eL23L
              have eL23T : f21 = f := eL23T
              rw [eL23L, eL23T] at hP hD
              have eL23R : In r19 0 1 := eL23R
              have hJ238 : ∀ (H : Heap) (locs : List Loc) (ls : Array Slot), va_P g.1 vwCl (va_pl L f) H → va_D A (va_pl L f) → va_S A s.heap H locs → lv_has ls 9 [(0, .ref (ad 255)), (1, .int z1), (2, .int z2), (3, .int z3), (4, .int z4), (5, .int z5), (6, .int y89_l6), (7, .int x13)] → W p l e rm_X11_byPlan s m [.ref (ad 255), .int z1, .int z2, .int z3, .int z4, .int z5].toArray below meth c H locs 0 0 (MQ below (va_Qi (po_X11_byPlan g ad th L f z1 z2 z3 z4 z5) (PstB g A) A) [.ref (ad 255), .int z1, .int z2, .int z3, .int z4, .int z5].toArray s rm_X11_byPlan.cells rm_X11_byPlan.slots A) (F0 m 238 ls []) := by
                intro H locs ls hP hD hS hl
                obtain ⟨x24, ex24⟩ : ∃ y : Int32, y = y89_l6 + 1 := ⟨_, rfl⟩
                have hb25 : In x24 1 20 := ex24 ▸ In.add hb11 (⟨by decide, by decide⟩ : In 1 1 1) (by decide) (by decide) (by decide) (by decide)
                have et26 : x24.toInt = y89_l6.toInt + 1 := In.adde ex24 hb11 (k := 1) (by decide) (by decide) (by decide)
                refine lv_iinc (v := x24) (lv' := [(6, .int x24), (0, .ref (ad 255)), (1, .int z1), (2, .int z2), (3, .int z3), (4, .int z4), (5, .int z5), (7, .int x13)]) hx hb dX11_byPlan_238 hl (k := 6) rfl (by rw [ex24]; rfl) (by decide) rfl (fun ls hl => ?_)
                refine lv_goto (tgt := 89) hx hb dX11_byPlan_241 (by decide) ?_
                exact ih89 x24 _ _ _ (In.mono hb25 (by decide) (by decide)) hP hD hS (lv_sub hl [1, 2, 3, 4, 5, 6, 0] rfl) (msu et26 (by decide) hmz89)
              refine lv_if_eq (tgt := 238) hx hb dX11_byPlan_115 (by decide) (fun c27 => ?_) (fun c27 => ?_)
              ·
                have cc28 : r19.toInt = (0 : Int32).toInt := congrArg Int32.toInt c27
                have hb29 : In r19 0 0 := In.eq1 eL23R (⟨by decide, by decide⟩ : In 0 0 0) cc28 (by omega) (by omega)
                exact hJ238 _ _ _ hP hD hS (lv_sub hl [1, 2, 3, 4, 5, 6, 7, 0] rfl)
              ·
                have cc30 : r19.toInt ≠ (0 : Int32).toInt := i32_ne c27
                have hb31 : In r19 1 1 := In.ne1 eL23R (⟨by decide, by decide⟩ : In 0 0 0) cc30 (by omega) (by omega)
                refine lv_aload_n hx hb dX11_byPlan_118 rfl (lv_at hl 1 rfl) ?_
                refine pl_get (v := .ref (ad 258)) hx hb hts (fun w h => mT (inX11 w h)) hown hG.1 hP (hst.1 255 (by decide)) hf2 rfl 10 (by decide) (hts _ (mT wg_1346)) (fun _ h => h) rfl dX11_byPlan_119 ?_
                refine lv_iload hx hb dX11_byPlan_122 (lv_at hl 0 rfl) ?_
                refine lv_iconst (v := 1) hx hb dX11_byPlan_124 (by decide) ?_
                refine lv_iadd hx hb dX11_byPlan_125 ?_
                refine lv_topi (fun x32 ex32 => ?_)
                have hb33 : In x32 1 96 := ex32 ▸ In.add hb14 (⟨by decide, by decide⟩ : In 1 1 1) (by decide) (by decide) (by decide) (by decide)
                have et34 : x32.toInt = x13.toInt + 1 := In.adde ex32 hb14 (k := 1) (by decide) (by decide) (by decide)
                have hin35 : vp_in x32 100 := In.inb hb33 (by decide) (by decide)
                refine pl_iald hx hb hG.1 hP (hst.1 258 (by decide)) 0 hf16 rfl hin35 dX11_byPlan_126 ?_
                refine lv_topi (fun x36 ex36 => ?_)
                refine lv_iload_n hx hb dX11_byPlan_127 rfl (lv_at hl 3 rfl) ?_
                refine call_i (run_S (rm := rm_X11_agrees) hx hb hml hown hts (s_X11_agrees l g ad th _ _ _ x36 z2 hst hT ) cS_X11_agrees wg_1672 ⟨Nat.le_of_ble_eq_true rfl, Nat.le_of_ble_eq_true rfl⟩ hG hE hA hP hD hS rfl hl.1 (As := [.int x36, .int z2]) (rest := []) rfl (Nat.le_of_ble_eq_true rfl) dX11_byPlan_128 ⟨Nat.le_of_ble_eq_true rfl, Nat.le_of_ble_eq_true rfl⟩) hA hD hS (fun r37 L38 f39 H locs hp40 hP hD hS => ?_)
                obtain ⟨eL41L, eL41T, eL41R⟩ := hp40
                have eL41L : L38 = L := eL41L
                have eL41T : f39 = f := eL41T
                rw [eL41L, eL41T] at hP hD
                have eL41R : In r37 0 1 := eL41R
                refine lv_if_eq (tgt := 238) hx hb dX11_byPlan_131 (by decide) (fun c42 => ?_) (fun c42 => ?_)
                ·
                  have cc43 : r37.toInt = (0 : Int32).toInt := congrArg Int32.toInt c42
                  have hb44 : In r37 0 0 := In.eq1 eL41R (⟨by decide, by decide⟩ : In 0 0 0) cc43 (by omega) (by omega)
                  exact hJ238 _ _ _ hP hD hS (lv_sub hl [1, 2, 3, 4, 5, 6, 7, 0] rfl)
                ·
                  have cc45 : r37.toInt ≠ (0 : Int32).toInt := i32_ne c42
                  have hb46 : In r37 1 1 := In.ne1 eL41R (⟨by decide, by decide⟩ : In 0 0 0) cc45 (by omega) (by omega)
                  refine lv_aload_n hx hb dX11_byPlan_134 rfl (lv_at hl 1 rfl) ?_
                  refine pl_get (v := .ref (ad 258)) hx hb hts (fun w h => mT (inX11 w h)) hown hG.1 hP (hst.1 255 (by decide)) hf2 rfl 10 (by decide) (hts _ (mT wg_1346)) (fun _ h => h) rfl dX11_byPlan_135 ?_
                  refine lv_iload hx hb dX11_byPlan_138 (lv_at hl 0 rfl) ?_
                  refine lv_iconst (v := 2) hx hb dX11_byPlan_140 (by decide) ?_
                  refine lv_iadd hx hb dX11_byPlan_141 ?_
                  refine lv_topi (fun x47 ex47 => ?_)
                  have hb48 : In x47 2 97 := ex47 ▸ In.add hb14 (⟨by decide, by decide⟩ : In 2 2 2) (by decide) (by decide) (by decide) (by decide)
                  have et49 : x47.toInt = x13.toInt + 2 := In.adde ex47 hb14 (k := 2) (by decide) (by decide) (by decide)
                  have hin50 : vp_in x47 100 := In.inb hb48 (by decide) (by decide)
                  refine pl_iald hx hb hG.1 hP (hst.1 258 (by decide)) 0 hf16 rfl hin50 dX11_byPlan_142 ?_
                  refine lv_topi (fun x51 ex51 => ?_)
                  refine lv_iload_n hx hb dX11_byPlan_143 rfl (lv_at hl 4 rfl) ?_
                  refine call_i (run_S (rm := rm_X11_agrees) hx hb hml hown hts (s_X11_agrees l g ad th _ _ _ x51 z3 hst hT ) cS_X11_agrees wg_1672 ⟨Nat.le_of_ble_eq_true rfl, Nat.le_of_ble_eq_true rfl⟩ hG hE hA hP hD hS rfl hl.1 (As := [.int x51, .int z3]) (rest := []) rfl (Nat.le_of_ble_eq_true rfl) dX11_byPlan_144 ⟨Nat.le_of_ble_eq_true rfl, Nat.le_of_ble_eq_true rfl⟩) hA hD hS (fun r52 L53 f54 H locs hp55 hP hD hS => ?_)
                  obtain ⟨eL56L, eL56T, eL56R⟩ := hp55
                  have eL56L : L53 = L := eL56L
                  have eL56T : f54 = f := eL56T
                  rw [eL56L, eL56T] at hP hD
                  have eL56R : In r52 0 1 := eL56R
                  refine lv_if_eq (tgt := 238) hx hb dX11_byPlan_147 (by decide) (fun c57 => ?_) (fun c57 => ?_)
                  ·
                    have cc58 : r52.toInt = (0 : Int32).toInt := congrArg Int32.toInt c57
                    have hb59 : In r52 0 0 := In.eq1 eL56R (⟨by decide, by decide⟩ : In 0 0 0) cc58 (by omega) (by omega)
                    exact hJ238 _ _ _ hP hD hS (lv_sub hl [1, 2, 3, 4, 5, 6, 7, 0] rfl)
                  ·
                    have cc60 : r52.toInt ≠ (0 : Int32).toInt := i32_ne c57
                    have hb61 : In r52 1 1 := In.ne1 eL56R (⟨by decide, by decide⟩ : In 0 0 0) cc60 (by omega) (by omega)
                    refine lv_aload_n hx hb dX11_byPlan_150 rfl (lv_at hl 1 rfl) ?_
                    refine pl_get (v := .ref (ad 258)) hx hb hts (fun w h => mT (inX11 w h)) hown hG.1 hP (hst.1 255 (by decide)) hf2 rfl 10 (by decide) (hts _ (mT wg_1346)) (fun _ h => h) rfl dX11_byPlan_151 ?_
                    refine lv_iload hx hb dX11_byPlan_154 (lv_at hl 0 rfl) ?_
                    refine lv_iconst (v := 3) hx hb dX11_byPlan_156 (by decide) ?_
                    refine lv_iadd hx hb dX11_byPlan_157 ?_
                    refine lv_topi (fun x62 ex62 => ?_)
                    have hb63 : In x62 3 98 := ex62 ▸ In.add hb14 (⟨by decide, by decide⟩ : In 3 3 3) (by decide) (by decide) (by decide) (by decide)
                    have et64 : x62.toInt = x13.toInt + 3 := In.adde ex62 hb14 (k := 3) (by decide) (by decide) (by decide)
                    have hin65 : vp_in x62 100 := In.inb hb63 (by decide) (by decide)
                    refine pl_iald hx hb hG.1 hP (hst.1 258 (by decide)) 0 hf16 rfl hin65 dX11_byPlan_158 ?_
                    refine lv_topi (fun x66 ex66 => ?_)
                    refine lv_iload hx hb dX11_byPlan_159 (lv_at hl 5 rfl) ?_
                    refine call_i (run_S (rm := rm_X11_agrees) hx hb hml hown hts (s_X11_agrees l g ad th _ _ _ x66 z4 hst hT ) cS_X11_agrees wg_1672 ⟨Nat.le_of_ble_eq_true rfl, Nat.le_of_ble_eq_true rfl⟩ hG hE hA hP hD hS rfl hl.1 (As := [.int x66, .int z4]) (rest := []) rfl (Nat.le_of_ble_eq_true rfl) dX11_byPlan_161 ⟨Nat.le_of_ble_eq_true rfl, Nat.le_of_ble_eq_true rfl⟩) hA hD hS (fun r67 L68 f69 H locs hp70 hP hD hS => ?_)
                    obtain ⟨eL71L, eL71T, eL71R⟩ := hp70
                    have eL71L : L68 = L := eL71L
                    have eL71T : f69 = f := eL71T
                    rw [eL71L, eL71T] at hP hD
                    have eL71R : In r67 0 1 := eL71R
                    refine lv_if_ne (tgt := 170) hx hb dX11_byPlan_164 (by decide) (fun c72 => ?_) (fun c72 => ?_)
                    ·
                      have cc73 : r67.toInt ≠ (0 : Int32).toInt := i32_ne c72
                      have hb74 : In r67 1 1 := In.ne1 eL71R (⟨by decide, by decide⟩ : In 0 0 0) cc73 (by omega) (by omega)
                      refine lv_aload_n hx hb dX11_byPlan_170 rfl (lv_at hl 1 rfl) ?_
                      refine pl_get (v := .ref (ad 258)) hx hb hts (fun w h => mT (inX11 w h)) hown hG.1 hP (hst.1 255 (by decide)) hf2 rfl 10 (by decide) (hts _ (mT wg_1346)) (fun _ h => h) rfl dX11_byPlan_171 ?_
                      refine lv_iload hx hb dX11_byPlan_174 (lv_at hl 0 rfl) ?_
                      refine lv_iconst (v := 4) hx hb dX11_byPlan_176 (by decide) ?_
                      refine lv_iadd hx hb dX11_byPlan_177 ?_
                      refine lv_topi (fun x75 ex75 => ?_)
                      have hb76 : In x75 4 99 := ex75 ▸ In.add hb14 (⟨by decide, by decide⟩ : In 4 4 4) (by decide) (by decide) (by decide) (by decide)
                      have et77 : x75.toInt = x13.toInt + 4 := In.adde ex75 hb14 (k := 4) (by decide) (by decide) (by decide)
                      have hin78 : vp_in x75 100 := In.inb hb76 (by decide) (by decide)
                      refine pl_iald hx hb hG.1 hP (hst.1 258 (by decide)) 0 hf16 rfl hin78 dX11_byPlan_178 ?_
                      refine lv_topi (fun x79 ex79 => ?_)
                      refine lv_istore (lv' := [(8, .int x79), (7, .int x13), (0, .ref (ad 255)), (1, .int z1), (2, .int z2), (3, .int z3), (4, .int z4), (5, .int z5), (6, .int y89_l6)]) hx hb dX11_byPlan_179 hl (by decide) rfl (fun ls hl => ?_)
                      refine lv_iload hx hb dX11_byPlan_181 (lv_at hl 0 rfl) ?_
                      refine lv_iconst (v := 3) hx hb dX11_byPlan_183 (by decide) ?_
                      refine lv_icmp_ge (tgt := 190) hx hb dX11_byPlan_184 (by decide) (fun c80 => ?_) (fun c80 => ?_)
                      ·
                        have cc81 : (3 : Int32).toInt ≤ x79.toInt := i32_le.mp c80
                        have hb82 : In x79 3 2147483647 := In.ge1 (In.full x79) (⟨by decide, by decide⟩ : In 3 3 3) cc81 (by omega) (by omega)
                        refine lv_iload hx hb dX11_byPlan_190 (lv_at hl 0 rfl) ?_
                        refine lv_iconst (v := 3) hx hb dX11_byPlan_192 (by decide) ?_
                        refine lv_icmp_ne (tgt := 199) hx hb dX11_byPlan_193 (by decide) (fun c83 => ?_) (fun c83 => ?_)
                        ·
                          have cc84 : x79.toInt ≠ (3 : Int32).toInt := i32_ne c83
                          have hb85 : In x79 4 2147483647 := In.ne1 hb82 (⟨by decide, by decide⟩ : In 3 3 3) cc84 (by omega) (by omega)
                          refine lv_iload hx hb dX11_byPlan_199 (lv_at hl 0 rfl) ?_
                          refine lv_iconst (v := 4) hx hb dX11_byPlan_201 (by decide) ?_
                          refine lv_icmp_ne (tgt := 220) hx hb dX11_byPlan_202 (by decide) (fun c86 => ?_) (fun c86 => ?_)
                          ·
                            have cc87 : x79.toInt ≠ (4 : Int32).toInt := i32_ne c86
                            have hb88 : In x79 5 2147483647 := In.ne1 hb85 (⟨by decide, by decide⟩ : In 4 4 4) cc87 (by omega) (by omega)
                            refine lv_iload hx hb dX11_byPlan_220 (lv_at hl 0 rfl) ?_
                            refine lv_iconst (v := 5) hx hb dX11_byPlan_222 (by decide) ?_
                            refine lv_icmp_ne (tgt := 233) hx hb dX11_byPlan_223 (by decide) (fun c89 => ?_) (fun c89 => ?_)
                            ·
                              have cc90 : x79.toInt ≠ (5 : Int32).toInt := i32_ne c89
                              have hb91 : In x79 6 2147483647 := In.ne1 hb88 (⟨by decide, by decide⟩ : In 5 5 5) cc90 (by omega) (by omega)
                              refine lv_aload_n hx hb dX11_byPlan_233 rfl (lv_at hl 2 rfl) ?_
                              refine call_i (run_V (rm := rm_X11_draw) hx hb hml hown hts (s_X11_draw l g ad th _ _ _  hst hT ) cV_X11_draw wg_1675 ⟨Nat.le_of_ble_eq_true rfl, Nat.le_of_ble_eq_true rfl⟩ hG hE hA hP hD hS (hst.1 255 (by decide)) hf2 rfl rfl hl.1 (As := []) (rest := []) rfl (Nat.le_of_ble_eq_true rfl) dX11_byPlan_234 ⟨Nat.le_of_ble_eq_true rfl, Nat.le_of_ble_eq_true rfl⟩) hA hD hS (fun r92 L93 f94 H locs hp95 hP hD hS => ?_)
                              obtain ⟨eL96L, eL96T, eL96F⟩ := hp95
                              have eL96L : L93 = L := eL96L
                              rw [eL96L] at hP hD
                              have hT : TI g ad th f94 := eL96T
                              have eL96F : ∀ b, b ≠ (ad 255) → f94 b = f b := eL96F
                              have hf97 := (eL96F (ad 258) (hst.ne (by decide) (by decide) (by decide))).trans hf16
                              have hfr : (∀ b, b ≠ (ad 255) → f94 b = f b) := fun b z0_ => (eL96F b z0_).trans (hfr b z0_)
                              exact ret_i (ty := .int) hx hb hr hlocks (rfl) hP hD hS (Nat.le_of_ble_eq_true rfl) (Nat.le_of_ble_eq_true rfl) (⟨rfl, hT, hfr⟩) dX11_byPlan_237
                            ·
                              have cc98 : x79.toInt = (5 : Int32).toInt := congrArg Int32.toInt c89
                              have hb99 : In x79 5 5 := In.eq1 hb88 (⟨by decide, by decide⟩ : In 5 5 5) cc98 (by omega) (by omega)
                              refine lv_iload hx hb dX11_byPlan_226 (lv_at hl 6 rfl) ?_
                              refine lv_iconst (v := 2) hx hb dX11_byPlan_228 (by decide) ?_
                              refine lv_irem hx hb dX11_byPlan_229 (In.ne0 (⟨by decide, by decide⟩ : In 2 2 2) (by decide)) ?_
                              refine lv_topi (fun x100 ex100 => ?_)
                              refine lv_goto (tgt := 237) hx hb dX11_byPlan_230 (by decide) ?_
                              exact ret_i (ty := .int) hx hb hr hlocks (rfl) hP hD hS (Nat.le_of_ble_eq_true rfl) (Nat.le_of_ble_eq_true rfl) (⟨rfl, hT, hfr⟩) dX11_byPlan_237
                          ·
                            have cc101 : x79.toInt = (4 : Int32).toInt := congrArg Int32.toInt c86
                            have hb102 : In x79 4 4 := In.eq1 hb85 (⟨by decide, by decide⟩ : In 4 4 4) cc101 (by omega) (by omega)
                            refine lv_iload hx hb dX11_byPlan_205 (lv_at hl 7 rfl) ?_
                            refine lv_iconst (v := 2) hx hb dX11_byPlan_207 (by decide) ?_
                            refine lv_icmp_ne (tgt := 215) hx hb dX11_byPlan_208 (by decide) (fun c103 => ?_) (fun c103 => ?_)
                            ·
                              refine lv_iconst (v := 1) hx hb dX11_byPlan_215 (by decide) ?_
                              refine lv_iload hx hb dX11_byPlan_216 (lv_at hl 7 rfl) ?_
                              refine lv_isub hx hb dX11_byPlan_218 ?_
                              refine lv_topi (fun x104 ex104 => ?_)
                              exact ret_i (ty := .int) hx hb hr hlocks (rfl) hP hD hS (Nat.le_of_ble_eq_true rfl) (Nat.le_of_ble_eq_true rfl) (⟨rfl, hT, hfr⟩) dX11_byPlan_219
                            ·
                              have cc105 : z5.toInt = (2 : Int32).toInt := congrArg Int32.toInt c103
                              have hb106 : In z5 2 2 := In.eq1 (In.full z5) (⟨by decide, by decide⟩ : In 2 2 2) cc105 (by omega) (by omega)
                              refine lv_iconst (v := 2) hx hb dX11_byPlan_211 (by decide) ?_
                              refine lv_goto (tgt := 219) hx hb dX11_byPlan_212 (by decide) ?_
                              exact ret_i (ty := .int) hx hb hr hlocks (rfl) hP hD hS (Nat.le_of_ble_eq_true rfl) (Nat.le_of_ble_eq_true rfl) (⟨rfl, hT, hfr⟩) dX11_byPlan_219
                        ·
                          have cc107 : x79.toInt = (3 : Int32).toInt := congrArg Int32.toInt c83
                          have hb108 : In x79 3 3 := In.eq1 hb82 (⟨by decide, by decide⟩ : In 3 3 3) cc107 (by omega) (by omega)
                          refine lv_iload hx hb dX11_byPlan_196 (lv_at hl 7 rfl) ?_
                          exact ret_i (ty := .int) hx hb hr hlocks (rfl) hP hD hS (Nat.le_of_ble_eq_true rfl) (Nat.le_of_ble_eq_true rfl) (⟨rfl, hT, hfr⟩) dX11_byPlan_198
                      ·
                        have cc109 : x79.toInt < (3 : Int32).toInt := i32_nle c80
                        have hb110 : In x79 (-2147483648) 2 := In.lt1 (In.full x79) (⟨by decide, by decide⟩ : In 3 3 3) cc109 (by omega) (by omega)
                        refine lv_iload hx hb dX11_byPlan_187 (lv_at hl 0 rfl) ?_
                        exact ret_i (ty := .int) hx hb hr hlocks (rfl) hP hD hS (Nat.le_of_ble_eq_true rfl) (Nat.le_of_ble_eq_true rfl) (⟨rfl, hT, hfr⟩) dX11_byPlan_189
                    ·
                      have cc111 : r67.toInt = (0 : Int32).toInt := congrArg Int32.toInt c72
                      have hb112 : In r67 0 0 := In.eq1 eL71R (⟨by decide, by decide⟩ : In 0 0 0) cc111 (by omega) (by omega)
                      refine lv_goto (tgt := 238) hx hb dX11_byPlan_167 (by decide) ?_
                      exact hJ238 _ _ _ hP hD hS (lv_sub hl [1, 2, 3, 4, 5, 6, 7, 0] rfl)
        exact hJ89 ((20 - (0 : Int32).toInt).toNat + 1) 0 _ _ _ (⟨by decide, by decide⟩ : In 0 0 20) hP hD hS (lv_sub hl [1, 2, 3, 4, 5, 6, 0] rfl) (msI _)
      ·
        have cc113 : (0 : Int32).toInt ≤ y8_l6.toInt := i32_nlt c6
        have hb114 : In y8_l6 0 29 := In.ge1 hy8_l6 (⟨by decide, by decide⟩ : In 0 0 0) cc113 (by omega) (by omega)
        refine lv_iconst (v := 5) hx hb dX11_byPlan_13 (by decide) ?_
        refine lv_iload hx hb dX11_byPlan_14 (lv_at hl 6 rfl) ?_
        refine lv_imul hx hb dX11_byPlan_16 ?_
        refine lv_topi (fun x115 ex115 => ?_)
        have hb116 : In x115 0 145 := ex115 ▸ In.mul (⟨by decide, by decide⟩ : In 5 5 5) hb114 (by decide) (by decide) (by decide) (by decide) (by decide)
        refine lv_istore (lv' := [(7, .int x115), (0, .ref (ad 255)), (1, .int z1), (2, .int z2), (3, .int z3), (4, .int z4), (5, .int z5), (6, .int y8_l6)]) hx hb dX11_byPlan_17 hl (by decide) rfl (fun ls hl => ?_)
        refine lv_aload_n hx hb dX11_byPlan_19 rfl (lv_at hl 1 rfl) ?_
        refine pl_get (v := .ref (ad 260)) hx hb hts (fun w h => mT (inX11 w h)) hown hG.1 hP (hst.1 255 (by decide)) hf2 rfl 24 (by decide) (hts _ (mT wg_1360)) (fun _ h => h) rfl dX11_byPlan_20 ?_
        refine lv_iload hx hb dX11_byPlan_23 (lv_at hl 0 rfl) ?_
        obtain ⟨rw117, hf118⟩ := hT.2.2 5 (by decide)
        have hin119 : vp_in x115 150 := In.inb hb116 (by decide) (by decide)
        refine pl_iald hx hb hG.1 hP (hst.1 260 (by decide)) 0 hf118 rfl hin119 dX11_byPlan_25 ?_
        refine lv_topi (fun x120 ex120 => ?_)
        refine lv_iload_n hx hb dX11_byPlan_26 rfl (lv_at hl 2 rfl) ?_
        have hJ80 : ∀ (H : Heap) (locs : List Loc) (ls : Array Slot), va_P g.1 vwCl (va_pl L f) H → va_D A (va_pl L f) → va_S A s.heap H locs → lv_has ls 9 [(0, .ref (ad 255)), (1, .int z1), (2, .int z2), (3, .int z3), (4, .int z4), (5, .int z5), (6, .int y8_l6), (7, .int x115)] → W p l e rm_X11_byPlan s m [.ref (ad 255), .int z1, .int z2, .int z3, .int z4, .int z5].toArray below meth c H locs 0 0 (MQ below (va_Qi (po_X11_byPlan g ad th L f z1 z2 z3 z4 z5) (PstB g A) A) [.ref (ad 255), .int z1, .int z2, .int z3, .int z4, .int z5].toArray s rm_X11_byPlan.cells rm_X11_byPlan.slots A) (F0 m 80 ls []) := by
          intro H locs ls hP hD hS hl
          obtain ⟨x121, ex121⟩ : ∃ y : Int32, y = y8_l6 + (-1) := ⟨_, rfl⟩
          have hb122 : In x121 (-1) 28 := ex121 ▸ In.add hb114 (⟨by decide, by decide⟩ : In (-1) (-1) (-1)) (by decide) (by decide) (by decide) (by decide)
          have et123 : x121.toInt = y8_l6.toInt + (-1) := In.adde ex121 hb114 (k := (-1)) (by decide) (by decide) (by decide)
          refine lv_iinc (v := x121) (lv' := [(6, .int x121), (0, .ref (ad 255)), (1, .int z1), (2, .int z2), (3, .int z3), (4, .int z4), (5, .int z5), (7, .int x115)]) hx hb dX11_byPlan_80 hl (k := 6) rfl (by rw [ex121]; rfl) (by decide) rfl (fun ls hl => ?_)
          refine lv_goto (tgt := 8) hx hb dX11_byPlan_83 (by decide) ?_
          exact ih8 x121 _ _ _ (In.mono hb122 (by decide) (by decide)) hP hD hS (lv_sub hl [1, 2, 3, 4, 5, 6, 0] rfl) (msd et123 (by decide) hmz8)
        refine lv_icmp_ne (tgt := 80) hx hb dX11_byPlan_27 (by decide) (fun c124 => ?_) (fun c124 => ?_)
        ·
          exact hJ80 _ _ _ hP hD hS (lv_sub hl [1, 2, 3, 4, 5, 6, 7, 0] rfl)
        ·
          refine lv_aload_n hx hb dX11_byPlan_30 rfl (lv_at hl 1 rfl) ?_
          refine pl_get (v := .ref (ad 260)) hx hb hts (fun w h => mT (inX11 w h)) hown hG.1 hP (hst.1 255 (by decide)) hf2 rfl 24 (by decide) (hts _ (mT wg_1360)) (fun _ h => h) rfl dX11_byPlan_31 ?_
          refine lv_iload hx hb dX11_byPlan_34 (lv_at hl 0 rfl) ?_
          refine lv_iconst (v := 1) hx hb dX11_byPlan_36 (by decide) ?_
          refine lv_iadd hx hb dX11_byPlan_37 ?_
          refine lv_topi (fun x125 ex125 => ?_)
          have hb126 : In x125 1 146 := ex125 ▸ In.add hb116 (⟨by decide, by decide⟩ : In 1 1 1) (by decide) (by decide) (by decide) (by decide)
          have et127 : x125.toInt = x115.toInt + 1 := In.adde ex125 hb116 (k := 1) (by decide) (by decide) (by decide)
          have hin128 : vp_in x125 150 := In.inb hb126 (by decide) (by decide)
          refine pl_iald hx hb hG.1 hP (hst.1 260 (by decide)) 0 hf118 rfl hin128 dX11_byPlan_38 ?_
          refine lv_topi (fun x129 ex129 => ?_)
          refine lv_iload_n hx hb dX11_byPlan_39 rfl (lv_at hl 3 rfl) ?_
          refine lv_icmp_ne (tgt := 80) hx hb dX11_byPlan_40 (by decide) (fun c130 => ?_) (fun c130 => ?_)
          ·
            exact hJ80 _ _ _ hP hD hS (lv_sub hl [1, 2, 3, 4, 5, 6, 7, 0] rfl)
          ·
            refine lv_aload_n hx hb dX11_byPlan_43 rfl (lv_at hl 1 rfl) ?_
            refine pl_get (v := .ref (ad 260)) hx hb hts (fun w h => mT (inX11 w h)) hown hG.1 hP (hst.1 255 (by decide)) hf2 rfl 24 (by decide) (hts _ (mT wg_1360)) (fun _ h => h) rfl dX11_byPlan_44 ?_
            refine lv_iload hx hb dX11_byPlan_47 (lv_at hl 0 rfl) ?_
            refine lv_iconst (v := 2) hx hb dX11_byPlan_49 (by decide) ?_
            refine lv_iadd hx hb dX11_byPlan_50 ?_
            refine lv_topi (fun x131 ex131 => ?_)
            have hb132 : In x131 2 147 := ex131 ▸ In.add hb116 (⟨by decide, by decide⟩ : In 2 2 2) (by decide) (by decide) (by decide) (by decide)
            have et133 : x131.toInt = x115.toInt + 2 := In.adde ex131 hb116 (k := 2) (by decide) (by decide) (by decide)
            have hin134 : vp_in x131 150 := In.inb hb132 (by decide) (by decide)
            refine pl_iald hx hb hG.1 hP (hst.1 260 (by decide)) 0 hf118 rfl hin134 dX11_byPlan_51 ?_
            refine lv_topi (fun x135 ex135 => ?_)
            refine lv_iload_n hx hb dX11_byPlan_52 rfl (lv_at hl 4 rfl) ?_
            refine lv_icmp_ne (tgt := 80) hx hb dX11_byPlan_53 (by decide) (fun c136 => ?_) (fun c136 => ?_)
            ·
              exact hJ80 _ _ _ hP hD hS (lv_sub hl [1, 2, 3, 4, 5, 6, 7, 0] rfl)
            ·
              refine lv_aload_n hx hb dX11_byPlan_56 rfl (lv_at hl 1 rfl) ?_
              refine pl_get (v := .ref (ad 260)) hx hb hts (fun w h => mT (inX11 w h)) hown hG.1 hP (hst.1 255 (by decide)) hf2 rfl 24 (by decide) (hts _ (mT wg_1360)) (fun _ h => h) rfl dX11_byPlan_57 ?_
              refine lv_iload hx hb dX11_byPlan_60 (lv_at hl 0 rfl) ?_
              refine lv_iconst (v := 3) hx hb dX11_byPlan_62 (by decide) ?_
              refine lv_iadd hx hb dX11_byPlan_63 ?_
              refine lv_topi (fun x137 ex137 => ?_)
              have hb138 : In x137 3 148 := ex137 ▸ In.add hb116 (⟨by decide, by decide⟩ : In 3 3 3) (by decide) (by decide) (by decide) (by decide)
              have et139 : x137.toInt = x115.toInt + 3 := In.adde ex137 hb116 (k := 3) (by decide) (by decide) (by decide)
              have hin140 : vp_in x137 150 := In.inb hb138 (by decide) (by decide)
              refine pl_iald hx hb hG.1 hP (hst.1 260 (by decide)) 0 hf118 rfl hin140 dX11_byPlan_64 ?_
              refine lv_topi (fun x141 ex141 => ?_)
              refine lv_iload hx hb dX11_byPlan_65 (lv_at hl 5 rfl) ?_
              refine lv_icmp_ne (tgt := 80) hx hb dX11_byPlan_67 (by decide) (fun c142 => ?_) (fun c142 => ?_)
              ·
                exact hJ80 _ _ _ hP hD hS (lv_sub hl [1, 2, 3, 4, 5, 6, 7, 0] rfl)
              ·
                refine lv_aload_n hx hb dX11_byPlan_70 rfl (lv_at hl 1 rfl) ?_
                refine pl_get (v := .ref (ad 260)) hx hb hts (fun w h => mT (inX11 w h)) hown hG.1 hP (hst.1 255 (by decide)) hf2 rfl 24 (by decide) (hts _ (mT wg_1360)) (fun _ h => h) rfl dX11_byPlan_71 ?_
                refine lv_iload hx hb dX11_byPlan_74 (lv_at hl 0 rfl) ?_
                refine lv_iconst (v := 4) hx hb dX11_byPlan_76 (by decide) ?_
                refine lv_iadd hx hb dX11_byPlan_77 ?_
                refine lv_topi (fun x143 ex143 => ?_)
                have hb144 : In x143 4 149 := ex143 ▸ In.add hb116 (⟨by decide, by decide⟩ : In 4 4 4) (by decide) (by decide) (by decide) (by decide)
                have et145 : x143.toInt = x115.toInt + 4 := In.adde ex143 hb116 (k := 4) (by decide) (by decide) (by decide)
                have hin146 : vp_in x143 150 := In.inb hb144 (by decide) (by decide)
                refine pl_iald hx hb hG.1 hP (hst.1 260 (by decide)) 0 hf118 rfl hin146 dX11_byPlan_78 ?_
                refine lv_topi (fun x147 ex147 => ?_)
                exact ret_i (ty := .int) hx hb hr hlocks (rfl) hP hD hS (Nat.le_of_ble_eq_true rfl) (Nat.le_of_ble_eq_true rfl) (⟨rfl, hT, hfr⟩) dX11_byPlan_79
  exact hJ8 ((x3.toInt - (-1)).toNat + 1) x3 _ _ _ hb4 hP hD hS (lv_sub hl [1, 2, 3, 4, 5, 6, 0] rfl) (msI _)

abbrev rm_X11_letterOf : Room := { frames := 2, cells := 0, slots := 0, locals := 49 }
abbrev po_X11_letterOf (g : GG) (ad : Nat → Nat) (th : Nat → Int) (L : List Nat) (f : HP) (z1 : Int32) (z2 : Int32) (z3 : Int32) (z4 : Int32) (z5 : Int32) : Int32 → (List Nat × HP) → Prop := fun r u => u.1 = L ∧ TI g ad th u.2 ∧ (∀ b, b ≠ (ad 255) → u.2 b = f b)
set_option maxHeartbeats 4000000 in
set_option maxRecDepth 100000 in
theorem s_X11_letterOf (l : Launch) (g : GG) (ad : Nat → Nat) (th : Nat → Int) (L : List Nat) (f : HP) (sz : Nat) (z1 : Int32) (z2 : Int32) (z3 : Int32) (z4 : Int32) (z5 : Int32) (hst : ST ad L) (hT : TI g ad th f)  : MtI l g yX11_letterOf cX11_letterOf 7 (some .int) rm_X11_letterOf [.ref (ad 255), .int z1, .int z2, .int z3, .int z4, .int z5] L f sz (po_X11_letterOf g ad th L f z1 z2 z3 z4 z5) := by
  refine MtI.of (by decide +kernel) (Nat.le_of_ble_eq_true rfl) ?_
  intro p e s m below meth c A hEn hP hD hS ls hl
  obtain ⟨hx, hb, hr, hml, hown, hlocks, hts, hG, hA, hE, hnm⟩ := hEn
  have hown : s.vm.findClass "RulerWordModel" = some m.cls := hown
  have hl : lv_has ls 7 [(0, .ref (ad 255)), (1, .int z1), (2, .int z2), (3, .int z3), (4, .int z4), (5, .int z5)] := hl
  have hfr : (∀ b, b ≠ (ad 255) → f b = f b) := fun b z0_ => rfl
  refine lv_aload_n hx hb dX11_letterOf_0 rfl (lv_at hl 0 rfl) ?_
  refine lv_iload_n hx hb dX11_letterOf_1 rfl (lv_at hl 3 rfl) ?_
  refine M0e hT (fun v0_1 v2_1 v3_1 v4_1 v5_1 v6_1 v8_1 v9_1 v12_1 v13_1 v14_1 v15_1 v16_1 v17_1 v18_1 v19_1 v20_1 v21_1 v22_1 v23_1 v25_1 v36_1 v37_1 v38_1 v39_1 v40_1 v45_1 v46_1 v47_1 v48_1 v50_1 v51_1 v53_1 v55_1 hf2 hv0_1 hv2_1 hg2_1 hv3_1 hg3_1 hv4_1 hg4_1 hv5_1 hg5_1 hv6_1 hg6_1 hv8_1 hg8_1 hv9_1 hg9_1 hv12_1 hv13_1 hg13_1 hv14_1 hg14_1 hv15_1 hg15_1 hv17_1 hg17_1 hv20_1 hg20_1 hv23_1 hg23_1 hv25_1 hg25_1 hv36_1 hg36_1 hv47_1 hg47_1 hv48_1 hg48_1 hv53_1 hg53_1 hv55_1 hg55_1 hrel0_1 => ?_)
  have hg15_1 : v15_1.toInt = th 11 := hg15_1
  have hg17_1 : v17_1.toInt = th 12 := hg17_1
  have hg20_1 : v20_1.toInt = th 14 := hg20_1
  refine call_i (run_V (rm := rm_X11_isLiar) hx hb hml hown hts (s_X11_isLiar l g ad th _ _ _ z3 hst hT ) cV_X11_isLiar wg_1664 ⟨Nat.le_of_ble_eq_true rfl, Nat.le_of_ble_eq_true rfl⟩ hG hE hA hP hD hS (hst.1 255 (by decide)) hf2 rfl rfl hl.1 (As := [.int z3]) (rest := []) rfl (Nat.le_of_ble_eq_true rfl) dX11_letterOf_2 ⟨Nat.le_of_ble_eq_true rfl, Nat.le_of_ble_eq_true rfl⟩) hA hD hS (fun r3 L4 f5 H locs hp6 hP hD hS => ?_)
  obtain ⟨eL7L, eL7T, eL7R, eL7X0⟩ := hp6
  have eL7L : L4 = L := eL7L
  have eL7T : f5 = f := eL7T
  rw [eL7L, eL7T] at hP hD
  have eL7R : In r3 0 1 := eL7R
  refine lv_if_ne (tgt := 11) hx hb dX11_letterOf_5 (by decide) (fun c8 => ?_) (fun c8 => ?_)
  ·
    have cc9 : r3.toInt ≠ (0 : Int32).toInt := i32_ne c8
    have hb10 : In r3 1 1 := In.ne1 eL7R (⟨by decide, by decide⟩ : In 0 0 0) cc9 (by omega) (by omega)
    refine lv_aload_n hx hb dX11_letterOf_11 rfl (lv_at hl 0 rfl) ?_
    refine pl_get (v := .int v39_1) hx hb hts (fun w h => mT (inX11 w h)) hown hG.1 hP (hst.1 255 (by decide)) hf2 rfl 39 (by decide) (hts _ (mT wg_1375)) (fun _ h => h) rfl dX11_letterOf_12 ?_
    refine lv_if_ne (tgt := 30) hx hb dX11_letterOf_15 (by decide) (fun c11 => ?_) (fun c11 => ?_)
    ·
      refine lv_aload_n hx hb dX11_letterOf_30 rfl (lv_at hl 0 rfl) ?_
      refine pl_get (v := .int v39_1) hx hb hts (fun w h => mT (inX11 w h)) hown hG.1 hP (hst.1 255 (by decide)) hf2 rfl 39 (by decide) (hts _ (mT wg_1375)) (fun _ h => h) rfl dX11_letterOf_31 ?_
      refine lv_iconst (v := 2) hx hb dX11_letterOf_34 (by decide) ?_
      refine lv_icmp_ne (tgt := 43) hx hb dX11_letterOf_35 (by decide) (fun c12 => ?_) (fun c12 => ?_)
      ·
        refine lv_aload_n hx hb dX11_letterOf_43 rfl (lv_at hl 0 rfl) ?_
        refine lv_iload hx hb dX11_letterOf_44 (lv_at hl 4 rfl) ?_
        refine call_i (run_V (rm := rm_X11_isLiar) hx hb hml hown hts (s_X11_isLiar l g ad th _ _ _ z4 hst hT ) cV_X11_isLiar wg_1664 ⟨Nat.le_of_ble_eq_true rfl, Nat.le_of_ble_eq_true rfl⟩ hG hE hA hP hD hS (hst.1 255 (by decide)) hf2 rfl rfl hl.1 (As := [.int z4]) (rest := []) rfl (Nat.le_of_ble_eq_true rfl) dX11_letterOf_46 ⟨Nat.le_of_ble_eq_true rfl, Nat.le_of_ble_eq_true rfl⟩) hA hD hS (fun r13 L14 f15 H locs hp16 hP hD hS => ?_)
        obtain ⟨eL17L, eL17T, eL17R, eL17X0⟩ := hp16
        have eL17L : L14 = L := eL17L
        have eL17T : f15 = f := eL17T
        rw [eL17L, eL17T] at hP hD
        have eL17R : In r13 0 1 := eL17R
        refine lv_if_eq (tgt := 55) hx hb dX11_letterOf_49 (by decide) (fun c18 => ?_) (fun c18 => ?_)
        ·
          have cc19 : r13.toInt = (0 : Int32).toInt := congrArg Int32.toInt c18
          have hb20 : In r13 0 0 := In.eq1 eL17R (⟨by decide, by decide⟩ : In 0 0 0) cc19 (by omega) (by omega)
          refine lv_aload_n hx hb dX11_letterOf_55 rfl (lv_at hl 0 rfl) ?_
          refine pl_get (v := .int v40_1) hx hb hts (fun w h => mT (inX11 w h)) hown hG.1 hP (hst.1 255 (by decide)) hf2 rfl 40 (by decide) (hts _ (mT wg_1376)) (fun _ h => h) rfl dX11_letterOf_56 ?_
          refine lv_iconst (v := 1) hx hb dX11_letterOf_59 (by decide) ?_
          refine lv_iand hx hb dX11_letterOf_60 ?_
          refine lv_topi (fun x21 ex21 => ?_)
          have hb22 : In x21 0 1 := ex21 ▸ In.andr (⟨by decide, by decide⟩ : In 1 1 1) (by decide)
          refine lv_istore (lv' := [(6, .int x21), (0, .ref (ad 255)), (1, .int z1), (2, .int z2), (3, .int z3), (4, .int z4), (5, .int z5)]) hx hb dX11_letterOf_61 hl (by decide) rfl (fun ls hl => ?_)
          refine lv_aload_n hx hb dX11_letterOf_63 rfl (lv_at hl 1 rfl) ?_
          refine lv_dup hx hb dX11_letterOf_64 rfl ?_
          refine pl_get (v := .int v40_1) hx hb hts (fun w h => mT (inX11 w h)) hown hG.1 hP (hst.1 255 (by decide)) hf2 rfl 40 (by decide) (hts _ (mT wg_1376)) (fun _ h => h) rfl dX11_letterOf_65 ?_
          refine lv_iconst (v := 1) hx hb dX11_letterOf_68 (by decide) ?_
          refine lv_ishr hx hb dX11_letterOf_69 ?_
          refine lv_topi (fun x23 ex23 => ?_)
          refine pl_put (ty := .int) (v := .int x23) (fs' := [.int v0_1, .ref (ad 256), .int v2_1, .int v3_1, .int v4_1, .int v5_1, .int v6_1, .ref (ad 257), .int v8_1, .int v9_1, .ref (ad 258), .ref (ad 259), .int v12_1, .int v13_1, .int v14_1, .int v15_1, .int v16_1, .int v17_1, .int v18_1, .int v19_1, .int v20_1, .long v21_1, .long v22_1, .int v23_1, .ref (ad 260), .int v25_1, .ref (ad 261), .ref (ad 262), .ref (ad 263), .ref (ad 264), .ref (ad 265), .ref (ad 266), .ref (ad 267), .ref (ad 268), .ref (ad 269), .ref (ad 270), .int v36_1, .int v37_1, .int v38_1, .int v39_1, .int x23, .ref (ad 271), .ref (ad 272), .ref (ad 273), .ref (ad 274), .long v45_1, .long v46_1, .int v47_1, .int v48_1, .ref (ad 275), .int v50_1, .int v51_1, .ref (ad 276), .int v53_1, .ref (ad 277), .int v55_1]) hx hb hts (fun w h => mT (inX11 w h)) tyX11 tyX11_ok nmX11 hown hG.1 hP hD hS (hst.1 255 (by decide)) hf2 rfl 40 (by decide) (hts _ (mT wg_1376)) (fun _ h => h) rfl (by decide +kernel) (rfl) (rfl) (Nat.le_of_ble_eq_true rfl) rfl dX11_letterOf_70 (fun H locs f24 hf25 ho26 hP hD hS => ?_)
          have hfr : (∀ b, b ≠ (ad 255) → f24 b = f b) := fun b z0_ => (ho26 b z0_).trans (hfr b z0_)
          refine lv_iload hx hb dX11_letterOf_73 (lv_at hl 0 rfl) ?_
          have hT := TI.updM hT hst (k := 0) (by decide) hf25 ho26 ⟨v0_1, v2_1, v3_1, v4_1, v5_1, v6_1, v8_1, v9_1, v12_1, v13_1, v14_1, v15_1, v16_1, v17_1, v18_1, v19_1, v20_1, v21_1, v22_1, v23_1, v25_1, v36_1, v37_1, v38_1, v39_1, x23, v45_1, v46_1, v47_1, v48_1, v50_1, v51_1, v53_1, v55_1, rfl, hv0_1, hv2_1, hg2_1, hv3_1, hg3_1, hv4_1, hg4_1, hv5_1, hg5_1, hv6_1, hg6_1, hv8_1, hg8_1, hv9_1, hg9_1, hv12_1, hv13_1, hg13_1, hv14_1, hg14_1, hv15_1, hg15_1, hv17_1, hg17_1, hv20_1, hg20_1, hv23_1, hg23_1, hv25_1, hg25_1, hv36_1, hg36_1, hv47_1, hg47_1, hv48_1, hg48_1, hv53_1, hg53_1, hv55_1, hg55_1, hrel0_1⟩
          exact ret_i (ty := .int) hx hb hr hlocks (rfl) hP hD hS (Nat.le_of_ble_eq_true rfl) (Nat.le_of_ble_eq_true rfl) (⟨rfl, hT, hfr⟩) dX11_letterOf_75
        ·
          have cc27 : r13.toInt ≠ (0 : Int32).toInt := i32_ne c18
          have hb28 : In r13 1 1 := In.ne1 eL17R (⟨by decide, by decide⟩ : In 0 0 0) cc27 (by omega) (by omega)
          refine lv_iload hx hb dX11_letterOf_52 (lv_at hl 5 rfl) ?_
          exact ret_i (ty := .int) hx hb hr hlocks (rfl) hP hD hS (Nat.le_of_ble_eq_true rfl) (Nat.le_of_ble_eq_true rfl) (⟨rfl, hT, hfr⟩) dX11_letterOf_54
      ·
        have cc29 : v39_1.toInt = (2 : Int32).toInt := congrArg Int32.toInt c12
        have hb30 : In v39_1 2 2 := In.eq1 (In.full v39_1) (⟨by decide, by decide⟩ : In 2 2 2) cc29 (by omega) (by omega)
        refine lv_aload_n hx hb dX11_letterOf_38 rfl (lv_at hl 0 rfl) ?_
        refine call_i (run_V (rm := rm_X11_draw) hx hb hml hown hts (s_X11_draw l g ad th _ _ _  hst hT ) cV_X11_draw wg_1675 ⟨Nat.le_of_ble_eq_true rfl, Nat.le_of_ble_eq_true rfl⟩ hG hE hA hP hD hS (hst.1 255 (by decide)) hf2 rfl rfl hl.1 (As := []) (rest := []) rfl (Nat.le_of_ble_eq_true rfl) dX11_letterOf_39 ⟨Nat.le_of_ble_eq_true rfl, Nat.le_of_ble_eq_true rfl⟩) hA hD hS (fun r31 L32 f33 H locs hp34 hP hD hS => ?_)
        obtain ⟨eL35L, eL35T, eL35F⟩ := hp34
        have eL35L : L32 = L := eL35L
        rw [eL35L] at hP hD
        have hT : TI g ad th f33 := eL35T
        have eL35F : ∀ b, b ≠ (ad 255) → f33 b = f b := eL35F
        have hfr : (∀ b, b ≠ (ad 255) → f33 b = f b) := fun b z0_ => (eL35F b z0_).trans (hfr b z0_)
        exact ret_i (ty := .int) hx hb hr hlocks (rfl) hP hD hS (Nat.le_of_ble_eq_true rfl) (Nat.le_of_ble_eq_true rfl) (⟨rfl, hT, hfr⟩) dX11_letterOf_42
    ·
      have cc36 : v39_1.toInt = (0 : Int32).toInt := congrArg Int32.toInt c11
      have hb37 : In v39_1 0 0 := In.eq1 (In.full v39_1) (⟨by decide, by decide⟩ : In 0 0 0) cc36 (by omega) (by omega)
      refine lv_aload_n hx hb dX11_letterOf_18 rfl (lv_at hl 0 rfl) ?_
      refine lv_iload_n hx hb dX11_letterOf_19 rfl (lv_at hl 1 rfl) ?_
      refine lv_iload_n hx hb dX11_letterOf_20 rfl (lv_at hl 2 rfl) ?_
      refine lv_iload_n hx hb dX11_letterOf_21 rfl (lv_at hl 3 rfl) ?_
      refine lv_iload hx hb dX11_letterOf_22 (lv_at hl 4 rfl) ?_
      refine lv_iload hx hb dX11_letterOf_24 (lv_at hl 5 rfl) ?_
      refine call_i (run_V (rm := rm_X11_byPlan) hx hb hml hown hts (s_X11_byPlan l g ad th _ _ _ z1 z2 z3 z4 z5 hst hT ) cV_X11_byPlan wg_1668 ⟨Nat.le_of_ble_eq_true rfl, Nat.le_of_ble_eq_true rfl⟩ hG hE hA hP hD hS (hst.1 255 (by decide)) hf2 rfl rfl hl.1 (As := [.int z1, .int z2, .int z3, .int z4, .int z5]) (rest := []) rfl (Nat.le_of_ble_eq_true rfl) dX11_letterOf_26 ⟨Nat.le_of_ble_eq_true rfl, Nat.le_of_ble_eq_true rfl⟩) hA hD hS (fun r38 L39 f40 H locs hp41 hP hD hS => ?_)
      obtain ⟨eL42L, eL42T, eL42F⟩ := hp41
      have eL42L : L39 = L := eL42L
      rw [eL42L] at hP hD
      have hT : TI g ad th f40 := eL42T
      have eL42F : ∀ b, b ≠ (ad 255) → f40 b = f b := eL42F
      have hfr : (∀ b, b ≠ (ad 255) → f40 b = f b) := fun b z0_ => (eL42F b z0_).trans (hfr b z0_)
      exact ret_i (ty := .int) hx hb hr hlocks (rfl) hP hD hS (Nat.le_of_ble_eq_true rfl) (Nat.le_of_ble_eq_true rfl) (⟨rfl, hT, hfr⟩) dX11_letterOf_29
  ·
    have cc43 : r3.toInt = (0 : Int32).toInt := congrArg Int32.toInt c8
    have hb44 : In r3 0 0 := In.eq1 eL7R (⟨by decide, by decide⟩ : In 0 0 0) cc43 (by omega) (by omega)
    refine lv_iload hx hb dX11_letterOf_8 (lv_at hl 5 rfl) ?_
    exact ret_i (ty := .int) hx hb hr hlocks (rfl) hP hD hS (Nat.le_of_ble_eq_true rfl) (Nat.le_of_ble_eq_true rfl) (⟨rfl, hT, hfr⟩) dX11_letterOf_10

abbrev rm_X11_sends : Room := { frames := 3, cells := 0, slots := 0, locals := 75 }
abbrev po_X11_sends (g : GG) (ad : Nat → Nat) (th : Nat → Int) (L : List Nat) (f : HP) (z1 : Int32) (z2 : Int32) : (List Nat × HP) → Prop := fun u => u.1 = L ∧ TI g ad th u.2 ∧ (∀ b, b ≠ (ad 255) → b ≠ (ad 268) → u.2 b = f b)
set_option maxHeartbeats 4000000 in
set_option maxRecDepth 100000 in
theorem s_X11_sends (l : Launch) (g : GG) (ad : Nat → Nat) (th : Nat → Int) (L : List Nat) (f : HP) (sz : Nat) (z1 : Int32) (z2 : Int32) (hst : ST ad L) (hT : TI g ad th f) (hz1 : In z1 0 100) (hn3 : 3 ≤ th 11) : MtV l g yX11_sends cX11_sends 8 rm_X11_sends [.ref (ad 255), .int z1, .int z2] L f sz (po_X11_sends g ad th L f z1 z2) := by
  refine MtV.of (by decide +kernel) (Nat.le_of_ble_eq_true rfl) ?_
  intro p e s m below meth c A hEn hP hD hS ls hl
  obtain ⟨hx, hb, hr, hml, hown, hlocks, hts, hG, hA, hE, hnm⟩ := hEn
  have hown : s.vm.findClass "RulerWordModel" = some m.cls := hown
  have hl : lv_has ls 8 [(0, .ref (ad 255)), (1, .int z1), (2, .int z2)] := hl
  have hfr : (∀ b, b ≠ (ad 255) → b ≠ (ad 268) → f b = f b) := fun b z0_ z1_ => rfl
  refine lv_iload_n hx hb dX11_sends_0 rfl (lv_at hl 2 rfl) ?_
  refine lv_aload_n hx hb dX11_sends_1 rfl (lv_at hl 0 rfl) ?_
  refine M0e hT (fun v0_1 v2_1 v3_1 v4_1 v5_1 v6_1 v8_1 v9_1 v12_1 v13_1 v14_1 v15_1 v16_1 v17_1 v18_1 v19_1 v20_1 v21_1 v22_1 v23_1 v25_1 v36_1 v37_1 v38_1 v39_1 v40_1 v45_1 v46_1 v47_1 v48_1 v50_1 v51_1 v53_1 v55_1 hf2 hv0_1 hv2_1 hg2_1 hv3_1 hg3_1 hv4_1 hg4_1 hv5_1 hg5_1 hv6_1 hg6_1 hv8_1 hg8_1 hv9_1 hg9_1 hv12_1 hv13_1 hg13_1 hv14_1 hg14_1 hv15_1 hg15_1 hv17_1 hg17_1 hv20_1 hg20_1 hv23_1 hg23_1 hv25_1 hg25_1 hv36_1 hg36_1 hv47_1 hg47_1 hv48_1 hg48_1 hv53_1 hg53_1 hv55_1 hg55_1 hrel0_1 => ?_)
  have hg15_1 : v15_1.toInt = th 11 := hg15_1
  have hg17_1 : v17_1.toInt = th 12 := hg17_1
  have hg20_1 : v20_1.toInt = th 14 := hg20_1
  have hb3 : In v15_1 3 9 := ⟨by rw [hg15_1]; exact hn3, hv15_1.2⟩
  refine call_i (run_V (rm := rm_X11_each) hx hb hml hown hts (s_X11_each l g ad th _ _ _  hst hT ) cV_X11_each wg_1636 ⟨Nat.le_of_ble_eq_true rfl, Nat.le_of_ble_eq_true rfl⟩ hG hE hA hP hD hS (hst.1 255 (by decide)) hf2 rfl rfl hl.1 (As := []) (rest := [.int z2]) rfl (Nat.le_of_ble_eq_true rfl) dX11_sends_2 ⟨Nat.le_of_ble_eq_true rfl, Nat.le_of_ble_eq_true rfl⟩) hA hD hS (fun r4 L5 f6 H locs hp7 hP hD hS => ?_)
  obtain ⟨eL8L, eL8T, eL8R, eL8X0⟩ := hp7
  have eL8L : L5 = L := eL8L
  have eL8T : f6 = f := eL8T
  rw [eL8L, eL8T] at hP hD
  have eL8R : In r4 2 3 := eL8R
  have hrn9 : r4.toInt = rnd (th 10) := eL8X0
  refine lv_iconst (v := 1) hx hb dX11_sends_5 (by decide) ?_
  refine lv_isub hx hb dX11_sends_6 ?_
  refine lv_topi (fun x10 ex10 => ?_)
  have hb11 : In x10 1 2 := ex10 ▸ In.sub eL8R (⟨by decide, by decide⟩ : In 1 1 1) (by decide) (by decide) (by decide) (by decide)
  have et12 : x10.toInt = r4.toInt + (-1) := In.sube ex10 eL8R (k := 1) (by decide) (by decide) (by decide)
  have hJ15 : ∀ (y15_s0 : Int32) (H : Heap) (locs : List Loc) (ls : Array Slot), In y15_s0 0 1 → va_P g.1 vwCl (va_pl L f) H → va_D A (va_pl L f) → va_S A s.heap H locs → lv_has ls 8 [(0, .ref (ad 255)), (1, .int z1), (2, .int z2)] → W p l e rm_X11_sends s m [.ref (ad 255), .int z1, .int z2].toArray below meth c H locs 0 0 (MQ below (va_Qv (po_X11_sends g ad th L f z1 z2) (PstB g A) A) [.ref (ad 255), .int z1, .int z2].toArray s rm_X11_sends.cells rm_X11_sends.slots A) (F0 m 15 ls [.int y15_s0]) := by
    intro y15_s0 H locs ls hy15_s0 hP hD hS hl
    refine lv_istore_n (lv' := [(3, .int y15_s0), (0, .ref (ad 255)), (1, .int z1), (2, .int z2)]) hx hb dX11_sends_15 rfl hl (by decide) rfl (fun ls hl => ?_)
    refine lv_iconst (v := 0) hx hb dX11_sends_16 (by decide) ?_
    refine lv_istore (lv' := [(4, .int 0), (3, .int y15_s0), (0, .ref (ad 255)), (1, .int z1), (2, .int z2)]) hx hb dX11_sends_17 hl (by decide) rfl (fun ls hl => ?_)
    have hJ19 : ∀ (k19 : Nat) (y19_l4 : Int32) (f_19 : HP) (H : Heap) (locs : List Loc) (ls : Array Slot), In y19_l4 0 81 → va_P g.1 vwCl (va_pl L f_19) H → va_D A (va_pl L f_19) → va_S A s.heap H locs → TI g ad th f_19 → (∀ b, b ≠ (ad 255) → b ≠ (ad 268) → f_19 b = f b) → f_19 (ad 255) = .inr (10, [.int v0_1, .ref (ad 256), .int v2_1, .int v3_1, .int v4_1, .int v5_1, .int v6_1, .ref (ad 257), .int v8_1, .int v9_1, .ref (ad 258), .ref (ad 259), .int v12_1, .int v13_1, .int v14_1, .int v15_1, .int v16_1, .int v17_1, .int v18_1, .int v19_1, .int v20_1, .long v21_1, .long v22_1, .int v23_1, .ref (ad 260), .int v25_1, .ref (ad 261), .ref (ad 262), .ref (ad 263), .ref (ad 264), .ref (ad 265), .ref (ad 266), .ref (ad 267), .ref (ad 268), .ref (ad 269), .ref (ad 270), .int v36_1, .int v37_1, .int v38_1, .int v39_1, .int v40_1, .ref (ad 271), .ref (ad 272), .ref (ad 273), .ref (ad 274), .long v45_1, .long v46_1, .int v47_1, .int v48_1, .ref (ad 275), .int v50_1, .int v51_1, .ref (ad 276), .int v53_1, .ref (ad 277), .int v55_1]) → lv_has ls 8 [(0, .ref (ad 255)), (1, .int z1), (2, .int z2), (3, .int y15_s0), (4, .int y19_l4)] → 81 - y19_l4.toInt < ((k19 : Nat) : Int) → W p l e rm_X11_sends s m [.ref (ad 255), .int z1, .int z2].toArray below meth c H locs 0 0 (MQ below (va_Qv (po_X11_sends g ad th L f z1 z2) (PstB g A) A) [.ref (ad 255), .int z1, .int z2].toArray s rm_X11_sends.cells rm_X11_sends.slots A) (F0 m 19 ls []) := by
      intro k19
      induction k19 with
      | zero =>
        intro y19_l4 f_19 H locs ls hy19_l4 hP hD hS hT hfr hf13 hl hmz19
        exact ms0 hy19_l4 hmz19
      | succ k19 ih19 =>
        intro y19_l4 f_19 H locs ls hy19_l4 hP hD hS hT hfr hf13 hl hmz19
        refine lv_iload hx hb dX11_sends_19 (lv_at hl 4 rfl) ?_
        refine lv_bipush (v := 81) hx hb dX11_sends_21 (by decide) ?_
        refine lv_icmp_ge (tgt := 40) hx hb dX11_sends_23 (by decide) (fun c14 => ?_) (fun c14 => ?_)
        ·
          have oc81 : (81 : Int32).toInt = 81 := by decide
          have cc15 : (81 : Int32).toInt ≤ y19_l4.toInt := i32_le.mp c14
          have hb16 : In y19_l4 81 81 := In.ge1 hy19_l4 (⟨by decide, by decide⟩ : In 81 81 81) cc15 (by decide) (by decide)
          refine lv_iconst (v := 0) hx hb dX11_sends_40 (by decide) ?_
          refine lv_istore (lv' := [(4, .int 0), (0, .ref (ad 255)), (1, .int z1), (2, .int z2), (3, .int y15_s0)]) hx hb dX11_sends_41 hl (by decide) rfl (fun ls hl => ?_)
          have hJ43 : ∀ (k43 : Nat) (y43_l4 : Int32) (f_43 : HP) (H : Heap) (locs : List Loc) (ls : Array Slot), In y43_l4 0 2147483647 → va_P g.1 vwCl (va_pl L f_43) H → va_D A (va_pl L f_43) → va_S A s.heap H locs → TI g ad th f_43 → (∀ b, b ≠ (ad 255) → b ≠ (ad 268) → f_43 b = f b) → lv_has ls 8 [(0, .ref (ad 255)), (1, .int z1), (2, .int z2), (3, .int y15_s0), (4, .int y43_l4)] → 2147483647 - y43_l4.toInt < ((k43 : Nat) : Int) → W p l e rm_X11_sends s m [.ref (ad 255), .int z1, .int z2].toArray below meth c H locs 0 0 (MQ below (va_Qv (po_X11_sends g ad th L f z1 z2) (PstB g A) A) [.ref (ad 255), .int z1, .int z2].toArray s rm_X11_sends.cells rm_X11_sends.slots A) (F0 m 43 ls []) := by
            intro k43
            induction k43 with
            | zero =>
              intro y43_l4 f_43 H locs ls hy43_l4 hP hD hS hT hfr hl hmz43
              exact ms0 hy43_l4 hmz43
            | succ k43 ih43 =>
              intro y43_l4 f_43 H locs ls hy43_l4 hP hD hS hT hfr hl hmz43
              refine lv_iload hx hb dX11_sends_43 (lv_at hl 4 rfl) ?_
              refine lv_aload_n hx hb dX11_sends_45 rfl (lv_at hl 0 rfl) ?_
              refine M0e hT (fun v0_17 v2_17 v3_17 v4_17 v5_17 v6_17 v8_17 v9_17 v12_17 v13_17 v14_17 v15_17 v16_17 v17_17 v18_17 v19_17 v20_17 v21_17 v22_17 v23_17 v25_17 v36_17 v37_17 v38_17 v39_17 v40_17 v45_17 v46_17 v47_17 v48_17 v50_17 v51_17 v53_17 v55_17 hf18 hv0_17 hv2_17 hg2_17 hv3_17 hg3_17 hv4_17 hg4_17 hv5_17 hg5_17 hv6_17 hg6_17 hv8_17 hg8_17 hv9_17 hg9_17 hv12_17 hv13_17 hg13_17 hv14_17 hg14_17 hv15_17 hg15_17 hv17_17 hg17_17 hv20_17 hg20_17 hv23_17 hg23_17 hv25_17 hg25_17 hv36_17 hg36_17 hv47_17 hg47_17 hv48_17 hg48_17 hv53_17 hg53_17 hv55_17 hg55_17 hrel0_17 => ?_)
              have hg15_17 : v15_17.toInt = th 11 := hg15_17
              have hg17_17 : v17_17.toInt = th 12 := hg17_17
              have hg20_17 : v20_17.toInt = th 14 := hg20_17
              have hb19 : In v15_17 3 9 := ⟨by rw [hg15_17]; exact hn3, hv15_17.2⟩
              refine pl_get (v := .int v15_17) hx hb hts (fun w h => mT (inX11 w h)) hown hG.1 hP (hst.1 255 (by decide)) hf18 rfl 15 (by decide) (hts _ (mT wg_1351)) (fun _ h => h) rfl dX11_sends_46 ?_
              refine lv_icmp_ge (tgt := 206) hx hb dX11_sends_49 (by decide) (fun c20 => ?_) (fun c20 => ?_)
              ·
                have cc21 : v15_17.toInt ≤ y43_l4.toInt := i32_le.mp c20
                have hb22 : In y43_l4 3 2147483647 := In.ge1 hy43_l4 hb19 cc21 (by decide) (by decide)
                exact ret_v hx hb hr hlocks hP hD hS (Nat.le_of_ble_eq_true rfl) (Nat.le_of_ble_eq_true rfl) (⟨rfl, hT, hfr⟩) dX11_sends_206
              ·
                have cc23 : y43_l4.toInt < v15_17.toInt := i32_nle c20
                have hb24 : In y43_l4 0 8 := In.lt1 hy43_l4 hb19 cc23 (by decide) (by decide)
                refine lv_iload_n hx hb dX11_sends_52 rfl (lv_at hl 3 rfl) ?_
                have hJ200 : ∀ (f_200 : HP) (H : Heap) (locs : List Loc) (ls : Array Slot), va_P g.1 vwCl (va_pl L f_200) H → va_D A (va_pl L f_200) → va_S A s.heap H locs → TI g ad th f_200 → (∀ b, b ≠ (ad 255) → b ≠ (ad 268) → f_200 b = f b) → lv_has ls 8 [(0, .ref (ad 255)), (1, .int z1), (2, .int z2), (3, .int y15_s0), (4, .int y43_l4)] → W p l e rm_X11_sends s m [.ref (ad 255), .int z1, .int z2].toArray below meth c H locs 0 0 (MQ below (va_Qv (po_X11_sends g ad th L f z1 z2) (PstB g A) A) [.ref (ad 255), .int z1, .int z2].toArray s rm_X11_sends.cells rm_X11_sends.slots A) (F0 m 200 ls []) := by
                  intro f_200 H locs ls hP hD hS hT hfr hl
                  obtain ⟨x25, ex25⟩ : ∃ y : Int32, y = y43_l4 + 1 := ⟨_, rfl⟩
                  have hb26 : In x25 1 9 := ex25 ▸ In.add hb24 (⟨by decide, by decide⟩ : In 1 1 1) (by decide) (by decide) (by decide) (by decide)
                  have et27 : x25.toInt = y43_l4.toInt + 1 := In.adde ex25 hb24 (k := 1) (by decide) (by decide) (by decide)
                  refine lv_iinc (v := x25) (lv' := [(4, .int x25), (0, .ref (ad 255)), (1, .int z1), (2, .int z2), (3, .int y15_s0)]) hx hb dX11_sends_200 hl (k := 4) rfl (by rw [ex25]; rfl) (by decide) rfl (fun ls hl => ?_)
                  refine lv_goto (tgt := 43) hx hb dX11_sends_203 (by decide) ?_
                  exact ih43 x25 _ _ _ _ (In.mono hb26 (by decide) (by decide)) hP hD hS hT hfr (lv_sub hl [1, 2, 3, 4, 0] rfl) (msu et27 (by decide) hmz43)
                have hJ70 : ∀ (H : Heap) (locs : List Loc) (ls : Array Slot), va_P g.1 vwCl (va_pl L f_43) H → va_D A (va_pl L f_43) → va_S A s.heap H locs → lv_has ls 8 [(0, .ref (ad 255)), (1, .int z1), (2, .int z2), (3, .int y15_s0), (4, .int y43_l4)] → W p l e rm_X11_sends s m [.ref (ad 255), .int z1, .int z2].toArray below meth c H locs 0 0 (MQ below (va_Qv (po_X11_sends g ad th L f z1 z2) (PstB g A) A) [.ref (ad 255), .int z1, .int z2].toArray s rm_X11_sends.cells rm_X11_sends.slots A) (F0 m 70 ls []) := by
                  intro H locs ls hP hD hS hl
                  refine lv_iload_n hx hb dX11_sends_70 rfl (lv_at hl 2 rfl) ?_
                  have hJ102 : ∀ (y102_s0 : Int32) (H : Heap) (locs : List Loc) (ls : Array Slot), In y102_s0 (-2147483648) 2147483647 → va_P g.1 vwCl (va_pl L f_43) H → va_D A (va_pl L f_43) → va_S A s.heap H locs → lv_has ls 8 [(0, .ref (ad 255)), (1, .int z1), (2, .int z2), (3, .int y15_s0), (4, .int y43_l4)] → W p l e rm_X11_sends s m [.ref (ad 255), .int z1, .int z2].toArray below meth c H locs 0 0 (MQ below (va_Qv (po_X11_sends g ad th L f z1 z2) (PstB g A) A) [.ref (ad 255), .int z1, .int z2].toArray s rm_X11_sends.cells rm_X11_sends.slots A) (F0 m 102 ls [.int y102_s0]) := by
                    intro y102_s0 H locs ls hy102_s0 hP hD hS hl
                    refine lv_istore (lv' := [(5, .int y102_s0), (0, .ref (ad 255)), (1, .int z1), (2, .int z2), (3, .int y15_s0), (4, .int y43_l4)]) hx hb dX11_sends_102 hl (by decide) rfl (fun ls hl => ?_)
                    refine lv_iconst (v := 0) hx hb dX11_sends_104 (by decide) ?_
                    refine lv_istore (lv' := [(6, .int 0), (5, .int y102_s0), (0, .ref (ad 255)), (1, .int z1), (2, .int z2), (3, .int y15_s0), (4, .int y43_l4)]) hx hb dX11_sends_105 hl (by decide) rfl (fun ls hl => ?_)
                    have hJ107 : ∀ (k107 : Nat) (y107_l6 : Int32) (f_107 : HP) (H : Heap) (locs : List Loc) (ls : Array Slot), In y107_l6 0 2147483647 → va_P g.1 vwCl (va_pl L f_107) H → va_D A (va_pl L f_107) → va_S A s.heap H locs → TI g ad th f_107 → (∀ b, b ≠ (ad 255) → b ≠ (ad 268) → f_107 b = f b) → lv_has ls 8 [(0, .ref (ad 255)), (1, .int z1), (2, .int z2), (3, .int y15_s0), (4, .int y43_l4), (5, .int y102_s0), (6, .int y107_l6)] → 2147483647 - y107_l6.toInt < ((k107 : Nat) : Int) → W p l e rm_X11_sends s m [.ref (ad 255), .int z1, .int z2].toArray below meth c H locs 0 0 (MQ below (va_Qv (po_X11_sends g ad th L f z1 z2) (PstB g A) A) [.ref (ad 255), .int z1, .int z2].toArray s rm_X11_sends.cells rm_X11_sends.slots A) (F0 m 107 ls []) := by
                      intro k107
                      induction k107 with
                      | zero =>
                        intro y107_l6 f_107 H locs ls hy107_l6 hP hD hS hT hfr hl hmz107
                        exact ms0 hy107_l6 hmz107
                      | succ k107 ih107 =>
                        intro y107_l6 f_107 H locs ls hy107_l6 hP hD hS hT hfr hl hmz107
                        refine lv_iload hx hb dX11_sends_107 (lv_at hl 6 rfl) ?_
                        refine lv_aload_n hx hb dX11_sends_109 rfl (lv_at hl 0 rfl) ?_
                        refine M0e hT (fun v0_28 v2_28 v3_28 v4_28 v5_28 v6_28 v8_28 v9_28 v12_28 v13_28 v14_28 v15_28 v16_28 v17_28 v18_28 v19_28 v20_28 v21_28 v22_28 v23_28 v25_28 v36_28 v37_28 v38_28 v39_28 v40_28 v45_28 v46_28 v47_28 v48_28 v50_28 v51_28 v53_28 v55_28 hf29 hv0_28 hv2_28 hg2_28 hv3_28 hg3_28 hv4_28 hg4_28 hv5_28 hg5_28 hv6_28 hg6_28 hv8_28 hg8_28 hv9_28 hg9_28 hv12_28 hv13_28 hg13_28 hv14_28 hg14_28 hv15_28 hg15_28 hv17_28 hg17_28 hv20_28 hg20_28 hv23_28 hg23_28 hv25_28 hg25_28 hv36_28 hg36_28 hv47_28 hg47_28 hv48_28 hg48_28 hv53_28 hg53_28 hv55_28 hg55_28 hrel0_28 => ?_)
                        have hg15_28 : v15_28.toInt = th 11 := hg15_28
                        have hg17_28 : v17_28.toInt = th 12 := hg17_28
                        have hg20_28 : v20_28.toInt = th 14 := hg20_28
                        have hb30 : In v15_28 3 9 := ⟨by rw [hg15_28]; exact hn3, hv15_28.2⟩
                        refine pl_get (v := .int v15_28) hx hb hts (fun w h => mT (inX11 w h)) hown hG.1 hP (hst.1 255 (by decide)) hf29 rfl 15 (by decide) (hts _ (mT wg_1351)) (fun _ h => h) rfl dX11_sends_110 ?_
                        refine lv_icmp_ge (tgt := 200) hx hb dX11_sends_113 (by decide) (fun c31 => ?_) (fun c31 => ?_)
                        ·
                          have cc32 : v15_28.toInt ≤ y107_l6.toInt := i32_le.mp c31
                          have hb33 : In y107_l6 3 2147483647 := In.ge1 hy107_l6 hb30 cc32 (by decide) (by decide)
                          exact hJ200 _ _ _ _ hP hD hS hT hfr (lv_sub hl [0, 1, 2, 3, 4] rfl)
                        ·
                          have cc34 : y107_l6.toInt < v15_28.toInt := i32_nle c31
                          have hb35 : In y107_l6 0 8 := In.lt1 hy107_l6 hb30 cc34 (by decide) (by decide)
                          refine lv_aload_n hx hb dX11_sends_116 rfl (lv_at hl 0 rfl) ?_
                          refine lv_iload_n hx hb dX11_sends_117 rfl (lv_at hl 1 rfl) ?_
                          refine lv_iload_n hx hb dX11_sends_118 rfl (lv_at hl 2 rfl) ?_
                          refine lv_iload hx hb dX11_sends_119 (lv_at hl 4 rfl) ?_
                          refine lv_iload hx hb dX11_sends_121 (lv_at hl 6 rfl) ?_
                          refine lv_iload hx hb dX11_sends_123 (lv_at hl 5 rfl) ?_
                          refine call_i (run_V (rm := rm_X11_letterOf) hx hb hml hown hts (s_X11_letterOf l g ad th _ _ _ z1 z2 y43_l4 y107_l6 y102_s0 hst hT ) cV_X11_letterOf wg_1660 ⟨Nat.le_of_ble_eq_true rfl, Nat.le_of_ble_eq_true rfl⟩ hG hE hA hP hD hS (hst.1 255 (by decide)) hf29 rfl rfl hl.1 (As := [.int z1, .int z2, .int y43_l4, .int y107_l6, .int y102_s0]) (rest := []) rfl (Nat.le_of_ble_eq_true rfl) dX11_sends_125 ⟨Nat.le_of_ble_eq_true rfl, Nat.le_of_ble_eq_true rfl⟩) hA hD hS (fun r36 L37 f38 H locs hp39 hP hD hS => ?_)
                          obtain ⟨eL40L, eL40T, eL40F⟩ := hp39
                          have eL40L : L37 = L := eL40L
                          rw [eL40L] at hP hD
                          have hT : TI g ad th f38 := eL40T
                          have eL40F : ∀ b, b ≠ (ad 255) → f38 b = f_107 b := eL40F
                          have hfr : (∀ b, b ≠ (ad 255) → b ≠ (ad 268) → f38 b = f b) := fun b z0_ z1_ => (eL40F b z0_).trans (hfr b z0_ z1_)
                          refine lv_istore (lv' := [(7, .int r36), (0, .ref (ad 255)), (1, .int z1), (2, .int z2), (3, .int y15_s0), (4, .int y43_l4), (5, .int y102_s0), (6, .int y107_l6)]) hx hb dX11_sends_128 hl (by decide) rfl (fun ls hl => ?_)
                          refine lv_aload_n hx hb dX11_sends_130 rfl (lv_at hl 1 rfl) ?_
                          refine M0e hT (fun v0_41 v2_41 v3_41 v4_41 v5_41 v6_41 v8_41 v9_41 v12_41 v13_41 v14_41 v15_41 v16_41 v17_41 v18_41 v19_41 v20_41 v21_41 v22_41 v23_41 v25_41 v36_41 v37_41 v38_41 v39_41 v40_41 v45_41 v46_41 v47_41 v48_41 v50_41 v51_41 v53_41 v55_41 hf42 hv0_41 hv2_41 hg2_41 hv3_41 hg3_41 hv4_41 hg4_41 hv5_41 hg5_41 hv6_41 hg6_41 hv8_41 hg8_41 hv9_41 hg9_41 hv12_41 hv13_41 hg13_41 hv14_41 hg14_41 hv15_41 hg15_41 hv17_41 hg17_41 hv20_41 hg20_41 hv23_41 hg23_41 hv25_41 hg25_41 hv36_41 hg36_41 hv47_41 hg47_41 hv48_41 hg48_41 hv53_41 hg53_41 hv55_41 hg55_41 hrel0_41 => ?_)
                          have hg15_41 : v15_41.toInt = th 11 := hg15_41
                          have hg17_41 : v17_41.toInt = th 12 := hg17_41
                          have hg20_41 : v20_41.toInt = th 14 := hg20_41
                          have hb43 : In v15_41 3 9 := ⟨by rw [hg15_41]; exact hn3, hv15_41.2⟩
                          refine pl_get (v := .ref (ad 268)) hx hb hts (fun w h => mT (inX11 w h)) hown hG.1 hP (hst.1 255 (by decide)) hf42 rfl 33 (by decide) (hts _ (mT wg_1369)) (fun _ h => h) rfl dX11_sends_131 ?_
                          refine lv_bipush (v := 9) hx hb dX11_sends_134 (by decide) ?_
                          refine lv_iload hx hb dX11_sends_136 (lv_at hl 5 rfl) ?_
                          refine lv_imul hx hb dX11_sends_138 ?_
                          refine lv_topi (fun x44 ex44 => ?_)
                          have hb45 : In x44 0 72 := ex44 ▸ In.mul (⟨by decide, by decide⟩ : In 9 9 9) hb24 (by decide) (by decide) (by decide) (by decide) (by decide)
                          have et46 : x44.toInt = 9 * y43_l4.toInt := In.mule ex44 (⟨by decide, by decide⟩ : In 9 9 9) hb24 (by decide) (by decide) (by decide) (by decide) rfl
                          refine lv_iload hx hb dX11_sends_139 (lv_at hl 7 rfl) ?_
                          refine lv_iadd hx hb dX11_sends_141 ?_
                          refine lv_topi (fun x47 ex47 => ?_)
                          have hb48 : In x47 0 80 := ex47 ▸ In.add hb45 hb35 (by decide) (by decide) (by decide) (by decide)
                          have et49 : x47.toInt = x44.toInt + y107_l6.toInt := In.add2e ex47 hb45 hb35 (by decide) (by decide)
                          refine lv_iload hx hb dX11_sends_142 (lv_at hl 0 rfl) ?_
                          obtain ⟨rw50, hf51⟩ := hT.2.2 13 (by decide)
                          refine pl_iastE hx hb hG.1 hP hD hS (hst.1 268 (by decide)) 0 hf51 rfl (In.inb hb48 (by decide) (by decide)) dX11_sends_144 (fun H locs f52 r55 er55 hf53 ho54 hP hD hS => ?_)
                          have hf56 := (ho54 (ad 255) (hst.ne (by decide) (by decide) (by decide))).trans hf42
                          have hfr : (∀ b, b ≠ (ad 255) → b ≠ (ad 268) → f52 b = f b) := fun b z0_ z1_ => (ho54 b z1_).trans (hfr b z0_ z1_)
                          refine lv_iload hx hb dX11_sends_145 (lv_at hl 0 rfl) ?_
                          refine lv_iconst (v := 2) hx hb dX11_sends_147 (by decide) ?_
                          have hT := TI.updM hT hst (k := 13) (by decide) hf53 ho54 ⟨r55, rfl⟩
                          have hJ194 : ∀ (f_194 : HP) (H : Heap) (locs : List Loc) (ls : Array Slot), va_P g.1 vwCl (va_pl L f_194) H → va_D A (va_pl L f_194) → va_S A s.heap H locs → TI g ad th f_194 → (∀ b, b ≠ (ad 255) → b ≠ (ad 268) → f_194 b = f b) → f_194 (ad 268) = .inl (g.2.1 0, 81, .inl (r55)) → lv_has ls 8 [(0, .ref (ad 255)), (1, .int z1), (2, .int z2), (3, .int y15_s0), (4, .int y43_l4), (5, .int y102_s0), (6, .int y107_l6), (7, .int r36)] → W p l e rm_X11_sends s m [.ref (ad 255), .int z1, .int z2].toArray below meth c H locs 0 0 (MQ below (va_Qv (po_X11_sends g ad th L f z1 z2) (PstB g A) A) [.ref (ad 255), .int z1, .int z2].toArray s rm_X11_sends.cells rm_X11_sends.slots A) (F0 m 194 ls []) := by
                            intro f_194 H locs ls hP hD hS hT hfr hf57 hl
                            obtain ⟨x58, ex58⟩ : ∃ y : Int32, y = y107_l6 + 1 := ⟨_, rfl⟩
                            have hb59 : In x58 1 9 := ex58 ▸ In.add hb35 (⟨by decide, by decide⟩ : In 1 1 1) (by decide) (by decide) (by decide) (by decide)
                            have et60 : x58.toInt = y107_l6.toInt + 1 := In.adde ex58 hb35 (k := 1) (by decide) (by decide) (by decide)
                            refine lv_iinc (v := x58) (lv' := [(6, .int x58), (0, .ref (ad 255)), (1, .int z1), (2, .int z2), (3, .int y15_s0), (4, .int y43_l4), (5, .int y102_s0), (7, .int r36)]) hx hb dX11_sends_194 hl (k := 6) rfl (by rw [ex58]; rfl) (by decide) rfl (fun ls hl => ?_)
                            refine lv_goto (tgt := 107) hx hb dX11_sends_197 (by decide) ?_
                            exact ih107 x58 _ _ _ _ (In.mono hb59 (by decide) (by decide)) hP hD hS hT hfr (lv_sub hl [1, 2, 3, 4, 5, 6, 0] rfl) (msu et60 (by decide) hmz107)
                          refine lv_icmp_eq (tgt := 194) hx hb dX11_sends_148 (by decide) (fun c61 => ?_) (fun c61 => ?_)
                          ·
                            have oc2 : (2 : Int32).toInt = 2 := by decide
                            have cc62 : r36.toInt = (2 : Int32).toInt := congrArg Int32.toInt c61
                            have hb63 : In r36 2 2 := In.eq1 (In.full r36) (⟨by decide, by decide⟩ : In 2 2 2) cc62 (by decide) (by decide)
                            exact hJ194 _ _ _ _ hP hD hS hT hfr hf53 (lv_sub hl [1, 2, 3, 4, 5, 6, 7, 0] rfl)
                          ·
                            have oc2 : (2 : Int32).toInt = 2 := by decide
                            have cc64 : r36.toInt ≠ (2 : Int32).toInt := i32_ne c61
                            refine lv_iload hx hb dX11_sends_151 (lv_at hl 5 rfl) ?_
                            refine lv_iload hx hb dX11_sends_153 (lv_at hl 7 rfl) ?_
                            refine lv_icmp_ne (tgt := 161) hx hb dX11_sends_155 (by decide) (fun c65 => ?_) (fun c65 => ?_)
                            ·
                              have cc66 : y43_l4.toInt ≠ y107_l6.toInt := i32_ne c65
                              refine lv_aload_n hx hb dX11_sends_161 rfl (lv_at hl 1 rfl) ?_
                              refine lv_dup hx hb dX11_sends_162 rfl ?_
                              refine pl_get (v := .int v37_41) hx hb hts (fun w h => mT (inX11 w h)) hown hG.1 hP (hst.1 255 (by decide)) hf56 rfl 37 (by decide) (hts _ (mT wg_1373)) (fun _ h => h) rfl dX11_sends_163 ?_
                              refine lv_iconst (v := 1) hx hb dX11_sends_166 (by decide) ?_
                              refine lv_iadd hx hb dX11_sends_167 ?_
                              refine lv_topi (fun x67 ex67 => ?_)
                              refine pl_put (ty := .int) (v := .int x67) (fs' := [.int v0_41, .ref (ad 256), .int v2_41, .int v3_41, .int v4_41, .int v5_41, .int v6_41, .ref (ad 257), .int v8_41, .int v9_41, .ref (ad 258), .ref (ad 259), .int v12_41, .int v13_41, .int v14_41, .int v15_41, .int v16_41, .int v17_41, .int v18_41, .int v19_41, .int v20_41, .long v21_41, .long v22_41, .int v23_41, .ref (ad 260), .int v25_41, .ref (ad 261), .ref (ad 262), .ref (ad 263), .ref (ad 264), .ref (ad 265), .ref (ad 266), .ref (ad 267), .ref (ad 268), .ref (ad 269), .ref (ad 270), .int v36_41, .int x67, .int v38_41, .int v39_41, .int v40_41, .ref (ad 271), .ref (ad 272), .ref (ad 273), .ref (ad 274), .long v45_41, .long v46_41, .int v47_41, .int v48_41, .ref (ad 275), .int v50_41, .int v51_41, .ref (ad 276), .int v53_41, .ref (ad 277), .int v55_41]) hx hb hts (fun w h => mT (inX11 w h)) tyX11 tyX11_ok nmX11 hown hG.1 hP hD hS (hst.1 255 (by decide)) hf56 rfl 37 (by decide) (hts _ (mT wg_1373)) (fun _ h => h) rfl (by decide +kernel) (rfl) (rfl) (Nat.le_of_ble_eq_true rfl) rfl dX11_sends_168 (fun H locs f68 hf69 ho70 hP hD hS => ?_)
                              have hf71 := (ho70 (ad 268) (hst.ne (by decide) (by decide) (by decide))).trans hf53
                              have hfr : (∀ b, b ≠ (ad 255) → b ≠ (ad 268) → f68 b = f b) := fun b z0_ z1_ => (ho70 b z0_).trans (hfr b z0_ z1_)
                              refine lv_aload_n hx hb dX11_sends_171 rfl (lv_at hl 1 rfl) ?_
                              refine lv_dup hx hb dX11_sends_172 rfl ?_
                              refine pl_get (v := .int v38_41) hx hb hts (fun w h => mT (inX11 w h)) hown hG.1 hP (hst.1 255 (by decide)) hf69 rfl 38 (by decide) (hts _ (mT wg_1374)) (fun _ h => h) rfl dX11_sends_173 ?_
                              refine lv_aload_n hx hb dX11_sends_176 rfl (lv_at hl 1 rfl) ?_
                              refine lv_iload hx hb dX11_sends_177 (lv_at hl 5 rfl) ?_
                              have hT := TI.updM hT hst (k := 0) (by decide) hf69 ho70 ⟨v0_41, v2_41, v3_41, v4_41, v5_41, v6_41, v8_41, v9_41, v12_41, v13_41, v14_41, v15_41, v16_41, v17_41, v18_41, v19_41, v20_41, v21_41, v22_41, v23_41, v25_41, v36_41, x67, v38_41, v39_41, v40_41, v45_41, v46_41, v47_41, v48_41, v50_41, v51_41, v53_41, v55_41, rfl, hv0_41, hv2_41, hg2_41, hv3_41, hg3_41, hv4_41, hg4_41, hv5_41, hg5_41, hv6_41, hg6_41, hv8_41, hg8_41, hv9_41, hg9_41, hv12_41, hv13_41, hg13_41, hv14_41, hg14_41, (In.mono hb43 (by decide) (by decide)), hg15_41, hv17_41, hg17_41, hv20_41, hg20_41, hv23_41, hg23_41, hv25_41, hg25_41, hv36_41, hg36_41, hv47_41, hg47_41, hv48_41, hg48_41, hv53_41, hg53_41, hv55_41, hg55_41, hrel0_41⟩
                              refine call_i (run_V (rm := rm_X11_isLiar) hx hb hml hown hts (s_X11_isLiar l g ad th _ _ _ y43_l4 hst hT ) cV_X11_isLiar wg_1664 ⟨Nat.le_of_ble_eq_true rfl, Nat.le_of_ble_eq_true rfl⟩ hG hE hA hP hD hS (hst.1 255 (by decide)) hf69 rfl rfl hl.1 (As := [.int y43_l4]) (rest := [.int v38_41, .ref (ad 255)]) rfl (Nat.le_of_ble_eq_true rfl) dX11_sends_179 ⟨Nat.le_of_ble_eq_true rfl, Nat.le_of_ble_eq_true rfl⟩) hA hD hS (fun r72 L73 f74 H locs hp75 hP hD hS => ?_)
                              obtain ⟨eL76L, eL76T, eL76R, eL76X0⟩ := hp75
                              have eL76L : L73 = L := eL76L
                              have eL76T : f74 = f68 := eL76T
                              rw [eL76L, eL76T] at hP hD
                              have eL76R : In r72 0 1 := eL76R
                              have hbl77 : r72.toInt = bitI (th 14) y43_l4.toInt := eL76X0 (In.mono hb24 (by decide) (by decide))
                              have hJ190 : ∀ (y190_s0 : Int32) (H : Heap) (locs : List Loc) (ls : Array Slot), In y190_s0 0 1 → va_P g.1 vwCl (va_pl L f68) H → va_D A (va_pl L f68) → va_S A s.heap H locs → lv_has ls 8 [(0, .ref (ad 255)), (1, .int z1), (2, .int z2), (3, .int y15_s0), (4, .int y43_l4), (5, .int y102_s0), (6, .int y107_l6), (7, .int r36)] → W p l e rm_X11_sends s m [.ref (ad 255), .int z1, .int z2].toArray below meth c H locs 0 0 (MQ below (va_Qv (po_X11_sends g ad th L f z1 z2) (PstB g A) A) [.ref (ad 255), .int z1, .int z2].toArray s rm_X11_sends.cells rm_X11_sends.slots A) (F0 m 190 ls [.int y190_s0, .int v38_41, .ref (ad 255)]) := by
                                intro y190_s0 H locs ls hy190_s0 hP hD hS hl
                                refine lv_iadd hx hb dX11_sends_190 ?_
                                refine lv_topi (fun x78 ex78 => ?_)
                                refine pl_put (ty := .int) (v := .int x78) (fs' := [.int v0_41, .ref (ad 256), .int v2_41, .int v3_41, .int v4_41, .int v5_41, .int v6_41, .ref (ad 257), .int v8_41, .int v9_41, .ref (ad 258), .ref (ad 259), .int v12_41, .int v13_41, .int v14_41, .int v15_41, .int v16_41, .int v17_41, .int v18_41, .int v19_41, .int v20_41, .long v21_41, .long v22_41, .int v23_41, .ref (ad 260), .int v25_41, .ref (ad 261), .ref (ad 262), .ref (ad 263), .ref (ad 264), .ref (ad 265), .ref (ad 266), .ref (ad 267), .ref (ad 268), .ref (ad 269), .ref (ad 270), .int v36_41, .int x67, .int x78, .int v39_41, .int v40_41, .ref (ad 271), .ref (ad 272), .ref (ad 273), .ref (ad 274), .long v45_41, .long v46_41, .int v47_41, .int v48_41, .ref (ad 275), .int v50_41, .int v51_41, .ref (ad 276), .int v53_41, .ref (ad 277), .int v55_41]) hx hb hts (fun w h => mT (inX11 w h)) tyX11 tyX11_ok nmX11 hown hG.1 hP hD hS (hst.1 255 (by decide)) hf69 rfl 38 (by decide) (hts _ (mT wg_1374)) (fun _ h => h) rfl (by decide +kernel) (rfl) (rfl) (Nat.le_of_ble_eq_true rfl) rfl dX11_sends_191 (fun H locs f79 hf80 ho81 hP hD hS => ?_)
                                have hf82 := (ho81 (ad 268) (hst.ne (by decide) (by decide) (by decide))).trans hf71
                                have hfr : (∀ b, b ≠ (ad 255) → b ≠ (ad 268) → f79 b = f b) := fun b z0_ z1_ => (ho81 b z0_).trans (hfr b z0_ z1_)
                                have hT := TI.updM hT hst (k := 0) (by decide) hf80 ho81 ⟨v0_41, v2_41, v3_41, v4_41, v5_41, v6_41, v8_41, v9_41, v12_41, v13_41, v14_41, v15_41, v16_41, v17_41, v18_41, v19_41, v20_41, v21_41, v22_41, v23_41, v25_41, v36_41, x67, x78, v39_41, v40_41, v45_41, v46_41, v47_41, v48_41, v50_41, v51_41, v53_41, v55_41, rfl, hv0_41, hv2_41, hg2_41, hv3_41, hg3_41, hv4_41, hg4_41, hv5_41, hg5_41, hv6_41, hg6_41, hv8_41, hg8_41, hv9_41, hg9_41, hv12_41, hv13_41, hg13_41, hv14_41, hg14_41, (In.mono hb43 (by decide) (by decide)), hg15_41, hv17_41, hg17_41, hv20_41, hg20_41, hv23_41, hg23_41, hv25_41, hg25_41, hv36_41, hg36_41, hv47_41, hg47_41, hv48_41, hg48_41, hv53_41, hg53_41, hv55_41, hg55_41, hrel0_41⟩
                                exact hJ194 _ _ _ _ hP hD hS hT hfr hf82 (lv_sub hl [0, 1, 2, 3, 4, 5, 6, 7] rfl)
                              refine lv_if_eq (tgt := 189) hx hb dX11_sends_182 (by decide) (fun c83 => ?_) (fun c83 => ?_)
                              ·
                                have oc0 : (0 : Int32).toInt = 0 := by decide
                                have cc84 : r72.toInt = (0 : Int32).toInt := congrArg Int32.toInt c83
                                have hb85 : In r72 0 0 := In.eq1 eL76R (⟨by decide, by decide⟩ : In 0 0 0) cc84 (by decide) (by decide)
                                refine lv_iconst (v := 1) hx hb dX11_sends_189 (by decide) ?_
                                exact hJ190 1 _ _ _ (⟨by decide, by decide⟩ : In 1 0 1) hP hD hS (lv_sub hl [1, 2, 3, 4, 5, 6, 7, 0] rfl)
                              ·
                                have oc0 : (0 : Int32).toInt = 0 := by decide
                                have cc86 : r72.toInt ≠ (0 : Int32).toInt := i32_ne c83
                                have hb87 : In r72 1 1 := In.ne1 eL76R (⟨by decide, by decide⟩ : In 0 0 0) cc86 (by decide) (by decide)
                                refine lv_iconst (v := 0) hx hb dX11_sends_185 (by decide) ?_
                                refine lv_goto (tgt := 190) hx hb dX11_sends_186 (by decide) ?_
                                exact hJ190 0 _ _ _ (⟨by decide, by decide⟩ : In 0 0 1) hP hD hS (lv_sub hl [1, 2, 3, 4, 5, 6, 7, 0] rfl)
                            ·
                              have cc88 : y43_l4.toInt = y107_l6.toInt := congrArg Int32.toInt c65
                              refine lv_goto (tgt := 194) hx hb dX11_sends_158 (by decide) ?_
                              exact hJ194 _ _ _ _ hP hD hS hT hfr hf53 (lv_sub hl [1, 2, 3, 4, 5, 6, 7, 0] rfl)
                    exact hJ107 ((2147483647 - (0 : Int32).toInt).toNat + 1) 0 _ _ _ _ (⟨by decide, by decide⟩ : In 0 0 2147483647) hP hD hS hT hfr (lv_sub hl [2, 3, 4, 5, 6, 1, 0] rfl) (msI _)
                  have hJ85 : ∀ (H : Heap) (locs : List Loc) (ls : Array Slot), va_P g.1 vwCl (va_pl L f_43) H → va_D A (va_pl L f_43) → va_S A s.heap H locs → lv_has ls 8 [(0, .ref (ad 255)), (1, .int z1), (2, .int z2), (3, .int y15_s0), (4, .int y43_l4)] → W p l e rm_X11_sends s m [.ref (ad 255), .int z1, .int z2].toArray below meth c H locs 0 0 (MQ below (va_Qv (po_X11_sends g ad th L f z1 z2) (PstB g A) A) [.ref (ad 255), .int z1, .int z2].toArray s rm_X11_sends.cells rm_X11_sends.slots A) (F0 m 85 ls []) := by
                    intro H locs ls hP hD hS hl
                    refine lv_aload_n hx hb dX11_sends_85 rfl (lv_at hl 0 rfl) ?_
                    refine pl_get (v := .ref (ad 261)) hx hb hts (fun w h => mT (inX11 w h)) hown hG.1 hP (hst.1 255 (by decide)) hf18 rfl 26 (by decide) (hts _ (mT wg_1362)) (fun _ h => h) rfl dX11_sends_86 ?_
                    refine lv_iload hx hb dX11_sends_89 (lv_at hl 4 rfl) ?_
                    obtain ⟨rw89, hf90⟩ := hT.2.2 6 (by decide)
                    have hin91 : vp_in y43_l4 9 := In.inb hb24 (by decide) (by decide)
                    refine pl_iald hx hb hG.1 hP (hst.1 261 (by decide)) 0 hf90 rfl hin91 dX11_sends_91 ?_
                    refine lv_topi (fun x92 ex92 => ?_)
                    refine lv_goto (tgt := 102) hx hb dX11_sends_92 (by decide) ?_
                    exact hJ102 x92 _ _ _ (In.full x92) hP hD hS (lv_sub hl [0, 1, 2, 3, 4] rfl)
                  refine lv_if_eq (tgt := 85) hx hb dX11_sends_71 (by decide) (fun c93 => ?_) (fun c93 => ?_)
                  ·
                    have oc0 : (0 : Int32).toInt = 0 := by decide
                    have cc94 : z2.toInt = (0 : Int32).toInt := congrArg Int32.toInt c93
                    have hb95 : In z2 0 0 := In.eq1 (In.full z2) (⟨by decide, by decide⟩ : In 0 0 0) cc94 (by decide) (by decide)
                    exact hJ85 _ _ _ hP hD hS (lv_sub hl [0, 1, 2, 3, 4] rfl)
                  ·
                    have oc0 : (0 : Int32).toInt = 0 := by decide
                    have cc96 : z2.toInt ≠ (0 : Int32).toInt := i32_ne c93
                    refine lv_aload_n hx hb dX11_sends_74 rfl (lv_at hl 0 rfl) ?_
                    refine pl_get (v := .int v14_17) hx hb hts (fun w h => mT (inX11 w h)) hown hG.1 hP (hst.1 255 (by decide)) hf18 rfl 14 (by decide) (hts _ (mT wg_1350)) (fun _ h => h) rfl dX11_sends_75 ?_
                    have hg14_17 : v14_17.toInt = th 10 := hg14_17
                    have hJ95 : ∀ (H : Heap) (locs : List Loc) (ls : Array Slot), va_P g.1 vwCl (va_pl L f_43) H → va_D A (va_pl L f_43) → va_S A s.heap H locs → lv_has ls 8 [(0, .ref (ad 255)), (1, .int z1), (2, .int z2), (3, .int y15_s0), (4, .int y43_l4)] → W p l e rm_X11_sends s m [.ref (ad 255), .int z1, .int z2].toArray below meth c H locs 0 0 (MQ below (va_Qv (po_X11_sends g ad th L f z1 z2) (PstB g A) A) [.ref (ad 255), .int z1, .int z2].toArray s rm_X11_sends.cells rm_X11_sends.slots A) (F0 m 95 ls []) := by
                      intro H locs ls hP hD hS hl
                      refine lv_aload_n hx hb dX11_sends_95 rfl (lv_at hl 0 rfl) ?_
                      refine pl_get (v := .ref (ad 263)) hx hb hts (fun w h => mT (inX11 w h)) hown hG.1 hP (hst.1 255 (by decide)) hf18 rfl 28 (by decide) (hts _ (mT wg_1364)) (fun _ h => h) rfl dX11_sends_96 ?_
                      refine lv_iload hx hb dX11_sends_99 (lv_at hl 4 rfl) ?_
                      obtain ⟨rw97, hf98⟩ := hT.2.2 8 (by decide)
                      have hin99 : vp_in y43_l4 9 := In.inb hb24 (by decide) (by decide)
                      refine pl_iald hx hb hG.1 hP (hst.1 263 (by decide)) 0 hf98 rfl hin99 dX11_sends_101 ?_
                      refine lv_topi (fun x100 ex100 => ?_)
                      exact hJ102 x100 _ _ _ (In.full x100) hP hD hS (lv_sub hl [0, 1, 2, 3, 4] rfl)
                    refine lv_if_ne (tgt := 95) hx hb dX11_sends_78 (by decide) (fun c101 => ?_) (fun c101 => ?_)
                    ·
                      have oc0 : (0 : Int32).toInt = 0 := by decide
                      have cc102 : v14_17.toInt ≠ (0 : Int32).toInt := i32_ne c101
                      have hb103 : In v14_17 1 1 := In.ne1 hv14_17 (⟨by decide, by decide⟩ : In 0 0 0) cc102 (by decide) (by decide)
                      exact hJ95 _ _ _ hP hD hS (lv_sub hl [0, 1, 2, 3, 4] rfl)
                    ·
                      have oc0 : (0 : Int32).toInt = 0 := by decide
                      have cc104 : v14_17.toInt = (0 : Int32).toInt := congrArg Int32.toInt c101
                      have hb105 : In v14_17 0 0 := In.eq1 hv14_17 (⟨by decide, by decide⟩ : In 0 0 0) cc104 (by decide) (by decide)
                      refine lv_iload_n hx hb dX11_sends_81 rfl (lv_at hl 3 rfl) ?_
                      refine lv_if_eq (tgt := 95) hx hb dX11_sends_82 (by decide) (fun c106 => ?_) (fun c106 => ?_)
                      ·
                        have oc0 : (0 : Int32).toInt = 0 := by decide
                        have cc107 : y15_s0.toInt = (0 : Int32).toInt := congrArg Int32.toInt c106
                        have hb108 : In y15_s0 0 0 := In.eq1 hy15_s0 (⟨by decide, by decide⟩ : In 0 0 0) cc107 (by decide) (by decide)
                        exact hJ95 _ _ _ hP hD hS (lv_sub hl [0, 1, 2, 3, 4] rfl)
                      ·
                        have oc0 : (0 : Int32).toInt = 0 := by decide
                        have cc109 : y15_s0.toInt ≠ (0 : Int32).toInt := i32_ne c106
                        have hb110 : In y15_s0 1 1 := In.ne1 hy15_s0 (⟨by decide, by decide⟩ : In 0 0 0) cc109 (by decide) (by decide)
                        exact hJ85 _ _ _ hP hD hS (lv_sub hl [0, 1, 2, 3, 4] rfl)
                refine lv_if_eq (tgt := 70) hx hb dX11_sends_53 (by decide) (fun c111 => ?_) (fun c111 => ?_)
                ·
                  have oc0 : (0 : Int32).toInt = 0 := by decide
                  have cc112 : y15_s0.toInt = (0 : Int32).toInt := congrArg Int32.toInt c111
                  have hb113 : In y15_s0 0 0 := In.eq1 hy15_s0 (⟨by decide, by decide⟩ : In 0 0 0) cc112 (by decide) (by decide)
                  exact hJ70 _ _ _ hP hD hS (lv_sub hl [0, 1, 2, 3, 4] rfl)
                ·
                  have oc0 : (0 : Int32).toInt = 0 := by decide
                  have cc114 : y15_s0.toInt ≠ (0 : Int32).toInt := i32_ne c111
                  have hb115 : In y15_s0 1 1 := In.ne1 hy15_s0 (⟨by decide, by decide⟩ : In 0 0 0) cc114 (by decide) (by decide)
                  refine lv_iload hx hb dX11_sends_56 (lv_at hl 4 rfl) ?_
                  refine lv_iload_n hx hb dX11_sends_58 rfl (lv_at hl 1 rfl) ?_
                  refine lv_aload_n hx hb dX11_sends_59 rfl (lv_at hl 0 rfl) ?_
                  refine pl_get (v := .int v15_17) hx hb hts (fun w h => mT (inX11 w h)) hown hG.1 hP (hst.1 255 (by decide)) hf18 rfl 15 (by decide) (hts _ (mT wg_1351)) (fun _ h => h) rfl dX11_sends_60 ?_
                  refine lv_irem hx hb dX11_sends_63 (In.ne0 hb19 (by decide)) ?_
                  refine lv_topi (fun x116 ex116 => ?_)
                  have hb117 : In x116 0 8 := ex116 ▸ In.rem hz1 hb19 (by decide) (by decide) (by decide)
                  refine lv_icmp_eq (tgt := 70) hx hb dX11_sends_64 (by decide) (fun c118 => ?_) (fun c118 => ?_)
                  ·
                    have cc119 : y43_l4.toInt = x116.toInt := congrArg Int32.toInt c118
                    exact hJ70 _ _ _ hP hD hS (lv_sub hl [0, 1, 2, 3, 4] rfl)
                  ·
                    have cc120 : y43_l4.toInt ≠ x116.toInt := i32_ne c118
                    refine lv_goto (tgt := 200) hx hb dX11_sends_67 (by decide) ?_
                    exact hJ200 _ _ _ _ hP hD hS hT hfr (lv_sub hl [0, 1, 2, 3, 4] rfl)
          exact hJ43 ((2147483647 - (0 : Int32).toInt).toNat + 1) 0 _ _ _ _ (⟨by decide, by decide⟩ : In 0 0 2147483647) hP hD hS hT hfr (lv_sub hl [1, 2, 3, 4, 0] rfl) (msI _)
        ·
          have oc81 : (81 : Int32).toInt = 81 := by decide
          have cc121 : y19_l4.toInt < (81 : Int32).toInt := i32_nle c14
          have hb122 : In y19_l4 0 80 := In.lt1 hy19_l4 (⟨by decide, by decide⟩ : In 81 81 81) cc121 (by decide) (by decide)
          refine lv_aload_n hx hb dX11_sends_26 rfl (lv_at hl 0 rfl) ?_
          refine pl_get (v := .ref (ad 268)) hx hb hts (fun w h => mT (inX11 w h)) hown hG.1 hP (hst.1 255 (by decide)) hf13 rfl 33 (by decide) (hts _ (mT wg_1369)) (fun _ h => h) rfl dX11_sends_27 ?_
          refine lv_iload hx hb dX11_sends_30 (lv_at hl 4 rfl) ?_
          refine lv_iconst (v := (-1)) hx hb dX11_sends_32 (by decide) ?_
          obtain ⟨rw123, hf124⟩ := hT.2.2 13 (by decide)
          refine pl_iastE hx hb hG.1 hP hD hS (hst.1 268 (by decide)) 0 hf124 rfl (In.inb hb122 (by decide) (by decide)) dX11_sends_33 (fun H locs f125 r128 er128 hf126 ho127 hP hD hS => ?_)
          have hf129 := (ho127 (ad 255) (hst.ne (by decide) (by decide) (by decide))).trans hf13
          have hfr : (∀ b, b ≠ (ad 255) → b ≠ (ad 268) → f125 b = f b) := fun b z0_ z1_ => (ho127 b z1_).trans (hfr b z0_ z1_)
          obtain ⟨x130, ex130⟩ : ∃ y : Int32, y = y19_l4 + 1 := ⟨_, rfl⟩
          have hb131 : In x130 1 81 := ex130 ▸ In.add hb122 (⟨by decide, by decide⟩ : In 1 1 1) (by decide) (by decide) (by decide) (by decide)
          have et132 : x130.toInt = y19_l4.toInt + 1 := In.adde ex130 hb122 (k := 1) (by decide) (by decide) (by decide)
          refine lv_iinc (v := x130) (lv' := [(4, .int x130), (0, .ref (ad 255)), (1, .int z1), (2, .int z2), (3, .int y15_s0)]) hx hb dX11_sends_34 hl (k := 4) rfl (by rw [ex130]; rfl) (by decide) rfl (fun ls hl => ?_)
          have hT := TI.updM hT hst (k := 13) (by decide) hf126 ho127 ⟨r128, rfl⟩
          refine lv_goto (tgt := 19) hx hb dX11_sends_37 (by decide) ?_
          exact ih19 x130 _ _ _ _ (In.mono hb131 (by decide) (by decide)) hP hD hS hT hfr hf129 (lv_sub hl [1, 2, 3, 4, 0] rfl) (msu et132 (by decide) hmz19)
    exact hJ19 ((81 - (0 : Int32).toInt).toNat + 1) 0 _ _ _ _ (⟨by decide, by decide⟩ : In 0 0 81) hP hD hS hT hfr hf2 (lv_sub hl [2, 3, 4, 1, 0] rfl) (msI _)
  refine lv_icmp_ne (tgt := 14) hx hb dX11_sends_7 (by decide) (fun c133 => ?_) (fun c133 => ?_)
  ·
    have cc134 : z2.toInt ≠ x10.toInt := i32_ne c133
    refine lv_iconst (v := 0) hx hb dX11_sends_14 (by decide) ?_
    exact hJ15 0 _ _ _ (⟨by decide, by decide⟩ : In 0 0 1) hP hD hS (lv_sub hl [0, 1, 2] rfl)
  ·
    have cc135 : z2.toInt = x10.toInt := congrArg Int32.toInt c133
    have hb136 : In z2 1 2 := In.eq1 (In.full z2) hb11 cc135 (by decide) (by decide)
    refine lv_iconst (v := 1) hx hb dX11_sends_10 (by decide) ?_
    refine lv_goto (tgt := 15) hx hb dX11_sends_11 (by decide) ?_
    exact hJ15 1 _ _ _ (⟨by decide, by decide⟩ : In 1 0 1) hP hD hS (lv_sub hl [0, 1, 2] rfl)

abbrev rm_X11_countOf : Room := { frames := 0, cells := 0, slots := 0, locals := 0 }
abbrev po_X11_countOf (g : GG) (ad : Nat → Nat) (th : Nat → Int) (L : List Nat) (f : HP) (z1 : Int32) (z2 : Int32) : Int32 → (List Nat × HP) → Prop := fun _ u => u.1 = L ∧ u.2 = f
set_option maxHeartbeats 4000000 in
set_option maxRecDepth 100000 in
theorem s_X11_countOf (l : Launch) (g : GG) (ad : Nat → Nat) (th : Nat → Int) (L : List Nat) (f : HP) (sz : Nat) (z1 : Int32) (z2 : Int32) (hst : ST ad L) (hT : TI g ad th f) (hz1 : In z1 0 8) : MtI l g yX11_countOf cX11_countOf 5 (some .int) rm_X11_countOf [.ref (ad 255), .int z1, .int z2] L f sz (po_X11_countOf g ad th L f z1 z2) := by
  refine MtI.of (by decide +kernel) (Nat.le_of_ble_eq_true rfl) ?_
  intro p e s m below meth c A hEn hP hD hS ls hl
  obtain ⟨hx, hb, hr, hml, hown, hlocks, hts, hG, hA, hE, hnm⟩ := hEn
  have hown : s.vm.findClass "RulerWordModel" = some m.cls := hown
  have hl : lv_has ls 5 [(0, .ref (ad 255)), (1, .int z1), (2, .int z2)] := hl
  refine lv_iconst (v := 0) hx hb dX11_countOf_0 (by decide) ?_
  refine lv_istore_n (lv' := [(3, .int 0), (0, .ref (ad 255)), (1, .int z1), (2, .int z2)]) hx hb dX11_countOf_1 rfl hl (by decide) rfl (fun ls hl => ?_)
  refine lv_iconst (v := 0) hx hb dX11_countOf_2 (by decide) ?_
  refine lv_istore (lv' := [(4, .int 0), (3, .int 0), (0, .ref (ad 255)), (1, .int z1), (2, .int z2)]) hx hb dX11_countOf_3 hl (by decide) rfl (fun ls hl => ?_)
  have hJ5 : ∀ (k5 : Nat) (y5_l3 : Int32) (y5_l4 : Int32) (H : Heap) (locs : List Loc) (ls : Array Slot), In y5_l3 (-2147483648) 2147483647 → In y5_l4 0 9 → va_P g.1 vwCl (va_pl L f) H → va_D A (va_pl L f) → va_S A s.heap H locs → lv_has ls 5 [(0, .ref (ad 255)), (1, .int z1), (2, .int z2), (3, .int y5_l3), (4, .int y5_l4)] → 9 - y5_l4.toInt < ((k5 : Nat) : Int) → W p l e rm_X11_countOf s m [.ref (ad 255), .int z1, .int z2].toArray below meth c H locs 0 0 (MQ below (va_Qi (po_X11_countOf g ad th L f z1 z2) (PstB g A) A) [.ref (ad 255), .int z1, .int z2].toArray s rm_X11_countOf.cells rm_X11_countOf.slots A) (F0 m 5 ls []) := by
    intro k5
    induction k5 with
    | zero =>
      intro y5_l3 y5_l4 H locs ls hy5_l3 hy5_l4 hP hD hS hl hmz5
      exact ms0 hy5_l4 hmz5
    | succ k5 ih5 =>
      intro y5_l3 y5_l4 H locs ls hy5_l3 hy5_l4 hP hD hS hl hmz5
      refine lv_iload hx hb dX11_countOf_5 (lv_at hl 4 rfl) ?_
      refine lv_aload_n hx hb dX11_countOf_7 rfl (lv_at hl 0 rfl) ?_
      refine M0e hT (fun v0_1 v2_1 v3_1 v4_1 v5_1 v6_1 v8_1 v9_1 v12_1 v13_1 v14_1 v15_1 v16_1 v17_1 v18_1 v19_1 v20_1 v21_1 v22_1 v23_1 v25_1 v36_1 v37_1 v38_1 v39_1 v40_1 v45_1 v46_1 v47_1 v48_1 v50_1 v51_1 v53_1 v55_1 hf2 hv0_1 hv2_1 hg2_1 hv3_1 hg3_1 hv4_1 hg4_1 hv5_1 hg5_1 hv6_1 hg6_1 hv8_1 hg8_1 hv9_1 hg9_1 hv12_1 hv13_1 hg13_1 hv14_1 hg14_1 hv15_1 hg15_1 hv17_1 hg17_1 hv20_1 hg20_1 hv23_1 hg23_1 hv25_1 hg25_1 hv36_1 hg36_1 hv47_1 hg47_1 hv48_1 hg48_1 hv53_1 hg53_1 hv55_1 hg55_1 hrel0_1 => ?_)
      have hg15_1 : v15_1.toInt = th 11 := hg15_1
      have hg17_1 : v17_1.toInt = th 12 := hg17_1
      have hg20_1 : v20_1.toInt = th 14 := hg20_1
      refine pl_get (v := .int v15_1) hx hb hts (fun w h => mT (inX11 w h)) hown hG.1 hP (hst.1 255 (by decide)) hf2 rfl 15 (by decide) (hts _ (mT wg_1351)) (fun _ h => h) rfl dX11_countOf_8 ?_
      refine lv_icmp_ge (tgt := 44) hx hb dX11_countOf_11 (by decide) (fun c3 => ?_) (fun c3 => ?_)
      ·
        refine lv_iload_n hx hb dX11_countOf_44 rfl (lv_at hl 3 rfl) ?_
        exact ret_i (ty := .int) hx hb hr hlocks (rfl) hP hD hS (Nat.le_of_ble_eq_true rfl) (Nat.le_of_ble_eq_true rfl) (⟨rfl, rfl⟩) dX11_countOf_45
      ·
        have cc4 : y5_l4.toInt < v15_1.toInt := i32_nle c3
        have hb5 : In y5_l4 0 8 := In.lt1 hy5_l4 hv15_1 cc4 (by omega) (by omega)
        have hb6 : In v15_1 1 9 := In.lt2 hy5_l4 hv15_1 cc4 (by omega) (by omega)
        refine lv_iload_n hx hb dX11_countOf_14 rfl (lv_at hl 3 rfl) ?_
        refine lv_aload_n hx hb dX11_countOf_15 rfl (lv_at hl 0 rfl) ?_
        refine pl_get (v := .ref (ad 268)) hx hb hts (fun w h => mT (inX11 w h)) hown hG.1 hP (hst.1 255 (by decide)) hf2 rfl 33 (by decide) (hts _ (mT wg_1369)) (fun _ h => h) rfl dX11_countOf_16 ?_
        refine lv_bipush (v := 9) hx hb dX11_countOf_19 (by decide) ?_
        refine lv_iload hx hb dX11_countOf_21 (lv_at hl 4 rfl) ?_
        refine lv_imul hx hb dX11_countOf_23 ?_
        refine lv_topi (fun x7 ex7 => ?_)
        have hb8 : In x7 0 72 := ex7 ▸ In.mul (⟨by decide, by decide⟩ : In 9 9 9) hb5 (by decide) (by decide) (by decide) (by decide) (by decide)
        refine lv_iload_n hx hb dX11_countOf_24 rfl (lv_at hl 1 rfl) ?_
        refine lv_iadd hx hb dX11_countOf_25 ?_
        refine lv_topi (fun x9 ex9 => ?_)
        have hb10 : In x9 0 80 := ex9 ▸ In.add hb8 hz1 (by decide) (by decide) (by decide) (by decide)
        have et11 : x9.toInt = x7.toInt + z1.toInt := In.add2e ex9 hb8 hz1 (by decide) (by decide)
        obtain ⟨rw12, hf13⟩ := hT.2.2 13 (by decide)
        have hin14 : vp_in x9 81 := In.inb hb10 (by decide) (by decide)
        refine pl_iald hx hb hG.1 hP (hst.1 268 (by decide)) 0 hf13 rfl hin14 dX11_countOf_26 ?_
        refine lv_topi (fun x15 ex15 => ?_)
        refine lv_iload_n hx hb dX11_countOf_27 rfl (lv_at hl 2 rfl) ?_
        have hJ36 : ∀ (y36_s0 : Int32) (H : Heap) (locs : List Loc) (ls : Array Slot), In y36_s0 0 1 → va_P g.1 vwCl (va_pl L f) H → va_D A (va_pl L f) → va_S A s.heap H locs → lv_has ls 5 [(0, .ref (ad 255)), (1, .int z1), (2, .int z2), (3, .int y5_l3), (4, .int y5_l4)] → W p l e rm_X11_countOf s m [.ref (ad 255), .int z1, .int z2].toArray below meth c H locs 0 0 (MQ below (va_Qi (po_X11_countOf g ad th L f z1 z2) (PstB g A) A) [.ref (ad 255), .int z1, .int z2].toArray s rm_X11_countOf.cells rm_X11_countOf.slots A) (F0 m 36 ls [.int y36_s0, .int y5_l3]) := by
          intro y36_s0 H locs ls hy36_s0 hP hD hS hl
          refine lv_iadd hx hb dX11_countOf_36 ?_
          refine lv_topi (fun x16 ex16 => ?_)
          refine lv_istore_n (lv' := [(3, .int x16), (0, .ref (ad 255)), (1, .int z1), (2, .int z2), (4, .int y5_l4)]) hx hb dX11_countOf_37 rfl hl (by decide) rfl (fun ls hl => ?_)
          obtain ⟨x17, ex17⟩ : ∃ y : Int32, y = y5_l4 + 1 := ⟨_, rfl⟩
          have hb18 : In x17 1 9 := ex17 ▸ In.add hb5 (⟨by decide, by decide⟩ : In 1 1 1) (by decide) (by decide) (by decide) (by decide)
          have et19 : x17.toInt = y5_l4.toInt + 1 := In.adde ex17 hb5 (k := 1) (by decide) (by decide) (by decide)
          refine lv_iinc (v := x17) (lv' := [(4, .int x17), (3, .int x16), (0, .ref (ad 255)), (1, .int z1), (2, .int z2)]) hx hb dX11_countOf_38 hl (k := 4) rfl (by rw [ex17]; rfl) (by decide) rfl (fun ls hl => ?_)
          refine lv_goto (tgt := 5) hx hb dX11_countOf_41 (by decide) ?_
          exact ih5 x16 x17 _ _ _ (In.full x16) (In.mono hb18 (by decide) (by decide)) hP hD hS (lv_sub hl [2, 3, 4, 1, 0] rfl) (msu et19 (by decide) hmz5)
        refine lv_icmp_ne (tgt := 35) hx hb dX11_countOf_28 (by decide) (fun c20 => ?_) (fun c20 => ?_)
        ·
          refine lv_iconst (v := 0) hx hb dX11_countOf_35 (by decide) ?_
          exact hJ36 0 _ _ _ (⟨by decide, by decide⟩ : In 0 0 1) hP hD hS (lv_sub hl [0, 1, 2, 3, 4] rfl)
        ·
          refine lv_iconst (v := 1) hx hb dX11_countOf_31 (by decide) ?_
          refine lv_goto (tgt := 36) hx hb dX11_countOf_32 (by decide) ?_
          exact hJ36 1 _ _ _ (⟨by decide, by decide⟩ : In 1 0 1) hP hD hS (lv_sub hl [0, 1, 2, 3, 4] rfl)
  exact hJ5 ((9 - (0 : Int32).toInt).toNat + 1) 0 0 _ _ _ (⟨by decide, by decide⟩ : In 0 (-2147483648) 2147483647) (⟨by decide, by decide⟩ : In 0 0 9) hP hD hS (lv_sub hl [2, 3, 4, 1, 0] rfl) (msI _)

abbrev rm_X11_hearsAll : Room := { frames := 1, cells := 0, slots := 0, locals := 24 }
abbrev po_X11_hearsAll (g : GG) (ad : Nat → Nat) (th : Nat → Int) (L : List Nat) (f : HP) (z1 : Int32) : (List Nat × HP) → Prop := fun u => u.1 = L ∧ TI g ad th u.2 ∧ (∀ b, b ≠ (ad 265) → b ≠ (ad 269) → b ≠ (ad 263) → b ≠ (ad 264) → u.2 b = f b)
set_option maxHeartbeats 4000000 in
set_option maxRecDepth 100000 in
theorem s_X11_hearsAll (l : Launch) (g : GG) (ad : Nat → Nat) (th : Nat → Int) (L : List Nat) (f : HP) (sz : Nat) (z1 : Int32) (hst : ST ad L) (hT : TI g ad th f) (hz1 : In z1 0 8) : MtV l g yX11_hearsAll cX11_hearsAll 3 rm_X11_hearsAll [.ref (ad 255), .int z1] L f sz (po_X11_hearsAll g ad th L f z1) := by
  refine MtV.of (by decide +kernel) (Nat.le_of_ble_eq_true rfl) ?_
  intro p e s m below meth c A hEn hP hD hS ls hl
  obtain ⟨hx, hb, hr, hml, hown, hlocks, hts, hG, hA, hE, hnm⟩ := hEn
  have hown : s.vm.findClass "RulerWordModel" = some m.cls := hown
  have hl : lv_has ls 3 [(0, .ref (ad 255)), (1, .int z1)] := hl
  have hfr : (∀ b, b ≠ (ad 265) → b ≠ (ad 269) → b ≠ (ad 263) → b ≠ (ad 264) → f b = f b) := fun b z0_ z1_ z2_ z3_ => rfl
  refine lv_aload_n hx hb dX11_hearsAll_0 rfl (lv_at hl 0 rfl) ?_
  refine M0e hT (fun v0_1 v2_1 v3_1 v4_1 v5_1 v6_1 v8_1 v9_1 v12_1 v13_1 v14_1 v15_1 v16_1 v17_1 v18_1 v19_1 v20_1 v21_1 v22_1 v23_1 v25_1 v36_1 v37_1 v38_1 v39_1 v40_1 v45_1 v46_1 v47_1 v48_1 v50_1 v51_1 v53_1 v55_1 hf2 hv0_1 hv2_1 hg2_1 hv3_1 hg3_1 hv4_1 hg4_1 hv5_1 hg5_1 hv6_1 hg6_1 hv8_1 hg8_1 hv9_1 hg9_1 hv12_1 hv13_1 hg13_1 hv14_1 hg14_1 hv15_1 hg15_1 hv17_1 hg17_1 hv20_1 hg20_1 hv23_1 hg23_1 hv25_1 hg25_1 hv36_1 hg36_1 hv47_1 hg47_1 hv48_1 hg48_1 hv53_1 hg53_1 hv55_1 hg55_1 hrel0_1 => ?_)
  have hg15_1 : v15_1.toInt = th 11 := hg15_1
  have hg17_1 : v17_1.toInt = th 12 := hg17_1
  have hg20_1 : v20_1.toInt = th 14 := hg20_1
  refine pl_get (v := .ref (ad 264)) hx hb hts (fun w h => mT (inX11 w h)) hown hG.1 hP (hst.1 255 (by decide)) hf2 rfl 29 (by decide) (hts _ (mT wg_1365)) (fun _ h => h) rfl dX11_hearsAll_1 ?_
  refine lv_iload_n hx hb dX11_hearsAll_4 rfl (lv_at hl 1 rfl) ?_
  refine lv_aload_n hx hb dX11_hearsAll_5 rfl (lv_at hl 0 rfl) ?_
  refine lv_iload_n hx hb dX11_hearsAll_6 rfl (lv_at hl 1 rfl) ?_
  refine lv_iconst (v := 0) hx hb dX11_hearsAll_7 (by decide) ?_
  refine call_i (run_V (rm := rm_X11_countOf) hx hb hml hown hts (s_X11_countOf l g ad th _ _ _ z1 0 hst hT hz1) cV_X11_countOf wg_1686 ⟨Nat.le_of_ble_eq_true rfl, Nat.le_of_ble_eq_true rfl⟩ hG hE hA hP hD hS (hst.1 255 (by decide)) hf2 rfl rfl hl.1 (As := [.int z1, .int 0]) (rest := [.int z1, .ref (ad 264)]) rfl (Nat.le_of_ble_eq_true rfl) dX11_hearsAll_8 ⟨Nat.le_of_ble_eq_true rfl, Nat.le_of_ble_eq_true rfl⟩) hA hD hS (fun r3 L4 f5 H locs hp6 hP hD hS => ?_)
  obtain ⟨eL7L, eL7T⟩ := hp6
  have eL7L : L4 = L := eL7L
  have eL7T : f5 = f := eL7T
  rw [eL7L, eL7T] at hP hD
  obtain ⟨rw8, hf9⟩ := hT.2.2 9 (by decide)
  refine pl_iastE hx hb hG.1 hP hD hS (hst.1 264 (by decide)) 0 hf9 rfl (In.inb hz1 (by decide) (by decide)) dX11_hearsAll_11 (fun H locs f10 r13 er13 hf11 ho12 hP hD hS => ?_)
  have hf14 := (ho12 (ad 255) (hst.ne (by decide) (by decide) (by decide))).trans hf2
  have hfr : (∀ b, b ≠ (ad 265) → b ≠ (ad 269) → b ≠ (ad 263) → b ≠ (ad 264) → f10 b = f b) := fun b z0_ z1_ z2_ z3_ => (ho12 b z3_).trans (hfr b z0_ z1_ z2_ z3_)
  refine lv_aload_n hx hb dX11_hearsAll_12 rfl (lv_at hl 0 rfl) ?_
  refine pl_get (v := .ref (ad 265)) hx hb hts (fun w h => mT (inX11 w h)) hown hG.1 hP (hst.1 255 (by decide)) hf14 rfl 30 (by decide) (hts _ (mT wg_1366)) (fun _ h => h) rfl dX11_hearsAll_13 ?_
  refine lv_iload_n hx hb dX11_hearsAll_16 rfl (lv_at hl 1 rfl) ?_
  refine lv_aload_n hx hb dX11_hearsAll_17 rfl (lv_at hl 0 rfl) ?_
  refine lv_iload_n hx hb dX11_hearsAll_18 rfl (lv_at hl 1 rfl) ?_
  refine lv_iconst (v := 1) hx hb dX11_hearsAll_19 (by decide) ?_
  have hT := TI.updM hT hst (k := 9) (by decide) hf11 ho12 ⟨r13, rfl⟩
  refine call_i (run_V (rm := rm_X11_countOf) hx hb hml hown hts (s_X11_countOf l g ad th _ _ _ z1 1 hst hT hz1) cV_X11_countOf wg_1686 ⟨Nat.le_of_ble_eq_true rfl, Nat.le_of_ble_eq_true rfl⟩ hG hE hA hP hD hS (hst.1 255 (by decide)) hf14 rfl rfl hl.1 (As := [.int z1, .int 1]) (rest := [.int z1, .ref (ad 265)]) rfl (Nat.le_of_ble_eq_true rfl) dX11_hearsAll_20 ⟨Nat.le_of_ble_eq_true rfl, Nat.le_of_ble_eq_true rfl⟩) hA hD hS (fun r15 L16 f17 H locs hp18 hP hD hS => ?_)
  obtain ⟨eL19L, eL19T⟩ := hp18
  have eL19L : L16 = L := eL19L
  have eL19T : f17 = f10 := eL19T
  rw [eL19L, eL19T] at hP hD
  obtain ⟨rw20, hf21⟩ := hT.2.2 10 (by decide)
  refine pl_iastE hx hb hG.1 hP hD hS (hst.1 265 (by decide)) 0 hf21 rfl (In.inb hz1 (by decide) (by decide)) dX11_hearsAll_23 (fun H locs f22 r25 er25 hf23 ho24 hP hD hS => ?_)
  have hf26 := (ho24 (ad 255) (hst.ne (by decide) (by decide) (by decide))).trans hf14
  have hf27 := (ho24 (ad 264) (hst.ne (by decide) (by decide) (by decide))).trans hf11
  have hfr : (∀ b, b ≠ (ad 265) → b ≠ (ad 269) → b ≠ (ad 263) → b ≠ (ad 264) → f22 b = f b) := fun b z0_ z1_ z2_ z3_ => (ho24 b z0_).trans (hfr b z0_ z1_ z2_ z3_)
  refine lv_aload_n hx hb dX11_hearsAll_24 rfl (lv_at hl 0 rfl) ?_
  refine pl_get (v := .ref (ad 264)) hx hb hts (fun w h => mT (inX11 w h)) hown hG.1 hP (hst.1 255 (by decide)) hf26 rfl 29 (by decide) (hts _ (mT wg_1365)) (fun _ h => h) rfl dX11_hearsAll_25 ?_
  refine lv_iload_n hx hb dX11_hearsAll_28 rfl (lv_at hl 1 rfl) ?_
  have hin28 : vp_in z1 9 := In.inb hz1 (by decide) (by decide)
  refine pl_iald hx hb hG.1 hP (hst.1 264 (by decide)) 0 hf27 rfl hin28 dX11_hearsAll_29 ?_
  refine lv_topi (fun x29 ex29 => ?_)
  refine lv_aload_n hx hb dX11_hearsAll_30 rfl (lv_at hl 0 rfl) ?_
  refine pl_get (v := .ref (ad 265)) hx hb hts (fun w h => mT (inX11 w h)) hown hG.1 hP (hst.1 255 (by decide)) hf26 rfl 30 (by decide) (hts _ (mT wg_1366)) (fun _ h => h) rfl dX11_hearsAll_31 ?_
  refine lv_iload_n hx hb dX11_hearsAll_34 rfl (lv_at hl 1 rfl) ?_
  have hin30 : vp_in z1 9 := In.inb hz1 (by decide) (by decide)
  refine pl_iald hx hb hG.1 hP (hst.1 265 (by decide)) 0 hf23 rfl hin30 dX11_hearsAll_35 ?_
  refine lv_topi (fun x31 ex31 => ?_)
  refine va_mmax hx hb (hml.trans hl.1.symm) hown (hts _ (mT wg_1690)) (hts _ (mT wg_875)) (hts _ (mT wg_178)) (hts _ (mT (mG 876 (by decide +kernel) rfl))) (by first | decide | exact Nat.le_of_ble_eq_true rfl) (by first | decide | exact Nat.le_of_ble_eq_true rfl) (by first | decide | exact Nat.le_of_ble_eq_true rfl) (by first | decide | exact Nat.le_of_ble_eq_true rfl) dX11_hearsAll_36 ?_
  refine lv_topi (fun x32 ex32 => ?_)
  have hb33 : In x32 (-2147483648) 2147483647 := ex32 ▸ In.max (In.full x29) (In.full x31) (by omega) (by omega)
  refine lv_istore_n (lv' := [(2, .int x32), (0, .ref (ad 255)), (1, .int z1)]) hx hb dX11_hearsAll_39 rfl hl (by decide) rfl (fun ls hl => ?_)
  refine lv_aload_n hx hb dX11_hearsAll_40 rfl (lv_at hl 1 rfl) ?_
  refine pl_get (v := .int v14_1) hx hb hts (fun w h => mT (inX11 w h)) hown hG.1 hP (hst.1 255 (by decide)) hf26 rfl 14 (by decide) (hts _ (mT wg_1350)) (fun _ h => h) rfl dX11_hearsAll_41 ?_
  have hg14_1 : v14_1.toInt = th 10 := hg14_1
  have hT := TI.updM hT hst (k := 10) (by decide) hf23 ho24 ⟨r25, rfl⟩
  refine lv_if_ne (tgt := 99) hx hb dX11_hearsAll_44 (by decide) (fun c34 => ?_) (fun c34 => ?_)
  ·
    have cc35 : v14_1.toInt ≠ (0 : Int32).toInt := i32_ne c34
    have hb36 : In v14_1 1 1 := In.ne1 hv14_1 (⟨by decide, by decide⟩ : In 0 0 0) cc35 (by omega) (by omega)
    refine lv_aload_n hx hb dX11_hearsAll_99 rfl (lv_at hl 1 rfl) ?_
    refine pl_get (v := .ref (ad 263)) hx hb hts (fun w h => mT (inX11 w h)) hown hG.1 hP (hst.1 255 (by decide)) hf26 rfl 28 (by decide) (hts _ (mT wg_1364)) (fun _ h => h) rfl dX11_hearsAll_100 ?_
    refine lv_iload_n hx hb dX11_hearsAll_103 rfl (lv_at hl 2 rfl) ?_
    refine lv_aload_n hx hb dX11_hearsAll_104 rfl (lv_at hl 1 rfl) ?_
    refine pl_get (v := .ref (ad 265)) hx hb hts (fun w h => mT (inX11 w h)) hown hG.1 hP (hst.1 255 (by decide)) hf26 rfl 30 (by decide) (hts _ (mT wg_1366)) (fun _ h => h) rfl dX11_hearsAll_105 ?_
    refine lv_iload_n hx hb dX11_hearsAll_108 rfl (lv_at hl 2 rfl) ?_
    have hin37 : vp_in z1 9 := In.inb hz1 (by decide) (by decide)
    refine pl_iald hx hb hG.1 hP (hst.1 265 (by decide)) 0 hf23 rfl hin37 dX11_hearsAll_109 ?_
    refine lv_topi (fun x38 ex38 => ?_)
    obtain rfl : x31 = x38 := ex31.trans ex38.symm
    refine lv_aload_n hx hb dX11_hearsAll_110 rfl (lv_at hl 1 rfl) ?_
    refine pl_get (v := .ref (ad 264)) hx hb hts (fun w h => mT (inX11 w h)) hown hG.1 hP (hst.1 255 (by decide)) hf26 rfl 29 (by decide) (hts _ (mT wg_1365)) (fun _ h => h) rfl dX11_hearsAll_111 ?_
    refine lv_iload_n hx hb dX11_hearsAll_114 rfl (lv_at hl 2 rfl) ?_
    have hin39 : vp_in z1 9 := In.inb hz1 (by decide) (by decide)
    refine pl_iald hx hb hG.1 hP (hst.1 264 (by decide)) 0 hf27 rfl hin39 dX11_hearsAll_115 ?_
    refine lv_topi (fun x40 ex40 => ?_)
    obtain rfl : x29 = x40 := ex29.trans ex40.symm
    have hJ124 : ∀ (y124_s0 : Int32) (H : Heap) (locs : List Loc) (ls : Array Slot), In y124_s0 0 1 → va_P g.1 vwCl (va_pl L f22) H → va_D A (va_pl L f22) → va_S A s.heap H locs → lv_has ls 3 [(0, .ref (ad 255)), (1, .int z1), (2, .int x32)] → W p l e rm_X11_hearsAll s m [.ref (ad 255), .int z1].toArray below meth c H locs 0 0 (MQ below (va_Qv (po_X11_hearsAll g ad th L f z1) (PstB g A) A) [.ref (ad 255), .int z1].toArray s rm_X11_hearsAll.cells rm_X11_hearsAll.slots A) (F0 m 124 ls [.int y124_s0, .int z1, .ref (ad 263)]) := by
      intro y124_s0 H locs ls hy124_s0 hP hD hS hl
      obtain ⟨rw41, hf42⟩ := hT.2.2 8 (by decide)
      refine pl_iastE hx hb hG.1 hP hD hS (hst.1 263 (by decide)) 0 hf42 rfl (In.inb hz1 (by decide) (by decide)) dX11_hearsAll_124 (fun H locs f43 r46 er46 hf44 ho45 hP hD hS => ?_)
      have hf47 := (ho45 (ad 255) (hst.ne (by decide) (by decide) (by decide))).trans hf26
      have hf48 := (ho45 (ad 264) (hst.ne (by decide) (by decide) (by decide))).trans hf27
      have hf49 := (ho45 (ad 265) (hst.ne (by decide) (by decide) (by decide))).trans hf23
      have hfr : (∀ b, b ≠ (ad 265) → b ≠ (ad 269) → b ≠ (ad 263) → b ≠ (ad 264) → f43 b = f b) := fun b z0_ z1_ z2_ z3_ => (ho45 b z2_).trans (hfr b z0_ z1_ z2_ z3_)
      refine lv_aload_n hx hb dX11_hearsAll_125 rfl (lv_at hl 0 rfl) ?_
      refine pl_get (v := .ref (ad 269)) hx hb hts (fun w h => mT (inX11 w h)) hown hG.1 hP (hst.1 255 (by decide)) hf47 rfl 34 (by decide) (hts _ (mT wg_1370)) (fun _ h => h) rfl dX11_hearsAll_126 ?_
      refine lv_iload_n hx hb dX11_hearsAll_129 rfl (lv_at hl 1 rfl) ?_
      refine lv_iconst (v := 2) hx hb dX11_hearsAll_130 (by decide) ?_
      refine lv_iload_n hx hb dX11_hearsAll_131 rfl (lv_at hl 2 rfl) ?_
      refine lv_imul hx hb dX11_hearsAll_132 ?_
      refine lv_topi (fun x50 ex50 => ?_)
      refine lv_aload_n hx hb dX11_hearsAll_133 rfl (lv_at hl 0 rfl) ?_
      refine pl_get (v := .int v15_1) hx hb hts (fun w h => mT (inX11 w h)) hown hG.1 hP (hst.1 255 (by decide)) hf47 rfl 15 (by decide) (hts _ (mT wg_1351)) (fun _ h => h) rfl dX11_hearsAll_134 ?_
      refine lv_iconst (v := 2) hx hb dX11_hearsAll_137 (by decide) ?_
      refine lv_aload_n hx hb dX11_hearsAll_138 rfl (lv_at hl 0 rfl) ?_
      refine pl_get (v := .int v16_1) hx hb hts (fun w h => mT (inX11 w h)) hown hG.1 hP (hst.1 255 (by decide)) hf47 rfl 16 (by decide) (hts _ (mT wg_1352)) (fun _ h => h) rfl dX11_hearsAll_139 ?_
      refine lv_imul hx hb dX11_hearsAll_142 ?_
      refine lv_topi (fun x51 ex51 => ?_)
      refine lv_iadd hx hb dX11_hearsAll_143 ?_
      refine lv_topi (fun x52 ex52 => ?_)
      have hT := TI.updM hT hst (k := 8) (by decide) hf44 ho45 ⟨r46, rfl⟩
      refine lv_icmp_le (tgt := 151) hx hb dX11_hearsAll_144 (by decide) (fun c53 => ?_) (fun c53 => ?_)
      ·
        refine lv_iconst (v := 0) hx hb dX11_hearsAll_151 (by decide) ?_
        obtain ⟨rw54, hf55⟩ := hT.2.2 14 (by decide)
        refine pl_zastE hx hb hG.1 hP hD hS (hst.1 269 (by decide)) 3 hf55 rfl (In.inb hz1 (by decide) (by decide)) dX11_hearsAll_152 (fun H locs f56 r59 er59 hf57 ho58 hP hD hS => ?_)
        have hf60 := (ho58 (ad 255) (hst.ne (by decide) (by decide) (by decide))).trans hf47
        have hf61 := (ho58 (ad 264) (hst.ne (by decide) (by decide) (by decide))).trans hf48
        have hf62 := (ho58 (ad 265) (hst.ne (by decide) (by decide) (by decide))).trans hf49
        have hf63 := (ho58 (ad 263) (hst.ne (by decide) (by decide) (by decide))).trans hf44
        have hfr : (∀ b, b ≠ (ad 265) → b ≠ (ad 269) → b ≠ (ad 263) → b ≠ (ad 264) → f56 b = f b) := fun b z0_ z1_ z2_ z3_ => (ho58 b z1_).trans (hfr b z0_ z1_ z2_ z3_)
        have hT := TI.updM hT hst (k := 14) (by decide) hf57 ho58 ⟨r59, rfl⟩
        exact ret_v hx hb hr hlocks hP hD hS (Nat.le_of_ble_eq_true rfl) (Nat.le_of_ble_eq_true rfl) (⟨rfl, hT, hfr⟩) dX11_hearsAll_153
      ·
        have cc64 : x52.toInt < x50.toInt := i32_nle c53
        have hb65 : In x50 (-2147483647) 2147483647 := In.gt1 (In.full x50) (In.full x52) cc64 (by omega) (by omega)
        have hb66 : In x52 (-2147483648) 2147483646 := In.gt2 (In.full x50) (In.full x52) cc64 (by omega) (by omega)
        refine lv_iconst (v := 1) hx hb dX11_hearsAll_147 (by decide) ?_
        refine lv_goto (tgt := 152) hx hb dX11_hearsAll_148 (by decide) ?_
        obtain ⟨rw67, hf68⟩ := hT.2.2 14 (by decide)
        refine pl_zastE hx hb hG.1 hP hD hS (hst.1 269 (by decide)) 3 hf68 rfl (In.inb hz1 (by decide) (by decide)) dX11_hearsAll_152 (fun H locs f69 r72 er72 hf70 ho71 hP hD hS => ?_)
        have hf73 := (ho71 (ad 255) (hst.ne (by decide) (by decide) (by decide))).trans hf47
        have hf74 := (ho71 (ad 264) (hst.ne (by decide) (by decide) (by decide))).trans hf48
        have hf75 := (ho71 (ad 265) (hst.ne (by decide) (by decide) (by decide))).trans hf49
        have hf76 := (ho71 (ad 263) (hst.ne (by decide) (by decide) (by decide))).trans hf44
        have hfr : (∀ b, b ≠ (ad 265) → b ≠ (ad 269) → b ≠ (ad 263) → b ≠ (ad 264) → f69 b = f b) := fun b z0_ z1_ z2_ z3_ => (ho71 b z1_).trans (hfr b z0_ z1_ z2_ z3_)
        have hT := TI.updM hT hst (k := 14) (by decide) hf70 ho71 ⟨r72, rfl⟩
        exact ret_v hx hb hr hlocks hP hD hS (Nat.le_of_ble_eq_true rfl) (Nat.le_of_ble_eq_true rfl) (⟨rfl, hT, hfr⟩) dX11_hearsAll_153
    refine lv_icmp_le (tgt := 123) hx hb dX11_hearsAll_116 (by decide) (fun c77 => ?_) (fun c77 => ?_)
    ·
      refine lv_iconst (v := 0) hx hb dX11_hearsAll_123 (by decide) ?_
      exact hJ124 0 _ _ _ (⟨by decide, by decide⟩ : In 0 0 1) hP hD hS (lv_sub hl [1, 2, 0] rfl)
    ·
      have cc78 : x29.toInt < x31.toInt := i32_nle c77
      have hb79 : In x31 (-2147483647) 2147483647 := In.gt1 (In.full x31) (In.full x29) cc78 (by omega) (by omega)
      have hb80 : In x29 (-2147483648) 2147483646 := In.gt2 (In.full x31) (In.full x29) cc78 (by omega) (by omega)
      refine lv_iconst (v := 1) hx hb dX11_hearsAll_119 (by decide) ?_
      refine lv_goto (tgt := 124) hx hb dX11_hearsAll_120 (by decide) ?_
      exact hJ124 1 _ _ _ (⟨by decide, by decide⟩ : In 1 0 1) hP hD hS (lv_sub hl [1, 2, 0] rfl)
  ·
    have cc81 : v14_1.toInt = (0 : Int32).toInt := congrArg Int32.toInt c34
    have hb82 : In v14_1 0 0 := In.eq1 hv14_1 (⟨by decide, by decide⟩ : In 0 0 0) cc81 (by omega) (by omega)
    refine lv_aload_n hx hb dX11_hearsAll_47 rfl (lv_at hl 1 rfl) ?_
    refine pl_get (v := .ref (ad 263)) hx hb hts (fun w h => mT (inX11 w h)) hown hG.1 hP (hst.1 255 (by decide)) hf26 rfl 28 (by decide) (hts _ (mT wg_1364)) (fun _ h => h) rfl dX11_hearsAll_48 ?_
    refine lv_iload_n hx hb dX11_hearsAll_51 rfl (lv_at hl 2 rfl) ?_
    refine lv_aload_n hx hb dX11_hearsAll_52 rfl (lv_at hl 1 rfl) ?_
    refine pl_get (v := .ref (ad 264)) hx hb hts (fun w h => mT (inX11 w h)) hown hG.1 hP (hst.1 255 (by decide)) hf26 rfl 29 (by decide) (hts _ (mT wg_1365)) (fun _ h => h) rfl dX11_hearsAll_53 ?_
    refine lv_iload_n hx hb dX11_hearsAll_56 rfl (lv_at hl 2 rfl) ?_
    have hin83 : vp_in z1 9 := In.inb hz1 (by decide) (by decide)
    refine pl_iald hx hb hG.1 hP (hst.1 264 (by decide)) 0 hf27 rfl hin83 dX11_hearsAll_57 ?_
    refine lv_topi (fun x84 ex84 => ?_)
    obtain rfl : x29 = x84 := ex29.trans ex84.symm
    refine lv_aload_n hx hb dX11_hearsAll_58 rfl (lv_at hl 1 rfl) ?_
    refine pl_get (v := .int v15_1) hx hb hts (fun w h => mT (inX11 w h)) hown hG.1 hP (hst.1 255 (by decide)) hf26 rfl 15 (by decide) (hts _ (mT wg_1351)) (fun _ h => h) rfl dX11_hearsAll_59 ?_
    refine lv_aload_n hx hb dX11_hearsAll_62 rfl (lv_at hl 1 rfl) ?_
    refine pl_get (v := .int v16_1) hx hb hts (fun w h => mT (inX11 w h)) hown hG.1 hP (hst.1 255 (by decide)) hf26 rfl 16 (by decide) (hts _ (mT wg_1352)) (fun _ h => h) rfl dX11_hearsAll_63 ?_
    refine lv_isub hx hb dX11_hearsAll_66 ?_
    refine lv_topi (fun x85 ex85 => ?_)
    refine lv_icmp_lt (tgt := 74) hx hb dX11_hearsAll_67 (by decide) (fun c86 => ?_) (fun c86 => ?_)
    ·
      have cc87 : x29.toInt < x85.toInt := i32_lt.mp c86
      have hb88 : In x29 (-2147483648) 2147483646 := In.lt1 (In.full x29) (In.full x85) cc87 (by omega) (by omega)
      have hb89 : In x85 (-2147483647) 2147483647 := In.lt2 (In.full x29) (In.full x85) cc87 (by omega) (by omega)
      refine lv_aload_n hx hb dX11_hearsAll_74 rfl (lv_at hl 1 rfl) ?_
      refine pl_get (v := .ref (ad 265)) hx hb hts (fun w h => mT (inX11 w h)) hown hG.1 hP (hst.1 255 (by decide)) hf26 rfl 30 (by decide) (hts _ (mT wg_1366)) (fun _ h => h) rfl dX11_hearsAll_75 ?_
      refine lv_iload_n hx hb dX11_hearsAll_78 rfl (lv_at hl 2 rfl) ?_
      have hin90 : vp_in z1 9 := In.inb hz1 (by decide) (by decide)
      refine pl_iald hx hb hG.1 hP (hst.1 265 (by decide)) 0 hf23 rfl hin90 dX11_hearsAll_79 ?_
      refine lv_topi (fun x91 ex91 => ?_)
      obtain rfl : x31 = x91 := ex31.trans ex91.symm
      refine lv_aload_n hx hb dX11_hearsAll_80 rfl (lv_at hl 1 rfl) ?_
      refine pl_get (v := .int v15_1) hx hb hts (fun w h => mT (inX11 w h)) hown hG.1 hP (hst.1 255 (by decide)) hf26 rfl 15 (by decide) (hts _ (mT wg_1351)) (fun _ h => h) rfl dX11_hearsAll_81 ?_
      refine lv_aload_n hx hb dX11_hearsAll_84 rfl (lv_at hl 1 rfl) ?_
      refine pl_get (v := .int v16_1) hx hb hts (fun w h => mT (inX11 w h)) hown hG.1 hP (hst.1 255 (by decide)) hf26 rfl 16 (by decide) (hts _ (mT wg_1352)) (fun _ h => h) rfl dX11_hearsAll_85 ?_
      refine lv_isub hx hb dX11_hearsAll_88 ?_
      refine lv_topi (fun x92 ex92 => ?_)
      obtain rfl : x85 = x92 := ex85.trans ex92.symm
      refine lv_icmp_lt (tgt := 96) hx hb dX11_hearsAll_89 (by decide) (fun c93 => ?_) (fun c93 => ?_)
      ·
        have cc94 : x31.toInt < x85.toInt := i32_lt.mp c93
        have hb95 : In x31 (-2147483648) 2147483646 := In.lt1 (In.full x31) hb89 cc94 (by omega) (by omega)
        refine lv_iconst (v := 2) hx hb dX11_hearsAll_96 (by decide) ?_
        obtain ⟨rw96, hf97⟩ := hT.2.2 8 (by decide)
        refine pl_iastE hx hb hG.1 hP hD hS (hst.1 263 (by decide)) 0 hf97 rfl (In.inb hz1 (by decide) (by decide)) dX11_hearsAll_97 (fun H locs f98 r101 er101 hf99 ho100 hP hD hS => ?_)
        have hf102 := (ho100 (ad 255) (hst.ne (by decide) (by decide) (by decide))).trans hf26
        have hf103 := (ho100 (ad 264) (hst.ne (by decide) (by decide) (by decide))).trans hf27
        have hf104 := (ho100 (ad 265) (hst.ne (by decide) (by decide) (by decide))).trans hf23
        have hfr : (∀ b, b ≠ (ad 265) → b ≠ (ad 269) → b ≠ (ad 263) → b ≠ (ad 264) → f98 b = f b) := fun b z0_ z1_ z2_ z3_ => (ho100 b z2_).trans (hfr b z0_ z1_ z2_ z3_)
        have hT := TI.updM hT hst (k := 8) (by decide) hf99 ho100 ⟨r101, rfl⟩
        exact ret_v hx hb hr hlocks hP hD hS (Nat.le_of_ble_eq_true rfl) (Nat.le_of_ble_eq_true rfl) (⟨rfl, hT, hfr⟩) dX11_hearsAll_98
      ·
        have cc105 : x85.toInt ≤ x31.toInt := i32_nlt c93
        have hb106 : In x31 (-2147483647) 2147483647 := In.ge1 (In.full x31) hb89 cc105 (by omega) (by omega)
        refine lv_iconst (v := 1) hx hb dX11_hearsAll_92 (by decide) ?_
        refine lv_goto (tgt := 97) hx hb dX11_hearsAll_93 (by decide) ?_
        obtain ⟨rw107, hf108⟩ := hT.2.2 8 (by decide)
        refine pl_iastE hx hb hG.1 hP hD hS (hst.1 263 (by decide)) 0 hf108 rfl (In.inb hz1 (by decide) (by decide)) dX11_hearsAll_97 (fun H locs f109 r112 er112 hf110 ho111 hP hD hS => ?_)
        have hf113 := (ho111 (ad 255) (hst.ne (by decide) (by decide) (by decide))).trans hf26
        have hf114 := (ho111 (ad 264) (hst.ne (by decide) (by decide) (by decide))).trans hf27
        have hf115 := (ho111 (ad 265) (hst.ne (by decide) (by decide) (by decide))).trans hf23
        have hfr : (∀ b, b ≠ (ad 265) → b ≠ (ad 269) → b ≠ (ad 263) → b ≠ (ad 264) → f109 b = f b) := fun b z0_ z1_ z2_ z3_ => (ho111 b z2_).trans (hfr b z0_ z1_ z2_ z3_)
        have hT := TI.updM hT hst (k := 8) (by decide) hf110 ho111 ⟨r112, rfl⟩
        exact ret_v hx hb hr hlocks hP hD hS (Nat.le_of_ble_eq_true rfl) (Nat.le_of_ble_eq_true rfl) (⟨rfl, hT, hfr⟩) dX11_hearsAll_98
    ·
      refine lv_iconst (v := 0) hx hb dX11_hearsAll_70 (by decide) ?_
      refine lv_goto (tgt := 97) hx hb dX11_hearsAll_71 (by decide) ?_
      obtain ⟨rw116, hf117⟩ := hT.2.2 8 (by decide)
      refine pl_iastE hx hb hG.1 hP hD hS (hst.1 263 (by decide)) 0 hf117 rfl (In.inb hz1 (by decide) (by decide)) dX11_hearsAll_97 (fun H locs f118 r121 er121 hf119 ho120 hP hD hS => ?_)
      have hf122 := (ho120 (ad 255) (hst.ne (by decide) (by decide) (by decide))).trans hf26
      have hf123 := (ho120 (ad 264) (hst.ne (by decide) (by decide) (by decide))).trans hf27
      have hf124 := (ho120 (ad 265) (hst.ne (by decide) (by decide) (by decide))).trans hf23
      have hfr : (∀ b, b ≠ (ad 265) → b ≠ (ad 269) → b ≠ (ad 263) → b ≠ (ad 264) → f118 b = f b) := fun b z0_ z1_ z2_ z3_ => (ho120 b z2_).trans (hfr b z0_ z1_ z2_ z3_)
      have hT := TI.updM hT hst (k := 8) (by decide) hf119 ho120 ⟨r121, rfl⟩
      exact ret_v hx hb hr hlocks hP hD hS (Nat.le_of_ble_eq_true rfl) (Nat.le_of_ble_eq_true rfl) (⟨rfl, hT, hfr⟩) dX11_hearsAll_98

abbrev rm_X11_hearsOffers : Room := { frames := 1, cells := 0, slots := 0, locals := 24 }
abbrev po_X11_hearsOffers (g : GG) (ad : Nat → Nat) (th : Nat → Int) (L : List Nat) (f : HP) (z1 : Int32) : (List Nat × HP) → Prop := fun u => u.1 = L ∧ TI g ad th u.2 ∧ (∀ b, b ≠ (ad 266) → b ≠ (ad 267) → b ≠ (ad 269) → b ≠ (ad 261) → u.2 b = f b)
set_option maxHeartbeats 4000000 in
set_option maxRecDepth 100000 in
theorem s_X11_hearsOffers (l : Launch) (g : GG) (ad : Nat → Nat) (th : Nat → Int) (L : List Nat) (f : HP) (sz : Nat) (z1 : Int32) (hst : ST ad L) (hT : TI g ad th f) (hz1 : In z1 0 8) : MtV l g yX11_hearsOffers cX11_hearsOffers 3 rm_X11_hearsOffers [.ref (ad 255), .int z1] L f sz (po_X11_hearsOffers g ad th L f z1) := by
  refine MtV.of (by decide +kernel) (Nat.le_of_ble_eq_true rfl) ?_
  intro p e s m below meth c A hEn hP hD hS ls hl
  obtain ⟨hx, hb, hr, hml, hown, hlocks, hts, hG, hA, hE, hnm⟩ := hEn
  have hown : s.vm.findClass "RulerWordModel" = some m.cls := hown
  have hl : lv_has ls 3 [(0, .ref (ad 255)), (1, .int z1)] := hl
  have hfr : (∀ b, b ≠ (ad 266) → b ≠ (ad 267) → b ≠ (ad 269) → b ≠ (ad 261) → f b = f b) := fun b z0_ z1_ z2_ z3_ => rfl
  refine lv_aload_n hx hb dX11_hearsOffers_0 rfl (lv_at hl 0 rfl) ?_
  refine M0e hT (fun v0_1 v2_1 v3_1 v4_1 v5_1 v6_1 v8_1 v9_1 v12_1 v13_1 v14_1 v15_1 v16_1 v17_1 v18_1 v19_1 v20_1 v21_1 v22_1 v23_1 v25_1 v36_1 v37_1 v38_1 v39_1 v40_1 v45_1 v46_1 v47_1 v48_1 v50_1 v51_1 v53_1 v55_1 hf2 hv0_1 hv2_1 hg2_1 hv3_1 hg3_1 hv4_1 hg4_1 hv5_1 hg5_1 hv6_1 hg6_1 hv8_1 hg8_1 hv9_1 hg9_1 hv12_1 hv13_1 hg13_1 hv14_1 hg14_1 hv15_1 hg15_1 hv17_1 hg17_1 hv20_1 hg20_1 hv23_1 hg23_1 hv25_1 hg25_1 hv36_1 hg36_1 hv47_1 hg47_1 hv48_1 hg48_1 hv53_1 hg53_1 hv55_1 hg55_1 hrel0_1 => ?_)
  have hg15_1 : v15_1.toInt = th 11 := hg15_1
  have hg17_1 : v17_1.toInt = th 12 := hg17_1
  have hg20_1 : v20_1.toInt = th 14 := hg20_1
  refine pl_get (v := .ref (ad 266)) hx hb hts (fun w h => mT (inX11 w h)) hown hG.1 hP (hst.1 255 (by decide)) hf2 rfl 31 (by decide) (hts _ (mT wg_1367)) (fun _ h => h) rfl dX11_hearsOffers_1 ?_
  refine lv_iload_n hx hb dX11_hearsOffers_4 rfl (lv_at hl 1 rfl) ?_
  refine lv_aload_n hx hb dX11_hearsOffers_5 rfl (lv_at hl 0 rfl) ?_
  refine lv_iload_n hx hb dX11_hearsOffers_6 rfl (lv_at hl 1 rfl) ?_
  refine lv_iconst (v := 0) hx hb dX11_hearsOffers_7 (by decide) ?_
  refine call_i (run_V (rm := rm_X11_countOf) hx hb hml hown hts (s_X11_countOf l g ad th _ _ _ z1 0 hst hT hz1) cV_X11_countOf wg_1686 ⟨Nat.le_of_ble_eq_true rfl, Nat.le_of_ble_eq_true rfl⟩ hG hE hA hP hD hS (hst.1 255 (by decide)) hf2 rfl rfl hl.1 (As := [.int z1, .int 0]) (rest := [.int z1, .ref (ad 266)]) rfl (Nat.le_of_ble_eq_true rfl) dX11_hearsOffers_8 ⟨Nat.le_of_ble_eq_true rfl, Nat.le_of_ble_eq_true rfl⟩) hA hD hS (fun r3 L4 f5 H locs hp6 hP hD hS => ?_)
  obtain ⟨eL7L, eL7T⟩ := hp6
  have eL7L : L4 = L := eL7L
  have eL7T : f5 = f := eL7T
  rw [eL7L, eL7T] at hP hD
  obtain ⟨rw8, hf9⟩ := hT.2.2 11 (by decide)
  refine pl_iastE hx hb hG.1 hP hD hS (hst.1 266 (by decide)) 0 hf9 rfl (In.inb hz1 (by decide) (by decide)) dX11_hearsOffers_11 (fun H locs f10 r13 er13 hf11 ho12 hP hD hS => ?_)
  have hf14 := (ho12 (ad 255) (hst.ne (by decide) (by decide) (by decide))).trans hf2
  have hfr : (∀ b, b ≠ (ad 266) → b ≠ (ad 267) → b ≠ (ad 269) → b ≠ (ad 261) → f10 b = f b) := fun b z0_ z1_ z2_ z3_ => (ho12 b z0_).trans (hfr b z0_ z1_ z2_ z3_)
  refine lv_aload_n hx hb dX11_hearsOffers_12 rfl (lv_at hl 0 rfl) ?_
  refine pl_get (v := .ref (ad 267)) hx hb hts (fun w h => mT (inX11 w h)) hown hG.1 hP (hst.1 255 (by decide)) hf14 rfl 32 (by decide) (hts _ (mT wg_1368)) (fun _ h => h) rfl dX11_hearsOffers_13 ?_
  refine lv_iload_n hx hb dX11_hearsOffers_16 rfl (lv_at hl 1 rfl) ?_
  refine lv_aload_n hx hb dX11_hearsOffers_17 rfl (lv_at hl 0 rfl) ?_
  refine lv_iload_n hx hb dX11_hearsOffers_18 rfl (lv_at hl 1 rfl) ?_
  refine lv_iconst (v := 1) hx hb dX11_hearsOffers_19 (by decide) ?_
  have hT := TI.updM hT hst (k := 11) (by decide) hf11 ho12 ⟨r13, rfl⟩
  refine call_i (run_V (rm := rm_X11_countOf) hx hb hml hown hts (s_X11_countOf l g ad th _ _ _ z1 1 hst hT hz1) cV_X11_countOf wg_1686 ⟨Nat.le_of_ble_eq_true rfl, Nat.le_of_ble_eq_true rfl⟩ hG hE hA hP hD hS (hst.1 255 (by decide)) hf14 rfl rfl hl.1 (As := [.int z1, .int 1]) (rest := [.int z1, .ref (ad 267)]) rfl (Nat.le_of_ble_eq_true rfl) dX11_hearsOffers_20 ⟨Nat.le_of_ble_eq_true rfl, Nat.le_of_ble_eq_true rfl⟩) hA hD hS (fun r15 L16 f17 H locs hp18 hP hD hS => ?_)
  obtain ⟨eL19L, eL19T⟩ := hp18
  have eL19L : L16 = L := eL19L
  have eL19T : f17 = f10 := eL19T
  rw [eL19L, eL19T] at hP hD
  obtain ⟨rw20, hf21⟩ := hT.2.2 12 (by decide)
  refine pl_iastE hx hb hG.1 hP hD hS (hst.1 267 (by decide)) 0 hf21 rfl (In.inb hz1 (by decide) (by decide)) dX11_hearsOffers_23 (fun H locs f22 r25 er25 hf23 ho24 hP hD hS => ?_)
  have hf26 := (ho24 (ad 255) (hst.ne (by decide) (by decide) (by decide))).trans hf14
  have hf27 := (ho24 (ad 266) (hst.ne (by decide) (by decide) (by decide))).trans hf11
  have hfr : (∀ b, b ≠ (ad 266) → b ≠ (ad 267) → b ≠ (ad 269) → b ≠ (ad 261) → f22 b = f b) := fun b z0_ z1_ z2_ z3_ => (ho24 b z1_).trans (hfr b z0_ z1_ z2_ z3_)
  refine lv_aload_n hx hb dX11_hearsOffers_24 rfl (lv_at hl 0 rfl) ?_
  refine pl_get (v := .ref (ad 266)) hx hb hts (fun w h => mT (inX11 w h)) hown hG.1 hP (hst.1 255 (by decide)) hf26 rfl 31 (by decide) (hts _ (mT wg_1367)) (fun _ h => h) rfl dX11_hearsOffers_25 ?_
  refine lv_iload_n hx hb dX11_hearsOffers_28 rfl (lv_at hl 1 rfl) ?_
  have hin28 : vp_in z1 9 := In.inb hz1 (by decide) (by decide)
  refine pl_iald hx hb hG.1 hP (hst.1 266 (by decide)) 0 hf27 rfl hin28 dX11_hearsOffers_29 ?_
  refine lv_topi (fun x29 ex29 => ?_)
  refine lv_aload_n hx hb dX11_hearsOffers_30 rfl (lv_at hl 0 rfl) ?_
  refine pl_get (v := .ref (ad 267)) hx hb hts (fun w h => mT (inX11 w h)) hown hG.1 hP (hst.1 255 (by decide)) hf26 rfl 32 (by decide) (hts _ (mT wg_1368)) (fun _ h => h) rfl dX11_hearsOffers_31 ?_
  refine lv_iload_n hx hb dX11_hearsOffers_34 rfl (lv_at hl 1 rfl) ?_
  have hin30 : vp_in z1 9 := In.inb hz1 (by decide) (by decide)
  refine pl_iald hx hb hG.1 hP (hst.1 267 (by decide)) 0 hf23 rfl hin30 dX11_hearsOffers_35 ?_
  refine lv_topi (fun x31 ex31 => ?_)
  refine va_mmax hx hb (hml.trans hl.1.symm) hown (hts _ (mT wg_1690)) (hts _ (mT wg_875)) (hts _ (mT wg_178)) (hts _ (mT (mG 876 (by decide +kernel) rfl))) (by first | decide | exact Nat.le_of_ble_eq_true rfl) (by first | decide | exact Nat.le_of_ble_eq_true rfl) (by first | decide | exact Nat.le_of_ble_eq_true rfl) (by first | decide | exact Nat.le_of_ble_eq_true rfl) dX11_hearsOffers_36 ?_
  refine lv_topi (fun x32 ex32 => ?_)
  have hb33 : In x32 (-2147483648) 2147483647 := ex32 ▸ In.max (In.full x29) (In.full x31) (by omega) (by omega)
  refine lv_istore_n (lv' := [(2, .int x32), (0, .ref (ad 255)), (1, .int z1)]) hx hb dX11_hearsOffers_39 rfl hl (by decide) rfl (fun ls hl => ?_)
  refine lv_iload_n hx hb dX11_hearsOffers_40 rfl (lv_at hl 0 rfl) ?_
  refine lv_aload_n hx hb dX11_hearsOffers_41 rfl (lv_at hl 1 rfl) ?_
  refine pl_get (v := .int v16_1) hx hb hts (fun w h => mT (inX11 w h)) hown hG.1 hP (hst.1 255 (by decide)) hf26 rfl 16 (by decide) (hts _ (mT wg_1352)) (fun _ h => h) rfl dX11_hearsOffers_42 ?_
  have hT := TI.updM hT hst (k := 12) (by decide) hf23 ho24 ⟨r25, rfl⟩
  have hJ74 : ∀ (f_74 : HP) (H : Heap) (locs : List Loc) (ls : Array Slot), va_P g.1 vwCl (va_pl L f_74) H → va_D A (va_pl L f_74) → va_S A s.heap H locs → TI g ad th f_74 → (∀ b, b ≠ (ad 266) → b ≠ (ad 267) → b ≠ (ad 269) → b ≠ (ad 261) → f_74 b = f b) → f_74 (ad 255) = .inr (10, [.int v0_1, .ref (ad 256), .int v2_1, .int v3_1, .int v4_1, .int v5_1, .int v6_1, .ref (ad 257), .int v8_1, .int v9_1, .ref (ad 258), .ref (ad 259), .int v12_1, .int v13_1, .int v14_1, .int v15_1, .int v16_1, .int v17_1, .int v18_1, .int v19_1, .int v20_1, .long v21_1, .long v22_1, .int v23_1, .ref (ad 260), .int v25_1, .ref (ad 261), .ref (ad 262), .ref (ad 263), .ref (ad 264), .ref (ad 265), .ref (ad 266), .ref (ad 267), .ref (ad 268), .ref (ad 269), .ref (ad 270), .int v36_1, .int v37_1, .int v38_1, .int v39_1, .int v40_1, .ref (ad 271), .ref (ad 272), .ref (ad 273), .ref (ad 274), .long v45_1, .long v46_1, .int v47_1, .int v48_1, .ref (ad 275), .int v50_1, .int v51_1, .ref (ad 276), .int v53_1, .ref (ad 277), .int v55_1]) → f_74 (ad 266) = .inl (g.2.1 0, 9, .inl (r13)) → f_74 (ad 267) = .inl (g.2.1 0, 9, .inl (r25)) → lv_has ls 3 [(0, .ref (ad 255)), (1, .int z1), (2, .int x32)] → W p l e rm_X11_hearsOffers s m [.ref (ad 255), .int z1].toArray below meth c H locs 0 0 (MQ below (va_Qv (po_X11_hearsOffers g ad th L f z1) (PstB g A) A) [.ref (ad 255), .int z1].toArray s rm_X11_hearsOffers.cells rm_X11_hearsOffers.slots A) (F0 m 74 ls []) := by
    intro f_74 H locs ls hP hD hS hT hfr hf34 hf35 hf36 hl
    refine lv_aload_n hx hb dX11_hearsOffers_74 rfl (lv_at hl 0 rfl) ?_
    refine pl_get (v := .ref (ad 269)) hx hb hts (fun w h => mT (inX11 w h)) hown hG.1 hP (hst.1 255 (by decide)) hf34 rfl 34 (by decide) (hts _ (mT wg_1370)) (fun _ h => h) rfl dX11_hearsOffers_75 ?_
    refine lv_iload_n hx hb dX11_hearsOffers_78 rfl (lv_at hl 1 rfl) ?_
    refine lv_iload_n hx hb dX11_hearsOffers_79 rfl (lv_at hl 2 rfl) ?_
    refine lv_aload_n hx hb dX11_hearsOffers_80 rfl (lv_at hl 0 rfl) ?_
    refine pl_get (v := .int v15_1) hx hb hts (fun w h => mT (inX11 w h)) hown hG.1 hP (hst.1 255 (by decide)) hf34 rfl 15 (by decide) (hts _ (mT wg_1351)) (fun _ h => h) rfl dX11_hearsOffers_81 ?_
    refine lv_aload_n hx hb dX11_hearsOffers_84 rfl (lv_at hl 0 rfl) ?_
    refine pl_get (v := .int v16_1) hx hb hts (fun w h => mT (inX11 w h)) hown hG.1 hP (hst.1 255 (by decide)) hf34 rfl 16 (by decide) (hts _ (mT wg_1352)) (fun _ h => h) rfl dX11_hearsOffers_85 ?_
    refine lv_isub hx hb dX11_hearsOffers_88 ?_
    refine lv_topi (fun x37 ex37 => ?_)
    refine lv_icmp_lt (tgt := 96) hx hb dX11_hearsOffers_89 (by decide) (fun c38 => ?_) (fun c38 => ?_)
    ·
      have cc39 : x32.toInt < x37.toInt := i32_lt.mp c38
      have hb40 : In x32 (-2147483648) 2147483646 := In.lt1 hb33 (In.full x37) cc39 (by omega) (by omega)
      have hb41 : In x37 (-2147483647) 2147483647 := In.lt2 hb33 (In.full x37) cc39 (by omega) (by omega)
      refine lv_iconst (v := 0) hx hb dX11_hearsOffers_96 (by decide) ?_
      obtain ⟨rw42, hf43⟩ := hT.2.2 14 (by decide)
      refine pl_zastE hx hb hG.1 hP hD hS (hst.1 269 (by decide)) 3 hf43 rfl (In.inb hz1 (by decide) (by decide)) dX11_hearsOffers_97 (fun H locs f44 r47 er47 hf45 ho46 hP hD hS => ?_)
      have hf48 := (ho46 (ad 255) (hst.ne (by decide) (by decide) (by decide))).trans hf34
      have hf49 := (ho46 (ad 266) (hst.ne (by decide) (by decide) (by decide))).trans hf35
      have hf50 := (ho46 (ad 267) (hst.ne (by decide) (by decide) (by decide))).trans hf36
      have hfr : (∀ b, b ≠ (ad 266) → b ≠ (ad 267) → b ≠ (ad 269) → b ≠ (ad 261) → f44 b = f b) := fun b z0_ z1_ z2_ z3_ => (ho46 b z2_).trans (hfr b z0_ z1_ z2_ z3_)
      have hT := TI.updM hT hst (k := 14) (by decide) hf45 ho46 ⟨r47, rfl⟩
      exact ret_v hx hb hr hlocks hP hD hS (Nat.le_of_ble_eq_true rfl) (Nat.le_of_ble_eq_true rfl) (⟨rfl, hT, hfr⟩) dX11_hearsOffers_98
    ·
      refine lv_iconst (v := 1) hx hb dX11_hearsOffers_92 (by decide) ?_
      refine lv_goto (tgt := 97) hx hb dX11_hearsOffers_93 (by decide) ?_
      obtain ⟨rw51, hf52⟩ := hT.2.2 14 (by decide)
      refine pl_zastE hx hb hG.1 hP hD hS (hst.1 269 (by decide)) 3 hf52 rfl (In.inb hz1 (by decide) (by decide)) dX11_hearsOffers_97 (fun H locs f53 r56 er56 hf54 ho55 hP hD hS => ?_)
      have hf57 := (ho55 (ad 255) (hst.ne (by decide) (by decide) (by decide))).trans hf34
      have hf58 := (ho55 (ad 266) (hst.ne (by decide) (by decide) (by decide))).trans hf35
      have hf59 := (ho55 (ad 267) (hst.ne (by decide) (by decide) (by decide))).trans hf36
      have hfr : (∀ b, b ≠ (ad 266) → b ≠ (ad 267) → b ≠ (ad 269) → b ≠ (ad 261) → f53 b = f b) := fun b z0_ z1_ z2_ z3_ => (ho55 b z2_).trans (hfr b z0_ z1_ z2_ z3_)
      have hT := TI.updM hT hst (k := 14) (by decide) hf54 ho55 ⟨r56, rfl⟩
      exact ret_v hx hb hr hlocks hP hD hS (Nat.le_of_ble_eq_true rfl) (Nat.le_of_ble_eq_true rfl) (⟨rfl, hT, hfr⟩) dX11_hearsOffers_98
  refine lv_icmp_le (tgt := 74) hx hb dX11_hearsOffers_45 (by decide) (fun c60 => ?_) (fun c60 => ?_)
  ·
    exact hJ74 _ _ _ _ hP hD hS hT hfr hf26 hf27 hf23 (lv_sub hl [1, 2, 0] rfl)
  ·
    have cc61 : v16_1.toInt < x32.toInt := i32_nle c60
    have hb62 : In x32 (-2147483647) 2147483647 := In.gt1 hb33 (In.full v16_1) cc61 (by omega) (by omega)
    have hb63 : In v16_1 (-2147483648) 2147483646 := In.gt2 hb33 (In.full v16_1) cc61 (by omega) (by omega)
    refine lv_aload_n hx hb dX11_hearsOffers_48 rfl (lv_at hl 1 rfl) ?_
    refine pl_get (v := .ref (ad 261)) hx hb hts (fun w h => mT (inX11 w h)) hown hG.1 hP (hst.1 255 (by decide)) hf26 rfl 26 (by decide) (hts _ (mT wg_1362)) (fun _ h => h) rfl dX11_hearsOffers_49 ?_
    refine lv_iload_n hx hb dX11_hearsOffers_52 rfl (lv_at hl 2 rfl) ?_
    refine lv_aload_n hx hb dX11_hearsOffers_53 rfl (lv_at hl 1 rfl) ?_
    refine pl_get (v := .ref (ad 267)) hx hb hts (fun w h => mT (inX11 w h)) hown hG.1 hP (hst.1 255 (by decide)) hf26 rfl 32 (by decide) (hts _ (mT wg_1368)) (fun _ h => h) rfl dX11_hearsOffers_54 ?_
    refine lv_iload_n hx hb dX11_hearsOffers_57 rfl (lv_at hl 2 rfl) ?_
    have hin64 : vp_in z1 9 := In.inb hz1 (by decide) (by decide)
    refine pl_iald hx hb hG.1 hP (hst.1 267 (by decide)) 0 hf23 rfl hin64 dX11_hearsOffers_58 ?_
    refine lv_topi (fun x65 ex65 => ?_)
    obtain rfl : x31 = x65 := ex31.trans ex65.symm
    refine lv_aload_n hx hb dX11_hearsOffers_59 rfl (lv_at hl 1 rfl) ?_
    refine pl_get (v := .ref (ad 266)) hx hb hts (fun w h => mT (inX11 w h)) hown hG.1 hP (hst.1 255 (by decide)) hf26 rfl 31 (by decide) (hts _ (mT wg_1367)) (fun _ h => h) rfl dX11_hearsOffers_60 ?_
    refine lv_iload_n hx hb dX11_hearsOffers_63 rfl (lv_at hl 2 rfl) ?_
    have hin66 : vp_in z1 9 := In.inb hz1 (by decide) (by decide)
    refine pl_iald hx hb hG.1 hP (hst.1 266 (by decide)) 0 hf27 rfl hin66 dX11_hearsOffers_64 ?_
    refine lv_topi (fun x67 ex67 => ?_)
    obtain rfl : x29 = x67 := ex29.trans ex67.symm
    have hJ73 : ∀ (y73_s0 : Int32) (H : Heap) (locs : List Loc) (ls : Array Slot), In y73_s0 0 1 → va_P g.1 vwCl (va_pl L f22) H → va_D A (va_pl L f22) → va_S A s.heap H locs → lv_has ls 3 [(0, .ref (ad 255)), (1, .int z1), (2, .int x32)] → W p l e rm_X11_hearsOffers s m [.ref (ad 255), .int z1].toArray below meth c H locs 0 0 (MQ below (va_Qv (po_X11_hearsOffers g ad th L f z1) (PstB g A) A) [.ref (ad 255), .int z1].toArray s rm_X11_hearsOffers.cells rm_X11_hearsOffers.slots A) (F0 m 73 ls [.int y73_s0, .int z1, .ref (ad 261)]) := by
      intro y73_s0 H locs ls hy73_s0 hP hD hS hl
      obtain ⟨rw68, hf69⟩ := hT.2.2 6 (by decide)
      refine pl_iastE hx hb hG.1 hP hD hS (hst.1 261 (by decide)) 0 hf69 rfl (In.inb hz1 (by decide) (by decide)) dX11_hearsOffers_73 (fun H locs f70 r73 er73 hf71 ho72 hP hD hS => ?_)
      have hf74 := (ho72 (ad 255) (hst.ne (by decide) (by decide) (by decide))).trans hf26
      have hf75 := (ho72 (ad 266) (hst.ne (by decide) (by decide) (by decide))).trans hf27
      have hf76 := (ho72 (ad 267) (hst.ne (by decide) (by decide) (by decide))).trans hf23
      have hfr : (∀ b, b ≠ (ad 266) → b ≠ (ad 267) → b ≠ (ad 269) → b ≠ (ad 261) → f70 b = f b) := fun b z0_ z1_ z2_ z3_ => (ho72 b z3_).trans (hfr b z0_ z1_ z2_ z3_)
      have hT := TI.updM hT hst (k := 6) (by decide) hf71 ho72 ⟨r73, rfl⟩
      exact hJ74 _ _ _ _ hP hD hS hT hfr hf74 hf75 hf76 (lv_sub hl [0, 1, 2] rfl)
    refine lv_icmp_le (tgt := 72) hx hb dX11_hearsOffers_65 (by decide) (fun c77 => ?_) (fun c77 => ?_)
    ·
      refine lv_iconst (v := 0) hx hb dX11_hearsOffers_72 (by decide) ?_
      exact hJ73 0 _ _ _ (⟨by decide, by decide⟩ : In 0 0 1) hP hD hS (lv_sub hl [1, 2, 0] rfl)
    ·
      have cc78 : x29.toInt < x31.toInt := i32_nle c77
      have hb79 : In x31 (-2147483647) 2147483647 := In.gt1 (In.full x31) (In.full x29) cc78 (by omega) (by omega)
      have hb80 : In x29 (-2147483648) 2147483646 := In.gt2 (In.full x31) (In.full x29) cc78 (by omega) (by omega)
      refine lv_iconst (v := 1) hx hb dX11_hearsOffers_68 (by decide) ?_
      refine lv_goto (tgt := 73) hx hb dX11_hearsOffers_69 (by decide) ?_
      exact hJ73 1 _ _ _ (⟨by decide, by decide⟩ : In 1 0 1) hP hD hS (lv_sub hl [1, 2, 0] rfl)

abbrev rm_X11_hearsRuler : Room := { frames := 1, cells := 0, slots := 0, locals := 21 }
abbrev po_X11_hearsRuler (g : GG) (ad : Nat → Nat) (th : Nat → Int) (L : List Nat) (f : HP) (z1 : Int32) (z2 : Int32) : (List Nat × HP) → Prop := fun u => u.1 = L ∧ TI g ad th u.2 ∧ (∀ b, b ≠ (ad 270) → b ≠ (ad 261) → b ≠ (ad 262) → u.2 b = f b)
set_option maxHeartbeats 4000000 in
set_option maxRecDepth 100000 in
theorem s_X11_hearsRuler (l : Launch) (g : GG) (ad : Nat → Nat) (th : Nat → Int) (L : List Nat) (f : HP) (sz : Nat) (z1 : Int32) (z2 : Int32) (hst : ST ad L) (hT : TI g ad th f) (hz1 : In z1 0 8) (hz2 : In z2 0 8) : MtV l g yX11_hearsRuler cX11_hearsRuler 4 rm_X11_hearsRuler [.ref (ad 255), .int z1, .int z2] L f sz (po_X11_hearsRuler g ad th L f z1 z2) := by
  refine MtV.of (by decide +kernel) (Nat.le_of_ble_eq_true rfl) ?_
  intro p e s m below meth c A hEn hP hD hS ls hl
  obtain ⟨hx, hb, hr, hml, hown, hlocks, hts, hG, hA, hE, hnm⟩ := hEn
  have hown : s.vm.findClass "RulerWordModel" = some m.cls := hown
  have hl : lv_has ls 4 [(0, .ref (ad 255)), (1, .int z1), (2, .int z2)] := hl
  have hfr : (∀ b, b ≠ (ad 270) → b ≠ (ad 261) → b ≠ (ad 262) → f b = f b) := fun b z0_ z1_ z2_ => rfl
  refine lv_aload_n hx hb dX11_hearsRuler_0 rfl (lv_at hl 0 rfl) ?_
  refine M0e hT (fun v0_1 v2_1 v3_1 v4_1 v5_1 v6_1 v8_1 v9_1 v12_1 v13_1 v14_1 v15_1 v16_1 v17_1 v18_1 v19_1 v20_1 v21_1 v22_1 v23_1 v25_1 v36_1 v37_1 v38_1 v39_1 v40_1 v45_1 v46_1 v47_1 v48_1 v50_1 v51_1 v53_1 v55_1 hf2 hv0_1 hv2_1 hg2_1 hv3_1 hg3_1 hv4_1 hg4_1 hv5_1 hg5_1 hv6_1 hg6_1 hv8_1 hg8_1 hv9_1 hg9_1 hv12_1 hv13_1 hg13_1 hv14_1 hg14_1 hv15_1 hg15_1 hv17_1 hg17_1 hv20_1 hg20_1 hv23_1 hg23_1 hv25_1 hg25_1 hv36_1 hg36_1 hv47_1 hg47_1 hv48_1 hg48_1 hv53_1 hg53_1 hv55_1 hg55_1 hrel0_1 => ?_)
  have hg15_1 : v15_1.toInt = th 11 := hg15_1
  have hg17_1 : v17_1.toInt = th 12 := hg17_1
  have hg20_1 : v20_1.toInt = th 14 := hg20_1
  refine pl_get (v := .ref (ad 268)) hx hb hts (fun w h => mT (inX11 w h)) hown hG.1 hP (hst.1 255 (by decide)) hf2 rfl 33 (by decide) (hts _ (mT wg_1369)) (fun _ h => h) rfl dX11_hearsRuler_1 ?_
  refine lv_bipush (v := 9) hx hb dX11_hearsRuler_4 (by decide) ?_
  refine lv_iload_n hx hb dX11_hearsRuler_6 rfl (lv_at hl 2 rfl) ?_
  refine lv_imul hx hb dX11_hearsRuler_7 ?_
  refine lv_topi (fun x3 ex3 => ?_)
  have hb4 : In x3 0 72 := ex3 ▸ In.mul (⟨by decide, by decide⟩ : In 9 9 9) hz2 (by decide) (by decide) (by decide) (by decide) (by decide)
  refine lv_iload_n hx hb dX11_hearsRuler_8 rfl (lv_at hl 1 rfl) ?_
  refine lv_iadd hx hb dX11_hearsRuler_9 ?_
  refine lv_topi (fun x5 ex5 => ?_)
  have hb6 : In x5 0 80 := ex5 ▸ In.add hb4 hz1 (by decide) (by decide) (by decide) (by decide)
  have et7 : x5.toInt = x3.toInt + z1.toInt := In.add2e ex5 hb4 hz1 (by decide) (by decide)
  obtain ⟨rw8, hf9⟩ := hT.2.2 13 (by decide)
  have hin10 : vp_in x5 81 := In.inb hb6 (by decide) (by decide)
  refine pl_iald hx hb hG.1 hP (hst.1 268 (by decide)) 0 hf9 rfl hin10 dX11_hearsRuler_10 ?_
  refine lv_topi (fun x11 ex11 => ?_)
  refine lv_istore_n (lv' := [(3, .int x11), (0, .ref (ad 255)), (1, .int z1), (2, .int z2)]) hx hb dX11_hearsRuler_11 rfl hl (by decide) rfl (fun ls hl => ?_)
  refine lv_aload_n hx hb dX11_hearsRuler_12 rfl (lv_at hl 1 rfl) ?_
  refine pl_get (v := .ref (ad 269)) hx hb hts (fun w h => mT (inX11 w h)) hown hG.1 hP (hst.1 255 (by decide)) hf2 rfl 34 (by decide) (hts _ (mT wg_1370)) (fun _ h => h) rfl dX11_hearsRuler_13 ?_
  refine lv_iload_n hx hb dX11_hearsRuler_16 rfl (lv_at hl 2 rfl) ?_
  obtain ⟨rw12, hf13⟩ := hT.2.2 14 (by decide)
  have hin14 : vp_in z1 9 := In.inb hz1 (by decide) (by decide)
  refine pl_zald hx hb hG.1 hP (hst.1 269 (by decide)) 3 hf13 rfl hin14 dX11_hearsRuler_17 ?_
  refine lv_topi (fun x15 ex15 => ?_)
  refine lv_if_eq (tgt := 76) hx hb dX11_hearsRuler_18 (by decide) (fun c16 => ?_) (fun c16 => ?_)
  ·
    have cc17 : x15.toInt = (0 : Int32).toInt := congrArg Int32.toInt c16
    have hb18 : In x15 0 0 := In.eq1 (In.full x15) (⟨by decide, by decide⟩ : In 0 0 0) cc17 (by omega) (by omega)
    refine lv_aload_n hx hb dX11_hearsRuler_76 rfl (lv_at hl 1 rfl) ?_
    refine pl_get (v := .ref (ad 270)) hx hb hts (fun w h => mT (inX11 w h)) hown hG.1 hP (hst.1 255 (by decide)) hf2 rfl 35 (by decide) (hts _ (mT wg_1371)) (fun _ h => h) rfl dX11_hearsRuler_77 ?_
    refine lv_iload_n hx hb dX11_hearsRuler_80 rfl (lv_at hl 2 rfl) ?_
    refine lv_aload_n hx hb dX11_hearsRuler_81 rfl (lv_at hl 1 rfl) ?_
    refine pl_get (v := .int v18_1) hx hb hts (fun w h => mT (inX11 w h)) hown hG.1 hP (hst.1 255 (by decide)) hf2 rfl 18 (by decide) (hts _ (mT wg_1354)) (fun _ h => h) rfl dX11_hearsRuler_82 ?_
    have hJ106 : ∀ (y106_s0 : Int32) (H : Heap) (locs : List Loc) (ls : Array Slot), In y106_s0 0 1 → va_P g.1 vwCl (va_pl L f) H → va_D A (va_pl L f) → va_S A s.heap H locs → lv_has ls 4 [(0, .ref (ad 255)), (1, .int z1), (2, .int z2), (3, .int x11)] → W p l e rm_X11_hearsRuler s m [.ref (ad 255), .int z1, .int z2].toArray below meth c H locs 0 0 (MQ below (va_Qv (po_X11_hearsRuler g ad th L f z1 z2) (PstB g A) A) [.ref (ad 255), .int z1, .int z2].toArray s rm_X11_hearsRuler.cells rm_X11_hearsRuler.slots A) (F0 m 106 ls [.int y106_s0, .int z1, .ref (ad 270)]) := by
      intro y106_s0 H locs ls hy106_s0 hP hD hS hl
      obtain ⟨rw19, hf20⟩ := hT.2.2 15 (by decide)
      refine pl_zastE hx hb hG.1 hP hD hS (hst.1 270 (by decide)) 3 hf20 rfl (In.inb hz1 (by decide) (by decide)) dX11_hearsRuler_106 (fun H locs f21 r24 er24 hf22 ho23 hP hD hS => ?_)
      have hf25 := (ho23 (ad 255) (hst.ne (by decide) (by decide) (by decide))).trans hf2
      have hf26 := (ho23 (ad 268) (hst.ne (by decide) (by decide) (by decide))).trans hf9
      have hf27 := (ho23 (ad 269) (hst.ne (by decide) (by decide) (by decide))).trans hf13
      have hfr : (∀ b, b ≠ (ad 270) → b ≠ (ad 261) → b ≠ (ad 262) → f21 b = f b) := fun b z0_ z1_ z2_ => (ho23 b z0_).trans (hfr b z0_ z1_ z2_)
      refine lv_aload_n hx hb dX11_hearsRuler_107 rfl (lv_at hl 0 rfl) ?_
      refine pl_get (v := .ref (ad 270)) hx hb hts (fun w h => mT (inX11 w h)) hown hG.1 hP (hst.1 255 (by decide)) hf25 rfl 35 (by decide) (hts _ (mT wg_1371)) (fun _ h => h) rfl dX11_hearsRuler_108 ?_
      refine lv_iload_n hx hb dX11_hearsRuler_111 rfl (lv_at hl 1 rfl) ?_
      have hin28 : vp_in z1 9 := In.inb hz1 (by decide) (by decide)
      refine pl_zald hx hb hG.1 hP (hst.1 270 (by decide)) 3 hf22 rfl hin28 dX11_hearsRuler_112 ?_
      refine lv_topi (fun x29 ex29 => ?_)
      have hT := TI.updM hT hst (k := 15) (by decide) hf22 ho23 ⟨r24, rfl⟩
      refine lv_if_eq (tgt := 135) hx hb dX11_hearsRuler_113 (by decide) (fun c30 => ?_) (fun c30 => ?_)
      ·
        have cc31 : x29.toInt = (0 : Int32).toInt := congrArg Int32.toInt c30
        have hb32 : In x29 0 0 := In.eq1 (In.full x29) (⟨by decide, by decide⟩ : In 0 0 0) cc31 (by omega) (by omega)
        refine lv_aload_n hx hb dX11_hearsRuler_135 rfl (lv_at hl 0 rfl) ?_
        refine pl_get (v := .int v14_1) hx hb hts (fun w h => mT (inX11 w h)) hown hG.1 hP (hst.1 255 (by decide)) hf25 rfl 14 (by decide) (hts _ (mT wg_1350)) (fun _ h => h) rfl dX11_hearsRuler_136 ?_
        have hg14_1 : v14_1.toInt = th 10 := hg14_1
        refine lv_iconst (v := 1) hx hb dX11_hearsRuler_139 (by decide) ?_
        refine lv_icmp_ne (tgt := 155) hx hb dX11_hearsRuler_140 (by decide) (fun c33 => ?_) (fun c33 => ?_)
        ·
          have cc34 : v14_1.toInt ≠ (1 : Int32).toInt := i32_ne c33
          have hb35 : In v14_1 0 0 := In.ne1 hv14_1 (⟨by decide, by decide⟩ : In 1 1 1) cc34 (by omega) (by omega)
          exact ret_v hx hb hr hlocks hP hD hS (Nat.le_of_ble_eq_true rfl) (Nat.le_of_ble_eq_true rfl) (⟨rfl, hT, hfr⟩) dX11_hearsRuler_155
        ·
          have cc36 : v14_1.toInt = (1 : Int32).toInt := congrArg Int32.toInt c33
          have hb37 : In v14_1 1 1 := In.eq1 hv14_1 (⟨by decide, by decide⟩ : In 1 1 1) cc36 (by omega) (by omega)
          refine lv_aload_n hx hb dX11_hearsRuler_143 rfl (lv_at hl 0 rfl) ?_
          refine pl_get (v := .ref (ad 261)) hx hb hts (fun w h => mT (inX11 w h)) hown hG.1 hP (hst.1 255 (by decide)) hf25 rfl 26 (by decide) (hts _ (mT wg_1362)) (fun _ h => h) rfl dX11_hearsRuler_144 ?_
          refine lv_iload_n hx hb dX11_hearsRuler_147 rfl (lv_at hl 1 rfl) ?_
          refine lv_aload_n hx hb dX11_hearsRuler_148 rfl (lv_at hl 0 rfl) ?_
          refine pl_get (v := .ref (ad 263)) hx hb hts (fun w h => mT (inX11 w h)) hown hG.1 hP (hst.1 255 (by decide)) hf25 rfl 28 (by decide) (hts _ (mT wg_1364)) (fun _ h => h) rfl dX11_hearsRuler_149 ?_
          refine lv_iload_n hx hb dX11_hearsRuler_152 rfl (lv_at hl 1 rfl) ?_
          obtain ⟨rw38, hf39⟩ := hT.2.2 8 (by decide)
          have hin40 : vp_in z1 9 := In.inb hz1 (by decide) (by decide)
          refine pl_iald hx hb hG.1 hP (hst.1 263 (by decide)) 0 hf39 rfl hin40 dX11_hearsRuler_153 ?_
          refine lv_topi (fun x41 ex41 => ?_)
          obtain ⟨rw42, hf43⟩ := hT.2.2 6 (by decide)
          refine pl_iastE hx hb hG.1 hP hD hS (hst.1 261 (by decide)) 0 hf43 rfl (In.inb hz1 (by decide) (by decide)) dX11_hearsRuler_154 (fun H locs f44 r47 er47 hf45 ho46 hP hD hS => ?_)
          have hf48 := (ho46 (ad 255) (hst.ne (by decide) (by decide) (by decide))).trans hf25
          have hf49 := (ho46 (ad 268) (hst.ne (by decide) (by decide) (by decide))).trans hf26
          have hf50 := (ho46 (ad 269) (hst.ne (by decide) (by decide) (by decide))).trans hf27
          have hf51 := (ho46 (ad 270) (hst.ne (by decide) (by decide) (by decide))).trans hf22
          have hf52 := (ho46 (ad 263) (hst.ne (by decide) (by decide) (by decide))).trans hf39
          have hfr : (∀ b, b ≠ (ad 270) → b ≠ (ad 261) → b ≠ (ad 262) → f44 b = f b) := fun b z0_ z1_ z2_ => (ho46 b z1_).trans (hfr b z0_ z1_ z2_)
          have hT := TI.updM hT hst (k := 6) (by decide) hf45 ho46 ⟨r47, rfl⟩
          exact ret_v hx hb hr hlocks hP hD hS (Nat.le_of_ble_eq_true rfl) (Nat.le_of_ble_eq_true rfl) (⟨rfl, hT, hfr⟩) dX11_hearsRuler_155
      ·
        refine lv_aload_n hx hb dX11_hearsRuler_116 rfl (lv_at hl 0 rfl) ?_
        refine pl_get (v := .ref (ad 261)) hx hb hts (fun w h => mT (inX11 w h)) hown hG.1 hP (hst.1 255 (by decide)) hf25 rfl 26 (by decide) (hts _ (mT wg_1362)) (fun _ h => h) rfl dX11_hearsRuler_117 ?_
        refine lv_iload_n hx hb dX11_hearsRuler_120 rfl (lv_at hl 1 rfl) ?_
        refine lv_iload_n hx hb dX11_hearsRuler_121 rfl (lv_at hl 3 rfl) ?_
        refine lv_iconst (v := 2) hx hb dX11_hearsRuler_122 (by decide) ?_
        have hJ131 : ∀ (y131_s0 : Int32) (H : Heap) (locs : List Loc) (ls : Array Slot), In y131_s0 (-2147483648) 2147483647 → va_P g.1 vwCl (va_pl L f21) H → va_D A (va_pl L f21) → va_S A s.heap H locs → lv_has ls 4 [(0, .ref (ad 255)), (1, .int z1), (2, .int z2), (3, .int x11)] → W p l e rm_X11_hearsRuler s m [.ref (ad 255), .int z1, .int z2].toArray below meth c H locs 0 0 (MQ below (va_Qv (po_X11_hearsRuler g ad th L f z1 z2) (PstB g A) A) [.ref (ad 255), .int z1, .int z2].toArray s rm_X11_hearsRuler.cells rm_X11_hearsRuler.slots A) (F0 m 131 ls [.int y131_s0, .int z1, .ref (ad 261)]) := by
          intro y131_s0 H locs ls hy131_s0 hP hD hS hl
          obtain ⟨rw53, hf54⟩ := hT.2.2 6 (by decide)
          refine pl_iastE hx hb hG.1 hP hD hS (hst.1 261 (by decide)) 0 hf54 rfl (In.inb hz1 (by decide) (by decide)) dX11_hearsRuler_131 (fun H locs f55 r58 er58 hf56 ho57 hP hD hS => ?_)
          have hf59 := (ho57 (ad 255) (hst.ne (by decide) (by decide) (by decide))).trans hf25
          have hf60 := (ho57 (ad 268) (hst.ne (by decide) (by decide) (by decide))).trans hf26
          have hf61 := (ho57 (ad 269) (hst.ne (by decide) (by decide) (by decide))).trans hf27
          have hf62 := (ho57 (ad 270) (hst.ne (by decide) (by decide) (by decide))).trans hf22
          have hfr : (∀ b, b ≠ (ad 270) → b ≠ (ad 261) → b ≠ (ad 262) → f55 b = f b) := fun b z0_ z1_ z2_ => (ho57 b z1_).trans (hfr b z0_ z1_ z2_)
          have hT := TI.updM hT hst (k := 6) (by decide) hf56 ho57 ⟨r58, rfl⟩
          refine lv_goto (tgt := 155) hx hb dX11_hearsRuler_132 (by decide) ?_
          exact ret_v hx hb hr hlocks hP hD hS (Nat.le_of_ble_eq_true rfl) (Nat.le_of_ble_eq_true rfl) (⟨rfl, hT, hfr⟩) dX11_hearsRuler_155
        refine lv_icmp_ne (tgt := 130) hx hb dX11_hearsRuler_123 (by decide) (fun c63 => ?_) (fun c63 => ?_)
        ·
          refine lv_iload_n hx hb dX11_hearsRuler_130 rfl (lv_at hl 3 rfl) ?_
          exact hJ131 x11 _ _ _ (In.full x11) hP hD hS (lv_sub hl [0, 1, 2, 3] rfl)
        ·
          have cc64 : x11.toInt = (2 : Int32).toInt := congrArg Int32.toInt c63
          have hb65 : In x11 2 2 := In.eq1 (In.full x11) (⟨by decide, by decide⟩ : In 2 2 2) cc64 (by omega) (by omega)
          refine lv_iconst (v := 0) hx hb dX11_hearsRuler_126 (by decide) ?_
          refine lv_goto (tgt := 131) hx hb dX11_hearsRuler_127 (by decide) ?_
          exact hJ131 0 _ _ _ (⟨by decide, by decide⟩ : In 0 (-2147483648) 2147483647) hP hD hS (lv_sub hl [0, 1, 2, 3] rfl)
    have hJ101 : ∀ (H : Heap) (locs : List Loc) (ls : Array Slot), va_P g.1 vwCl (va_pl L f) H → va_D A (va_pl L f) → va_S A s.heap H locs → lv_has ls 4 [(0, .ref (ad 255)), (1, .int z1), (2, .int z2), (3, .int x11)] → W p l e rm_X11_hearsRuler s m [.ref (ad 255), .int z1, .int z2].toArray below meth c H locs 0 0 (MQ below (va_Qv (po_X11_hearsRuler g ad th L f z1 z2) (PstB g A) A) [.ref (ad 255), .int z1, .int z2].toArray s rm_X11_hearsRuler.cells rm_X11_hearsRuler.slots A) (F0 m 101 ls [.int z1, .ref (ad 270)]) := by
      intro H locs ls hP hD hS hl
      refine lv_iconst (v := 1) hx hb dX11_hearsRuler_101 (by decide) ?_
      refine lv_goto (tgt := 106) hx hb dX11_hearsRuler_102 (by decide) ?_
      exact hJ106 1 _ _ _ (⟨by decide, by decide⟩ : In 1 0 1) hP hD hS (lv_sub hl [0, 1, 2, 3] rfl)
    refine lv_if_eq (tgt := 101) hx hb dX11_hearsRuler_85 (by decide) (fun c66 => ?_) (fun c66 => ?_)
    ·
      have cc67 : v18_1.toInt = (0 : Int32).toInt := congrArg Int32.toInt c66
      have hb68 : In v18_1 0 0 := In.eq1 (In.full v18_1) (⟨by decide, by decide⟩ : In 0 0 0) cc67 (by omega) (by omega)
      exact hJ101 _ _ _ hP hD hS (lv_sub hl [1, 2, 3, 0] rfl)
    ·
      refine lv_aload_n hx hb dX11_hearsRuler_88 rfl (lv_at hl 1 rfl) ?_
      refine pl_get (v := .ref (ad 262)) hx hb hts (fun w h => mT (inX11 w h)) hown hG.1 hP (hst.1 255 (by decide)) hf2 rfl 27 (by decide) (hts _ (mT wg_1363)) (fun _ h => h) rfl dX11_hearsRuler_89 ?_
      refine lv_iload_n hx hb dX11_hearsRuler_92 rfl (lv_at hl 2 rfl) ?_
      obtain ⟨rw69, hf70⟩ := hT.2.2 7 (by decide)
      have hin71 : vp_in z1 9 := In.inb hz1 (by decide) (by decide)
      refine pl_iald hx hb hG.1 hP (hst.1 262 (by decide)) 0 hf70 rfl hin71 dX11_hearsRuler_93 ?_
      refine lv_topi (fun x72 ex72 => ?_)
      refine lv_iload_n hx hb dX11_hearsRuler_94 rfl (lv_at hl 3 rfl) ?_
      refine call_i (run_S (rm := rm_X11_has) hx hb hml hown hts (s_X11_has l g ad th _ _ _ x72 z2 hst hT ) cS_X11_has wg_1563 ⟨Nat.le_of_ble_eq_true rfl, Nat.le_of_ble_eq_true rfl⟩ hG hE hA hP hD hS rfl hl.1 (As := [.int x72, .int z2]) (rest := [.int z1, .ref (ad 270)]) rfl (Nat.le_of_ble_eq_true rfl) dX11_hearsRuler_95 ⟨Nat.le_of_ble_eq_true rfl, Nat.le_of_ble_eq_true rfl⟩) hA hD hS (fun r73 L74 f75 H locs hp76 hP hD hS => ?_)
      obtain ⟨eL77L, eL77T, eL77R, eL77X0⟩ := hp76
      have eL77L : L74 = L := eL77L
      have eL77T : f75 = f := eL77T
      rw [eL77L, eL77T] at hP hD
      have eL77R : In r73 0 1 := eL77R
      refine lv_if_ne (tgt := 105) hx hb dX11_hearsRuler_98 (by decide) (fun c78 => ?_) (fun c78 => ?_)
      ·
        have cc79 : r73.toInt ≠ (0 : Int32).toInt := i32_ne c78
        have hb80 : In r73 1 1 := In.ne1 eL77R (⟨by decide, by decide⟩ : In 0 0 0) cc79 (by omega) (by omega)
        refine lv_iconst (v := 0) hx hb dX11_hearsRuler_105 (by decide) ?_
        exact hJ106 0 _ _ _ (⟨by decide, by decide⟩ : In 0 0 1) hP hD hS (lv_sub hl [1, 2, 3, 0] rfl)
      ·
        have cc81 : r73.toInt = (0 : Int32).toInt := congrArg Int32.toInt c78
        have hb82 : In r73 0 0 := In.eq1 eL77R (⟨by decide, by decide⟩ : In 0 0 0) cc81 (by omega) (by omega)
        exact hJ101 _ _ _ hP hD hS (lv_sub hl [1, 2, 3, 0] rfl)
  ·
    refine lv_aload_n hx hb dX11_hearsRuler_21 rfl (lv_at hl 1 rfl) ?_
    refine pl_get (v := .int v14_1) hx hb hts (fun w h => mT (inX11 w h)) hown hG.1 hP (hst.1 255 (by decide)) hf2 rfl 14 (by decide) (hts _ (mT wg_1350)) (fun _ h => h) rfl dX11_hearsRuler_22 ?_
    have hg14_1 : v14_1.toInt = th 10 := hg14_1
    refine lv_iconst (v := 1) hx hb dX11_hearsRuler_25 (by decide) ?_
    have hJ41 : ∀ (f_41 : HP) (H : Heap) (locs : List Loc) (ls : Array Slot), va_P g.1 vwCl (va_pl L f_41) H → va_D A (va_pl L f_41) → va_S A s.heap H locs → TI g ad th f_41 → (∀ b, b ≠ (ad 270) → b ≠ (ad 261) → b ≠ (ad 262) → f_41 b = f b) → f_41 (ad 255) = .inr (10, [.int v0_1, .ref (ad 256), .int v2_1, .int v3_1, .int v4_1, .int v5_1, .int v6_1, .ref (ad 257), .int v8_1, .int v9_1, .ref (ad 258), .ref (ad 259), .int v12_1, .int v13_1, .int v14_1, .int v15_1, .int v16_1, .int v17_1, .int v18_1, .int v19_1, .int v20_1, .long v21_1, .long v22_1, .int v23_1, .ref (ad 260), .int v25_1, .ref (ad 261), .ref (ad 262), .ref (ad 263), .ref (ad 264), .ref (ad 265), .ref (ad 266), .ref (ad 267), .ref (ad 268), .ref (ad 269), .ref (ad 270), .int v36_1, .int v37_1, .int v38_1, .int v39_1, .int v40_1, .ref (ad 271), .ref (ad 272), .ref (ad 273), .ref (ad 274), .long v45_1, .long v46_1, .int v47_1, .int v48_1, .ref (ad 275), .int v50_1, .int v51_1, .ref (ad 276), .int v53_1, .ref (ad 277), .int v55_1]) → f_41 (ad 268) = .inl (g.2.1 0, 81, .inl (rw8)) → f_41 (ad 269) = .inl (g.2.1 3, 9, .inl (rw12)) → lv_has ls 4 [(0, .ref (ad 255)), (1, .int z1), (2, .int z2), (3, .int x11)] → W p l e rm_X11_hearsRuler s m [.ref (ad 255), .int z1, .int z2].toArray below meth c H locs 0 0 (MQ below (va_Qv (po_X11_hearsRuler g ad th L f z1 z2) (PstB g A) A) [.ref (ad 255), .int z1, .int z2].toArray s rm_X11_hearsRuler.cells rm_X11_hearsRuler.slots A) (F0 m 41 ls []) := by
      intro f_41 H locs ls hP hD hS hT hfr hf83 hf84 hf85 hl
      refine lv_aload_n hx hb dX11_hearsRuler_41 rfl (lv_at hl 0 rfl) ?_
      refine pl_get (v := .ref (ad 270)) hx hb hts (fun w h => mT (inX11 w h)) hown hG.1 hP (hst.1 255 (by decide)) hf83 rfl 35 (by decide) (hts _ (mT wg_1371)) (fun _ h => h) rfl dX11_hearsRuler_42 ?_
      refine lv_iload_n hx hb dX11_hearsRuler_45 rfl (lv_at hl 1 rfl) ?_
      refine lv_iconst (v := 0) hx hb dX11_hearsRuler_46 (by decide) ?_
      obtain ⟨rw86, hf87⟩ := hT.2.2 15 (by decide)
      refine pl_zastE hx hb hG.1 hP hD hS (hst.1 270 (by decide)) 3 hf87 rfl (In.inb hz1 (by decide) (by decide)) dX11_hearsRuler_47 (fun H locs f88 r91 er91 hf89 ho90 hP hD hS => ?_)
      have hf92 := (ho90 (ad 255) (hst.ne (by decide) (by decide) (by decide))).trans hf83
      have hf93 := (ho90 (ad 268) (hst.ne (by decide) (by decide) (by decide))).trans hf84
      have hf94 := (ho90 (ad 269) (hst.ne (by decide) (by decide) (by decide))).trans hf85
      have hfr : (∀ b, b ≠ (ad 270) → b ≠ (ad 261) → b ≠ (ad 262) → f88 b = f b) := fun b z0_ z1_ z2_ => (ho90 b z0_).trans (hfr b z0_ z1_ z2_)
      refine lv_iload_n hx hb dX11_hearsRuler_48 rfl (lv_at hl 3 rfl) ?_
      refine lv_aload_n hx hb dX11_hearsRuler_49 rfl (lv_at hl 0 rfl) ?_
      refine pl_get (v := .ref (ad 261)) hx hb hts (fun w h => mT (inX11 w h)) hown hG.1 hP (hst.1 255 (by decide)) hf92 rfl 26 (by decide) (hts _ (mT wg_1362)) (fun _ h => h) rfl dX11_hearsRuler_50 ?_
      refine lv_iload_n hx hb dX11_hearsRuler_53 rfl (lv_at hl 1 rfl) ?_
      have hT := TI.updM hT hst (k := 15) (by decide) hf89 ho90 ⟨r91, rfl⟩
      obtain ⟨rw95, hf96⟩ := hT.2.2 6 (by decide)
      have hin97 : vp_in z1 9 := In.inb hz1 (by decide) (by decide)
      refine pl_iald hx hb hG.1 hP (hst.1 261 (by decide)) 0 hf96 rfl hin97 dX11_hearsRuler_54 ?_
      refine lv_topi (fun x98 ex98 => ?_)
      refine lv_icmp_eq (tgt := 75) hx hb dX11_hearsRuler_55 (by decide) (fun c99 => ?_) (fun c99 => ?_)
      ·
        exact ret_v hx hb hr hlocks hP hD hS (Nat.le_of_ble_eq_true rfl) (Nat.le_of_ble_eq_true rfl) (⟨rfl, hT, hfr⟩) dX11_hearsRuler_75
      ·
        refine lv_iload_n hx hb dX11_hearsRuler_58 rfl (lv_at hl 1 rfl) ?_
        refine lv_iload_n hx hb dX11_hearsRuler_59 rfl (lv_at hl 2 rfl) ?_
        refine lv_icmp_eq (tgt := 75) hx hb dX11_hearsRuler_60 (by decide) (fun c100 => ?_) (fun c100 => ?_)
        ·
          exact ret_v hx hb hr hlocks hP hD hS (Nat.le_of_ble_eq_true rfl) (Nat.le_of_ble_eq_true rfl) (⟨rfl, hT, hfr⟩) dX11_hearsRuler_75
        ·
          refine lv_aload_n hx hb dX11_hearsRuler_63 rfl (lv_at hl 0 rfl) ?_
          refine pl_get (v := .ref (ad 262)) hx hb hts (fun w h => mT (inX11 w h)) hown hG.1 hP (hst.1 255 (by decide)) hf92 rfl 27 (by decide) (hts _ (mT wg_1363)) (fun _ h => h) rfl dX11_hearsRuler_64 ?_
          refine lv_iload_n hx hb dX11_hearsRuler_67 rfl (lv_at hl 1 rfl) ?_
          refine lv_dup2_11 hx hb dX11_hearsRuler_68 rfl rfl ?_
          obtain ⟨rw101, hf102⟩ := hT.2.2 7 (by decide)
          have hin103 : vp_in z1 9 := In.inb hz1 (by decide) (by decide)
          refine pl_iald hx hb hG.1 hP (hst.1 262 (by decide)) 0 hf102 rfl hin103 dX11_hearsRuler_69 ?_
          refine lv_topi (fun x104 ex104 => ?_)
          refine lv_iconst (v := 1) hx hb dX11_hearsRuler_70 (by decide) ?_
          refine lv_iload_n hx hb dX11_hearsRuler_71 rfl (lv_at hl 2 rfl) ?_
          refine lv_ishl hx hb dX11_hearsRuler_72 ?_
          refine lv_topi (fun x105 ex105 => ?_)
          have hb106 : In x105 1 256 := ex105 ▸ In.shl (⟨by decide, by decide⟩ : In 1 1 1) hz2 (by decide) (by decide) (by decide) (by decide) (by decide) (by decide)
          refine lv_ior hx hb dX11_hearsRuler_73 ?_
          refine lv_topi (fun x107 ex107 => ?_)
          refine pl_iastE hx hb hG.1 hP hD hS (hst.1 262 (by decide)) 0 hf102 rfl (In.inb hz1 (by decide) (by decide)) dX11_hearsRuler_74 (fun H locs f108 r111 er111 hf109 ho110 hP hD hS => ?_)
          have hf112 := (ho110 (ad 255) (hst.ne (by decide) (by decide) (by decide))).trans hf92
          have hf113 := (ho110 (ad 268) (hst.ne (by decide) (by decide) (by decide))).trans hf93
          have hf114 := (ho110 (ad 269) (hst.ne (by decide) (by decide) (by decide))).trans hf94
          have hf115 := (ho110 (ad 270) (hst.ne (by decide) (by decide) (by decide))).trans hf89
          have hf116 := (ho110 (ad 261) (hst.ne (by decide) (by decide) (by decide))).trans hf96
          have hfr : (∀ b, b ≠ (ad 270) → b ≠ (ad 261) → b ≠ (ad 262) → f108 b = f b) := fun b z0_ z1_ z2_ => (ho110 b z2_).trans (hfr b z0_ z1_ z2_)
          have hT := TI.updM hT hst (k := 7) (by decide) hf109 ho110 ⟨r111, rfl⟩
          exact ret_v hx hb hr hlocks hP hD hS (Nat.le_of_ble_eq_true rfl) (Nat.le_of_ble_eq_true rfl) (⟨rfl, hT, hfr⟩) dX11_hearsRuler_75
    refine lv_icmp_ne (tgt := 41) hx hb dX11_hearsRuler_26 (by decide) (fun c117 => ?_) (fun c117 => ?_)
    ·
      have cc118 : v14_1.toInt ≠ (1 : Int32).toInt := i32_ne c117
      have hb119 : In v14_1 0 0 := In.ne1 hv14_1 (⟨by decide, by decide⟩ : In 1 1 1) cc118 (by omega) (by omega)
      exact hJ41 _ _ _ _ hP hD hS hT hfr hf2 hf9 hf13 (lv_sub hl [1, 2, 3, 0] rfl)
    ·
      have cc120 : v14_1.toInt = (1 : Int32).toInt := congrArg Int32.toInt c117
      have hb121 : In v14_1 1 1 := In.eq1 hv14_1 (⟨by decide, by decide⟩ : In 1 1 1) cc120 (by omega) (by omega)
      refine lv_aload_n hx hb dX11_hearsRuler_29 rfl (lv_at hl 1 rfl) ?_
      refine pl_get (v := .ref (ad 261)) hx hb hts (fun w h => mT (inX11 w h)) hown hG.1 hP (hst.1 255 (by decide)) hf2 rfl 26 (by decide) (hts _ (mT wg_1362)) (fun _ h => h) rfl dX11_hearsRuler_30 ?_
      refine lv_iload_n hx hb dX11_hearsRuler_33 rfl (lv_at hl 2 rfl) ?_
      refine lv_aload_n hx hb dX11_hearsRuler_34 rfl (lv_at hl 1 rfl) ?_
      refine pl_get (v := .ref (ad 263)) hx hb hts (fun w h => mT (inX11 w h)) hown hG.1 hP (hst.1 255 (by decide)) hf2 rfl 28 (by decide) (hts _ (mT wg_1364)) (fun _ h => h) rfl dX11_hearsRuler_35 ?_
      refine lv_iload_n hx hb dX11_hearsRuler_38 rfl (lv_at hl 2 rfl) ?_
      obtain ⟨rw122, hf123⟩ := hT.2.2 8 (by decide)
      have hin124 : vp_in z1 9 := In.inb hz1 (by decide) (by decide)
      refine pl_iald hx hb hG.1 hP (hst.1 263 (by decide)) 0 hf123 rfl hin124 dX11_hearsRuler_39 ?_
      refine lv_topi (fun x125 ex125 => ?_)
      obtain ⟨rw126, hf127⟩ := hT.2.2 6 (by decide)
      refine pl_iastE hx hb hG.1 hP hD hS (hst.1 261 (by decide)) 0 hf127 rfl (In.inb hz1 (by decide) (by decide)) dX11_hearsRuler_40 (fun H locs f128 r131 er131 hf129 ho130 hP hD hS => ?_)
      have hf132 := (ho130 (ad 255) (hst.ne (by decide) (by decide) (by decide))).trans hf2
      have hf133 := (ho130 (ad 268) (hst.ne (by decide) (by decide) (by decide))).trans hf9
      have hf134 := (ho130 (ad 269) (hst.ne (by decide) (by decide) (by decide))).trans hf13
      have hf135 := (ho130 (ad 263) (hst.ne (by decide) (by decide) (by decide))).trans hf123
      have hfr : (∀ b, b ≠ (ad 270) → b ≠ (ad 261) → b ≠ (ad 262) → f128 b = f b) := fun b z0_ z1_ z2_ => (ho130 b z1_).trans (hfr b z0_ z1_ z2_)
      have hT := TI.updM hT hst (k := 6) (by decide) hf129 ho130 ⟨r131, rfl⟩
      exact hJ41 _ _ _ _ hP hD hS hT hfr hf132 hf133 hf134 (lv_sub hl [1, 2, 3, 0] rfl)

abbrev rm_X11_startsAnew : Room := { frames := 0, cells := 0, slots := 0, locals := 0 }
abbrev po_X11_startsAnew (g : GG) (ad : Nat → Nat) (th : Nat → Int) (L : List Nat) (f : HP)  : (List Nat × HP) → Prop := fun u => u.1 = L ∧ TI g ad (gset th 18 0) u.2 ∧ (∀ b, b ≠ (ad 255) → b ≠ (ad 261) → b ≠ (ad 262) → u.2 b = f b)
set_option maxHeartbeats 4000000 in
set_option maxRecDepth 100000 in
theorem s_X11_startsAnew (l : Launch) (g : GG) (ad : Nat → Nat) (th : Nat → Int) (L : List Nat) (f : HP) (sz : Nat)  (hst : ST ad L) (hT : TI g ad th f)  : MtV l g yX11_startsAnew cX11_startsAnew 2 rm_X11_startsAnew [.ref (ad 255)] L f sz (po_X11_startsAnew g ad th L f ) := by
  refine MtV.of (by decide +kernel) (Nat.le_of_ble_eq_true rfl) ?_
  intro p e s m below meth c A hEn hP hD hS ls hl
  obtain ⟨hx, hb, hr, hml, hown, hlocks, hts, hG, hA, hE, hnm⟩ := hEn
  have hown : s.vm.findClass "RulerWordModel" = some m.cls := hown
  have hl : lv_has ls 2 [(0, .ref (ad 255))] := hl
  have hfr : (∀ b, b ≠ (ad 255) → b ≠ (ad 261) → b ≠ (ad 262) → f b = f b) := fun b z0_ z1_ z2_ => rfl
  refine lv_iconst (v := 0) hx hb dX11_startsAnew_0 (by decide) ?_
  refine lv_istore_n (lv' := [(1, .int 0), (0, .ref (ad 255))]) hx hb dX11_startsAnew_1 rfl hl (by decide) rfl (fun ls hl => ?_)
  have hJ2 : ∀ (k2 : Nat) (y2_l1 : Int32) (f_2 : HP) (H : Heap) (locs : List Loc) (ls : Array Slot), In y2_l1 0 9 → va_P g.1 vwCl (va_pl L f_2) H → va_D A (va_pl L f_2) → va_S A s.heap H locs → TI g ad th f_2 → (∀ b, b ≠ (ad 255) → b ≠ (ad 261) → b ≠ (ad 262) → f_2 b = f b) → lv_has ls 2 [(0, .ref (ad 255)), (1, .int y2_l1)] → 9 - y2_l1.toInt < ((k2 : Nat) : Int) → W p l e rm_X11_startsAnew s m [.ref (ad 255)].toArray below meth c H locs 0 0 (MQ below (va_Qv (po_X11_startsAnew g ad th L f ) (PstB g A) A) [.ref (ad 255)].toArray s rm_X11_startsAnew.cells rm_X11_startsAnew.slots A) (F0 m 2 ls []) := by
    intro k2
    induction k2 with
    | zero =>
      intro y2_l1 f_2 H locs ls hy2_l1 hP hD hS hT hfr hl hmz2
      exact ms0 hy2_l1 hmz2
    | succ k2 ih2 =>
      intro y2_l1 f_2 H locs ls hy2_l1 hP hD hS hT hfr hl hmz2
      refine lv_iload_n hx hb dX11_startsAnew_2 rfl (lv_at hl 1 rfl) ?_
      refine lv_bipush (v := 9) hx hb dX11_startsAnew_3 (by decide) ?_
      refine lv_icmp_ge (tgt := 35) hx hb dX11_startsAnew_5 (by decide) (fun c1 => ?_) (fun c1 => ?_)
      ·
        have cc2 : (9 : Int32).toInt ≤ y2_l1.toInt := i32_le.mp c1
        have hb3 : In y2_l1 9 9 := In.ge1 hy2_l1 (⟨by decide, by decide⟩ : In 9 9 9) cc2 (by omega) (by omega)
        refine lv_aload_n hx hb dX11_startsAnew_35 rfl (lv_at hl 0 rfl) ?_
        refine lv_iconst (v := 0) hx hb dX11_startsAnew_36 (by decide) ?_
        refine M0e hT (fun v0_4 v2_4 v3_4 v4_4 v5_4 v6_4 v8_4 v9_4 v12_4 v13_4 v14_4 v15_4 v16_4 v17_4 v18_4 v19_4 v20_4 v21_4 v22_4 v23_4 v25_4 v36_4 v37_4 v38_4 v39_4 v40_4 v45_4 v46_4 v47_4 v48_4 v50_4 v51_4 v53_4 v55_4 hf5 hv0_4 hv2_4 hg2_4 hv3_4 hg3_4 hv4_4 hg4_4 hv5_4 hg5_4 hv6_4 hg6_4 hv8_4 hg8_4 hv9_4 hg9_4 hv12_4 hv13_4 hg13_4 hv14_4 hg14_4 hv15_4 hg15_4 hv17_4 hg17_4 hv20_4 hg20_4 hv23_4 hg23_4 hv25_4 hg25_4 hv36_4 hg36_4 hv47_4 hg47_4 hv48_4 hg48_4 hv53_4 hg53_4 hv55_4 hg55_4 hrel0_4 => ?_)
        have hg15_4 : v15_4.toInt = th 11 := hg15_4
        have hg17_4 : v17_4.toInt = th 12 := hg17_4
        have hg20_4 : v20_4.toInt = th 14 := hg20_4
        refine pl_put (ty := .int) (v := .int 0) (fs' := [.int v0_4, .ref (ad 256), .int v2_4, .int v3_4, .int v4_4, .int v5_4, .int v6_4, .ref (ad 257), .int v8_4, .int v9_4, .ref (ad 258), .ref (ad 259), .int v12_4, .int v13_4, .int v14_4, .int v15_4, .int v16_4, .int v17_4, .int v18_4, .int v19_4, .int v20_4, .long v21_4, .long v22_4, .int v23_4, .ref (ad 260), .int v25_4, .ref (ad 261), .ref (ad 262), .ref (ad 263), .ref (ad 264), .ref (ad 265), .ref (ad 266), .ref (ad 267), .ref (ad 268), .ref (ad 269), .ref (ad 270), .int 0, .int v37_4, .int v38_4, .int v39_4, .int v40_4, .ref (ad 271), .ref (ad 272), .ref (ad 273), .ref (ad 274), .long v45_4, .long v46_4, .int v47_4, .int v48_4, .ref (ad 275), .int v50_4, .int v51_4, .ref (ad 276), .int v53_4, .ref (ad 277), .int v55_4]) hx hb hts (fun w h => mT (inX11 w h)) tyX11 tyX11_ok nmX11 hown hG.1 hP hD hS (hst.1 255 (by decide)) hf5 rfl 36 (by decide) (hts _ (mT wg_1372)) (fun _ h => h) rfl (by decide +kernel) (rfl) (rfl) (Nat.le_of_ble_eq_true rfl) rfl dX11_startsAnew_37 (fun H locs f6 hf7 ho8 hP hD hS => ?_)
        have hfr : (∀ b, b ≠ (ad 255) → b ≠ (ad 261) → b ≠ (ad 262) → f6 b = f b) := fun b z0_ z1_ z2_ => (ho8 b z0_).trans (hfr b z0_ z1_ z2_)
        refine lv_aload_n hx hb dX11_startsAnew_40 rfl (lv_at hl 0 rfl) ?_
        refine lv_iconst (v := 0) hx hb dX11_startsAnew_41 (by decide) ?_
        refine pl_put (ty := .int) (v := .int 0) (fs' := [.int v0_4, .ref (ad 256), .int v2_4, .int v3_4, .int v4_4, .int v5_4, .int v6_4, .ref (ad 257), .int v8_4, .int v9_4, .ref (ad 258), .ref (ad 259), .int v12_4, .int v13_4, .int v14_4, .int v15_4, .int v16_4, .int v17_4, .int v18_4, .int v19_4, .int v20_4, .long v21_4, .long v22_4, .int v23_4, .ref (ad 260), .int v25_4, .ref (ad 261), .ref (ad 262), .ref (ad 263), .ref (ad 264), .ref (ad 265), .ref (ad 266), .ref (ad 267), .ref (ad 268), .ref (ad 269), .ref (ad 270), .int 0, .int 0, .int v38_4, .int v39_4, .int v40_4, .ref (ad 271), .ref (ad 272), .ref (ad 273), .ref (ad 274), .long v45_4, .long v46_4, .int v47_4, .int v48_4, .ref (ad 275), .int v50_4, .int v51_4, .ref (ad 276), .int v53_4, .ref (ad 277), .int v55_4]) hx hb hts (fun w h => mT (inX11 w h)) tyX11 tyX11_ok nmX11 hown hG.1 hP hD hS (hst.1 255 (by decide)) hf7 rfl 37 (by decide) (hts _ (mT wg_1373)) (fun _ h => h) rfl (by decide +kernel) (rfl) (rfl) (Nat.le_of_ble_eq_true rfl) rfl dX11_startsAnew_42 (fun H locs f9 hf10 ho11 hP hD hS => ?_)
        have ho12 : ∀ b, b ≠ (ad 255) → f9 b = _ := fun b hb => (ho11 b hb).trans (ho8 b hb)
        have hfr : (∀ b, b ≠ (ad 255) → b ≠ (ad 261) → b ≠ (ad 262) → f9 b = f b) := fun b z0_ z1_ z2_ => (ho11 b z0_).trans (hfr b z0_ z1_ z2_)
        refine lv_aload_n hx hb dX11_startsAnew_45 rfl (lv_at hl 0 rfl) ?_
        refine lv_iconst (v := 0) hx hb dX11_startsAnew_46 (by decide) ?_
        refine pl_put (ty := .int) (v := .int 0) (fs' := [.int v0_4, .ref (ad 256), .int v2_4, .int v3_4, .int v4_4, .int v5_4, .int v6_4, .ref (ad 257), .int v8_4, .int v9_4, .ref (ad 258), .ref (ad 259), .int v12_4, .int v13_4, .int v14_4, .int v15_4, .int v16_4, .int v17_4, .int v18_4, .int v19_4, .int v20_4, .long v21_4, .long v22_4, .int v23_4, .ref (ad 260), .int v25_4, .ref (ad 261), .ref (ad 262), .ref (ad 263), .ref (ad 264), .ref (ad 265), .ref (ad 266), .ref (ad 267), .ref (ad 268), .ref (ad 269), .ref (ad 270), .int 0, .int 0, .int 0, .int v39_4, .int v40_4, .ref (ad 271), .ref (ad 272), .ref (ad 273), .ref (ad 274), .long v45_4, .long v46_4, .int v47_4, .int v48_4, .ref (ad 275), .int v50_4, .int v51_4, .ref (ad 276), .int v53_4, .ref (ad 277), .int v55_4]) hx hb hts (fun w h => mT (inX11 w h)) tyX11 tyX11_ok nmX11 hown hG.1 hP hD hS (hst.1 255 (by decide)) hf10 rfl 38 (by decide) (hts _ (mT wg_1374)) (fun _ h => h) rfl (by decide +kernel) (rfl) (rfl) (Nat.le_of_ble_eq_true rfl) rfl dX11_startsAnew_47 (fun H locs f13 hf14 ho15 hP hD hS => ?_)
        have ho16 : ∀ b, b ≠ (ad 255) → f13 b = _ := fun b hb => (ho15 b hb).trans (ho12 b hb)
        have hfr : (∀ b, b ≠ (ad 255) → b ≠ (ad 261) → b ≠ (ad 262) → f13 b = f b) := fun b z0_ z1_ z2_ => (ho15 b z0_).trans (hfr b z0_ z1_ z2_)
        refine lv_aload_n hx hb dX11_startsAnew_50 rfl (lv_at hl 0 rfl) ?_
        refine lv_aload_n hx hb dX11_startsAnew_51 rfl (lv_at hl 0 rfl) ?_
        refine pl_get (v := .long v21_4) hx hb hts (fun w h => mT (inX11 w h)) hown hG.1 hP (hst.1 255 (by decide)) hf14 rfl 21 (by decide) (hts _ (mT wg_1357)) (fun _ h => h) rfl dX11_startsAnew_52 ?_
        refine pl_put (ty := .long) (v := .long v21_4) (fs' := [.int v0_4, .ref (ad 256), .int v2_4, .int v3_4, .int v4_4, .int v5_4, .int v6_4, .ref (ad 257), .int v8_4, .int v9_4, .ref (ad 258), .ref (ad 259), .int v12_4, .int v13_4, .int v14_4, .int v15_4, .int v16_4, .int v17_4, .int v18_4, .int v19_4, .int v20_4, .long v21_4, .long v21_4, .int v23_4, .ref (ad 260), .int v25_4, .ref (ad 261), .ref (ad 262), .ref (ad 263), .ref (ad 264), .ref (ad 265), .ref (ad 266), .ref (ad 267), .ref (ad 268), .ref (ad 269), .ref (ad 270), .int 0, .int 0, .int 0, .int v39_4, .int v40_4, .ref (ad 271), .ref (ad 272), .ref (ad 273), .ref (ad 274), .long v45_4, .long v46_4, .int v47_4, .int v48_4, .ref (ad 275), .int v50_4, .int v51_4, .ref (ad 276), .int v53_4, .ref (ad 277), .int v55_4]) hx hb hts (fun w h => mT (inX11 w h)) tyX11 tyX11_ok nmX11 hown hG.1 hP hD hS (hst.1 255 (by decide)) hf14 rfl 22 (by decide) (hts _ (mT wg_1358)) (fun _ h => h) rfl (by decide +kernel) (rfl) (rfl) (Nat.le_of_ble_eq_true rfl) rfl dX11_startsAnew_55 (fun H locs f17 hf18 ho19 hP hD hS => ?_)
        have ho20 : ∀ b, b ≠ (ad 255) → f17 b = _ := fun b hb => (ho19 b hb).trans (ho16 b hb)
        have hfr : (∀ b, b ≠ (ad 255) → b ≠ (ad 261) → b ≠ (ad 262) → f17 b = f b) := fun b z0_ z1_ z2_ => (ho19 b z0_).trans (hfr b z0_ z1_ z2_)
        have hT := TI.updMG (th' := (gset th 18 (0))) hT hst (k := 0) (by decide) hf18 ho20 ⟨v0_4, v2_4, v3_4, v4_4, v5_4, v6_4, v8_4, v9_4, v12_4, v13_4, v14_4, v15_4, v16_4, v17_4, v18_4, v19_4, v20_4, v21_4, v21_4, v23_4, v25_4, 0, 0, 0, v39_4, v40_4, v45_4, v46_4, v47_4, v48_4, v50_4, v51_4, v53_4, v55_4, rfl, hv0_4, hv2_4, hg2_4, hv3_4, hg3_4, hv4_4, hg4_4, hv5_4, hg5_4, hv6_4, hg6_4, hv8_4, hg8_4, hv9_4, hg9_4, hv12_4, hv13_4, hg13_4, hv14_4, hg14_4, hv15_4, hg15_4, hv17_4, hg17_4, hv20_4, hg20_4, hv23_4, hg23_4, hv25_4, hg25_4, (⟨by decide, by decide⟩ : In 0 0 18), (show (0 : Int32).toInt = 0 by decide), hv47_4, hg47_4, hv48_4, hg48_4, hv53_4, hg53_4, hv55_4, hg55_4, hrel0_4⟩ (fun q hq => ((gset_ne (fun e => hq (by subst e; decide))).trans rfl))
        have hT : TI g ad (gset th 18 0) f17 := TI.cast hT (by funext q; simp only [gset]; (repeat' split); all_goals first | rfl | omega | (subst_vars; rfl) | (exfalso; omega))
        exact ret_v hx hb hr hlocks hP hD hS (Nat.le_of_ble_eq_true rfl) (Nat.le_of_ble_eq_true rfl) (⟨rfl, hT, hfr⟩) dX11_startsAnew_58
      ·
        have cc21 : y2_l1.toInt < (9 : Int32).toInt := i32_nle c1
        have hb22 : In y2_l1 0 8 := In.lt1 hy2_l1 (⟨by decide, by decide⟩ : In 9 9 9) cc21 (by omega) (by omega)
        refine lv_aload_n hx hb dX11_startsAnew_8 rfl (lv_at hl 0 rfl) ?_
        refine M0e hT (fun v0_23 v2_23 v3_23 v4_23 v5_23 v6_23 v8_23 v9_23 v12_23 v13_23 v14_23 v15_23 v16_23 v17_23 v18_23 v19_23 v20_23 v21_23 v22_23 v23_23 v25_23 v36_23 v37_23 v38_23 v39_23 v40_23 v45_23 v46_23 v47_23 v48_23 v50_23 v51_23 v53_23 v55_23 hf24 hv0_23 hv2_23 hg2_23 hv3_23 hg3_23 hv4_23 hg4_23 hv5_23 hg5_23 hv6_23 hg6_23 hv8_23 hg8_23 hv9_23 hg9_23 hv12_23 hv13_23 hg13_23 hv14_23 hg14_23 hv15_23 hg15_23 hv17_23 hg17_23 hv20_23 hg20_23 hv23_23 hg23_23 hv25_23 hg25_23 hv36_23 hg36_23 hv47_23 hg47_23 hv48_23 hg48_23 hv53_23 hg53_23 hv55_23 hg55_23 hrel0_23 => ?_)
        have hg15_23 : v15_23.toInt = th 11 := hg15_23
        have hg17_23 : v17_23.toInt = th 12 := hg17_23
        have hg20_23 : v20_23.toInt = th 14 := hg20_23
        refine pl_get (v := .ref (ad 261)) hx hb hts (fun w h => mT (inX11 w h)) hown hG.1 hP (hst.1 255 (by decide)) hf24 rfl 26 (by decide) (hts _ (mT wg_1362)) (fun _ h => h) rfl dX11_startsAnew_9 ?_
        refine lv_iload_n hx hb dX11_startsAnew_12 rfl (lv_at hl 1 rfl) ?_
        refine lv_aload_n hx hb dX11_startsAnew_13 rfl (lv_at hl 0 rfl) ?_
        refine pl_get (v := .int v19_23) hx hb hts (fun w h => mT (inX11 w h)) hown hG.1 hP (hst.1 255 (by decide)) hf24 rfl 19 (by decide) (hts _ (mT wg_1355)) (fun _ h => h) rfl dX11_startsAnew_14 ?_
        refine lv_iload_n hx hb dX11_startsAnew_17 rfl (lv_at hl 1 rfl) ?_
        refine lv_ishr hx hb dX11_startsAnew_18 ?_
        refine lv_topi (fun x25 ex25 => ?_)
        refine lv_iconst (v := 1) hx hb dX11_startsAnew_19 (by decide) ?_
        refine lv_iand hx hb dX11_startsAnew_20 ?_
        refine lv_topi (fun x26 ex26 => ?_)
        have hb27 : In x26 0 1 := ex26 ▸ In.andr (⟨by decide, by decide⟩ : In 1 1 1) (by decide)
        obtain ⟨rw28, hf29⟩ := hT.2.2 6 (by decide)
        refine pl_iastE hx hb hG.1 hP hD hS (hst.1 261 (by decide)) 0 hf29 rfl (In.inb hb22 (by decide) (by decide)) dX11_startsAnew_21 (fun H locs f30 r33 er33 hf31 ho32 hP hD hS => ?_)
        have hf34 := (ho32 (ad 255) (hst.ne (by decide) (by decide) (by decide))).trans hf24
        have hfr : (∀ b, b ≠ (ad 255) → b ≠ (ad 261) → b ≠ (ad 262) → f30 b = f b) := fun b z0_ z1_ z2_ => (ho32 b z1_).trans (hfr b z0_ z1_ z2_)
        refine lv_aload_n hx hb dX11_startsAnew_22 rfl (lv_at hl 0 rfl) ?_
        refine pl_get (v := .ref (ad 262)) hx hb hts (fun w h => mT (inX11 w h)) hown hG.1 hP (hst.1 255 (by decide)) hf34 rfl 27 (by decide) (hts _ (mT wg_1363)) (fun _ h => h) rfl dX11_startsAnew_23 ?_
        refine lv_iload_n hx hb dX11_startsAnew_26 rfl (lv_at hl 1 rfl) ?_
        refine lv_iconst (v := 0) hx hb dX11_startsAnew_27 (by decide) ?_
        have hT := TI.updM hT hst (k := 6) (by decide) hf31 ho32 ⟨r33, rfl⟩
        obtain ⟨rw35, hf36⟩ := hT.2.2 7 (by decide)
        refine pl_iastE hx hb hG.1 hP hD hS (hst.1 262 (by decide)) 0 hf36 rfl (In.inb hb22 (by decide) (by decide)) dX11_startsAnew_28 (fun H locs f37 r40 er40 hf38 ho39 hP hD hS => ?_)
        have hf41 := (ho39 (ad 255) (hst.ne (by decide) (by decide) (by decide))).trans hf34
        have hf42 := (ho39 (ad 261) (hst.ne (by decide) (by decide) (by decide))).trans hf31
        have hfr : (∀ b, b ≠ (ad 255) → b ≠ (ad 261) → b ≠ (ad 262) → f37 b = f b) := fun b z0_ z1_ z2_ => (ho39 b z2_).trans (hfr b z0_ z1_ z2_)
        obtain ⟨x43, ex43⟩ : ∃ y : Int32, y = y2_l1 + 1 := ⟨_, rfl⟩
        have hb44 : In x43 1 9 := ex43 ▸ In.add hb22 (⟨by decide, by decide⟩ : In 1 1 1) (by decide) (by decide) (by decide) (by decide)
        have et45 : x43.toInt = y2_l1.toInt + 1 := In.adde ex43 hb22 (k := 1) (by decide) (by decide) (by decide)
        refine lv_iinc (v := x43) (lv' := [(1, .int x43), (0, .ref (ad 255))]) hx hb dX11_startsAnew_29 hl (k := 1) rfl (by rw [ex43]; rfl) (by decide) rfl (fun ls hl => ?_)
        have hT := TI.updM hT hst (k := 7) (by decide) hf38 ho39 ⟨r40, rfl⟩
        refine lv_goto (tgt := 2) hx hb dX11_startsAnew_32 (by decide) ?_
        exact ih2 x43 _ _ _ _ (In.mono hb44 (by decide) (by decide)) hP hD hS hT hfr (lv_sub hl [1, 0] rfl) (msu et45 (by decide) hmz2)
  exact hJ2 ((9 - (0 : Int32).toInt).toNat + 1) 0 _ _ _ _ (⟨by decide, by decide⟩ : In 0 0 9) hP hD hS hT hfr (lv_sub hl [1, 0] rfl) (msI _)

abbrev rm_X11_rounds : Room := { frames := 4, cells := 0, slots := 0, locals := 102 }
abbrev po_X11_rounds (g : GG) (ad : Nat → Nat) (th : Nat → Int) (L : List Nat) (f : HP)  : (List Nat × HP) → Prop := fun u => u.1 = L ∧ (∃ zg : Int, (zg = th 18 + 1) ∧ TI g ad (gset th 18 zg) u.2) ∧ (∀ b, b ≠ (ad 255) → b ≠ (ad 265) → b ≠ (ad 266) → b ≠ (ad 267) → b ≠ (ad 268) → b ≠ (ad 269) → b ≠ (ad 270) → b ≠ (ad 261) → b ≠ (ad 262) → b ≠ (ad 263) → b ≠ (ad 264) → u.2 b = f b)
set_option maxHeartbeats 4000000 in
set_option maxRecDepth 100000 in
theorem s_X11_rounds (l : Launch) (g : GG) (ad : Nat → Nat) (th : Nat → Int) (L : List Nat) (f : HP) (sz : Nat)  (hst : ST ad L) (hT : TI g ad th f) (hn3 : 3 ≤ th 11) (h17 : th 18 ≤ 17) : MtV l g yX11_rounds cX11_rounds 4 rm_X11_rounds [.ref (ad 255)] L f sz (po_X11_rounds g ad th L f ) := by
  refine MtV.of (by decide +kernel) (Nat.le_of_ble_eq_true rfl) ?_
  intro p e s m below meth c A hEn hP hD hS ls hl
  obtain ⟨hx, hb, hr, hml, hown, hlocks, hts, hG, hA, hE, hnm⟩ := hEn
  have hown : s.vm.findClass "RulerWordModel" = some m.cls := hown
  have hl : lv_has ls 4 [(0, .ref (ad 255))] := hl
  have hfr : (∀ b, b ≠ (ad 255) → b ≠ (ad 265) → b ≠ (ad 266) → b ≠ (ad 267) → b ≠ (ad 268) → b ≠ (ad 269) → b ≠ (ad 270) → b ≠ (ad 261) → b ≠ (ad 262) → b ≠ (ad 263) → b ≠ (ad 264) → f b = f b) := fun b z0_ z1_ z2_ z3_ z4_ z5_ z6_ z7_ z8_ z9_ z10_ => rfl
  refine lv_aload_n hx hb dX11_rounds_0 rfl (lv_at hl 0 rfl) ?_
  refine M0e hT (fun v0_1 v2_1 v3_1 v4_1 v5_1 v6_1 v8_1 v9_1 v12_1 v13_1 v14_1 v15_1 v16_1 v17_1 v18_1 v19_1 v20_1 v21_1 v22_1 v23_1 v25_1 v36_1 v37_1 v38_1 v39_1 v40_1 v45_1 v46_1 v47_1 v48_1 v50_1 v51_1 v53_1 v55_1 hf2 hv0_1 hv2_1 hg2_1 hv3_1 hg3_1 hv4_1 hg4_1 hv5_1 hg5_1 hv6_1 hg6_1 hv8_1 hg8_1 hv9_1 hg9_1 hv12_1 hv13_1 hg13_1 hv14_1 hg14_1 hv15_1 hg15_1 hv17_1 hg17_1 hv20_1 hg20_1 hv23_1 hg23_1 hv25_1 hg25_1 hv36_1 hg36_1 hv47_1 hg47_1 hv48_1 hg48_1 hv53_1 hg53_1 hv55_1 hg55_1 hrel0_1 => ?_)
  have hg15_1 : v15_1.toInt = th 11 := hg15_1
  have hg17_1 : v17_1.toInt = th 12 := hg17_1
  have hg20_1 : v20_1.toInt = th 14 := hg20_1
  have hb3 : In v15_1 3 9 := ⟨by rw [hg15_1]; exact hn3, hv15_1.2⟩
  refine pl_get (v := .int v36_1) hx hb hts (fun w h => mT (inX11 w h)) hown hG.1 hP (hst.1 255 (by decide)) hf2 rfl 36 (by decide) (hts _ (mT wg_1372)) (fun _ h => h) rfl dX11_rounds_1 ?_
  have hg36_1 : v36_1.toInt = th 18 := hg36_1
  refine lv_aload_n hx hb dX11_rounds_4 rfl (lv_at hl 0 rfl) ?_
  refine call_i (run_V (rm := rm_X11_each) hx hb hml hown hts (s_X11_each l g ad th _ _ _  hst hT ) cV_X11_each wg_1636 ⟨Nat.le_of_ble_eq_true rfl, Nat.le_of_ble_eq_true rfl⟩ hG hE hA hP hD hS (hst.1 255 (by decide)) hf2 rfl rfl hl.1 (As := []) (rest := [.int v36_1]) rfl (Nat.le_of_ble_eq_true rfl) dX11_rounds_5 ⟨Nat.le_of_ble_eq_true rfl, Nat.le_of_ble_eq_true rfl⟩) hA hD hS (fun r4 L5 f6 H locs hp7 hP hD hS => ?_)
  obtain ⟨eL8L, eL8T, eL8R, eL8X0⟩ := hp7
  have eL8L : L5 = L := eL8L
  have eL8T : f6 = f := eL8T
  rw [eL8L, eL8T] at hP hD
  have eL8R : In r4 2 3 := eL8R
  have hrn9 : r4.toInt = rnd (th 10) := eL8X0
  refine lv_idiv hx hb dX11_rounds_8 (In.ne0 eL8R (by decide)) ?_
  refine lv_topi (fun x10 ex10 => ?_)
  have hb11 : In x10 0 9 := ex10 ▸ In.div hv36_1 eL8R (by decide) (by decide) (by decide) (by decide)
  refine lv_istore_n (lv' := [(1, .int x10), (0, .ref (ad 255))]) hx hb dX11_rounds_9 rfl hl (by decide) rfl (fun ls hl => ?_)
  refine lv_aload_n hx hb dX11_rounds_10 rfl (lv_at hl 1 rfl) ?_
  refine pl_get (v := .int v36_1) hx hb hts (fun w h => mT (inX11 w h)) hown hG.1 hP (hst.1 255 (by decide)) hf2 rfl 36 (by decide) (hts _ (mT wg_1372)) (fun _ h => h) rfl dX11_rounds_11 ?_
  refine lv_aload_n hx hb dX11_rounds_14 rfl (lv_at hl 1 rfl) ?_
  refine call_i (run_V (rm := rm_X11_each) hx hb hml hown hts (s_X11_each l g ad th _ _ _  hst hT ) cV_X11_each wg_1636 ⟨Nat.le_of_ble_eq_true rfl, Nat.le_of_ble_eq_true rfl⟩ hG hE hA hP hD hS (hst.1 255 (by decide)) hf2 rfl rfl hl.1 (As := []) (rest := [.int v36_1]) rfl (Nat.le_of_ble_eq_true rfl) dX11_rounds_15 ⟨Nat.le_of_ble_eq_true rfl, Nat.le_of_ble_eq_true rfl⟩) hA hD hS (fun r12 L13 f14 H locs hp15 hP hD hS => ?_)
  obtain ⟨eL16L, eL16T, eL16R, eL16X0⟩ := hp15
  have eL16L : L13 = L := eL16L
  have eL16T : f14 = f := eL16T
  rw [eL16L, eL16T] at hP hD
  have eL16R : In r12 2 3 := eL16R
  have hrn17 : r12.toInt = rnd (th 10) := eL16X0
  refine lv_irem hx hb dX11_rounds_18 (In.ne0 eL16R (by decide)) ?_
  refine lv_topi (fun x18 ex18 => ?_)
  have hb19 : In x18 0 2 := ex18 ▸ In.rem hv36_1 eL16R (by decide) (by decide) (by decide)
  refine lv_istore_n (lv' := [(2, .int x18), (1, .int x10), (0, .ref (ad 255))]) hx hb dX11_rounds_19 rfl hl (by decide) rfl (fun ls hl => ?_)
  refine lv_aload_n hx hb dX11_rounds_20 rfl (lv_at hl 2 rfl) ?_
  refine lv_iload_n hx hb dX11_rounds_21 rfl (lv_at hl 1 rfl) ?_
  refine lv_iload_n hx hb dX11_rounds_22 rfl (lv_at hl 0 rfl) ?_
  refine call_v (run_V (rm := rm_X11_sends) hx hb hml hown hts (s_X11_sends l g ad th _ _ _ x10 x18 hst hT (In.mono hb11 (by decide) (by decide)) hn3) cV_X11_sends wg_1656 ⟨Nat.le_of_ble_eq_true rfl, Nat.le_of_ble_eq_true rfl⟩ hG hE hA hP hD hS (hst.1 255 (by decide)) hf2 rfl rfl hl.1 (As := [.int x10, .int x18]) (rest := []) rfl (Nat.le_of_ble_eq_true rfl) dX11_rounds_23 ⟨Nat.le_of_ble_eq_true rfl, Nat.le_of_ble_eq_true rfl⟩) hA hD hS (fun L21 f22 H locs hp23 hP hD hS => ?_)
  obtain ⟨eL24L, eL24T, eL24F⟩ := hp23
  have eL24L : L21 = L := eL24L
  rw [eL24L] at hP hD
  have hT : TI g ad th f22 := eL24T
  have eL24F : ∀ b, b ≠ (ad 255) → b ≠ (ad 268) → f22 b = f b := eL24F
  have hfr : (∀ b, b ≠ (ad 255) → b ≠ (ad 265) → b ≠ (ad 266) → b ≠ (ad 267) → b ≠ (ad 268) → b ≠ (ad 269) → b ≠ (ad 270) → b ≠ (ad 261) → b ≠ (ad 262) → b ≠ (ad 263) → b ≠ (ad 264) → f22 b = f b) := fun b z0_ z1_ z2_ z3_ z4_ z5_ z6_ z7_ z8_ z9_ z10_ => (eL24F b z0_ z4_).trans (hfr b z0_ z1_ z2_ z3_ z4_ z5_ z6_ z7_ z8_ z9_ z10_)
  refine lv_iconst (v := 0) hx hb dX11_rounds_26 (by decide) ?_
  refine lv_istore_n (lv' := [(3, .int 0), (2, .int x18), (1, .int x10), (0, .ref (ad 255))]) hx hb dX11_rounds_27 rfl hl (by decide) rfl (fun ls hl => ?_)
  have hJ28 : ∀ (k28 : Nat) (y28_l3 : Int32) (f_28 : HP) (H : Heap) (locs : List Loc) (ls : Array Slot), In y28_l3 0 9 → va_P g.1 vwCl (va_pl L f_28) H → va_D A (va_pl L f_28) → va_S A s.heap H locs → TI g ad th f_28 → (∀ b, b ≠ (ad 255) → b ≠ (ad 265) → b ≠ (ad 266) → b ≠ (ad 267) → b ≠ (ad 268) → b ≠ (ad 269) → b ≠ (ad 270) → b ≠ (ad 261) → b ≠ (ad 262) → b ≠ (ad 263) → b ≠ (ad 264) → f_28 b = f b) → lv_has ls 4 [(0, .ref (ad 255)), (1, .int x10), (2, .int x18), (3, .int y28_l3)] → 9 - y28_l3.toInt < ((k28 : Nat) : Int) → W p l e rm_X11_rounds s m [.ref (ad 255)].toArray below meth c H locs 0 0 (MQ below (va_Qv (po_X11_rounds g ad th L f ) (PstB g A) A) [.ref (ad 255)].toArray s rm_X11_rounds.cells rm_X11_rounds.slots A) (F0 m 28 ls []) := by
    intro k28
    induction k28 with
    | zero =>
      intro y28_l3 f_28 H locs ls hy28_l3 hP hD hS hT hfr hl hmz28
      exact ms0 hy28_l3 hmz28
    | succ k28 ih28 =>
      intro y28_l3 f_28 H locs ls hy28_l3 hP hD hS hT hfr hl hmz28
      refine lv_iload_n hx hb dX11_rounds_28 rfl (lv_at hl 3 rfl) ?_
      refine lv_aload_n hx hb dX11_rounds_29 rfl (lv_at hl 0 rfl) ?_
      refine M0e hT (fun v0_25 v2_25 v3_25 v4_25 v5_25 v6_25 v8_25 v9_25 v12_25 v13_25 v14_25 v15_25 v16_25 v17_25 v18_25 v19_25 v20_25 v21_25 v22_25 v23_25 v25_25 v36_25 v37_25 v38_25 v39_25 v40_25 v45_25 v46_25 v47_25 v48_25 v50_25 v51_25 v53_25 v55_25 hf26 hv0_25 hv2_25 hg2_25 hv3_25 hg3_25 hv4_25 hg4_25 hv5_25 hg5_25 hv6_25 hg6_25 hv8_25 hg8_25 hv9_25 hg9_25 hv12_25 hv13_25 hg13_25 hv14_25 hg14_25 hv15_25 hg15_25 hv17_25 hg17_25 hv20_25 hg20_25 hv23_25 hg23_25 hv25_25 hg25_25 hv36_25 hg36_25 hv47_25 hg47_25 hv48_25 hg48_25 hv53_25 hg53_25 hv55_25 hg55_25 hrel0_25 => ?_)
      have hg15_25 : v15_25.toInt = th 11 := hg15_25
      have hg17_25 : v17_25.toInt = th 12 := hg17_25
      have hg20_25 : v20_25.toInt = th 14 := hg20_25
      have hb27 : In v15_25 3 9 := ⟨by rw [hg15_25]; exact hn3, hv15_25.2⟩
      refine pl_get (v := .int v15_25) hx hb hts (fun w h => mT (inX11 w h)) hown hG.1 hP (hst.1 255 (by decide)) hf26 rfl 15 (by decide) (hts _ (mT wg_1351)) (fun _ h => h) rfl dX11_rounds_30 ?_
      refine lv_icmp_ge (tgt := 83) hx hb dX11_rounds_33 (by decide) (fun c28 => ?_) (fun c28 => ?_)
      ·
        have cc29 : v15_25.toInt ≤ y28_l3.toInt := i32_le.mp c28
        have hb30 : In y28_l3 3 9 := In.ge1 hy28_l3 hb27 cc29 (by decide) (by decide)
        refine lv_aload_n hx hb dX11_rounds_83 rfl (lv_at hl 0 rfl) ?_
        refine lv_dup hx hb dX11_rounds_84 rfl ?_
        refine pl_get (v := .int v36_25) hx hb hts (fun w h => mT (inX11 w h)) hown hG.1 hP (hst.1 255 (by decide)) hf26 rfl 36 (by decide) (hts _ (mT wg_1372)) (fun _ h => h) rfl dX11_rounds_85 ?_
        have hg36_25 : v36_25.toInt = th 18 := hg36_25
        refine lv_iconst (v := 1) hx hb dX11_rounds_88 (by decide) ?_
        refine lv_iadd hx hb dX11_rounds_89 ?_
        refine lv_topi (fun x31 ex31 => ?_)
        have hb32 : In x31 1 19 := ex31 ▸ In.add hv36_25 (⟨by decide, by decide⟩ : In 1 1 1) (by decide) (by decide) (by decide) (by decide)
        have et33 : x31.toInt = v36_25.toInt + 1 := In.adde ex31 hv36_25 (k := 1) (by decide) (by decide) (by decide)
        refine pl_put (ty := .int) (v := .int x31) (fs' := [.int v0_25, .ref (ad 256), .int v2_25, .int v3_25, .int v4_25, .int v5_25, .int v6_25, .ref (ad 257), .int v8_25, .int v9_25, .ref (ad 258), .ref (ad 259), .int v12_25, .int v13_25, .int v14_25, .int v15_25, .int v16_25, .int v17_25, .int v18_25, .int v19_25, .int v20_25, .long v21_25, .long v22_25, .int v23_25, .ref (ad 260), .int v25_25, .ref (ad 261), .ref (ad 262), .ref (ad 263), .ref (ad 264), .ref (ad 265), .ref (ad 266), .ref (ad 267), .ref (ad 268), .ref (ad 269), .ref (ad 270), .int x31, .int v37_25, .int v38_25, .int v39_25, .int v40_25, .ref (ad 271), .ref (ad 272), .ref (ad 273), .ref (ad 274), .long v45_25, .long v46_25, .int v47_25, .int v48_25, .ref (ad 275), .int v50_25, .int v51_25, .ref (ad 276), .int v53_25, .ref (ad 277), .int v55_25]) hx hb hts (fun w h => mT (inX11 w h)) tyX11 tyX11_ok nmX11 hown hG.1 hP hD hS (hst.1 255 (by decide)) hf26 rfl 36 (by decide) (hts _ (mT wg_1372)) (fun _ h => h) rfl (by decide +kernel) (rfl) (rfl) (Nat.le_of_ble_eq_true rfl) rfl dX11_rounds_90 (fun H locs f34 hf35 ho36 hP hD hS => ?_)
        have hfr : (∀ b, b ≠ (ad 255) → b ≠ (ad 265) → b ≠ (ad 266) → b ≠ (ad 267) → b ≠ (ad 268) → b ≠ (ad 269) → b ≠ (ad 270) → b ≠ (ad 261) → b ≠ (ad 262) → b ≠ (ad 263) → b ≠ (ad 264) → f34 b = f b) := fun b z0_ z1_ z2_ z3_ z4_ z5_ z6_ z7_ z8_ z9_ z10_ => (ho36 b z0_).trans (hfr b z0_ z1_ z2_ z3_ z4_ z5_ z6_ z7_ z8_ z9_ z10_)
        have hT := TI.updMG (th' := (gset th 18 (x31.toInt))) hT hst (k := 0) (by decide) hf35 ho36 ⟨v0_25, v2_25, v3_25, v4_25, v5_25, v6_25, v8_25, v9_25, v12_25, v13_25, v14_25, v15_25, v16_25, v17_25, v18_25, v19_25, v20_25, v21_25, v22_25, v23_25, v25_25, x31, v37_25, v38_25, v39_25, v40_25, v45_25, v46_25, v47_25, v48_25, v50_25, v51_25, v53_25, v55_25, rfl, hv0_25, hv2_25, hg2_25, hv3_25, hg3_25, hv4_25, hg4_25, hv5_25, hg5_25, hv6_25, hg6_25, hv8_25, hg8_25, hv9_25, hg9_25, hv12_25, hv13_25, hg13_25, hv14_25, hg14_25, (In.mono hb27 (by decide) (by decide)), hg15_25, hv17_25, hg17_25, hv20_25, hg20_25, hv23_25, hg23_25, hv25_25, hg25_25, (In.mk (by have ob10 : (0 : Int) ≤ (th 10) ∧ (th 10) ≤ 1 := (b0_10 hT :); have ob11 : (0 : Int) ≤ (th 11) ∧ (th 11) ≤ 9 := (b0_11 hT :); have ob12 : (0 : Int) ≤ (th 12) ∧ (th 12) ≤ 6 := (b0_12 hT :); have ob14 : (0 : Int) ≤ (th 14) ∧ (th 14) ≤ 511 := (b0_14 hT :); have ob15 : (0 : Int) ≤ (th 15) ∧ (th 15) ≤ 1 := (b0_15 hT :); have ob16 : (0 : Int) ≤ (th 16) ∧ (th 16) ≤ 20 := (b0_16 hT :); have ob17 : (0 : Int) ≤ (th 17) ∧ (th 17) ≤ 1 := (b0_17 hT :); have ob18 : (0 : Int) ≤ (th 18) ∧ (th 18) ≤ 18 := (b0_18 hT :); have ob38 : (0 : Int) ≤ (th 38) ∧ (th 38) ≤ 400 := (b0_38 hT :); have ob39 : (0 : Int) ≤ (th 39) ∧ (th 39) ≤ 200 := (b0_39 hT :); have ob44 : (0 : Int) ≤ (th 44) ∧ (th 44) ≤ 30 := (b0_44 hT :); have orn := rnd_b (th 10); obtain ⟨o0a, o0b⟩ := (hb32 : In _ _ _); obtain ⟨o1a, o1b⟩ := (hv14_25 : In _ _ _); obtain ⟨o2a, o2b⟩ := (hb27 : In _ _ _); obtain ⟨o3a, o3b⟩ := (hv17_25 : In _ _ _); obtain ⟨o4a, o4b⟩ := (hv20_25 : In _ _ _); obtain ⟨o5a, o5b⟩ := (hv23_25 : In _ _ _); obtain ⟨o6a, o6b⟩ := (hv25_25 : In _ _ _); obtain ⟨o7a, o7b⟩ := (hv47_25 : In _ _ _); obtain ⟨o8a, o8b⟩ := (hv48_25 : In _ _ _); obtain ⟨o9a, o9b⟩ := (hv53_25 : In _ _ _); obtain ⟨o10a, o10b⟩ := (hv55_25 : In _ _ _); obtain ⟨o11a, o11b⟩ := (hv36_25 : In _ _ _); obtain ⟨o12a, o12b⟩ := (hb30 : In _ _ _); omega) (by have ob10 : (0 : Int) ≤ (th 10) ∧ (th 10) ≤ 1 := (b0_10 hT :); have ob11 : (0 : Int) ≤ (th 11) ∧ (th 11) ≤ 9 := (b0_11 hT :); have ob12 : (0 : Int) ≤ (th 12) ∧ (th 12) ≤ 6 := (b0_12 hT :); have ob14 : (0 : Int) ≤ (th 14) ∧ (th 14) ≤ 511 := (b0_14 hT :); have ob15 : (0 : Int) ≤ (th 15) ∧ (th 15) ≤ 1 := (b0_15 hT :); have ob16 : (0 : Int) ≤ (th 16) ∧ (th 16) ≤ 20 := (b0_16 hT :); have ob17 : (0 : Int) ≤ (th 17) ∧ (th 17) ≤ 1 := (b0_17 hT :); have ob18 : (0 : Int) ≤ (th 18) ∧ (th 18) ≤ 18 := (b0_18 hT :); have ob38 : (0 : Int) ≤ (th 38) ∧ (th 38) ≤ 400 := (b0_38 hT :); have ob39 : (0 : Int) ≤ (th 39) ∧ (th 39) ≤ 200 := (b0_39 hT :); have ob44 : (0 : Int) ≤ (th 44) ∧ (th 44) ≤ 30 := (b0_44 hT :); have orn := rnd_b (th 10); obtain ⟨o0a, o0b⟩ := (hb32 : In _ _ _); obtain ⟨o1a, o1b⟩ := (hv14_25 : In _ _ _); obtain ⟨o2a, o2b⟩ := (hb27 : In _ _ _); obtain ⟨o3a, o3b⟩ := (hv17_25 : In _ _ _); obtain ⟨o4a, o4b⟩ := (hv20_25 : In _ _ _); obtain ⟨o5a, o5b⟩ := (hv23_25 : In _ _ _); obtain ⟨o6a, o6b⟩ := (hv25_25 : In _ _ _); obtain ⟨o7a, o7b⟩ := (hv47_25 : In _ _ _); obtain ⟨o8a, o8b⟩ := (hv48_25 : In _ _ _); obtain ⟨o9a, o9b⟩ := (hv53_25 : In _ _ _); obtain ⟨o10a, o10b⟩ := (hv55_25 : In _ _ _); obtain ⟨o11a, o11b⟩ := (hv36_25 : In _ _ _); obtain ⟨o12a, o12b⟩ := (hb30 : In _ _ _); omega)), rfl, hv47_25, hg47_25, hv48_25, hg48_25, hv53_25, hg53_25, hv55_25, hg55_25, hrel0_25⟩ (fun q hq => ((gset_ne (fun e => hq (by subst e; decide))).trans rfl))
        have hT : TI g ad (gset th 18 x31.toInt) f34 := TI.cast hT (by funext q; by_cases hq0 : q = 18; (subst hq0; rfl); simp only [gset, if_neg hq0])
        exact ret_v hx hb hr hlocks hP hD hS (Nat.le_of_ble_eq_true rfl) (Nat.le_of_ble_eq_true rfl) (⟨rfl, ⟨x31.toInt, (show x31.toInt = th 18 + 1 from (by have ob10 : (0 : Int) ≤ (th 10) ∧ (th 10) ≤ 1 := (b0_10 hT :); have ob11 : (0 : Int) ≤ (th 11) ∧ (th 11) ≤ 9 := (b0_11 hT :); have ob12 : (0 : Int) ≤ (th 12) ∧ (th 12) ≤ 6 := (b0_12 hT :); have ob14 : (0 : Int) ≤ (th 14) ∧ (th 14) ≤ 511 := (b0_14 hT :); have ob15 : (0 : Int) ≤ (th 15) ∧ (th 15) ≤ 1 := (b0_15 hT :); have ob16 : (0 : Int) ≤ (th 16) ∧ (th 16) ≤ 20 := (b0_16 hT :); have ob17 : (0 : Int) ≤ (th 17) ∧ (th 17) ≤ 1 := (b0_17 hT :); have ob18 : (0 : Int) ≤ x31.toInt ∧ x31.toInt ≤ 18 := (b0_18 hT :); have ob38 : (0 : Int) ≤ (th 38) ∧ (th 38) ≤ 400 := (b0_38 hT :); have ob39 : (0 : Int) ≤ (th 39) ∧ (th 39) ≤ 200 := (b0_39 hT :); have ob44 : (0 : Int) ≤ (th 44) ∧ (th 44) ≤ 30 := (b0_44 hT :); have orn := rnd_b (th 10); obtain ⟨o0a, o0b⟩ := (hb11 : In _ _ _); obtain ⟨o1a, o1b⟩ := (hb19 : In _ _ _); obtain ⟨o2a, o2b⟩ := (hb30 : In _ _ _); obtain ⟨o3a, o3b⟩ := (hb27 : In _ _ _); omega)), TI.cast hT (by funext q; by_cases hq0 : q = 18; (subst hq0; rfl); simp only [gset, if_neg hq0])⟩, hfr⟩) dX11_rounds_93
      ·
        have cc37 : y28_l3.toInt < v15_25.toInt := i32_nle c28
        have hb38 : In y28_l3 0 8 := In.lt1 hy28_l3 hb27 cc37 (by decide) (by decide)
        refine lv_iload_n hx hb dX11_rounds_36 rfl (lv_at hl 2 rfl) ?_
        have hJ77 : ∀ (f_77 : HP) (H : Heap) (locs : List Loc) (ls : Array Slot), va_P g.1 vwCl (va_pl L f_77) H → va_D A (va_pl L f_77) → va_S A s.heap H locs → TI g ad th f_77 → (∀ b, b ≠ (ad 255) → b ≠ (ad 265) → b ≠ (ad 266) → b ≠ (ad 267) → b ≠ (ad 268) → b ≠ (ad 269) → b ≠ (ad 270) → b ≠ (ad 261) → b ≠ (ad 262) → b ≠ (ad 263) → b ≠ (ad 264) → f_77 b = f b) → f_77 (ad 255) = .inr (10, [.int v0_25, .ref (ad 256), .int v2_25, .int v3_25, .int v4_25, .int v5_25, .int v6_25, .ref (ad 257), .int v8_25, .int v9_25, .ref (ad 258), .ref (ad 259), .int v12_25, .int v13_25, .int v14_25, .int v15_25, .int v16_25, .int v17_25, .int v18_25, .int v19_25, .int v20_25, .long v21_25, .long v22_25, .int v23_25, .ref (ad 260), .int v25_25, .ref (ad 261), .ref (ad 262), .ref (ad 263), .ref (ad 264), .ref (ad 265), .ref (ad 266), .ref (ad 267), .ref (ad 268), .ref (ad 269), .ref (ad 270), .int v36_25, .int v37_25, .int v38_25, .int v39_25, .int v40_25, .ref (ad 271), .ref (ad 272), .ref (ad 273), .ref (ad 274), .long v45_25, .long v46_25, .int v47_25, .int v48_25, .ref (ad 275), .int v50_25, .int v51_25, .ref (ad 276), .int v53_25, .ref (ad 277), .int v55_25]) → lv_has ls 4 [(0, .ref (ad 255)), (1, .int x10), (2, .int x18), (3, .int y28_l3)] → W p l e rm_X11_rounds s m [.ref (ad 255)].toArray below meth c H locs 0 0 (MQ below (va_Qv (po_X11_rounds g ad th L f ) (PstB g A) A) [.ref (ad 255)].toArray s rm_X11_rounds.cells rm_X11_rounds.slots A) (F0 m 77 ls []) := by
          intro f_77 H locs ls hP hD hS hT hfr hf39 hl
          obtain ⟨x40, ex40⟩ : ∃ y : Int32, y = y28_l3 + 1 := ⟨_, rfl⟩
          have hb41 : In x40 1 9 := ex40 ▸ In.add hb38 (⟨by decide, by decide⟩ : In 1 1 1) (by decide) (by decide) (by decide) (by decide)
          have et42 : x40.toInt = y28_l3.toInt + 1 := In.adde ex40 hb38 (k := 1) (by decide) (by decide) (by decide)
          refine lv_iinc (v := x40) (lv' := [(3, .int x40), (0, .ref (ad 255)), (1, .int x10), (2, .int x18)]) hx hb dX11_rounds_77 hl (k := 3) rfl (by rw [ex40]; rfl) (by decide) rfl (fun ls hl => ?_)
          refine lv_goto (tgt := 28) hx hb dX11_rounds_80 (by decide) ?_
          exact ih28 x40 _ _ _ _ (In.mono hb41 (by decide) (by decide)) hP hD hS hT hfr (lv_sub hl [1, 2, 3, 0] rfl) (msu et42 (by decide) hmz28)
        refine lv_if_ne (tgt := 48) hx hb dX11_rounds_37 (by decide) (fun c43 => ?_) (fun c43 => ?_)
        ·
          have oc0 : (0 : Int32).toInt = 0 := by decide
          have cc44 : x18.toInt ≠ (0 : Int32).toInt := i32_ne c43
          have hb45 : In x18 1 2 := In.ne1 hb19 (⟨by decide, by decide⟩ : In 0 0 0) cc44 (by decide) (by decide)
          refine lv_iload_n hx hb dX11_rounds_48 rfl (lv_at hl 2 rfl) ?_
          refine lv_aload_n hx hb dX11_rounds_49 rfl (lv_at hl 0 rfl) ?_
          refine call_i (run_V (rm := rm_X11_each) hx hb hml hown hts (s_X11_each l g ad th _ _ _  hst hT ) cV_X11_each wg_1636 ⟨Nat.le_of_ble_eq_true rfl, Nat.le_of_ble_eq_true rfl⟩ hG hE hA hP hD hS (hst.1 255 (by decide)) hf26 rfl rfl hl.1 (As := []) (rest := [.int x18]) rfl (Nat.le_of_ble_eq_true rfl) dX11_rounds_50 ⟨Nat.le_of_ble_eq_true rfl, Nat.le_of_ble_eq_true rfl⟩) hA hD hS (fun r46 L47 f48 H locs hp49 hP hD hS => ?_)
          obtain ⟨eL50L, eL50T, eL50R, eL50X0⟩ := hp49
          have eL50L : L47 = L := eL50L
          have eL50T : f48 = f_28 := eL50T
          rw [eL50L, eL50T] at hP hD
          have eL50R : In r46 2 3 := eL50R
          have hrn51 : r46.toInt = rnd (th 10) := eL50X0
          refine lv_iconst (v := 1) hx hb dX11_rounds_53 (by decide) ?_
          refine lv_isub hx hb dX11_rounds_54 ?_
          refine lv_topi (fun x52 ex52 => ?_)
          have hb53 : In x52 1 2 := ex52 ▸ In.sub eL50R (⟨by decide, by decide⟩ : In 1 1 1) (by decide) (by decide) (by decide) (by decide)
          have et54 : x52.toInt = r46.toInt + (-1) := In.sube ex52 eL50R (k := 1) (by decide) (by decide) (by decide)
          refine lv_icmp_ne (tgt := 72) hx hb dX11_rounds_55 (by decide) (fun c55 => ?_) (fun c55 => ?_)
          ·
            have cc56 : x18.toInt ≠ x52.toInt := i32_ne c55
            refine lv_aload_n hx hb dX11_rounds_72 rfl (lv_at hl 0 rfl) ?_
            refine lv_iload_n hx hb dX11_rounds_73 rfl (lv_at hl 3 rfl) ?_
            refine call_v (run_V (rm := rm_X11_hearsOffers) hx hb hml hown hts (s_X11_hearsOffers l g ad th _ _ _ y28_l3 hst hT hb38) cV_X11_hearsOffers wg_1695 ⟨Nat.le_of_ble_eq_true rfl, Nat.le_of_ble_eq_true rfl⟩ hG hE hA hP hD hS (hst.1 255 (by decide)) hf26 rfl rfl hl.1 (As := [.int y28_l3]) (rest := []) rfl (Nat.le_of_ble_eq_true rfl) dX11_rounds_74 ⟨Nat.le_of_ble_eq_true rfl, Nat.le_of_ble_eq_true rfl⟩) hA hD hS (fun L58 f59 H locs hp60 hP hD hS => ?_)
            obtain ⟨eL61L, eL61T, eL61F⟩ := hp60
            have eL61L : L58 = L := eL61L
            rw [eL61L] at hP hD
            have hT : TI g ad th f59 := eL61T
            have eL61F : ∀ b, b ≠ (ad 266) → b ≠ (ad 267) → b ≠ (ad 269) → b ≠ (ad 261) → f59 b = f_28 b := eL61F
            have hf62 := (eL61F (ad 255) (hst.ne (by decide) (by decide) (by decide)) (hst.ne (by decide) (by decide) (by decide)) (hst.ne (by decide) (by decide) (by decide)) (hst.ne (by decide) (by decide) (by decide))).trans hf26
            have hfr : (∀ b, b ≠ (ad 255) → b ≠ (ad 265) → b ≠ (ad 266) → b ≠ (ad 267) → b ≠ (ad 268) → b ≠ (ad 269) → b ≠ (ad 270) → b ≠ (ad 261) → b ≠ (ad 262) → b ≠ (ad 263) → b ≠ (ad 264) → f59 b = f b) := fun b z0_ z1_ z2_ z3_ z4_ z5_ z6_ z7_ z8_ z9_ z10_ => (eL61F b z2_ z3_ z5_ z7_).trans (hfr b z0_ z1_ z2_ z3_ z4_ z5_ z6_ z7_ z8_ z9_ z10_)
            exact hJ77 _ _ _ _ hP hD hS hT hfr hf62 (lv_sub hl [0, 1, 2, 3] rfl)
          ·
            have cc63 : x18.toInt = x52.toInt := congrArg Int32.toInt c55
            refine lv_aload_n hx hb dX11_rounds_58 rfl (lv_at hl 0 rfl) ?_
            refine lv_iload_n hx hb dX11_rounds_59 rfl (lv_at hl 3 rfl) ?_
            refine lv_iload_n hx hb dX11_rounds_60 rfl (lv_at hl 1 rfl) ?_
            refine lv_aload_n hx hb dX11_rounds_61 rfl (lv_at hl 0 rfl) ?_
            refine pl_get (v := .int v15_25) hx hb hts (fun w h => mT (inX11 w h)) hown hG.1 hP (hst.1 255 (by decide)) hf26 rfl 15 (by decide) (hts _ (mT wg_1351)) (fun _ h => h) rfl dX11_rounds_62 ?_
            refine lv_irem hx hb dX11_rounds_65 (In.ne0 hb27 (by decide)) ?_
            refine lv_topi (fun x64 ex64 => ?_)
            have hb65 : In x64 0 8 := ex64 ▸ In.rem hb11 hb27 (by decide) (by decide) (by decide)
            refine call_v (run_V (rm := rm_X11_hearsRuler) hx hb hml hown hts (s_X11_hearsRuler l g ad th _ _ _ y28_l3 x64 hst hT hb38 hb65) cV_X11_hearsRuler wg_1691 ⟨Nat.le_of_ble_eq_true rfl, Nat.le_of_ble_eq_true rfl⟩ hG hE hA hP hD hS (hst.1 255 (by decide)) hf26 rfl rfl hl.1 (As := [.int y28_l3, .int x64]) (rest := []) rfl (Nat.le_of_ble_eq_true rfl) dX11_rounds_66 ⟨Nat.le_of_ble_eq_true rfl, Nat.le_of_ble_eq_true rfl⟩) hA hD hS (fun L67 f68 H locs hp69 hP hD hS => ?_)
            obtain ⟨eL70L, eL70T, eL70F⟩ := hp69
            have eL70L : L67 = L := eL70L
            rw [eL70L] at hP hD
            have hT : TI g ad th f68 := eL70T
            have eL70F : ∀ b, b ≠ (ad 270) → b ≠ (ad 261) → b ≠ (ad 262) → f68 b = f_28 b := eL70F
            have hf71 := (eL70F (ad 255) (hst.ne (by decide) (by decide) (by decide)) (hst.ne (by decide) (by decide) (by decide)) (hst.ne (by decide) (by decide) (by decide))).trans hf26
            have hfr : (∀ b, b ≠ (ad 255) → b ≠ (ad 265) → b ≠ (ad 266) → b ≠ (ad 267) → b ≠ (ad 268) → b ≠ (ad 269) → b ≠ (ad 270) → b ≠ (ad 261) → b ≠ (ad 262) → b ≠ (ad 263) → b ≠ (ad 264) → f68 b = f b) := fun b z0_ z1_ z2_ z3_ z4_ z5_ z6_ z7_ z8_ z9_ z10_ => (eL70F b z6_ z7_ z8_).trans (hfr b z0_ z1_ z2_ z3_ z4_ z5_ z6_ z7_ z8_ z9_ z10_)
            refine lv_goto (tgt := 77) hx hb dX11_rounds_69 (by decide) ?_
            exact hJ77 _ _ _ _ hP hD hS hT hfr hf71 (lv_sub hl [0, 1, 2, 3] rfl)
        ·
          have oc0 : (0 : Int32).toInt = 0 := by decide
          have cc72 : x18.toInt = (0 : Int32).toInt := congrArg Int32.toInt c43
          have hb73 : In x18 0 0 := In.eq1 hb19 (⟨by decide, by decide⟩ : In 0 0 0) cc72 (by decide) (by decide)
          refine lv_aload_n hx hb dX11_rounds_40 rfl (lv_at hl 0 rfl) ?_
          refine lv_iload_n hx hb dX11_rounds_41 rfl (lv_at hl 3 rfl) ?_
          refine call_v (run_V (rm := rm_X11_hearsAll) hx hb hml hown hts (s_X11_hearsAll l g ad th _ _ _ y28_l3 hst hT hb38) cV_X11_hearsAll wg_1682 ⟨Nat.le_of_ble_eq_true rfl, Nat.le_of_ble_eq_true rfl⟩ hG hE hA hP hD hS (hst.1 255 (by decide)) hf26 rfl rfl hl.1 (As := [.int y28_l3]) (rest := []) rfl (Nat.le_of_ble_eq_true rfl) dX11_rounds_42 ⟨Nat.le_of_ble_eq_true rfl, Nat.le_of_ble_eq_true rfl⟩) hA hD hS (fun L75 f76 H locs hp77 hP hD hS => ?_)
          obtain ⟨eL78L, eL78T, eL78F⟩ := hp77
          have eL78L : L75 = L := eL78L
          rw [eL78L] at hP hD
          have hT : TI g ad th f76 := eL78T
          have eL78F : ∀ b, b ≠ (ad 265) → b ≠ (ad 269) → b ≠ (ad 263) → b ≠ (ad 264) → f76 b = f_28 b := eL78F
          have hf79 := (eL78F (ad 255) (hst.ne (by decide) (by decide) (by decide)) (hst.ne (by decide) (by decide) (by decide)) (hst.ne (by decide) (by decide) (by decide)) (hst.ne (by decide) (by decide) (by decide))).trans hf26
          have hfr : (∀ b, b ≠ (ad 255) → b ≠ (ad 265) → b ≠ (ad 266) → b ≠ (ad 267) → b ≠ (ad 268) → b ≠ (ad 269) → b ≠ (ad 270) → b ≠ (ad 261) → b ≠ (ad 262) → b ≠ (ad 263) → b ≠ (ad 264) → f76 b = f b) := fun b z0_ z1_ z2_ z3_ z4_ z5_ z6_ z7_ z8_ z9_ z10_ => (eL78F b z1_ z5_ z9_ z10_).trans (hfr b z0_ z1_ z2_ z3_ z4_ z5_ z6_ z7_ z8_ z9_ z10_)
          refine lv_goto (tgt := 77) hx hb dX11_rounds_45 (by decide) ?_
          exact hJ77 _ _ _ _ hP hD hS hT hfr hf79 (lv_sub hl [0, 1, 2, 3] rfl)
  exact hJ28 ((9 - (0 : Int32).toInt).toNat + 1) 0 _ _ _ _ (⟨by decide, by decide⟩ : In 0 0 9) hP hD hS hT hfr (lv_sub hl [3, 2, 1, 0] rfl) (msI _)

abbrev rm_X11_areAgreed : Room := { frames := 2, cells := 0, slots := 0, locals := 42 }
abbrev po_X11_areAgreed (g : GG) (ad : Nat → Nat) (th : Nat → Int) (L : List Nat) (f : HP)  : Int32 → (List Nat × HP) → Prop := fun r u => u.1 = L ∧ u.2 = f ∧ In r 0 1
set_option maxHeartbeats 4000000 in
set_option maxRecDepth 100000 in
theorem s_X11_areAgreed (l : Launch) (g : GG) (ad : Nat → Nat) (th : Nat → Int) (L : List Nat) (f : HP) (sz : Nat)  (hst : ST ad L) (hT : TI g ad th f) (hn3 : 3 ≤ th 11) : MtI l g yX11_areAgreed cX11_areAgreed 3 (some .boolean) rm_X11_areAgreed [.ref (ad 255)] L f sz (po_X11_areAgreed g ad th L f ) := by
  refine MtI.of (by decide +kernel) (Nat.le_of_ble_eq_true rfl) ?_
  intro p e s m below meth c A hEn hP hD hS ls hl
  obtain ⟨hx, hb, hr, hml, hown, hlocks, hts, hG, hA, hE, hnm⟩ := hEn
  have hown : s.vm.findClass "RulerWordModel" = some m.cls := hown
  have hl : lv_has ls 3 [(0, .ref (ad 255))] := hl
  refine M0e hT (fun v0_1 v2_1 v3_1 v4_1 v5_1 v6_1 v8_1 v9_1 v12_1 v13_1 v14_1 v15_1 v16_1 v17_1 v18_1 v19_1 v20_1 v21_1 v22_1 v23_1 v25_1 v36_1 v37_1 v38_1 v39_1 v40_1 v45_1 v46_1 v47_1 v48_1 v50_1 v51_1 v53_1 v55_1 hf2 hv0_1 hv2_1 hg2_1 hv3_1 hg3_1 hv4_1 hg4_1 hv5_1 hg5_1 hv6_1 hg6_1 hv8_1 hg8_1 hv9_1 hg9_1 hv12_1 hv13_1 hg13_1 hv14_1 hg14_1 hv15_1 hg15_1 hv17_1 hg17_1 hv20_1 hg20_1 hv23_1 hg23_1 hv25_1 hg25_1 hv36_1 hg36_1 hv47_1 hg47_1 hv48_1 hg48_1 hv53_1 hg53_1 hv55_1 hg55_1 hrel0_1 => ?_)
  have hg15_1 : v15_1.toInt = th 11 := hg15_1
  have hg17_1 : v17_1.toInt = th 12 := hg17_1
  have hg20_1 : v20_1.toInt = th 14 := hg20_1
  have hb3 : In v15_1 3 9 := ⟨by rw [hg15_1]; exact hn3, hv15_1.2⟩
  have hfz : 0 ≤ fzI (th 14) ∧ fzI (th 14) < th 11 := by rw [← hg20_1, ← hg15_1]; exact fz_capI hv20_1 ⟨by omega, hb3.2⟩ hrel0_1
  have h14 : 0 ≤ th 14 ∧ th 14 ≤ 511 ∧ th 11 ≤ 9 := by obtain ⟨q1, q2⟩ := (hv20_1 : In _ _ _); obtain ⟨q3, q4⟩ := (hb3 : In _ _ _); exact ⟨by omega, by omega, by omega⟩
  refine lv_iconst (v := 0) hx hb dX11_areAgreed_0 (by decide) ?_
  refine lv_istore_n (lv' := [(1, .int 0), (0, .ref (ad 255))]) hx hb dX11_areAgreed_1 rfl hl (by decide) rfl (fun ls hl => ?_)
  have hJ2 : ∀ (k2 : Nat) (y2_l1 : Int32) (H : Heap) (locs : List Loc) (ls : Array Slot), In y2_l1 0 8 → va_P g.1 vwCl (va_pl L f) H → va_D A (va_pl L f) → va_S A s.heap H locs → (y2_l1.toInt ≤ fzI (th 14)) → lv_has ls 3 [(0, .ref (ad 255)), (1, .int y2_l1)] → 8 - y2_l1.toInt < ((k2 : Nat) : Int) → W p l e rm_X11_areAgreed s m [.ref (ad 255)].toArray below meth c H locs 0 0 (MQ below (va_Qi (po_X11_areAgreed g ad th L f ) (PstB g A) A) [.ref (ad 255)].toArray s rm_X11_areAgreed.cells rm_X11_areAgreed.slots A) (F0 m 2 ls []) := by
    intro k2
    induction k2 with
    | zero =>
      intro y2_l1 H locs ls hy2_l1 hP hD hS hxi2_0 hl hmz2
      exact ms0 hy2_l1 hmz2
    | succ k2 ih2 =>
      intro y2_l1 H locs ls hy2_l1 hP hD hS hxi2_0 hl hmz2
      refine lv_aload_n hx hb dX11_areAgreed_2 rfl (lv_at hl 0 rfl) ?_
      refine lv_iload_n hx hb dX11_areAgreed_3 rfl (lv_at hl 1 rfl) ?_
      refine call_i (run_V (rm := rm_X11_isLiar) hx hb hml hown hts (s_X11_isLiar l g ad th _ _ _ y2_l1 hst hT ) cV_X11_isLiar wg_1664 ⟨Nat.le_of_ble_eq_true rfl, Nat.le_of_ble_eq_true rfl⟩ hG hE hA hP hD hS (hst.1 255 (by decide)) hf2 rfl rfl hl.1 (As := [.int y2_l1]) (rest := []) rfl (Nat.le_of_ble_eq_true rfl) dX11_areAgreed_4 ⟨Nat.le_of_ble_eq_true rfl, Nat.le_of_ble_eq_true rfl⟩) hA hD hS (fun r4 L5 f6 H locs hp7 hP hD hS => ?_)
      obtain ⟨eL8L, eL8T, eL8R, eL8X0⟩ := hp7
      have eL8L : L5 = L := eL8L
      have eL8T : f6 = f := eL8T
      rw [eL8L, eL8T] at hP hD
      have eL8R : In r4 0 1 := eL8R
      have hbl9 : r4.toInt = bitI (th 14) y2_l1.toInt := eL8X0 (In.mono hy2_l1 (by decide) (by decide))
      refine lv_if_eq (tgt := 16) hx hb dX11_areAgreed_7 (by decide) (fun c10 => ?_) (fun c10 => ?_)
      ·
        have oc0 : (0 : Int32).toInt = 0 := by decide
        have cc11 : r4.toInt = (0 : Int32).toInt := congrArg Int32.toInt c10
        have hb12 : In r4 0 0 := In.eq1 eL8R (⟨by decide, by decide⟩ : In 0 0 0) cc11 (by decide) (by decide)
        refine lv_iload_n hx hb dX11_areAgreed_16 rfl (lv_at hl 1 rfl) ?_
        refine lv_istore_n (lv' := [(2, .int y2_l1), (0, .ref (ad 255)), (1, .int y2_l1)]) hx hb dX11_areAgreed_17 rfl hl (by decide) rfl (fun ls hl => ?_)
        have hJ18 : ∀ (k18 : Nat) (y18_l2 : Int32) (H : Heap) (locs : List Loc) (ls : Array Slot), In y18_l2 0 9 → va_P g.1 vwCl (va_pl L f) H → va_D A (va_pl L f) → va_S A s.heap H locs → lv_has ls 3 [(0, .ref (ad 255)), (1, .int y2_l1), (2, .int y18_l2)] → 9 - y18_l2.toInt < ((k18 : Nat) : Int) → W p l e rm_X11_areAgreed s m [.ref (ad 255)].toArray below meth c H locs 0 0 (MQ below (va_Qi (po_X11_areAgreed g ad th L f ) (PstB g A) A) [.ref (ad 255)].toArray s rm_X11_areAgreed.cells rm_X11_areAgreed.slots A) (F0 m 18 ls []) := by
          intro k18
          induction k18 with
          | zero =>
            intro y18_l2 H locs ls hy18_l2 hP hD hS hl hmz18
            exact ms0 hy18_l2 hmz18
          | succ k18 ih18 =>
            intro y18_l2 H locs ls hy18_l2 hP hD hS hl hmz18
            refine lv_iload_n hx hb dX11_areAgreed_18 rfl (lv_at hl 2 rfl) ?_
            refine lv_aload_n hx hb dX11_areAgreed_19 rfl (lv_at hl 0 rfl) ?_
            refine pl_get (v := .int v15_1) hx hb hts (fun w h => mT (inX11 w h)) hown hG.1 hP (hst.1 255 (by decide)) hf2 rfl 15 (by decide) (hts _ (mT wg_1351)) (fun _ h => h) rfl dX11_areAgreed_20 ?_
            refine lv_icmp_ge (tgt := 57) hx hb dX11_areAgreed_23 (by decide) (fun c13 => ?_) (fun c13 => ?_)
            ·
              have cc14 : v15_1.toInt ≤ y18_l2.toInt := i32_le.mp c13
              have hb15 : In y18_l2 3 9 := In.ge1 hy18_l2 hb3 cc14 (by decide) (by decide)
              refine lv_iconst (v := 1) hx hb dX11_areAgreed_57 (by decide) ?_
              exact ret_i (ty := .boolean) hx hb hr hlocks (rfl) hP hD hS (Nat.le_of_ble_eq_true rfl) (Nat.le_of_ble_eq_true rfl) (⟨rfl, rfl, (⟨by decide, by decide⟩ : In 1 0 1)⟩) dX11_areAgreed_58
            ·
              have cc16 : y18_l2.toInt < v15_1.toInt := i32_nle c13
              have hb17 : In y18_l2 0 8 := In.lt1 hy18_l2 hb3 cc16 (by decide) (by decide)
              refine lv_aload_n hx hb dX11_areAgreed_26 rfl (lv_at hl 0 rfl) ?_
              refine lv_iload_n hx hb dX11_areAgreed_27 rfl (lv_at hl 2 rfl) ?_
              refine call_i (run_V (rm := rm_X11_isLiar) hx hb hml hown hts (s_X11_isLiar l g ad th _ _ _ y18_l2 hst hT ) cV_X11_isLiar wg_1664 ⟨Nat.le_of_ble_eq_true rfl, Nat.le_of_ble_eq_true rfl⟩ hG hE hA hP hD hS (hst.1 255 (by decide)) hf2 rfl rfl hl.1 (As := [.int y18_l2]) (rest := []) rfl (Nat.le_of_ble_eq_true rfl) dX11_areAgreed_28 ⟨Nat.le_of_ble_eq_true rfl, Nat.le_of_ble_eq_true rfl⟩) hA hD hS (fun r18 L19 f20 H locs hp21 hP hD hS => ?_)
              obtain ⟨eL22L, eL22T, eL22R, eL22X0⟩ := hp21
              have eL22L : L19 = L := eL22L
              have eL22T : f20 = f := eL22T
              rw [eL22L, eL22T] at hP hD
              have eL22R : In r18 0 1 := eL22R
              have hbl23 : r18.toInt = bitI (th 14) y18_l2.toInt := eL22X0 (In.mono hb17 (by decide) (by decide))
              have hJ51 : ∀ (H : Heap) (locs : List Loc) (ls : Array Slot), va_P g.1 vwCl (va_pl L f) H → va_D A (va_pl L f) → va_S A s.heap H locs → lv_has ls 3 [(0, .ref (ad 255)), (1, .int y2_l1), (2, .int y18_l2)] → W p l e rm_X11_areAgreed s m [.ref (ad 255)].toArray below meth c H locs 0 0 (MQ below (va_Qi (po_X11_areAgreed g ad th L f ) (PstB g A) A) [.ref (ad 255)].toArray s rm_X11_areAgreed.cells rm_X11_areAgreed.slots A) (F0 m 51 ls []) := by
                intro H locs ls hP hD hS hl
                obtain ⟨x24, ex24⟩ : ∃ y : Int32, y = y18_l2 + 1 := ⟨_, rfl⟩
                have hb25 : In x24 1 9 := ex24 ▸ In.add hb17 (⟨by decide, by decide⟩ : In 1 1 1) (by decide) (by decide) (by decide) (by decide)
                have et26 : x24.toInt = y18_l2.toInt + 1 := In.adde ex24 hb17 (k := 1) (by decide) (by decide) (by decide)
                refine lv_iinc (v := x24) (lv' := [(2, .int x24), (0, .ref (ad 255)), (1, .int y2_l1)]) hx hb dX11_areAgreed_51 hl (k := 2) rfl (by rw [ex24]; rfl) (by decide) rfl (fun ls hl => ?_)
                refine lv_goto (tgt := 18) hx hb dX11_areAgreed_54 (by decide) ?_
                exact ih18 x24 _ _ _ (In.mono hb25 (by decide) (by decide)) hP hD hS (lv_sub hl [1, 2, 0] rfl) (msu et26 (by decide) hmz18)
              refine lv_if_ne (tgt := 51) hx hb dX11_areAgreed_31 (by decide) (fun c27 => ?_) (fun c27 => ?_)
              ·
                have oc0 : (0 : Int32).toInt = 0 := by decide
                have cc28 : r18.toInt ≠ (0 : Int32).toInt := i32_ne c27
                have hb29 : In r18 1 1 := In.ne1 eL22R (⟨by decide, by decide⟩ : In 0 0 0) cc28 (by decide) (by decide)
                exact hJ51 _ _ _ hP hD hS (lv_sub hl [0, 1, 2] rfl)
              ·
                have oc0 : (0 : Int32).toInt = 0 := by decide
                have cc30 : r18.toInt = (0 : Int32).toInt := congrArg Int32.toInt c27
                have hb31 : In r18 0 0 := In.eq1 eL22R (⟨by decide, by decide⟩ : In 0 0 0) cc30 (by decide) (by decide)
                refine lv_aload_n hx hb dX11_areAgreed_34 rfl (lv_at hl 0 rfl) ?_
                refine pl_get (v := .ref (ad 261)) hx hb hts (fun w h => mT (inX11 w h)) hown hG.1 hP (hst.1 255 (by decide)) hf2 rfl 26 (by decide) (hts _ (mT wg_1362)) (fun _ h => h) rfl dX11_areAgreed_35 ?_
                refine lv_iload_n hx hb dX11_areAgreed_38 rfl (lv_at hl 2 rfl) ?_
                obtain ⟨rw32, hf33⟩ := hT.2.2 6 (by decide)
                have hin34 : vp_in y18_l2 9 := In.inb hb17 (by decide) (by decide)
                refine pl_iald hx hb hG.1 hP (hst.1 261 (by decide)) 0 hf33 rfl hin34 dX11_areAgreed_39 ?_
                refine lv_topi (fun x35 ex35 => ?_)
                refine lv_aload_n hx hb dX11_areAgreed_40 rfl (lv_at hl 0 rfl) ?_
                refine pl_get (v := .ref (ad 261)) hx hb hts (fun w h => mT (inX11 w h)) hown hG.1 hP (hst.1 255 (by decide)) hf2 rfl 26 (by decide) (hts _ (mT wg_1362)) (fun _ h => h) rfl dX11_areAgreed_41 ?_
                refine lv_iload_n hx hb dX11_areAgreed_44 rfl (lv_at hl 1 rfl) ?_
                have hin36 : vp_in y2_l1 9 := In.inb hy2_l1 (by decide) (by decide)
                refine pl_iald hx hb hG.1 hP (hst.1 261 (by decide)) 0 hf33 rfl hin36 dX11_areAgreed_45 ?_
                refine lv_topi (fun x37 ex37 => ?_)
                refine lv_icmp_eq (tgt := 51) hx hb dX11_areAgreed_46 (by decide) (fun c38 => ?_) (fun c38 => ?_)
                ·
                  have cc39 : x35.toInt = x37.toInt := congrArg Int32.toInt c38
                  exact hJ51 _ _ _ hP hD hS (lv_sub hl [0, 1, 2] rfl)
                ·
                  have cc40 : x35.toInt ≠ x37.toInt := i32_ne c38
                  refine lv_iconst (v := 0) hx hb dX11_areAgreed_49 (by decide) ?_
                  exact ret_i (ty := .boolean) hx hb hr hlocks (rfl) hP hD hS (Nat.le_of_ble_eq_true rfl) (Nat.le_of_ble_eq_true rfl) (⟨rfl, rfl, (⟨by decide, by decide⟩ : In 0 0 1)⟩) dX11_areAgreed_50
        exact hJ18 ((9 - y2_l1.toInt).toNat + 1) y2_l1 _ _ _ (In.mono hy2_l1 (by decide) (by decide)) hP hD hS (lv_sub hl [1, 2, 0] rfl) (msI _)
      ·
        have oc0 : (0 : Int32).toInt = 0 := by decide
        have cc41 : r4.toInt ≠ (0 : Int32).toInt := i32_ne c10
        have hb42 : In r4 1 1 := In.ne1 eL8R (⟨by decide, by decide⟩ : In 0 0 0) cc41 (by decide) (by decide)
        have hfs := fz_step ⟨h14.1, h14.2.1⟩ (hy2_l1).1 hxi2_0 (by have ob10 : (0 : Int) ≤ (th 10) ∧ (th 10) ≤ 1 := (b0_10 hT :); have ob11 : (0 : Int) ≤ (th 11) ∧ (th 11) ≤ 9 := (b0_11 hT :); have ob12 : (0 : Int) ≤ (th 12) ∧ (th 12) ≤ 6 := (b0_12 hT :); have ob14 : (0 : Int) ≤ (th 14) ∧ (th 14) ≤ 511 := (b0_14 hT :); have ob15 : (0 : Int) ≤ (th 15) ∧ (th 15) ≤ 1 := (b0_15 hT :); have ob16 : (0 : Int) ≤ (th 16) ∧ (th 16) ≤ 20 := (b0_16 hT :); have ob17 : (0 : Int) ≤ (th 17) ∧ (th 17) ≤ 1 := (b0_17 hT :); have ob18 : (0 : Int) ≤ (th 18) ∧ (th 18) ≤ 18 := (b0_18 hT :); have ob38 : (0 : Int) ≤ (th 38) ∧ (th 38) ≤ 400 := (b0_38 hT :); have ob39 : (0 : Int) ≤ (th 39) ∧ (th 39) ≤ 200 := (b0_39 hT :); have ob44 : (0 : Int) ≤ (th 44) ∧ (th 44) ≤ 30 := (b0_44 hT :); have orn := rnd_b (th 10); obtain ⟨o0a, o0b⟩ := (hb42 : In _ _ _); obtain ⟨o1a, o1b⟩ := (hv14_1 : In _ _ _); obtain ⟨o2a, o2b⟩ := (hb3 : In _ _ _); obtain ⟨o3a, o3b⟩ := (hv17_1 : In _ _ _); obtain ⟨o4a, o4b⟩ := (hv20_1 : In _ _ _); obtain ⟨o5a, o5b⟩ := (hv23_1 : In _ _ _); obtain ⟨o6a, o6b⟩ := (hv25_1 : In _ _ _); obtain ⟨o7a, o7b⟩ := (hv36_1 : In _ _ _); obtain ⟨o8a, o8b⟩ := (hv47_1 : In _ _ _); obtain ⟨o9a, o9b⟩ := (hv48_1 : In _ _ _); obtain ⟨o10a, o10b⟩ := (hv53_1 : In _ _ _); obtain ⟨o11a, o11b⟩ := (hv55_1 : In _ _ _); omega)
        obtain ⟨x43, ex43⟩ : ∃ y : Int32, y = y2_l1 + 1 := ⟨_, rfl⟩
        have hb44 : In x43 1 9 := ex43 ▸ In.add hy2_l1 (⟨by decide, by decide⟩ : In 1 1 1) (by decide) (by decide) (by decide) (by decide)
        have et45 : x43.toInt = y2_l1.toInt + 1 := In.adde ex43 hy2_l1 (k := 1) (by decide) (by decide) (by decide)
        refine lv_iinc (v := x43) (lv' := [(1, .int x43), (0, .ref (ad 255))]) hx hb dX11_areAgreed_10 hl (k := 1) rfl (by rw [ex43]; rfl) (by decide) rfl (fun ls hl => ?_)
        refine lv_goto (tgt := 2) hx hb dX11_areAgreed_13 (by decide) ?_
        exact ih2 x43 _ _ _ (In.mk (by have ob10 : (0 : Int) ≤ (th 10) ∧ (th 10) ≤ 1 := (b0_10 hT :); have ob11 : (0 : Int) ≤ (th 11) ∧ (th 11) ≤ 9 := (b0_11 hT :); have ob12 : (0 : Int) ≤ (th 12) ∧ (th 12) ≤ 6 := (b0_12 hT :); have ob14 : (0 : Int) ≤ (th 14) ∧ (th 14) ≤ 511 := (b0_14 hT :); have ob15 : (0 : Int) ≤ (th 15) ∧ (th 15) ≤ 1 := (b0_15 hT :); have ob16 : (0 : Int) ≤ (th 16) ∧ (th 16) ≤ 20 := (b0_16 hT :); have ob17 : (0 : Int) ≤ (th 17) ∧ (th 17) ≤ 1 := (b0_17 hT :); have ob18 : (0 : Int) ≤ (th 18) ∧ (th 18) ≤ 18 := (b0_18 hT :); have ob38 : (0 : Int) ≤ (th 38) ∧ (th 38) ≤ 400 := (b0_38 hT :); have ob39 : (0 : Int) ≤ (th 39) ∧ (th 39) ≤ 200 := (b0_39 hT :); have ob44 : (0 : Int) ≤ (th 44) ∧ (th 44) ≤ 30 := (b0_44 hT :); have orn := rnd_b (th 10); obtain ⟨o0a, o0b⟩ := (hb44 : In _ _ _); obtain ⟨o1a, o1b⟩ := (hv14_1 : In _ _ _); obtain ⟨o2a, o2b⟩ := (hb3 : In _ _ _); obtain ⟨o3a, o3b⟩ := (hv17_1 : In _ _ _); obtain ⟨o4a, o4b⟩ := (hv20_1 : In _ _ _); obtain ⟨o5a, o5b⟩ := (hv23_1 : In _ _ _); obtain ⟨o6a, o6b⟩ := (hv25_1 : In _ _ _); obtain ⟨o7a, o7b⟩ := (hv36_1 : In _ _ _); obtain ⟨o8a, o8b⟩ := (hv47_1 : In _ _ _); obtain ⟨o9a, o9b⟩ := (hv48_1 : In _ _ _); obtain ⟨o10a, o10b⟩ := (hv53_1 : In _ _ _); obtain ⟨o11a, o11b⟩ := (hv55_1 : In _ _ _); obtain ⟨o12a, o12b⟩ := (hy2_l1 : In _ _ _); omega) (by have ob10 : (0 : Int) ≤ (th 10) ∧ (th 10) ≤ 1 := (b0_10 hT :); have ob11 : (0 : Int) ≤ (th 11) ∧ (th 11) ≤ 9 := (b0_11 hT :); have ob12 : (0 : Int) ≤ (th 12) ∧ (th 12) ≤ 6 := (b0_12 hT :); have ob14 : (0 : Int) ≤ (th 14) ∧ (th 14) ≤ 511 := (b0_14 hT :); have ob15 : (0 : Int) ≤ (th 15) ∧ (th 15) ≤ 1 := (b0_15 hT :); have ob16 : (0 : Int) ≤ (th 16) ∧ (th 16) ≤ 20 := (b0_16 hT :); have ob17 : (0 : Int) ≤ (th 17) ∧ (th 17) ≤ 1 := (b0_17 hT :); have ob18 : (0 : Int) ≤ (th 18) ∧ (th 18) ≤ 18 := (b0_18 hT :); have ob38 : (0 : Int) ≤ (th 38) ∧ (th 38) ≤ 400 := (b0_38 hT :); have ob39 : (0 : Int) ≤ (th 39) ∧ (th 39) ≤ 200 := (b0_39 hT :); have ob44 : (0 : Int) ≤ (th 44) ∧ (th 44) ≤ 30 := (b0_44 hT :); have orn := rnd_b (th 10); obtain ⟨o0a, o0b⟩ := (hb44 : In _ _ _); obtain ⟨o1a, o1b⟩ := (hv14_1 : In _ _ _); obtain ⟨o2a, o2b⟩ := (hb3 : In _ _ _); obtain ⟨o3a, o3b⟩ := (hv17_1 : In _ _ _); obtain ⟨o4a, o4b⟩ := (hv20_1 : In _ _ _); obtain ⟨o5a, o5b⟩ := (hv23_1 : In _ _ _); obtain ⟨o6a, o6b⟩ := (hv25_1 : In _ _ _); obtain ⟨o7a, o7b⟩ := (hv36_1 : In _ _ _); obtain ⟨o8a, o8b⟩ := (hv47_1 : In _ _ _); obtain ⟨o9a, o9b⟩ := (hv48_1 : In _ _ _); obtain ⟨o10a, o10b⟩ := (hv53_1 : In _ _ _); obtain ⟨o11a, o11b⟩ := (hv55_1 : In _ _ _); obtain ⟨o12a, o12b⟩ := (hy2_l1 : In _ _ _); omega)) hP hD hS (by omega) (lv_sub hl [1, 0] rfl) (msu et45 (by decide) hmz2)
  exact hJ2 ((8 - (0 : Int32).toInt).toNat + 1) 0 _ _ _ (⟨by decide, by decide⟩ : In 0 0 8) hP hD hS hfz.1 (lv_sub hl [1, 0] rfl) (msI _)

abbrev rm_X11_holders : Room := { frames := 0, cells := 0, slots := 0, locals := 0 }
abbrev po_X11_holders (g : GG) (ad : Nat → Nat) (th : Nat → Int) (L : List Nat) (f : HP)  : Int32 → (List Nat × HP) → Prop := fun _ u => u.1 = L ∧ u.2 = f
set_option maxHeartbeats 4000000 in
set_option maxRecDepth 100000 in
theorem s_X11_holders (l : Launch) (g : GG) (ad : Nat → Nat) (th : Nat → Int) (L : List Nat) (f : HP) (sz : Nat)  (hst : ST ad L) (hT : TI g ad th f)  : MtI l g yX11_holders cX11_holders 3 (some .int) rm_X11_holders [.ref (ad 255)] L f sz (po_X11_holders g ad th L f ) := by
  refine MtI.of (by decide +kernel) (Nat.le_of_ble_eq_true rfl) ?_
  intro p e s m below meth c A hEn hP hD hS ls hl
  obtain ⟨hx, hb, hr, hml, hown, hlocks, hts, hG, hA, hE, hnm⟩ := hEn
  have hown : s.vm.findClass "RulerWordModel" = some m.cls := hown
  have hl : lv_has ls 3 [(0, .ref (ad 255))] := hl
  refine lv_iconst (v := 0) hx hb dX11_holders_0 (by decide) ?_
  refine lv_istore_n (lv' := [(1, .int 0), (0, .ref (ad 255))]) hx hb dX11_holders_1 rfl hl (by decide) rfl (fun ls hl => ?_)
  refine lv_iconst (v := 0) hx hb dX11_holders_2 (by decide) ?_
  refine lv_istore_n (lv' := [(2, .int 0), (1, .int 0), (0, .ref (ad 255))]) hx hb dX11_holders_3 rfl hl (by decide) rfl (fun ls hl => ?_)
  have hJ4 : ∀ (k4 : Nat) (y4_l1 : Int32) (y4_l2 : Int32) (H : Heap) (locs : List Loc) (ls : Array Slot), In y4_l1 (-2147483648) 2147483647 → In y4_l2 0 9 → va_P g.1 vwCl (va_pl L f) H → va_D A (va_pl L f) → va_S A s.heap H locs → lv_has ls 3 [(0, .ref (ad 255)), (1, .int y4_l1), (2, .int y4_l2)] → 9 - y4_l2.toInt < ((k4 : Nat) : Int) → W p l e rm_X11_holders s m [.ref (ad 255)].toArray below meth c H locs 0 0 (MQ below (va_Qi (po_X11_holders g ad th L f ) (PstB g A) A) [.ref (ad 255)].toArray s rm_X11_holders.cells rm_X11_holders.slots A) (F0 m 4 ls []) := by
    intro k4
    induction k4 with
    | zero =>
      intro y4_l1 y4_l2 H locs ls hy4_l1 hy4_l2 hP hD hS hl hmz4
      exact ms0 hy4_l2 hmz4
    | succ k4 ih4 =>
      intro y4_l1 y4_l2 H locs ls hy4_l1 hy4_l2 hP hD hS hl hmz4
      refine lv_iload_n hx hb dX11_holders_4 rfl (lv_at hl 2 rfl) ?_
      refine lv_aload_n hx hb dX11_holders_5 rfl (lv_at hl 0 rfl) ?_
      refine M0e hT (fun v0_1 v2_1 v3_1 v4_1 v5_1 v6_1 v8_1 v9_1 v12_1 v13_1 v14_1 v15_1 v16_1 v17_1 v18_1 v19_1 v20_1 v21_1 v22_1 v23_1 v25_1 v36_1 v37_1 v38_1 v39_1 v40_1 v45_1 v46_1 v47_1 v48_1 v50_1 v51_1 v53_1 v55_1 hf2 hv0_1 hv2_1 hg2_1 hv3_1 hg3_1 hv4_1 hg4_1 hv5_1 hg5_1 hv6_1 hg6_1 hv8_1 hg8_1 hv9_1 hg9_1 hv12_1 hv13_1 hg13_1 hv14_1 hg14_1 hv15_1 hg15_1 hv17_1 hg17_1 hv20_1 hg20_1 hv23_1 hg23_1 hv25_1 hg25_1 hv36_1 hg36_1 hv47_1 hg47_1 hv48_1 hg48_1 hv53_1 hg53_1 hv55_1 hg55_1 hrel0_1 => ?_)
      have hg15_1 : v15_1.toInt = th 11 := hg15_1
      have hg17_1 : v17_1.toInt = th 12 := hg17_1
      have hg20_1 : v20_1.toInt = th 14 := hg20_1
      refine pl_get (v := .int v15_1) hx hb hts (fun w h => mT (inX11 w h)) hown hG.1 hP (hst.1 255 (by decide)) hf2 rfl 15 (by decide) (hts _ (mT wg_1351)) (fun _ h => h) rfl dX11_holders_6 ?_
      refine lv_icmp_ge (tgt := 29) hx hb dX11_holders_9 (by decide) (fun c3 => ?_) (fun c3 => ?_)
      ·
        refine lv_iload_n hx hb dX11_holders_29 rfl (lv_at hl 1 rfl) ?_
        exact ret_i (ty := .int) hx hb hr hlocks (rfl) hP hD hS (Nat.le_of_ble_eq_true rfl) (Nat.le_of_ble_eq_true rfl) (⟨rfl, rfl⟩) dX11_holders_30
      ·
        have cc4 : y4_l2.toInt < v15_1.toInt := i32_nle c3
        have hb5 : In y4_l2 0 8 := In.lt1 hy4_l2 hv15_1 cc4 (by omega) (by omega)
        have hb6 : In v15_1 1 9 := In.lt2 hy4_l2 hv15_1 cc4 (by omega) (by omega)
        refine lv_iload_n hx hb dX11_holders_12 rfl (lv_at hl 1 rfl) ?_
        refine lv_aload_n hx hb dX11_holders_13 rfl (lv_at hl 0 rfl) ?_
        refine pl_get (v := .ref (ad 261)) hx hb hts (fun w h => mT (inX11 w h)) hown hG.1 hP (hst.1 255 (by decide)) hf2 rfl 26 (by decide) (hts _ (mT wg_1362)) (fun _ h => h) rfl dX11_holders_14 ?_
        refine lv_iload_n hx hb dX11_holders_17 rfl (lv_at hl 2 rfl) ?_
        obtain ⟨rw7, hf8⟩ := hT.2.2 6 (by decide)
        have hin9 : vp_in y4_l2 9 := In.inb hb5 (by decide) (by decide)
        refine pl_iald hx hb hG.1 hP (hst.1 261 (by decide)) 0 hf8 rfl hin9 dX11_holders_18 ?_
        refine lv_topi (fun x10 ex10 => ?_)
        refine lv_iload_n hx hb dX11_holders_19 rfl (lv_at hl 2 rfl) ?_
        refine lv_ishl hx hb dX11_holders_20 ?_
        refine lv_topi (fun x11 ex11 => ?_)
        refine lv_ior hx hb dX11_holders_21 ?_
        refine lv_topi (fun x12 ex12 => ?_)
        refine lv_istore_n (lv' := [(1, .int x12), (0, .ref (ad 255)), (2, .int y4_l2)]) hx hb dX11_holders_22 rfl hl (by decide) rfl (fun ls hl => ?_)
        obtain ⟨x13, ex13⟩ : ∃ y : Int32, y = y4_l2 + 1 := ⟨_, rfl⟩
        have hb14 : In x13 1 9 := ex13 ▸ In.add hb5 (⟨by decide, by decide⟩ : In 1 1 1) (by decide) (by decide) (by decide) (by decide)
        have et15 : x13.toInt = y4_l2.toInt + 1 := In.adde ex13 hb5 (k := 1) (by decide) (by decide) (by decide)
        refine lv_iinc (v := x13) (lv' := [(2, .int x13), (1, .int x12), (0, .ref (ad 255))]) hx hb dX11_holders_23 hl (k := 2) rfl (by rw [ex13]; rfl) (by decide) rfl (fun ls hl => ?_)
        refine lv_goto (tgt := 4) hx hb dX11_holders_26 (by decide) ?_
        exact ih4 x12 x13 _ _ _ (In.full x12) (In.mono hb14 (by decide) (by decide)) hP hD hS (lv_sub hl [2, 1, 0] rfl) (msu et15 (by decide) hmz4)
  exact hJ4 ((9 - (0 : Int32).toInt).toNat + 1) 0 0 _ _ _ (⟨by decide, by decide⟩ : In 0 (-2147483648) 2147483647) (⟨by decide, by decide⟩ : In 0 0 9) hP hD hS (lv_sub hl [2, 1, 0] rfl) (msI _)

abbrev rm_X11_runsWhole : Room := { frames := 5, cells := 0, slots := 0, locals := 125 }
abbrev po_X11_runsWhole (g : GG) (ad : Nat → Nat) (th : Nat → Int) (L : List Nat) (f : HP) (z1 : Int32) (z2 : Int32) : (List Nat × HP) → Prop := fun u => u.1 = L ∧ (∃ z18 : Int, (True) ∧ TI g ad (gset th 18 z18) u.2) ∧ (∀ b, b ≠ (ad 255) → b ≠ (ad 265) → b ≠ (ad 266) → b ≠ (ad 267) → b ≠ (ad 268) → b ≠ (ad 269) → b ≠ (ad 270) → b ≠ (ad 261) → b ≠ (ad 262) → b ≠ (ad 263) → b ≠ (ad 264) → u.2 b = f b)
set_option maxHeartbeats 4000000 in
set_option maxRecDepth 100000 in
theorem s_X11_runsWhole (l : Launch) (g : GG) (ad : Nat → Nat) (th : Nat → Int) (L : List Nat) (f : HP) (sz : Nat) (z1 : Int32) (z2 : Int32) (hst : ST ad L) (hT : TI g ad th f) (hn3 : 3 ≤ th 11) : MtV l g yX11_runsWhole cX11_runsWhole 4 rm_X11_runsWhole [.ref (ad 255), .int z1, .int z2] L f sz (po_X11_runsWhole g ad th L f z1 z2) := by
  refine MtV.of (by decide +kernel) (Nat.le_of_ble_eq_true rfl) ?_
  intro p e s m below meth c A hEn hP hD hS ls hl
  obtain ⟨hx, hb, hr, hml, hown, hlocks, hts, hG, hA, hE, hnm⟩ := hEn
  have hown : s.vm.findClass "RulerWordModel" = some m.cls := hown
  have hl : lv_has ls 4 [(0, .ref (ad 255)), (1, .int z1), (2, .int z2)] := hl
  have hfr : (∀ b, b ≠ (ad 255) → b ≠ (ad 265) → b ≠ (ad 266) → b ≠ (ad 267) → b ≠ (ad 268) → b ≠ (ad 269) → b ≠ (ad 270) → b ≠ (ad 261) → b ≠ (ad 262) → b ≠ (ad 263) → b ≠ (ad 264) → f b = f b) := fun b z0_ z1_ z2_ z3_ z4_ z5_ z6_ z7_ z8_ z9_ z10_ => rfl
  refine lv_aload_n hx hb dX11_runsWhole_0 rfl (lv_at hl 0 rfl) ?_
  refine lv_iload_n hx hb dX11_runsWhole_1 rfl (lv_at hl 1 rfl) ?_
  refine M0e hT (fun v0_1 v2_1 v3_1 v4_1 v5_1 v6_1 v8_1 v9_1 v12_1 v13_1 v14_1 v15_1 v16_1 v17_1 v18_1 v19_1 v20_1 v21_1 v22_1 v23_1 v25_1 v36_1 v37_1 v38_1 v39_1 v40_1 v45_1 v46_1 v47_1 v48_1 v50_1 v51_1 v53_1 v55_1 hf2 hv0_1 hv2_1 hg2_1 hv3_1 hg3_1 hv4_1 hg4_1 hv5_1 hg5_1 hv6_1 hg6_1 hv8_1 hg8_1 hv9_1 hg9_1 hv12_1 hv13_1 hg13_1 hv14_1 hg14_1 hv15_1 hg15_1 hv17_1 hg17_1 hv20_1 hg20_1 hv23_1 hg23_1 hv25_1 hg25_1 hv36_1 hg36_1 hv47_1 hg47_1 hv48_1 hg48_1 hv53_1 hg53_1 hv55_1 hg55_1 hrel0_1 => ?_)
  have hg15_1 : v15_1.toInt = th 11 := hg15_1
  have hg17_1 : v17_1.toInt = th 12 := hg17_1
  have hg20_1 : v20_1.toInt = th 14 := hg20_1
  have hb3 : In v15_1 3 9 := ⟨by rw [hg15_1]; exact hn3, hv15_1.2⟩
  refine pl_put (ty := .int) (v := .int z1) (fs' := [.int v0_1, .ref (ad 256), .int v2_1, .int v3_1, .int v4_1, .int v5_1, .int v6_1, .ref (ad 257), .int v8_1, .int v9_1, .ref (ad 258), .ref (ad 259), .int v12_1, .int v13_1, .int v14_1, .int v15_1, .int v16_1, .int v17_1, .int v18_1, .int v19_1, .int v20_1, .long v21_1, .long v22_1, .int v23_1, .ref (ad 260), .int v25_1, .ref (ad 261), .ref (ad 262), .ref (ad 263), .ref (ad 264), .ref (ad 265), .ref (ad 266), .ref (ad 267), .ref (ad 268), .ref (ad 269), .ref (ad 270), .int v36_1, .int v37_1, .int v38_1, .int z1, .int v40_1, .ref (ad 271), .ref (ad 272), .ref (ad 273), .ref (ad 274), .long v45_1, .long v46_1, .int v47_1, .int v48_1, .ref (ad 275), .int v50_1, .int v51_1, .ref (ad 276), .int v53_1, .ref (ad 277), .int v55_1]) hx hb hts (fun w h => mT (inX11 w h)) tyX11 tyX11_ok nmX11 hown hG.1 hP hD hS (hst.1 255 (by decide)) hf2 rfl 39 (by decide) (hts _ (mT wg_1375)) (fun _ h => h) rfl (by decide +kernel) (rfl) (rfl) (Nat.le_of_ble_eq_true rfl) rfl dX11_runsWhole_2 (fun H locs f4 hf5 ho6 hP hD hS => ?_)
  have hfr : (∀ b, b ≠ (ad 255) → b ≠ (ad 265) → b ≠ (ad 266) → b ≠ (ad 267) → b ≠ (ad 268) → b ≠ (ad 269) → b ≠ (ad 270) → b ≠ (ad 261) → b ≠ (ad 262) → b ≠ (ad 263) → b ≠ (ad 264) → f4 b = f b) := fun b z0_ z1_ z2_ z3_ z4_ z5_ z6_ z7_ z8_ z9_ z10_ => (ho6 b z0_).trans (hfr b z0_ z1_ z2_ z3_ z4_ z5_ z6_ z7_ z8_ z9_ z10_)
  refine lv_aload_n hx hb dX11_runsWhole_5 rfl (lv_at hl 0 rfl) ?_
  refine lv_iload_n hx hb dX11_runsWhole_6 rfl (lv_at hl 2 rfl) ?_
  refine pl_put (ty := .int) (v := .int z2) (fs' := [.int v0_1, .ref (ad 256), .int v2_1, .int v3_1, .int v4_1, .int v5_1, .int v6_1, .ref (ad 257), .int v8_1, .int v9_1, .ref (ad 258), .ref (ad 259), .int v12_1, .int v13_1, .int v14_1, .int v15_1, .int v16_1, .int v17_1, .int v18_1, .int v19_1, .int v20_1, .long v21_1, .long v22_1, .int v23_1, .ref (ad 260), .int v25_1, .ref (ad 261), .ref (ad 262), .ref (ad 263), .ref (ad 264), .ref (ad 265), .ref (ad 266), .ref (ad 267), .ref (ad 268), .ref (ad 269), .ref (ad 270), .int v36_1, .int v37_1, .int v38_1, .int z1, .int z2, .ref (ad 271), .ref (ad 272), .ref (ad 273), .ref (ad 274), .long v45_1, .long v46_1, .int v47_1, .int v48_1, .ref (ad 275), .int v50_1, .int v51_1, .ref (ad 276), .int v53_1, .ref (ad 277), .int v55_1]) hx hb hts (fun w h => mT (inX11 w h)) tyX11 tyX11_ok nmX11 hown hG.1 hP hD hS (hst.1 255 (by decide)) hf5 rfl 40 (by decide) (hts _ (mT wg_1376)) (fun _ h => h) rfl (by decide +kernel) (rfl) (rfl) (Nat.le_of_ble_eq_true rfl) rfl dX11_runsWhole_7 (fun H locs f7 hf8 ho9 hP hD hS => ?_)
  have ho10 : ∀ b, b ≠ (ad 255) → f7 b = _ := fun b hb => (ho9 b hb).trans (ho6 b hb)
  have hfr : (∀ b, b ≠ (ad 255) → b ≠ (ad 265) → b ≠ (ad 266) → b ≠ (ad 267) → b ≠ (ad 268) → b ≠ (ad 269) → b ≠ (ad 270) → b ≠ (ad 261) → b ≠ (ad 262) → b ≠ (ad 263) → b ≠ (ad 264) → f7 b = f b) := fun b z0_ z1_ z2_ z3_ z4_ z5_ z6_ z7_ z8_ z9_ z10_ => (ho9 b z0_).trans (hfr b z0_ z1_ z2_ z3_ z4_ z5_ z6_ z7_ z8_ z9_ z10_)
  refine lv_aload_n hx hb dX11_runsWhole_10 rfl (lv_at hl 0 rfl) ?_
  have hT := TI.updM hT hst (k := 0) (by decide) hf8 ho10 ⟨v0_1, v2_1, v3_1, v4_1, v5_1, v6_1, v8_1, v9_1, v12_1, v13_1, v14_1, v15_1, v16_1, v17_1, v18_1, v19_1, v20_1, v21_1, v22_1, v23_1, v25_1, v36_1, v37_1, v38_1, z1, z2, v45_1, v46_1, v47_1, v48_1, v50_1, v51_1, v53_1, v55_1, rfl, hv0_1, hv2_1, hg2_1, hv3_1, hg3_1, hv4_1, hg4_1, hv5_1, hg5_1, hv6_1, hg6_1, hv8_1, hg8_1, hv9_1, hg9_1, hv12_1, hv13_1, hg13_1, hv14_1, hg14_1, (In.mono hb3 (by decide) (by decide)), hg15_1, hv17_1, hg17_1, hv20_1, hg20_1, hv23_1, hg23_1, hv25_1, hg25_1, hv36_1, hg36_1, hv47_1, hg47_1, hv48_1, hg48_1, hv53_1, hg53_1, hv55_1, hg55_1, hrel0_1⟩
  refine call_v (run_V (rm := rm_X11_startsAnew) hx hb hml hown hts (s_X11_startsAnew l g ad th _ _ _  hst hT ) cV_X11_startsAnew wg_1616 ⟨Nat.le_of_ble_eq_true rfl, Nat.le_of_ble_eq_true rfl⟩ hG hE hA hP hD hS (hst.1 255 (by decide)) hf8 rfl rfl hl.1 (As := []) (rest := []) rfl (Nat.le_of_ble_eq_true rfl) dX11_runsWhole_11 ⟨Nat.le_of_ble_eq_true rfl, Nat.le_of_ble_eq_true rfl⟩) hA hD hS (fun L12 f13 H locs hp14 hP hD hS => ?_)
  obtain ⟨eL15L, eL15T, eL15F⟩ := hp14
  have eL15L : L12 = L := eL15L
  rw [eL15L] at hP hD
  have hT : TI g ad (gset th 18 0) f13 := eL15T
  have eL15F : ∀ b, b ≠ (ad 255) → b ≠ (ad 261) → b ≠ (ad 262) → f13 b = f7 b := eL15F
  have hfr : (∀ b, b ≠ (ad 255) → b ≠ (ad 265) → b ≠ (ad 266) → b ≠ (ad 267) → b ≠ (ad 268) → b ≠ (ad 269) → b ≠ (ad 270) → b ≠ (ad 261) → b ≠ (ad 262) → b ≠ (ad 263) → b ≠ (ad 264) → f13 b = f b) := fun b z0_ z1_ z2_ z3_ z4_ z5_ z6_ z7_ z8_ z9_ z10_ => (eL15F b z0_ z7_ z8_).trans (hfr b z0_ z1_ z2_ z3_ z4_ z5_ z6_ z7_ z8_ z9_ z10_)
  refine lv_aload_n hx hb dX11_runsWhole_14 rfl (lv_at hl 0 rfl) ?_
  refine M0e hT (fun v0_16 v2_16 v3_16 v4_16 v5_16 v6_16 v8_16 v9_16 v12_16 v13_16 v14_16 v15_16 v16_16 v17_16 v18_16 v19_16 v20_16 v21_16 v22_16 v23_16 v25_16 v36_16 v37_16 v38_16 v39_16 v40_16 v45_16 v46_16 v47_16 v48_16 v50_16 v51_16 v53_16 v55_16 hf17 hv0_16 hv2_16 hg2_16 hv3_16 hg3_16 hv4_16 hg4_16 hv5_16 hg5_16 hv6_16 hg6_16 hv8_16 hg8_16 hv9_16 hg9_16 hv12_16 hv13_16 hg13_16 hv14_16 hg14_16 hv15_16 hg15_16 hv17_16 hg17_16 hv20_16 hg20_16 hv23_16 hg23_16 hv25_16 hg25_16 hv36_16 hg36_16 hv47_16 hg47_16 hv48_16 hg48_16 hv53_16 hg53_16 hv55_16 hg55_16 hrel0_16 => ?_)
  have hg15_16 : v15_16.toInt = th 11 := hg15_16
  have hg17_16 : v17_16.toInt = th 12 := hg17_16
  have hg20_16 : v20_16.toInt = th 14 := hg20_16
  have hb18 : In v15_16 3 9 := ⟨by rw [hg15_16]; exact hn3, hv15_16.2⟩
  refine pl_get (v := .int v17_16) hx hb hts (fun w h => mT (inX11 w h)) hown hG.1 hP (hst.1 255 (by decide)) hf17 rfl 17 (by decide) (hts _ (mT wg_1353)) (fun _ h => h) rfl dX11_runsWhole_15 ?_
  refine lv_aload_n hx hb dX11_runsWhole_18 rfl (lv_at hl 0 rfl) ?_
  refine call_i (run_V (rm := rm_X11_each) hx hb hml hown hts (s_X11_each l g ad (gset th 18 0) _ _ _  hst hT ) cV_X11_each wg_1636 ⟨Nat.le_of_ble_eq_true rfl, Nat.le_of_ble_eq_true rfl⟩ hG hE hA hP hD hS (hst.1 255 (by decide)) hf17 rfl rfl hl.1 (As := []) (rest := [.int v17_16]) rfl (Nat.le_of_ble_eq_true rfl) dX11_runsWhole_19 ⟨Nat.le_of_ble_eq_true rfl, Nat.le_of_ble_eq_true rfl⟩) hA hD hS (fun r19 L20 f21 H locs hp22 hP hD hS => ?_)
  obtain ⟨eL23L, eL23T, eL23R, eL23X0⟩ := hp22
  have eL23L : L20 = L := eL23L
  have eL23T : f21 = f13 := eL23T
  rw [eL23L, eL23T] at hP hD
  have eL23R : In r19 2 3 := eL23R
  have hrn24 : r19.toInt = rnd (th 10) := eL23X0
  refine lv_imul hx hb dX11_runsWhole_22 ?_
  refine lv_topi (fun x25 ex25 => ?_)
  have hb26 : In x25 0 18 := ex25 ▸ In.mul hv17_16 eL23R (by decide) (by decide) (by decide) (by decide) (by decide)
  refine lv_istore_n (lv' := [(3, .int x25), (0, .ref (ad 255)), (1, .int z1), (2, .int z2)]) hx hb dX11_runsWhole_23 rfl hl (by decide) rfl (fun ls hl => ?_)
  have hJ24 : ∀ (k24 : Nat) (zg24_zg : Int) (y24_l3 : Int32) (f_24 : HP) (H : Heap) (locs : List Loc) (ls : Array Slot), (0 ≤ zg24_zg ∧ zg24_zg + y24_l3.toInt ≤ 18) → In y24_l3 0 18 → va_P g.1 vwCl (va_pl L f_24) H → va_D A (va_pl L f_24) → va_S A s.heap H locs → TI g ad (gset th 18 zg24_zg) f_24 → (∀ b, b ≠ (ad 255) → b ≠ (ad 265) → b ≠ (ad 266) → b ≠ (ad 267) → b ≠ (ad 268) → b ≠ (ad 269) → b ≠ (ad 270) → b ≠ (ad 261) → b ≠ (ad 262) → b ≠ (ad 263) → b ≠ (ad 264) → f_24 b = f b) → lv_has ls 4 [(0, .ref (ad 255)), (1, .int z1), (2, .int z2), (3, .int y24_l3)] → y24_l3.toInt - 0 < ((k24 : Nat) : Int) → W p l e rm_X11_runsWhole s m [.ref (ad 255), .int z1, .int z2].toArray below meth c H locs 0 0 (MQ below (va_Qv (po_X11_runsWhole g ad th L f z1 z2) (PstB g A) A) [.ref (ad 255), .int z1, .int z2].toArray s rm_X11_runsWhole.cells rm_X11_runsWhole.slots A) (F0 m 24 ls []) := by
    intro k24
    induction k24 with
    | zero =>
      intro zg24_zg y24_l3 f_24 H locs ls hzg24 hy24_l3 hP hD hS hT hfr hl hmz24
      exact ms0d hy24_l3 hmz24
    | succ k24 ih24 =>
      intro zg24_zg y24_l3 f_24 H locs ls hzg24 hy24_l3 hP hD hS hT hfr hl hmz24
      refine lv_iload_n hx hb dX11_runsWhole_24 rfl (lv_at hl 3 rfl) ?_
      refine lv_if_le (tgt := 38) hx hb dX11_runsWhole_25 (by decide) (fun c27 => ?_) (fun c27 => ?_)
      ·
        have oc0 : (0 : Int32).toInt = 0 := by decide
        have cc28 : y24_l3.toInt ≤ (0 : Int32).toInt := i32_le.mp c27
        have hb29 : In y24_l3 0 0 := In.le1 hy24_l3 (⟨by decide, by decide⟩ : In 0 0 0) cc28 (by decide) (by decide)
        exact ret_v hx hb hr hlocks hP hD hS (Nat.le_of_ble_eq_true rfl) (Nat.le_of_ble_eq_true rfl) (⟨rfl, ⟨zg24_zg, trivial, TI.cast hT (by funext q; by_cases hq0 : q = 18; (subst hq0; rfl); simp only [gset, if_neg hq0])⟩, hfr⟩) dX11_runsWhole_38
      ·
        have oc0 : (0 : Int32).toInt = 0 := by decide
        have cc30 : (0 : Int32).toInt < y24_l3.toInt := i32_nle c27
        have hb31 : In y24_l3 1 18 := In.gt1 hy24_l3 (⟨by decide, by decide⟩ : In 0 0 0) cc30 (by decide) (by decide)
        refine lv_aload_n hx hb dX11_runsWhole_28 rfl (lv_at hl 0 rfl) ?_
        refine M0e hT (fun v0_32 v2_32 v3_32 v4_32 v5_32 v6_32 v8_32 v9_32 v12_32 v13_32 v14_32 v15_32 v16_32 v17_32 v18_32 v19_32 v20_32 v21_32 v22_32 v23_32 v25_32 v36_32 v37_32 v38_32 v39_32 v40_32 v45_32 v46_32 v47_32 v48_32 v50_32 v51_32 v53_32 v55_32 hf33 hv0_32 hv2_32 hg2_32 hv3_32 hg3_32 hv4_32 hg4_32 hv5_32 hg5_32 hv6_32 hg6_32 hv8_32 hg8_32 hv9_32 hg9_32 hv12_32 hv13_32 hg13_32 hv14_32 hg14_32 hv15_32 hg15_32 hv17_32 hg17_32 hv20_32 hg20_32 hv23_32 hg23_32 hv25_32 hg25_32 hv36_32 hg36_32 hv47_32 hg47_32 hv48_32 hg48_32 hv53_32 hg53_32 hv55_32 hg55_32 hrel0_32 => ?_)
        have hg15_32 : v15_32.toInt = th 11 := hg15_32
        have hg17_32 : v17_32.toInt = th 12 := hg17_32
        have hg20_32 : v20_32.toInt = th 14 := hg20_32
        have hb34 : In v15_32 3 9 := ⟨by rw [hg15_32]; exact hn3, hv15_32.2⟩
        refine call_v (run_V (rm := rm_X11_rounds) hx hb hml hown hts (s_X11_rounds l g ad (gset th 18 zg24_zg) _ _ _  hst hT hn3 (show zg24_zg ≤ 17 from (by have ob10 : (0 : Int) ≤ (th 10) ∧ (th 10) ≤ 1 := (b0_10 hT :); have ob11 : (0 : Int) ≤ (th 11) ∧ (th 11) ≤ 9 := (b0_11 hT :); have ob12 : (0 : Int) ≤ (th 12) ∧ (th 12) ≤ 6 := (b0_12 hT :); have ob14 : (0 : Int) ≤ (th 14) ∧ (th 14) ≤ 511 := (b0_14 hT :); have ob15 : (0 : Int) ≤ (th 15) ∧ (th 15) ≤ 1 := (b0_15 hT :); have ob16 : (0 : Int) ≤ (th 16) ∧ (th 16) ≤ 20 := (b0_16 hT :); have ob17 : (0 : Int) ≤ (th 17) ∧ (th 17) ≤ 1 := (b0_17 hT :); have ob18 : (0 : Int) ≤ zg24_zg ∧ zg24_zg ≤ 18 := (b0_18 hT :); have ob38 : (0 : Int) ≤ (th 38) ∧ (th 38) ≤ 400 := (b0_38 hT :); have ob39 : (0 : Int) ≤ (th 39) ∧ (th 39) ≤ 200 := (b0_39 hT :); have ob44 : (0 : Int) ≤ (th 44) ∧ (th 44) ≤ 30 := (b0_44 hT :); have orn := rnd_b (th 10); obtain ⟨o0a, o0b⟩ := (hv14_32 : In _ _ _); obtain ⟨o1a, o1b⟩ := (hb34 : In _ _ _); obtain ⟨o2a, o2b⟩ := (hv17_32 : In _ _ _); obtain ⟨o3a, o3b⟩ := (hv20_32 : In _ _ _); obtain ⟨o4a, o4b⟩ := (hv23_32 : In _ _ _); obtain ⟨o5a, o5b⟩ := (hv25_32 : In _ _ _); obtain ⟨o6a, o6b⟩ := (hv36_32 : In _ _ _); obtain ⟨o7a, o7b⟩ := (hv47_32 : In _ _ _); obtain ⟨o8a, o8b⟩ := (hv48_32 : In _ _ _); obtain ⟨o9a, o9b⟩ := (hv53_32 : In _ _ _); obtain ⟨o10a, o10b⟩ := (hv55_32 : In _ _ _); omega))) cV_X11_rounds wg_1652 ⟨Nat.le_of_ble_eq_true rfl, Nat.le_of_ble_eq_true rfl⟩ hG hE hA hP hD hS (hst.1 255 (by decide)) hf33 rfl rfl hl.1 (As := []) (rest := []) rfl (Nat.le_of_ble_eq_true rfl) dX11_runsWhole_29 ⟨Nat.le_of_ble_eq_true rfl, Nat.le_of_ble_eq_true rfl⟩) hA hD hS (fun L36 f37 H locs hp38 hP hD hS => ?_)
        obtain ⟨eL39L, eL39T, eL39F⟩ := hp38
        have eL39L : L36 = L := eL39L
        rw [eL39L] at hP hD
        obtain ⟨zz40, hzz40, eL39T⟩ := eL39T
        have hzz40 : zz40 = zg24_zg + 1 := hzz40
        have hT : TI g ad (gset (gset th 18 zg24_zg) 18 zz40) f37 := eL39T
        have hT : TI g ad (gset th 18 zz40) f37 := TI.cast hT (by funext q; by_cases hq0 : q = 18; (subst hq0; rfl); simp only [gset, if_neg hq0])
        have eL39F : ∀ b, b ≠ (ad 255) → b ≠ (ad 265) → b ≠ (ad 266) → b ≠ (ad 267) → b ≠ (ad 268) → b ≠ (ad 269) → b ≠ (ad 270) → b ≠ (ad 261) → b ≠ (ad 262) → b ≠ (ad 263) → b ≠ (ad 264) → f37 b = f_24 b := eL39F
        have hfr : (∀ b, b ≠ (ad 255) → b ≠ (ad 265) → b ≠ (ad 266) → b ≠ (ad 267) → b ≠ (ad 268) → b ≠ (ad 269) → b ≠ (ad 270) → b ≠ (ad 261) → b ≠ (ad 262) → b ≠ (ad 263) → b ≠ (ad 264) → f37 b = f b) := fun b z0_ z1_ z2_ z3_ z4_ z5_ z6_ z7_ z8_ z9_ z10_ => (eL39F b z0_ z1_ z2_ z3_ z4_ z5_ z6_ z7_ z8_ z9_ z10_).trans (hfr b z0_ z1_ z2_ z3_ z4_ z5_ z6_ z7_ z8_ z9_ z10_)
        obtain ⟨x41, ex41⟩ : ∃ y : Int32, y = y24_l3 + (-1) := ⟨_, rfl⟩
        have hb42 : In x41 0 17 := ex41 ▸ In.add hb31 (⟨by decide, by decide⟩ : In (-1) (-1) (-1)) (by decide) (by decide) (by decide) (by decide)
        have et43 : x41.toInt = y24_l3.toInt + (-1) := In.adde ex41 hb31 (k := (-1)) (by decide) (by decide) (by decide)
        refine lv_iinc (v := x41) (lv' := [(3, .int x41), (0, .ref (ad 255)), (1, .int z1), (2, .int z2)]) hx hb dX11_runsWhole_32 hl (k := 3) rfl (by rw [ex41]; rfl) (by decide) rfl (fun ls hl => ?_)
        refine lv_goto (tgt := 24) hx hb dX11_runsWhole_35 (by decide) ?_
        exact ih24 zz40 x41 _ _ _ _ (show (0 ≤ zz40 ∧ zz40 + x41.toInt ≤ 18) from (by have ob10 : (0 : Int) ≤ (th 10) ∧ (th 10) ≤ 1 := (b0_10 hT :); have ob11 : (0 : Int) ≤ (th 11) ∧ (th 11) ≤ 9 := (b0_11 hT :); have ob12 : (0 : Int) ≤ (th 12) ∧ (th 12) ≤ 6 := (b0_12 hT :); have ob14 : (0 : Int) ≤ (th 14) ∧ (th 14) ≤ 511 := (b0_14 hT :); have ob15 : (0 : Int) ≤ (th 15) ∧ (th 15) ≤ 1 := (b0_15 hT :); have ob16 : (0 : Int) ≤ (th 16) ∧ (th 16) ≤ 20 := (b0_16 hT :); have ob17 : (0 : Int) ≤ (th 17) ∧ (th 17) ≤ 1 := (b0_17 hT :); have ob18 : (0 : Int) ≤ zz40 ∧ zz40 ≤ 18 := (b0_18 hT :); have ob38 : (0 : Int) ≤ (th 38) ∧ (th 38) ≤ 400 := (b0_38 hT :); have ob39 : (0 : Int) ≤ (th 39) ∧ (th 39) ≤ 200 := (b0_39 hT :); have ob44 : (0 : Int) ≤ (th 44) ∧ (th 44) ≤ 30 := (b0_44 hT :); have orn := rnd_b (th 10); obtain ⟨o0a, o0b⟩ := (hb42 : In _ _ _); obtain ⟨o3a, o3b⟩ := (hb31 : In _ _ _); omega)) (In.mono hb42 (by decide) (by decide)) hP hD hS (TI.cast hT (by funext q; by_cases hq0 : q = 18; (subst hq0; rfl); simp only [gset, if_neg hq0])) hfr (lv_sub hl [1, 2, 3, 0] rfl) (msd et43 (by decide) hmz24)
  exact hJ24 ((x25.toInt - 0).toNat + 1) (0 : Int) x25 _ _ _ _ (show (0 ≤ (0 : Int) ∧ (0 : Int) + x25.toInt ≤ 18) from (by have ob10 : (0 : Int) ≤ (th 10) ∧ (th 10) ≤ 1 := (b0_10 hT :); have ob11 : (0 : Int) ≤ (th 11) ∧ (th 11) ≤ 9 := (b0_11 hT :); have ob12 : (0 : Int) ≤ (th 12) ∧ (th 12) ≤ 6 := (b0_12 hT :); have ob14 : (0 : Int) ≤ (th 14) ∧ (th 14) ≤ 511 := (b0_14 hT :); have ob15 : (0 : Int) ≤ (th 15) ∧ (th 15) ≤ 1 := (b0_15 hT :); have ob16 : (0 : Int) ≤ (th 16) ∧ (th 16) ≤ 20 := (b0_16 hT :); have ob17 : (0 : Int) ≤ (th 17) ∧ (th 17) ≤ 1 := (b0_17 hT :); have ob18 : (0 : Int) ≤ (0 : Int) ∧ (0 : Int) ≤ 18 := (b0_18 hT :); have ob38 : (0 : Int) ≤ (th 38) ∧ (th 38) ≤ 400 := (b0_38 hT :); have ob39 : (0 : Int) ≤ (th 39) ∧ (th 39) ≤ 200 := (b0_39 hT :); have ob44 : (0 : Int) ≤ (th 44) ∧ (th 44) ≤ 30 := (b0_44 hT :); have orn := rnd_b (th 10); obtain ⟨o0a, o0b⟩ := (hb26 : In _ _ _); obtain ⟨o3a, o3b⟩ := (hv14_16 : In _ _ _); obtain ⟨o4a, o4b⟩ := (hb18 : In _ _ _); obtain ⟨o5a, o5b⟩ := (hv17_16 : In _ _ _); obtain ⟨o6a, o6b⟩ := (hv20_16 : In _ _ _); obtain ⟨o7a, o7b⟩ := (hv23_16 : In _ _ _); obtain ⟨o8a, o8b⟩ := (hv25_16 : In _ _ _); obtain ⟨o9a, o9b⟩ := (hv36_16 : In _ _ _); obtain ⟨o10a, o10b⟩ := (hv47_16 : In _ _ _); obtain ⟨o11a, o11b⟩ := (hv48_16 : In _ _ _); obtain ⟨o12a, o12b⟩ := (hv53_16 : In _ _ _); obtain ⟨o13a, o13b⟩ := (hv55_16 : In _ _ _); omega)) hb26 hP hD hS (TI.cast hT (by funext q; by_cases hq0 : q = 18; (subst hq0; rfl); simp only [gset, if_neg hq0])) hfr (lv_sub hl [1, 2, 3, 0] rfl) (msI _)
