abbrev rm_X11_undo : Room := { frames := 0, cells := 0, slots := 0, locals := 0 }
abbrev po_X11_undo (g : GG) (ad : Nat → Nat) (th : Nat → Int) (L : List Nat) (f : HP)  : Int32 → (List Nat × HP) → Prop := fun r u => u.1 = L ∧ (∃ th' : Nat → Int, (MI th' ∧ SBM th th') ∧ TI g ad th' u.2) ∧ (∀ b, b ≠ (ad 255) → b ≠ (ad 271) → u.2 b = f b)
set_option maxHeartbeats 4000000 in
set_option maxRecDepth 100000 in
theorem s_X11_undo (l : Launch) (g : GG) (ad : Nat → Nat) (th : Nat → Int) (L : List Nat) (f : HP) (sz : Nat)  (hst : ST ad L) (hT : TI g ad th f) (hM : MI th) : MtI l g yX11_undo cX11_undo 2 (some .int) rm_X11_undo [.ref (ad 255)] L f sz (po_X11_undo g ad th L f ) := by
  refine MtI.of (by decide +kernel) (Nat.le_of_ble_eq_true rfl) ?_
  intro p e s m below meth c A hEn hP hD hS ls hl
  obtain ⟨hx, hb, hr, hml, hown, hlocks, hts, hG, hA, hE, hnm⟩ := hEn
  have hown : s.vm.findClass "RulerWordModel" = some m.cls := hown
  have hl : lv_has ls 2 [(0, .ref (ad 255))] := hl
  have hfr : (∀ b, b ≠ (ad 255) → b ≠ (ad 271) → f b = f b) := fun b z0_ z1_ => rfl
  have hM0 := hM
  obtain ⟨m1, m2, m3, m4, m5, m6, m7, m8, m9, m10⟩ := hM0
  have m20 := mi20 m2 m3
  refine lv_aload_n hx hb dX11_undo_0 rfl (lv_at hl 0 rfl) ?_
  refine lv_iconst (v := 0) hx hb dX11_undo_1 (by decide) ?_
  refine M0e hT (fun v0_1 v2_1 v3_1 v4_1 v5_1 v6_1 v8_1 v9_1 v12_1 v13_1 v14_1 v15_1 v16_1 v17_1 v18_1 v19_1 v20_1 v21_1 v22_1 v23_1 v25_1 v36_1 v37_1 v38_1 v39_1 v40_1 v45_1 v46_1 v47_1 v48_1 v50_1 v51_1 v53_1 v55_1 hf2 hv0_1 hv2_1 hg2_1 hv3_1 hg3_1 hv4_1 hg4_1 hv5_1 hg5_1 hv6_1 hg6_1 hv8_1 hg8_1 hv9_1 hg9_1 hv12_1 hv13_1 hg13_1 hv14_1 hg14_1 hv15_1 hg15_1 hv17_1 hg17_1 hv20_1 hg20_1 hv23_1 hg23_1 hv25_1 hg25_1 hv36_1 hg36_1 hv47_1 hg47_1 hv48_1 hg48_1 hv53_1 hg53_1 hv55_1 hg55_1 hrel0_1 => ?_)
  refine pl_put (ty := .int) (v := .int 0) (fs' := [.int 0, .ref (ad 256), .int v2_1, .int v3_1, .int v4_1, .int v5_1, .int v6_1, .ref (ad 257), .int v8_1, .int v9_1, .ref (ad 258), .ref (ad 259), .int v12_1, .int v13_1, .int v14_1, .int v15_1, .int v16_1, .int v17_1, .int v18_1, .int v19_1, .int v20_1, .long v21_1, .long v22_1, .int v23_1, .ref (ad 260), .int v25_1, .ref (ad 261), .ref (ad 262), .ref (ad 263), .ref (ad 264), .ref (ad 265), .ref (ad 266), .ref (ad 267), .ref (ad 268), .ref (ad 269), .ref (ad 270), .int v36_1, .int v37_1, .int v38_1, .int v39_1, .int v40_1, .ref (ad 271), .ref (ad 272), .ref (ad 273), .ref (ad 274), .long v45_1, .long v46_1, .int v47_1, .int v48_1, .ref (ad 275), .int v50_1, .int v51_1, .ref (ad 276), .int v53_1, .ref (ad 277), .int v55_1]) hx hb hts (fun w h => mT (inX11 w h)) tyX11 tyX11_ok nmX11 hown hG.1 hP hD hS (hst.1 255 (by decide)) hf2 rfl 0 (by decide) (hts _ (mT wg_1336)) (fun _ h => h) rfl (by decide +kernel) (rfl) (rfl) (Nat.le_of_ble_eq_true rfl) rfl dX11_undo_2 (fun H locs f3 hf4 ho5 hP hD hS => ?_)
  have hfr : (∀ b, b ≠ (ad 255) → b ≠ (ad 271) → f3 b = f b) := fun b z0_ z1_ => (ho5 b z0_).trans (hfr b z0_ z1_)
  refine lv_aload_n hx hb dX11_undo_5 rfl (lv_at hl 0 rfl) ?_
  refine pl_get (v := .int v47_1) hx hb hts (fun w h => mT (inX11 w h)) hown hG.1 hP (hst.1 255 (by decide)) hf4 rfl 47 (by decide) (hts _ (mT wg_1383)) (fun _ h => h) rfl dX11_undo_6 ?_
  have hT := TI.updM hT hst (k := 0) (by decide) hf4 ho5 ⟨0, v2_1, v3_1, v4_1, v5_1, v6_1, v8_1, v9_1, v12_1, v13_1, v14_1, v15_1, v16_1, v17_1, v18_1, v19_1, v20_1, v21_1, v22_1, v23_1, v25_1, v36_1, v37_1, v38_1, v39_1, v40_1, v45_1, v46_1, v47_1, v48_1, v50_1, v51_1, v53_1, v55_1, rfl, (⟨by decide, by decide⟩ : In 0 0 1), hv2_1, hg2_1, hv3_1, hg3_1, hv4_1, hg4_1, hv5_1, hg5_1, hv6_1, hg6_1, hv8_1, hg8_1, hv9_1, hg9_1, hv12_1, hv13_1, hg13_1, hv14_1, hg14_1, hv15_1, hg15_1, hv17_1, hg17_1, hv20_1, hg20_1, hv23_1, hg23_1, hv25_1, hg25_1, hv36_1, hg36_1, hv47_1, hg47_1, hv48_1, hg48_1, hv53_1, hg53_1, hv55_1, hg55_1, hrel0_1⟩
  refine lv_if_ne (tgt := 14) hx hb dX11_undo_9 (by decide) (fun c6 => ?_) (fun c6 => ?_)
  ·
    have oc0 : (0 : Int32).toInt = 0 := by decide
    have cc7 : v47_1.toInt ≠ (0 : Int32).toInt := i32_ne c6
    have hb8 : In v47_1 1 20 := In.ne1 hv47_1 (⟨by decide, by decide⟩ : In 0 0 0) cc7 (by omega) (by omega)
    refine lv_aload_n hx hb dX11_undo_14 rfl (lv_at hl 0 rfl) ?_
    refine lv_dup hx hb dX11_undo_15 rfl ?_
    refine pl_get (v := .int v47_1) hx hb hts (fun w h => mT (inX11 w h)) hown hG.1 hP (hst.1 255 (by decide)) hf4 rfl 47 (by decide) (hts _ (mT wg_1383)) (fun _ h => h) rfl dX11_undo_16 ?_
    refine lv_iconst (v := 1) hx hb dX11_undo_19 (by decide) ?_
    refine lv_isub hx hb dX11_undo_20 ?_
    refine lv_topi (fun x9 ex9 => ?_)
    have hb10 : In x9 0 19 := ex9 ▸ In.sub hb8 (⟨by decide, by decide⟩ : In 1 1 1) (by decide) (by decide) (by decide) (by decide)
    have et11 : x9.toInt = v47_1.toInt + (-1) := In.sube ex9 hb8 (k := 1) (by decide) (by decide) (by decide)
    refine pl_put (ty := .int) (v := .int x9) (fs' := [.int 0, .ref (ad 256), .int v2_1, .int v3_1, .int v4_1, .int v5_1, .int v6_1, .ref (ad 257), .int v8_1, .int v9_1, .ref (ad 258), .ref (ad 259), .int v12_1, .int v13_1, .int v14_1, .int v15_1, .int v16_1, .int v17_1, .int v18_1, .int v19_1, .int v20_1, .long v21_1, .long v22_1, .int v23_1, .ref (ad 260), .int v25_1, .ref (ad 261), .ref (ad 262), .ref (ad 263), .ref (ad 264), .ref (ad 265), .ref (ad 266), .ref (ad 267), .ref (ad 268), .ref (ad 269), .ref (ad 270), .int v36_1, .int v37_1, .int v38_1, .int v39_1, .int v40_1, .ref (ad 271), .ref (ad 272), .ref (ad 273), .ref (ad 274), .long v45_1, .long v46_1, .int x9, .int v48_1, .ref (ad 275), .int v50_1, .int v51_1, .ref (ad 276), .int v53_1, .ref (ad 277), .int v55_1]) hx hb hts (fun w h => mT (inX11 w h)) tyX11 tyX11_ok nmX11 hown hG.1 hP hD hS (hst.1 255 (by decide)) hf4 rfl 47 (by decide) (hts _ (mT wg_1383)) (fun _ h => h) rfl (by decide +kernel) (rfl) (rfl) (Nat.le_of_ble_eq_true rfl) rfl dX11_undo_21 (fun H locs f12 hf13 ho14 hP hD hS => ?_)
    have hfr : (∀ b, b ≠ (ad 255) → b ≠ (ad 271) → f12 b = f b) := fun b z0_ z1_ => (ho14 b z0_).trans (hfr b z0_ z1_)
    refine lv_iconst (v := 0) hx hb dX11_undo_24 (by decide) ?_
    refine lv_istore_n (lv' := [(1, .int 0), (0, .ref (ad 255))]) hx hb dX11_undo_25 rfl hl (by decide) rfl (fun ls hl => ?_)
    have hT := TI.updMG (th' := (gset th 16 (x9.toInt))) hT hst (k := 0) (by decide) hf13 ho14 ⟨0, v2_1, v3_1, v4_1, v5_1, v6_1, v8_1, v9_1, v12_1, v13_1, v14_1, v15_1, v16_1, v17_1, v18_1, v19_1, v20_1, v21_1, v22_1, v23_1, v25_1, v36_1, v37_1, v38_1, v39_1, v40_1, v45_1, v46_1, x9, v48_1, v50_1, v51_1, v53_1, v55_1, rfl, (⟨by decide, by decide⟩ : In 0 0 1), hv2_1, hg2_1, hv3_1, hg3_1, hv4_1, hg4_1, hv5_1, hg5_1, hv6_1, hg6_1, hv8_1, hg8_1, hv9_1, hg9_1, hv12_1, hv13_1, hg13_1, hv14_1, hg14_1, hv15_1, hg15_1, hv17_1, hg17_1, hv20_1, hg20_1, hv23_1, hg23_1, hv25_1, hg25_1, hv36_1, hg36_1, (In.mono hb10 (by decide) (by decide)), rfl, hv48_1, hg48_1, hv53_1, hg53_1, hv55_1, hg55_1, hrel0_1⟩ (fun q hq => ((gset_ne (fun e => hq (by subst e; decide))).trans rfl))
    have hT : TI g ad (gset th 16 x9.toInt) f12 := TI.cast hT (by funext q; by_cases hq0 : q = 16; (subst hq0; rfl); simp only [gset, if_neg hq0])
    have hJ26 : ∀ (k26 : Nat) (zg26_zz : Int) (y26_l1 : Int32) (f_26 : HP) (H : Heap) (locs : List Loc) (ls : Array Slot), (0 ≤ zg26_zz ∧ zg26_zz ≤ th 20) → In y26_l1 0 2126 → va_P g.1 vwCl (va_pl L f_26) H → va_D A (va_pl L f_26) → va_S A s.heap H locs → TI g ad (gset (gset th 16 x9.toInt) 19 zg26_zz) f_26 → (∀ b, b ≠ (ad 255) → b ≠ (ad 271) → f_26 b = f b) → lv_has ls 2 [(0, .ref (ad 255)), (1, .int y26_l1)] → 2126 - y26_l1.toInt < ((k26 : Nat) : Int) → W p l e rm_X11_undo s m [.ref (ad 255)].toArray below meth c H locs 0 0 (MQ below (va_Qi (po_X11_undo g ad th L f ) (PstB g A) A) [.ref (ad 255)].toArray s rm_X11_undo.cells rm_X11_undo.slots A) (F0 m 26 ls []) := by
      intro k26
      induction k26 with
      | zero =>
        intro zg26_zz y26_l1 f_26 H locs ls hzg26 hy26_l1 hP hD hS hT hfr hl hmz26
        exact ms0 hy26_l1 hmz26
      | succ k26 ih26 =>
        intro zg26_zz y26_l1 f_26 H locs ls hzg26 hy26_l1 hP hD hS hT hfr hl hmz26
        refine lv_iload_n hx hb dX11_undo_26 rfl (lv_at hl 1 rfl) ?_
        refine lv_sipush (v := 2126) hx hb dX11_undo_27 (by decide) ?_
        refine lv_icmp_ge (tgt := 60) hx hb dX11_undo_30 (by decide) (fun c15 => ?_) (fun c15 => ?_)
        ·
          have oc2126 : (2126 : Int32).toInt = 2126 := by decide
          have cc16 : (2126 : Int32).toInt ≤ y26_l1.toInt := i32_le.mp c15
          have hb17 : In y26_l1 2126 2126 := In.ge1 hy26_l1 (⟨by decide, by decide⟩ : In 2126 2126 2126) cc16 (by omega) (by omega)
          have hT := TI.w24 (z := 2126 * x9.toInt) hT (show 2126 * x9.toInt ≤ th 24 by omega)
          refine lv_aload_n hx hb dX11_undo_60 rfl (lv_at hl 0 rfl) ?_
          refine lv_aload_n hx hb dX11_undo_61 rfl (lv_at hl 0 rfl) ?_
          refine M0e hT (fun v0_18 v2_18 v3_18 v4_18 v5_18 v6_18 v8_18 v9_18 v12_18 v13_18 v14_18 v15_18 v16_18 v17_18 v18_18 v19_18 v20_18 v21_18 v22_18 v23_18 v25_18 v36_18 v37_18 v38_18 v39_18 v40_18 v45_18 v46_18 v47_18 v48_18 v50_18 v51_18 v53_18 v55_18 hf19 hv0_18 hv2_18 hg2_18 hv3_18 hg3_18 hv4_18 hg4_18 hv5_18 hg5_18 hv6_18 hg6_18 hv8_18 hg8_18 hv9_18 hg9_18 hv12_18 hv13_18 hg13_18 hv14_18 hg14_18 hv15_18 hg15_18 hv17_18 hg17_18 hv20_18 hg20_18 hv23_18 hg23_18 hv25_18 hg25_18 hv36_18 hg36_18 hv47_18 hg47_18 hv48_18 hg48_18 hv53_18 hg53_18 hv55_18 hg55_18 hrel0_18 => ?_)
          have hg2_18 : v2_18.toInt = th 13 := hg2_18
          have hg3_18 : v3_18.toInt = th 37 := hg3_18
          have hg4_18 : v4_18.toInt = th 42 := hg4_18
          have hg5_18 : v5_18.toInt = th 40 := hg5_18
          have hg6_18 : v6_18.toInt = th 41 := hg6_18
          have hg8_18 : v8_18.toInt = th 43 := hg8_18
          have hg9_18 : v9_18.toInt = th 35 := hg9_18
          have hg13_18 : v13_18.toInt = th 36 := hg13_18
          have hg14_18 : v14_18.toInt = th 10 := hg14_18
          have hg15_18 : v15_18.toInt = th 11 := hg15_18
          have hg17_18 : v17_18.toInt = th 12 := hg17_18
          have hg20_18 : v20_18.toInt = th 14 := hg20_18
          have hg23_18 : v23_18.toInt = th 15 := hg23_18
          have hg25_18 : v25_18.toInt = th 44 := hg25_18
          have hg36_18 : v36_18.toInt = th 18 := hg36_18
          have hg47_18 : v47_18.toInt = x9.toInt := hg47_18
          have hg48_18 : v48_18.toInt = th 17 := hg48_18
          have hg53_18 : v53_18.toInt = th 38 := hg53_18
          have hg55_18 : v55_18.toInt = th 39 := hg55_18
          refine pl_get (v := .ref (ad 274)) hx hb hts (fun w h => mT (inX11 w h)) hown hG.1 hP (hst.1 255 (by decide)) hf19 rfl 44 (by decide) (hts _ (mT wg_1380)) (fun _ h => h) rfl dX11_undo_62 ?_
          refine lv_aload_n hx hb dX11_undo_65 rfl (lv_at hl 0 rfl) ?_
          refine pl_get (v := .int v47_18) hx hb hts (fun w h => mT (inX11 w h)) hown hG.1 hP (hst.1 255 (by decide)) hf19 rfl 47 (by decide) (hts _ (mT wg_1383)) (fun _ h => h) rfl dX11_undo_66 ?_
          obtain ⟨rw20, hf21⟩ := hT.2.2 19 (by decide)
          have hin22 : vp_in v47_18 20 := vp_of (by have ob10 : (0 : Int) ≤ (th 10) ∧ (th 10) ≤ 1 := (b0_10 hT :); have ob11 : (0 : Int) ≤ (th 11) ∧ (th 11) ≤ 9 := (b0_11 hT :); have ob12 : (0 : Int) ≤ (th 12) ∧ (th 12) ≤ 6 := (b0_12 hT :); have ob14 : (0 : Int) ≤ (th 14) ∧ (th 14) ≤ 511 := (b0_14 hT :); have ob15 : (0 : Int) ≤ (th 15) ∧ (th 15) ≤ 1 := (b0_15 hT :); have ob16 : (0 : Int) ≤ x9.toInt ∧ x9.toInt ≤ 20 := (b0_16 hT :); have ob17 : (0 : Int) ≤ (th 17) ∧ (th 17) ≤ 1 := (b0_17 hT :); have ob18 : (0 : Int) ≤ (th 18) ∧ (th 18) ≤ 18 := (b0_18 hT :); have ob38 : (0 : Int) ≤ (th 38) ∧ (th 38) ≤ 400 := (b0_38 hT :); have ob39 : (0 : Int) ≤ (th 39) ∧ (th 39) ≤ 200 := (b0_39 hT :); have ob44 : (0 : Int) ≤ (th 44) ∧ (th 44) ≤ 30 := (b0_44 hT :); obtain ⟨o0a, o0b⟩ := (hv47_18 : In _ _ _); obtain ⟨o1a, o1b⟩ := (hv14_18 : In _ _ _); obtain ⟨o2a, o2b⟩ := (hv15_18 : In _ _ _); obtain ⟨o3a, o3b⟩ := (hv17_18 : In _ _ _); obtain ⟨o4a, o4b⟩ := (hv20_18 : In _ _ _); obtain ⟨o5a, o5b⟩ := (hv23_18 : In _ _ _); obtain ⟨o6a, o6b⟩ := (hv25_18 : In _ _ _); obtain ⟨o7a, o7b⟩ := (hv36_18 : In _ _ _); obtain ⟨o8a, o8b⟩ := (hv48_18 : In _ _ _); obtain ⟨o9a, o9b⟩ := (hv53_18 : In _ _ _); obtain ⟨o10a, o10b⟩ := (hv55_18 : In _ _ _); omega) (by have ob10 : (0 : Int) ≤ (th 10) ∧ (th 10) ≤ 1 := (b0_10 hT :); have ob11 : (0 : Int) ≤ (th 11) ∧ (th 11) ≤ 9 := (b0_11 hT :); have ob12 : (0 : Int) ≤ (th 12) ∧ (th 12) ≤ 6 := (b0_12 hT :); have ob14 : (0 : Int) ≤ (th 14) ∧ (th 14) ≤ 511 := (b0_14 hT :); have ob15 : (0 : Int) ≤ (th 15) ∧ (th 15) ≤ 1 := (b0_15 hT :); have ob16 : (0 : Int) ≤ x9.toInt ∧ x9.toInt ≤ 20 := (b0_16 hT :); have ob17 : (0 : Int) ≤ (th 17) ∧ (th 17) ≤ 1 := (b0_17 hT :); have ob18 : (0 : Int) ≤ (th 18) ∧ (th 18) ≤ 18 := (b0_18 hT :); have ob38 : (0 : Int) ≤ (th 38) ∧ (th 38) ≤ 400 := (b0_38 hT :); have ob39 : (0 : Int) ≤ (th 39) ∧ (th 39) ≤ 200 := (b0_39 hT :); have ob44 : (0 : Int) ≤ (th 44) ∧ (th 44) ≤ 30 := (b0_44 hT :); obtain ⟨o0a, o0b⟩ := (hv47_18 : In _ _ _); obtain ⟨o1a, o1b⟩ := (hv14_18 : In _ _ _); obtain ⟨o2a, o2b⟩ := (hv15_18 : In _ _ _); obtain ⟨o3a, o3b⟩ := (hv17_18 : In _ _ _); obtain ⟨o4a, o4b⟩ := (hv20_18 : In _ _ _); obtain ⟨o5a, o5b⟩ := (hv23_18 : In _ _ _); obtain ⟨o6a, o6b⟩ := (hv25_18 : In _ _ _); obtain ⟨o7a, o7b⟩ := (hv36_18 : In _ _ _); obtain ⟨o8a, o8b⟩ := (hv48_18 : In _ _ _); obtain ⟨o9a, o9b⟩ := (hv53_18 : In _ _ _); obtain ⟨o10a, o10b⟩ := (hv55_18 : In _ _ _); omega)
          refine pl_lald hx hb hG.1 hP (hst.1 274 (by decide)) 1 hf21 rfl hin22 dX11_undo_69 ?_
          refine lv_topl (fun x23 ex23 => ?_)
          refine pl_put (ty := .long) (v := .long x23) (fs' := [.int v0_18, .ref (ad 256), .int v2_18, .int v3_18, .int v4_18, .int v5_18, .int v6_18, .ref (ad 257), .int v8_18, .int v9_18, .ref (ad 258), .ref (ad 259), .int v12_18, .int v13_18, .int v14_18, .int v15_18, .int v16_18, .int v17_18, .int v18_18, .int v19_18, .int v20_18, .long v21_18, .long v22_18, .int v23_18, .ref (ad 260), .int v25_18, .ref (ad 261), .ref (ad 262), .ref (ad 263), .ref (ad 264), .ref (ad 265), .ref (ad 266), .ref (ad 267), .ref (ad 268), .ref (ad 269), .ref (ad 270), .int v36_18, .int v37_18, .int v38_18, .int v39_18, .int v40_18, .ref (ad 271), .ref (ad 272), .ref (ad 273), .ref (ad 274), .long x23, .long v46_18, .int v47_18, .int v48_18, .ref (ad 275), .int v50_18, .int v51_18, .ref (ad 276), .int v53_18, .ref (ad 277), .int v55_18]) hx hb hts (fun w h => mT (inX11 w h)) tyX11 tyX11_ok nmX11 hown hG.1 hP hD hS (hst.1 255 (by decide)) hf19 rfl 45 (by decide) (hts _ (mT wg_1381)) (fun _ h => h) rfl (by decide +kernel) (rfl) (rfl) (Nat.le_of_ble_eq_true rfl) rfl dX11_undo_70 (fun H locs f24 hf25 ho26 hP hD hS => ?_)
          have hf27 := (ho26 (ad 274) (hst.ne (by decide) (by decide) (by decide))).trans hf21
          have hfr : (∀ b, b ≠ (ad 255) → b ≠ (ad 271) → f24 b = f b) := fun b z0_ z1_ => (ho26 b z0_).trans (hfr b z0_ z1_)
          refine lv_aload_n hx hb dX11_undo_73 rfl (lv_at hl 0 rfl) ?_
          refine pl_get (v := .int v47_18) hx hb hts (fun w h => mT (inX11 w h)) hown hG.1 hP (hst.1 255 (by decide)) hf25 rfl 47 (by decide) (hts _ (mT wg_1383)) (fun _ h => h) rfl dX11_undo_74 ?_
          have hT := TI.updM hT hst (k := 0) (by decide) hf25 ho26 ⟨v0_18, v2_18, v3_18, v4_18, v5_18, v6_18, v8_18, v9_18, v12_18, v13_18, v14_18, v15_18, v16_18, v17_18, v18_18, v19_18, v20_18, v21_18, v22_18, v23_18, v25_18, v36_18, v37_18, v38_18, v39_18, v40_18, x23, v46_18, v47_18, v48_18, v50_18, v51_18, v53_18, v55_18, rfl, hv0_18, hv2_18, hg2_18, hv3_18, hg3_18, hv4_18, hg4_18, hv5_18, hg5_18, hv6_18, hg6_18, hv8_18, hg8_18, hv9_18, hg9_18, hv12_18, hv13_18, hg13_18, hv14_18, hg14_18, hv15_18, hg15_18, hv17_18, hg17_18, hv20_18, hg20_18, hv23_18, hg23_18, hv25_18, hg25_18, hv36_18, hg36_18, hv47_18, hg47_18, hv48_18, hg48_18, hv53_18, hg53_18, hv55_18, hg55_18, hrel0_18⟩
          exact ret_i (ty := .int) hx hb hr hlocks (rfl) hP hD hS (Nat.le_of_ble_eq_true rfl) (Nat.le_of_ble_eq_true rfl) (⟨rfl, ⟨(gset (gset (gset th 16 x9.toInt) 19 zg26_zz) 24 (2126 * x9.toInt)), ⟨(show MI (gset (gset (gset th 16 x9.toInt) 19 zg26_zz) 24 (2126 * x9.toInt)) from ⟨m1, m2, (show th 20 = (th 12) * rnd (th 10) from m3), m4, m5, m6, (show 2126 * x9.toInt = 2126 * x9.toInt by obtain ⟨_, _⟩ := (hv14_18 : In _ _ _); obtain ⟨_, _⟩ := (hv15_18 : In _ _ _); obtain ⟨_, _⟩ := (hv17_18 : In _ _ _); obtain ⟨_, _⟩ := (hv20_18 : In _ _ _); obtain ⟨_, _⟩ := (hv23_18 : In _ _ _); obtain ⟨_, _⟩ := (hv25_18 : In _ _ _); obtain ⟨_, _⟩ := (hv36_18 : In _ _ _); obtain ⟨_, _⟩ := (hv47_18 : In _ _ _); obtain ⟨_, _⟩ := (hv48_18 : In _ _ _); obtain ⟨_, _⟩ := (hv53_18 : In _ _ _); obtain ⟨_, _⟩ := (hv55_18 : In _ _ _); omega), (show 0 ≤ x9.toInt ∧ x9.toInt ≤ 20 by obtain ⟨_, _⟩ := (hv14_18 : In _ _ _); obtain ⟨_, _⟩ := (hv15_18 : In _ _ _); obtain ⟨_, _⟩ := (hv17_18 : In _ _ _); obtain ⟨_, _⟩ := (hv20_18 : In _ _ _); obtain ⟨_, _⟩ := (hv23_18 : In _ _ _); obtain ⟨_, _⟩ := (hv25_18 : In _ _ _); obtain ⟨_, _⟩ := (hv36_18 : In _ _ _); obtain ⟨_, _⟩ := (hv47_18 : In _ _ _); obtain ⟨_, _⟩ := (hv48_18 : In _ _ _); obtain ⟨_, _⟩ := (hv53_18 : In _ _ _); obtain ⟨_, _⟩ := (hv55_18 : In _ _ _); omega), (show 0 ≤ zg26_zz ∧ zg26_zz ≤ th 20 by obtain ⟨_, _⟩ := (hv14_18 : In _ _ _); obtain ⟨_, _⟩ := (hv15_18 : In _ _ _); obtain ⟨_, _⟩ := (hv17_18 : In _ _ _); obtain ⟨_, _⟩ := (hv20_18 : In _ _ _); obtain ⟨_, _⟩ := (hv23_18 : In _ _ _); obtain ⟨_, _⟩ := (hv25_18 : In _ _ _); obtain ⟨_, _⟩ := (hv36_18 : In _ _ _); obtain ⟨_, _⟩ := (hv47_18 : In _ _ _); obtain ⟨_, _⟩ := (hv48_18 : In _ _ _); obtain ⟨_, _⟩ := (hv53_18 : In _ _ _); obtain ⟨_, _⟩ := (hv55_18 : In _ _ _); omega), m10⟩), (SBM.set (k := 24) (SBM.set (k := 19) (SBM.set (k := 16) (SBM.rf th) (by decide)) (by decide)) (by decide))⟩, hT⟩, hfr⟩) dX11_undo_77
        ·
          have oc2126 : (2126 : Int32).toInt = 2126 := by decide
          have cc28 : y26_l1.toInt < (2126 : Int32).toInt := i32_nle c15
          have hb29 : In y26_l1 0 2125 := In.lt1 hy26_l1 (⟨by decide, by decide⟩ : In 2126 2126 2126) cc28 (by omega) (by omega)
          refine lv_aload_n hx hb dX11_undo_33 rfl (lv_at hl 0 rfl) ?_
          refine M0e hT (fun v0_30 v2_30 v3_30 v4_30 v5_30 v6_30 v8_30 v9_30 v12_30 v13_30 v14_30 v15_30 v16_30 v17_30 v18_30 v19_30 v20_30 v21_30 v22_30 v23_30 v25_30 v36_30 v37_30 v38_30 v39_30 v40_30 v45_30 v46_30 v47_30 v48_30 v50_30 v51_30 v53_30 v55_30 hf31 hv0_30 hv2_30 hg2_30 hv3_30 hg3_30 hv4_30 hg4_30 hv5_30 hg5_30 hv6_30 hg6_30 hv8_30 hg8_30 hv9_30 hg9_30 hv12_30 hv13_30 hg13_30 hv14_30 hg14_30 hv15_30 hg15_30 hv17_30 hg17_30 hv20_30 hg20_30 hv23_30 hg23_30 hv25_30 hg25_30 hv36_30 hg36_30 hv47_30 hg47_30 hv48_30 hg48_30 hv53_30 hg53_30 hv55_30 hg55_30 hrel0_30 => ?_)
          have hg2_30 : v2_30.toInt = th 13 := hg2_30
          have hg3_30 : v3_30.toInt = th 37 := hg3_30
          have hg4_30 : v4_30.toInt = th 42 := hg4_30
          have hg5_30 : v5_30.toInt = th 40 := hg5_30
          have hg6_30 : v6_30.toInt = th 41 := hg6_30
          have hg8_30 : v8_30.toInt = th 43 := hg8_30
          have hg9_30 : v9_30.toInt = th 35 := hg9_30
          have hg13_30 : v13_30.toInt = th 36 := hg13_30
          have hg14_30 : v14_30.toInt = th 10 := hg14_30
          have hg15_30 : v15_30.toInt = th 11 := hg15_30
          have hg17_30 : v17_30.toInt = th 12 := hg17_30
          have hg20_30 : v20_30.toInt = th 14 := hg20_30
          have hg23_30 : v23_30.toInt = th 15 := hg23_30
          have hg25_30 : v25_30.toInt = th 44 := hg25_30
          have hg36_30 : v36_30.toInt = th 18 := hg36_30
          have hg47_30 : v47_30.toInt = x9.toInt := hg47_30
          have hg48_30 : v48_30.toInt = th 17 := hg48_30
          have hg53_30 : v53_30.toInt = th 38 := hg53_30
          have hg55_30 : v55_30.toInt = th 39 := hg55_30
          refine pl_get (v := .ref (ad 271)) hx hb hts (fun w h => mT (inX11 w h)) hown hG.1 hP (hst.1 255 (by decide)) hf31 rfl 41 (by decide) (hts _ (mT wg_1377)) (fun _ h => h) rfl dX11_undo_34 ?_
          refine lv_iload_n hx hb dX11_undo_37 rfl (lv_at hl 1 rfl) ?_
          refine lv_aload_n hx hb dX11_undo_38 rfl (lv_at hl 0 rfl) ?_
          refine pl_get (v := .ref (ad 273)) hx hb hts (fun w h => mT (inX11 w h)) hown hG.1 hP (hst.1 255 (by decide)) hf31 rfl 43 (by decide) (hts _ (mT wg_1379)) (fun _ h => h) rfl dX11_undo_39 ?_
          refine lv_sipush (v := 2126) hx hb dX11_undo_42 (by decide) ?_
          refine lv_aload_n hx hb dX11_undo_45 rfl (lv_at hl 0 rfl) ?_
          refine pl_get (v := .int v47_30) hx hb hts (fun w h => mT (inX11 w h)) hown hG.1 hP (hst.1 255 (by decide)) hf31 rfl 47 (by decide) (hts _ (mT wg_1383)) (fun _ h => h) rfl dX11_undo_46 ?_
          refine lv_imul hx hb dX11_undo_49 ?_
          refine lv_topi (fun x32 ex32 => ?_)
          have hb33 : In x32 0 42520 := ex32 ▸ In.mul (⟨by decide, by decide⟩ : In 2126 2126 2126) hv47_30 (by decide) (by decide) (by decide) (by decide) (by decide)
          have et34 : x32.toInt = 2126 * v47_30.toInt := In.mule ex32 (⟨by decide, by decide⟩ : In 2126 2126 2126) hv47_30 (by decide) (by decide) (by decide) (by decide) rfl
          refine lv_iload_n hx hb dX11_undo_50 rfl (lv_at hl 1 rfl) ?_
          refine lv_iadd hx hb dX11_undo_51 ?_
          refine lv_topi (fun x35 ex35 => ?_)
          have hb36 : In x35 0 44645 := ex35 ▸ In.add hb33 hb29 (by decide) (by decide) (by decide) (by decide)
          have et37 : x35.toInt = x32.toInt + y26_l1.toInt := In.add2e ex35 hb33 hb29 (by decide) (by decide)
          obtain ⟨rw38, hf39, hc40⟩ := hT.2.2 18 (by decide)
          have hc40 : PRW 42520 (th 24) (th 20) (th 21) rw38 := hc40
          have hin41 : vp_in x35 42520 := vp_of (by have ob10 : (0 : Int) ≤ (th 10) ∧ (th 10) ≤ 1 := (b0_10 hT :); have ob11 : (0 : Int) ≤ (th 11) ∧ (th 11) ≤ 9 := (b0_11 hT :); have ob12 : (0 : Int) ≤ (th 12) ∧ (th 12) ≤ 6 := (b0_12 hT :); have ob14 : (0 : Int) ≤ (th 14) ∧ (th 14) ≤ 511 := (b0_14 hT :); have ob15 : (0 : Int) ≤ (th 15) ∧ (th 15) ≤ 1 := (b0_15 hT :); have ob16 : (0 : Int) ≤ x9.toInt ∧ x9.toInt ≤ 20 := (b0_16 hT :); have ob17 : (0 : Int) ≤ (th 17) ∧ (th 17) ≤ 1 := (b0_17 hT :); have ob18 : (0 : Int) ≤ (th 18) ∧ (th 18) ≤ 18 := (b0_18 hT :); have ob38 : (0 : Int) ≤ (th 38) ∧ (th 38) ≤ 400 := (b0_38 hT :); have ob39 : (0 : Int) ≤ (th 39) ∧ (th 39) ≤ 200 := (b0_39 hT :); have ob44 : (0 : Int) ≤ (th 44) ∧ (th 44) ≤ 30 := (b0_44 hT :); obtain ⟨o0a, o0b⟩ := (hb36 : In _ _ _); obtain ⟨o1a, o1b⟩ := (hv14_30 : In _ _ _); obtain ⟨o2a, o2b⟩ := (hv15_30 : In _ _ _); obtain ⟨o3a, o3b⟩ := (hv17_30 : In _ _ _); obtain ⟨o4a, o4b⟩ := (hv20_30 : In _ _ _); obtain ⟨o5a, o5b⟩ := (hv23_30 : In _ _ _); obtain ⟨o6a, o6b⟩ := (hv25_30 : In _ _ _); obtain ⟨o7a, o7b⟩ := (hv36_30 : In _ _ _); obtain ⟨o8a, o8b⟩ := (hv47_30 : In _ _ _); obtain ⟨o9a, o9b⟩ := (hv48_30 : In _ _ _); obtain ⟨o10a, o10b⟩ := (hv53_30 : In _ _ _); obtain ⟨o11a, o11b⟩ := (hv55_30 : In _ _ _); obtain ⟨o12a, o12b⟩ := (hb33 : In _ _ _); obtain ⟨o13a, o13b⟩ := (hb29 : In _ _ _); omega) (by have ob10 : (0 : Int) ≤ (th 10) ∧ (th 10) ≤ 1 := (b0_10 hT :); have ob11 : (0 : Int) ≤ (th 11) ∧ (th 11) ≤ 9 := (b0_11 hT :); have ob12 : (0 : Int) ≤ (th 12) ∧ (th 12) ≤ 6 := (b0_12 hT :); have ob14 : (0 : Int) ≤ (th 14) ∧ (th 14) ≤ 511 := (b0_14 hT :); have ob15 : (0 : Int) ≤ (th 15) ∧ (th 15) ≤ 1 := (b0_15 hT :); have ob16 : (0 : Int) ≤ x9.toInt ∧ x9.toInt ≤ 20 := (b0_16 hT :); have ob17 : (0 : Int) ≤ (th 17) ∧ (th 17) ≤ 1 := (b0_17 hT :); have ob18 : (0 : Int) ≤ (th 18) ∧ (th 18) ≤ 18 := (b0_18 hT :); have ob38 : (0 : Int) ≤ (th 38) ∧ (th 38) ≤ 400 := (b0_38 hT :); have ob39 : (0 : Int) ≤ (th 39) ∧ (th 39) ≤ 200 := (b0_39 hT :); have ob44 : (0 : Int) ≤ (th 44) ∧ (th 44) ≤ 30 := (b0_44 hT :); obtain ⟨o0a, o0b⟩ := (hb36 : In _ _ _); obtain ⟨o1a, o1b⟩ := (hv14_30 : In _ _ _); obtain ⟨o2a, o2b⟩ := (hv15_30 : In _ _ _); obtain ⟨o3a, o3b⟩ := (hv17_30 : In _ _ _); obtain ⟨o4a, o4b⟩ := (hv20_30 : In _ _ _); obtain ⟨o5a, o5b⟩ := (hv23_30 : In _ _ _); obtain ⟨o6a, o6b⟩ := (hv25_30 : In _ _ _); obtain ⟨o7a, o7b⟩ := (hv36_30 : In _ _ _); obtain ⟨o8a, o8b⟩ := (hv47_30 : In _ _ _); obtain ⟨o9a, o9b⟩ := (hv48_30 : In _ _ _); obtain ⟨o10a, o10b⟩ := (hv53_30 : In _ _ _); obtain ⟨o11a, o11b⟩ := (hv55_30 : In _ _ _); obtain ⟨o12a, o12b⟩ := (hb33 : In _ _ _); obtain ⟨o13a, o13b⟩ := (hb29 : In _ _ _); omega)
          refine pl_iald hx hb hG.1 hP (hst.1 273 (by decide)) 0 hf39 rfl hin41 dX11_undo_52 ?_
          refine lv_topi (fun x42 ex42 => ?_)
          have hpl43 : PRED (th 20) (th 21) (x35.toNatClampNeg % 2126) x42 := by rw [ex42]; exact hc40 _ (vp_nat hin41) (by have q := vp_cl (i := x35) (by have ob10 : (0 : Int) ≤ (th 10) ∧ (th 10) ≤ 1 := (b0_10 hT :); have ob11 : (0 : Int) ≤ (th 11) ∧ (th 11) ≤ 9 := (b0_11 hT :); have ob12 : (0 : Int) ≤ (th 12) ∧ (th 12) ≤ 6 := (b0_12 hT :); have ob14 : (0 : Int) ≤ (th 14) ∧ (th 14) ≤ 511 := (b0_14 hT :); have ob15 : (0 : Int) ≤ (th 15) ∧ (th 15) ≤ 1 := (b0_15 hT :); have ob16 : (0 : Int) ≤ x9.toInt ∧ x9.toInt ≤ 20 := (b0_16 hT :); have ob17 : (0 : Int) ≤ (th 17) ∧ (th 17) ≤ 1 := (b0_17 hT :); have ob18 : (0 : Int) ≤ (th 18) ∧ (th 18) ≤ 18 := (b0_18 hT :); have ob38 : (0 : Int) ≤ (th 38) ∧ (th 38) ≤ 400 := (b0_38 hT :); have ob39 : (0 : Int) ≤ (th 39) ∧ (th 39) ≤ 200 := (b0_39 hT :); have ob44 : (0 : Int) ≤ (th 44) ∧ (th 44) ≤ 30 := (b0_44 hT :); obtain ⟨o0a, o0b⟩ := (hb36 : In _ _ _); obtain ⟨o1a, o1b⟩ := (hv14_30 : In _ _ _); obtain ⟨o2a, o2b⟩ := (hv15_30 : In _ _ _); obtain ⟨o3a, o3b⟩ := (hv17_30 : In _ _ _); obtain ⟨o4a, o4b⟩ := (hv20_30 : In _ _ _); obtain ⟨o5a, o5b⟩ := (hv23_30 : In _ _ _); obtain ⟨o6a, o6b⟩ := (hv25_30 : In _ _ _); obtain ⟨o7a, o7b⟩ := (hv36_30 : In _ _ _); obtain ⟨o8a, o8b⟩ := (hv47_30 : In _ _ _); obtain ⟨o9a, o9b⟩ := (hv48_30 : In _ _ _); obtain ⟨o10a, o10b⟩ := (hv53_30 : In _ _ _); obtain ⟨o11a, o11b⟩ := (hv55_30 : In _ _ _); obtain ⟨o12a, o12b⟩ := (hb33 : In _ _ _); obtain ⟨o13a, o13b⟩ := (hb29 : In _ _ _); omega); have ob10 : (0 : Int) ≤ (th 10) ∧ (th 10) ≤ 1 := (b0_10 hT :); have ob11 : (0 : Int) ≤ (th 11) ∧ (th 11) ≤ 9 := (b0_11 hT :); have ob12 : (0 : Int) ≤ (th 12) ∧ (th 12) ≤ 6 := (b0_12 hT :); have ob14 : (0 : Int) ≤ (th 14) ∧ (th 14) ≤ 511 := (b0_14 hT :); have ob15 : (0 : Int) ≤ (th 15) ∧ (th 15) ≤ 1 := (b0_15 hT :); have ob16 : (0 : Int) ≤ x9.toInt ∧ x9.toInt ≤ 20 := (b0_16 hT :); have ob17 : (0 : Int) ≤ (th 17) ∧ (th 17) ≤ 1 := (b0_17 hT :); have ob18 : (0 : Int) ≤ (th 18) ∧ (th 18) ≤ 18 := (b0_18 hT :); have ob38 : (0 : Int) ≤ (th 38) ∧ (th 38) ≤ 400 := (b0_38 hT :); have ob39 : (0 : Int) ≤ (th 39) ∧ (th 39) ≤ 200 := (b0_39 hT :); have ob44 : (0 : Int) ≤ (th 44) ∧ (th 44) ≤ 30 := (b0_44 hT :); obtain ⟨o0a, o0b⟩ := (hb36 : In _ _ _); obtain ⟨o1a, o1b⟩ := (hv14_30 : In _ _ _); obtain ⟨o2a, o2b⟩ := (hv15_30 : In _ _ _); obtain ⟨o3a, o3b⟩ := (hv17_30 : In _ _ _); obtain ⟨o4a, o4b⟩ := (hv20_30 : In _ _ _); obtain ⟨o5a, o5b⟩ := (hv23_30 : In _ _ _); obtain ⟨o6a, o6b⟩ := (hv25_30 : In _ _ _); obtain ⟨o7a, o7b⟩ := (hv36_30 : In _ _ _); obtain ⟨o8a, o8b⟩ := (hv47_30 : In _ _ _); obtain ⟨o9a, o9b⟩ := (hv48_30 : In _ _ _); obtain ⟨o10a, o10b⟩ := (hv53_30 : In _ _ _); obtain ⟨o11a, o11b⟩ := (hv55_30 : In _ _ _); obtain ⟨o12a, o12b⟩ := (hb33 : In _ _ _); obtain ⟨o13a, o13b⟩ := (hb29 : In _ _ _); omega)
          obtain ⟨rw44, hf45, hpi47, hc46⟩ := hT.2.2 16 (by decide)
          have hc46 : PRW 2126 (th 22) (th 20) (th 21) rw44 := hc46
          have hpi47 : ((72 : Int) < (th 22) → (rw44 72).toInt = zg26_zz) := hpi47
          refine pl_iastE hx hb hG.1 hP hD hS (hst.1 271 (by decide)) 0 hf45 rfl (In.inb hb29 (by decide) (by decide)) dX11_undo_53 (fun H locs f48 r51 er51 hf49 ho50 hP hD hS => ?_)
          have hpx52 : PRED (th 20) (th 21) (y26_l1.toNatClampNeg % 2126) x42 := pred_e hpl43 (by have q := vp_cl (i := y26_l1) (by have ob10 : (0 : Int) ≤ (th 10) ∧ (th 10) ≤ 1 := (b0_10 hT :); have ob11 : (0 : Int) ≤ (th 11) ∧ (th 11) ≤ 9 := (b0_11 hT :); have ob12 : (0 : Int) ≤ (th 12) ∧ (th 12) ≤ 6 := (b0_12 hT :); have ob14 : (0 : Int) ≤ (th 14) ∧ (th 14) ≤ 511 := (b0_14 hT :); have ob15 : (0 : Int) ≤ (th 15) ∧ (th 15) ≤ 1 := (b0_15 hT :); have ob16 : (0 : Int) ≤ x9.toInt ∧ x9.toInt ≤ 20 := (b0_16 hT :); have ob17 : (0 : Int) ≤ (th 17) ∧ (th 17) ≤ 1 := (b0_17 hT :); have ob18 : (0 : Int) ≤ (th 18) ∧ (th 18) ≤ 18 := (b0_18 hT :); have ob38 : (0 : Int) ≤ (th 38) ∧ (th 38) ≤ 400 := (b0_38 hT :); have ob39 : (0 : Int) ≤ (th 39) ∧ (th 39) ≤ 200 := (b0_39 hT :); have ob44 : (0 : Int) ≤ (th 44) ∧ (th 44) ≤ 30 := (b0_44 hT :); obtain ⟨o0a, o0b⟩ := (hb29 : In _ _ _); obtain ⟨o1a, o1b⟩ := (hv14_30 : In _ _ _); obtain ⟨o2a, o2b⟩ := (hv15_30 : In _ _ _); obtain ⟨o3a, o3b⟩ := (hv17_30 : In _ _ _); obtain ⟨o4a, o4b⟩ := (hv20_30 : In _ _ _); obtain ⟨o5a, o5b⟩ := (hv23_30 : In _ _ _); obtain ⟨o6a, o6b⟩ := (hv25_30 : In _ _ _); obtain ⟨o7a, o7b⟩ := (hv36_30 : In _ _ _); obtain ⟨o8a, o8b⟩ := (hv47_30 : In _ _ _); obtain ⟨o9a, o9b⟩ := (hv48_30 : In _ _ _); obtain ⟨o10a, o10b⟩ := (hv53_30 : In _ _ _); obtain ⟨o11a, o11b⟩ := (hv55_30 : In _ _ _); omega); have q2 := vp_cl (i := x35) (by have ob10 : (0 : Int) ≤ (th 10) ∧ (th 10) ≤ 1 := (b0_10 hT :); have ob11 : (0 : Int) ≤ (th 11) ∧ (th 11) ≤ 9 := (b0_11 hT :); have ob12 : (0 : Int) ≤ (th 12) ∧ (th 12) ≤ 6 := (b0_12 hT :); have ob14 : (0 : Int) ≤ (th 14) ∧ (th 14) ≤ 511 := (b0_14 hT :); have ob15 : (0 : Int) ≤ (th 15) ∧ (th 15) ≤ 1 := (b0_15 hT :); have ob16 : (0 : Int) ≤ x9.toInt ∧ x9.toInt ≤ 20 := (b0_16 hT :); have ob17 : (0 : Int) ≤ (th 17) ∧ (th 17) ≤ 1 := (b0_17 hT :); have ob18 : (0 : Int) ≤ (th 18) ∧ (th 18) ≤ 18 := (b0_18 hT :); have ob38 : (0 : Int) ≤ (th 38) ∧ (th 38) ≤ 400 := (b0_38 hT :); have ob39 : (0 : Int) ≤ (th 39) ∧ (th 39) ≤ 200 := (b0_39 hT :); have ob44 : (0 : Int) ≤ (th 44) ∧ (th 44) ≤ 30 := (b0_44 hT :); obtain ⟨o0a, o0b⟩ := (hb36 : In _ _ _); obtain ⟨o1a, o1b⟩ := (hv14_30 : In _ _ _); obtain ⟨o2a, o2b⟩ := (hv15_30 : In _ _ _); obtain ⟨o3a, o3b⟩ := (hv17_30 : In _ _ _); obtain ⟨o4a, o4b⟩ := (hv20_30 : In _ _ _); obtain ⟨o5a, o5b⟩ := (hv23_30 : In _ _ _); obtain ⟨o6a, o6b⟩ := (hv25_30 : In _ _ _); obtain ⟨o7a, o7b⟩ := (hv36_30 : In _ _ _); obtain ⟨o8a, o8b⟩ := (hv47_30 : In _ _ _); obtain ⟨o9a, o9b⟩ := (hv48_30 : In _ _ _); obtain ⟨o10a, o10b⟩ := (hv53_30 : In _ _ _); obtain ⟨o11a, o11b⟩ := (hv55_30 : In _ _ _); obtain ⟨o12a, o12b⟩ := (hb33 : In _ _ _); obtain ⟨o13a, o13b⟩ := (hb29 : In _ _ _); omega); have ob10 : (0 : Int) ≤ (th 10) ∧ (th 10) ≤ 1 := (b0_10 hT :); have ob11 : (0 : Int) ≤ (th 11) ∧ (th 11) ≤ 9 := (b0_11 hT :); have ob12 : (0 : Int) ≤ (th 12) ∧ (th 12) ≤ 6 := (b0_12 hT :); have ob14 : (0 : Int) ≤ (th 14) ∧ (th 14) ≤ 511 := (b0_14 hT :); have ob15 : (0 : Int) ≤ (th 15) ∧ (th 15) ≤ 1 := (b0_15 hT :); have ob16 : (0 : Int) ≤ x9.toInt ∧ x9.toInt ≤ 20 := (b0_16 hT :); have ob17 : (0 : Int) ≤ (th 17) ∧ (th 17) ≤ 1 := (b0_17 hT :); have ob18 : (0 : Int) ≤ (th 18) ∧ (th 18) ≤ 18 := (b0_18 hT :); have ob38 : (0 : Int) ≤ (th 38) ∧ (th 38) ≤ 400 := (b0_38 hT :); have ob39 : (0 : Int) ≤ (th 39) ∧ (th 39) ≤ 200 := (b0_39 hT :); have ob44 : (0 : Int) ≤ (th 44) ∧ (th 44) ≤ 30 := (b0_44 hT :); obtain ⟨o0a, o0b⟩ := (hb29 : In _ _ _); obtain ⟨o1a, o1b⟩ := (hb36 : In _ _ _); obtain ⟨o2a, o2b⟩ := (hv14_30 : In _ _ _); obtain ⟨o3a, o3b⟩ := (hv15_30 : In _ _ _); obtain ⟨o4a, o4b⟩ := (hv17_30 : In _ _ _); obtain ⟨o5a, o5b⟩ := (hv20_30 : In _ _ _); obtain ⟨o6a, o6b⟩ := (hv23_30 : In _ _ _); obtain ⟨o7a, o7b⟩ := (hv25_30 : In _ _ _); obtain ⟨o8a, o8b⟩ := (hv36_30 : In _ _ _); obtain ⟨o9a, o9b⟩ := (hv47_30 : In _ _ _); obtain ⟨o10a, o10b⟩ := (hv48_30 : In _ _ _); obtain ⟨o11a, o11b⟩ := (hv53_30 : In _ _ _); obtain ⟨o12a, o12b⟩ := (hv55_30 : In _ _ _); obtain ⟨o13a, o13b⟩ := (hb33 : In _ _ _); omega)
          obtain ⟨hc53, zn54, hzn54, zn54p⟩ := now_set (L := th 20) (c := th 21) (show PRW 2126 2126 (th 20) (th 21) _ from prw_c hc46 (by omega)) er51 hpx52
          have hc53q : PRW 2126 (th 22) (th 20) (th 21) r51 := prw_c hc53 (by omega)
          have hf55 := (ho50 (ad 255) (hst.ne (by decide) (by decide) (by decide))).trans hf31
          have hf56 := (ho50 (ad 273) (hst.ne (by decide) (by decide) (by decide))).trans hf39
          have hfr : (∀ b, b ≠ (ad 255) → b ≠ (ad 271) → f48 b = f b) := fun b z0_ z1_ => (ho50 b z1_).trans (hfr b z0_ z1_)
          obtain ⟨x57, ex57⟩ : ∃ y : Int32, y = y26_l1 + 1 := ⟨_, rfl⟩
          have hb58 : In x57 1 2126 := ex57 ▸ In.add hb29 (⟨by decide, by decide⟩ : In 1 1 1) (by decide) (by decide) (by decide) (by decide)
          have et59 : x57.toInt = y26_l1.toInt + 1 := In.adde ex57 hb29 (k := 1) (by decide) (by decide) (by decide)
          refine lv_iinc (v := x57) (lv' := [(1, .int x57), (0, .ref (ad 255))]) hx hb dX11_undo_54 hl (k := 1) rfl (by rw [ex57]; rfl) (by decide) rfl (fun ls hl => ?_)
          have hT := TI.updMG (th' := (gset (gset (gset th 16 x9.toInt) 19 zg26_zz) 19 zn54)) hT hst (k := 16) (by decide) hf49 ho50 ⟨r51, rfl, (fun _ => zn54p (by decide)), hc53q⟩ (fun q hq => ((gset_ne (fun e => hq (by subst e; decide))).trans rfl))
          have hT : TI g ad (gset (gset th 16 x9.toInt) 19 zn54) f48 := TI.cast hT (by funext q; by_cases hq0 : q = 19; (subst hq0; rfl); by_cases hq1 : q = 16; (subst hq1; rfl); simp only [gset, if_neg hq0, if_neg hq1])
          refine lv_goto (tgt := 26) hx hb dX11_undo_57 (by decide) ?_
          exact ih26 zn54 x57 _ _ _ _ (show 0 ≤ zn54 ∧ zn54 ≤ th 20 by omega) (In.mono hb58 (by decide) (by decide)) hP hD hS (TI.cast hT (by funext q; by_cases hq0 : q = 19; (subst hq0; rfl); by_cases hq1 : q = 16; (subst hq1; rfl); simp only [gset, if_neg hq0, if_neg hq1])) hfr (lv_sub hl [1, 0] rfl) (msu et59 (by decide) hmz26)
    exact hJ26 ((2126 - (0 : Int32).toInt).toNat + 1) (th 19) 0 _ _ _ _ (show 0 ≤ th 19 ∧ th 19 ≤ th 20 by omega) (⟨by decide, by decide⟩ : In 0 0 2126) hP hD hS (TI.cast hT (by funext q; by_cases hq0 : q = 16; (subst hq0; rfl); by_cases hq1 : q = 19; (subst hq1; rfl); simp only [gset, if_neg hq0, if_neg hq1])) hfr (lv_sub hl [1, 0] rfl) (msI _)
  ·
    have oc0 : (0 : Int32).toInt = 0 := by decide
    have cc60 : v47_1.toInt = (0 : Int32).toInt := congrArg Int32.toInt c6
    have hb61 : In v47_1 0 0 := In.eq1 hv47_1 (⟨by decide, by decide⟩ : In 0 0 0) cc60 (by omega) (by omega)
    refine lv_iconst (v := (-1)) hx hb dX11_undo_12 (by decide) ?_
    exact ret_i (ty := .int) hx hb hr hlocks (rfl) hP hD hS (Nat.le_of_ble_eq_true rfl) (Nat.le_of_ble_eq_true rfl) (⟨rfl, ⟨th, ⟨(show MI th from hM), (SBM.rf th)⟩, hT⟩, hfr⟩) dX11_undo_13

abbrev rm_X11_image : Room := { frames := 0, cells := 0, slots := 0, locals := 0 }
abbrev po_X11_image (g : GG) (ad : Nat → Nat) (th : Nat → Int) (L : List Nat) (f : HP)  : Int32 → (List Nat × HP) → Prop := fun r u => u.1 = L ∧ (∃ th' : Nat → Int, (MI th' ∧ SBM th th') ∧ TI g ad th' u.2) ∧ (∀ b, b ≠ (ad 255) → b ≠ (ad 272) → u.2 b = f b)
set_option maxHeartbeats 4000000 in
set_option maxRecDepth 100000 in
theorem s_X11_image (l : Launch) (g : GG) (ad : Nat → Nat) (th : Nat → Int) (L : List Nat) (f : HP) (sz : Nat)  (hst : ST ad L) (hT : TI g ad th f) (hM : MI th) : MtI l g yX11_image cX11_image 2 (some .int) rm_X11_image [.ref (ad 255)] L f sz (po_X11_image g ad th L f ) := by
  refine MtI.of (by decide +kernel) (Nat.le_of_ble_eq_true rfl) ?_
  intro p e s m below meth c A hEn hP hD hS ls hl
  obtain ⟨hx, hb, hr, hml, hown, hlocks, hts, hG, hA, hE, hnm⟩ := hEn
  have hown : s.vm.findClass "RulerWordModel" = some m.cls := hown
  have hl : lv_has ls 2 [(0, .ref (ad 255))] := hl
  have hfr : (∀ b, b ≠ (ad 255) → b ≠ (ad 272) → f b = f b) := fun b z0_ z1_ => rfl
  have hM0 := hM
  obtain ⟨m1, m2, m3, m4, m5, m6, m7, m8, m9, m10⟩ := hM0
  have m20 := mi20 m2 m3
  refine lv_aload_n hx hb dX11_image_0 rfl (lv_at hl 0 rfl) ?_
  refine lv_iconst (v := 0) hx hb dX11_image_1 (by decide) ?_
  refine M0e hT (fun v0_1 v2_1 v3_1 v4_1 v5_1 v6_1 v8_1 v9_1 v12_1 v13_1 v14_1 v15_1 v16_1 v17_1 v18_1 v19_1 v20_1 v21_1 v22_1 v23_1 v25_1 v36_1 v37_1 v38_1 v39_1 v40_1 v45_1 v46_1 v47_1 v48_1 v50_1 v51_1 v53_1 v55_1 hf2 hv0_1 hv2_1 hg2_1 hv3_1 hg3_1 hv4_1 hg4_1 hv5_1 hg5_1 hv6_1 hg6_1 hv8_1 hg8_1 hv9_1 hg9_1 hv12_1 hv13_1 hg13_1 hv14_1 hg14_1 hv15_1 hg15_1 hv17_1 hg17_1 hv20_1 hg20_1 hv23_1 hg23_1 hv25_1 hg25_1 hv36_1 hg36_1 hv47_1 hg47_1 hv48_1 hg48_1 hv53_1 hg53_1 hv55_1 hg55_1 hrel0_1 => ?_)
  refine pl_put (ty := .int) (v := .int 0) (fs' := [.int 0, .ref (ad 256), .int v2_1, .int v3_1, .int v4_1, .int v5_1, .int v6_1, .ref (ad 257), .int v8_1, .int v9_1, .ref (ad 258), .ref (ad 259), .int v12_1, .int v13_1, .int v14_1, .int v15_1, .int v16_1, .int v17_1, .int v18_1, .int v19_1, .int v20_1, .long v21_1, .long v22_1, .int v23_1, .ref (ad 260), .int v25_1, .ref (ad 261), .ref (ad 262), .ref (ad 263), .ref (ad 264), .ref (ad 265), .ref (ad 266), .ref (ad 267), .ref (ad 268), .ref (ad 269), .ref (ad 270), .int v36_1, .int v37_1, .int v38_1, .int v39_1, .int v40_1, .ref (ad 271), .ref (ad 272), .ref (ad 273), .ref (ad 274), .long v45_1, .long v46_1, .int v47_1, .int v48_1, .ref (ad 275), .int v50_1, .int v51_1, .ref (ad 276), .int v53_1, .ref (ad 277), .int v55_1]) hx hb hts (fun w h => mT (inX11 w h)) tyX11 tyX11_ok nmX11 hown hG.1 hP hD hS (hst.1 255 (by decide)) hf2 rfl 0 (by decide) (hts _ (mT wg_1336)) (fun _ h => h) rfl (by decide +kernel) (rfl) (rfl) (Nat.le_of_ble_eq_true rfl) rfl dX11_image_2 (fun H locs f3 hf4 ho5 hP hD hS => ?_)
  have hfr : (∀ b, b ≠ (ad 255) → b ≠ (ad 272) → f3 b = f b) := fun b z0_ z1_ => (ho5 b z0_).trans (hfr b z0_ z1_)
  refine lv_aload_n hx hb dX11_image_5 rfl (lv_at hl 0 rfl) ?_
  refine pl_get (v := .int v23_1) hx hb hts (fun w h => mT (inX11 w h)) hown hG.1 hP (hst.1 255 (by decide)) hf4 rfl 23 (by decide) (hts _ (mT wg_1359)) (fun _ h => h) rfl dX11_image_6 ?_
  have hT := TI.updM hT hst (k := 0) (by decide) hf4 ho5 ⟨0, v2_1, v3_1, v4_1, v5_1, v6_1, v8_1, v9_1, v12_1, v13_1, v14_1, v15_1, v16_1, v17_1, v18_1, v19_1, v20_1, v21_1, v22_1, v23_1, v25_1, v36_1, v37_1, v38_1, v39_1, v40_1, v45_1, v46_1, v47_1, v48_1, v50_1, v51_1, v53_1, v55_1, rfl, (⟨by decide, by decide⟩ : In 0 0 1), hv2_1, hg2_1, hv3_1, hg3_1, hv4_1, hg4_1, hv5_1, hg5_1, hv6_1, hg6_1, hv8_1, hg8_1, hv9_1, hg9_1, hv12_1, hv13_1, hg13_1, hv14_1, hg14_1, hv15_1, hg15_1, hv17_1, hg17_1, hv20_1, hg20_1, hv23_1, hg23_1, hv25_1, hg25_1, hv36_1, hg36_1, hv47_1, hg47_1, hv48_1, hg48_1, hv53_1, hg53_1, hv55_1, hg55_1, hrel0_1⟩
  refine lv_if_ne (tgt := 14) hx hb dX11_image_9 (by decide) (fun c6 => ?_) (fun c6 => ?_)
  ·
    have oc0 : (0 : Int32).toInt = 0 := by decide
    have cc7 : v23_1.toInt ≠ (0 : Int32).toInt := i32_ne c6
    have hb8 : In v23_1 1 1 := In.ne1 hv23_1 (⟨by decide, by decide⟩ : In 0 0 0) cc7 (by omega) (by omega)
    have hT := TI.w23 hT
    refine lv_iconst (v := 0) hx hb dX11_image_14 (by decide) ?_
    refine lv_istore_n (lv' := [(1, .int 0), (0, .ref (ad 255))]) hx hb dX11_image_15 rfl hl (by decide) rfl (fun ls hl => ?_)
    have hJ16 : ∀ (k16 : Nat) (zg16_zi : Int) (y16_l1 : Int32) (f_16 : HP) (H : Heap) (locs : List Loc) (ls : Array Slot), (zg16_zi = y16_l1.toInt) → In y16_l1 0 2126 → va_P g.1 vwCl (va_pl L f_16) H → va_D A (va_pl L f_16) → va_S A s.heap H locs → TI g ad (gset th 23 zg16_zi) f_16 → (∀ b, b ≠ (ad 255) → b ≠ (ad 272) → f_16 b = f b) → lv_has ls 2 [(0, .ref (ad 255)), (1, .int y16_l1)] → 2126 - y16_l1.toInt < ((k16 : Nat) : Int) → W p l e rm_X11_image s m [.ref (ad 255)].toArray below meth c H locs 0 0 (MQ below (va_Qi (po_X11_image g ad th L f ) (PstB g A) A) [.ref (ad 255)].toArray s rm_X11_image.cells rm_X11_image.slots A) (F0 m 16 ls []) := by
      intro k16
      induction k16 with
      | zero =>
        intro zg16_zi y16_l1 f_16 H locs ls hzg16 hy16_l1 hP hD hS hT hfr hl hmz16
        exact ms0 hy16_l1 hmz16
      | succ k16 ih16 =>
        intro zg16_zi y16_l1 f_16 H locs ls hzg16 hy16_l1 hP hD hS hT hfr hl hmz16
        refine lv_iload_n hx hb dX11_image_16 rfl (lv_at hl 1 rfl) ?_
        refine lv_sipush (v := 2126) hx hb dX11_image_17 (by decide) ?_
        refine lv_icmp_ge (tgt := 41) hx hb dX11_image_20 (by decide) (fun c9 => ?_) (fun c9 => ?_)
        ·
          have oc2126 : (2126 : Int32).toInt = 2126 := by decide
          have cc10 : (2126 : Int32).toInt ≤ y16_l1.toInt := i32_le.mp c9
          have hb11 : In y16_l1 2126 2126 := In.ge1 hy16_l1 (⟨by decide, by decide⟩ : In 2126 2126 2126) cc10 (by omega) (by omega)
          refine lv_aload_n hx hb dX11_image_41 rfl (lv_at hl 0 rfl) ?_
          refine lv_aload_n hx hb dX11_image_42 rfl (lv_at hl 0 rfl) ?_
          refine M0e hT (fun v0_12 v2_12 v3_12 v4_12 v5_12 v6_12 v8_12 v9_12 v12_12 v13_12 v14_12 v15_12 v16_12 v17_12 v18_12 v19_12 v20_12 v21_12 v22_12 v23_12 v25_12 v36_12 v37_12 v38_12 v39_12 v40_12 v45_12 v46_12 v47_12 v48_12 v50_12 v51_12 v53_12 v55_12 hf13 hv0_12 hv2_12 hg2_12 hv3_12 hg3_12 hv4_12 hg4_12 hv5_12 hg5_12 hv6_12 hg6_12 hv8_12 hg8_12 hv9_12 hg9_12 hv12_12 hv13_12 hg13_12 hv14_12 hg14_12 hv15_12 hg15_12 hv17_12 hg17_12 hv20_12 hg20_12 hv23_12 hg23_12 hv25_12 hg25_12 hv36_12 hg36_12 hv47_12 hg47_12 hv48_12 hg48_12 hv53_12 hg53_12 hv55_12 hg55_12 hrel0_12 => ?_)
          have hg2_12 : v2_12.toInt = th 13 := hg2_12
          have hg3_12 : v3_12.toInt = th 37 := hg3_12
          have hg4_12 : v4_12.toInt = th 42 := hg4_12
          have hg5_12 : v5_12.toInt = th 40 := hg5_12
          have hg6_12 : v6_12.toInt = th 41 := hg6_12
          have hg8_12 : v8_12.toInt = th 43 := hg8_12
          have hg9_12 : v9_12.toInt = th 35 := hg9_12
          have hg13_12 : v13_12.toInt = th 36 := hg13_12
          have hg14_12 : v14_12.toInt = th 10 := hg14_12
          have hg15_12 : v15_12.toInt = th 11 := hg15_12
          have hg17_12 : v17_12.toInt = th 12 := hg17_12
          have hg20_12 : v20_12.toInt = th 14 := hg20_12
          have hg23_12 : v23_12.toInt = th 15 := hg23_12
          have hg25_12 : v25_12.toInt = th 44 := hg25_12
          have hg36_12 : v36_12.toInt = th 18 := hg36_12
          have hg47_12 : v47_12.toInt = th 16 := hg47_12
          have hg48_12 : v48_12.toInt = th 17 := hg48_12
          have hg53_12 : v53_12.toInt = th 38 := hg53_12
          have hg55_12 : v55_12.toInt = th 39 := hg55_12
          refine pl_get (v := .long v45_12) hx hb hts (fun w h => mT (inX11 w h)) hown hG.1 hP (hst.1 255 (by decide)) hf13 rfl 45 (by decide) (hts _ (mT wg_1381)) (fun _ h => h) rfl dX11_image_43 ?_
          refine pl_put (ty := .long) (v := .long v45_12) (fs' := [.int v0_12, .ref (ad 256), .int v2_12, .int v3_12, .int v4_12, .int v5_12, .int v6_12, .ref (ad 257), .int v8_12, .int v9_12, .ref (ad 258), .ref (ad 259), .int v12_12, .int v13_12, .int v14_12, .int v15_12, .int v16_12, .int v17_12, .int v18_12, .int v19_12, .int v20_12, .long v21_12, .long v22_12, .int v23_12, .ref (ad 260), .int v25_12, .ref (ad 261), .ref (ad 262), .ref (ad 263), .ref (ad 264), .ref (ad 265), .ref (ad 266), .ref (ad 267), .ref (ad 268), .ref (ad 269), .ref (ad 270), .int v36_12, .int v37_12, .int v38_12, .int v39_12, .int v40_12, .ref (ad 271), .ref (ad 272), .ref (ad 273), .ref (ad 274), .long v45_12, .long v45_12, .int v47_12, .int v48_12, .ref (ad 275), .int v50_12, .int v51_12, .ref (ad 276), .int v53_12, .ref (ad 277), .int v55_12]) hx hb hts (fun w h => mT (inX11 w h)) tyX11 tyX11_ok nmX11 hown hG.1 hP hD hS (hst.1 255 (by decide)) hf13 rfl 46 (by decide) (hts _ (mT wg_1382)) (fun _ h => h) rfl (by decide +kernel) (rfl) (rfl) (Nat.le_of_ble_eq_true rfl) rfl dX11_image_46 (fun H locs f14 hf15 ho16 hP hD hS => ?_)
          have hfr : (∀ b, b ≠ (ad 255) → b ≠ (ad 272) → f14 b = f b) := fun b z0_ z1_ => (ho16 b z0_).trans (hfr b z0_ z1_)
          refine lv_aload_n hx hb dX11_image_49 rfl (lv_at hl 0 rfl) ?_
          refine lv_iconst (v := 1) hx hb dX11_image_50 (by decide) ?_
          refine pl_put (ty := .boolean) (v := .int 1) (fs' := [.int v0_12, .ref (ad 256), .int v2_12, .int v3_12, .int v4_12, .int v5_12, .int v6_12, .ref (ad 257), .int v8_12, .int v9_12, .ref (ad 258), .ref (ad 259), .int v12_12, .int v13_12, .int v14_12, .int v15_12, .int v16_12, .int v17_12, .int v18_12, .int v19_12, .int v20_12, .long v21_12, .long v22_12, .int v23_12, .ref (ad 260), .int v25_12, .ref (ad 261), .ref (ad 262), .ref (ad 263), .ref (ad 264), .ref (ad 265), .ref (ad 266), .ref (ad 267), .ref (ad 268), .ref (ad 269), .ref (ad 270), .int v36_12, .int v37_12, .int v38_12, .int v39_12, .int v40_12, .ref (ad 271), .ref (ad 272), .ref (ad 273), .ref (ad 274), .long v45_12, .long v45_12, .int v47_12, .int 1, .ref (ad 275), .int v50_12, .int v51_12, .ref (ad 276), .int v53_12, .ref (ad 277), .int v55_12]) hx hb hts (fun w h => mT (inX11 w h)) tyX11 tyX11_ok nmX11 hown hG.1 hP hD hS (hst.1 255 (by decide)) hf15 rfl 48 (by decide) (hts _ (mT wg_1384)) (fun _ h => h) rfl (by decide +kernel) (rfl) (rfl) (Nat.le_of_ble_eq_true rfl) rfl dX11_image_51 (fun H locs f17 hf18 ho19 hP hD hS => ?_)
          have ho20 : ∀ b, b ≠ (ad 255) → f17 b = _ := fun b hb => (ho19 b hb).trans (ho16 b hb)
          have hfr : (∀ b, b ≠ (ad 255) → b ≠ (ad 272) → f17 b = f b) := fun b z0_ z1_ => (ho19 b z0_).trans (hfr b z0_ z1_)
          refine lv_aload_n hx hb dX11_image_54 rfl (lv_at hl 0 rfl) ?_
          refine pl_get (v := .ref (ad 271)) hx hb hts (fun w h => mT (inX11 w h)) hown hG.1 hP (hst.1 255 (by decide)) hf18 rfl 41 (by decide) (hts _ (mT wg_1377)) (fun _ h => h) rfl dX11_image_55 ?_
          refine lv_bipush (v := 72) hx hb dX11_image_58 (by decide) ?_
          have hT := TI.updMG (th' := (gset (gset th 23 zg16_zi) 17 (1))) hT hst (k := 0) (by decide) hf18 ho20 ⟨v0_12, v2_12, v3_12, v4_12, v5_12, v6_12, v8_12, v9_12, v12_12, v13_12, v14_12, v15_12, v16_12, v17_12, v18_12, v19_12, v20_12, v21_12, v22_12, v23_12, v25_12, v36_12, v37_12, v38_12, v39_12, v40_12, v45_12, v45_12, v47_12, 1, v50_12, v51_12, v53_12, v55_12, rfl, hv0_12, hv2_12, hg2_12, hv3_12, hg3_12, hv4_12, hg4_12, hv5_12, hg5_12, hv6_12, hg6_12, hv8_12, hg8_12, hv9_12, hg9_12, hv12_12, hv13_12, hg13_12, hv14_12, hg14_12, hv15_12, hg15_12, hv17_12, hg17_12, hv20_12, hg20_12, hv23_12, hg23_12, hv25_12, hg25_12, hv36_12, hg36_12, hv47_12, hg47_12, (⟨by decide, by decide⟩ : In 1 0 1), (show (1 : Int32).toInt = 1 by decide), hv53_12, hg53_12, hv55_12, hg55_12, hrel0_12⟩ (fun q hq => ((gset_ne (fun e => hq (by subst e; decide))).trans rfl))
          have hT : TI g ad (gset (gset th 23 zg16_zi) 17 1) f17 := TI.cast hT (by funext q; by_cases hq0 : q = 17; (subst hq0; rfl); by_cases hq1 : q = 23; (subst hq1; rfl); simp only [gset, if_neg hq0, if_neg hq1])
          obtain ⟨rw21, hf22, hpi24, hc23⟩ := hT.2.2 16 (by decide)
          have hc23 : PRW 2126 (th 22) (th 20) (th 21) rw21 := hc23
          have hpi24 : ((72 : Int) < (th 22) → (rw21 72).toInt = th 19) := hpi24
          have hin25 : vp_in 72 2126 := In.inb (⟨by decide, by decide⟩ : In 72 72 72) (by decide) (by decide)
          refine pl_iald hx hb hG.1 hP (hst.1 271 (by decide)) 0 hf22 rfl hin25 dX11_image_60 ?_
          refine lv_topi (fun x26 ex26 => ?_)
          have hpd27 : PRED (th 20) (th 21) 72 x26 := by rw [ex26]; exact prw_at (k := 72) hc23 (by decide) (by decide) (by omega) (by decide)
          have hb28 : In x26 0 18 := ⟨(hpd27.1 rfl).1, Int.le_trans (hpd27.1 rfl).2 (by omega)⟩
          have hgl29 : x26.toInt = th 19 := by rw [ex26]; exact pinE (k := 72) (by decide) (hpi24 (by omega))
          have hpd27b := (hpd27.1 rfl).2
          have hpl30 : PRED (th 20) (th 21) ((72 : Int32).toNatClampNeg % 2126) x26 := by rw [ex26]; exact hc23 _ (vp_nat hin25) (by have q := vp_cl (i := (72 : Int32)) (by have ob10 : (0 : Int) ≤ (th 10) ∧ (th 10) ≤ 1 := (b0_10 hT :); have ob11 : (0 : Int) ≤ (th 11) ∧ (th 11) ≤ 9 := (b0_11 hT :); have ob12 : (0 : Int) ≤ (th 12) ∧ (th 12) ≤ 6 := (b0_12 hT :); have ob14 : (0 : Int) ≤ (th 14) ∧ (th 14) ≤ 511 := (b0_14 hT :); have ob15 : (0 : Int) ≤ (th 15) ∧ (th 15) ≤ 1 := (b0_15 hT :); have ob16 : (0 : Int) ≤ (th 16) ∧ (th 16) ≤ 20 := (b0_16 hT :); have ob17 : (0 : Int) ≤ 1 ∧ 1 ≤ 1 := (b0_17 hT :); have ob18 : (0 : Int) ≤ (th 18) ∧ (th 18) ≤ 18 := (b0_18 hT :); have ob38 : (0 : Int) ≤ (th 38) ∧ (th 38) ≤ 400 := (b0_38 hT :); have ob39 : (0 : Int) ≤ (th 39) ∧ (th 39) ≤ 200 := (b0_39 hT :); have ob44 : (0 : Int) ≤ (th 44) ∧ (th 44) ≤ 30 := (b0_44 hT :); have oc72 : (72 : Int32).toInt = 72 := (by decide); omega); have ob10 : (0 : Int) ≤ (th 10) ∧ (th 10) ≤ 1 := (b0_10 hT :); have ob11 : (0 : Int) ≤ (th 11) ∧ (th 11) ≤ 9 := (b0_11 hT :); have ob12 : (0 : Int) ≤ (th 12) ∧ (th 12) ≤ 6 := (b0_12 hT :); have ob14 : (0 : Int) ≤ (th 14) ∧ (th 14) ≤ 511 := (b0_14 hT :); have ob15 : (0 : Int) ≤ (th 15) ∧ (th 15) ≤ 1 := (b0_15 hT :); have ob16 : (0 : Int) ≤ (th 16) ∧ (th 16) ≤ 20 := (b0_16 hT :); have ob17 : (0 : Int) ≤ 1 ∧ 1 ≤ 1 := (b0_17 hT :); have ob18 : (0 : Int) ≤ (th 18) ∧ (th 18) ≤ 18 := (b0_18 hT :); have ob38 : (0 : Int) ≤ (th 38) ∧ (th 38) ≤ 400 := (b0_38 hT :); have ob39 : (0 : Int) ≤ (th 39) ∧ (th 39) ≤ 200 := (b0_39 hT :); have ob44 : (0 : Int) ≤ (th 44) ∧ (th 44) ≤ 30 := (b0_44 hT :); have oc72 : (72 : Int32).toInt = 72 := (by decide); omega)
          exact ret_i (ty := .int) hx hb hr hlocks (rfl) hP hD hS (Nat.le_of_ble_eq_true rfl) (Nat.le_of_ble_eq_true rfl) (⟨rfl, ⟨(gset (gset th 23 zg16_zi) 17 1), ⟨(show MI (gset (gset th 23 zg16_zi) 17 1) from ⟨m1, m2, (show th 20 = (th 12) * rnd (th 10) from m3), m4, m5, (show 1 = 0 ∨ zg16_zi = 2126 by omega), m7, m8, m9, m10⟩), (SBM.set (k := 17) (SBM.set (k := 23) (SBM.rf th) (by decide)) (by decide))⟩, hT⟩, hfr⟩) dX11_image_61
        ·
          have oc2126 : (2126 : Int32).toInt = 2126 := by decide
          have cc31 : y16_l1.toInt < (2126 : Int32).toInt := i32_nle c9
          have hb32 : In y16_l1 0 2125 := In.lt1 hy16_l1 (⟨by decide, by decide⟩ : In 2126 2126 2126) cc31 (by omega) (by omega)
          refine lv_aload_n hx hb dX11_image_23 rfl (lv_at hl 0 rfl) ?_
          refine M0e hT (fun v0_33 v2_33 v3_33 v4_33 v5_33 v6_33 v8_33 v9_33 v12_33 v13_33 v14_33 v15_33 v16_33 v17_33 v18_33 v19_33 v20_33 v21_33 v22_33 v23_33 v25_33 v36_33 v37_33 v38_33 v39_33 v40_33 v45_33 v46_33 v47_33 v48_33 v50_33 v51_33 v53_33 v55_33 hf34 hv0_33 hv2_33 hg2_33 hv3_33 hg3_33 hv4_33 hg4_33 hv5_33 hg5_33 hv6_33 hg6_33 hv8_33 hg8_33 hv9_33 hg9_33 hv12_33 hv13_33 hg13_33 hv14_33 hg14_33 hv15_33 hg15_33 hv17_33 hg17_33 hv20_33 hg20_33 hv23_33 hg23_33 hv25_33 hg25_33 hv36_33 hg36_33 hv47_33 hg47_33 hv48_33 hg48_33 hv53_33 hg53_33 hv55_33 hg55_33 hrel0_33 => ?_)
          have hg2_33 : v2_33.toInt = th 13 := hg2_33
          have hg3_33 : v3_33.toInt = th 37 := hg3_33
          have hg4_33 : v4_33.toInt = th 42 := hg4_33
          have hg5_33 : v5_33.toInt = th 40 := hg5_33
          have hg6_33 : v6_33.toInt = th 41 := hg6_33
          have hg8_33 : v8_33.toInt = th 43 := hg8_33
          have hg9_33 : v9_33.toInt = th 35 := hg9_33
          have hg13_33 : v13_33.toInt = th 36 := hg13_33
          have hg14_33 : v14_33.toInt = th 10 := hg14_33
          have hg15_33 : v15_33.toInt = th 11 := hg15_33
          have hg17_33 : v17_33.toInt = th 12 := hg17_33
          have hg20_33 : v20_33.toInt = th 14 := hg20_33
          have hg23_33 : v23_33.toInt = th 15 := hg23_33
          have hg25_33 : v25_33.toInt = th 44 := hg25_33
          have hg36_33 : v36_33.toInt = th 18 := hg36_33
          have hg47_33 : v47_33.toInt = th 16 := hg47_33
          have hg48_33 : v48_33.toInt = th 17 := hg48_33
          have hg53_33 : v53_33.toInt = th 38 := hg53_33
          have hg55_33 : v55_33.toInt = th 39 := hg55_33
          refine pl_get (v := .ref (ad 272)) hx hb hts (fun w h => mT (inX11 w h)) hown hG.1 hP (hst.1 255 (by decide)) hf34 rfl 42 (by decide) (hts _ (mT wg_1378)) (fun _ h => h) rfl dX11_image_24 ?_
          refine lv_iload_n hx hb dX11_image_27 rfl (lv_at hl 1 rfl) ?_
          refine lv_aload_n hx hb dX11_image_28 rfl (lv_at hl 0 rfl) ?_
          refine pl_get (v := .ref (ad 271)) hx hb hts (fun w h => mT (inX11 w h)) hown hG.1 hP (hst.1 255 (by decide)) hf34 rfl 41 (by decide) (hts _ (mT wg_1377)) (fun _ h => h) rfl dX11_image_29 ?_
          refine lv_iload_n hx hb dX11_image_32 rfl (lv_at hl 1 rfl) ?_
          obtain ⟨rw35, hf36, hpi38, hc37⟩ := hT.2.2 16 (by decide)
          have hc37 : PRW 2126 (th 22) (th 20) (th 21) rw35 := hc37
          have hpi38 : ((72 : Int) < (th 22) → (rw35 72).toInt = th 19) := hpi38
          have hin39 : vp_in y16_l1 2126 := In.inb hb32 (by decide) (by decide)
          refine pl_iald hx hb hG.1 hP (hst.1 271 (by decide)) 0 hf36 rfl hin39 dX11_image_33 ?_
          refine lv_topi (fun x40 ex40 => ?_)
          have hpl41 : PRED (th 20) (th 21) (y16_l1.toNatClampNeg % 2126) x40 := by rw [ex40]; exact hc37 _ (vp_nat hin39) (by have q := vp_cl (i := y16_l1) (by have ob10 : (0 : Int) ≤ (th 10) ∧ (th 10) ≤ 1 := (b0_10 hT :); have ob11 : (0 : Int) ≤ (th 11) ∧ (th 11) ≤ 9 := (b0_11 hT :); have ob12 : (0 : Int) ≤ (th 12) ∧ (th 12) ≤ 6 := (b0_12 hT :); have ob14 : (0 : Int) ≤ (th 14) ∧ (th 14) ≤ 511 := (b0_14 hT :); have ob15 : (0 : Int) ≤ (th 15) ∧ (th 15) ≤ 1 := (b0_15 hT :); have ob16 : (0 : Int) ≤ (th 16) ∧ (th 16) ≤ 20 := (b0_16 hT :); have ob17 : (0 : Int) ≤ (th 17) ∧ (th 17) ≤ 1 := (b0_17 hT :); have ob18 : (0 : Int) ≤ (th 18) ∧ (th 18) ≤ 18 := (b0_18 hT :); have ob38 : (0 : Int) ≤ (th 38) ∧ (th 38) ≤ 400 := (b0_38 hT :); have ob39 : (0 : Int) ≤ (th 39) ∧ (th 39) ≤ 200 := (b0_39 hT :); have ob44 : (0 : Int) ≤ (th 44) ∧ (th 44) ≤ 30 := (b0_44 hT :); obtain ⟨o0a, o0b⟩ := (hb32 : In _ _ _); obtain ⟨o1a, o1b⟩ := (hv14_33 : In _ _ _); obtain ⟨o2a, o2b⟩ := (hv15_33 : In _ _ _); obtain ⟨o3a, o3b⟩ := (hv17_33 : In _ _ _); obtain ⟨o4a, o4b⟩ := (hv20_33 : In _ _ _); obtain ⟨o5a, o5b⟩ := (hv23_33 : In _ _ _); obtain ⟨o6a, o6b⟩ := (hv25_33 : In _ _ _); obtain ⟨o7a, o7b⟩ := (hv36_33 : In _ _ _); obtain ⟨o8a, o8b⟩ := (hv47_33 : In _ _ _); obtain ⟨o9a, o9b⟩ := (hv48_33 : In _ _ _); obtain ⟨o10a, o10b⟩ := (hv53_33 : In _ _ _); obtain ⟨o11a, o11b⟩ := (hv55_33 : In _ _ _); omega); have ob10 : (0 : Int) ≤ (th 10) ∧ (th 10) ≤ 1 := (b0_10 hT :); have ob11 : (0 : Int) ≤ (th 11) ∧ (th 11) ≤ 9 := (b0_11 hT :); have ob12 : (0 : Int) ≤ (th 12) ∧ (th 12) ≤ 6 := (b0_12 hT :); have ob14 : (0 : Int) ≤ (th 14) ∧ (th 14) ≤ 511 := (b0_14 hT :); have ob15 : (0 : Int) ≤ (th 15) ∧ (th 15) ≤ 1 := (b0_15 hT :); have ob16 : (0 : Int) ≤ (th 16) ∧ (th 16) ≤ 20 := (b0_16 hT :); have ob17 : (0 : Int) ≤ (th 17) ∧ (th 17) ≤ 1 := (b0_17 hT :); have ob18 : (0 : Int) ≤ (th 18) ∧ (th 18) ≤ 18 := (b0_18 hT :); have ob38 : (0 : Int) ≤ (th 38) ∧ (th 38) ≤ 400 := (b0_38 hT :); have ob39 : (0 : Int) ≤ (th 39) ∧ (th 39) ≤ 200 := (b0_39 hT :); have ob44 : (0 : Int) ≤ (th 44) ∧ (th 44) ≤ 30 := (b0_44 hT :); obtain ⟨o0a, o0b⟩ := (hb32 : In _ _ _); obtain ⟨o1a, o1b⟩ := (hv14_33 : In _ _ _); obtain ⟨o2a, o2b⟩ := (hv15_33 : In _ _ _); obtain ⟨o3a, o3b⟩ := (hv17_33 : In _ _ _); obtain ⟨o4a, o4b⟩ := (hv20_33 : In _ _ _); obtain ⟨o5a, o5b⟩ := (hv23_33 : In _ _ _); obtain ⟨o6a, o6b⟩ := (hv25_33 : In _ _ _); obtain ⟨o7a, o7b⟩ := (hv36_33 : In _ _ _); obtain ⟨o8a, o8b⟩ := (hv47_33 : In _ _ _); obtain ⟨o9a, o9b⟩ := (hv48_33 : In _ _ _); obtain ⟨o10a, o10b⟩ := (hv53_33 : In _ _ _); obtain ⟨o11a, o11b⟩ := (hv55_33 : In _ _ _); omega)
          obtain ⟨rw42, hf43, hc44⟩ := hT.2.2 17 (by decide)
          have hc44 : PRW 2126 (zg16_zi) (th 20) (th 21) rw42 := hc44
          refine pl_iastE hx hb hG.1 hP hD hS (hst.1 272 (by decide)) 0 hf43 rfl (In.inb hb32 (by decide) (by decide)) dX11_image_34 (fun H locs f45 r48 er48 hf46 ho47 hP hD hS => ?_)
          have hpx49 : PRED (th 20) (th 21) (y16_l1.toNatClampNeg % 2126) x40 := pred_e hpl41 (by have q := vp_cl (i := y16_l1) (by have ob10 : (0 : Int) ≤ (th 10) ∧ (th 10) ≤ 1 := (b0_10 hT :); have ob11 : (0 : Int) ≤ (th 11) ∧ (th 11) ≤ 9 := (b0_11 hT :); have ob12 : (0 : Int) ≤ (th 12) ∧ (th 12) ≤ 6 := (b0_12 hT :); have ob14 : (0 : Int) ≤ (th 14) ∧ (th 14) ≤ 511 := (b0_14 hT :); have ob15 : (0 : Int) ≤ (th 15) ∧ (th 15) ≤ 1 := (b0_15 hT :); have ob16 : (0 : Int) ≤ (th 16) ∧ (th 16) ≤ 20 := (b0_16 hT :); have ob17 : (0 : Int) ≤ (th 17) ∧ (th 17) ≤ 1 := (b0_17 hT :); have ob18 : (0 : Int) ≤ (th 18) ∧ (th 18) ≤ 18 := (b0_18 hT :); have ob38 : (0 : Int) ≤ (th 38) ∧ (th 38) ≤ 400 := (b0_38 hT :); have ob39 : (0 : Int) ≤ (th 39) ∧ (th 39) ≤ 200 := (b0_39 hT :); have ob44 : (0 : Int) ≤ (th 44) ∧ (th 44) ≤ 30 := (b0_44 hT :); obtain ⟨o0a, o0b⟩ := (hb32 : In _ _ _); obtain ⟨o1a, o1b⟩ := (hv14_33 : In _ _ _); obtain ⟨o2a, o2b⟩ := (hv15_33 : In _ _ _); obtain ⟨o3a, o3b⟩ := (hv17_33 : In _ _ _); obtain ⟨o4a, o4b⟩ := (hv20_33 : In _ _ _); obtain ⟨o5a, o5b⟩ := (hv23_33 : In _ _ _); obtain ⟨o6a, o6b⟩ := (hv25_33 : In _ _ _); obtain ⟨o7a, o7b⟩ := (hv36_33 : In _ _ _); obtain ⟨o8a, o8b⟩ := (hv47_33 : In _ _ _); obtain ⟨o9a, o9b⟩ := (hv48_33 : In _ _ _); obtain ⟨o10a, o10b⟩ := (hv53_33 : In _ _ _); obtain ⟨o11a, o11b⟩ := (hv55_33 : In _ _ _); omega); have q2 := vp_cl (i := y16_l1) (by have ob10 : (0 : Int) ≤ (th 10) ∧ (th 10) ≤ 1 := (b0_10 hT :); have ob11 : (0 : Int) ≤ (th 11) ∧ (th 11) ≤ 9 := (b0_11 hT :); have ob12 : (0 : Int) ≤ (th 12) ∧ (th 12) ≤ 6 := (b0_12 hT :); have ob14 : (0 : Int) ≤ (th 14) ∧ (th 14) ≤ 511 := (b0_14 hT :); have ob15 : (0 : Int) ≤ (th 15) ∧ (th 15) ≤ 1 := (b0_15 hT :); have ob16 : (0 : Int) ≤ (th 16) ∧ (th 16) ≤ 20 := (b0_16 hT :); have ob17 : (0 : Int) ≤ (th 17) ∧ (th 17) ≤ 1 := (b0_17 hT :); have ob18 : (0 : Int) ≤ (th 18) ∧ (th 18) ≤ 18 := (b0_18 hT :); have ob38 : (0 : Int) ≤ (th 38) ∧ (th 38) ≤ 400 := (b0_38 hT :); have ob39 : (0 : Int) ≤ (th 39) ∧ (th 39) ≤ 200 := (b0_39 hT :); have ob44 : (0 : Int) ≤ (th 44) ∧ (th 44) ≤ 30 := (b0_44 hT :); obtain ⟨o0a, o0b⟩ := (hb32 : In _ _ _); obtain ⟨o1a, o1b⟩ := (hv14_33 : In _ _ _); obtain ⟨o2a, o2b⟩ := (hv15_33 : In _ _ _); obtain ⟨o3a, o3b⟩ := (hv17_33 : In _ _ _); obtain ⟨o4a, o4b⟩ := (hv20_33 : In _ _ _); obtain ⟨o5a, o5b⟩ := (hv23_33 : In _ _ _); obtain ⟨o6a, o6b⟩ := (hv25_33 : In _ _ _); obtain ⟨o7a, o7b⟩ := (hv36_33 : In _ _ _); obtain ⟨o8a, o8b⟩ := (hv47_33 : In _ _ _); obtain ⟨o9a, o9b⟩ := (hv48_33 : In _ _ _); obtain ⟨o10a, o10b⟩ := (hv53_33 : In _ _ _); obtain ⟨o11a, o11b⟩ := (hv55_33 : In _ _ _); omega); have ob10 : (0 : Int) ≤ (th 10) ∧ (th 10) ≤ 1 := (b0_10 hT :); have ob11 : (0 : Int) ≤ (th 11) ∧ (th 11) ≤ 9 := (b0_11 hT :); have ob12 : (0 : Int) ≤ (th 12) ∧ (th 12) ≤ 6 := (b0_12 hT :); have ob14 : (0 : Int) ≤ (th 14) ∧ (th 14) ≤ 511 := (b0_14 hT :); have ob15 : (0 : Int) ≤ (th 15) ∧ (th 15) ≤ 1 := (b0_15 hT :); have ob16 : (0 : Int) ≤ (th 16) ∧ (th 16) ≤ 20 := (b0_16 hT :); have ob17 : (0 : Int) ≤ (th 17) ∧ (th 17) ≤ 1 := (b0_17 hT :); have ob18 : (0 : Int) ≤ (th 18) ∧ (th 18) ≤ 18 := (b0_18 hT :); have ob38 : (0 : Int) ≤ (th 38) ∧ (th 38) ≤ 400 := (b0_38 hT :); have ob39 : (0 : Int) ≤ (th 39) ∧ (th 39) ≤ 200 := (b0_39 hT :); have ob44 : (0 : Int) ≤ (th 44) ∧ (th 44) ≤ 30 := (b0_44 hT :); obtain ⟨o0a, o0b⟩ := (hb32 : In _ _ _); obtain ⟨o1a, o1b⟩ := (hv14_33 : In _ _ _); obtain ⟨o2a, o2b⟩ := (hv15_33 : In _ _ _); obtain ⟨o3a, o3b⟩ := (hv17_33 : In _ _ _); obtain ⟨o4a, o4b⟩ := (hv20_33 : In _ _ _); obtain ⟨o5a, o5b⟩ := (hv23_33 : In _ _ _); obtain ⟨o6a, o6b⟩ := (hv25_33 : In _ _ _); obtain ⟨o7a, o7b⟩ := (hv36_33 : In _ _ _); obtain ⟨o8a, o8b⟩ := (hv47_33 : In _ _ _); obtain ⟨o9a, o9b⟩ := (hv48_33 : In _ _ _); obtain ⟨o10a, o10b⟩ := (hv53_33 : In _ _ _); obtain ⟨o11a, o11b⟩ := (hv55_33 : In _ _ _); omega)
          have hc50 : PRW 2126 (zg16_zi + 1) (th 20) (th 21) r48 := prw_grow hc44 er48 hpx49 (by have q := vp_cl (i := y16_l1) (by have ob10 : (0 : Int) ≤ (th 10) ∧ (th 10) ≤ 1 := (b0_10 hT :); have ob11 : (0 : Int) ≤ (th 11) ∧ (th 11) ≤ 9 := (b0_11 hT :); have ob12 : (0 : Int) ≤ (th 12) ∧ (th 12) ≤ 6 := (b0_12 hT :); have ob14 : (0 : Int) ≤ (th 14) ∧ (th 14) ≤ 511 := (b0_14 hT :); have ob15 : (0 : Int) ≤ (th 15) ∧ (th 15) ≤ 1 := (b0_15 hT :); have ob16 : (0 : Int) ≤ (th 16) ∧ (th 16) ≤ 20 := (b0_16 hT :); have ob17 : (0 : Int) ≤ (th 17) ∧ (th 17) ≤ 1 := (b0_17 hT :); have ob18 : (0 : Int) ≤ (th 18) ∧ (th 18) ≤ 18 := (b0_18 hT :); have ob38 : (0 : Int) ≤ (th 38) ∧ (th 38) ≤ 400 := (b0_38 hT :); have ob39 : (0 : Int) ≤ (th 39) ∧ (th 39) ≤ 200 := (b0_39 hT :); have ob44 : (0 : Int) ≤ (th 44) ∧ (th 44) ≤ 30 := (b0_44 hT :); obtain ⟨o0a, o0b⟩ := (hb32 : In _ _ _); obtain ⟨o1a, o1b⟩ := (hv14_33 : In _ _ _); obtain ⟨o2a, o2b⟩ := (hv15_33 : In _ _ _); obtain ⟨o3a, o3b⟩ := (hv17_33 : In _ _ _); obtain ⟨o4a, o4b⟩ := (hv20_33 : In _ _ _); obtain ⟨o5a, o5b⟩ := (hv23_33 : In _ _ _); obtain ⟨o6a, o6b⟩ := (hv25_33 : In _ _ _); obtain ⟨o7a, o7b⟩ := (hv36_33 : In _ _ _); obtain ⟨o8a, o8b⟩ := (hv47_33 : In _ _ _); obtain ⟨o9a, o9b⟩ := (hv48_33 : In _ _ _); obtain ⟨o10a, o10b⟩ := (hv53_33 : In _ _ _); obtain ⟨o11a, o11b⟩ := (hv55_33 : In _ _ _); omega); have ob10 : (0 : Int) ≤ (th 10) ∧ (th 10) ≤ 1 := (b0_10 hT :); have ob11 : (0 : Int) ≤ (th 11) ∧ (th 11) ≤ 9 := (b0_11 hT :); have ob12 : (0 : Int) ≤ (th 12) ∧ (th 12) ≤ 6 := (b0_12 hT :); have ob14 : (0 : Int) ≤ (th 14) ∧ (th 14) ≤ 511 := (b0_14 hT :); have ob15 : (0 : Int) ≤ (th 15) ∧ (th 15) ≤ 1 := (b0_15 hT :); have ob16 : (0 : Int) ≤ (th 16) ∧ (th 16) ≤ 20 := (b0_16 hT :); have ob17 : (0 : Int) ≤ (th 17) ∧ (th 17) ≤ 1 := (b0_17 hT :); have ob18 : (0 : Int) ≤ (th 18) ∧ (th 18) ≤ 18 := (b0_18 hT :); have ob38 : (0 : Int) ≤ (th 38) ∧ (th 38) ≤ 400 := (b0_38 hT :); have ob39 : (0 : Int) ≤ (th 39) ∧ (th 39) ≤ 200 := (b0_39 hT :); have ob44 : (0 : Int) ≤ (th 44) ∧ (th 44) ≤ 30 := (b0_44 hT :); obtain ⟨o0a, o0b⟩ := (hb32 : In _ _ _); obtain ⟨o1a, o1b⟩ := (hv14_33 : In _ _ _); obtain ⟨o2a, o2b⟩ := (hv15_33 : In _ _ _); obtain ⟨o3a, o3b⟩ := (hv17_33 : In _ _ _); obtain ⟨o4a, o4b⟩ := (hv20_33 : In _ _ _); obtain ⟨o5a, o5b⟩ := (hv23_33 : In _ _ _); obtain ⟨o6a, o6b⟩ := (hv25_33 : In _ _ _); obtain ⟨o7a, o7b⟩ := (hv36_33 : In _ _ _); obtain ⟨o8a, o8b⟩ := (hv47_33 : In _ _ _); obtain ⟨o9a, o9b⟩ := (hv48_33 : In _ _ _); obtain ⟨o10a, o10b⟩ := (hv53_33 : In _ _ _); obtain ⟨o11a, o11b⟩ := (hv55_33 : In _ _ _); omega) rfl
          have hf51 := (ho47 (ad 255) (hst.ne (by decide) (by decide) (by decide))).trans hf34
          have hf52 := (ho47 (ad 271) (hst.ne (by decide) (by decide) (by decide))).trans hf36
          have hfr : (∀ b, b ≠ (ad 255) → b ≠ (ad 272) → f45 b = f b) := fun b z0_ z1_ => (ho47 b z1_).trans (hfr b z0_ z1_)
          obtain ⟨x53, ex53⟩ : ∃ y : Int32, y = y16_l1 + 1 := ⟨_, rfl⟩
          have hb54 : In x53 1 2126 := ex53 ▸ In.add hb32 (⟨by decide, by decide⟩ : In 1 1 1) (by decide) (by decide) (by decide) (by decide)
          have et55 : x53.toInt = y16_l1.toInt + 1 := In.adde ex53 hb32 (k := 1) (by decide) (by decide) (by decide)
          refine lv_iinc (v := x53) (lv' := [(1, .int x53), (0, .ref (ad 255))]) hx hb dX11_image_35 hl (k := 1) rfl (by rw [ex53]; rfl) (by decide) rfl (fun ls hl => ?_)
          have hT := TI.updMG (th' := (gset (gset th 23 zg16_zi) 23 (zg16_zi + 1))) hT hst (k := 17) (by decide) hf46 ho47 ⟨r48, rfl, hc50⟩ (fun q hq => ((gset_ne (fun e => hq (by subst e; decide))).trans rfl))
          have hT : TI g ad (gset th 23 (zg16_zi + 1)) f45 := TI.cast hT (by funext q; by_cases hq0 : q = 23; (subst hq0; rfl); simp only [gset, if_neg hq0])
          refine lv_goto (tgt := 16) hx hb dX11_image_38 (by decide) ?_
          exact ih16 (zg16_zi + 1) x53 _ _ _ _ (show ((zg16_zi + 1) = x53.toInt) from (by have ob10 : (0 : Int) ≤ (th 10) ∧ (th 10) ≤ 1 := (b0_10 hT :); have ob11 : (0 : Int) ≤ (th 11) ∧ (th 11) ≤ 9 := (b0_11 hT :); have ob12 : (0 : Int) ≤ (th 12) ∧ (th 12) ≤ 6 := (b0_12 hT :); have ob14 : (0 : Int) ≤ (th 14) ∧ (th 14) ≤ 511 := (b0_14 hT :); have ob15 : (0 : Int) ≤ (th 15) ∧ (th 15) ≤ 1 := (b0_15 hT :); have ob16 : (0 : Int) ≤ (th 16) ∧ (th 16) ≤ 20 := (b0_16 hT :); have ob17 : (0 : Int) ≤ (th 17) ∧ (th 17) ≤ 1 := (b0_17 hT :); have ob18 : (0 : Int) ≤ (th 18) ∧ (th 18) ≤ 18 := (b0_18 hT :); have ob38 : (0 : Int) ≤ (th 38) ∧ (th 38) ≤ 400 := (b0_38 hT :); have ob39 : (0 : Int) ≤ (th 39) ∧ (th 39) ≤ 200 := (b0_39 hT :); have ob44 : (0 : Int) ≤ (th 44) ∧ (th 44) ≤ 30 := (b0_44 hT :); obtain ⟨o0a, o0b⟩ := (hb54 : In _ _ _); obtain ⟨o1a, o1b⟩ := (hb32 : In _ _ _); omega)) (In.mono hb54 (by decide) (by decide)) hP hD hS (TI.cast hT (by funext q; by_cases hq0 : q = 23; (subst hq0; rfl); simp only [gset, if_neg hq0])) hfr (lv_sub hl [1, 0] rfl) (msu et55 (by decide) hmz16)
    exact hJ16 ((2126 - (0 : Int32).toInt).toNat + 1) (0 : Int) 0 _ _ _ _ (show ((0 : Int) = (0 : Int32).toInt) from (by have ob10 : (0 : Int) ≤ (th 10) ∧ (th 10) ≤ 1 := (b0_10 hT :); have ob11 : (0 : Int) ≤ (th 11) ∧ (th 11) ≤ 9 := (b0_11 hT :); have ob12 : (0 : Int) ≤ (th 12) ∧ (th 12) ≤ 6 := (b0_12 hT :); have ob14 : (0 : Int) ≤ (th 14) ∧ (th 14) ≤ 511 := (b0_14 hT :); have ob15 : (0 : Int) ≤ (th 15) ∧ (th 15) ≤ 1 := (b0_15 hT :); have ob16 : (0 : Int) ≤ (th 16) ∧ (th 16) ≤ 20 := (b0_16 hT :); have ob17 : (0 : Int) ≤ (th 17) ∧ (th 17) ≤ 1 := (b0_17 hT :); have ob18 : (0 : Int) ≤ (th 18) ∧ (th 18) ≤ 18 := (b0_18 hT :); have ob38 : (0 : Int) ≤ (th 38) ∧ (th 38) ≤ 400 := (b0_38 hT :); have ob39 : (0 : Int) ≤ (th 39) ∧ (th 39) ≤ 200 := (b0_39 hT :); have ob44 : (0 : Int) ≤ (th 44) ∧ (th 44) ≤ 30 := (b0_44 hT :); have oc0 : (0 : Int32).toInt = 0 := (by decide); omega)) (⟨by decide, by decide⟩ : In 0 0 2126) hP hD hS (TI.cast hT (by funext q; by_cases hq0 : q = 23; (subst hq0; rfl); simp only [gset, if_neg hq0])) hfr (lv_sub hl [1, 0] rfl) (msI _)
  ·
    have oc0 : (0 : Int32).toInt = 0 := by decide
    have cc56 : v23_1.toInt = (0 : Int32).toInt := congrArg Int32.toInt c6
    have hb57 : In v23_1 0 0 := In.eq1 hv23_1 (⟨by decide, by decide⟩ : In 0 0 0) cc56 (by omega) (by omega)
    refine lv_iconst (v := (-1)) hx hb dX11_image_12 (by decide) ?_
    exact ret_i (ty := .int) hx hb hr hlocks (rfl) hP hD hS (Nat.le_of_ble_eq_true rfl) (Nat.le_of_ble_eq_true rfl) (⟨rfl, ⟨th, ⟨(show MI th from hM), (SBM.rf th)⟩, hT⟩, hfr⟩) dX11_image_13

abbrev rm_X11_back : Room := { frames := 0, cells := 0, slots := 0, locals := 0 }
abbrev po_X11_back (g : GG) (ad : Nat → Nat) (th : Nat → Int) (L : List Nat) (f : HP)  : Int32 → (List Nat × HP) → Prop := fun r u => u.1 = L ∧ (∃ th' : Nat → Int, (MI th' ∧ SBM th th') ∧ TI g ad th' u.2) ∧ (∀ b, b ≠ (ad 255) → b ≠ (ad 271) → u.2 b = f b)
set_option maxHeartbeats 4000000 in
set_option maxRecDepth 100000 in
theorem s_X11_back (l : Launch) (g : GG) (ad : Nat → Nat) (th : Nat → Int) (L : List Nat) (f : HP) (sz : Nat)  (hst : ST ad L) (hT : TI g ad th f) (hM : MI th) : MtI l g yX11_back cX11_back 2 (some .int) rm_X11_back [.ref (ad 255)] L f sz (po_X11_back g ad th L f ) := by
  refine MtI.of (by decide +kernel) (Nat.le_of_ble_eq_true rfl) ?_
  intro p e s m below meth c A hEn hP hD hS ls hl
  obtain ⟨hx, hb, hr, hml, hown, hlocks, hts, hG, hA, hE, hnm⟩ := hEn
  have hown : s.vm.findClass "RulerWordModel" = some m.cls := hown
  have hl : lv_has ls 2 [(0, .ref (ad 255))] := hl
  have hfr : (∀ b, b ≠ (ad 255) → b ≠ (ad 271) → f b = f b) := fun b z0_ z1_ => rfl
  have hM0 := hM
  obtain ⟨m1, m2, m3, m4, m5, m6, m7, m8, m9, m10⟩ := hM0
  have m20 := mi20 m2 m3
  refine lv_aload_n hx hb dX11_back_0 rfl (lv_at hl 0 rfl) ?_
  refine lv_iconst (v := 0) hx hb dX11_back_1 (by decide) ?_
  refine M0e hT (fun v0_1 v2_1 v3_1 v4_1 v5_1 v6_1 v8_1 v9_1 v12_1 v13_1 v14_1 v15_1 v16_1 v17_1 v18_1 v19_1 v20_1 v21_1 v22_1 v23_1 v25_1 v36_1 v37_1 v38_1 v39_1 v40_1 v45_1 v46_1 v47_1 v48_1 v50_1 v51_1 v53_1 v55_1 hf2 hv0_1 hv2_1 hg2_1 hv3_1 hg3_1 hv4_1 hg4_1 hv5_1 hg5_1 hv6_1 hg6_1 hv8_1 hg8_1 hv9_1 hg9_1 hv12_1 hv13_1 hg13_1 hv14_1 hg14_1 hv15_1 hg15_1 hv17_1 hg17_1 hv20_1 hg20_1 hv23_1 hg23_1 hv25_1 hg25_1 hv36_1 hg36_1 hv47_1 hg47_1 hv48_1 hg48_1 hv53_1 hg53_1 hv55_1 hg55_1 hrel0_1 => ?_)
  refine pl_put (ty := .int) (v := .int 0) (fs' := [.int 0, .ref (ad 256), .int v2_1, .int v3_1, .int v4_1, .int v5_1, .int v6_1, .ref (ad 257), .int v8_1, .int v9_1, .ref (ad 258), .ref (ad 259), .int v12_1, .int v13_1, .int v14_1, .int v15_1, .int v16_1, .int v17_1, .int v18_1, .int v19_1, .int v20_1, .long v21_1, .long v22_1, .int v23_1, .ref (ad 260), .int v25_1, .ref (ad 261), .ref (ad 262), .ref (ad 263), .ref (ad 264), .ref (ad 265), .ref (ad 266), .ref (ad 267), .ref (ad 268), .ref (ad 269), .ref (ad 270), .int v36_1, .int v37_1, .int v38_1, .int v39_1, .int v40_1, .ref (ad 271), .ref (ad 272), .ref (ad 273), .ref (ad 274), .long v45_1, .long v46_1, .int v47_1, .int v48_1, .ref (ad 275), .int v50_1, .int v51_1, .ref (ad 276), .int v53_1, .ref (ad 277), .int v55_1]) hx hb hts (fun w h => mT (inX11 w h)) tyX11 tyX11_ok nmX11 hown hG.1 hP hD hS (hst.1 255 (by decide)) hf2 rfl 0 (by decide) (hts _ (mT wg_1336)) (fun _ h => h) rfl (by decide +kernel) (rfl) (rfl) (Nat.le_of_ble_eq_true rfl) rfl dX11_back_2 (fun H locs f3 hf4 ho5 hP hD hS => ?_)
  have hfr : (∀ b, b ≠ (ad 255) → b ≠ (ad 271) → f3 b = f b) := fun b z0_ z1_ => (ho5 b z0_).trans (hfr b z0_ z1_)
  refine lv_aload_n hx hb dX11_back_5 rfl (lv_at hl 0 rfl) ?_
  refine pl_get (v := .int v48_1) hx hb hts (fun w h => mT (inX11 w h)) hown hG.1 hP (hst.1 255 (by decide)) hf4 rfl 48 (by decide) (hts _ (mT wg_1384)) (fun _ h => h) rfl dX11_back_6 ?_
  have hT := TI.updM hT hst (k := 0) (by decide) hf4 ho5 ⟨0, v2_1, v3_1, v4_1, v5_1, v6_1, v8_1, v9_1, v12_1, v13_1, v14_1, v15_1, v16_1, v17_1, v18_1, v19_1, v20_1, v21_1, v22_1, v23_1, v25_1, v36_1, v37_1, v38_1, v39_1, v40_1, v45_1, v46_1, v47_1, v48_1, v50_1, v51_1, v53_1, v55_1, rfl, (⟨by decide, by decide⟩ : In 0 0 1), hv2_1, hg2_1, hv3_1, hg3_1, hv4_1, hg4_1, hv5_1, hg5_1, hv6_1, hg6_1, hv8_1, hg8_1, hv9_1, hg9_1, hv12_1, hv13_1, hg13_1, hv14_1, hg14_1, hv15_1, hg15_1, hv17_1, hg17_1, hv20_1, hg20_1, hv23_1, hg23_1, hv25_1, hg25_1, hv36_1, hg36_1, hv47_1, hg47_1, hv48_1, hg48_1, hv53_1, hg53_1, hv55_1, hg55_1, hrel0_1⟩
  refine lv_if_ne (tgt := 14) hx hb dX11_back_9 (by decide) (fun c6 => ?_) (fun c6 => ?_)
  ·
    have oc0 : (0 : Int32).toInt = 0 := by decide
    have cc7 : v48_1.toInt ≠ (0 : Int32).toInt := i32_ne c6
    have hb8 : In v48_1 1 1 := In.ne1 hv48_1 (⟨by decide, by decide⟩ : In 0 0 0) cc7 (by omega) (by omega)
    refine lv_iconst (v := 0) hx hb dX11_back_14 (by decide) ?_
    refine lv_istore_n (lv' := [(1, .int 0), (0, .ref (ad 255))]) hx hb dX11_back_15 rfl hl (by decide) rfl (fun ls hl => ?_)
    have hJ16 : ∀ (k16 : Nat) (zg16_zz : Int) (y16_l1 : Int32) (f_16 : HP) (H : Heap) (locs : List Loc) (ls : Array Slot), (0 ≤ zg16_zz ∧ zg16_zz ≤ th 20) → In y16_l1 0 2126 → va_P g.1 vwCl (va_pl L f_16) H → va_D A (va_pl L f_16) → va_S A s.heap H locs → TI g ad (gset th 19 zg16_zz) f_16 → (∀ b, b ≠ (ad 255) → b ≠ (ad 271) → f_16 b = f b) → lv_has ls 2 [(0, .ref (ad 255)), (1, .int y16_l1)] → 2126 - y16_l1.toInt < ((k16 : Nat) : Int) → W p l e rm_X11_back s m [.ref (ad 255)].toArray below meth c H locs 0 0 (MQ below (va_Qi (po_X11_back g ad th L f ) (PstB g A) A) [.ref (ad 255)].toArray s rm_X11_back.cells rm_X11_back.slots A) (F0 m 16 ls []) := by
      intro k16
      induction k16 with
      | zero =>
        intro zg16_zz y16_l1 f_16 H locs ls hzg16 hy16_l1 hP hD hS hT hfr hl hmz16
        exact ms0 hy16_l1 hmz16
      | succ k16 ih16 =>
        intro zg16_zz y16_l1 f_16 H locs ls hzg16 hy16_l1 hP hD hS hT hfr hl hmz16
        refine lv_iload_n hx hb dX11_back_16 rfl (lv_at hl 1 rfl) ?_
        refine lv_sipush (v := 2126) hx hb dX11_back_17 (by decide) ?_
        refine lv_icmp_ge (tgt := 41) hx hb dX11_back_20 (by decide) (fun c9 => ?_) (fun c9 => ?_)
        ·
          have oc2126 : (2126 : Int32).toInt = 2126 := by decide
          have cc10 : (2126 : Int32).toInt ≤ y16_l1.toInt := i32_le.mp c9
          have hb11 : In y16_l1 2126 2126 := In.ge1 hy16_l1 (⟨by decide, by decide⟩ : In 2126 2126 2126) cc10 (by omega) (by omega)
          refine lv_aload_n hx hb dX11_back_41 rfl (lv_at hl 0 rfl) ?_
          refine lv_aload_n hx hb dX11_back_42 rfl (lv_at hl 0 rfl) ?_
          refine M0e hT (fun v0_12 v2_12 v3_12 v4_12 v5_12 v6_12 v8_12 v9_12 v12_12 v13_12 v14_12 v15_12 v16_12 v17_12 v18_12 v19_12 v20_12 v21_12 v22_12 v23_12 v25_12 v36_12 v37_12 v38_12 v39_12 v40_12 v45_12 v46_12 v47_12 v48_12 v50_12 v51_12 v53_12 v55_12 hf13 hv0_12 hv2_12 hg2_12 hv3_12 hg3_12 hv4_12 hg4_12 hv5_12 hg5_12 hv6_12 hg6_12 hv8_12 hg8_12 hv9_12 hg9_12 hv12_12 hv13_12 hg13_12 hv14_12 hg14_12 hv15_12 hg15_12 hv17_12 hg17_12 hv20_12 hg20_12 hv23_12 hg23_12 hv25_12 hg25_12 hv36_12 hg36_12 hv47_12 hg47_12 hv48_12 hg48_12 hv53_12 hg53_12 hv55_12 hg55_12 hrel0_12 => ?_)
          have hg2_12 : v2_12.toInt = th 13 := hg2_12
          have hg3_12 : v3_12.toInt = th 37 := hg3_12
          have hg4_12 : v4_12.toInt = th 42 := hg4_12
          have hg5_12 : v5_12.toInt = th 40 := hg5_12
          have hg6_12 : v6_12.toInt = th 41 := hg6_12
          have hg8_12 : v8_12.toInt = th 43 := hg8_12
          have hg9_12 : v9_12.toInt = th 35 := hg9_12
          have hg13_12 : v13_12.toInt = th 36 := hg13_12
          have hg14_12 : v14_12.toInt = th 10 := hg14_12
          have hg15_12 : v15_12.toInt = th 11 := hg15_12
          have hg17_12 : v17_12.toInt = th 12 := hg17_12
          have hg20_12 : v20_12.toInt = th 14 := hg20_12
          have hg23_12 : v23_12.toInt = th 15 := hg23_12
          have hg25_12 : v25_12.toInt = th 44 := hg25_12
          have hg36_12 : v36_12.toInt = th 18 := hg36_12
          have hg47_12 : v47_12.toInt = th 16 := hg47_12
          have hg48_12 : v48_12.toInt = th 17 := hg48_12
          have hg53_12 : v53_12.toInt = th 38 := hg53_12
          have hg55_12 : v55_12.toInt = th 39 := hg55_12
          refine pl_get (v := .long v46_12) hx hb hts (fun w h => mT (inX11 w h)) hown hG.1 hP (hst.1 255 (by decide)) hf13 rfl 46 (by decide) (hts _ (mT wg_1382)) (fun _ h => h) rfl dX11_back_43 ?_
          refine pl_put (ty := .long) (v := .long v46_12) (fs' := [.int v0_12, .ref (ad 256), .int v2_12, .int v3_12, .int v4_12, .int v5_12, .int v6_12, .ref (ad 257), .int v8_12, .int v9_12, .ref (ad 258), .ref (ad 259), .int v12_12, .int v13_12, .int v14_12, .int v15_12, .int v16_12, .int v17_12, .int v18_12, .int v19_12, .int v20_12, .long v21_12, .long v22_12, .int v23_12, .ref (ad 260), .int v25_12, .ref (ad 261), .ref (ad 262), .ref (ad 263), .ref (ad 264), .ref (ad 265), .ref (ad 266), .ref (ad 267), .ref (ad 268), .ref (ad 269), .ref (ad 270), .int v36_12, .int v37_12, .int v38_12, .int v39_12, .int v40_12, .ref (ad 271), .ref (ad 272), .ref (ad 273), .ref (ad 274), .long v46_12, .long v46_12, .int v47_12, .int v48_12, .ref (ad 275), .int v50_12, .int v51_12, .ref (ad 276), .int v53_12, .ref (ad 277), .int v55_12]) hx hb hts (fun w h => mT (inX11 w h)) tyX11 tyX11_ok nmX11 hown hG.1 hP hD hS (hst.1 255 (by decide)) hf13 rfl 45 (by decide) (hts _ (mT wg_1381)) (fun _ h => h) rfl (by decide +kernel) (rfl) (rfl) (Nat.le_of_ble_eq_true rfl) rfl dX11_back_46 (fun H locs f14 hf15 ho16 hP hD hS => ?_)
          have hfr : (∀ b, b ≠ (ad 255) → b ≠ (ad 271) → f14 b = f b) := fun b z0_ z1_ => (ho16 b z0_).trans (hfr b z0_ z1_)
          refine lv_aload_n hx hb dX11_back_49 rfl (lv_at hl 0 rfl) ?_
          refine lv_iconst (v := 0) hx hb dX11_back_50 (by decide) ?_
          refine pl_put (ty := .int) (v := .int 0) (fs' := [.int v0_12, .ref (ad 256), .int v2_12, .int v3_12, .int v4_12, .int v5_12, .int v6_12, .ref (ad 257), .int v8_12, .int v9_12, .ref (ad 258), .ref (ad 259), .int v12_12, .int v13_12, .int v14_12, .int v15_12, .int v16_12, .int v17_12, .int v18_12, .int v19_12, .int v20_12, .long v21_12, .long v22_12, .int v23_12, .ref (ad 260), .int v25_12, .ref (ad 261), .ref (ad 262), .ref (ad 263), .ref (ad 264), .ref (ad 265), .ref (ad 266), .ref (ad 267), .ref (ad 268), .ref (ad 269), .ref (ad 270), .int v36_12, .int v37_12, .int v38_12, .int v39_12, .int v40_12, .ref (ad 271), .ref (ad 272), .ref (ad 273), .ref (ad 274), .long v46_12, .long v46_12, .int 0, .int v48_12, .ref (ad 275), .int v50_12, .int v51_12, .ref (ad 276), .int v53_12, .ref (ad 277), .int v55_12]) hx hb hts (fun w h => mT (inX11 w h)) tyX11 tyX11_ok nmX11 hown hG.1 hP hD hS (hst.1 255 (by decide)) hf15 rfl 47 (by decide) (hts _ (mT wg_1383)) (fun _ h => h) rfl (by decide +kernel) (rfl) (rfl) (Nat.le_of_ble_eq_true rfl) rfl dX11_back_51 (fun H locs f17 hf18 ho19 hP hD hS => ?_)
          have ho20 : ∀ b, b ≠ (ad 255) → f17 b = _ := fun b hb => (ho19 b hb).trans (ho16 b hb)
          have hfr : (∀ b, b ≠ (ad 255) → b ≠ (ad 271) → f17 b = f b) := fun b z0_ z1_ => (ho19 b z0_).trans (hfr b z0_ z1_)
          have hT := TI.updMG (th' := (gset (gset th 19 zg16_zz) 16 (0))) hT hst (k := 0) (by decide) hf18 ho20 ⟨v0_12, v2_12, v3_12, v4_12, v5_12, v6_12, v8_12, v9_12, v12_12, v13_12, v14_12, v15_12, v16_12, v17_12, v18_12, v19_12, v20_12, v21_12, v22_12, v23_12, v25_12, v36_12, v37_12, v38_12, v39_12, v40_12, v46_12, v46_12, 0, v48_12, v50_12, v51_12, v53_12, v55_12, rfl, hv0_12, hv2_12, hg2_12, hv3_12, hg3_12, hv4_12, hg4_12, hv5_12, hg5_12, hv6_12, hg6_12, hv8_12, hg8_12, hv9_12, hg9_12, hv12_12, hv13_12, hg13_12, hv14_12, hg14_12, hv15_12, hg15_12, hv17_12, hg17_12, hv20_12, hg20_12, hv23_12, hg23_12, hv25_12, hg25_12, hv36_12, hg36_12, (⟨by decide, by decide⟩ : In 0 0 20), (show (0 : Int32).toInt = 0 by decide), hv48_12, hg48_12, hv53_12, hg53_12, hv55_12, hg55_12, hrel0_12⟩ (fun q hq => ((gset_ne (fun e => hq (by subst e; decide))).trans rfl))
          have hT : TI g ad (gset (gset th 19 zg16_zz) 16 0) f17 := TI.cast hT (by funext q; by_cases hq0 : q = 16; (subst hq0; rfl); by_cases hq1 : q = 19; (subst hq1; rfl); simp only [gset, if_neg hq0, if_neg hq1])
          have hT := TI.w24 (z := 0) hT (show (0 : Int) ≤ th 24 by omega)
          refine lv_aload_n hx hb dX11_back_54 rfl (lv_at hl 0 rfl) ?_
          refine M0e hT (fun v0_21 v2_21 v3_21 v4_21 v5_21 v6_21 v8_21 v9_21 v12_21 v13_21 v14_21 v15_21 v16_21 v17_21 v18_21 v19_21 v20_21 v21_21 v22_21 v23_21 v25_21 v36_21 v37_21 v38_21 v39_21 v40_21 v45_21 v46_21 v47_21 v48_21 v50_21 v51_21 v53_21 v55_21 hf22 hv0_21 hv2_21 hg2_21 hv3_21 hg3_21 hv4_21 hg4_21 hv5_21 hg5_21 hv6_21 hg6_21 hv8_21 hg8_21 hv9_21 hg9_21 hv12_21 hv13_21 hg13_21 hv14_21 hg14_21 hv15_21 hg15_21 hv17_21 hg17_21 hv20_21 hg20_21 hv23_21 hg23_21 hv25_21 hg25_21 hv36_21 hg36_21 hv47_21 hg47_21 hv48_21 hg48_21 hv53_21 hg53_21 hv55_21 hg55_21 hrel0_21 => ?_)
          have hg2_21 : v2_21.toInt = th 13 := hg2_21
          have hg3_21 : v3_21.toInt = th 37 := hg3_21
          have hg4_21 : v4_21.toInt = th 42 := hg4_21
          have hg5_21 : v5_21.toInt = th 40 := hg5_21
          have hg6_21 : v6_21.toInt = th 41 := hg6_21
          have hg8_21 : v8_21.toInt = th 43 := hg8_21
          have hg9_21 : v9_21.toInt = th 35 := hg9_21
          have hg13_21 : v13_21.toInt = th 36 := hg13_21
          have hg14_21 : v14_21.toInt = th 10 := hg14_21
          have hg15_21 : v15_21.toInt = th 11 := hg15_21
          have hg17_21 : v17_21.toInt = th 12 := hg17_21
          have hg20_21 : v20_21.toInt = th 14 := hg20_21
          have hg23_21 : v23_21.toInt = th 15 := hg23_21
          have hg25_21 : v25_21.toInt = th 44 := hg25_21
          have hg36_21 : v36_21.toInt = th 18 := hg36_21
          have hg47_21 : v47_21.toInt = 0 := hg47_21
          have hg48_21 : v48_21.toInt = th 17 := hg48_21
          have hg53_21 : v53_21.toInt = th 38 := hg53_21
          have hg55_21 : v55_21.toInt = th 39 := hg55_21
          refine pl_get (v := .ref (ad 271)) hx hb hts (fun w h => mT (inX11 w h)) hown hG.1 hP (hst.1 255 (by decide)) hf22 rfl 41 (by decide) (hts _ (mT wg_1377)) (fun _ h => h) rfl dX11_back_55 ?_
          refine lv_bipush (v := 72) hx hb dX11_back_58 (by decide) ?_
          obtain ⟨rw23, hf24, hpi26, hc25⟩ := hT.2.2 16 (by decide)
          have hc25 : PRW 2126 (th 22) (th 20) (th 21) rw23 := hc25
          have hpi26 : ((72 : Int) < (th 22) → (rw23 72).toInt = zg16_zz) := hpi26
          have hin27 : vp_in 72 2126 := In.inb (⟨by decide, by decide⟩ : In 72 72 72) (by decide) (by decide)
          refine pl_iald hx hb hG.1 hP (hst.1 271 (by decide)) 0 hf24 rfl hin27 dX11_back_60 ?_
          refine lv_topi (fun x28 ex28 => ?_)
          have hpd29 : PRED (th 20) (th 21) 72 x28 := by rw [ex28]; exact prw_at (k := 72) hc25 (by decide) (by decide) (by omega) (by decide)
          have hb30 : In x28 0 18 := ⟨(hpd29.1 rfl).1, Int.le_trans (hpd29.1 rfl).2 (by omega)⟩
          have hgl31 : x28.toInt = zg16_zz := by rw [ex28]; exact pinE (k := 72) (by decide) (hpi26 (by omega))
          have hpd29b := (hpd29.1 rfl).2
          exact ret_i (ty := .int) hx hb hr hlocks (rfl) hP hD hS (Nat.le_of_ble_eq_true rfl) (Nat.le_of_ble_eq_true rfl) (⟨rfl, ⟨(gset (gset (gset th 19 zg16_zz) 16 0) 24 0), ⟨(show MI (gset (gset (gset th 19 zg16_zz) 16 0) 24 0) from ⟨m1, m2, (show th 20 = (th 12) * rnd (th 10) from m3), m4, m5, m6, (show 0 = 2126 * 0 by obtain ⟨_, _⟩ := (hv14_21 : In _ _ _); obtain ⟨_, _⟩ := (hv15_21 : In _ _ _); obtain ⟨_, _⟩ := (hv17_21 : In _ _ _); obtain ⟨_, _⟩ := (hv20_21 : In _ _ _); obtain ⟨_, _⟩ := (hv23_21 : In _ _ _); obtain ⟨_, _⟩ := (hv25_21 : In _ _ _); obtain ⟨_, _⟩ := (hv36_21 : In _ _ _); obtain ⟨_, _⟩ := (hv47_21 : In _ _ _); obtain ⟨_, _⟩ := (hv48_21 : In _ _ _); obtain ⟨_, _⟩ := (hv53_21 : In _ _ _); obtain ⟨_, _⟩ := (hv55_21 : In _ _ _); omega), (show 0 ≤ 0 ∧ 0 ≤ 20 by obtain ⟨_, _⟩ := (hv14_21 : In _ _ _); obtain ⟨_, _⟩ := (hv15_21 : In _ _ _); obtain ⟨_, _⟩ := (hv17_21 : In _ _ _); obtain ⟨_, _⟩ := (hv20_21 : In _ _ _); obtain ⟨_, _⟩ := (hv23_21 : In _ _ _); obtain ⟨_, _⟩ := (hv25_21 : In _ _ _); obtain ⟨_, _⟩ := (hv36_21 : In _ _ _); obtain ⟨_, _⟩ := (hv47_21 : In _ _ _); obtain ⟨_, _⟩ := (hv48_21 : In _ _ _); obtain ⟨_, _⟩ := (hv53_21 : In _ _ _); obtain ⟨_, _⟩ := (hv55_21 : In _ _ _); omega), (show 0 ≤ zg16_zz ∧ zg16_zz ≤ th 20 by obtain ⟨_, _⟩ := (hv14_21 : In _ _ _); obtain ⟨_, _⟩ := (hv15_21 : In _ _ _); obtain ⟨_, _⟩ := (hv17_21 : In _ _ _); obtain ⟨_, _⟩ := (hv20_21 : In _ _ _); obtain ⟨_, _⟩ := (hv23_21 : In _ _ _); obtain ⟨_, _⟩ := (hv25_21 : In _ _ _); obtain ⟨_, _⟩ := (hv36_21 : In _ _ _); obtain ⟨_, _⟩ := (hv47_21 : In _ _ _); obtain ⟨_, _⟩ := (hv48_21 : In _ _ _); obtain ⟨_, _⟩ := (hv53_21 : In _ _ _); obtain ⟨_, _⟩ := (hv55_21 : In _ _ _); omega), m10⟩), (SBM.set (k := 24) (SBM.set (k := 16) (SBM.set (k := 19) (SBM.rf th) (by decide)) (by decide)) (by decide))⟩, hT⟩, hfr⟩) dX11_back_61
        ·
          have oc2126 : (2126 : Int32).toInt = 2126 := by decide
          have cc32 : y16_l1.toInt < (2126 : Int32).toInt := i32_nle c9
          have hb33 : In y16_l1 0 2125 := In.lt1 hy16_l1 (⟨by decide, by decide⟩ : In 2126 2126 2126) cc32 (by omega) (by omega)
          refine lv_aload_n hx hb dX11_back_23 rfl (lv_at hl 0 rfl) ?_
          refine M0e hT (fun v0_34 v2_34 v3_34 v4_34 v5_34 v6_34 v8_34 v9_34 v12_34 v13_34 v14_34 v15_34 v16_34 v17_34 v18_34 v19_34 v20_34 v21_34 v22_34 v23_34 v25_34 v36_34 v37_34 v38_34 v39_34 v40_34 v45_34 v46_34 v47_34 v48_34 v50_34 v51_34 v53_34 v55_34 hf35 hv0_34 hv2_34 hg2_34 hv3_34 hg3_34 hv4_34 hg4_34 hv5_34 hg5_34 hv6_34 hg6_34 hv8_34 hg8_34 hv9_34 hg9_34 hv12_34 hv13_34 hg13_34 hv14_34 hg14_34 hv15_34 hg15_34 hv17_34 hg17_34 hv20_34 hg20_34 hv23_34 hg23_34 hv25_34 hg25_34 hv36_34 hg36_34 hv47_34 hg47_34 hv48_34 hg48_34 hv53_34 hg53_34 hv55_34 hg55_34 hrel0_34 => ?_)
          have hg2_34 : v2_34.toInt = th 13 := hg2_34
          have hg3_34 : v3_34.toInt = th 37 := hg3_34
          have hg4_34 : v4_34.toInt = th 42 := hg4_34
          have hg5_34 : v5_34.toInt = th 40 := hg5_34
          have hg6_34 : v6_34.toInt = th 41 := hg6_34
          have hg8_34 : v8_34.toInt = th 43 := hg8_34
          have hg9_34 : v9_34.toInt = th 35 := hg9_34
          have hg13_34 : v13_34.toInt = th 36 := hg13_34
          have hg14_34 : v14_34.toInt = th 10 := hg14_34
          have hg15_34 : v15_34.toInt = th 11 := hg15_34
          have hg17_34 : v17_34.toInt = th 12 := hg17_34
          have hg20_34 : v20_34.toInt = th 14 := hg20_34
          have hg23_34 : v23_34.toInt = th 15 := hg23_34
          have hg25_34 : v25_34.toInt = th 44 := hg25_34
          have hg36_34 : v36_34.toInt = th 18 := hg36_34
          have hg47_34 : v47_34.toInt = th 16 := hg47_34
          have hg48_34 : v48_34.toInt = th 17 := hg48_34
          have hg53_34 : v53_34.toInt = th 38 := hg53_34
          have hg55_34 : v55_34.toInt = th 39 := hg55_34
          refine pl_get (v := .ref (ad 271)) hx hb hts (fun w h => mT (inX11 w h)) hown hG.1 hP (hst.1 255 (by decide)) hf35 rfl 41 (by decide) (hts _ (mT wg_1377)) (fun _ h => h) rfl dX11_back_24 ?_
          refine lv_iload_n hx hb dX11_back_27 rfl (lv_at hl 1 rfl) ?_
          refine lv_aload_n hx hb dX11_back_28 rfl (lv_at hl 0 rfl) ?_
          refine pl_get (v := .ref (ad 272)) hx hb hts (fun w h => mT (inX11 w h)) hown hG.1 hP (hst.1 255 (by decide)) hf35 rfl 42 (by decide) (hts _ (mT wg_1378)) (fun _ h => h) rfl dX11_back_29 ?_
          refine lv_iload_n hx hb dX11_back_32 rfl (lv_at hl 1 rfl) ?_
          obtain ⟨rw36, hf37, hc38⟩ := hT.2.2 17 (by decide)
          have hc38 : PRW 2126 (th 23) (th 20) (th 21) rw36 := hc38
          have hin39 : vp_in y16_l1 2126 := In.inb hb33 (by decide) (by decide)
          refine pl_iald hx hb hG.1 hP (hst.1 272 (by decide)) 0 hf37 rfl hin39 dX11_back_33 ?_
          refine lv_topi (fun x40 ex40 => ?_)
          have hpl41 : PRED (th 20) (th 21) (y16_l1.toNatClampNeg % 2126) x40 := by rw [ex40]; exact hc38 _ (vp_nat hin39) (by have q := vp_cl (i := y16_l1) (by have ob10 : (0 : Int) ≤ (th 10) ∧ (th 10) ≤ 1 := (b0_10 hT :); have ob11 : (0 : Int) ≤ (th 11) ∧ (th 11) ≤ 9 := (b0_11 hT :); have ob12 : (0 : Int) ≤ (th 12) ∧ (th 12) ≤ 6 := (b0_12 hT :); have ob14 : (0 : Int) ≤ (th 14) ∧ (th 14) ≤ 511 := (b0_14 hT :); have ob15 : (0 : Int) ≤ (th 15) ∧ (th 15) ≤ 1 := (b0_15 hT :); have ob16 : (0 : Int) ≤ (th 16) ∧ (th 16) ≤ 20 := (b0_16 hT :); have ob17 : (0 : Int) ≤ (th 17) ∧ (th 17) ≤ 1 := (b0_17 hT :); have ob18 : (0 : Int) ≤ (th 18) ∧ (th 18) ≤ 18 := (b0_18 hT :); have ob38 : (0 : Int) ≤ (th 38) ∧ (th 38) ≤ 400 := (b0_38 hT :); have ob39 : (0 : Int) ≤ (th 39) ∧ (th 39) ≤ 200 := (b0_39 hT :); have ob44 : (0 : Int) ≤ (th 44) ∧ (th 44) ≤ 30 := (b0_44 hT :); obtain ⟨o0a, o0b⟩ := (hb33 : In _ _ _); obtain ⟨o1a, o1b⟩ := (hv14_34 : In _ _ _); obtain ⟨o2a, o2b⟩ := (hv15_34 : In _ _ _); obtain ⟨o3a, o3b⟩ := (hv17_34 : In _ _ _); obtain ⟨o4a, o4b⟩ := (hv20_34 : In _ _ _); obtain ⟨o5a, o5b⟩ := (hv23_34 : In _ _ _); obtain ⟨o6a, o6b⟩ := (hv25_34 : In _ _ _); obtain ⟨o7a, o7b⟩ := (hv36_34 : In _ _ _); obtain ⟨o8a, o8b⟩ := (hv47_34 : In _ _ _); obtain ⟨o9a, o9b⟩ := (hv48_34 : In _ _ _); obtain ⟨o10a, o10b⟩ := (hv53_34 : In _ _ _); obtain ⟨o11a, o11b⟩ := (hv55_34 : In _ _ _); omega); have ob10 : (0 : Int) ≤ (th 10) ∧ (th 10) ≤ 1 := (b0_10 hT :); have ob11 : (0 : Int) ≤ (th 11) ∧ (th 11) ≤ 9 := (b0_11 hT :); have ob12 : (0 : Int) ≤ (th 12) ∧ (th 12) ≤ 6 := (b0_12 hT :); have ob14 : (0 : Int) ≤ (th 14) ∧ (th 14) ≤ 511 := (b0_14 hT :); have ob15 : (0 : Int) ≤ (th 15) ∧ (th 15) ≤ 1 := (b0_15 hT :); have ob16 : (0 : Int) ≤ (th 16) ∧ (th 16) ≤ 20 := (b0_16 hT :); have ob17 : (0 : Int) ≤ (th 17) ∧ (th 17) ≤ 1 := (b0_17 hT :); have ob18 : (0 : Int) ≤ (th 18) ∧ (th 18) ≤ 18 := (b0_18 hT :); have ob38 : (0 : Int) ≤ (th 38) ∧ (th 38) ≤ 400 := (b0_38 hT :); have ob39 : (0 : Int) ≤ (th 39) ∧ (th 39) ≤ 200 := (b0_39 hT :); have ob44 : (0 : Int) ≤ (th 44) ∧ (th 44) ≤ 30 := (b0_44 hT :); obtain ⟨o0a, o0b⟩ := (hb33 : In _ _ _); obtain ⟨o1a, o1b⟩ := (hv14_34 : In _ _ _); obtain ⟨o2a, o2b⟩ := (hv15_34 : In _ _ _); obtain ⟨o3a, o3b⟩ := (hv17_34 : In _ _ _); obtain ⟨o4a, o4b⟩ := (hv20_34 : In _ _ _); obtain ⟨o5a, o5b⟩ := (hv23_34 : In _ _ _); obtain ⟨o6a, o6b⟩ := (hv25_34 : In _ _ _); obtain ⟨o7a, o7b⟩ := (hv36_34 : In _ _ _); obtain ⟨o8a, o8b⟩ := (hv47_34 : In _ _ _); obtain ⟨o9a, o9b⟩ := (hv48_34 : In _ _ _); obtain ⟨o10a, o10b⟩ := (hv53_34 : In _ _ _); obtain ⟨o11a, o11b⟩ := (hv55_34 : In _ _ _); omega)
          obtain ⟨rw42, hf43, hpi45, hc44⟩ := hT.2.2 16 (by decide)
          have hc44 : PRW 2126 (th 22) (th 20) (th 21) rw42 := hc44
          have hpi45 : ((72 : Int) < (th 22) → (rw42 72).toInt = zg16_zz) := hpi45
          refine pl_iastE hx hb hG.1 hP hD hS (hst.1 271 (by decide)) 0 hf43 rfl (In.inb hb33 (by decide) (by decide)) dX11_back_34 (fun H locs f46 r49 er49 hf47 ho48 hP hD hS => ?_)
          have hpx50 : PRED (th 20) (th 21) (y16_l1.toNatClampNeg % 2126) x40 := pred_e hpl41 (by have q := vp_cl (i := y16_l1) (by have ob10 : (0 : Int) ≤ (th 10) ∧ (th 10) ≤ 1 := (b0_10 hT :); have ob11 : (0 : Int) ≤ (th 11) ∧ (th 11) ≤ 9 := (b0_11 hT :); have ob12 : (0 : Int) ≤ (th 12) ∧ (th 12) ≤ 6 := (b0_12 hT :); have ob14 : (0 : Int) ≤ (th 14) ∧ (th 14) ≤ 511 := (b0_14 hT :); have ob15 : (0 : Int) ≤ (th 15) ∧ (th 15) ≤ 1 := (b0_15 hT :); have ob16 : (0 : Int) ≤ (th 16) ∧ (th 16) ≤ 20 := (b0_16 hT :); have ob17 : (0 : Int) ≤ (th 17) ∧ (th 17) ≤ 1 := (b0_17 hT :); have ob18 : (0 : Int) ≤ (th 18) ∧ (th 18) ≤ 18 := (b0_18 hT :); have ob38 : (0 : Int) ≤ (th 38) ∧ (th 38) ≤ 400 := (b0_38 hT :); have ob39 : (0 : Int) ≤ (th 39) ∧ (th 39) ≤ 200 := (b0_39 hT :); have ob44 : (0 : Int) ≤ (th 44) ∧ (th 44) ≤ 30 := (b0_44 hT :); obtain ⟨o0a, o0b⟩ := (hb33 : In _ _ _); obtain ⟨o1a, o1b⟩ := (hv14_34 : In _ _ _); obtain ⟨o2a, o2b⟩ := (hv15_34 : In _ _ _); obtain ⟨o3a, o3b⟩ := (hv17_34 : In _ _ _); obtain ⟨o4a, o4b⟩ := (hv20_34 : In _ _ _); obtain ⟨o5a, o5b⟩ := (hv23_34 : In _ _ _); obtain ⟨o6a, o6b⟩ := (hv25_34 : In _ _ _); obtain ⟨o7a, o7b⟩ := (hv36_34 : In _ _ _); obtain ⟨o8a, o8b⟩ := (hv47_34 : In _ _ _); obtain ⟨o9a, o9b⟩ := (hv48_34 : In _ _ _); obtain ⟨o10a, o10b⟩ := (hv53_34 : In _ _ _); obtain ⟨o11a, o11b⟩ := (hv55_34 : In _ _ _); omega); have q2 := vp_cl (i := y16_l1) (by have ob10 : (0 : Int) ≤ (th 10) ∧ (th 10) ≤ 1 := (b0_10 hT :); have ob11 : (0 : Int) ≤ (th 11) ∧ (th 11) ≤ 9 := (b0_11 hT :); have ob12 : (0 : Int) ≤ (th 12) ∧ (th 12) ≤ 6 := (b0_12 hT :); have ob14 : (0 : Int) ≤ (th 14) ∧ (th 14) ≤ 511 := (b0_14 hT :); have ob15 : (0 : Int) ≤ (th 15) ∧ (th 15) ≤ 1 := (b0_15 hT :); have ob16 : (0 : Int) ≤ (th 16) ∧ (th 16) ≤ 20 := (b0_16 hT :); have ob17 : (0 : Int) ≤ (th 17) ∧ (th 17) ≤ 1 := (b0_17 hT :); have ob18 : (0 : Int) ≤ (th 18) ∧ (th 18) ≤ 18 := (b0_18 hT :); have ob38 : (0 : Int) ≤ (th 38) ∧ (th 38) ≤ 400 := (b0_38 hT :); have ob39 : (0 : Int) ≤ (th 39) ∧ (th 39) ≤ 200 := (b0_39 hT :); have ob44 : (0 : Int) ≤ (th 44) ∧ (th 44) ≤ 30 := (b0_44 hT :); obtain ⟨o0a, o0b⟩ := (hb33 : In _ _ _); obtain ⟨o1a, o1b⟩ := (hv14_34 : In _ _ _); obtain ⟨o2a, o2b⟩ := (hv15_34 : In _ _ _); obtain ⟨o3a, o3b⟩ := (hv17_34 : In _ _ _); obtain ⟨o4a, o4b⟩ := (hv20_34 : In _ _ _); obtain ⟨o5a, o5b⟩ := (hv23_34 : In _ _ _); obtain ⟨o6a, o6b⟩ := (hv25_34 : In _ _ _); obtain ⟨o7a, o7b⟩ := (hv36_34 : In _ _ _); obtain ⟨o8a, o8b⟩ := (hv47_34 : In _ _ _); obtain ⟨o9a, o9b⟩ := (hv48_34 : In _ _ _); obtain ⟨o10a, o10b⟩ := (hv53_34 : In _ _ _); obtain ⟨o11a, o11b⟩ := (hv55_34 : In _ _ _); omega); have ob10 : (0 : Int) ≤ (th 10) ∧ (th 10) ≤ 1 := (b0_10 hT :); have ob11 : (0 : Int) ≤ (th 11) ∧ (th 11) ≤ 9 := (b0_11 hT :); have ob12 : (0 : Int) ≤ (th 12) ∧ (th 12) ≤ 6 := (b0_12 hT :); have ob14 : (0 : Int) ≤ (th 14) ∧ (th 14) ≤ 511 := (b0_14 hT :); have ob15 : (0 : Int) ≤ (th 15) ∧ (th 15) ≤ 1 := (b0_15 hT :); have ob16 : (0 : Int) ≤ (th 16) ∧ (th 16) ≤ 20 := (b0_16 hT :); have ob17 : (0 : Int) ≤ (th 17) ∧ (th 17) ≤ 1 := (b0_17 hT :); have ob18 : (0 : Int) ≤ (th 18) ∧ (th 18) ≤ 18 := (b0_18 hT :); have ob38 : (0 : Int) ≤ (th 38) ∧ (th 38) ≤ 400 := (b0_38 hT :); have ob39 : (0 : Int) ≤ (th 39) ∧ (th 39) ≤ 200 := (b0_39 hT :); have ob44 : (0 : Int) ≤ (th 44) ∧ (th 44) ≤ 30 := (b0_44 hT :); obtain ⟨o0a, o0b⟩ := (hb33 : In _ _ _); obtain ⟨o1a, o1b⟩ := (hv14_34 : In _ _ _); obtain ⟨o2a, o2b⟩ := (hv15_34 : In _ _ _); obtain ⟨o3a, o3b⟩ := (hv17_34 : In _ _ _); obtain ⟨o4a, o4b⟩ := (hv20_34 : In _ _ _); obtain ⟨o5a, o5b⟩ := (hv23_34 : In _ _ _); obtain ⟨o6a, o6b⟩ := (hv25_34 : In _ _ _); obtain ⟨o7a, o7b⟩ := (hv36_34 : In _ _ _); obtain ⟨o8a, o8b⟩ := (hv47_34 : In _ _ _); obtain ⟨o9a, o9b⟩ := (hv48_34 : In _ _ _); obtain ⟨o10a, o10b⟩ := (hv53_34 : In _ _ _); obtain ⟨o11a, o11b⟩ := (hv55_34 : In _ _ _); omega)
          obtain ⟨hc51, zn52, hzn52, zn52p⟩ := now_set (L := th 20) (c := th 21) (show PRW 2126 2126 (th 20) (th 21) _ from prw_c hc44 (by omega)) er49 hpx50
          have hc51q : PRW 2126 (th 22) (th 20) (th 21) r49 := prw_c hc51 (by omega)
          have hf53 := (ho48 (ad 255) (hst.ne (by decide) (by decide) (by decide))).trans hf35
          have hf54 := (ho48 (ad 272) (hst.ne (by decide) (by decide) (by decide))).trans hf37
          have hfr : (∀ b, b ≠ (ad 255) → b ≠ (ad 271) → f46 b = f b) := fun b z0_ z1_ => (ho48 b z1_).trans (hfr b z0_ z1_)
          obtain ⟨x55, ex55⟩ : ∃ y : Int32, y = y16_l1 + 1 := ⟨_, rfl⟩
          have hb56 : In x55 1 2126 := ex55 ▸ In.add hb33 (⟨by decide, by decide⟩ : In 1 1 1) (by decide) (by decide) (by decide) (by decide)
          have et57 : x55.toInt = y16_l1.toInt + 1 := In.adde ex55 hb33 (k := 1) (by decide) (by decide) (by decide)
          refine lv_iinc (v := x55) (lv' := [(1, .int x55), (0, .ref (ad 255))]) hx hb dX11_back_35 hl (k := 1) rfl (by rw [ex55]; rfl) (by decide) rfl (fun ls hl => ?_)
          have hT := TI.updMG (th' := (gset (gset th 19 zg16_zz) 19 zn52)) hT hst (k := 16) (by decide) hf47 ho48 ⟨r49, rfl, (fun _ => zn52p (by decide)), hc51q⟩ (fun q hq => ((gset_ne (fun e => hq (by subst e; decide))).trans rfl))
          have hT : TI g ad (gset th 19 zn52) f46 := TI.cast hT (by funext q; by_cases hq0 : q = 19; (subst hq0; rfl); simp only [gset, if_neg hq0])
          refine lv_goto (tgt := 16) hx hb dX11_back_38 (by decide) ?_
          exact ih16 zn52 x55 _ _ _ _ (show 0 ≤ zn52 ∧ zn52 ≤ th 20 by omega) (In.mono hb56 (by decide) (by decide)) hP hD hS (TI.cast hT (by funext q; by_cases hq0 : q = 19; (subst hq0; rfl); simp only [gset, if_neg hq0])) hfr (lv_sub hl [1, 0] rfl) (msu et57 (by decide) hmz16)
    exact hJ16 ((2126 - (0 : Int32).toInt).toNat + 1) (th 19) 0 _ _ _ _ (show 0 ≤ th 19 ∧ th 19 ≤ th 20 by omega) (⟨by decide, by decide⟩ : In 0 0 2126) hP hD hS (TI.cast hT (by funext q; by_cases hq0 : q = 19; (subst hq0; rfl); simp only [gset, if_neg hq0])) hfr (lv_sub hl [1, 0] rfl) (msI _)
  ·
    have oc0 : (0 : Int32).toInt = 0 := by decide
    have cc58 : v48_1.toInt = (0 : Int32).toInt := congrArg Int32.toInt c6
    have hb59 : In v48_1 0 0 := In.eq1 hv48_1 (⟨by decide, by decide⟩ : In 0 0 0) cc58 (by omega) (by omega)
    refine lv_iconst (v := (-1)) hx hb dX11_back_12 (by decide) ?_
    exact ret_i (ty := .int) hx hb hr hlocks (rfl) hP hD hS (Nat.le_of_ble_eq_true rfl) (Nat.le_of_ble_eq_true rfl) (⟨rfl, ⟨th, ⟨(show MI th from hM), (SBM.rf th)⟩, hT⟩, hfr⟩) dX11_back_13
