abbrev rm_X11_feed : Room := { frames := 1, cells := 0, slots := 0, locals := 23 }
abbrev po_X11_feed (g : GG) (ad : Nat → Nat) (th : Nat → Int) (L : List Nat) (f : HP) (z1 : Int32) (z2 : Int32) (z3 : Int32) (z4 : Int32) (z5 : Int32) : Int32 → (List Nat × HP) → Prop := fun r u => u.1 = L ∧ (∃ th' : Nat → Int, (MI th' ∧ SBM th th') ∧ TI g ad th' u.2) ∧ (∀ b, b ≠ (ad 255) → b ≠ (ad 256) → u.2 b = f b)
set_option maxHeartbeats 4000000 in
set_option maxRecDepth 100000 in
theorem s_X11_feed (l : Launch) (g : GG) (ad : Nat → Nat) (th : Nat → Int) (L : List Nat) (f : HP) (sz : Nat) (z1 : Int32) (z2 : Int32) (z3 : Int32) (z4 : Int32) (z5 : Int32) (hst : ST ad L) (hT : TI g ad th f) (hM : MI th) : MtI l g yX11_feed cX11_feed 6 (some .int) rm_X11_feed [.ref (ad 255), .int z1, .int z2, .int z3, .int z4, .int z5] L f sz (po_X11_feed g ad th L f z1 z2 z3 z4 z5) := by
  refine MtI.of (by decide +kernel) (Nat.le_of_ble_eq_true rfl) ?_
  intro p e s m below meth c A hEn hP hD hS ls hl
  obtain ⟨hx, hb, hr, hml, hown, hlocks, hts, hG, hA, hE, hnm⟩ := hEn
  have hown : s.vm.findClass "RulerWordModel" = some m.cls := hown
  have hl : lv_has ls 6 [(0, .ref (ad 255)), (1, .int z1), (2, .int z2), (3, .int z3), (4, .int z4), (5, .int z5)] := hl
  have hfr : (∀ b, b ≠ (ad 255) → b ≠ (ad 256) → f b = f b) := fun b z0_ z1_ => rfl
  have hM0 := hM
  obtain ⟨m1, m2, m3, m4, m5, m6, m7, m8, m9, m10⟩ := hM0
  have m20 := mi20 m2 m3
  have hnb1 := (nb_r z1).1
  have hnb2 := (nb_r z2).1
  have hnb3 := (nb_r z3).1
  have hnb4 := (nb_r z4).1
  have hnb5 := (nb_r z5).1
  refine lv_aload_n hx hb dX11_feed_0 rfl (lv_at hl 0 rfl) ?_
  refine lv_iconst (v := 0) hx hb dX11_feed_1 (by decide) ?_
  refine M0e hT (fun v0_1 v2_1 v3_1 v4_1 v5_1 v6_1 v8_1 v9_1 v12_1 v13_1 v14_1 v15_1 v16_1 v17_1 v18_1 v19_1 v20_1 v21_1 v22_1 v23_1 v25_1 v36_1 v37_1 v38_1 v39_1 v40_1 v45_1 v46_1 v47_1 v48_1 v50_1 v51_1 v53_1 v55_1 hf2 hv0_1 hv2_1 hg2_1 hv3_1 hg3_1 hv4_1 hg4_1 hv5_1 hg5_1 hv6_1 hg6_1 hv8_1 hg8_1 hv9_1 hg9_1 hv12_1 hv13_1 hg13_1 hv14_1 hg14_1 hv15_1 hg15_1 hv17_1 hg17_1 hv20_1 hg20_1 hv23_1 hg23_1 hv25_1 hg25_1 hv36_1 hg36_1 hv47_1 hg47_1 hv48_1 hg48_1 hv53_1 hg53_1 hv55_1 hg55_1 hrel0_1 => ?_)
  have hg15_1 : v15_1.toInt = th 11 := hg15_1
  have hg20_1 : v20_1.toInt = th 14 := hg20_1
  refine pl_put (ty := .int) (v := .int 0) (fs' := [.int 0, .ref (ad 256), .int v2_1, .int v3_1, .int v4_1, .int v5_1, .int v6_1, .ref (ad 257), .int v8_1, .int v9_1, .ref (ad 258), .ref (ad 259), .int v12_1, .int v13_1, .int v14_1, .int v15_1, .int v16_1, .int v17_1, .int v18_1, .int v19_1, .int v20_1, .long v21_1, .long v22_1, .int v23_1, .ref (ad 260), .int v25_1, .ref (ad 261), .ref (ad 262), .ref (ad 263), .ref (ad 264), .ref (ad 265), .ref (ad 266), .ref (ad 267), .ref (ad 268), .ref (ad 269), .ref (ad 270), .int v36_1, .int v37_1, .int v38_1, .int v39_1, .int v40_1, .ref (ad 271), .ref (ad 272), .ref (ad 273), .ref (ad 274), .long v45_1, .long v46_1, .int v47_1, .int v48_1, .ref (ad 275), .int v50_1, .int v51_1, .ref (ad 276), .int v53_1, .ref (ad 277), .int v55_1]) hx hb hts (fun w h => mT (inX11 w h)) tyX11 tyX11_ok nmX11 hown hG.1 hP hD hS (hst.1 255 (by decide)) hf2 rfl 0 (by decide) (hts _ (mT wg_1336)) (fun _ h => h) rfl (by decide +kernel) (rfl) (rfl) (Nat.le_of_ble_eq_true rfl) rfl dX11_feed_2 (fun H locs f3 hf4 ho5 hP hD hS => ?_)
  have hfr : (∀ b, b ≠ (ad 255) → b ≠ (ad 256) → f3 b = f b) := fun b z0_ z1_ => (ho5 b z0_).trans (hfr b z0_ z1_)
  refine lv_aload_n hx hb dX11_feed_5 rfl (lv_at hl 0 rfl) ?_
  refine pl_get (v := .int v2_1) hx hb hts (fun w h => mT (inX11 w h)) hown hG.1 hP (hst.1 255 (by decide)) hf4 rfl 2 (by decide) (hts _ (mT wg_1338)) (fun _ h => h) rfl dX11_feed_6 ?_
  have hg2_1 : v2_1.toInt = th 13 := hg2_1
  refine lv_iload_n hx hb dX11_feed_9 rfl (lv_at hl 1 rfl) ?_
  have hT := TI.updM hT hst (k := 0) (by decide) hf4 ho5 ⟨0, v2_1, v3_1, v4_1, v5_1, v6_1, v8_1, v9_1, v12_1, v13_1, v14_1, v15_1, v16_1, v17_1, v18_1, v19_1, v20_1, v21_1, v22_1, v23_1, v25_1, v36_1, v37_1, v38_1, v39_1, v40_1, v45_1, v46_1, v47_1, v48_1, v50_1, v51_1, v53_1, v55_1, rfl, (⟨by decide, by decide⟩ : In 0 0 1), hv2_1, hg2_1, hv3_1, hg3_1, hv4_1, hg4_1, hv5_1, hg5_1, hv6_1, hg6_1, hv8_1, hg8_1, hv9_1, hg9_1, hv12_1, hv13_1, hg13_1, hv14_1, hg14_1, hv15_1, hg15_1, hv17_1, hg17_1, hv20_1, hg20_1, hv23_1, hg23_1, hv25_1, hg25_1, hv36_1, hg36_1, hv47_1, hg47_1, hv48_1, hg48_1, hv53_1, hg53_1, hv55_1, hg55_1, hrel0_1⟩
  refine call_i (run_S (rm := rm_X11_bytesOf) hx hb hml hown hts (s_X11_bytesOf l g ad th _ _ _ z1 hst hT ) cS_X11_bytesOf wg_1510 ⟨Nat.le_of_ble_eq_true rfl, Nat.le_of_ble_eq_true rfl⟩ hG hE hA hP hD hS rfl hl.1 (As := [.int z1]) (rest := [.int v2_1]) rfl (Nat.le_of_ble_eq_true rfl) dX11_feed_10 ⟨Nat.le_of_ble_eq_true rfl, Nat.le_of_ble_eq_true rfl⟩) hA hD hS (fun r6 L7 f8 H locs hp9 hP hD hS => ?_)
  obtain ⟨eL10L, eL10T, eL10R, eL10X0⟩ := hp9
  have eL10L : L7 = L := eL10L
  have eL10T : f8 = f3 := eL10T
  rw [eL10L, eL10T] at hP hD
  have eL10R : In r6 0 4 := eL10R
  have nbr6 : r6.toInt = nb z1 := eL10X0
  refine lv_iadd hx hb dX11_feed_13 ?_
  refine lv_topi (fun x11 ex11 => ?_)
  have hb12 : In x11 0 504 := ex11 ▸ In.add hv2_1 eL10R (by decide) (by decide) (by decide) (by decide)
  have et13 : x11.toInt = v2_1.toInt + r6.toInt := In.add2e ex11 hv2_1 eL10R (by decide) (by decide)
  refine lv_iload_n hx hb dX11_feed_14 rfl (lv_at hl 2 rfl) ?_
  refine call_i (run_S (rm := rm_X11_bytesOf) hx hb hml hown hts (s_X11_bytesOf l g ad th _ _ _ z2 hst hT ) cS_X11_bytesOf wg_1510 ⟨Nat.le_of_ble_eq_true rfl, Nat.le_of_ble_eq_true rfl⟩ hG hE hA hP hD hS rfl hl.1 (As := [.int z2]) (rest := [.int x11]) rfl (Nat.le_of_ble_eq_true rfl) dX11_feed_15 ⟨Nat.le_of_ble_eq_true rfl, Nat.le_of_ble_eq_true rfl⟩) hA hD hS (fun r14 L15 f16 H locs hp17 hP hD hS => ?_)
  obtain ⟨eL18L, eL18T, eL18R, eL18X0⟩ := hp17
  have eL18L : L15 = L := eL18L
  have eL18T : f16 = f3 := eL18T
  rw [eL18L, eL18T] at hP hD
  have eL18R : In r14 0 4 := eL18R
  have nbr14 : r14.toInt = nb z2 := eL18X0
  refine lv_iadd hx hb dX11_feed_18 ?_
  refine lv_topi (fun x19 ex19 => ?_)
  have hb20 : In x19 0 508 := ex19 ▸ In.add hb12 eL18R (by decide) (by decide) (by decide) (by decide)
  have et21 : x19.toInt = x11.toInt + r14.toInt := In.add2e ex19 hb12 eL18R (by decide) (by decide)
  refine lv_iload_n hx hb dX11_feed_19 rfl (lv_at hl 3 rfl) ?_
  refine call_i (run_S (rm := rm_X11_bytesOf) hx hb hml hown hts (s_X11_bytesOf l g ad th _ _ _ z3 hst hT ) cS_X11_bytesOf wg_1510 ⟨Nat.le_of_ble_eq_true rfl, Nat.le_of_ble_eq_true rfl⟩ hG hE hA hP hD hS rfl hl.1 (As := [.int z3]) (rest := [.int x19]) rfl (Nat.le_of_ble_eq_true rfl) dX11_feed_20 ⟨Nat.le_of_ble_eq_true rfl, Nat.le_of_ble_eq_true rfl⟩) hA hD hS (fun r22 L23 f24 H locs hp25 hP hD hS => ?_)
  obtain ⟨eL26L, eL26T, eL26R, eL26X0⟩ := hp25
  have eL26L : L23 = L := eL26L
  have eL26T : f24 = f3 := eL26T
  rw [eL26L, eL26T] at hP hD
  have eL26R : In r22 0 4 := eL26R
  have nbr22 : r22.toInt = nb z3 := eL26X0
  refine lv_iadd hx hb dX11_feed_23 ?_
  refine lv_topi (fun x27 ex27 => ?_)
  have hb28 : In x27 0 512 := ex27 ▸ In.add hb20 eL26R (by decide) (by decide) (by decide) (by decide)
  have et29 : x27.toInt = x19.toInt + r22.toInt := In.add2e ex27 hb20 eL26R (by decide) (by decide)
  refine lv_iload hx hb dX11_feed_24 (lv_at hl 4 rfl) ?_
  refine call_i (run_S (rm := rm_X11_bytesOf) hx hb hml hown hts (s_X11_bytesOf l g ad th _ _ _ z4 hst hT ) cS_X11_bytesOf wg_1510 ⟨Nat.le_of_ble_eq_true rfl, Nat.le_of_ble_eq_true rfl⟩ hG hE hA hP hD hS rfl hl.1 (As := [.int z4]) (rest := [.int x27]) rfl (Nat.le_of_ble_eq_true rfl) dX11_feed_26 ⟨Nat.le_of_ble_eq_true rfl, Nat.le_of_ble_eq_true rfl⟩) hA hD hS (fun r30 L31 f32 H locs hp33 hP hD hS => ?_)
  obtain ⟨eL34L, eL34T, eL34R, eL34X0⟩ := hp33
  have eL34L : L31 = L := eL34L
  have eL34T : f32 = f3 := eL34T
  rw [eL34L, eL34T] at hP hD
  have eL34R : In r30 0 4 := eL34R
  have nbr30 : r30.toInt = nb z4 := eL34X0
  refine lv_iadd hx hb dX11_feed_29 ?_
  refine lv_topi (fun x35 ex35 => ?_)
  have hb36 : In x35 0 516 := ex35 ▸ In.add hb28 eL34R (by decide) (by decide) (by decide) (by decide)
  have et37 : x35.toInt = x27.toInt + r30.toInt := In.add2e ex35 hb28 eL34R (by decide) (by decide)
  refine lv_iload hx hb dX11_feed_30 (lv_at hl 5 rfl) ?_
  refine call_i (run_S (rm := rm_X11_bytesOf) hx hb hml hown hts (s_X11_bytesOf l g ad th _ _ _ z5 hst hT ) cS_X11_bytesOf wg_1510 ⟨Nat.le_of_ble_eq_true rfl, Nat.le_of_ble_eq_true rfl⟩ hG hE hA hP hD hS rfl hl.1 (As := [.int z5]) (rest := [.int x35]) rfl (Nat.le_of_ble_eq_true rfl) dX11_feed_32 ⟨Nat.le_of_ble_eq_true rfl, Nat.le_of_ble_eq_true rfl⟩) hA hD hS (fun r38 L39 f40 H locs hp41 hP hD hS => ?_)
  obtain ⟨eL42L, eL42T, eL42R, eL42X0⟩ := hp41
  have eL42L : L39 = L := eL42L
  have eL42T : f40 = f3 := eL42T
  rw [eL42L, eL42T] at hP hD
  have eL42R : In r38 0 4 := eL42R
  have nbr38 : r38.toInt = nb z5 := eL42X0
  refine lv_iadd hx hb dX11_feed_35 ?_
  refine lv_topi (fun x43 ex43 => ?_)
  have hb44 : In x43 0 520 := ex43 ▸ In.add hb36 eL42R (by decide) (by decide) (by decide) (by decide)
  have et45 : x43.toInt = x35.toInt + r38.toInt := In.add2e ex43 hb36 eL42R (by decide) (by decide)
  refine lv_sipush (v := 500) hx hb dX11_feed_36 (by decide) ?_
  refine lv_icmp_le (tgt := 44) hx hb dX11_feed_39 (by decide) (fun c46 => ?_) (fun c46 => ?_)
  ·
    have oc500 : (500 : Int32).toInt = 500 := by decide
    have cc47 : x43.toInt ≤ (500 : Int32).toInt := i32_le.mp c46
    have hb48 : In x43 0 500 := In.le1 hb44 (⟨by decide, by decide⟩ : In 500 500 500) cc47 (by decide) (by decide)
    refine lv_aload_n hx hb dX11_feed_44 rfl (lv_at hl 0 rfl) ?_
    refine lv_iload_n hx hb dX11_feed_45 rfl (lv_at hl 1 rfl) ?_
    refine call_v (run_V (rm := rm_X11_brings) hx hb hml hown hts (s_X11_brings l g ad th _ _ _ z1 hst hT (show th 13 + nb z1 ≤ 500 by omega)) cV_X11_brings wg_1513 ⟨Nat.le_of_ble_eq_true rfl, Nat.le_of_ble_eq_true rfl⟩ hG hE hA hP hD hS (hst.1 255 (by decide)) hf4 rfl rfl hl.1 (As := [.int z1]) (rest := []) rfl (Nat.le_of_ble_eq_true rfl) dX11_feed_46 ⟨Nat.le_of_ble_eq_true rfl, Nat.le_of_ble_eq_true rfl⟩) hA hD hS (fun L50 f51 H locs hp52 hP hD hS => ?_)
    obtain ⟨eL53L, eL53T, eL53F⟩ := hp52
    have eL53L : L50 = L := eL53L
    rw [eL53L] at hP hD
    obtain ⟨zz54, hzz54, eL53T⟩ := eL53T
    have hT : TI g ad (gset th 13 zz54) f51 := eL53T
    have eL53F : ∀ b, b ≠ (ad 255) → b ≠ (ad 256) → f51 b = f3 b := eL53F
    have hfr : (∀ b, b ≠ (ad 255) → b ≠ (ad 256) → f51 b = f b) := fun b z0_ z1_ => (eL53F b z0_ z1_).trans (hfr b z0_ z1_)
    refine lv_aload_n hx hb dX11_feed_49 rfl (lv_at hl 0 rfl) ?_
    refine lv_iload_n hx hb dX11_feed_50 rfl (lv_at hl 2 rfl) ?_
    refine M0e hT (fun v0_55 v2_55 v3_55 v4_55 v5_55 v6_55 v8_55 v9_55 v12_55 v13_55 v14_55 v15_55 v16_55 v17_55 v18_55 v19_55 v20_55 v21_55 v22_55 v23_55 v25_55 v36_55 v37_55 v38_55 v39_55 v40_55 v45_55 v46_55 v47_55 v48_55 v50_55 v51_55 v53_55 v55_55 hf56 hv0_55 hv2_55 hg2_55 hv3_55 hg3_55 hv4_55 hg4_55 hv5_55 hg5_55 hv6_55 hg6_55 hv8_55 hg8_55 hv9_55 hg9_55 hv12_55 hv13_55 hg13_55 hv14_55 hg14_55 hv15_55 hg15_55 hv17_55 hg17_55 hv20_55 hg20_55 hv23_55 hg23_55 hv25_55 hg25_55 hv36_55 hg36_55 hv47_55 hg47_55 hv48_55 hg48_55 hv53_55 hg53_55 hv55_55 hg55_55 hrel0_55 => ?_)
    have hg15_55 : v15_55.toInt = th 11 := hg15_55
    have hg20_55 : v20_55.toInt = th 14 := hg20_55
    refine call_v (run_V (rm := rm_X11_brings) hx hb hml hown hts (s_X11_brings l g ad (gset th 13 zz54) _ _ _ z2 hst hT (show zz54 + nb z2 ≤ 500 by omega)) cV_X11_brings wg_1513 ⟨Nat.le_of_ble_eq_true rfl, Nat.le_of_ble_eq_true rfl⟩ hG hE hA hP hD hS (hst.1 255 (by decide)) hf56 rfl rfl hl.1 (As := [.int z2]) (rest := []) rfl (Nat.le_of_ble_eq_true rfl) dX11_feed_51 ⟨Nat.le_of_ble_eq_true rfl, Nat.le_of_ble_eq_true rfl⟩) hA hD hS (fun L58 f59 H locs hp60 hP hD hS => ?_)
    obtain ⟨eL61L, eL61T, eL61F⟩ := hp60
    have eL61L : L58 = L := eL61L
    rw [eL61L] at hP hD
    obtain ⟨zz62, hzz62, eL61T⟩ := eL61T
    have hT : TI g ad (gset (gset th 13 zz54) 13 zz62) f59 := eL61T
    have hT : TI g ad (gset th 13 zz62) f59 := TI.cast hT (by funext q; by_cases hq0 : q = 13; (subst hq0; rfl); simp only [gset, if_neg hq0])
    have eL61F : ∀ b, b ≠ (ad 255) → b ≠ (ad 256) → f59 b = f51 b := eL61F
    have hfr : (∀ b, b ≠ (ad 255) → b ≠ (ad 256) → f59 b = f b) := fun b z0_ z1_ => (eL61F b z0_ z1_).trans (hfr b z0_ z1_)
    refine lv_aload_n hx hb dX11_feed_54 rfl (lv_at hl 0 rfl) ?_
    refine lv_iload_n hx hb dX11_feed_55 rfl (lv_at hl 3 rfl) ?_
    refine M0e hT (fun v0_63 v2_63 v3_63 v4_63 v5_63 v6_63 v8_63 v9_63 v12_63 v13_63 v14_63 v15_63 v16_63 v17_63 v18_63 v19_63 v20_63 v21_63 v22_63 v23_63 v25_63 v36_63 v37_63 v38_63 v39_63 v40_63 v45_63 v46_63 v47_63 v48_63 v50_63 v51_63 v53_63 v55_63 hf64 hv0_63 hv2_63 hg2_63 hv3_63 hg3_63 hv4_63 hg4_63 hv5_63 hg5_63 hv6_63 hg6_63 hv8_63 hg8_63 hv9_63 hg9_63 hv12_63 hv13_63 hg13_63 hv14_63 hg14_63 hv15_63 hg15_63 hv17_63 hg17_63 hv20_63 hg20_63 hv23_63 hg23_63 hv25_63 hg25_63 hv36_63 hg36_63 hv47_63 hg47_63 hv48_63 hg48_63 hv53_63 hg53_63 hv55_63 hg55_63 hrel0_63 => ?_)
    have hg15_63 : v15_63.toInt = th 11 := hg15_63
    have hg20_63 : v20_63.toInt = th 14 := hg20_63
    refine call_v (run_V (rm := rm_X11_brings) hx hb hml hown hts (s_X11_brings l g ad (gset th 13 zz62) _ _ _ z3 hst hT (show zz62 + nb z3 ≤ 500 by omega)) cV_X11_brings wg_1513 ⟨Nat.le_of_ble_eq_true rfl, Nat.le_of_ble_eq_true rfl⟩ hG hE hA hP hD hS (hst.1 255 (by decide)) hf64 rfl rfl hl.1 (As := [.int z3]) (rest := []) rfl (Nat.le_of_ble_eq_true rfl) dX11_feed_56 ⟨Nat.le_of_ble_eq_true rfl, Nat.le_of_ble_eq_true rfl⟩) hA hD hS (fun L66 f67 H locs hp68 hP hD hS => ?_)
    obtain ⟨eL69L, eL69T, eL69F⟩ := hp68
    have eL69L : L66 = L := eL69L
    rw [eL69L] at hP hD
    obtain ⟨zz70, hzz70, eL69T⟩ := eL69T
    have hT : TI g ad (gset (gset th 13 zz62) 13 zz70) f67 := eL69T
    have hT : TI g ad (gset th 13 zz70) f67 := TI.cast hT (by funext q; by_cases hq0 : q = 13; (subst hq0; rfl); simp only [gset, if_neg hq0])
    have eL69F : ∀ b, b ≠ (ad 255) → b ≠ (ad 256) → f67 b = f59 b := eL69F
    have hfr : (∀ b, b ≠ (ad 255) → b ≠ (ad 256) → f67 b = f b) := fun b z0_ z1_ => (eL69F b z0_ z1_).trans (hfr b z0_ z1_)
    refine lv_aload_n hx hb dX11_feed_59 rfl (lv_at hl 0 rfl) ?_
    refine lv_iload hx hb dX11_feed_60 (lv_at hl 4 rfl) ?_
    refine M0e hT (fun v0_71 v2_71 v3_71 v4_71 v5_71 v6_71 v8_71 v9_71 v12_71 v13_71 v14_71 v15_71 v16_71 v17_71 v18_71 v19_71 v20_71 v21_71 v22_71 v23_71 v25_71 v36_71 v37_71 v38_71 v39_71 v40_71 v45_71 v46_71 v47_71 v48_71 v50_71 v51_71 v53_71 v55_71 hf72 hv0_71 hv2_71 hg2_71 hv3_71 hg3_71 hv4_71 hg4_71 hv5_71 hg5_71 hv6_71 hg6_71 hv8_71 hg8_71 hv9_71 hg9_71 hv12_71 hv13_71 hg13_71 hv14_71 hg14_71 hv15_71 hg15_71 hv17_71 hg17_71 hv20_71 hg20_71 hv23_71 hg23_71 hv25_71 hg25_71 hv36_71 hg36_71 hv47_71 hg47_71 hv48_71 hg48_71 hv53_71 hg53_71 hv55_71 hg55_71 hrel0_71 => ?_)
    have hg15_71 : v15_71.toInt = th 11 := hg15_71
    have hg20_71 : v20_71.toInt = th 14 := hg20_71
    refine call_v (run_V (rm := rm_X11_brings) hx hb hml hown hts (s_X11_brings l g ad (gset th 13 zz70) _ _ _ z4 hst hT (show zz70 + nb z4 ≤ 500 by omega)) cV_X11_brings wg_1513 ⟨Nat.le_of_ble_eq_true rfl, Nat.le_of_ble_eq_true rfl⟩ hG hE hA hP hD hS (hst.1 255 (by decide)) hf72 rfl rfl hl.1 (As := [.int z4]) (rest := []) rfl (Nat.le_of_ble_eq_true rfl) dX11_feed_62 ⟨Nat.le_of_ble_eq_true rfl, Nat.le_of_ble_eq_true rfl⟩) hA hD hS (fun L74 f75 H locs hp76 hP hD hS => ?_)
    obtain ⟨eL77L, eL77T, eL77F⟩ := hp76
    have eL77L : L74 = L := eL77L
    rw [eL77L] at hP hD
    obtain ⟨zz78, hzz78, eL77T⟩ := eL77T
    have hT : TI g ad (gset (gset th 13 zz70) 13 zz78) f75 := eL77T
    have hT : TI g ad (gset th 13 zz78) f75 := TI.cast hT (by funext q; by_cases hq0 : q = 13; (subst hq0; rfl); simp only [gset, if_neg hq0])
    have eL77F : ∀ b, b ≠ (ad 255) → b ≠ (ad 256) → f75 b = f67 b := eL77F
    have hfr : (∀ b, b ≠ (ad 255) → b ≠ (ad 256) → f75 b = f b) := fun b z0_ z1_ => (eL77F b z0_ z1_).trans (hfr b z0_ z1_)
    refine lv_aload_n hx hb dX11_feed_65 rfl (lv_at hl 0 rfl) ?_
    refine lv_iload hx hb dX11_feed_66 (lv_at hl 5 rfl) ?_
    refine M0e hT (fun v0_79 v2_79 v3_79 v4_79 v5_79 v6_79 v8_79 v9_79 v12_79 v13_79 v14_79 v15_79 v16_79 v17_79 v18_79 v19_79 v20_79 v21_79 v22_79 v23_79 v25_79 v36_79 v37_79 v38_79 v39_79 v40_79 v45_79 v46_79 v47_79 v48_79 v50_79 v51_79 v53_79 v55_79 hf80 hv0_79 hv2_79 hg2_79 hv3_79 hg3_79 hv4_79 hg4_79 hv5_79 hg5_79 hv6_79 hg6_79 hv8_79 hg8_79 hv9_79 hg9_79 hv12_79 hv13_79 hg13_79 hv14_79 hg14_79 hv15_79 hg15_79 hv17_79 hg17_79 hv20_79 hg20_79 hv23_79 hg23_79 hv25_79 hg25_79 hv36_79 hg36_79 hv47_79 hg47_79 hv48_79 hg48_79 hv53_79 hg53_79 hv55_79 hg55_79 hrel0_79 => ?_)
    have hg15_79 : v15_79.toInt = th 11 := hg15_79
    have hg20_79 : v20_79.toInt = th 14 := hg20_79
    refine call_v (run_V (rm := rm_X11_brings) hx hb hml hown hts (s_X11_brings l g ad (gset th 13 zz78) _ _ _ z5 hst hT (show zz78 + nb z5 ≤ 500 by omega)) cV_X11_brings wg_1513 ⟨Nat.le_of_ble_eq_true rfl, Nat.le_of_ble_eq_true rfl⟩ hG hE hA hP hD hS (hst.1 255 (by decide)) hf80 rfl rfl hl.1 (As := [.int z5]) (rest := []) rfl (Nat.le_of_ble_eq_true rfl) dX11_feed_68 ⟨Nat.le_of_ble_eq_true rfl, Nat.le_of_ble_eq_true rfl⟩) hA hD hS (fun L82 f83 H locs hp84 hP hD hS => ?_)
    obtain ⟨eL85L, eL85T, eL85F⟩ := hp84
    have eL85L : L82 = L := eL85L
    rw [eL85L] at hP hD
    obtain ⟨zz86, hzz86, eL85T⟩ := eL85T
    have hT : TI g ad (gset (gset th 13 zz78) 13 zz86) f83 := eL85T
    have hT : TI g ad (gset th 13 zz86) f83 := TI.cast hT (by funext q; by_cases hq0 : q = 13; (subst hq0; rfl); simp only [gset, if_neg hq0])
    have eL85F : ∀ b, b ≠ (ad 255) → b ≠ (ad 256) → f83 b = f75 b := eL85F
    have hfr : (∀ b, b ≠ (ad 255) → b ≠ (ad 256) → f83 b = f b) := fun b z0_ z1_ => (eL85F b z0_ z1_).trans (hfr b z0_ z1_)
    refine lv_aload_n hx hb dX11_feed_71 rfl (lv_at hl 0 rfl) ?_
    refine M0e hT (fun v0_87 v2_87 v3_87 v4_87 v5_87 v6_87 v8_87 v9_87 v12_87 v13_87 v14_87 v15_87 v16_87 v17_87 v18_87 v19_87 v20_87 v21_87 v22_87 v23_87 v25_87 v36_87 v37_87 v38_87 v39_87 v40_87 v45_87 v46_87 v47_87 v48_87 v50_87 v51_87 v53_87 v55_87 hf88 hv0_87 hv2_87 hg2_87 hv3_87 hg3_87 hv4_87 hg4_87 hv5_87 hg5_87 hv6_87 hg6_87 hv8_87 hg8_87 hv9_87 hg9_87 hv12_87 hv13_87 hg13_87 hv14_87 hg14_87 hv15_87 hg15_87 hv17_87 hg17_87 hv20_87 hg20_87 hv23_87 hg23_87 hv25_87 hg25_87 hv36_87 hg36_87 hv47_87 hg47_87 hv48_87 hg48_87 hv53_87 hg53_87 hv55_87 hg55_87 hrel0_87 => ?_)
    have hg15_87 : v15_87.toInt = th 11 := hg15_87
    have hg20_87 : v20_87.toInt = th 14 := hg20_87
    refine pl_get (v := .int v2_87) hx hb hts (fun w h => mT (inX11 w h)) hown hG.1 hP (hst.1 255 (by decide)) hf88 rfl 2 (by decide) (hts _ (mT wg_1338)) (fun _ h => h) rfl dX11_feed_72 ?_
    have hg2_87 : v2_87.toInt = zz86 := hg2_87
    exact ret_i (ty := .int) hx hb hr hlocks (rfl) hP hD hS (Nat.le_of_ble_eq_true rfl) (Nat.le_of_ble_eq_true rfl) (⟨rfl, ⟨(gset th 13 zz86), ⟨(show MI (gset th 13 zz86) from ⟨m1, m2, (show th 20 = (th 12) * rnd (th 10) from m3), m4, m5, m6, m7, m8, m9, m10⟩), (SBM.set (k := 13) (SBM.rf th) (by decide))⟩, hT⟩, hfr⟩) dX11_feed_75
  ·
    have oc500 : (500 : Int32).toInt = 500 := by decide
    have cc89 : (500 : Int32).toInt < x43.toInt := i32_nle c46
    have hb90 : In x43 501 520 := In.gt1 hb44 (⟨by decide, by decide⟩ : In 500 500 500) cc89 (by decide) (by decide)
    refine lv_iconst (v := (-1)) hx hb dX11_feed_42 (by decide) ?_
    exact ret_i (ty := .int) hx hb hr hlocks (rfl) hP hD hS (Nat.le_of_ble_eq_true rfl) (Nat.le_of_ble_eq_true rfl) (⟨rfl, ⟨th, ⟨(show MI th from hM), (SBM.rf th)⟩, hT⟩, hfr⟩) dX11_feed_43

abbrev rm_X11_end : Room := { frames := 0, cells := 0, slots := 0, locals := 0 }
abbrev po_X11_end (g : GG) (ad : Nat → Nat) (th : Nat → Int) (L : List Nat) (f : HP) (z1 : Int32) : Int32 → (List Nat × HP) → Prop := fun r u => u.1 = L ∧ (∃ th' : Nat → Int, (MI th' ∧ SBM th th') ∧ TI g ad th' u.2) ∧ (∀ b, b ≠ (ad 255) → u.2 b = f b) ∧ In r 0 1
set_option maxHeartbeats 4000000 in
set_option maxRecDepth 100000 in
theorem s_X11_end (l : Launch) (g : GG) (ad : Nat → Nat) (th : Nat → Int) (L : List Nat) (f : HP) (sz : Nat) (z1 : Int32) (hst : ST ad L) (hT : TI g ad th f) (hM : MI th) : MtI l g yX11_end cX11_end 2 (some .boolean) rm_X11_end [.ref (ad 255), .int z1] L f sz (po_X11_end g ad th L f z1) := by
  refine MtI.of (by decide +kernel) (Nat.le_of_ble_eq_true rfl) ?_
  intro p e s m below meth c A hEn hP hD hS ls hl
  obtain ⟨hx, hb, hr, hml, hown, hlocks, hts, hG, hA, hE, hnm⟩ := hEn
  have hown : s.vm.findClass "RulerWordModel" = some m.cls := hown
  have hl : lv_has ls 2 [(0, .ref (ad 255)), (1, .int z1)] := hl
  have hfr : (∀ b, b ≠ (ad 255) → f b = f b) := fun b z0_ => rfl
  have hM0 := hM
  obtain ⟨m1, m2, m3, m4, m5, m6, m7, m8, m9, m10⟩ := hM0
  have m20 := mi20 m2 m3
  refine lv_aload_n hx hb dX11_end_0 rfl (lv_at hl 0 rfl) ?_
  refine lv_iconst (v := 0) hx hb dX11_end_1 (by decide) ?_
  refine M0e hT (fun v0_1 v2_1 v3_1 v4_1 v5_1 v6_1 v8_1 v9_1 v12_1 v13_1 v14_1 v15_1 v16_1 v17_1 v18_1 v19_1 v20_1 v21_1 v22_1 v23_1 v25_1 v36_1 v37_1 v38_1 v39_1 v40_1 v45_1 v46_1 v47_1 v48_1 v50_1 v51_1 v53_1 v55_1 hf2 hv0_1 hv2_1 hg2_1 hv3_1 hg3_1 hv4_1 hg4_1 hv5_1 hg5_1 hv6_1 hg6_1 hv8_1 hg8_1 hv9_1 hg9_1 hv12_1 hv13_1 hg13_1 hv14_1 hg14_1 hv15_1 hg15_1 hv17_1 hg17_1 hv20_1 hg20_1 hv23_1 hg23_1 hv25_1 hg25_1 hv36_1 hg36_1 hv47_1 hg47_1 hv48_1 hg48_1 hv53_1 hg53_1 hv55_1 hg55_1 hrel0_1 => ?_)
  have hg15_1 : v15_1.toInt = th 11 := hg15_1
  have hg20_1 : v20_1.toInt = th 14 := hg20_1
  refine pl_put (ty := .int) (v := .int 0) (fs' := [.int 0, .ref (ad 256), .int v2_1, .int v3_1, .int v4_1, .int v5_1, .int v6_1, .ref (ad 257), .int v8_1, .int v9_1, .ref (ad 258), .ref (ad 259), .int v12_1, .int v13_1, .int v14_1, .int v15_1, .int v16_1, .int v17_1, .int v18_1, .int v19_1, .int v20_1, .long v21_1, .long v22_1, .int v23_1, .ref (ad 260), .int v25_1, .ref (ad 261), .ref (ad 262), .ref (ad 263), .ref (ad 264), .ref (ad 265), .ref (ad 266), .ref (ad 267), .ref (ad 268), .ref (ad 269), .ref (ad 270), .int v36_1, .int v37_1, .int v38_1, .int v39_1, .int v40_1, .ref (ad 271), .ref (ad 272), .ref (ad 273), .ref (ad 274), .long v45_1, .long v46_1, .int v47_1, .int v48_1, .ref (ad 275), .int v50_1, .int v51_1, .ref (ad 276), .int v53_1, .ref (ad 277), .int v55_1]) hx hb hts (fun w h => mT (inX11 w h)) tyX11 tyX11_ok nmX11 hown hG.1 hP hD hS (hst.1 255 (by decide)) hf2 rfl 0 (by decide) (hts _ (mT wg_1336)) (fun _ h => h) rfl (by decide +kernel) (rfl) (rfl) (Nat.le_of_ble_eq_true rfl) rfl dX11_end_2 (fun H locs f3 hf4 ho5 hP hD hS => ?_)
  have hfr : (∀ b, b ≠ (ad 255) → f3 b = f b) := fun b z0_ => (ho5 b z0_).trans (hfr b z0_)
  refine lv_iload_n hx hb dX11_end_5 rfl (lv_at hl 1 rfl) ?_
  have hT := TI.updM hT hst (k := 0) (by decide) hf4 ho5 ⟨0, v2_1, v3_1, v4_1, v5_1, v6_1, v8_1, v9_1, v12_1, v13_1, v14_1, v15_1, v16_1, v17_1, v18_1, v19_1, v20_1, v21_1, v22_1, v23_1, v25_1, v36_1, v37_1, v38_1, v39_1, v40_1, v45_1, v46_1, v47_1, v48_1, v50_1, v51_1, v53_1, v55_1, rfl, (⟨by decide, by decide⟩ : In 0 0 1), hv2_1, hg2_1, hv3_1, hg3_1, hv4_1, hg4_1, hv5_1, hg5_1, hv6_1, hg6_1, hv8_1, hg8_1, hv9_1, hg9_1, hv12_1, hv13_1, hg13_1, hv14_1, hg14_1, hv15_1, hg15_1, hv17_1, hg17_1, hv20_1, hg20_1, hv23_1, hg23_1, hv25_1, hg25_1, hv36_1, hg36_1, hv47_1, hg47_1, hv48_1, hg48_1, hv53_1, hg53_1, hv55_1, hg55_1, hrel0_1⟩
  refine lv_if_lt (tgt := 17) hx hb dX11_end_6 (by decide) (fun c6 => ?_) (fun c6 => ?_)
  ·
    have oc0 : (0 : Int32).toInt = 0 := by decide
    have cc7 : z1.toInt < (0 : Int32).toInt := i32_lt.mp c6
    have hb8 : In z1 (-2147483648) (-1) := In.lt1 (In.full z1) (⟨by decide, by decide⟩ : In 0 0 0) cc7 (by decide) (by decide)
    refine lv_iconst (v := 0) hx hb dX11_end_17 (by decide) ?_
    exact ret_i (ty := .boolean) hx hb hr hlocks (rfl) hP hD hS (Nat.le_of_ble_eq_true rfl) (Nat.le_of_ble_eq_true rfl) (⟨rfl, ⟨th, ⟨(show MI th from hM), (SBM.rf th)⟩, hT⟩, hfr, (⟨by decide, by decide⟩ : In 0 0 1)⟩) dX11_end_18
  ·
    have oc0 : (0 : Int32).toInt = 0 := by decide
    have cc9 : (0 : Int32).toInt ≤ z1.toInt := i32_nlt c6
    have hb10 : In z1 0 2147483647 := In.ge1 (In.full z1) (⟨by decide, by decide⟩ : In 0 0 0) cc9 (by decide) (by decide)
    refine lv_iload_n hx hb dX11_end_9 rfl (lv_at hl 1 rfl) ?_
    refine lv_aload_n hx hb dX11_end_10 rfl (lv_at hl 0 rfl) ?_
    refine pl_get (v := .int v2_1) hx hb hts (fun w h => mT (inX11 w h)) hown hG.1 hP (hst.1 255 (by decide)) hf4 rfl 2 (by decide) (hts _ (mT wg_1338)) (fun _ h => h) rfl dX11_end_11 ?_
    have hg2_1 : v2_1.toInt = th 13 := hg2_1
    refine lv_icmp_le (tgt := 19) hx hb dX11_end_14 (by decide) (fun c11 => ?_) (fun c11 => ?_)
    ·
      have cc12 : z1.toInt ≤ v2_1.toInt := i32_le.mp c11
      have hb13 : In z1 0 500 := In.le1 hb10 hv2_1 cc12 (by decide) (by decide)
      refine lv_aload_n hx hb dX11_end_19 rfl (lv_at hl 0 rfl) ?_
      refine lv_iload_n hx hb dX11_end_20 rfl (lv_at hl 1 rfl) ?_
      refine pl_put (ty := .int) (v := .int z1) (fs' := [.int 0, .ref (ad 256), .int z1, .int v3_1, .int v4_1, .int v5_1, .int v6_1, .ref (ad 257), .int v8_1, .int v9_1, .ref (ad 258), .ref (ad 259), .int v12_1, .int v13_1, .int v14_1, .int v15_1, .int v16_1, .int v17_1, .int v18_1, .int v19_1, .int v20_1, .long v21_1, .long v22_1, .int v23_1, .ref (ad 260), .int v25_1, .ref (ad 261), .ref (ad 262), .ref (ad 263), .ref (ad 264), .ref (ad 265), .ref (ad 266), .ref (ad 267), .ref (ad 268), .ref (ad 269), .ref (ad 270), .int v36_1, .int v37_1, .int v38_1, .int v39_1, .int v40_1, .ref (ad 271), .ref (ad 272), .ref (ad 273), .ref (ad 274), .long v45_1, .long v46_1, .int v47_1, .int v48_1, .ref (ad 275), .int v50_1, .int v51_1, .ref (ad 276), .int v53_1, .ref (ad 277), .int v55_1]) hx hb hts (fun w h => mT (inX11 w h)) tyX11 tyX11_ok nmX11 hown hG.1 hP hD hS (hst.1 255 (by decide)) hf4 rfl 2 (by decide) (hts _ (mT wg_1338)) (fun _ h => h) rfl (by decide +kernel) (rfl) (rfl) (Nat.le_of_ble_eq_true rfl) rfl dX11_end_21 (fun H locs f14 hf15 ho16 hP hD hS => ?_)
      have hfr : (∀ b, b ≠ (ad 255) → f14 b = f b) := fun b z0_ => (ho16 b z0_).trans (hfr b z0_)
      refine lv_iconst (v := 1) hx hb dX11_end_24 (by decide) ?_
      have hT := TI.updMG (th' := (gset th 13 (z1.toInt))) hT hst (k := 0) (by decide) hf15 ho16 ⟨0, z1, v3_1, v4_1, v5_1, v6_1, v8_1, v9_1, v12_1, v13_1, v14_1, v15_1, v16_1, v17_1, v18_1, v19_1, v20_1, v21_1, v22_1, v23_1, v25_1, v36_1, v37_1, v38_1, v39_1, v40_1, v45_1, v46_1, v47_1, v48_1, v50_1, v51_1, v53_1, v55_1, rfl, (⟨by decide, by decide⟩ : In 0 0 1), hb13, rfl, hv3_1, hg3_1, hv4_1, hg4_1, hv5_1, hg5_1, hv6_1, hg6_1, hv8_1, hg8_1, hv9_1, hg9_1, hv12_1, hv13_1, hg13_1, hv14_1, hg14_1, hv15_1, hg15_1, hv17_1, hg17_1, hv20_1, hg20_1, hv23_1, hg23_1, hv25_1, hg25_1, hv36_1, hg36_1, hv47_1, hg47_1, hv48_1, hg48_1, hv53_1, hg53_1, hv55_1, hg55_1, hrel0_1⟩ (fun q hq => ((gset_ne (fun e => hq (by subst e; decide))).trans rfl))
      have hT : TI g ad (gset th 13 z1.toInt) f14 := TI.cast hT (by funext q; by_cases hq0 : q = 13; (subst hq0; rfl); simp only [gset, if_neg hq0])
      exact ret_i (ty := .boolean) hx hb hr hlocks (rfl) hP hD hS (Nat.le_of_ble_eq_true rfl) (Nat.le_of_ble_eq_true rfl) (⟨rfl, ⟨(gset th 13 z1.toInt), ⟨(show MI (gset th 13 z1.toInt) from ⟨m1, m2, (show th 20 = (th 12) * rnd (th 10) from m3), m4, m5, m6, m7, m8, m9, m10⟩), (SBM.set (k := 13) (SBM.rf th) (by decide))⟩, hT⟩, hfr, (⟨by decide, by decide⟩ : In 1 0 1)⟩) dX11_end_25
    ·
      have cc17 : v2_1.toInt < z1.toInt := i32_nle c11
      have hb18 : In z1 1 2147483647 := In.gt1 hb10 hv2_1 cc17 (by decide) (by decide)
      refine lv_iconst (v := 0) hx hb dX11_end_17 (by decide) ?_
      exact ret_i (ty := .boolean) hx hb hr hlocks (rfl) hP hD hS (Nat.le_of_ble_eq_true rfl) (Nat.le_of_ble_eq_true rfl) (⟨rfl, ⟨th, ⟨(show MI th from hM), (SBM.rf th)⟩, hT⟩, hfr, (⟨by decide, by decide⟩ : In 0 0 1)⟩) dX11_end_18
