abbrev rm_X11_feed : Room := { frames := 1, cells := 0, slots := 0, locals := 23 }
abbrev po_X11_feed (g : GG) (ad : Nat → Nat) (th : Nat → Int) (L : List Nat) (f : HP) (z1 : Int32) (z2 : Int32) (z3 : Int32) (z4 : Int32) (z5 : Int32) : Int32 → (List Nat × HP) → Prop := fun r u => u.1 = L ∧ (∃ th' : Nat → Int, (MI th' ∧ SBM th th') ∧ TI g ad th' u.2) ∧ (∀ b, b ≠ (ad 255) → b ≠ (ad 256) → u.2 b = f b)
set_option maxHeartbeats 4000000 in
set_option maxRecDepth 100000 in
theorem s_X11_feed (l : Launch) (g : GG) (ad : Nat → Nat) (th : Nat → Int) (L : List Nat) (f : HP) (sz : Nat) (z1 : Int32) (z2 : Int32) (z3 : Int32) (z4 : Int32) (z5 : Int32) (hst : ST ad L) (hT : TI g ad th f) (hM : MI th) : MtI l g yX11_feed cX11_feed 6 (some .int) rm_X11_feed [.ref (ad 255), .int z1, .int z2, .int z3, .int z4, .int z5] L f sz (po_X11_feed g ad th L f z1 z2 z3 z4 z5) := by
  refine MtI.of (by decide +kernel) (Nat.le_of_ble_eq_true rfl) ?_
  intro p e s m below meth c A hEn hP hD hS ls hl
  obtain ⟨hx, hb, hr, hml, hown, hlocks, hts, hG, hA, hE, hnm⟩ := hEn
  have hown : s.vm.findClass "RulerWordModel" = some m.cls := hown
  have hl : lv_has ls 6 [(0, .ref (ad 255)), (1, .int z1), (2, .int z2), (3, .int z3), (4, .int z4), (5, .int z5)] := hl
  have hfr : (∀ b, b ≠ (ad 255) → b ≠ (ad 256) → f b = f b) := fun b z0_ z1_ => rfl
  have hM0 := hM
  obtain ⟨m1, m2, m3, m4, m5, m6, m7, m8, m9, m10⟩ := hM0
  have m20 := mi20 m2 m3
  have hnb1 := (nb_r z1).1
  have hnb2 := (nb_r z2).1
  have hnb3 := (nb_r z3).1
  have hnb4 := (nb_r z4).1
  have hnb5 := (nb_r z5).1
  refine lv_aload_n hx hb dX11_feed_0 rfl (lv_at hl 0 rfl) ?_
  refine lv_iconst (v := 0) hx hb dX11_feed_1 (by decide) ?_
  refine M0e hT (fun v0_1 v2_1 v3_1 v4_1 v5_1 v6_1 v8_1 v9_1 v12_1 v13_1 v14_1 v15_1 v16_1 v17_1 v18_1 v19_1 v20_1 v21_1 v22_1 v23_1 v25_1 v36_1 v37_1 v38_1 v39_1 v40_1 v45_1 v46_1 v47_1 v48_1 v50_1 v51_1 v53_1 v55_1 hf2 hv0_1 hv2_1 hg2_1 hv3_1 hg3_1 hv4_1 hg4_1 hv5_1 hg5_1 hv6_1 hg6_1 hv8_1 hg8_1 hv9_1 hg9_1 hv12_1 hv13_1 hg13_1 hv14_1 hg14_1 hv15_1 hg15_1 hv17_1 hg17_1 hv20_1 hg20_1 hv23_1 hg23_1 hv25_1 hg25_1 hv36_1 hg36_1 hv47_1 hg47_1 hv48_1 hg48_1 hv53_1 hg53_1 hv55_1 hg55_1 hrel0_1 => ?_)
  have hg15_1 : v15_1.toInt = th 11 := hg15_1
  have hg17_1 : v17_1.toInt = th 12 := hg17_1
  have hg20_1 : v20_1.toInt = th 14 := hg20_1
  refine pl_put (ty := .int) (v := .int 0) (fs' := [.int 0, .ref (ad 256), .int v2_1, .int v3_1, .int v4_1, .int v5_1, .int v6_1, .ref (ad 257), .int v8_1, .int v9_1, .ref (ad 258), .ref (ad 259), .int v12_1, .int v13_1, .int v14_1, .int v15_1, .int v16_1, .int v17_1, .int v18_1, .int v19_1, .int v20_1, .long v21_1, .long v22_1, .int v23_1, .ref (ad 260), .int v25_1, .ref (ad 261), .ref (ad 262), .ref (ad 263), .ref (ad 264), .ref (ad 265), .ref (ad 266), .ref (ad 267), .ref (ad 268), .ref (ad 269), .ref (ad 270), .int v36_1, .int v37_1, .int v38_1, .int v39_1, .int v40_1, .ref (ad 271), .ref (ad 272), .ref (ad 273), .ref (ad 274), .long v45_1, .long v46_1, .int v47_1, .int v48_1, .ref (ad 275), .int v50_1, .int v51_1, .ref (ad 276), .int v53_1, .ref (ad 277), .int v55_1]) hx hb hts (fun w h => mT (inX11 w h)) tyX11 tyX11_ok nmX11 hown hG.1 hP hD hS (hst.1 255 (by decide)) hf2 rfl 0 (by decide) (hts _ (mT wg_1336)) (fun _ h => h) rfl (by decide +kernel) (rfl) (rfl) (Nat.le_of_ble_eq_true rfl) rfl dX11_feed_2 (fun H locs f3 hf4 ho5 hP hD hS => ?_)
  have hfr : (∀ b, b ≠ (ad 255) → b ≠ (ad 256) → f3 b = f b) := fun b z0_ z1_ => (ho5 b z0_).trans (hfr b z0_ z1_)
  refine lv_aload_n hx hb dX11_feed_5 rfl (lv_at hl 0 rfl) ?_
  refine pl_get (v := .int v2_1) hx hb hts (fun w h => mT (inX11 w h)) hown hG.1 hP (hst.1 255 (by decide)) hf4 rfl 2 (by decide) (hts _ (mT wg_1338)) (fun _ h => h) rfl dX11_feed_6 ?_
  have hg2_1 : v2_1.toInt = th 13 := hg2_1
  refine lv_iload_n hx hb dX11_feed_9 rfl (lv_at hl 1 rfl) ?_
  have hT := TI.updM hT hst (k := 0) (by decide) hf4 ho5 ⟨0, v2_1, v3_1, v4_1, v5_1, v6_1, v8_1, v9_1, v12_1, v13_1, v14_1, v15_1, v16_1, v17_1, v18_1, v19_1, v20_1, v21_1, v22_1, v23_1, v25_1, v36_1, v37_1, v38_1, v39_1, v40_1, v45_1, v46_1, v47_1, v48_1, v50_1, v51_1, v53_1, v55_1, rfl, (⟨by decide, by decide⟩ : In 0 0 1), hv2_1, hg2_1, hv3_1, hg3_1, hv4_1, hg4_1, hv5_1, hg5_1, hv6_1, hg6_1, hv8_1, hg8_1, hv9_1, hg9_1, hv12_1, hv13_1, hg13_1, hv14_1, hg14_1, hv15_1, hg15_1, hv17_1, hg17_1, hv20_1, hg20_1, hv23_1, hg23_1, hv25_1, hg25_1, hv36_1, hg36_1, hv47_1, hg47_1, hv48_1, hg48_1, hv53_1, hg53_1, hv55_1, hg55_1, hrel0_1⟩
  refine call_i (run_S (rm := rm_X11_bytesOf) hx hb hml hown hts (s_X11_bytesOf l g ad th _ _ _ z1 hst hT ) cS_X11_bytesOf wg_1510 ⟨Nat.le_of_ble_eq_true rfl, Nat.le_of_ble_eq_true rfl⟩ hG hE hA hP hD hS rfl hl.1 (As := [.int z1]) (rest := [.int v2_1]) rfl (Nat.le_of_ble_eq_true rfl) dX11_feed_10 ⟨Nat.le_of_ble_eq_true rfl, Nat.le_of_ble_eq_true rfl⟩) hA hD hS (fun r6 L7 f8 H locs hp9 hP hD hS => ?_)
  obtain ⟨eL10L, eL10T, eL10R, eL10X0⟩ := hp9
  have eL10L : L7 = L := eL10L
  have eL10T : f8 = f3 := eL10T
  rw [eL10L, eL10T] at hP hD
  have eL10R : In r6 0 4 := eL10R
  have nbr6 : r6.toInt = nb z1 := eL10X0
  refine lv_iadd hx hb dX11_feed_13 ?_
  refine lv_topi (fun x11 ex11 => ?_)
  have hb12 : In x11 0 504 := ex11 ▸ In.add hv2_1 eL10R (by decide) (by decide) (by decide) (by decide)
  have et13 : x11.toInt = v2_1.toInt + r6.toInt := In.add2e ex11 hv2_1 eL10R (by decide) (by decide)
  refine lv_iload_n hx hb dX11_feed_14 rfl (lv_at hl 2 rfl) ?_
  refine call_i (run_S (rm := rm_X11_bytesOf) hx hb hml hown hts (s_X11_bytesOf l g ad th _ _ _ z2 hst hT ) cS_X11_bytesOf wg_1510 ⟨Nat.le_of_ble_eq_true rfl, Nat.le_of_ble_eq_true rfl⟩ hG hE hA hP hD hS rfl hl.1 (As := [.int z2]) (rest := [.int x11]) rfl (Nat.le_of_ble_eq_true rfl) dX11_feed_15 ⟨Nat.le_of_ble_eq_true rfl, Nat.le_of_ble_eq_true rfl⟩) hA hD hS (fun r14 L15 f16 H locs hp17 hP hD hS => ?_)
  obtain ⟨eL18L, eL18T, eL18R, eL18X0⟩ := hp17
  have eL18L : L15 = L := eL18L
  have eL18T : f16 = f3 := eL18T
  rw [eL18L, eL18T] at hP hD
  have eL18R : In r14 0 4 := eL18R
  have nbr14 : r14.toInt = nb z2 := eL18X0
  refine lv_iadd hx hb dX11_feed_18 ?_
  refine lv_topi (fun x19 ex19 => ?_)
  have hb20 : In x19 0 508 := ex19 ▸ In.add hb12 eL18R (by decide) (by decide) (by decide) (by decide)
  have et21 : x19.toInt = x11.toInt + r14.toInt := In.add2e ex19 hb12 eL18R (by decide) (by decide)
  refine lv_iload_n hx hb dX11_feed_19 rfl (lv_at hl 3 rfl) ?_
  refine call_i (run_S (rm := rm_X11_bytesOf) hx hb hml hown hts (s_X11_bytesOf l g ad th _ _ _ z3 hst hT ) cS_X11_bytesOf wg_1510 ⟨Nat.le_of_ble_eq_true rfl, Nat.le_of_ble_eq_true rfl⟩ hG hE hA hP hD hS rfl hl.1 (As := [.int z3]) (rest := [.int x19]) rfl (Nat.le_of_ble_eq_true rfl) dX11_feed_20 ⟨Nat.le_of_ble_eq_true rfl, Nat.le_of_ble_eq_true rfl⟩) hA hD hS (fun r22 L23 f24 H locs hp25 hP hD hS => ?_)
  obtain ⟨eL26L, eL26T, eL26R, eL26X0⟩ := hp25
  have eL26L : L23 = L := eL26L
  have eL26T : f24 = f3 := eL26T
  rw [eL26L, eL26T] at hP hD
  have eL26R : In r22 0 4 := eL26R
  have nbr22 : r22.toInt = nb z3 := eL26X0
  refine lv_iadd hx hb dX11_feed_23 ?_
  refine lv_topi (fun x27 ex27 => ?_)
  have hb28 : In x27 0 512 := ex27 ▸ In.add hb20 eL26R (by decide) (by decide) (by decide) (by decide)
  have et29 : x27.toInt = x19.toInt + r22.toInt := In.add2e ex27 hb20 eL26R (by decide) (by decide)
  refine lv_iload hx hb dX11_feed_24 (lv_at hl 4 rfl) ?_
  refine call_i (run_S (rm := rm_X11_bytesOf) hx hb hml hown hts (s_X11_bytesOf l g ad th _ _ _ z4 hst hT ) cS_X11_bytesOf wg_1510 ⟨Nat.le_of_ble_eq_true rfl, Nat.le_of_ble_eq_true rfl⟩ hG hE hA hP hD hS rfl hl.1 (As := [.int z4]) (rest := [.int x27]) rfl (Nat.le_of_ble_eq_true rfl) dX11_feed_26 ⟨Nat.le_of_ble_eq_true rfl, Nat.le_of_ble_eq_true rfl⟩) hA hD hS (fun r30 L31 f32 H locs hp33 hP hD hS => ?_)
  obtain ⟨eL34L, eL34T, eL34R, eL34X0⟩ := hp33
  have eL34L : L31 = L := eL34L
  have eL34T : f32 = f3 := eL34T
  rw [eL34L, eL34T] at hP hD
  have eL34R : In r30 0 4 := eL34R
  have nbr30 : r30.toInt = nb z4 := eL34X0
  refine lv_iadd hx hb dX11_feed_29 ?_
  refine lv_topi (fun x35 ex35 => ?_)
  have hb36 : In x35 0 516 := ex35 ▸ In.add hb28 eL34R (by decide) (by decide) (by decide) (by decide)
  have et37 : x35.toInt = x27.toInt + r30.toInt := In.add2e ex35 hb28 eL34R (by decide) (by decide)
  refine lv_iload hx hb dX11_feed_30 (lv_at hl 5 rfl) ?_
  refine call_i (run_S (rm := rm_X11_bytesOf) hx hb hml hown hts (s_X11_bytesOf l g ad th _ _ _ z5 hst hT ) cS_X11_bytesOf wg_1510 ⟨Nat.le_of_ble_eq_true rfl, Nat.le_of_ble_eq_true rfl⟩ hG hE hA hP hD hS rfl hl.1 (As := [.int z5]) (rest := [.int x35]) rfl (Nat.le_of_ble_eq_true rfl) dX11_feed_32 ⟨Nat.le_of_ble_eq_true rfl, Nat.le_of_ble_eq_true rfl⟩) hA hD hS (fun r38 L39 f40 H locs hp41 hP hD hS => ?_)
  obtain ⟨eL42L, eL42T, eL42R, eL42X0⟩ := hp41
  have eL42L : L39 = L := eL42L
  have eL42T : f40 = f3 := eL42T
  rw [eL42L, eL42T] at hP hD
  have eL42R : In r38 0 4 := eL42R
  have nbr38 : r38.toInt = nb z5 := eL42X0
  refine lv_iadd hx hb dX11_feed_35 ?_
  refine lv_topi (fun x43 ex43 => ?_)
  have hb44 : In x43 0 520 := ex43 ▸ In.add hb36 eL42R (by decide) (by decide) (by decide) (by decide)
  have et45 : x43.toInt = x35.toInt + r38.toInt := In.add2e ex43 hb36 eL42R (by decide) (by decide)
  refine lv_sipush (v := 500) hx hb dX11_feed_36 (by decide) ?_
  refine lv_icmp_le (tgt := 44) hx hb dX11_feed_39 (by decide) (fun c46 => ?_) (fun c46 => ?_)
  ·
    have oc500 : (500 : Int32).toInt = 500 := by decide
    have cc47 : x43.toInt ≤ (500 : Int32).toInt := i32_le.mp c46
    have hb48 : In x43 0 500 := In.le1 hb44 (⟨by decide, by decide⟩ : In 500 500 500) cc47 (by decide) (by decide)
    refine lv_aload_n hx hb dX11_feed_44 rfl (lv_at hl 0 rfl) ?_
    refine lv_iload_n hx hb dX11_feed_45 rfl (lv_at hl 1 rfl) ?_
    refine call_v (run_V (rm := rm_X11_brings) hx hb hml hown hts (s_X11_brings l g ad th _ _ _ z1 hst hT (show th 13 + nb z1 ≤ 500 by omega)) cV_X11_brings wg_1513 ⟨Nat.le_of_ble_eq_true rfl, Nat.le_of_ble_eq_true rfl⟩ hG hE hA hP hD hS (hst.1 255 (by decide)) hf4 rfl rfl hl.1 (As := [.int z1]) (rest := []) rfl (Nat.le_of_ble_eq_true rfl) dX11_feed_46 ⟨Nat.le_of_ble_eq_true rfl, Nat.le_of_ble_eq_true rfl⟩) hA hD hS (fun L50 f51 H locs hp52 hP hD hS => ?_)
    obtain ⟨eL53L, eL53T, eL53F⟩ := hp52
    have eL53L : L50 = L := eL53L
    rw [eL53L] at hP hD
    obtain ⟨zz54, hzz54, eL53T⟩ := eL53T
    have hT : TI g ad (gset th 13 zz54) f51 := eL53T
    have eL53F : ∀ b, b ≠ (ad 255) → b ≠ (ad 256) → f51 b = f3 b := eL53F
    have hfr : (∀ b, b ≠ (ad 255) → b ≠ (ad 256) → f51 b = f b) := fun b z0_ z1_ => (eL53F b z0_ z1_).trans (hfr b z0_ z1_)
    refine lv_aload_n hx hb dX11_feed_49 rfl (lv_at hl 0 rfl) ?_
    refine lv_iload_n hx hb dX11_feed_50 rfl (lv_at hl 2 rfl) ?_
    refine M0e hT (fun v0_55 v2_55 v3_55 v4_55 v5_55 v6_55 v8_55 v9_55 v12_55 v13_55 v14_55 v15_55 v16_55 v17_55 v18_55 v19_55 v20_55 v21_55 v22_55 v23_55 v25_55 v36_55 v37_55 v38_55 v39_55 v40_55 v45_55 v46_55 v47_55 v48_55 v50_55 v51_55 v53_55 v55_55 hf56 hv0_55 hv2_55 hg2_55 hv3_55 hg3_55 hv4_55 hg4_55 hv5_55 hg5_55 hv6_55 hg6_55 hv8_55 hg8_55 hv9_55 hg9_55 hv12_55 hv13_55 hg13_55 hv14_55 hg14_55 hv15_55 hg15_55 hv17_55 hg17_55 hv20_55 hg20_55 hv23_55 hg23_55 hv25_55 hg25_55 hv36_55 hg36_55 hv47_55 hg47_55 hv48_55 hg48_55 hv53_55 hg53_55 hv55_55 hg55_55 hrel0_55 => ?_)
    have hg15_55 : v15_55.toInt = th 11 := hg15_55
    have hg17_55 : v17_55.toInt = th 12 := hg17_55
    have hg20_55 : v20_55.toInt = th 14 := hg20_55
    refine call_v (run_V (rm := rm_X11_brings) hx hb hml hown hts (s_X11_brings l g ad (gset th 13 zz54) _ _ _ z2 hst hT (show zz54 + nb z2 ≤ 500 by omega)) cV_X11_brings wg_1513 ⟨Nat.le_of_ble_eq_true rfl, Nat.le_of_ble_eq_true rfl⟩ hG hE hA hP hD hS (hst.1 255 (by decide)) hf56 rfl rfl hl.1 (As := [.int z2]) (rest := []) rfl (Nat.le_of_ble_eq_true rfl) dX11_feed_51 ⟨Nat.le_of_ble_eq_true rfl, Nat.le_of_ble_eq_true rfl⟩) hA hD hS (fun L58 f59 H locs hp60 hP hD hS => ?_)
    obtain ⟨eL61L, eL61T, eL61F⟩ := hp60
    have eL61L : L58 = L := eL61L
    rw [eL61L] at hP hD
    obtain ⟨zz62, hzz62, eL61T⟩ := eL61T
    have hgk63 : (gset th 13 zz54) 13 = zz54 := rfl
    have hT : TI g ad (gset (gset th 13 zz54) 13 zz62) f59 := eL61T
    have hT : TI g ad (gset th 13 zz62) f59 := TI.cast hT (by funext q; by_cases hq0 : q = 13; (subst hq0; rfl); simp only [gset, if_neg hq0])
    have eL61F : ∀ b, b ≠ (ad 255) → b ≠ (ad 256) → f59 b = f51 b := eL61F
    have hfr : (∀ b, b ≠ (ad 255) → b ≠ (ad 256) → f59 b = f b) := fun b z0_ z1_ => (eL61F b z0_ z1_).trans (hfr b z0_ z1_)
    refine lv_aload_n hx hb dX11_feed_54 rfl (lv_at hl 0 rfl) ?_
    refine lv_iload_n hx hb dX11_feed_55 rfl (lv_at hl 3 rfl) ?_
    refine M0e hT (fun v0_64 v2_64 v3_64 v4_64 v5_64 v6_64 v8_64 v9_64 v12_64 v13_64 v14_64 v15_64 v16_64 v17_64 v18_64 v19_64 v20_64 v21_64 v22_64 v23_64 v25_64 v36_64 v37_64 v38_64 v39_64 v40_64 v45_64 v46_64 v47_64 v48_64 v50_64 v51_64 v53_64 v55_64 hf65 hv0_64 hv2_64 hg2_64 hv3_64 hg3_64 hv4_64 hg4_64 hv5_64 hg5_64 hv6_64 hg6_64 hv8_64 hg8_64 hv9_64 hg9_64 hv12_64 hv13_64 hg13_64 hv14_64 hg14_64 hv15_64 hg15_64 hv17_64 hg17_64 hv20_64 hg20_64 hv23_64 hg23_64 hv25_64 hg25_64 hv36_64 hg36_64 hv47_64 hg47_64 hv48_64 hg48_64 hv53_64 hg53_64 hv55_64 hg55_64 hrel0_64 => ?_)
    have hg15_64 : v15_64.toInt = th 11 := hg15_64
    have hg17_64 : v17_64.toInt = th 12 := hg17_64
    have hg20_64 : v20_64.toInt = th 14 := hg20_64
    refine call_v (run_V (rm := rm_X11_brings) hx hb hml hown hts (s_X11_brings l g ad (gset th 13 zz62) _ _ _ z3 hst hT (show zz62 + nb z3 ≤ 500 by omega)) cV_X11_brings wg_1513 ⟨Nat.le_of_ble_eq_true rfl, Nat.le_of_ble_eq_true rfl⟩ hG hE hA hP hD hS (hst.1 255 (by decide)) hf65 rfl rfl hl.1 (As := [.int z3]) (rest := []) rfl (Nat.le_of_ble_eq_true rfl) dX11_feed_56 ⟨Nat.le_of_ble_eq_true rfl, Nat.le_of_ble_eq_true rfl⟩) hA hD hS (fun L67 f68 H locs hp69 hP hD hS => ?_)
    obtain ⟨eL70L, eL70T, eL70F⟩ := hp69
    have eL70L : L67 = L := eL70L
    rw [eL70L] at hP hD
    obtain ⟨zz71, hzz71, eL70T⟩ := eL70T
    have hgk72 : (gset th 13 zz62) 13 = zz62 := rfl
    have hT : TI g ad (gset (gset th 13 zz62) 13 zz71) f68 := eL70T
    have hT : TI g ad (gset th 13 zz71) f68 := TI.cast hT (by funext q; by_cases hq0 : q = 13; (subst hq0; rfl); simp only [gset, if_neg hq0])
    have eL70F : ∀ b, b ≠ (ad 255) → b ≠ (ad 256) → f68 b = f59 b := eL70F
    have hfr : (∀ b, b ≠ (ad 255) → b ≠ (ad 256) → f68 b = f b) := fun b z0_ z1_ => (eL70F b z0_ z1_).trans (hfr b z0_ z1_)
    refine lv_aload_n hx hb dX11_feed_59 rfl (lv_at hl 0 rfl) ?_
    refine lv_iload hx hb dX11_feed_60 (lv_at hl 4 rfl) ?_
    refine M0e hT (fun v0_73 v2_73 v3_73 v4_73 v5_73 v6_73 v8_73 v9_73 v12_73 v13_73 v14_73 v15_73 v16_73 v17_73 v18_73 v19_73 v20_73 v21_73 v22_73 v23_73 v25_73 v36_73 v37_73 v38_73 v39_73 v40_73 v45_73 v46_73 v47_73 v48_73 v50_73 v51_73 v53_73 v55_73 hf74 hv0_73 hv2_73 hg2_73 hv3_73 hg3_73 hv4_73 hg4_73 hv5_73 hg5_73 hv6_73 hg6_73 hv8_73 hg8_73 hv9_73 hg9_73 hv12_73 hv13_73 hg13_73 hv14_73 hg14_73 hv15_73 hg15_73 hv17_73 hg17_73 hv20_73 hg20_73 hv23_73 hg23_73 hv25_73 hg25_73 hv36_73 hg36_73 hv47_73 hg47_73 hv48_73 hg48_73 hv53_73 hg53_73 hv55_73 hg55_73 hrel0_73 => ?_)
    have hg15_73 : v15_73.toInt = th 11 := hg15_73
    have hg17_73 : v17_73.toInt = th 12 := hg17_73
    have hg20_73 : v20_73.toInt = th 14 := hg20_73
    refine call_v (run_V (rm := rm_X11_brings) hx hb hml hown hts (s_X11_brings l g ad (gset th 13 zz71) _ _ _ z4 hst hT (show zz71 + nb z4 ≤ 500 by omega)) cV_X11_brings wg_1513 ⟨Nat.le_of_ble_eq_true rfl, Nat.le_of_ble_eq_true rfl⟩ hG hE hA hP hD hS (hst.1 255 (by decide)) hf74 rfl rfl hl.1 (As := [.int z4]) (rest := []) rfl (Nat.le_of_ble_eq_true rfl) dX11_feed_62 ⟨Nat.le_of_ble_eq_true rfl, Nat.le_of_ble_eq_true rfl⟩) hA hD hS (fun L76 f77 H locs hp78 hP hD hS => ?_)
    obtain ⟨eL79L, eL79T, eL79F⟩ := hp78
    have eL79L : L76 = L := eL79L
    rw [eL79L] at hP hD
    obtain ⟨zz80, hzz80, eL79T⟩ := eL79T
    have hgk81 : (gset th 13 zz71) 13 = zz71 := rfl
    have hT : TI g ad (gset (gset th 13 zz71) 13 zz80) f77 := eL79T
    have hT : TI g ad (gset th 13 zz80) f77 := TI.cast hT (by funext q; by_cases hq0 : q = 13; (subst hq0; rfl); simp only [gset, if_neg hq0])
    have eL79F : ∀ b, b ≠ (ad 255) → b ≠ (ad 256) → f77 b = f68 b := eL79F
    have hfr : (∀ b, b ≠ (ad 255) → b ≠ (ad 256) → f77 b = f b) := fun b z0_ z1_ => (eL79F b z0_ z1_).trans (hfr b z0_ z1_)
    refine lv_aload_n hx hb dX11_feed_65 rfl (lv_at hl 0 rfl) ?_
    refine lv_iload hx hb dX11_feed_66 (lv_at hl 5 rfl) ?_
    refine M0e hT (fun v0_82 v2_82 v3_82 v4_82 v5_82 v6_82 v8_82 v9_82 v12_82 v13_82 v14_82 v15_82 v16_82 v17_82 v18_82 v19_82 v20_82 v21_82 v22_82 v23_82 v25_82 v36_82 v37_82 v38_82 v39_82 v40_82 v45_82 v46_82 v47_82 v48_82 v50_82 v51_82 v53_82 v55_82 hf83 hv0_82 hv2_82 hg2_82 hv3_82 hg3_82 hv4_82 hg4_82 hv5_82 hg5_82 hv6_82 hg6_82 hv8_82 hg8_82 hv9_82 hg9_82 hv12_82 hv13_82 hg13_82 hv14_82 hg14_82 hv15_82 hg15_82 hv17_82 hg17_82 hv20_82 hg20_82 hv23_82 hg23_82 hv25_82 hg25_82 hv36_82 hg36_82 hv47_82 hg47_82 hv48_82 hg48_82 hv53_82 hg53_82 hv55_82 hg55_82 hrel0_82 => ?_)
    have hg15_82 : v15_82.toInt = th 11 := hg15_82
    have hg17_82 : v17_82.toInt = th 12 := hg17_82
    have hg20_82 : v20_82.toInt = th 14 := hg20_82
    refine call_v (run_V (rm := rm_X11_brings) hx hb hml hown hts (s_X11_brings l g ad (gset th 13 zz80) _ _ _ z5 hst hT (show zz80 + nb z5 ≤ 500 by omega)) cV_X11_brings wg_1513 ⟨Nat.le_of_ble_eq_true rfl, Nat.le_of_ble_eq_true rfl⟩ hG hE hA hP hD hS (hst.1 255 (by decide)) hf83 rfl rfl hl.1 (As := [.int z5]) (rest := []) rfl (Nat.le_of_ble_eq_true rfl) dX11_feed_68 ⟨Nat.le_of_ble_eq_true rfl, Nat.le_of_ble_eq_true rfl⟩) hA hD hS (fun L85 f86 H locs hp87 hP hD hS => ?_)
    obtain ⟨eL88L, eL88T, eL88F⟩ := hp87
    have eL88L : L85 = L := eL88L
    rw [eL88L] at hP hD
    obtain ⟨zz89, hzz89, eL88T⟩ := eL88T
    have hgk90 : (gset th 13 zz80) 13 = zz80 := rfl
    have hT : TI g ad (gset (gset th 13 zz80) 13 zz89) f86 := eL88T
    have hT : TI g ad (gset th 13 zz89) f86 := TI.cast hT (by funext q; by_cases hq0 : q = 13; (subst hq0; rfl); simp only [gset, if_neg hq0])
    have eL88F : ∀ b, b ≠ (ad 255) → b ≠ (ad 256) → f86 b = f77 b := eL88F
    have hfr : (∀ b, b ≠ (ad 255) → b ≠ (ad 256) → f86 b = f b) := fun b z0_ z1_ => (eL88F b z0_ z1_).trans (hfr b z0_ z1_)
    refine lv_aload_n hx hb dX11_feed_71 rfl (lv_at hl 0 rfl) ?_
    refine M0e hT (fun v0_91 v2_91 v3_91 v4_91 v5_91 v6_91 v8_91 v9_91 v12_91 v13_91 v14_91 v15_91 v16_91 v17_91 v18_91 v19_91 v20_91 v21_91 v22_91 v23_91 v25_91 v36_91 v37_91 v38_91 v39_91 v40_91 v45_91 v46_91 v47_91 v48_91 v50_91 v51_91 v53_91 v55_91 hf92 hv0_91 hv2_91 hg2_91 hv3_91 hg3_91 hv4_91 hg4_91 hv5_91 hg5_91 hv6_91 hg6_91 hv8_91 hg8_91 hv9_91 hg9_91 hv12_91 hv13_91 hg13_91 hv14_91 hg14_91 hv15_91 hg15_91 hv17_91 hg17_91 hv20_91 hg20_91 hv23_91 hg23_91 hv25_91 hg25_91 hv36_91 hg36_91 hv47_91 hg47_91 hv48_91 hg48_91 hv53_91 hg53_91 hv55_91 hg55_91 hrel0_91 => ?_)
    have hg15_91 : v15_91.toInt = th 11 := hg15_91
    have hg17_91 : v17_91.toInt = th 12 := hg17_91
    have hg20_91 : v20_91.toInt = th 14 := hg20_91
    refine pl_get (v := .int v2_91) hx hb hts (fun w h => mT (inX11 w h)) hown hG.1 hP (hst.1 255 (by decide)) hf92 rfl 2 (by decide) (hts _ (mT wg_1338)) (fun _ h => h) rfl dX11_feed_72 ?_
    have hg2_91 : v2_91.toInt = zz89 := hg2_91
    exact ret_i (ty := .int) hx hb hr hlocks (rfl) hP hD hS (Nat.le_of_ble_eq_true rfl) (Nat.le_of_ble_eq_true rfl) (⟨rfl, ⟨(gset th 13 zz89), ⟨(show MI (gset th 13 zz89) from ⟨m1, m2, (show th 20 = (th 12) * rnd (th 10) from m3), m4, m5, m6, m7, m8, m9, m10⟩), (SBM.set (k := 13) (SBM.rf th) (by decide))⟩, hT⟩, hfr⟩) dX11_feed_75
  ·
    have oc500 : (500 : Int32).toInt = 500 := by decide
    have cc93 : (500 : Int32).toInt < x43.toInt := i32_nle c46
    have hb94 : In x43 501 520 := In.gt1 hb44 (⟨by decide, by decide⟩ : In 500 500 500) cc93 (by decide) (by decide)
    refine lv_iconst (v := (-1)) hx hb dX11_feed_42 (by decide) ?_
    exact ret_i (ty := .int) hx hb hr hlocks (rfl) hP hD hS (Nat.le_of_ble_eq_true rfl) (Nat.le_of_ble_eq_true rfl) (⟨rfl, ⟨th, ⟨(show MI th from hM), (SBM.rf th)⟩, hT⟩, hfr⟩) dX11_feed_43

abbrev rm_X11_end : Room := { frames := 0, cells := 0, slots := 0, locals := 0 }
abbrev po_X11_end (g : GG) (ad : Nat → Nat) (th : Nat → Int) (L : List Nat) (f : HP) (z1 : Int32) : Int32 → (List Nat × HP) → Prop := fun r u => u.1 = L ∧ (∃ th' : Nat → Int, (MI th' ∧ SBM th th') ∧ TI g ad th' u.2) ∧ (∀ b, b ≠ (ad 255) → u.2 b = f b) ∧ In r 0 1
set_option maxHeartbeats 4000000 in
set_option maxRecDepth 100000 in
theorem s_X11_end (l : Launch) (g : GG) (ad : Nat → Nat) (th : Nat → Int) (L : List Nat) (f : HP) (sz : Nat) (z1 : Int32) (hst : ST ad L) (hT : TI g ad th f) (hM : MI th) : MtI l g yX11_end cX11_end 2 (some .boolean) rm_X11_end [.ref (ad 255), .int z1] L f sz (po_X11_end g ad th L f z1) := by
  refine MtI.of (by decide +kernel) (Nat.le_of_ble_eq_true rfl) ?_
  intro p e s m below meth c A hEn hP hD hS ls hl
  obtain ⟨hx, hb, hr, hml, hown, hlocks, hts, hG, hA, hE, hnm⟩ := hEn
  have hown : s.vm.findClass "RulerWordModel" = some m.cls := hown
  have hl : lv_has ls 2 [(0, .ref (ad 255)), (1, .int z1)] := hl
  have hfr : (∀ b, b ≠ (ad 255) → f b = f b) := fun b z0_ => rfl
  have hM0 := hM
  obtain ⟨m1, m2, m3, m4, m5, m6, m7, m8, m9, m10⟩ := hM0
  have m20 := mi20 m2 m3
  refine lv_aload_n hx hb dX11_end_0 rfl (lv_at hl 0 rfl) ?_
  refine lv_iconst (v := 0) hx hb dX11_end_1 (by decide) ?_
  refine M0e hT (fun v0_1 v2_1 v3_1 v4_1 v5_1 v6_1 v8_1 v9_1 v12_1 v13_1 v14_1 v15_1 v16_1 v17_1 v18_1 v19_1 v20_1 v21_1 v22_1 v23_1 v25_1 v36_1 v37_1 v38_1 v39_1 v40_1 v45_1 v46_1 v47_1 v48_1 v50_1 v51_1 v53_1 v55_1 hf2 hv0_1 hv2_1 hg2_1 hv3_1 hg3_1 hv4_1 hg4_1 hv5_1 hg5_1 hv6_1 hg6_1 hv8_1 hg8_1 hv9_1 hg9_1 hv12_1 hv13_1 hg13_1 hv14_1 hg14_1 hv15_1 hg15_1 hv17_1 hg17_1 hv20_1 hg20_1 hv23_1 hg23_1 hv25_1 hg25_1 hv36_1 hg36_1 hv47_1 hg47_1 hv48_1 hg48_1 hv53_1 hg53_1 hv55_1 hg55_1 hrel0_1 => ?_)
  have hg15_1 : v15_1.toInt = th 11 := hg15_1
  have hg17_1 : v17_1.toInt = th 12 := hg17_1
  have hg20_1 : v20_1.toInt = th 14 := hg20_1
  refine pl_put (ty := .int) (v := .int 0) (fs' := [.int 0, .ref (ad 256), .int v2_1, .int v3_1, .int v4_1, .int v5_1, .int v6_1, .ref (ad 257), .int v8_1, .int v9_1, .ref (ad 258), .ref (ad 259), .int v12_1, .int v13_1, .int v14_1, .int v15_1, .int v16_1, .int v17_1, .int v18_1, .int v19_1, .int v20_1, .long v21_1, .long v22_1, .int v23_1, .ref (ad 260), .int v25_1, .ref (ad 261), .ref (ad 262), .ref (ad 263), .ref (ad 264), .ref (ad 265), .ref (ad 266), .ref (ad 267), .ref (ad 268), .ref (ad 269), .ref (ad 270), .int v36_1, .int v37_1, .int v38_1, .int v39_1, .int v40_1, .ref (ad 271), .ref (ad 272), .ref (ad 273), .ref (ad 274), .long v45_1, .long v46_1, .int v47_1, .int v48_1, .ref (ad 275), .int v50_1, .int v51_1, .ref (ad 276), .int v53_1, .ref (ad 277), .int v55_1]) hx hb hts (fun w h => mT (inX11 w h)) tyX11 tyX11_ok nmX11 hown hG.1 hP hD hS (hst.1 255 (by decide)) hf2 rfl 0 (by decide) (hts _ (mT wg_1336)) (fun _ h => h) rfl (by decide +kernel) (rfl) (rfl) (Nat.le_of_ble_eq_true rfl) rfl dX11_end_2 (fun H locs f3 hf4 ho5 hP hD hS => ?_)
  have hfr : (∀ b, b ≠ (ad 255) → f3 b = f b) := fun b z0_ => (ho5 b z0_).trans (hfr b z0_)
  refine lv_iload_n hx hb dX11_end_5 rfl (lv_at hl 1 rfl) ?_
  have hT := TI.updM hT hst (k := 0) (by decide) hf4 ho5 ⟨0, v2_1, v3_1, v4_1, v5_1, v6_1, v8_1, v9_1, v12_1, v13_1, v14_1, v15_1, v16_1, v17_1, v18_1, v19_1, v20_1, v21_1, v22_1, v23_1, v25_1, v36_1, v37_1, v38_1, v39_1, v40_1, v45_1, v46_1, v47_1, v48_1, v50_1, v51_1, v53_1, v55_1, rfl, (⟨by decide, by decide⟩ : In 0 0 1), hv2_1, hg2_1, hv3_1, hg3_1, hv4_1, hg4_1, hv5_1, hg5_1, hv6_1, hg6_1, hv8_1, hg8_1, hv9_1, hg9_1, hv12_1, hv13_1, hg13_1, hv14_1, hg14_1, hv15_1, hg15_1, hv17_1, hg17_1, hv20_1, hg20_1, hv23_1, hg23_1, hv25_1, hg25_1, hv36_1, hg36_1, hv47_1, hg47_1, hv48_1, hg48_1, hv53_1, hg53_1, hv55_1, hg55_1, hrel0_1⟩
  refine lv_if_lt (tgt := 17) hx hb dX11_end_6 (by decide) (fun c6 => ?_) (fun c6 => ?_)
  ·
    have oc0 : (0 : Int32).toInt = 0 := by decide
    have cc7 : z1.toInt < (0 : Int32).toInt := i32_lt.mp c6
    have hb8 : In z1 (-2147483648) (-1) := In.lt1 (In.full z1) (⟨by decide, by decide⟩ : In 0 0 0) cc7 (by decide) (by decide)
    refine lv_iconst (v := 0) hx hb dX11_end_17 (by decide) ?_
    exact ret_i (ty := .boolean) hx hb hr hlocks (rfl) hP hD hS (Nat.le_of_ble_eq_true rfl) (Nat.le_of_ble_eq_true rfl) (⟨rfl, ⟨th, ⟨(show MI th from hM), (SBM.rf th)⟩, hT⟩, hfr, (⟨by decide, by decide⟩ : In 0 0 1)⟩) dX11_end_18
  ·
    have oc0 : (0 : Int32).toInt = 0 := by decide
    have cc9 : (0 : Int32).toInt ≤ z1.toInt := i32_nlt c6
    have hb10 : In z1 0 2147483647 := In.ge1 (In.full z1) (⟨by decide, by decide⟩ : In 0 0 0) cc9 (by decide) (by decide)
    refine lv_iload_n hx hb dX11_end_9 rfl (lv_at hl 1 rfl) ?_
    refine lv_aload_n hx hb dX11_end_10 rfl (lv_at hl 0 rfl) ?_
    refine pl_get (v := .int v2_1) hx hb hts (fun w h => mT (inX11 w h)) hown hG.1 hP (hst.1 255 (by decide)) hf4 rfl 2 (by decide) (hts _ (mT wg_1338)) (fun _ h => h) rfl dX11_end_11 ?_
    have hg2_1 : v2_1.toInt = th 13 := hg2_1
    refine lv_icmp_le (tgt := 19) hx hb dX11_end_14 (by decide) (fun c11 => ?_) (fun c11 => ?_)
    ·
      have cc12 : z1.toInt ≤ v2_1.toInt := i32_le.mp c11
      have hb13 : In z1 0 500 := In.le1 hb10 hv2_1 cc12 (by decide) (by decide)
      refine lv_aload_n hx hb dX11_end_19 rfl (lv_at hl 0 rfl) ?_
      refine lv_iload_n hx hb dX11_end_20 rfl (lv_at hl 1 rfl) ?_
      refine pl_put (ty := .int) (v := .int z1) (fs' := [.int 0, .ref (ad 256), .int z1, .int v3_1, .int v4_1, .int v5_1, .int v6_1, .ref (ad 257), .int v8_1, .int v9_1, .ref (ad 258), .ref (ad 259), .int v12_1, .int v13_1, .int v14_1, .int v15_1, .int v16_1, .int v17_1, .int v18_1, .int v19_1, .int v20_1, .long v21_1, .long v22_1, .int v23_1, .ref (ad 260), .int v25_1, .ref (ad 261), .ref (ad 262), .ref (ad 263), .ref (ad 264), .ref (ad 265), .ref (ad 266), .ref (ad 267), .ref (ad 268), .ref (ad 269), .ref (ad 270), .int v36_1, .int v37_1, .int v38_1, .int v39_1, .int v40_1, .ref (ad 271), .ref (ad 272), .ref (ad 273), .ref (ad 274), .long v45_1, .long v46_1, .int v47_1, .int v48_1, .ref (ad 275), .int v50_1, .int v51_1, .ref (ad 276), .int v53_1, .ref (ad 277), .int v55_1]) hx hb hts (fun w h => mT (inX11 w h)) tyX11 tyX11_ok nmX11 hown hG.1 hP hD hS (hst.1 255 (by decide)) hf4 rfl 2 (by decide) (hts _ (mT wg_1338)) (fun _ h => h) rfl (by decide +kernel) (rfl) (rfl) (Nat.le_of_ble_eq_true rfl) rfl dX11_end_21 (fun H locs f14 hf15 ho16 hP hD hS => ?_)
      have hfr : (∀ b, b ≠ (ad 255) → f14 b = f b) := fun b z0_ => (ho16 b z0_).trans (hfr b z0_)
      refine lv_iconst (v := 1) hx hb dX11_end_24 (by decide) ?_
      have hT := TI.updMG (th' := (gset th 13 (z1.toInt))) hT hst (k := 0) (by decide) hf15 ho16 ⟨0, z1, v3_1, v4_1, v5_1, v6_1, v8_1, v9_1, v12_1, v13_1, v14_1, v15_1, v16_1, v17_1, v18_1, v19_1, v20_1, v21_1, v22_1, v23_1, v25_1, v36_1, v37_1, v38_1, v39_1, v40_1, v45_1, v46_1, v47_1, v48_1, v50_1, v51_1, v53_1, v55_1, rfl, (⟨by decide, by decide⟩ : In 0 0 1), hb13, rfl, hv3_1, hg3_1, hv4_1, hg4_1, hv5_1, hg5_1, hv6_1, hg6_1, hv8_1, hg8_1, hv9_1, hg9_1, hv12_1, hv13_1, hg13_1, hv14_1, hg14_1, hv15_1, hg15_1, hv17_1, hg17_1, hv20_1, hg20_1, hv23_1, hg23_1, hv25_1, hg25_1, hv36_1, hg36_1, hv47_1, hg47_1, hv48_1, hg48_1, hv53_1, hg53_1, hv55_1, hg55_1, hrel0_1⟩ (fun q hq => ((gset_ne (fun e => hq (by subst e; decide))).trans rfl))
      have hT : TI g ad (gset th 13 z1.toInt) f14 := TI.cast hT (by funext q; by_cases hq0 : q = 13; (subst hq0; rfl); simp only [gset, if_neg hq0])
      exact ret_i (ty := .boolean) hx hb hr hlocks (rfl) hP hD hS (Nat.le_of_ble_eq_true rfl) (Nat.le_of_ble_eq_true rfl) (⟨rfl, ⟨(gset th 13 z1.toInt), ⟨(show MI (gset th 13 z1.toInt) from ⟨m1, m2, (show th 20 = (th 12) * rnd (th 10) from m3), m4, m5, m6, m7, m8, m9, m10⟩), (SBM.set (k := 13) (SBM.rf th) (by decide))⟩, hT⟩, hfr, (⟨by decide, by decide⟩ : In 1 0 1)⟩) dX11_end_25
    ·
      have cc17 : v2_1.toInt < z1.toInt := i32_nle c11
      have hb18 : In z1 1 2147483647 := In.gt1 hb10 hv2_1 cc17 (by decide) (by decide)
      refine lv_iconst (v := 0) hx hb dX11_end_17 (by decide) ?_
      exact ret_i (ty := .boolean) hx hb hr hlocks (rfl) hP hD hS (Nat.le_of_ble_eq_true rfl) (Nat.le_of_ble_eq_true rfl) (⟨rfl, ⟨th, ⟨(show MI th from hM), (SBM.rf th)⟩, hT⟩, hfr, (⟨by decide, by decide⟩ : In 0 0 1)⟩) dX11_end_18
