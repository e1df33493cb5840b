abbrev rm_X11_digitAt : Room := { frames := 0, cells := 0, slots := 0, locals := 0 }
abbrev po_X11_digitAt (g : GG) (ad : Nat → Nat) (th : Nat → Int) (L : List Nat) (f : HP) (z1 : Int32) : Int32 → (List Nat × HP) → Prop := fun r u => u.1 = L ∧ u.2 = f ∧ In r (-176) 79 ∧ (∀ r0 : Nat → Int32, f (ad 256) = .inl (g.2.1 2, 500, .inl r0) → r.toInt = (r0 (th 40 + z1.toInt).toNat).toInt - 48)
set_option maxHeartbeats 4000000 in
set_option maxRecDepth 100000 in
theorem s_X11_digitAt (l : Launch) (g : GG) (ad : Nat → Nat) (th : Nat → Int) (L : List Nat) (f : HP) (sz : Nat) (z1 : Int32) (hst : ST ad L) (hT : TI g ad th f) (hz1 : In z1 0 499) (hw1 : th 40 + z1.toInt < 500) : MtI l g yX11_digitAt cX11_digitAt 2 (some .int) rm_X11_digitAt [.ref (ad 255), .int z1] L f sz (po_X11_digitAt g ad th L f z1) := by
  refine MtI.of (by decide +kernel) (Nat.le_of_ble_eq_true rfl) ?_
  intro p e s m below meth c A hEn hP hD hS ls hl
  obtain ⟨hx, hb, hr, hml, hown, hlocks, hts, hG, hA, hE, hnm⟩ := hEn
  have hown : s.vm.findClass "RulerWordModel" = some m.cls := hown
  have hl : lv_has ls 2 [(0, .ref (ad 255)), (1, .int z1)] := hl
  refine lv_aload_n hx hb dX11_digitAt_0 rfl (lv_at hl 0 rfl) ?_
  refine M0e hT (fun v0_1 v2_1 v3_1 v4_1 v5_1 v6_1 v8_1 v9_1 v12_1 v13_1 v14_1 v15_1 v16_1 v17_1 v18_1 v19_1 v20_1 v21_1 v22_1 v23_1 v25_1 v36_1 v37_1 v38_1 v39_1 v40_1 v45_1 v46_1 v47_1 v48_1 v50_1 v51_1 v53_1 v55_1 hf2 hv0_1 hv2_1 hg2_1 hv3_1 hg3_1 hv4_1 hg4_1 hv5_1 hg5_1 hv6_1 hg6_1 hv8_1 hg8_1 hv9_1 hg9_1 hv12_1 hv13_1 hg13_1 hv14_1 hg14_1 hv15_1 hg15_1 hv17_1 hg17_1 hv20_1 hg20_1 hv23_1 hg23_1 hv25_1 hg25_1 hv36_1 hg36_1 hv47_1 hg47_1 hv48_1 hg48_1 hv53_1 hg53_1 hv55_1 hg55_1 hrel0_1 => ?_)
  have hg15_1 : v15_1.toInt = th 11 := hg15_1
  have hg17_1 : v17_1.toInt = th 12 := hg17_1
  have hg20_1 : v20_1.toInt = th 14 := hg20_1
  refine pl_get (v := .ref (ad 256)) hx hb hts (fun w h => mT (inX11 w h)) hown hG.1 hP (hst.1 255 (by decide)) hf2 rfl 1 (by decide) (hts _ (mT wg_1337)) (fun _ h => h) rfl dX11_digitAt_1 ?_
  refine lv_aload_n hx hb dX11_digitAt_4 rfl (lv_at hl 0 rfl) ?_
  refine pl_get (v := .int v5_1) hx hb hts (fun w h => mT (inX11 w h)) hown hG.1 hP (hst.1 255 (by decide)) hf2 rfl 5 (by decide) (hts _ (mT wg_1341)) (fun _ h => h) rfl dX11_digitAt_5 ?_
  have hg5_1 : v5_1.toInt = th 40 := hg5_1
  refine lv_iload_n hx hb dX11_digitAt_8 rfl (lv_at hl 1 rfl) ?_
  refine lv_iadd hx hb dX11_digitAt_9 ?_
  refine lv_topi (fun x3 ex3 => ?_)
  have hb4 : In x3 0 999 := ex3 ▸ In.add hv5_1 hz1 (by decide) (by decide) (by decide) (by decide)
  have et5 : x3.toInt = v5_1.toInt + z1.toInt := In.add2e ex3 hv5_1 hz1 (by decide) (by decide)
  obtain ⟨rw6, hf7, hc8⟩ := hT.2.2 1 (by decide)
  have hin9 : vp_in x3 500 := vp_of (by have ob13 : (0 : Int) ≤ (th 13) ∧ (th 13) ≤ 500 := (b0_13 hT :); have ob35 : (0 : Int) ≤ (th 35) ∧ (th 35) ≤ 63 := (b0_35 hT :); have ob36 : (0 : Int) ≤ (th 36) ∧ (th 36) ≤ 20 := (b0_36 hT :); have ob37 : (0 : Int) ≤ (th 37) ∧ (th 37) ≤ 500 := (b0_37 hT :); have ob40 : (0 : Int) ≤ (th 40) ∧ (th 40) ≤ 500 := (b0_40 hT :); have ob41 : (0 : Int) ≤ (th 41) ∧ (th 41) ≤ 500 := (b0_41 hT :); have ob42 : ((-1) : Int) ≤ (th 42) ∧ (th 42) ≤ 500 := (b0_42 hT :); have ob43 : ((-1) : Int) ≤ (th 43) ∧ (th 43) ≤ 1 := (b0_43 hT :); obtain ⟨o0a, o0b⟩ := (hb4 : In _ _ _); obtain ⟨o1a, o1b⟩ := (hv2_1 : In _ _ _); obtain ⟨o2a, o2b⟩ := (hv3_1 : In _ _ _); obtain ⟨o3a, o3b⟩ := (hv4_1 : In _ _ _); obtain ⟨o4a, o4b⟩ := (hv5_1 : In _ _ _); obtain ⟨o5a, o5b⟩ := (hv6_1 : In _ _ _); obtain ⟨o6a, o6b⟩ := (hv8_1 : In _ _ _); obtain ⟨o7a, o7b⟩ := (hv9_1 : In _ _ _); obtain ⟨o8a, o8b⟩ := (hv13_1 : In _ _ _); obtain ⟨o9a, o9b⟩ := (hz1 : In _ _ _); omega) (by have ob13 : (0 : Int) ≤ (th 13) ∧ (th 13) ≤ 500 := (b0_13 hT :); have ob35 : (0 : Int) ≤ (th 35) ∧ (th 35) ≤ 63 := (b0_35 hT :); have ob36 : (0 : Int) ≤ (th 36) ∧ (th 36) ≤ 20 := (b0_36 hT :); have ob37 : (0 : Int) ≤ (th 37) ∧ (th 37) ≤ 500 := (b0_37 hT :); have ob40 : (0 : Int) ≤ (th 40) ∧ (th 40) ≤ 500 := (b0_40 hT :); have ob41 : (0 : Int) ≤ (th 41) ∧ (th 41) ≤ 500 := (b0_41 hT :); have ob42 : ((-1) : Int) ≤ (th 42) ∧ (th 42) ≤ 500 := (b0_42 hT :); have ob43 : ((-1) : Int) ≤ (th 43) ∧ (th 43) ≤ 1 := (b0_43 hT :); obtain ⟨o0a, o0b⟩ := (hb4 : In _ _ _); obtain ⟨o1a, o1b⟩ := (hv2_1 : In _ _ _); obtain ⟨o2a, o2b⟩ := (hv3_1 : In _ _ _); obtain ⟨o3a, o3b⟩ := (hv4_1 : In _ _ _); obtain ⟨o4a, o4b⟩ := (hv5_1 : In _ _ _); obtain ⟨o5a, o5b⟩ := (hv6_1 : In _ _ _); obtain ⟨o6a, o6b⟩ := (hv8_1 : In _ _ _); obtain ⟨o7a, o7b⟩ := (hv9_1 : In _ _ _); obtain ⟨o8a, o8b⟩ := (hv13_1 : In _ _ _); obtain ⟨o9a, o9b⟩ := (hz1 : In _ _ _); omega)
  refine pl_bald hx hb hG.1 hP (hst.1 256 (by decide)) 2 hf7 rfl hin9 dX11_digitAt_10 ?_
  refine lv_topi (fun x10 ex10 => ?_)
  have hb11 : In x10 (-128) 127 := by rw [ex10]; exact hc8 _ (vp_nat hin9)
  refine lv_bipush (v := 48) hx hb dX11_digitAt_11 (by decide) ?_
  refine lv_isub hx hb dX11_digitAt_13 ?_
  refine lv_topi (fun x12 ex12 => ?_)
  have hb13 : In x12 (-176) 79 := ex12 ▸ In.sub hb11 (⟨by decide, by decide⟩ : In 48 48 48) (by decide) (by decide) (by decide) (by decide)
  have et14 : x12.toInt = x10.toInt + (-48) := In.sube ex12 hb11 (k := 48) (by decide) (by decide) (by decide)
  exact ret_i (ty := .int) hx hb hr hlocks (rfl) hP hD hS (Nat.le_of_ble_eq_true rfl) (Nat.le_of_ble_eq_true rfl) (⟨rfl, rfl, hb13, (fun r0 q0 => by have q1 := hf7.symm.trans q0; injection q1 with q1; injection q1 with _ q1; injection q1 with _ q1; injection q1 with q1; rw [← q1, et14, ex10]; show (rw6 x3.toInt.toNat).toInt + -48 = _; rw [et5, hg5_1]; rfl)⟩) dX11_digitAt_14

abbrev rm_X11_digit_3_9 : Room := { frames := 3, cells := 0, slots := 0, locals := 61 }
abbrev po_X11_digit_3_9 (g : GG) (ad : Nat → Nat) (th : Nat → Int) (L : List Nat) (f : HP)  : Int32 → (List Nat × HP) → Prop := fun r u => u.1 = L ∧ (∃ za zr zl ze : Int, ((th 37 ≤ zr ∧ 0 ≤ zr ∧ 0 ≤ zl ∧ zr + zl = za ∧ za ≤ 500)) ∧ TI g ad (gset (gset (gset (gset th 37 za) 40 zr) 41 zl) 42 ze) u.2) ∧ (∀ b, b ≠ (ad 255) → u.2 b = f b) ∧ In r 3 9
set_option maxHeartbeats 4000000 in
set_option maxRecDepth 100000 in
theorem s_X11_digit_3_9 (l : Launch) (g : GG) (ad : Nat → Nat) (th : Nat → Int) (L : List Nat) (f : HP) (sz : Nat)  (hst : ST ad L) (hT : TI g ad th f)  : MtI l g yX11_digit cX11_digit 3 (some .int) rm_X11_digit_3_9 [.ref (ad 255), .int 3, .int 9] L f sz (po_X11_digit_3_9 g ad th L f ) := by
  refine MtI.of (by decide +kernel) (Nat.le_of_ble_eq_true rfl) ?_
  intro p e s m below meth c A hEn hP hD hS ls hl
  obtain ⟨hx, hb, hr, hml, hown, hlocks, hts, hG, hA, hE, hnm⟩ := hEn
  have hown : s.vm.findClass "RulerWordModel" = some m.cls := hown
  have hl : lv_has ls 3 [(0, .ref (ad 255)), (1, .int 3), (2, .int 9)] := hl
  have hfr : (∀ b, b ≠ (ad 255) → f b = f b) := fun b z0_ => rfl
  refine lv_aload_n hx hb dX11_digit_0 rfl (lv_at hl 0 rfl) ?_
  refine M0e hT (fun v0_1 v2_1 v3_1 v4_1 v5_1 v6_1 v8_1 v9_1 v12_1 v13_1 v14_1 v15_1 v16_1 v17_1 v18_1 v19_1 v20_1 v21_1 v22_1 v23_1 v25_1 v36_1 v37_1 v38_1 v39_1 v40_1 v45_1 v46_1 v47_1 v48_1 v50_1 v51_1 v53_1 v55_1 hf2 hv0_1 hv2_1 hg2_1 hv3_1 hg3_1 hv4_1 hg4_1 hv5_1 hg5_1 hv6_1 hg6_1 hv8_1 hg8_1 hv9_1 hg9_1 hv12_1 hv13_1 hg13_1 hv14_1 hg14_1 hv15_1 hg15_1 hv17_1 hg17_1 hv20_1 hg20_1 hv23_1 hg23_1 hv25_1 hg25_1 hv36_1 hg36_1 hv47_1 hg47_1 hv48_1 hg48_1 hv53_1 hg53_1 hv55_1 hg55_1 hrel0_1 => ?_)
  have hg15_1 : v15_1.toInt = th 11 := hg15_1
  have hg17_1 : v17_1.toInt = th 12 := hg17_1
  have hg20_1 : v20_1.toInt = th 14 := hg20_1
  refine call_v (run_V (rm := rm_X11_digits) hx hb hml hown hts (s_X11_digits l g ad th _ _ _  hst hT ) cV_X11_digits wg_1570 ⟨Nat.le_of_ble_eq_true rfl, Nat.le_of_ble_eq_true rfl⟩ hG hE hA hP hD hS (hst.1 255 (by decide)) hf2 rfl rfl hl.1 (As := []) (rest := []) rfl (Nat.le_of_ble_eq_true rfl) dX11_digit_1 ⟨Nat.le_of_ble_eq_true rfl, Nat.le_of_ble_eq_true rfl⟩) hA hD hS (fun L4 f5 H locs hp6 hP hD hS => ?_)
  obtain ⟨eL7L, eL7T, eL7F⟩ := hp6
  have eL7L : L4 = L := eL7L
  rw [eL7L] at hP hD
  obtain ⟨zz8, zz9, zz10, hzz8, eL7T⟩ := eL7T
  have hT : TI g ad (gset (gset (gset th 37 zz8) 40 zz9) 41 zz10) f5 := eL7T
  have eL7F : ∀ b, b ≠ (ad 255) → f5 b = f b := eL7F
  have hfr : (∀ b, b ≠ (ad 255) → f5 b = f b) := fun b z0_ => (eL7F b z0_).trans (hfr b z0_)
  refine lv_aload_n hx hb dX11_digit_4 rfl (lv_at hl 0 rfl) ?_
  refine M0e hT (fun v0_11 v2_11 v3_11 v4_11 v5_11 v6_11 v8_11 v9_11 v12_11 v13_11 v14_11 v15_11 v16_11 v17_11 v18_11 v19_11 v20_11 v21_11 v22_11 v23_11 v25_11 v36_11 v37_11 v38_11 v39_11 v40_11 v45_11 v46_11 v47_11 v48_11 v50_11 v51_11 v53_11 v55_11 hf12 hv0_11 hv2_11 hg2_11 hv3_11 hg3_11 hv4_11 hg4_11 hv5_11 hg5_11 hv6_11 hg6_11 hv8_11 hg8_11 hv9_11 hg9_11 hv12_11 hv13_11 hg13_11 hv14_11 hg14_11 hv15_11 hg15_11 hv17_11 hg17_11 hv20_11 hg20_11 hv23_11 hg23_11 hv25_11 hg25_11 hv36_11 hg36_11 hv47_11 hg47_11 hv48_11 hg48_11 hv53_11 hg53_11 hv55_11 hg55_11 hrel0_11 => ?_)
  have hg15_11 : v15_11.toInt = th 11 := hg15_11
  have hg17_11 : v17_11.toInt = th 12 := hg17_11
  have hg20_11 : v20_11.toInt = th 14 := hg20_11
  refine pl_get (v := .int v6_11) hx hb hts (fun w h => mT (inX11 w h)) hown hG.1 hP (hst.1 255 (by decide)) hf12 rfl 6 (by decide) (hts _ (mT wg_1342)) (fun _ h => h) rfl dX11_digit_5 ?_
  have hg6_11 : v6_11.toInt = zz10 := hg6_11
  refine lv_iconst (v := 1) hx hb dX11_digit_8 (by decide) ?_
  have hJ28 : ∀ (H : Heap) (locs : List Loc) (ls : Array Slot), va_P g.1 vwCl (va_pl L f5) H → va_D A (va_pl L f5) → va_S A s.heap H locs → lv_has ls 3 [(0, .ref (ad 255)), (1, .int 3), (2, .int 9)] → W p l e rm_X11_digit_3_9 s m [.ref (ad 255), .int 3, .int 9].toArray below meth c H locs 0 0 (MQ below (va_Qi (po_X11_digit_3_9 g ad th L f ) (PstB g A) A) [.ref (ad 255), .int 3, .int 9].toArray s rm_X11_digit_3_9.cells rm_X11_digit_3_9.slots A) (F0 m 28 ls []) := by
    intro H locs ls hP hD hS hl
    refine lv_aload_n hx hb dX11_digit_28 rfl (lv_at hl 0 rfl) ?_
    refine lv_aload_n hx hb dX11_digit_29 rfl (lv_at hl 0 rfl) ?_
    refine pl_get (v := .int v5_11) hx hb hts (fun w h => mT (inX11 w h)) hown hG.1 hP (hst.1 255 (by decide)) hf12 rfl 5 (by decide) (hts _ (mT wg_1341)) (fun _ h => h) rfl dX11_digit_30 ?_
    have hg5_11 : v5_11.toInt = zz9 := hg5_11
    refine call_v (run_V (rm := rm_X11_fails) hx hb hml hown hts (s_X11_fails l g ad (gset (gset (gset th 37 zz8) 40 zz9) 41 zz10) _ _ _ v5_11 hst hT hv5_11) cV_X11_fails wg_1545 ⟨Nat.le_of_ble_eq_true rfl, Nat.le_of_ble_eq_true rfl⟩ hG hE hA hP hD hS (hst.1 255 (by decide)) hf12 rfl rfl hl.1 (As := [.int v5_11]) (rest := []) rfl (Nat.le_of_ble_eq_true rfl) dX11_digit_33 ⟨Nat.le_of_ble_eq_true rfl, Nat.le_of_ble_eq_true rfl⟩) hA hD hS (fun L14 f15 H locs hp16 hP hD hS => ?_)
    obtain ⟨eL17L, eL17T, eL17F⟩ := hp16
    have eL17L : L14 = L := eL17L
    rw [eL17L] at hP hD
    obtain ⟨zz18, hzz18, eL17T⟩ := eL17T
    have hzz18 : 0 ≤ zz18 := hzz18
    have hT : TI g ad (gset (gset (gset (gset th 37 zz8) 40 zz9) 41 zz10) 42 zz18) f15 := eL17T
    have eL17F : ∀ b, b ≠ (ad 255) → f15 b = f5 b := eL17F
    have hfr : (∀ b, b ≠ (ad 255) → f15 b = f b) := fun b z0_ => (eL17F b z0_).trans (hfr b z0_)
    refine lv_iload_n hx hb dX11_digit_36 rfl (lv_at hl 1 rfl) ?_
    exact ret_i (ty := .int) hx hb hr hlocks (rfl) hP hD hS (Nat.le_of_ble_eq_true rfl) (Nat.le_of_ble_eq_true rfl) (⟨rfl, ⟨zz8, zz9, zz10, zz18, (show (th 37 ≤ zz9 ∧ 0 ≤ zz9 ∧ 0 ≤ zz10 ∧ zz9 + zz10 = zz8 ∧ zz8 ≤ 500) from (by have ob13 : (0 : Int) ≤ (th 13) ∧ (th 13) ≤ 500 := (b0_13 hT :); have ob35 : (0 : Int) ≤ (th 35) ∧ (th 35) ≤ 63 := (b0_35 hT :); have ob36 : (0 : Int) ≤ (th 36) ∧ (th 36) ≤ 20 := (b0_36 hT :); have ob37 : (0 : Int) ≤ zz8 ∧ zz8 ≤ 500 := (b0_37 hT :); have ob40 : (0 : Int) ≤ zz9 ∧ zz9 ≤ 500 := (b0_40 hT :); have ob41 : (0 : Int) ≤ zz10 ∧ zz10 ≤ 500 := (b0_41 hT :); have ob42 : ((-1) : Int) ≤ zz18 ∧ zz18 ≤ 500 := (b0_42 hT :); have ob43 : ((-1) : Int) ≤ (th 43) ∧ (th 43) ≤ 1 := (b0_43 hT :); have oc3 : (3 : Int32).toInt = 3 := (by decide); omega)), TI.cast hT (by funext q; by_cases hq0 : q = 42; (subst hq0; rfl); by_cases hq1 : q = 41; (subst hq1; rfl); by_cases hq2 : q = 40; (subst hq2; rfl); by_cases hq3 : q = 37; (subst hq3; rfl); simp only [gset, if_neg hq0, if_neg hq1, if_neg hq2, if_neg hq3])⟩, hfr, (⟨by decide, by decide⟩ : In 3 3 9)⟩) dX11_digit_37
  refine lv_icmp_ne (tgt := 28) hx hb dX11_digit_9 (by decide) (fun c19 => ?_) (fun c19 => ?_)
  ·
    have oc1 : (1 : Int32).toInt = 1 := by decide
    have cc20 : v6_11.toInt ≠ (1 : Int32).toInt := i32_ne c19
    exact hJ28 _ _ _ hP hD hS (lv_sub hl [0, 1, 2] rfl)
  ·
    have oc1 : (1 : Int32).toInt = 1 := by decide
    have cc21 : v6_11.toInt = (1 : Int32).toInt := congrArg Int32.toInt c19
    have hb22 : In v6_11 1 1 := In.eq1 hv6_11 (⟨by decide, by decide⟩ : In 1 1 1) cc21 (by decide) (by decide)
    refine lv_aload_n hx hb dX11_digit_12 rfl (lv_at hl 0 rfl) ?_
    refine lv_iconst (v := 0) hx hb dX11_digit_13 (by decide) ?_
    refine call_i (run_V (rm := rm_X11_digitAt) hx hb hml hown hts (s_X11_digitAt l g ad (gset (gset (gset th 37 zz8) 40 zz9) 41 zz10) _ _ _ 0 hst hT (⟨by decide, by decide⟩ : In 0 0 499) (show zz9 + (0 : Int32).toInt < 500 from (by have ob13 : (0 : Int) ≤ (th 13) ∧ (th 13) ≤ 500 := (b0_13 hT :); have ob35 : (0 : Int) ≤ (th 35) ∧ (th 35) ≤ 63 := (b0_35 hT :); have ob36 : (0 : Int) ≤ (th 36) ∧ (th 36) ≤ 20 := (b0_36 hT :); have ob37 : (0 : Int) ≤ zz8 ∧ zz8 ≤ 500 := (b0_37 hT :); have ob40 : (0 : Int) ≤ zz9 ∧ zz9 ≤ 500 := (b0_40 hT :); have ob41 : (0 : Int) ≤ zz10 ∧ zz10 ≤ 500 := (b0_41 hT :); have ob42 : ((-1) : Int) ≤ (th 42) ∧ (th 42) ≤ 500 := (b0_42 hT :); have ob43 : ((-1) : Int) ≤ (th 43) ∧ (th 43) ≤ 1 := (b0_43 hT :); have oc0 : (0 : Int32).toInt = 0 := (by decide); obtain ⟨o0a, o0b⟩ := (hv2_11 : In _ _ _); obtain ⟨o1a, o1b⟩ := (hv3_11 : In _ _ _); obtain ⟨o2a, o2b⟩ := (hv4_11 : In _ _ _); obtain ⟨o3a, o3b⟩ := (hv5_11 : In _ _ _); obtain ⟨o4a, o4b⟩ := (hb22 : In _ _ _); obtain ⟨o5a, o5b⟩ := (hv8_11 : In _ _ _); obtain ⟨o6a, o6b⟩ := (hv9_11 : In _ _ _); obtain ⟨o7a, o7b⟩ := (hv13_11 : In _ _ _); omega))) cV_X11_digitAt wg_1577 ⟨Nat.le_of_ble_eq_true rfl, Nat.le_of_ble_eq_true rfl⟩ hG hE hA hP hD hS (hst.1 255 (by decide)) hf12 rfl rfl hl.1 (As := [.int 0]) (rest := []) rfl (Nat.le_of_ble_eq_true rfl) dX11_digit_14 ⟨Nat.le_of_ble_eq_true rfl, Nat.le_of_ble_eq_true rfl⟩) hA hD hS (fun r23 L24 f25 H locs hp26 hP hD hS => ?_)
    obtain ⟨eL27L, eL27T, eL27R, eL27X0⟩ := hp26
    have eL27L : L24 = L := eL27L
    have eL27T : f25 = f5 := eL27T
    rw [eL27L, eL27T] at hP hD
    have eL27R : In r23 (-176) 79 := eL27R
    obtain ⟨rw28, hf29, hc30⟩ := hT.2.2 1 (by decide)
    have hda31 : r23.toInt = (rw28 (zz9 + 0).toNat).toInt - 48 := (eL27X0 _ hf29)
    refine lv_i2l hx hb dX11_digit_17 rfl ?_
    refine lv_iload_n hx hb dX11_digit_18 rfl (lv_at hl 1 rfl) ?_
    refine lv_i2l (v := 3) hx hb dX11_digit_19 (by decide) ?_
    refine lv_iload_n hx hb dX11_digit_20 rfl (lv_at hl 2 rfl) ?_
    refine lv_i2l (v := 9) hx hb dX11_digit_21 (by decide) ?_
    refine call_i (run_S (rm := rm_X11_isIn) hx hb hml hown hts (s_X11_isIn l g ad (gset (gset (gset th 37 zz8) 40 zz9) 41 zz10) _ _ _ (r23.toInt64) 3 9 hst hT ) cS_X11_isIn wg_1581 ⟨Nat.le_of_ble_eq_true rfl, Nat.le_of_ble_eq_true rfl⟩ hG hE hA hP hD hS rfl hl.1 (As := [.long (r23.toInt64), .long 3, .long 9]) (rest := []) rfl (Nat.le_of_ble_eq_true rfl) dX11_digit_22 ⟨Nat.le_of_ble_eq_true rfl, Nat.le_of_ble_eq_true rfl⟩) hA hD hS (fun r32 L33 f34 H locs hp35 hP hD hS => ?_)
    obtain ⟨eL36L, eL36T, eL36R, eL36X0, eL36X1⟩ := hp35
    have eL36L : L33 = L := eL36L
    have eL36T : f34 = f5 := eL36T
    rw [eL36L, eL36T] at hP hD
    have eL36R : In r32 0 1 := eL36R
    have hii37 : r32.toInt = 0 ∨ (3 ≤ r23.toInt ∧ r23.toInt ≤ 9) := by have z := eL36X0; rw [i2l_t r23, (by decide : (3 : Int64).toInt = 3), (by decide : (9 : Int64).toInt = 9)] at z; exact z
    have hii37w : ¬ r32 = 0 → In r23 3 9 := fun c => by have c2 := i32_ne c; have e0 : (0 : Int32).toInt = 0 := (by decide); exact ⟨by omega, by omega⟩
    refine lv_if_ne (tgt := 38) hx hb dX11_digit_25 (by decide) (fun c38 => ?_) (fun c38 => ?_)
    ·
      have oc0 : (0 : Int32).toInt = 0 := by decide
      have cc39 : r32.toInt ≠ (0 : Int32).toInt := i32_ne c38
      have hb40 : In r32 1 1 := In.ne1 eL36R (⟨by decide, by decide⟩ : In 0 0 0) cc39 (by decide) (by decide)
      have hb41 : In r23 3 9 := In.both (hii37w c38) eL27R (by decide) (by decide)
      refine lv_aload_n hx hb dX11_digit_38 rfl (lv_at hl 0 rfl) ?_
      refine lv_iconst (v := 0) hx hb dX11_digit_39 (by decide) ?_
      refine call_i (run_V (rm := rm_X11_digitAt) hx hb hml hown hts (s_X11_digitAt l g ad (gset (gset (gset th 37 zz8) 40 zz9) 41 zz10) _ _ _ 0 hst hT (⟨by decide, by decide⟩ : In 0 0 499) (show zz9 + (0 : Int32).toInt < 500 from (by have ob13 : (0 : Int) ≤ (th 13) ∧ (th 13) ≤ 500 := (b0_13 hT :); have ob35 : (0 : Int) ≤ (th 35) ∧ (th 35) ≤ 63 := (b0_35 hT :); have ob36 : (0 : Int) ≤ (th 36) ∧ (th 36) ≤ 20 := (b0_36 hT :); have ob37 : (0 : Int) ≤ zz8 ∧ zz8 ≤ 500 := (b0_37 hT :); have ob40 : (0 : Int) ≤ zz9 ∧ zz9 ≤ 500 := (b0_40 hT :); have ob41 : (0 : Int) ≤ zz10 ∧ zz10 ≤ 500 := (b0_41 hT :); have ob42 : ((-1) : Int) ≤ (th 42) ∧ (th 42) ≤ 500 := (b0_42 hT :); have ob43 : ((-1) : Int) ≤ (th 43) ∧ (th 43) ≤ 1 := (b0_43 hT :); have oc0 : (0 : Int32).toInt = 0 := (by decide); obtain ⟨o0a, o0b⟩ := (hv2_11 : In _ _ _); obtain ⟨o1a, o1b⟩ := (hv3_11 : In _ _ _); obtain ⟨o2a, o2b⟩ := (hv4_11 : In _ _ _); obtain ⟨o3a, o3b⟩ := (hv5_11 : In _ _ _); obtain ⟨o4a, o4b⟩ := (hb22 : In _ _ _); obtain ⟨o5a, o5b⟩ := (hv8_11 : In _ _ _); obtain ⟨o6a, o6b⟩ := (hv9_11 : In _ _ _); obtain ⟨o7a, o7b⟩ := (hv13_11 : In _ _ _); omega))) cV_X11_digitAt wg_1577 ⟨Nat.le_of_ble_eq_true rfl, Nat.le_of_ble_eq_true rfl⟩ hG hE hA hP hD hS (hst.1 255 (by decide)) hf12 rfl rfl hl.1 (As := [.int 0]) (rest := []) rfl (Nat.le_of_ble_eq_true rfl) dX11_digit_40 ⟨Nat.le_of_ble_eq_true rfl, Nat.le_of_ble_eq_true rfl⟩) hA hD hS (fun r42 L43 f44 H locs hp45 hP hD hS => ?_)
      obtain ⟨eL46L, eL46T, eL46R, eL46X0⟩ := hp45
      have eL46L : L43 = L := eL46L
      have eL46T : f44 = f5 := eL46T
      rw [eL46L, eL46T] at hP hD
      have eL46R : In r42 (-176) 79 := eL46R
      have hda47 : r42.toInt = (rw28 (zz9 + 0).toNat).toInt - 48 := (eL46X0 _ hf29)
      exact ret_i (ty := .int) hx hb hr hlocks (rfl) hP hD hS (Nat.le_of_ble_eq_true rfl) (Nat.le_of_ble_eq_true rfl) (⟨rfl, ⟨zz8, zz9, zz10, (th 42), (show (th 37 ≤ zz9 ∧ 0 ≤ zz9 ∧ 0 ≤ zz10 ∧ zz9 + zz10 = zz8 ∧ zz8 ≤ 500) from (by have ob13 : (0 : Int) ≤ (th 13) ∧ (th 13) ≤ 500 := (b0_13 hT :); have ob35 : (0 : Int) ≤ (th 35) ∧ (th 35) ≤ 63 := (b0_35 hT :); have ob36 : (0 : Int) ≤ (th 36) ∧ (th 36) ≤ 20 := (b0_36 hT :); have ob37 : (0 : Int) ≤ zz8 ∧ zz8 ≤ 500 := (b0_37 hT :); have ob40 : (0 : Int) ≤ zz9 ∧ zz9 ≤ 500 := (b0_40 hT :); have ob41 : (0 : Int) ≤ zz10 ∧ zz10 ≤ 500 := (b0_41 hT :); have ob42 : ((-1) : Int) ≤ (th 42) ∧ (th 42) ≤ 500 := (b0_42 hT :); have ob43 : ((-1) : Int) ≤ (th 43) ∧ (th 43) ≤ 1 := (b0_43 hT :); obtain ⟨o0a, o0b⟩ := (eL46R : In _ _ _); obtain ⟨o1a, o1b⟩ := (hv2_11 : In _ _ _); obtain ⟨o2a, o2b⟩ := (hv3_11 : In _ _ _); obtain ⟨o3a, o3b⟩ := (hv4_11 : In _ _ _); obtain ⟨o4a, o4b⟩ := (hv5_11 : In _ _ _); obtain ⟨o5a, o5b⟩ := (hb22 : In _ _ _); obtain ⟨o6a, o6b⟩ := (hv8_11 : In _ _ _); obtain ⟨o7a, o7b⟩ := (hv9_11 : In _ _ _); obtain ⟨o8a, o8b⟩ := (hv13_11 : In _ _ _); omega)), TI.cast hT (by funext q; by_cases hq0 : q = 41; (subst hq0; rfl); by_cases hq1 : q = 40; (subst hq1; rfl); by_cases hq2 : q = 37; (subst hq2; rfl); by_cases hq3 : q = 42; (subst hq3; rfl); simp only [gset, if_neg hq0, if_neg hq1, if_neg hq2, if_neg hq3])⟩, hfr, (In.mk (by have ob13 : (0 : Int) ≤ (th 13) ∧ (th 13) ≤ 500 := (b0_13 hT :); have ob35 : (0 : Int) ≤ (th 35) ∧ (th 35) ≤ 63 := (b0_35 hT :); have ob36 : (0 : Int) ≤ (th 36) ∧ (th 36) ≤ 20 := (b0_36 hT :); have ob37 : (0 : Int) ≤ zz8 ∧ zz8 ≤ 500 := (b0_37 hT :); have ob40 : (0 : Int) ≤ zz9 ∧ zz9 ≤ 500 := (b0_40 hT :); have ob41 : (0 : Int) ≤ zz10 ∧ zz10 ≤ 500 := (b0_41 hT :); have ob42 : ((-1) : Int) ≤ (th 42) ∧ (th 42) ≤ 500 := (b0_42 hT :); have ob43 : ((-1) : Int) ≤ (th 43) ∧ (th 43) ≤ 1 := (b0_43 hT :); obtain ⟨o0a, o0b⟩ := (eL46R : In _ _ _); obtain ⟨o1a, o1b⟩ := (hv2_11 : In _ _ _); obtain ⟨o2a, o2b⟩ := (hv3_11 : In _ _ _); obtain ⟨o3a, o3b⟩ := (hv4_11 : In _ _ _); obtain ⟨o4a, o4b⟩ := (hv5_11 : In _ _ _); obtain ⟨o5a, o5b⟩ := (hb22 : In _ _ _); obtain ⟨o6a, o6b⟩ := (hv8_11 : In _ _ _); obtain ⟨o7a, o7b⟩ := (hv9_11 : In _ _ _); obtain ⟨o8a, o8b⟩ := (hv13_11 : In _ _ _); omega) (by have ob13 : (0 : Int) ≤ (th 13) ∧ (th 13) ≤ 500 := (b0_13 hT :); have ob35 : (0 : Int) ≤ (th 35) ∧ (th 35) ≤ 63 := (b0_35 hT :); have ob36 : (0 : Int) ≤ (th 36) ∧ (th 36) ≤ 20 := (b0_36 hT :); have ob37 : (0 : Int) ≤ zz8 ∧ zz8 ≤ 500 := (b0_37 hT :); have ob40 : (0 : Int) ≤ zz9 ∧ zz9 ≤ 500 := (b0_40 hT :); have ob41 : (0 : Int) ≤ zz10 ∧ zz10 ≤ 500 := (b0_41 hT :); have ob42 : ((-1) : Int) ≤ (th 42) ∧ (th 42) ≤ 500 := (b0_42 hT :); have ob43 : ((-1) : Int) ≤ (th 43) ∧ (th 43) ≤ 1 := (b0_43 hT :); obtain ⟨o0a, o0b⟩ := (eL46R : In _ _ _); obtain ⟨o1a, o1b⟩ := (hv2_11 : In _ _ _); obtain ⟨o2a, o2b⟩ := (hv3_11 : In _ _ _); obtain ⟨o3a, o3b⟩ := (hv4_11 : In _ _ _); obtain ⟨o4a, o4b⟩ := (hv5_11 : In _ _ _); obtain ⟨o5a, o5b⟩ := (hb22 : In _ _ _); obtain ⟨o6a, o6b⟩ := (hv8_11 : In _ _ _); obtain ⟨o7a, o7b⟩ := (hv9_11 : In _ _ _); obtain ⟨o8a, o8b⟩ := (hv13_11 : In _ _ _); omega))⟩) dX11_digit_43
    ·
      have oc0 : (0 : Int32).toInt = 0 := by decide
      have cc48 : r32.toInt = (0 : Int32).toInt := congrArg Int32.toInt c38
      have hb49 : In r32 0 0 := In.eq1 eL36R (⟨by decide, by decide⟩ : In 0 0 0) cc48 (by decide) (by decide)
      exact hJ28 _ _ _ hP hD hS (lv_sub hl [0, 1, 2] rfl)

abbrev rm_X11_digit_0_4 : Room := { frames := 3, cells := 0, slots := 0, locals := 61 }
abbrev po_X11_digit_0_4 (g : GG) (ad : Nat → Nat) (th : Nat → Int) (L : List Nat) (f : HP)  : Int32 → (List Nat × HP) → Prop := fun r u => u.1 = L ∧ (∃ za zr zl ze : Int, ((th 37 ≤ zr ∧ 0 ≤ zr ∧ 0 ≤ zl ∧ zr + zl = za ∧ za ≤ 500)) ∧ TI g ad (gset (gset (gset (gset th 37 za) 40 zr) 41 zl) 42 ze) u.2) ∧ (∀ b, b ≠ (ad 255) → u.2 b = f b) ∧ In r 0 4
set_option maxHeartbeats 4000000 in
set_option maxRecDepth 100000 in
theorem s_X11_digit_0_4 (l : Launch) (g : GG) (ad : Nat → Nat) (th : Nat → Int) (L : List Nat) (f : HP) (sz : Nat)  (hst : ST ad L) (hT : TI g ad th f)  : MtI l g yX11_digit cX11_digit 3 (some .int) rm_X11_digit_0_4 [.ref (ad 255), .int 0, .int 4] L f sz (po_X11_digit_0_4 g ad th L f ) := by
  refine MtI.of (by decide +kernel) (Nat.le_of_ble_eq_true rfl) ?_
  intro p e s m below meth c A hEn hP hD hS ls hl
  obtain ⟨hx, hb, hr, hml, hown, hlocks, hts, hG, hA, hE, hnm⟩ := hEn
  have hown : s.vm.findClass "RulerWordModel" = some m.cls := hown
  have hl : lv_has ls 3 [(0, .ref (ad 255)), (1, .int 0), (2, .int 4)] := hl
  have hfr : (∀ b, b ≠ (ad 255) → f b = f b) := fun b z0_ => rfl
  refine lv_aload_n hx hb dX11_digit_0 rfl (lv_at hl 0 rfl) ?_
  refine M0e hT (fun v0_1 v2_1 v3_1 v4_1 v5_1 v6_1 v8_1 v9_1 v12_1 v13_1 v14_1 v15_1 v16_1 v17_1 v18_1 v19_1 v20_1 v21_1 v22_1 v23_1 v25_1 v36_1 v37_1 v38_1 v39_1 v40_1 v45_1 v46_1 v47_1 v48_1 v50_1 v51_1 v53_1 v55_1 hf2 hv0_1 hv2_1 hg2_1 hv3_1 hg3_1 hv4_1 hg4_1 hv5_1 hg5_1 hv6_1 hg6_1 hv8_1 hg8_1 hv9_1 hg9_1 hv12_1 hv13_1 hg13_1 hv14_1 hg14_1 hv15_1 hg15_1 hv17_1 hg17_1 hv20_1 hg20_1 hv23_1 hg23_1 hv25_1 hg25_1 hv36_1 hg36_1 hv47_1 hg47_1 hv48_1 hg48_1 hv53_1 hg53_1 hv55_1 hg55_1 hrel0_1 => ?_)
  have hg15_1 : v15_1.toInt = th 11 := hg15_1
  have hg17_1 : v17_1.toInt = th 12 := hg17_1
  have hg20_1 : v20_1.toInt = th 14 := hg20_1
  refine call_v (run_V (rm := rm_X11_digits) hx hb hml hown hts (s_X11_digits l g ad th _ _ _  hst hT ) cV_X11_digits wg_1570 ⟨Nat.le_of_ble_eq_true rfl, Nat.le_of_ble_eq_true rfl⟩ hG hE hA hP hD hS (hst.1 255 (by decide)) hf2 rfl rfl hl.1 (As := []) (rest := []) rfl (Nat.le_of_ble_eq_true rfl) dX11_digit_1 ⟨Nat.le_of_ble_eq_true rfl, Nat.le_of_ble_eq_true rfl⟩) hA hD hS (fun L4 f5 H locs hp6 hP hD hS => ?_)
  obtain ⟨eL7L, eL7T, eL7F⟩ := hp6
  have eL7L : L4 = L := eL7L
  rw [eL7L] at hP hD
  obtain ⟨zz8, zz9, zz10, hzz8, eL7T⟩ := eL7T
  have hT : TI g ad (gset (gset (gset th 37 zz8) 40 zz9) 41 zz10) f5 := eL7T
  have eL7F : ∀ b, b ≠ (ad 255) → f5 b = f b := eL7F
  have hfr : (∀ b, b ≠ (ad 255) → f5 b = f b) := fun b z0_ => (eL7F b z0_).trans (hfr b z0_)
  refine lv_aload_n hx hb dX11_digit_4 rfl (lv_at hl 0 rfl) ?_
  refine M0e hT (fun v0_11 v2_11 v3_11 v4_11 v5_11 v6_11 v8_11 v9_11 v12_11 v13_11 v14_11 v15_11 v16_11 v17_11 v18_11 v19_11 v20_11 v21_11 v22_11 v23_11 v25_11 v36_11 v37_11 v38_11 v39_11 v40_11 v45_11 v46_11 v47_11 v48_11 v50_11 v51_11 v53_11 v55_11 hf12 hv0_11 hv2_11 hg2_11 hv3_11 hg3_11 hv4_11 hg4_11 hv5_11 hg5_11 hv6_11 hg6_11 hv8_11 hg8_11 hv9_11 hg9_11 hv12_11 hv13_11 hg13_11 hv14_11 hg14_11 hv15_11 hg15_11 hv17_11 hg17_11 hv20_11 hg20_11 hv23_11 hg23_11 hv25_11 hg25_11 hv36_11 hg36_11 hv47_11 hg47_11 hv48_11 hg48_11 hv53_11 hg53_11 hv55_11 hg55_11 hrel0_11 => ?_)
  have hg15_11 : v15_11.toInt = th 11 := hg15_11
  have hg17_11 : v17_11.toInt = th 12 := hg17_11
  have hg20_11 : v20_11.toInt = th 14 := hg20_11
  refine pl_get (v := .int v6_11) hx hb hts (fun w h => mT (inX11 w h)) hown hG.1 hP (hst.1 255 (by decide)) hf12 rfl 6 (by decide) (hts _ (mT wg_1342)) (fun _ h => h) rfl dX11_digit_5 ?_
  have hg6_11 : v6_11.toInt = zz10 := hg6_11
  refine lv_iconst (v := 1) hx hb dX11_digit_8 (by decide) ?_
  have hJ28 : ∀ (H : Heap) (locs : List Loc) (ls : Array Slot), va_P g.1 vwCl (va_pl L f5) H → va_D A (va_pl L f5) → va_S A s.heap H locs → lv_has ls 3 [(0, .ref (ad 255)), (1, .int 0), (2, .int 4)] → W p l e rm_X11_digit_0_4 s m [.ref (ad 255), .int 0, .int 4].toArray below meth c H locs 0 0 (MQ below (va_Qi (po_X11_digit_0_4 g ad th L f ) (PstB g A) A) [.ref (ad 255), .int 0, .int 4].toArray s rm_X11_digit_0_4.cells rm_X11_digit_0_4.slots A) (F0 m 28 ls []) := by
    intro H locs ls hP hD hS hl
    refine lv_aload_n hx hb dX11_digit_28 rfl (lv_at hl 0 rfl) ?_
    refine lv_aload_n hx hb dX11_digit_29 rfl (lv_at hl 0 rfl) ?_
    refine pl_get (v := .int v5_11) hx hb hts (fun w h => mT (inX11 w h)) hown hG.1 hP (hst.1 255 (by decide)) hf12 rfl 5 (by decide) (hts _ (mT wg_1341)) (fun _ h => h) rfl dX11_digit_30 ?_
    have hg5_11 : v5_11.toInt = zz9 := hg5_11
    refine call_v (run_V (rm := rm_X11_fails) hx hb hml hown hts (s_X11_fails l g ad (gset (gset (gset th 37 zz8) 40 zz9) 41 zz10) _ _ _ v5_11 hst hT hv5_11) cV_X11_fails wg_1545 ⟨Nat.le_of_ble_eq_true rfl, Nat.le_of_ble_eq_true rfl⟩ hG hE hA hP hD hS (hst.1 255 (by decide)) hf12 rfl rfl hl.1 (As := [.int v5_11]) (rest := []) rfl (Nat.le_of_ble_eq_true rfl) dX11_digit_33 ⟨Nat.le_of_ble_eq_true rfl, Nat.le_of_ble_eq_true rfl⟩) hA hD hS (fun L14 f15 H locs hp16 hP hD hS => ?_)
    obtain ⟨eL17L, eL17T, eL17F⟩ := hp16
    have eL17L : L14 = L := eL17L
    rw [eL17L] at hP hD
    obtain ⟨zz18, hzz18, eL17T⟩ := eL17T
    have hzz18 : 0 ≤ zz18 := hzz18
    have hT : TI g ad (gset (gset (gset (gset th 37 zz8) 40 zz9) 41 zz10) 42 zz18) f15 := eL17T
    have eL17F : ∀ b, b ≠ (ad 255) → f15 b = f5 b := eL17F
    have hfr : (∀ b, b ≠ (ad 255) → f15 b = f b) := fun b z0_ => (eL17F b z0_).trans (hfr b z0_)
    refine lv_iload_n hx hb dX11_digit_36 rfl (lv_at hl 1 rfl) ?_
    exact ret_i (ty := .int) hx hb hr hlocks (rfl) hP hD hS (Nat.le_of_ble_eq_true rfl) (Nat.le_of_ble_eq_true rfl) (⟨rfl, ⟨zz8, zz9, zz10, zz18, (show (th 37 ≤ zz9 ∧ 0 ≤ zz9 ∧ 0 ≤ zz10 ∧ zz9 + zz10 = zz8 ∧ zz8 ≤ 500) from (by have ob13 : (0 : Int) ≤ (th 13) ∧ (th 13) ≤ 500 := (b0_13 hT :); have ob35 : (0 : Int) ≤ (th 35) ∧ (th 35) ≤ 63 := (b0_35 hT :); have ob36 : (0 : Int) ≤ (th 36) ∧ (th 36) ≤ 20 := (b0_36 hT :); have ob37 : (0 : Int) ≤ zz8 ∧ zz8 ≤ 500 := (b0_37 hT :); have ob40 : (0 : Int) ≤ zz9 ∧ zz9 ≤ 500 := (b0_40 hT :); have ob41 : (0 : Int) ≤ zz10 ∧ zz10 ≤ 500 := (b0_41 hT :); have ob42 : ((-1) : Int) ≤ zz18 ∧ zz18 ≤ 500 := (b0_42 hT :); have ob43 : ((-1) : Int) ≤ (th 43) ∧ (th 43) ≤ 1 := (b0_43 hT :); have oc0 : (0 : Int32).toInt = 0 := (by decide); omega)), TI.cast hT (by funext q; by_cases hq0 : q = 42; (subst hq0; rfl); by_cases hq1 : q = 41; (subst hq1; rfl); by_cases hq2 : q = 40; (subst hq2; rfl); by_cases hq3 : q = 37; (subst hq3; rfl); simp only [gset, if_neg hq0, if_neg hq1, if_neg hq2, if_neg hq3])⟩, hfr, (⟨by decide, by decide⟩ : In 0 0 4)⟩) dX11_digit_37
  refine lv_icmp_ne (tgt := 28) hx hb dX11_digit_9 (by decide) (fun c19 => ?_) (fun c19 => ?_)
  ·
    have oc1 : (1 : Int32).toInt = 1 := by decide
    have cc20 : v6_11.toInt ≠ (1 : Int32).toInt := i32_ne c19
    exact hJ28 _ _ _ hP hD hS (lv_sub hl [0, 1, 2] rfl)
  ·
    have oc1 : (1 : Int32).toInt = 1 := by decide
    have cc21 : v6_11.toInt = (1 : Int32).toInt := congrArg Int32.toInt c19
    have hb22 : In v6_11 1 1 := In.eq1 hv6_11 (⟨by decide, by decide⟩ : In 1 1 1) cc21 (by decide) (by decide)
    refine lv_aload_n hx hb dX11_digit_12 rfl (lv_at hl 0 rfl) ?_
    refine lv_iconst (v := 0) hx hb dX11_digit_13 (by decide) ?_
    refine call_i (run_V (rm := rm_X11_digitAt) hx hb hml hown hts (s_X11_digitAt l g ad (gset (gset (gset th 37 zz8) 40 zz9) 41 zz10) _ _ _ 0 hst hT (⟨by decide, by decide⟩ : In 0 0 499) (show zz9 + (0 : Int32).toInt < 500 from (by have ob13 : (0 : Int) ≤ (th 13) ∧ (th 13) ≤ 500 := (b0_13 hT :); have ob35 : (0 : Int) ≤ (th 35) ∧ (th 35) ≤ 63 := (b0_35 hT :); have ob36 : (0 : Int) ≤ (th 36) ∧ (th 36) ≤ 20 := (b0_36 hT :); have ob37 : (0 : Int) ≤ zz8 ∧ zz8 ≤ 500 := (b0_37 hT :); have ob40 : (0 : Int) ≤ zz9 ∧ zz9 ≤ 500 := (b0_40 hT :); have ob41 : (0 : Int) ≤ zz10 ∧ zz10 ≤ 500 := (b0_41 hT :); have ob42 : ((-1) : Int) ≤ (th 42) ∧ (th 42) ≤ 500 := (b0_42 hT :); have ob43 : ((-1) : Int) ≤ (th 43) ∧ (th 43) ≤ 1 := (b0_43 hT :); have oc0 : (0 : Int32).toInt = 0 := (by decide); obtain ⟨o0a, o0b⟩ := (hv2_11 : In _ _ _); obtain ⟨o1a, o1b⟩ := (hv3_11 : In _ _ _); obtain ⟨o2a, o2b⟩ := (hv4_11 : In _ _ _); obtain ⟨o3a, o3b⟩ := (hv5_11 : In _ _ _); obtain ⟨o4a, o4b⟩ := (hb22 : In _ _ _); obtain ⟨o5a, o5b⟩ := (hv8_11 : In _ _ _); obtain ⟨o6a, o6b⟩ := (hv9_11 : In _ _ _); obtain ⟨o7a, o7b⟩ := (hv13_11 : In _ _ _); omega))) cV_X11_digitAt wg_1577 ⟨Nat.le_of_ble_eq_true rfl, Nat.le_of_ble_eq_true rfl⟩ hG hE hA hP hD hS (hst.1 255 (by decide)) hf12 rfl rfl hl.1 (As := [.int 0]) (rest := []) rfl (Nat.le_of_ble_eq_true rfl) dX11_digit_14 ⟨Nat.le_of_ble_eq_true rfl, Nat.le_of_ble_eq_true rfl⟩) hA hD hS (fun r23 L24 f25 H locs hp26 hP hD hS => ?_)
    obtain ⟨eL27L, eL27T, eL27R, eL27X0⟩ := hp26
    have eL27L : L24 = L := eL27L
    have eL27T : f25 = f5 := eL27T
    rw [eL27L, eL27T] at hP hD
    have eL27R : In r23 (-176) 79 := eL27R
    obtain ⟨rw28, hf29, hc30⟩ := hT.2.2 1 (by decide)
    have hda31 : r23.toInt = (rw28 (zz9 + 0).toNat).toInt - 48 := (eL27X0 _ hf29)
    refine lv_i2l hx hb dX11_digit_17 rfl ?_
    refine lv_iload_n hx hb dX11_digit_18 rfl (lv_at hl 1 rfl) ?_
    refine lv_i2l (v := 0) hx hb dX11_digit_19 (by decide) ?_
    refine lv_iload_n hx hb dX11_digit_20 rfl (lv_at hl 2 rfl) ?_
    refine lv_i2l (v := 4) hx hb dX11_digit_21 (by decide) ?_
    refine call_i (run_S (rm := rm_X11_isIn) hx hb hml hown hts (s_X11_isIn l g ad (gset (gset (gset th 37 zz8) 40 zz9) 41 zz10) _ _ _ (r23.toInt64) 0 4 hst hT ) cS_X11_isIn wg_1581 ⟨Nat.le_of_ble_eq_true rfl, Nat.le_of_ble_eq_true rfl⟩ hG hE hA hP hD hS rfl hl.1 (As := [.long (r23.toInt64), .long 0, .long 4]) (rest := []) rfl (Nat.le_of_ble_eq_true rfl) dX11_digit_22 ⟨Nat.le_of_ble_eq_true rfl, Nat.le_of_ble_eq_true rfl⟩) hA hD hS (fun r32 L33 f34 H locs hp35 hP hD hS => ?_)
    obtain ⟨eL36L, eL36T, eL36R, eL36X0, eL36X1⟩ := hp35
    have eL36L : L33 = L := eL36L
    have eL36T : f34 = f5 := eL36T
    rw [eL36L, eL36T] at hP hD
    have eL36R : In r32 0 1 := eL36R
    have hii37 : r32.toInt = 0 ∨ (0 ≤ r23.toInt ∧ r23.toInt ≤ 4) := by have z := eL36X0; rw [i2l_t r23, (by decide : (0 : Int64).toInt = 0), (by decide : (4 : Int64).toInt = 4)] at z; exact z
    have hii37w : ¬ r32 = 0 → In r23 0 4 := fun c => by have c2 := i32_ne c; have e0 : (0 : Int32).toInt = 0 := (by decide); exact ⟨by omega, by omega⟩
    refine lv_if_ne (tgt := 38) hx hb dX11_digit_25 (by decide) (fun c38 => ?_) (fun c38 => ?_)
    ·
      have oc0 : (0 : Int32).toInt = 0 := by decide
      have cc39 : r32.toInt ≠ (0 : Int32).toInt := i32_ne c38
      have hb40 : In r32 1 1 := In.ne1 eL36R (⟨by decide, by decide⟩ : In 0 0 0) cc39 (by decide) (by decide)
      have hb41 : In r23 0 4 := In.both (hii37w c38) eL27R (by decide) (by decide)
      refine lv_aload_n hx hb dX11_digit_38 rfl (lv_at hl 0 rfl) ?_
      refine lv_iconst (v := 0) hx hb dX11_digit_39 (by decide) ?_
      refine call_i (run_V (rm := rm_X11_digitAt) hx hb hml hown hts (s_X11_digitAt l g ad (gset (gset (gset th 37 zz8) 40 zz9) 41 zz10) _ _ _ 0 hst hT (⟨by decide, by decide⟩ : In 0 0 499) (show zz9 + (0 : Int32).toInt < 500 from (by have ob13 : (0 : Int) ≤ (th 13) ∧ (th 13) ≤ 500 := (b0_13 hT :); have ob35 : (0 : Int) ≤ (th 35) ∧ (th 35) ≤ 63 := (b0_35 hT :); have ob36 : (0 : Int) ≤ (th 36) ∧ (th 36) ≤ 20 := (b0_36 hT :); have ob37 : (0 : Int) ≤ zz8 ∧ zz8 ≤ 500 := (b0_37 hT :); have ob40 : (0 : Int) ≤ zz9 ∧ zz9 ≤ 500 := (b0_40 hT :); have ob41 : (0 : Int) ≤ zz10 ∧ zz10 ≤ 500 := (b0_41 hT :); have ob42 : ((-1) : Int) ≤ (th 42) ∧ (th 42) ≤ 500 := (b0_42 hT :); have ob43 : ((-1) : Int) ≤ (th 43) ∧ (th 43) ≤ 1 := (b0_43 hT :); have oc0 : (0 : Int32).toInt = 0 := (by decide); obtain ⟨o0a, o0b⟩ := (hv2_11 : In _ _ _); obtain ⟨o1a, o1b⟩ := (hv3_11 : In _ _ _); obtain ⟨o2a, o2b⟩ := (hv4_11 : In _ _ _); obtain ⟨o3a, o3b⟩ := (hv5_11 : In _ _ _); obtain ⟨o4a, o4b⟩ := (hb22 : In _ _ _); obtain ⟨o5a, o5b⟩ := (hv8_11 : In _ _ _); obtain ⟨o6a, o6b⟩ := (hv9_11 : In _ _ _); obtain ⟨o7a, o7b⟩ := (hv13_11 : In _ _ _); omega))) cV_X11_digitAt wg_1577 ⟨Nat.le_of_ble_eq_true rfl, Nat.le_of_ble_eq_true rfl⟩ hG hE hA hP hD hS (hst.1 255 (by decide)) hf12 rfl rfl hl.1 (As := [.int 0]) (rest := []) rfl (Nat.le_of_ble_eq_true rfl) dX11_digit_40 ⟨Nat.le_of_ble_eq_true rfl, Nat.le_of_ble_eq_true rfl⟩) hA hD hS (fun r42 L43 f44 H locs hp45 hP hD hS => ?_)
      obtain ⟨eL46L, eL46T, eL46R, eL46X0⟩ := hp45
      have eL46L : L43 = L := eL46L
      have eL46T : f44 = f5 := eL46T
      rw [eL46L, eL46T] at hP hD
      have eL46R : In r42 (-176) 79 := eL46R
      have hda47 : r42.toInt = (rw28 (zz9 + 0).toNat).toInt - 48 := (eL46X0 _ hf29)
      exact ret_i (ty := .int) hx hb hr hlocks (rfl) hP hD hS (Nat.le_of_ble_eq_true rfl) (Nat.le_of_ble_eq_true rfl) (⟨rfl, ⟨zz8, zz9, zz10, (th 42), (show (th 37 ≤ zz9 ∧ 0 ≤ zz9 ∧ 0 ≤ zz10 ∧ zz9 + zz10 = zz8 ∧ zz8 ≤ 500) from (by have ob13 : (0 : Int) ≤ (th 13) ∧ (th 13) ≤ 500 := (b0_13 hT :); have ob35 : (0 : Int) ≤ (th 35) ∧ (th 35) ≤ 63 := (b0_35 hT :); have ob36 : (0 : Int) ≤ (th 36) ∧ (th 36) ≤ 20 := (b0_36 hT :); have ob37 : (0 : Int) ≤ zz8 ∧ zz8 ≤ 500 := (b0_37 hT :); have ob40 : (0 : Int) ≤ zz9 ∧ zz9 ≤ 500 := (b0_40 hT :); have ob41 : (0 : Int) ≤ zz10 ∧ zz10 ≤ 500 := (b0_41 hT :); have ob42 : ((-1) : Int) ≤ (th 42) ∧ (th 42) ≤ 500 := (b0_42 hT :); have ob43 : ((-1) : Int) ≤ (th 43) ∧ (th 43) ≤ 1 := (b0_43 hT :); obtain ⟨o0a, o0b⟩ := (eL46R : In _ _ _); obtain ⟨o1a, o1b⟩ := (hv2_11 : In _ _ _); obtain ⟨o2a, o2b⟩ := (hv3_11 : In _ _ _); obtain ⟨o3a, o3b⟩ := (hv4_11 : In _ _ _); obtain ⟨o4a, o4b⟩ := (hv5_11 : In _ _ _); obtain ⟨o5a, o5b⟩ := (hb22 : In _ _ _); obtain ⟨o6a, o6b⟩ := (hv8_11 : In _ _ _); obtain ⟨o7a, o7b⟩ := (hv9_11 : In _ _ _); obtain ⟨o8a, o8b⟩ := (hv13_11 : In _ _ _); omega)), TI.cast hT (by funext q; by_cases hq0 : q = 41; (subst hq0; rfl); by_cases hq1 : q = 40; (subst hq1; rfl); by_cases hq2 : q = 37; (subst hq2; rfl); by_cases hq3 : q = 42; (subst hq3; rfl); simp only [gset, if_neg hq0, if_neg hq1, if_neg hq2, if_neg hq3])⟩, hfr, (In.mk (by have ob13 : (0 : Int) ≤ (th 13) ∧ (th 13) ≤ 500 := (b0_13 hT :); have ob35 : (0 : Int) ≤ (th 35) ∧ (th 35) ≤ 63 := (b0_35 hT :); have ob36 : (0 : Int) ≤ (th 36) ∧ (th 36) ≤ 20 := (b0_36 hT :); have ob37 : (0 : Int) ≤ zz8 ∧ zz8 ≤ 500 := (b0_37 hT :); have ob40 : (0 : Int) ≤ zz9 ∧ zz9 ≤ 500 := (b0_40 hT :); have ob41 : (0 : Int) ≤ zz10 ∧ zz10 ≤ 500 := (b0_41 hT :); have ob42 : ((-1) : Int) ≤ (th 42) ∧ (th 42) ≤ 500 := (b0_42 hT :); have ob43 : ((-1) : Int) ≤ (th 43) ∧ (th 43) ≤ 1 := (b0_43 hT :); obtain ⟨o0a, o0b⟩ := (eL46R : In _ _ _); obtain ⟨o1a, o1b⟩ := (hv2_11 : In _ _ _); obtain ⟨o2a, o2b⟩ := (hv3_11 : In _ _ _); obtain ⟨o3a, o3b⟩ := (hv4_11 : In _ _ _); obtain ⟨o4a, o4b⟩ := (hv5_11 : In _ _ _); obtain ⟨o5a, o5b⟩ := (hb22 : In _ _ _); obtain ⟨o6a, o6b⟩ := (hv8_11 : In _ _ _); obtain ⟨o7a, o7b⟩ := (hv9_11 : In _ _ _); obtain ⟨o8a, o8b⟩ := (hv13_11 : In _ _ _); omega) (by have ob13 : (0 : Int) ≤ (th 13) ∧ (th 13) ≤ 500 := (b0_13 hT :); have ob35 : (0 : Int) ≤ (th 35) ∧ (th 35) ≤ 63 := (b0_35 hT :); have ob36 : (0 : Int) ≤ (th 36) ∧ (th 36) ≤ 20 := (b0_36 hT :); have ob37 : (0 : Int) ≤ zz8 ∧ zz8 ≤ 500 := (b0_37 hT :); have ob40 : (0 : Int) ≤ zz9 ∧ zz9 ≤ 500 := (b0_40 hT :); have ob41 : (0 : Int) ≤ zz10 ∧ zz10 ≤ 500 := (b0_41 hT :); have ob42 : ((-1) : Int) ≤ (th 42) ∧ (th 42) ≤ 500 := (b0_42 hT :); have ob43 : ((-1) : Int) ≤ (th 43) ∧ (th 43) ≤ 1 := (b0_43 hT :); obtain ⟨o0a, o0b⟩ := (eL46R : In _ _ _); obtain ⟨o1a, o1b⟩ := (hv2_11 : In _ _ _); obtain ⟨o2a, o2b⟩ := (hv3_11 : In _ _ _); obtain ⟨o3a, o3b⟩ := (hv4_11 : In _ _ _); obtain ⟨o4a, o4b⟩ := (hv5_11 : In _ _ _); obtain ⟨o5a, o5b⟩ := (hb22 : In _ _ _); obtain ⟨o6a, o6b⟩ := (hv8_11 : In _ _ _); obtain ⟨o7a, o7b⟩ := (hv9_11 : In _ _ _); obtain ⟨o8a, o8b⟩ := (hv13_11 : In _ _ _); omega))⟩) dX11_digit_43
    ·
      have oc0 : (0 : Int32).toInt = 0 := by decide
      have cc48 : r32.toInt = (0 : Int32).toInt := congrArg Int32.toInt c38
      have hb49 : In r32 0 0 := In.eq1 eL36R (⟨by decide, by decide⟩ : In 0 0 0) cc48 (by decide) (by decide)
      exact hJ28 _ _ _ hP hD hS (lv_sub hl [0, 1, 2] rfl)

abbrev rm_X11_digit_1_6 : Room := { frames := 3, cells := 0, slots := 0, locals := 61 }
abbrev po_X11_digit_1_6 (g : GG) (ad : Nat → Nat) (th : Nat → Int) (L : List Nat) (f : HP)  : Int32 → (List Nat × HP) → Prop := fun r u => u.1 = L ∧ (∃ za zr zl ze : Int, ((th 37 ≤ zr ∧ 0 ≤ zr ∧ 0 ≤ zl ∧ zr + zl = za ∧ za ≤ 500)) ∧ TI g ad (gset (gset (gset (gset th 37 za) 40 zr) 41 zl) 42 ze) u.2) ∧ (∀ b, b ≠ (ad 255) → u.2 b = f b) ∧ In r 1 6
set_option maxHeartbeats 4000000 in
set_option maxRecDepth 100000 in
theorem s_X11_digit_1_6 (l : Launch) (g : GG) (ad : Nat → Nat) (th : Nat → Int) (L : List Nat) (f : HP) (sz : Nat)  (hst : ST ad L) (hT : TI g ad th f)  : MtI l g yX11_digit cX11_digit 3 (some .int) rm_X11_digit_1_6 [.ref (ad 255), .int 1, .int 6] L f sz (po_X11_digit_1_6 g ad th L f ) := by
  refine MtI.of (by decide +kernel) (Nat.le_of_ble_eq_true rfl) ?_
  intro p e s m below meth c A hEn hP hD hS ls hl
  obtain ⟨hx, hb, hr, hml, hown, hlocks, hts, hG, hA, hE, hnm⟩ := hEn
  have hown : s.vm.findClass "RulerWordModel" = some m.cls := hown
  have hl : lv_has ls 3 [(0, .ref (ad 255)), (1, .int 1), (2, .int 6)] := hl
  have hfr : (∀ b, b ≠ (ad 255) → f b = f b) := fun b z0_ => rfl
  refine lv_aload_n hx hb dX11_digit_0 rfl (lv_at hl 0 rfl) ?_
  refine M0e hT (fun v0_1 v2_1 v3_1 v4_1 v5_1 v6_1 v8_1 v9_1 v12_1 v13_1 v14_1 v15_1 v16_1 v17_1 v18_1 v19_1 v20_1 v21_1 v22_1 v23_1 v25_1 v36_1 v37_1 v38_1 v39_1 v40_1 v45_1 v46_1 v47_1 v48_1 v50_1 v51_1 v53_1 v55_1 hf2 hv0_1 hv2_1 hg2_1 hv3_1 hg3_1 hv4_1 hg4_1 hv5_1 hg5_1 hv6_1 hg6_1 hv8_1 hg8_1 hv9_1 hg9_1 hv12_1 hv13_1 hg13_1 hv14_1 hg14_1 hv15_1 hg15_1 hv17_1 hg17_1 hv20_1 hg20_1 hv23_1 hg23_1 hv25_1 hg25_1 hv36_1 hg36_1 hv47_1 hg47_1 hv48_1 hg48_1 hv53_1 hg53_1 hv55_1 hg55_1 hrel0_1 => ?_)
  have hg15_1 : v15_1.toInt = th 11 := hg15_1
  have hg17_1 : v17_1.toInt = th 12 := hg17_1
  have hg20_1 : v20_1.toInt = th 14 := hg20_1
  refine call_v (run_V (rm := rm_X11_digits) hx hb hml hown hts (s_X11_digits l g ad th _ _ _  hst hT ) cV_X11_digits wg_1570 ⟨Nat.le_of_ble_eq_true rfl, Nat.le_of_ble_eq_true rfl⟩ hG hE hA hP hD hS (hst.1 255 (by decide)) hf2 rfl rfl hl.1 (As := []) (rest := []) rfl (Nat.le_of_ble_eq_true rfl) dX11_digit_1 ⟨Nat.le_of_ble_eq_true rfl, Nat.le_of_ble_eq_true rfl⟩) hA hD hS (fun L4 f5 H locs hp6 hP hD hS => ?_)
  obtain ⟨eL7L, eL7T, eL7F⟩ := hp6
  have eL7L : L4 = L := eL7L
  rw [eL7L] at hP hD
  obtain ⟨zz8, zz9, zz10, hzz8, eL7T⟩ := eL7T
  have hT : TI g ad (gset (gset (gset th 37 zz8) 40 zz9) 41 zz10) f5 := eL7T
  have eL7F : ∀ b, b ≠ (ad 255) → f5 b = f b := eL7F
  have hfr : (∀ b, b ≠ (ad 255) → f5 b = f b) := fun b z0_ => (eL7F b z0_).trans (hfr b z0_)
  refine lv_aload_n hx hb dX11_digit_4 rfl (lv_at hl 0 rfl) ?_
  refine M0e hT (fun v0_11 v2_11 v3_11 v4_11 v5_11 v6_11 v8_11 v9_11 v12_11 v13_11 v14_11 v15_11 v16_11 v17_11 v18_11 v19_11 v20_11 v21_11 v22_11 v23_11 v25_11 v36_11 v37_11 v38_11 v39_11 v40_11 v45_11 v46_11 v47_11 v48_11 v50_11 v51_11 v53_11 v55_11 hf12 hv0_11 hv2_11 hg2_11 hv3_11 hg3_11 hv4_11 hg4_11 hv5_11 hg5_11 hv6_11 hg6_11 hv8_11 hg8_11 hv9_11 hg9_11 hv12_11 hv13_11 hg13_11 hv14_11 hg14_11 hv15_11 hg15_11 hv17_11 hg17_11 hv20_11 hg20_11 hv23_11 hg23_11 hv25_11 hg25_11 hv36_11 hg36_11 hv47_11 hg47_11 hv48_11 hg48_11 hv53_11 hg53_11 hv55_11 hg55_11 hrel0_11 => ?_)
  have hg15_11 : v15_11.toInt = th 11 := hg15_11
  have hg17_11 : v17_11.toInt = th 12 := hg17_11
  have hg20_11 : v20_11.toInt = th 14 := hg20_11
  refine pl_get (v := .int v6_11) hx hb hts (fun w h => mT (inX11 w h)) hown hG.1 hP (hst.1 255 (by decide)) hf12 rfl 6 (by decide) (hts _ (mT wg_1342)) (fun _ h => h) rfl dX11_digit_5 ?_
  have hg6_11 : v6_11.toInt = zz10 := hg6_11
  refine lv_iconst (v := 1) hx hb dX11_digit_8 (by decide) ?_
  have hJ28 : ∀ (H : Heap) (locs : List Loc) (ls : Array Slot), va_P g.1 vwCl (va_pl L f5) H → va_D A (va_pl L f5) → va_S A s.heap H locs → lv_has ls 3 [(0, .ref (ad 255)), (1, .int 1), (2, .int 6)] → W p l e rm_X11_digit_1_6 s m [.ref (ad 255), .int 1, .int 6].toArray below meth c H locs 0 0 (MQ below (va_Qi (po_X11_digit_1_6 g ad th L f ) (PstB g A) A) [.ref (ad 255), .int 1, .int 6].toArray s rm_X11_digit_1_6.cells rm_X11_digit_1_6.slots A) (F0 m 28 ls []) := by
    intro H locs ls hP hD hS hl
    refine lv_aload_n hx hb dX11_digit_28 rfl (lv_at hl 0 rfl) ?_
    refine lv_aload_n hx hb dX11_digit_29 rfl (lv_at hl 0 rfl) ?_
    refine pl_get (v := .int v5_11) hx hb hts (fun w h => mT (inX11 w h)) hown hG.1 hP (hst.1 255 (by decide)) hf12 rfl 5 (by decide) (hts _ (mT wg_1341)) (fun _ h => h) rfl dX11_digit_30 ?_
    have hg5_11 : v5_11.toInt = zz9 := hg5_11
    refine call_v (run_V (rm := rm_X11_fails) hx hb hml hown hts (s_X11_fails l g ad (gset (gset (gset th 37 zz8) 40 zz9) 41 zz10) _ _ _ v5_11 hst hT hv5_11) cV_X11_fails wg_1545 ⟨Nat.le_of_ble_eq_true rfl, Nat.le_of_ble_eq_true rfl⟩ hG hE hA hP hD hS (hst.1 255 (by decide)) hf12 rfl rfl hl.1 (As := [.int v5_11]) (rest := []) rfl (Nat.le_of_ble_eq_true rfl) dX11_digit_33 ⟨Nat.le_of_ble_eq_true rfl, Nat.le_of_ble_eq_true rfl⟩) hA hD hS (fun L14 f15 H locs hp16 hP hD hS => ?_)
    obtain ⟨eL17L, eL17T, eL17F⟩ := hp16
    have eL17L : L14 = L := eL17L
    rw [eL17L] at hP hD
    obtain ⟨zz18, hzz18, eL17T⟩ := eL17T
    have hzz18 : 0 ≤ zz18 := hzz18
    have hT : TI g ad (gset (gset (gset (gset th 37 zz8) 40 zz9) 41 zz10) 42 zz18) f15 := eL17T
    have eL17F : ∀ b, b ≠ (ad 255) → f15 b = f5 b := eL17F
    have hfr : (∀ b, b ≠ (ad 255) → f15 b = f b) := fun b z0_ => (eL17F b z0_).trans (hfr b z0_)
    refine lv_iload_n hx hb dX11_digit_36 rfl (lv_at hl 1 rfl) ?_
    exact ret_i (ty := .int) hx hb hr hlocks (rfl) hP hD hS (Nat.le_of_ble_eq_true rfl) (Nat.le_of_ble_eq_true rfl) (⟨rfl, ⟨zz8, zz9, zz10, zz18, (show (th 37 ≤ zz9 ∧ 0 ≤ zz9 ∧ 0 ≤ zz10 ∧ zz9 + zz10 = zz8 ∧ zz8 ≤ 500) from (by have ob13 : (0 : Int) ≤ (th 13) ∧ (th 13) ≤ 500 := (b0_13 hT :); have ob35 : (0 : Int) ≤ (th 35) ∧ (th 35) ≤ 63 := (b0_35 hT :); have ob36 : (0 : Int) ≤ (th 36) ∧ (th 36) ≤ 20 := (b0_36 hT :); have ob37 : (0 : Int) ≤ zz8 ∧ zz8 ≤ 500 := (b0_37 hT :); have ob40 : (0 : Int) ≤ zz9 ∧ zz9 ≤ 500 := (b0_40 hT :); have ob41 : (0 : Int) ≤ zz10 ∧ zz10 ≤ 500 := (b0_41 hT :); have ob42 : ((-1) : Int) ≤ zz18 ∧ zz18 ≤ 500 := (b0_42 hT :); have ob43 : ((-1) : Int) ≤ (th 43) ∧ (th 43) ≤ 1 := (b0_43 hT :); have oc1 : (1 : Int32).toInt = 1 := (by decide); omega)), TI.cast hT (by funext q; by_cases hq0 : q = 42; (subst hq0; rfl); by_cases hq1 : q = 41; (subst hq1; rfl); by_cases hq2 : q = 40; (subst hq2; rfl); by_cases hq3 : q = 37; (subst hq3; rfl); simp only [gset, if_neg hq0, if_neg hq1, if_neg hq2, if_neg hq3])⟩, hfr, (⟨by decide, by decide⟩ : In 1 1 6)⟩) dX11_digit_37
  refine lv_icmp_ne (tgt := 28) hx hb dX11_digit_9 (by decide) (fun c19 => ?_) (fun c19 => ?_)
  ·
    have oc1 : (1 : Int32).toInt = 1 := by decide
    have cc20 : v6_11.toInt ≠ (1 : Int32).toInt := i32_ne c19
    exact hJ28 _ _ _ hP hD hS (lv_sub hl [0, 1, 2] rfl)
  ·
    have oc1 : (1 : Int32).toInt = 1 := by decide
    have cc21 : v6_11.toInt = (1 : Int32).toInt := congrArg Int32.toInt c19
    have hb22 : In v6_11 1 1 := In.eq1 hv6_11 (⟨by decide, by decide⟩ : In 1 1 1) cc21 (by decide) (by decide)
    refine lv_aload_n hx hb dX11_digit_12 rfl (lv_at hl 0 rfl) ?_
    refine lv_iconst (v := 0) hx hb dX11_digit_13 (by decide) ?_
    refine call_i (run_V (rm := rm_X11_digitAt) hx hb hml hown hts (s_X11_digitAt l g ad (gset (gset (gset th 37 zz8) 40 zz9) 41 zz10) _ _ _ 0 hst hT (⟨by decide, by decide⟩ : In 0 0 499) (show zz9 + (0 : Int32).toInt < 500 from (by have ob13 : (0 : Int) ≤ (th 13) ∧ (th 13) ≤ 500 := (b0_13 hT :); have ob35 : (0 : Int) ≤ (th 35) ∧ (th 35) ≤ 63 := (b0_35 hT :); have ob36 : (0 : Int) ≤ (th 36) ∧ (th 36) ≤ 20 := (b0_36 hT :); have ob37 : (0 : Int) ≤ zz8 ∧ zz8 ≤ 500 := (b0_37 hT :); have ob40 : (0 : Int) ≤ zz9 ∧ zz9 ≤ 500 := (b0_40 hT :); have ob41 : (0 : Int) ≤ zz10 ∧ zz10 ≤ 500 := (b0_41 hT :); have ob42 : ((-1) : Int) ≤ (th 42) ∧ (th 42) ≤ 500 := (b0_42 hT :); have ob43 : ((-1) : Int) ≤ (th 43) ∧ (th 43) ≤ 1 := (b0_43 hT :); have oc0 : (0 : Int32).toInt = 0 := (by decide); obtain ⟨o0a, o0b⟩ := (hv2_11 : In _ _ _); obtain ⟨o1a, o1b⟩ := (hv3_11 : In _ _ _); obtain ⟨o2a, o2b⟩ := (hv4_11 : In _ _ _); obtain ⟨o3a, o3b⟩ := (hv5_11 : In _ _ _); obtain ⟨o4a, o4b⟩ := (hb22 : In _ _ _); obtain ⟨o5a, o5b⟩ := (hv8_11 : In _ _ _); obtain ⟨o6a, o6b⟩ := (hv9_11 : In _ _ _); obtain ⟨o7a, o7b⟩ := (hv13_11 : In _ _ _); omega))) cV_X11_digitAt wg_1577 ⟨Nat.le_of_ble_eq_true rfl, Nat.le_of_ble_eq_true rfl⟩ hG hE hA hP hD hS (hst.1 255 (by decide)) hf12 rfl rfl hl.1 (As := [.int 0]) (rest := []) rfl (Nat.le_of_ble_eq_true rfl) dX11_digit_14 ⟨Nat.le_of_ble_eq_true rfl, Nat.le_of_ble_eq_true rfl⟩) hA hD hS (fun r23 L24 f25 H locs hp26 hP hD hS => ?_)
    obtain ⟨eL27L, eL27T, eL27R, eL27X0⟩ := hp26
    have eL27L : L24 = L := eL27L
    have eL27T : f25 = f5 := eL27T
    rw [eL27L, eL27T] at hP hD
    have eL27R : In r23 (-176) 79 := eL27R
    obtain ⟨rw28, hf29, hc30⟩ := hT.2.2 1 (by decide)
    have hda31 : r23.toInt = (rw28 (zz9 + 0).toNat).toInt - 48 := (eL27X0 _ hf29)
    refine lv_i2l hx hb dX11_digit_17 rfl ?_
    refine lv_iload_n hx hb dX11_digit_18 rfl (lv_at hl 1 rfl) ?_
    refine lv_i2l (v := 1) hx hb dX11_digit_19 (by decide) ?_
    refine lv_iload_n hx hb dX11_digit_20 rfl (lv_at hl 2 rfl) ?_
    refine lv_i2l (v := 6) hx hb dX11_digit_21 (by decide) ?_
    refine call_i (run_S (rm := rm_X11_isIn) hx hb hml hown hts (s_X11_isIn l g ad (gset (gset (gset th 37 zz8) 40 zz9) 41 zz10) _ _ _ (r23.toInt64) 1 6 hst hT ) cS_X11_isIn wg_1581 ⟨Nat.le_of_ble_eq_true rfl, Nat.le_of_ble_eq_true rfl⟩ hG hE hA hP hD hS rfl hl.1 (As := [.long (r23.toInt64), .long 1, .long 6]) (rest := []) rfl (Nat.le_of_ble_eq_true rfl) dX11_digit_22 ⟨Nat.le_of_ble_eq_true rfl, Nat.le_of_ble_eq_true rfl⟩) hA hD hS (fun r32 L33 f34 H locs hp35 hP hD hS => ?_)
    obtain ⟨eL36L, eL36T, eL36R, eL36X0, eL36X1⟩ := hp35
    have eL36L : L33 = L := eL36L
    have eL36T : f34 = f5 := eL36T
    rw [eL36L, eL36T] at hP hD
    have eL36R : In r32 0 1 := eL36R
    have hii37 : r32.toInt = 0 ∨ (1 ≤ r23.toInt ∧ r23.toInt ≤ 6) := by have z := eL36X0; rw [i2l_t r23, (by decide : (1 : Int64).toInt = 1), (by decide : (6 : Int64).toInt = 6)] at z; exact z
    have hii37w : ¬ r32 = 0 → In r23 1 6 := fun c => by have c2 := i32_ne c; have e0 : (0 : Int32).toInt = 0 := (by decide); exact ⟨by omega, by omega⟩
    refine lv_if_ne (tgt := 38) hx hb dX11_digit_25 (by decide) (fun c38 => ?_) (fun c38 => ?_)
    ·
      have oc0 : (0 : Int32).toInt = 0 := by decide
      have cc39 : r32.toInt ≠ (0 : Int32).toInt := i32_ne c38
      have hb40 : In r32 1 1 := In.ne1 eL36R (⟨by decide, by decide⟩ : In 0 0 0) cc39 (by decide) (by decide)
      have hb41 : In r23 1 6 := In.both (hii37w c38) eL27R (by decide) (by decide)
      refine lv_aload_n hx hb dX11_digit_38 rfl (lv_at hl 0 rfl) ?_
      refine lv_iconst (v := 0) hx hb dX11_digit_39 (by decide) ?_
      refine call_i (run_V (rm := rm_X11_digitAt) hx hb hml hown hts (s_X11_digitAt l g ad (gset (gset (gset th 37 zz8) 40 zz9) 41 zz10) _ _ _ 0 hst hT (⟨by decide, by decide⟩ : In 0 0 499) (show zz9 + (0 : Int32).toInt < 500 from (by have ob13 : (0 : Int) ≤ (th 13) ∧ (th 13) ≤ 500 := (b0_13 hT :); have ob35 : (0 : Int) ≤ (th 35) ∧ (th 35) ≤ 63 := (b0_35 hT :); have ob36 : (0 : Int) ≤ (th 36) ∧ (th 36) ≤ 20 := (b0_36 hT :); have ob37 : (0 : Int) ≤ zz8 ∧ zz8 ≤ 500 := (b0_37 hT :); have ob40 : (0 : Int) ≤ zz9 ∧ zz9 ≤ 500 := (b0_40 hT :); have ob41 : (0 : Int) ≤ zz10 ∧ zz10 ≤ 500 := (b0_41 hT :); have ob42 : ((-1) : Int) ≤ (th 42) ∧ (th 42) ≤ 500 := (b0_42 hT :); have ob43 : ((-1) : Int) ≤ (th 43) ∧ (th 43) ≤ 1 := (b0_43 hT :); have oc0 : (0 : Int32).toInt = 0 := (by decide); obtain ⟨o0a, o0b⟩ := (hv2_11 : In _ _ _); obtain ⟨o1a, o1b⟩ := (hv3_11 : In _ _ _); obtain ⟨o2a, o2b⟩ := (hv4_11 : In _ _ _); obtain ⟨o3a, o3b⟩ := (hv5_11 : In _ _ _); obtain ⟨o4a, o4b⟩ := (hb22 : In _ _ _); obtain ⟨o5a, o5b⟩ := (hv8_11 : In _ _ _); obtain ⟨o6a, o6b⟩ := (hv9_11 : In _ _ _); obtain ⟨o7a, o7b⟩ := (hv13_11 : In _ _ _); omega))) cV_X11_digitAt wg_1577 ⟨Nat.le_of_ble_eq_true rfl, Nat.le_of_ble_eq_true rfl⟩ hG hE hA hP hD hS (hst.1 255 (by decide)) hf12 rfl rfl hl.1 (As := [.int 0]) (rest := []) rfl (Nat.le_of_ble_eq_true rfl) dX11_digit_40 ⟨Nat.le_of_ble_eq_true rfl, Nat.le_of_ble_eq_true rfl⟩) hA hD hS (fun r42 L43 f44 H locs hp45 hP hD hS => ?_)
      obtain ⟨eL46L, eL46T, eL46R, eL46X0⟩ := hp45
      have eL46L : L43 = L := eL46L
      have eL46T : f44 = f5 := eL46T
      rw [eL46L, eL46T] at hP hD
      have eL46R : In r42 (-176) 79 := eL46R
      have hda47 : r42.toInt = (rw28 (zz9 + 0).toNat).toInt - 48 := (eL46X0 _ hf29)
      exact ret_i (ty := .int) hx hb hr hlocks (rfl) hP hD hS (Nat.le_of_ble_eq_true rfl) (Nat.le_of_ble_eq_true rfl) (⟨rfl, ⟨zz8, zz9, zz10, (th 42), (show (th 37 ≤ zz9 ∧ 0 ≤ zz9 ∧ 0 ≤ zz10 ∧ zz9 + zz10 = zz8 ∧ zz8 ≤ 500) from (by have ob13 : (0 : Int) ≤ (th 13) ∧ (th 13) ≤ 500 := (b0_13 hT :); have ob35 : (0 : Int) ≤ (th 35) ∧ (th 35) ≤ 63 := (b0_35 hT :); have ob36 : (0 : Int) ≤ (th 36) ∧ (th 36) ≤ 20 := (b0_36 hT :); have ob37 : (0 : Int) ≤ zz8 ∧ zz8 ≤ 500 := (b0_37 hT :); have ob40 : (0 : Int) ≤ zz9 ∧ zz9 ≤ 500 := (b0_40 hT :); have ob41 : (0 : Int) ≤ zz10 ∧ zz10 ≤ 500 := (b0_41 hT :); have ob42 : ((-1) : Int) ≤ (th 42) ∧ (th 42) ≤ 500 := (b0_42 hT :); have ob43 : ((-1) : Int) ≤ (th 43) ∧ (th 43) ≤ 1 := (b0_43 hT :); obtain ⟨o0a, o0b⟩ := (eL46R : In _ _ _); obtain ⟨o1a, o1b⟩ := (hv2_11 : In _ _ _); obtain ⟨o2a, o2b⟩ := (hv3_11 : In _ _ _); obtain ⟨o3a, o3b⟩ := (hv4_11 : In _ _ _); obtain ⟨o4a, o4b⟩ := (hv5_11 : In _ _ _); obtain ⟨o5a, o5b⟩ := (hb22 : In _ _ _); obtain ⟨o6a, o6b⟩ := (hv8_11 : In _ _ _); obtain ⟨o7a, o7b⟩ := (hv9_11 : In _ _ _); obtain ⟨o8a, o8b⟩ := (hv13_11 : In _ _ _); omega)), TI.cast hT (by funext q; by_cases hq0 : q = 41; (subst hq0; rfl); by_cases hq1 : q = 40; (subst hq1; rfl); by_cases hq2 : q = 37; (subst hq2; rfl); by_cases hq3 : q = 42; (subst hq3; rfl); simp only [gset, if_neg hq0, if_neg hq1, if_neg hq2, if_neg hq3])⟩, hfr, (In.mk (by have ob13 : (0 : Int) ≤ (th 13) ∧ (th 13) ≤ 500 := (b0_13 hT :); have ob35 : (0 : Int) ≤ (th 35) ∧ (th 35) ≤ 63 := (b0_35 hT :); have ob36 : (0 : Int) ≤ (th 36) ∧ (th 36) ≤ 20 := (b0_36 hT :); have ob37 : (0 : Int) ≤ zz8 ∧ zz8 ≤ 500 := (b0_37 hT :); have ob40 : (0 : Int) ≤ zz9 ∧ zz9 ≤ 500 := (b0_40 hT :); have ob41 : (0 : Int) ≤ zz10 ∧ zz10 ≤ 500 := (b0_41 hT :); have ob42 : ((-1) : Int) ≤ (th 42) ∧ (th 42) ≤ 500 := (b0_42 hT :); have ob43 : ((-1) : Int) ≤ (th 43) ∧ (th 43) ≤ 1 := (b0_43 hT :); obtain ⟨o0a, o0b⟩ := (eL46R : In _ _ _); obtain ⟨o1a, o1b⟩ := (hv2_11 : In _ _ _); obtain ⟨o2a, o2b⟩ := (hv3_11 : In _ _ _); obtain ⟨o3a, o3b⟩ := (hv4_11 : In _ _ _); obtain ⟨o4a, o4b⟩ := (hv5_11 : In _ _ _); obtain ⟨o5a, o5b⟩ := (hb22 : In _ _ _); obtain ⟨o6a, o6b⟩ := (hv8_11 : In _ _ _); obtain ⟨o7a, o7b⟩ := (hv9_11 : In _ _ _); obtain ⟨o8a, o8b⟩ := (hv13_11 : In _ _ _); omega) (by have ob13 : (0 : Int) ≤ (th 13) ∧ (th 13) ≤ 500 := (b0_13 hT :); have ob35 : (0 : Int) ≤ (th 35) ∧ (th 35) ≤ 63 := (b0_35 hT :); have ob36 : (0 : Int) ≤ (th 36) ∧ (th 36) ≤ 20 := (b0_36 hT :); have ob37 : (0 : Int) ≤ zz8 ∧ zz8 ≤ 500 := (b0_37 hT :); have ob40 : (0 : Int) ≤ zz9 ∧ zz9 ≤ 500 := (b0_40 hT :); have ob41 : (0 : Int) ≤ zz10 ∧ zz10 ≤ 500 := (b0_41 hT :); have ob42 : ((-1) : Int) ≤ (th 42) ∧ (th 42) ≤ 500 := (b0_42 hT :); have ob43 : ((-1) : Int) ≤ (th 43) ∧ (th 43) ≤ 1 := (b0_43 hT :); obtain ⟨o0a, o0b⟩ := (eL46R : In _ _ _); obtain ⟨o1a, o1b⟩ := (hv2_11 : In _ _ _); obtain ⟨o2a, o2b⟩ := (hv3_11 : In _ _ _); obtain ⟨o3a, o3b⟩ := (hv4_11 : In _ _ _); obtain ⟨o4a, o4b⟩ := (hv5_11 : In _ _ _); obtain ⟨o5a, o5b⟩ := (hb22 : In _ _ _); obtain ⟨o6a, o6b⟩ := (hv8_11 : In _ _ _); obtain ⟨o7a, o7b⟩ := (hv9_11 : In _ _ _); obtain ⟨o8a, o8b⟩ := (hv13_11 : In _ _ _); omega))⟩) dX11_digit_43
    ·
      have oc0 : (0 : Int32).toInt = 0 := by decide
      have cc48 : r32.toInt = (0 : Int32).toInt := congrArg Int32.toInt c38
      have hb49 : In r32 0 0 := In.eq1 eL36R (⟨by decide, by decide⟩ : In 0 0 0) cc48 (by decide) (by decide)
      exact hJ28 _ _ _ hP hD hS (lv_sub hl [0, 1, 2] rfl)

abbrev rm_X11_digit_0_5 : Room := { frames := 3, cells := 0, slots := 0, locals := 61 }
abbrev po_X11_digit_0_5 (g : GG) (ad : Nat → Nat) (th : Nat → Int) (L : List Nat) (f : HP)  : Int32 → (List Nat × HP) → Prop := fun r u => u.1 = L ∧ (∃ za zr zl ze : Int, ((th 37 ≤ zr ∧ 0 ≤ zr ∧ 0 ≤ zl ∧ zr + zl = za ∧ za ≤ 500)) ∧ TI g ad (gset (gset (gset (gset th 37 za) 40 zr) 41 zl) 42 ze) u.2) ∧ (∀ b, b ≠ (ad 255) → u.2 b = f b) ∧ In r 0 5
set_option maxHeartbeats 4000000 in
set_option maxRecDepth 100000 in
theorem s_X11_digit_0_5 (l : Launch) (g : GG) (ad : Nat → Nat) (th : Nat → Int) (L : List Nat) (f : HP) (sz : Nat)  (hst : ST ad L) (hT : TI g ad th f)  : MtI l g yX11_digit cX11_digit 3 (some .int) rm_X11_digit_0_5 [.ref (ad 255), .int 0, .int 5] L f sz (po_X11_digit_0_5 g ad th L f ) := by
  refine MtI.of (by decide +kernel) (Nat.le_of_ble_eq_true rfl) ?_
  intro p e s m below meth c A hEn hP hD hS ls hl
  obtain ⟨hx, hb, hr, hml, hown, hlocks, hts, hG, hA, hE, hnm⟩ := hEn
  have hown : s.vm.findClass "RulerWordModel" = some m.cls := hown
  have hl : lv_has ls 3 [(0, .ref (ad 255)), (1, .int 0), (2, .int 5)] := hl
  have hfr : (∀ b, b ≠ (ad 255) → f b = f b) := fun b z0_ => rfl
  refine lv_aload_n hx hb dX11_digit_0 rfl (lv_at hl 0 rfl) ?_
  refine M0e hT (fun v0_1 v2_1 v3_1 v4_1 v5_1 v6_1 v8_1 v9_1 v12_1 v13_1 v14_1 v15_1 v16_1 v17_1 v18_1 v19_1 v20_1 v21_1 v22_1 v23_1 v25_1 v36_1 v37_1 v38_1 v39_1 v40_1 v45_1 v46_1 v47_1 v48_1 v50_1 v51_1 v53_1 v55_1 hf2 hv0_1 hv2_1 hg2_1 hv3_1 hg3_1 hv4_1 hg4_1 hv5_1 hg5_1 hv6_1 hg6_1 hv8_1 hg8_1 hv9_1 hg9_1 hv12_1 hv13_1 hg13_1 hv14_1 hg14_1 hv15_1 hg15_1 hv17_1 hg17_1 hv20_1 hg20_1 hv23_1 hg23_1 hv25_1 hg25_1 hv36_1 hg36_1 hv47_1 hg47_1 hv48_1 hg48_1 hv53_1 hg53_1 hv55_1 hg55_1 hrel0_1 => ?_)
  have hg15_1 : v15_1.toInt = th 11 := hg15_1
  have hg17_1 : v17_1.toInt = th 12 := hg17_1
  have hg20_1 : v20_1.toInt = th 14 := hg20_1
  refine call_v (run_V (rm := rm_X11_digits) hx hb hml hown hts (s_X11_digits l g ad th _ _ _  hst hT ) cV_X11_digits wg_1570 ⟨Nat.le_of_ble_eq_true rfl, Nat.le_of_ble_eq_true rfl⟩ hG hE hA hP hD hS (hst.1 255 (by decide)) hf2 rfl rfl hl.1 (As := []) (rest := []) rfl (Nat.le_of_ble_eq_true rfl) dX11_digit_1 ⟨Nat.le_of_ble_eq_true rfl, Nat.le_of_ble_eq_true rfl⟩) hA hD hS (fun L4 f5 H locs hp6 hP hD hS => ?_)
  obtain ⟨eL7L, eL7T, eL7F⟩ := hp6
  have eL7L : L4 = L := eL7L
  rw [eL7L] at hP hD
  obtain ⟨zz8, zz9, zz10, hzz8, eL7T⟩ := eL7T
  have hT : TI g ad (gset (gset (gset th 37 zz8) 40 zz9) 41 zz10) f5 := eL7T
  have eL7F : ∀ b, b ≠ (ad 255) → f5 b = f b := eL7F
  have hfr : (∀ b, b ≠ (ad 255) → f5 b = f b) := fun b z0_ => (eL7F b z0_).trans (hfr b z0_)
  refine lv_aload_n hx hb dX11_digit_4 rfl (lv_at hl 0 rfl) ?_
  refine M0e hT (fun v0_11 v2_11 v3_11 v4_11 v5_11 v6_11 v8_11 v9_11 v12_11 v13_11 v14_11 v15_11 v16_11 v17_11 v18_11 v19_11 v20_11 v21_11 v22_11 v23_11 v25_11 v36_11 v37_11 v38_11 v39_11 v40_11 v45_11 v46_11 v47_11 v48_11 v50_11 v51_11 v53_11 v55_11 hf12 hv0_11 hv2_11 hg2_11 hv3_11 hg3_11 hv4_11 hg4_11 hv5_11 hg5_11 hv6_11 hg6_11 hv8_11 hg8_11 hv9_11 hg9_11 hv12_11 hv13_11 hg13_11 hv14_11 hg14_11 hv15_11 hg15_11 hv17_11 hg17_11 hv20_11 hg20_11 hv23_11 hg23_11 hv25_11 hg25_11 hv36_11 hg36_11 hv47_11 hg47_11 hv48_11 hg48_11 hv53_11 hg53_11 hv55_11 hg55_11 hrel0_11 => ?_)
  have hg15_11 : v15_11.toInt = th 11 := hg15_11
  have hg17_11 : v17_11.toInt = th 12 := hg17_11
  have hg20_11 : v20_11.toInt = th 14 := hg20_11
  refine pl_get (v := .int v6_11) hx hb hts (fun w h => mT (inX11 w h)) hown hG.1 hP (hst.1 255 (by decide)) hf12 rfl 6 (by decide) (hts _ (mT wg_1342)) (fun _ h => h) rfl dX11_digit_5 ?_
  have hg6_11 : v6_11.toInt = zz10 := hg6_11
  refine lv_iconst (v := 1) hx hb dX11_digit_8 (by decide) ?_
  have hJ28 : ∀ (H : Heap) (locs : List Loc) (ls : Array Slot), va_P g.1 vwCl (va_pl L f5) H → va_D A (va_pl L f5) → va_S A s.heap H locs → lv_has ls 3 [(0, .ref (ad 255)), (1, .int 0), (2, .int 5)] → W p l e rm_X11_digit_0_5 s m [.ref (ad 255), .int 0, .int 5].toArray below meth c H locs 0 0 (MQ below (va_Qi (po_X11_digit_0_5 g ad th L f ) (PstB g A) A) [.ref (ad 255), .int 0, .int 5].toArray s rm_X11_digit_0_5.cells rm_X11_digit_0_5.slots A) (F0 m 28 ls []) := by
    intro H locs ls hP hD hS hl
    refine lv_aload_n hx hb dX11_digit_28 rfl (lv_at hl 0 rfl) ?_
    refine lv_aload_n hx hb dX11_digit_29 rfl (lv_at hl 0 rfl) ?_
    refine pl_get (v := .int v5_11) hx hb hts (fun w h => mT (inX11 w h)) hown hG.1 hP (hst.1 255 (by decide)) hf12 rfl 5 (by decide) (hts _ (mT wg_1341)) (fun _ h => h) rfl dX11_digit_30 ?_
    have hg5_11 : v5_11.toInt = zz9 := hg5_11
    refine call_v (run_V (rm := rm_X11_fails) hx hb hml hown hts (s_X11_fails l g ad (gset (gset (gset th 37 zz8) 40 zz9) 41 zz10) _ _ _ v5_11 hst hT hv5_11) cV_X11_fails wg_1545 ⟨Nat.le_of_ble_eq_true rfl, Nat.le_of_ble_eq_true rfl⟩ hG hE hA hP hD hS (hst.1 255 (by decide)) hf12 rfl rfl hl.1 (As := [.int v5_11]) (rest := []) rfl (Nat.le_of_ble_eq_true rfl) dX11_digit_33 ⟨Nat.le_of_ble_eq_true rfl, Nat.le_of_ble_eq_true rfl⟩) hA hD hS (fun L14 f15 H locs hp16 hP hD hS => ?_)
    obtain ⟨eL17L, eL17T, eL17F⟩ := hp16
    have eL17L : L14 = L := eL17L
    rw [eL17L] at hP hD
    obtain ⟨zz18, hzz18, eL17T⟩ := eL17T
    have hzz18 : 0 ≤ zz18 := hzz18
    have hT : TI g ad (gset (gset (gset (gset th 37 zz8) 40 zz9) 41 zz10) 42 zz18) f15 := eL17T
    have eL17F : ∀ b, b ≠ (ad 255) → f15 b = f5 b := eL17F
    have hfr : (∀ b, b ≠ (ad 255) → f15 b = f b) := fun b z0_ => (eL17F b z0_).trans (hfr b z0_)
    refine lv_iload_n hx hb dX11_digit_36 rfl (lv_at hl 1 rfl) ?_
    exact ret_i (ty := .int) hx hb hr hlocks (rfl) hP hD hS (Nat.le_of_ble_eq_true rfl) (Nat.le_of_ble_eq_true rfl) (⟨rfl, ⟨zz8, zz9, zz10, zz18, (show (th 37 ≤ zz9 ∧ 0 ≤ zz9 ∧ 0 ≤ zz10 ∧ zz9 + zz10 = zz8 ∧ zz8 ≤ 500) from (by have ob13 : (0 : Int) ≤ (th 13) ∧ (th 13) ≤ 500 := (b0_13 hT :); have ob35 : (0 : Int) ≤ (th 35) ∧ (th 35) ≤ 63 := (b0_35 hT :); have ob36 : (0 : Int) ≤ (th 36) ∧ (th 36) ≤ 20 := (b0_36 hT :); have ob37 : (0 : Int) ≤ zz8 ∧ zz8 ≤ 500 := (b0_37 hT :); have ob40 : (0 : Int) ≤ zz9 ∧ zz9 ≤ 500 := (b0_40 hT :); have ob41 : (0 : Int) ≤ zz10 ∧ zz10 ≤ 500 := (b0_41 hT :); have ob42 : ((-1) : Int) ≤ zz18 ∧ zz18 ≤ 500 := (b0_42 hT :); have ob43 : ((-1) : Int) ≤ (th 43) ∧ (th 43) ≤ 1 := (b0_43 hT :); have oc0 : (0 : Int32).toInt = 0 := (by decide); omega)), TI.cast hT (by funext q; by_cases hq0 : q = 42; (subst hq0; rfl); by_cases hq1 : q = 41; (subst hq1; rfl); by_cases hq2 : q = 40; (subst hq2; rfl); by_cases hq3 : q = 37; (subst hq3; rfl); simp only [gset, if_neg hq0, if_neg hq1, if_neg hq2, if_neg hq3])⟩, hfr, (⟨by decide, by decide⟩ : In 0 0 5)⟩) dX11_digit_37
  refine lv_icmp_ne (tgt := 28) hx hb dX11_digit_9 (by decide) (fun c19 => ?_) (fun c19 => ?_)
  ·
    have oc1 : (1 : Int32).toInt = 1 := by decide
    have cc20 : v6_11.toInt ≠ (1 : Int32).toInt := i32_ne c19
    exact hJ28 _ _ _ hP hD hS (lv_sub hl [0, 1, 2] rfl)
  ·
    have oc1 : (1 : Int32).toInt = 1 := by decide
    have cc21 : v6_11.toInt = (1 : Int32).toInt := congrArg Int32.toInt c19
    have hb22 : In v6_11 1 1 := In.eq1 hv6_11 (⟨by decide, by decide⟩ : In 1 1 1) cc21 (by decide) (by decide)
    refine lv_aload_n hx hb dX11_digit_12 rfl (lv_at hl 0 rfl) ?_
    refine lv_iconst (v := 0) hx hb dX11_digit_13 (by decide) ?_
    refine call_i (run_V (rm := rm_X11_digitAt) hx hb hml hown hts (s_X11_digitAt l g ad (gset (gset (gset th 37 zz8) 40 zz9) 41 zz10) _ _ _ 0 hst hT (⟨by decide, by decide⟩ : In 0 0 499) (show zz9 + (0 : Int32).toInt < 500 from (by have ob13 : (0 : Int) ≤ (th 13) ∧ (th 13) ≤ 500 := (b0_13 hT :); have ob35 : (0 : Int) ≤ (th 35) ∧ (th 35) ≤ 63 := (b0_35 hT :); have ob36 : (0 : Int) ≤ (th 36) ∧ (th 36) ≤ 20 := (b0_36 hT :); have ob37 : (0 : Int) ≤ zz8 ∧ zz8 ≤ 500 := (b0_37 hT :); have ob40 : (0 : Int) ≤ zz9 ∧ zz9 ≤ 500 := (b0_40 hT :); have ob41 : (0 : Int) ≤ zz10 ∧ zz10 ≤ 500 := (b0_41 hT :); have ob42 : ((-1) : Int) ≤ (th 42) ∧ (th 42) ≤ 500 := (b0_42 hT :); have ob43 : ((-1) : Int) ≤ (th 43) ∧ (th 43) ≤ 1 := (b0_43 hT :); have oc0 : (0 : Int32).toInt = 0 := (by decide); obtain ⟨o0a, o0b⟩ := (hv2_11 : In _ _ _); obtain ⟨o1a, o1b⟩ := (hv3_11 : In _ _ _); obtain ⟨o2a, o2b⟩ := (hv4_11 : In _ _ _); obtain ⟨o3a, o3b⟩ := (hv5_11 : In _ _ _); obtain ⟨o4a, o4b⟩ := (hb22 : In _ _ _); obtain ⟨o5a, o5b⟩ := (hv8_11 : In _ _ _); obtain ⟨o6a, o6b⟩ := (hv9_11 : In _ _ _); obtain ⟨o7a, o7b⟩ := (hv13_11 : In _ _ _); omega))) cV_X11_digitAt wg_1577 ⟨Nat.le_of_ble_eq_true rfl, Nat.le_of_ble_eq_true rfl⟩ hG hE hA hP hD hS (hst.1 255 (by decide)) hf12 rfl rfl hl.1 (As := [.int 0]) (rest := []) rfl (Nat.le_of_ble_eq_true rfl) dX11_digit_14 ⟨Nat.le_of_ble_eq_true rfl, Nat.le_of_ble_eq_true rfl⟩) hA hD hS (fun r23 L24 f25 H locs hp26 hP hD hS => ?_)
    obtain ⟨eL27L, eL27T, eL27R, eL27X0⟩ := hp26
    have eL27L : L24 = L := eL27L
    have eL27T : f25 = f5 := eL27T
    rw [eL27L, eL27T] at hP hD
    have eL27R : In r23 (-176) 79 := eL27R
    obtain ⟨rw28, hf29, hc30⟩ := hT.2.2 1 (by decide)
    have hda31 : r23.toInt = (rw28 (zz9 + 0).toNat).toInt - 48 := (eL27X0 _ hf29)
    refine lv_i2l hx hb dX11_digit_17 rfl ?_
    refine lv_iload_n hx hb dX11_digit_18 rfl (lv_at hl 1 rfl) ?_
    refine lv_i2l (v := 0) hx hb dX11_digit_19 (by decide) ?_
    refine lv_iload_n hx hb dX11_digit_20 rfl (lv_at hl 2 rfl) ?_
    refine lv_i2l (v := 5) hx hb dX11_digit_21 (by decide) ?_
    refine call_i (run_S (rm := rm_X11_isIn) hx hb hml hown hts (s_X11_isIn l g ad (gset (gset (gset th 37 zz8) 40 zz9) 41 zz10) _ _ _ (r23.toInt64) 0 5 hst hT ) cS_X11_isIn wg_1581 ⟨Nat.le_of_ble_eq_true rfl, Nat.le_of_ble_eq_true rfl⟩ hG hE hA hP hD hS rfl hl.1 (As := [.long (r23.toInt64), .long 0, .long 5]) (rest := []) rfl (Nat.le_of_ble_eq_true rfl) dX11_digit_22 ⟨Nat.le_of_ble_eq_true rfl, Nat.le_of_ble_eq_true rfl⟩) hA hD hS (fun r32 L33 f34 H locs hp35 hP hD hS => ?_)
    obtain ⟨eL36L, eL36T, eL36R, eL36X0, eL36X1⟩ := hp35
    have eL36L : L33 = L := eL36L
    have eL36T : f34 = f5 := eL36T
    rw [eL36L, eL36T] at hP hD
    have eL36R : In r32 0 1 := eL36R
    have hii37 : r32.toInt = 0 ∨ (0 ≤ r23.toInt ∧ r23.toInt ≤ 5) := by have z := eL36X0; rw [i2l_t r23, (by decide : (0 : Int64).toInt = 0), (by decide : (5 : Int64).toInt = 5)] at z; exact z
    have hii37w : ¬ r32 = 0 → In r23 0 5 := fun c => by have c2 := i32_ne c; have e0 : (0 : Int32).toInt = 0 := (by decide); exact ⟨by omega, by omega⟩
    refine lv_if_ne (tgt := 38) hx hb dX11_digit_25 (by decide) (fun c38 => ?_) (fun c38 => ?_)
    ·
      have oc0 : (0 : Int32).toInt = 0 := by decide
      have cc39 : r32.toInt ≠ (0 : Int32).toInt := i32_ne c38
      have hb40 : In r32 1 1 := In.ne1 eL36R (⟨by decide, by decide⟩ : In 0 0 0) cc39 (by decide) (by decide)
      have hb41 : In r23 0 5 := In.both (hii37w c38) eL27R (by decide) (by decide)
      refine lv_aload_n hx hb dX11_digit_38 rfl (lv_at hl 0 rfl) ?_
      refine lv_iconst (v := 0) hx hb dX11_digit_39 (by decide) ?_
      refine call_i (run_V (rm := rm_X11_digitAt) hx hb hml hown hts (s_X11_digitAt l g ad (gset (gset (gset th 37 zz8) 40 zz9) 41 zz10) _ _ _ 0 hst hT (⟨by decide, by decide⟩ : In 0 0 499) (show zz9 + (0 : Int32).toInt < 500 from (by have ob13 : (0 : Int) ≤ (th 13) ∧ (th 13) ≤ 500 := (b0_13 hT :); have ob35 : (0 : Int) ≤ (th 35) ∧ (th 35) ≤ 63 := (b0_35 hT :); have ob36 : (0 : Int) ≤ (th 36) ∧ (th 36) ≤ 20 := (b0_36 hT :); have ob37 : (0 : Int) ≤ zz8 ∧ zz8 ≤ 500 := (b0_37 hT :); have ob40 : (0 : Int) ≤ zz9 ∧ zz9 ≤ 500 := (b0_40 hT :); have ob41 : (0 : Int) ≤ zz10 ∧ zz10 ≤ 500 := (b0_41 hT :); have ob42 : ((-1) : Int) ≤ (th 42) ∧ (th 42) ≤ 500 := (b0_42 hT :); have ob43 : ((-1) : Int) ≤ (th 43) ∧ (th 43) ≤ 1 := (b0_43 hT :); have oc0 : (0 : Int32).toInt = 0 := (by decide); obtain ⟨o0a, o0b⟩ := (hv2_11 : In _ _ _); obtain ⟨o1a, o1b⟩ := (hv3_11 : In _ _ _); obtain ⟨o2a, o2b⟩ := (hv4_11 : In _ _ _); obtain ⟨o3a, o3b⟩ := (hv5_11 : In _ _ _); obtain ⟨o4a, o4b⟩ := (hb22 : In _ _ _); obtain ⟨o5a, o5b⟩ := (hv8_11 : In _ _ _); obtain ⟨o6a, o6b⟩ := (hv9_11 : In _ _ _); obtain ⟨o7a, o7b⟩ := (hv13_11 : In _ _ _); omega))) cV_X11_digitAt wg_1577 ⟨Nat.le_of_ble_eq_true rfl, Nat.le_of_ble_eq_true rfl⟩ hG hE hA hP hD hS (hst.1 255 (by decide)) hf12 rfl rfl hl.1 (As := [.int 0]) (rest := []) rfl (Nat.le_of_ble_eq_true rfl) dX11_digit_40 ⟨Nat.le_of_ble_eq_true rfl, Nat.le_of_ble_eq_true rfl⟩) hA hD hS (fun r42 L43 f44 H locs hp45 hP hD hS => ?_)
      obtain ⟨eL46L, eL46T, eL46R, eL46X0⟩ := hp45
      have eL46L : L43 = L := eL46L
      have eL46T : f44 = f5 := eL46T
      rw [eL46L, eL46T] at hP hD
      have eL46R : In r42 (-176) 79 := eL46R
      have hda47 : r42.toInt = (rw28 (zz9 + 0).toNat).toInt - 48 := (eL46X0 _ hf29)
      exact ret_i (ty := .int) hx hb hr hlocks (rfl) hP hD hS (Nat.le_of_ble_eq_true rfl) (Nat.le_of_ble_eq_true rfl) (⟨rfl, ⟨zz8, zz9, zz10, (th 42), (show (th 37 ≤ zz9 ∧ 0 ≤ zz9 ∧ 0 ≤ zz10 ∧ zz9 + zz10 = zz8 ∧ zz8 ≤ 500) from (by have ob13 : (0 : Int) ≤ (th 13) ∧ (th 13) ≤ 500 := (b0_13 hT :); have ob35 : (0 : Int) ≤ (th 35) ∧ (th 35) ≤ 63 := (b0_35 hT :); have ob36 : (0 : Int) ≤ (th 36) ∧ (th 36) ≤ 20 := (b0_36 hT :); have ob37 : (0 : Int) ≤ zz8 ∧ zz8 ≤ 500 := (b0_37 hT :); have ob40 : (0 : Int) ≤ zz9 ∧ zz9 ≤ 500 := (b0_40 hT :); have ob41 : (0 : Int) ≤ zz10 ∧ zz10 ≤ 500 := (b0_41 hT :); have ob42 : ((-1) : Int) ≤ (th 42) ∧ (th 42) ≤ 500 := (b0_42 hT :); have ob43 : ((-1) : Int) ≤ (th 43) ∧ (th 43) ≤ 1 := (b0_43 hT :); obtain ⟨o0a, o0b⟩ := (eL46R : In _ _ _); obtain ⟨o1a, o1b⟩ := (hv2_11 : In _ _ _); obtain ⟨o2a, o2b⟩ := (hv3_11 : In _ _ _); obtain ⟨o3a, o3b⟩ := (hv4_11 : In _ _ _); obtain ⟨o4a, o4b⟩ := (hv5_11 : In _ _ _); obtain ⟨o5a, o5b⟩ := (hb22 : In _ _ _); obtain ⟨o6a, o6b⟩ := (hv8_11 : In _ _ _); obtain ⟨o7a, o7b⟩ := (hv9_11 : In _ _ _); obtain ⟨o8a, o8b⟩ := (hv13_11 : In _ _ _); omega)), TI.cast hT (by funext q; by_cases hq0 : q = 41; (subst hq0; rfl); by_cases hq1 : q = 40; (subst hq1; rfl); by_cases hq2 : q = 37; (subst hq2; rfl); by_cases hq3 : q = 42; (subst hq3; rfl); simp only [gset, if_neg hq0, if_neg hq1, if_neg hq2, if_neg hq3])⟩, hfr, (In.mk (by have ob13 : (0 : Int) ≤ (th 13) ∧ (th 13) ≤ 500 := (b0_13 hT :); have ob35 : (0 : Int) ≤ (th 35) ∧ (th 35) ≤ 63 := (b0_35 hT :); have ob36 : (0 : Int) ≤ (th 36) ∧ (th 36) ≤ 20 := (b0_36 hT :); have ob37 : (0 : Int) ≤ zz8 ∧ zz8 ≤ 500 := (b0_37 hT :); have ob40 : (0 : Int) ≤ zz9 ∧ zz9 ≤ 500 := (b0_40 hT :); have ob41 : (0 : Int) ≤ zz10 ∧ zz10 ≤ 500 := (b0_41 hT :); have ob42 : ((-1) : Int) ≤ (th 42) ∧ (th 42) ≤ 500 := (b0_42 hT :); have ob43 : ((-1) : Int) ≤ (th 43) ∧ (th 43) ≤ 1 := (b0_43 hT :); obtain ⟨o0a, o0b⟩ := (eL46R : In _ _ _); obtain ⟨o1a, o1b⟩ := (hv2_11 : In _ _ _); obtain ⟨o2a, o2b⟩ := (hv3_11 : In _ _ _); obtain ⟨o3a, o3b⟩ := (hv4_11 : In _ _ _); obtain ⟨o4a, o4b⟩ := (hv5_11 : In _ _ _); obtain ⟨o5a, o5b⟩ := (hb22 : In _ _ _); obtain ⟨o6a, o6b⟩ := (hv8_11 : In _ _ _); obtain ⟨o7a, o7b⟩ := (hv9_11 : In _ _ _); obtain ⟨o8a, o8b⟩ := (hv13_11 : In _ _ _); omega) (by have ob13 : (0 : Int) ≤ (th 13) ∧ (th 13) ≤ 500 := (b0_13 hT :); have ob35 : (0 : Int) ≤ (th 35) ∧ (th 35) ≤ 63 := (b0_35 hT :); have ob36 : (0 : Int) ≤ (th 36) ∧ (th 36) ≤ 20 := (b0_36 hT :); have ob37 : (0 : Int) ≤ zz8 ∧ zz8 ≤ 500 := (b0_37 hT :); have ob40 : (0 : Int) ≤ zz9 ∧ zz9 ≤ 500 := (b0_40 hT :); have ob41 : (0 : Int) ≤ zz10 ∧ zz10 ≤ 500 := (b0_41 hT :); have ob42 : ((-1) : Int) ≤ (th 42) ∧ (th 42) ≤ 500 := (b0_42 hT :); have ob43 : ((-1) : Int) ≤ (th 43) ∧ (th 43) ≤ 1 := (b0_43 hT :); obtain ⟨o0a, o0b⟩ := (eL46R : In _ _ _); obtain ⟨o1a, o1b⟩ := (hv2_11 : In _ _ _); obtain ⟨o2a, o2b⟩ := (hv3_11 : In _ _ _); obtain ⟨o3a, o3b⟩ := (hv4_11 : In _ _ _); obtain ⟨o4a, o4b⟩ := (hv5_11 : In _ _ _); obtain ⟨o5a, o5b⟩ := (hb22 : In _ _ _); obtain ⟨o6a, o6b⟩ := (hv8_11 : In _ _ _); obtain ⟨o7a, o7b⟩ := (hv9_11 : In _ _ _); obtain ⟨o8a, o8b⟩ := (hv13_11 : In _ _ _); omega))⟩) dX11_digit_43
    ·
      have oc0 : (0 : Int32).toInt = 0 := by decide
      have cc48 : r32.toInt = (0 : Int32).toInt := congrArg Int32.toInt c38
      have hb49 : In r32 0 0 := In.eq1 eL36R (⟨by decide, by decide⟩ : In 0 0 0) cc48 (by decide) (by decide)
      exact hJ28 _ _ _ hP hD hS (lv_sub hl [0, 1, 2] rfl)

abbrev rm_X11_digit_0_2 : Room := { frames := 3, cells := 0, slots := 0, locals := 61 }
abbrev po_X11_digit_0_2 (g : GG) (ad : Nat → Nat) (th : Nat → Int) (L : List Nat) (f : HP)  : Int32 → (List Nat × HP) → Prop := fun r u => u.1 = L ∧ (∃ za zr zl ze : Int, ((th 37 ≤ zr ∧ 0 ≤ zr ∧ 0 ≤ zl ∧ zr + zl = za ∧ za ≤ 500)) ∧ TI g ad (gset (gset (gset (gset th 37 za) 40 zr) 41 zl) 42 ze) u.2) ∧ (∀ b, b ≠ (ad 255) → u.2 b = f b) ∧ In r 0 2
set_option maxHeartbeats 4000000 in
set_option maxRecDepth 100000 in
theorem s_X11_digit_0_2 (l : Launch) (g : GG) (ad : Nat → Nat) (th : Nat → Int) (L : List Nat) (f : HP) (sz : Nat)  (hst : ST ad L) (hT : TI g ad th f)  : MtI l g yX11_digit cX11_digit 3 (some .int) rm_X11_digit_0_2 [.ref (ad 255), .int 0, .int 2] L f sz (po_X11_digit_0_2 g ad th L f ) := by
  refine MtI.of (by decide +kernel) (Nat.le_of_ble_eq_true rfl) ?_
  intro p e s m below meth c A hEn hP hD hS ls hl
  obtain ⟨hx, hb, hr, hml, hown, hlocks, hts, hG, hA, hE, hnm⟩ := hEn
  have hown : s.vm.findClass "RulerWordModel" = some m.cls := hown
  have hl : lv_has ls 3 [(0, .ref (ad 255)), (1, .int 0), (2, .int 2)] := hl
  have hfr : (∀ b, b ≠ (ad 255) → f b = f b) := fun b z0_ => rfl
  refine lv_aload_n hx hb dX11_digit_0 rfl (lv_at hl 0 rfl) ?_
  refine M0e hT (fun v0_1 v2_1 v3_1 v4_1 v5_1 v6_1 v8_1 v9_1 v12_1 v13_1 v14_1 v15_1 v16_1 v17_1 v18_1 v19_1 v20_1 v21_1 v22_1 v23_1 v25_1 v36_1 v37_1 v38_1 v39_1 v40_1 v45_1 v46_1 v47_1 v48_1 v50_1 v51_1 v53_1 v55_1 hf2 hv0_1 hv2_1 hg2_1 hv3_1 hg3_1 hv4_1 hg4_1 hv5_1 hg5_1 hv6_1 hg6_1 hv8_1 hg8_1 hv9_1 hg9_1 hv12_1 hv13_1 hg13_1 hv14_1 hg14_1 hv15_1 hg15_1 hv17_1 hg17_1 hv20_1 hg20_1 hv23_1 hg23_1 hv25_1 hg25_1 hv36_1 hg36_1 hv47_1 hg47_1 hv48_1 hg48_1 hv53_1 hg53_1 hv55_1 hg55_1 hrel0_1 => ?_)
  have hg15_1 : v15_1.toInt = th 11 := hg15_1
  have hg17_1 : v17_1.toInt = th 12 := hg17_1
  have hg20_1 : v20_1.toInt = th 14 := hg20_1
  refine call_v (run_V (rm := rm_X11_digits) hx hb hml hown hts (s_X11_digits l g ad th _ _ _  hst hT ) cV_X11_digits wg_1570 ⟨Nat.le_of_ble_eq_true rfl, Nat.le_of_ble_eq_true rfl⟩ hG hE hA hP hD hS (hst.1 255 (by decide)) hf2 rfl rfl hl.1 (As := []) (rest := []) rfl (Nat.le_of_ble_eq_true rfl) dX11_digit_1 ⟨Nat.le_of_ble_eq_true rfl, Nat.le_of_ble_eq_true rfl⟩) hA hD hS (fun L4 f5 H locs hp6 hP hD hS => ?_)
  obtain ⟨eL7L, eL7T, eL7F⟩ := hp6
  have eL7L : L4 = L := eL7L
  rw [eL7L] at hP hD
  obtain ⟨zz8, zz9, zz10, hzz8, eL7T⟩ := eL7T
  have hT : TI g ad (gset (gset (gset th 37 zz8) 40 zz9) 41 zz10) f5 := eL7T
  have eL7F : ∀ b, b ≠ (ad 255) → f5 b = f b := eL7F
  have hfr : (∀ b, b ≠ (ad 255) → f5 b = f b) := fun b z0_ => (eL7F b z0_).trans (hfr b z0_)
  refine lv_aload_n hx hb dX11_digit_4 rfl (lv_at hl 0 rfl) ?_
  refine M0e hT (fun v0_11 v2_11 v3_11 v4_11 v5_11 v6_11 v8_11 v9_11 v12_11 v13_11 v14_11 v15_11 v16_11 v17_11 v18_11 v19_11 v20_11 v21_11 v22_11 v23_11 v25_11 v36_11 v37_11 v38_11 v39_11 v40_11 v45_11 v46_11 v47_11 v48_11 v50_11 v51_11 v53_11 v55_11 hf12 hv0_11 hv2_11 hg2_11 hv3_11 hg3_11 hv4_11 hg4_11 hv5_11 hg5_11 hv6_11 hg6_11 hv8_11 hg8_11 hv9_11 hg9_11 hv12_11 hv13_11 hg13_11 hv14_11 hg14_11 hv15_11 hg15_11 hv17_11 hg17_11 hv20_11 hg20_11 hv23_11 hg23_11 hv25_11 hg25_11 hv36_11 hg36_11 hv47_11 hg47_11 hv48_11 hg48_11 hv53_11 hg53_11 hv55_11 hg55_11 hrel0_11 => ?_)
  have hg15_11 : v15_11.toInt = th 11 := hg15_11
  have hg17_11 : v17_11.toInt = th 12 := hg17_11
  have hg20_11 : v20_11.toInt = th 14 := hg20_11
  refine pl_get (v := .int v6_11) hx hb hts (fun w h => mT (inX11 w h)) hown hG.1 hP (hst.1 255 (by decide)) hf12 rfl 6 (by decide) (hts _ (mT wg_1342)) (fun _ h => h) rfl dX11_digit_5 ?_
  have hg6_11 : v6_11.toInt = zz10 := hg6_11
  refine lv_iconst (v := 1) hx hb dX11_digit_8 (by decide) ?_
  have hJ28 : ∀ (H : Heap) (locs : List Loc) (ls : Array Slot), va_P g.1 vwCl (va_pl L f5) H → va_D A (va_pl L f5) → va_S A s.heap H locs → lv_has ls 3 [(0, .ref (ad 255)), (1, .int 0), (2, .int 2)] → W p l e rm_X11_digit_0_2 s m [.ref (ad 255), .int 0, .int 2].toArray below meth c H locs 0 0 (MQ below (va_Qi (po_X11_digit_0_2 g ad th L f ) (PstB g A) A) [.ref (ad 255), .int 0, .int 2].toArray s rm_X11_digit_0_2.cells rm_X11_digit_0_2.slots A) (F0 m 28 ls []) := by
    intro H locs ls hP hD hS hl
    refine lv_aload_n hx hb dX11_digit_28 rfl (lv_at hl 0 rfl) ?_
    refine lv_aload_n hx hb dX11_digit_29 rfl (lv_at hl 0 rfl) ?_
    refine pl_get (v := .int v5_11) hx hb hts (fun w h => mT (inX11 w h)) hown hG.1 hP (hst.1 255 (by decide)) hf12 rfl 5 (by decide) (hts _ (mT wg_1341)) (fun _ h => h) rfl dX11_digit_30 ?_
    have hg5_11 : v5_11.toInt = zz9 := hg5_11
    refine call_v (run_V (rm := rm_X11_fails) hx hb hml hown hts (s_X11_fails l g ad (gset (gset (gset th 37 zz8) 40 zz9) 41 zz10) _ _ _ v5_11 hst hT hv5_11) cV_X11_fails wg_1545 ⟨Nat.le_of_ble_eq_true rfl, Nat.le_of_ble_eq_true rfl⟩ hG hE hA hP hD hS (hst.1 255 (by decide)) hf12 rfl rfl hl.1 (As := [.int v5_11]) (rest := []) rfl (Nat.le_of_ble_eq_true rfl) dX11_digit_33 ⟨Nat.le_of_ble_eq_true rfl, Nat.le_of_ble_eq_true rfl⟩) hA hD hS (fun L14 f15 H locs hp16 hP hD hS => ?_)
    obtain ⟨eL17L, eL17T, eL17F⟩ := hp16
    have eL17L : L14 = L := eL17L
    rw [eL17L] at hP hD
    obtain ⟨zz18, hzz18, eL17T⟩ := eL17T
    have hzz18 : 0 ≤ zz18 := hzz18
    have hT : TI g ad (gset (gset (gset (gset th 37 zz8) 40 zz9) 41 zz10) 42 zz18) f15 := eL17T
    have eL17F : ∀ b, b ≠ (ad 255) → f15 b = f5 b := eL17F
    have hfr : (∀ b, b ≠ (ad 255) → f15 b = f b) := fun b z0_ => (eL17F b z0_).trans (hfr b z0_)
    refine lv_iload_n hx hb dX11_digit_36 rfl (lv_at hl 1 rfl) ?_
    exact ret_i (ty := .int) hx hb hr hlocks (rfl) hP hD hS (Nat.le_of_ble_eq_true rfl) (Nat.le_of_ble_eq_true rfl) (⟨rfl, ⟨zz8, zz9, zz10, zz18, (show (th 37 ≤ zz9 ∧ 0 ≤ zz9 ∧ 0 ≤ zz10 ∧ zz9 + zz10 = zz8 ∧ zz8 ≤ 500) from (by have ob13 : (0 : Int) ≤ (th 13) ∧ (th 13) ≤ 500 := (b0_13 hT :); have ob35 : (0 : Int) ≤ (th 35) ∧ (th 35) ≤ 63 := (b0_35 hT :); have ob36 : (0 : Int) ≤ (th 36) ∧ (th 36) ≤ 20 := (b0_36 hT :); have ob37 : (0 : Int) ≤ zz8 ∧ zz8 ≤ 500 := (b0_37 hT :); have ob40 : (0 : Int) ≤ zz9 ∧ zz9 ≤ 500 := (b0_40 hT :); have ob41 : (0 : Int) ≤ zz10 ∧ zz10 ≤ 500 := (b0_41 hT :); have ob42 : ((-1) : Int) ≤ zz18 ∧ zz18 ≤ 500 := (b0_42 hT :); have ob43 : ((-1) : Int) ≤ (th 43) ∧ (th 43) ≤ 1 := (b0_43 hT :); have oc0 : (0 : Int32).toInt = 0 := (by decide); omega)), TI.cast hT (by funext q; by_cases hq0 : q = 42; (subst hq0; rfl); by_cases hq1 : q = 41; (subst hq1; rfl); by_cases hq2 : q = 40; (subst hq2; rfl); by_cases hq3 : q = 37; (subst hq3; rfl); simp only [gset, if_neg hq0, if_neg hq1, if_neg hq2, if_neg hq3])⟩, hfr, (⟨by decide, by decide⟩ : In 0 0 2)⟩) dX11_digit_37
  refine lv_icmp_ne (tgt := 28) hx hb dX11_digit_9 (by decide) (fun c19 => ?_) (fun c19 => ?_)
  ·
    have oc1 : (1 : Int32).toInt = 1 := by decide
    have cc20 : v6_11.toInt ≠ (1 : Int32).toInt := i32_ne c19
    exact hJ28 _ _ _ hP hD hS (lv_sub hl [0, 1, 2] rfl)
  ·
    have oc1 : (1 : Int32).toInt = 1 := by decide
    have cc21 : v6_11.toInt = (1 : Int32).toInt := congrArg Int32.toInt c19
    have hb22 : In v6_11 1 1 := In.eq1 hv6_11 (⟨by decide, by decide⟩ : In 1 1 1) cc21 (by decide) (by decide)
    refine lv_aload_n hx hb dX11_digit_12 rfl (lv_at hl 0 rfl) ?_
    refine lv_iconst (v := 0) hx hb dX11_digit_13 (by decide) ?_
    refine call_i (run_V (rm := rm_X11_digitAt) hx hb hml hown hts (s_X11_digitAt l g ad (gset (gset (gset th 37 zz8) 40 zz9) 41 zz10) _ _ _ 0 hst hT (⟨by decide, by decide⟩ : In 0 0 499) (show zz9 + (0 : Int32).toInt < 500 from (by have ob13 : (0 : Int) ≤ (th 13) ∧ (th 13) ≤ 500 := (b0_13 hT :); have ob35 : (0 : Int) ≤ (th 35) ∧ (th 35) ≤ 63 := (b0_35 hT :); have ob36 : (0 : Int) ≤ (th 36) ∧ (th 36) ≤ 20 := (b0_36 hT :); have ob37 : (0 : Int) ≤ zz8 ∧ zz8 ≤ 500 := (b0_37 hT :); have ob40 : (0 : Int) ≤ zz9 ∧ zz9 ≤ 500 := (b0_40 hT :); have ob41 : (0 : Int) ≤ zz10 ∧ zz10 ≤ 500 := (b0_41 hT :); have ob42 : ((-1) : Int) ≤ (th 42) ∧ (th 42) ≤ 500 := (b0_42 hT :); have ob43 : ((-1) : Int) ≤ (th 43) ∧ (th 43) ≤ 1 := (b0_43 hT :); have oc0 : (0 : Int32).toInt = 0 := (by decide); obtain ⟨o0a, o0b⟩ := (hv2_11 : In _ _ _); obtain ⟨o1a, o1b⟩ := (hv3_11 : In _ _ _); obtain ⟨o2a, o2b⟩ := (hv4_11 : In _ _ _); obtain ⟨o3a, o3b⟩ := (hv5_11 : In _ _ _); obtain ⟨o4a, o4b⟩ := (hb22 : In _ _ _); obtain ⟨o5a, o5b⟩ := (hv8_11 : In _ _ _); obtain ⟨o6a, o6b⟩ := (hv9_11 : In _ _ _); obtain ⟨o7a, o7b⟩ := (hv13_11 : In _ _ _); omega))) cV_X11_digitAt wg_1577 ⟨Nat.le_of_ble_eq_true rfl, Nat.le_of_ble_eq_true rfl⟩ hG hE hA hP hD hS (hst.1 255 (by decide)) hf12 rfl rfl hl.1 (As := [.int 0]) (rest := []) rfl (Nat.le_of_ble_eq_true rfl) dX11_digit_14 ⟨Nat.le_of_ble_eq_true rfl, Nat.le_of_ble_eq_true rfl⟩) hA hD hS (fun r23 L24 f25 H locs hp26 hP hD hS => ?_)
    obtain ⟨eL27L, eL27T, eL27R, eL27X0⟩ := hp26
    have eL27L : L24 = L := eL27L
    have eL27T : f25 = f5 := eL27T
    rw [eL27L, eL27T] at hP hD
    have eL27R : In r23 (-176) 79 := eL27R
    obtain ⟨rw28, hf29, hc30⟩ := hT.2.2 1 (by decide)
    have hda31 : r23.toInt = (rw28 (zz9 + 0).toNat).toInt - 48 := (eL27X0 _ hf29)
    refine lv_i2l hx hb dX11_digit_17 rfl ?_
    refine lv_iload_n hx hb dX11_digit_18 rfl (lv_at hl 1 rfl) ?_
    refine lv_i2l (v := 0) hx hb dX11_digit_19 (by decide) ?_
    refine lv_iload_n hx hb dX11_digit_20 rfl (lv_at hl 2 rfl) ?_
    refine lv_i2l (v := 2) hx hb dX11_digit_21 (by decide) ?_
    refine call_i (run_S (rm := rm_X11_isIn) hx hb hml hown hts (s_X11_isIn l g ad (gset (gset (gset th 37 zz8) 40 zz9) 41 zz10) _ _ _ (r23.toInt64) 0 2 hst hT ) cS_X11_isIn wg_1581 ⟨Nat.le_of_ble_eq_true rfl, Nat.le_of_ble_eq_true rfl⟩ hG hE hA hP hD hS rfl hl.1 (As := [.long (r23.toInt64), .long 0, .long 2]) (rest := []) rfl (Nat.le_of_ble_eq_true rfl) dX11_digit_22 ⟨Nat.le_of_ble_eq_true rfl, Nat.le_of_ble_eq_true rfl⟩) hA hD hS (fun r32 L33 f34 H locs hp35 hP hD hS => ?_)
    obtain ⟨eL36L, eL36T, eL36R, eL36X0, eL36X1⟩ := hp35
    have eL36L : L33 = L := eL36L
    have eL36T : f34 = f5 := eL36T
    rw [eL36L, eL36T] at hP hD
    have eL36R : In r32 0 1 := eL36R
    have hii37 : r32.toInt = 0 ∨ (0 ≤ r23.toInt ∧ r23.toInt ≤ 2) := by have z := eL36X0; rw [i2l_t r23, (by decide : (0 : Int64).toInt = 0), (by decide : (2 : Int64).toInt = 2)] at z; exact z
    have hii37w : ¬ r32 = 0 → In r23 0 2 := fun c => by have c2 := i32_ne c; have e0 : (0 : Int32).toInt = 0 := (by decide); exact ⟨by omega, by omega⟩
    refine lv_if_ne (tgt := 38) hx hb dX11_digit_25 (by decide) (fun c38 => ?_) (fun c38 => ?_)
    ·
      have oc0 : (0 : Int32).toInt = 0 := by decide
      have cc39 : r32.toInt ≠ (0 : Int32).toInt := i32_ne c38
      have hb40 : In r32 1 1 := In.ne1 eL36R (⟨by decide, by decide⟩ : In 0 0 0) cc39 (by decide) (by decide)
      have hb41 : In r23 0 2 := In.both (hii37w c38) eL27R (by decide) (by decide)
      refine lv_aload_n hx hb dX11_digit_38 rfl (lv_at hl 0 rfl) ?_
      refine lv_iconst (v := 0) hx hb dX11_digit_39 (by decide) ?_
      refine call_i (run_V (rm := rm_X11_digitAt) hx hb hml hown hts (s_X11_digitAt l g ad (gset (gset (gset th 37 zz8) 40 zz9) 41 zz10) _ _ _ 0 hst hT (⟨by decide, by decide⟩ : In 0 0 499) (show zz9 + (0 : Int32).toInt < 500 from (by have ob13 : (0 : Int) ≤ (th 13) ∧ (th 13) ≤ 500 := (b0_13 hT :); have ob35 : (0 : Int) ≤ (th 35) ∧ (th 35) ≤ 63 := (b0_35 hT :); have ob36 : (0 : Int) ≤ (th 36) ∧ (th 36) ≤ 20 := (b0_36 hT :); have ob37 : (0 : Int) ≤ zz8 ∧ zz8 ≤ 500 := (b0_37 hT :); have ob40 : (0 : Int) ≤ zz9 ∧ zz9 ≤ 500 := (b0_40 hT :); have ob41 : (0 : Int) ≤ zz10 ∧ zz10 ≤ 500 := (b0_41 hT :); have ob42 : ((-1) : Int) ≤ (th 42) ∧ (th 42) ≤ 500 := (b0_42 hT :); have ob43 : ((-1) : Int) ≤ (th 43) ∧ (th 43) ≤ 1 := (b0_43 hT :); have oc0 : (0 : Int32).toInt = 0 := (by decide); obtain ⟨o0a, o0b⟩ := (hv2_11 : In _ _ _); obtain ⟨o1a, o1b⟩ := (hv3_11 : In _ _ _); obtain ⟨o2a, o2b⟩ := (hv4_11 : In _ _ _); obtain ⟨o3a, o3b⟩ := (hv5_11 : In _ _ _); obtain ⟨o4a, o4b⟩ := (hb22 : In _ _ _); obtain ⟨o5a, o5b⟩ := (hv8_11 : In _ _ _); obtain ⟨o6a, o6b⟩ := (hv9_11 : In _ _ _); obtain ⟨o7a, o7b⟩ := (hv13_11 : In _ _ _); omega))) cV_X11_digitAt wg_1577 ⟨Nat.le_of_ble_eq_true rfl, Nat.le_of_ble_eq_true rfl⟩ hG hE hA hP hD hS (hst.1 255 (by decide)) hf12 rfl rfl hl.1 (As := [.int 0]) (rest := []) rfl (Nat.le_of_ble_eq_true rfl) dX11_digit_40 ⟨Nat.le_of_ble_eq_true rfl, Nat.le_of_ble_eq_true rfl⟩) hA hD hS (fun r42 L43 f44 H locs hp45 hP hD hS => ?_)
      obtain ⟨eL46L, eL46T, eL46R, eL46X0⟩ := hp45
      have eL46L : L43 = L := eL46L
      have eL46T : f44 = f5 := eL46T
      rw [eL46L, eL46T] at hP hD
      have eL46R : In r42 (-176) 79 := eL46R
      have hda47 : r42.toInt = (rw28 (zz9 + 0).toNat).toInt - 48 := (eL46X0 _ hf29)
      exact ret_i (ty := .int) hx hb hr hlocks (rfl) hP hD hS (Nat.le_of_ble_eq_true rfl) (Nat.le_of_ble_eq_true rfl) (⟨rfl, ⟨zz8, zz9, zz10, (th 42), (show (th 37 ≤ zz9 ∧ 0 ≤ zz9 ∧ 0 ≤ zz10 ∧ zz9 + zz10 = zz8 ∧ zz8 ≤ 500) from (by have ob13 : (0 : Int) ≤ (th 13) ∧ (th 13) ≤ 500 := (b0_13 hT :); have ob35 : (0 : Int) ≤ (th 35) ∧ (th 35) ≤ 63 := (b0_35 hT :); have ob36 : (0 : Int) ≤ (th 36) ∧ (th 36) ≤ 20 := (b0_36 hT :); have ob37 : (0 : Int) ≤ zz8 ∧ zz8 ≤ 500 := (b0_37 hT :); have ob40 : (0 : Int) ≤ zz9 ∧ zz9 ≤ 500 := (b0_40 hT :); have ob41 : (0 : Int) ≤ zz10 ∧ zz10 ≤ 500 := (b0_41 hT :); have ob42 : ((-1) : Int) ≤ (th 42) ∧ (th 42) ≤ 500 := (b0_42 hT :); have ob43 : ((-1) : Int) ≤ (th 43) ∧ (th 43) ≤ 1 := (b0_43 hT :); obtain ⟨o0a, o0b⟩ := (eL46R : In _ _ _); obtain ⟨o1a, o1b⟩ := (hv2_11 : In _ _ _); obtain ⟨o2a, o2b⟩ := (hv3_11 : In _ _ _); obtain ⟨o3a, o3b⟩ := (hv4_11 : In _ _ _); obtain ⟨o4a, o4b⟩ := (hv5_11 : In _ _ _); obtain ⟨o5a, o5b⟩ := (hb22 : In _ _ _); obtain ⟨o6a, o6b⟩ := (hv8_11 : In _ _ _); obtain ⟨o7a, o7b⟩ := (hv9_11 : In _ _ _); obtain ⟨o8a, o8b⟩ := (hv13_11 : In _ _ _); omega)), TI.cast hT (by funext q; by_cases hq0 : q = 41; (subst hq0; rfl); by_cases hq1 : q = 40; (subst hq1; rfl); by_cases hq2 : q = 37; (subst hq2; rfl); by_cases hq3 : q = 42; (subst hq3; rfl); simp only [gset, if_neg hq0, if_neg hq1, if_neg hq2, if_neg hq3])⟩, hfr, (In.mk (by have ob13 : (0 : Int) ≤ (th 13) ∧ (th 13) ≤ 500 := (b0_13 hT :); have ob35 : (0 : Int) ≤ (th 35) ∧ (th 35) ≤ 63 := (b0_35 hT :); have ob36 : (0 : Int) ≤ (th 36) ∧ (th 36) ≤ 20 := (b0_36 hT :); have ob37 : (0 : Int) ≤ zz8 ∧ zz8 ≤ 500 := (b0_37 hT :); have ob40 : (0 : Int) ≤ zz9 ∧ zz9 ≤ 500 := (b0_40 hT :); have ob41 : (0 : Int) ≤ zz10 ∧ zz10 ≤ 500 := (b0_41 hT :); have ob42 : ((-1) : Int) ≤ (th 42) ∧ (th 42) ≤ 500 := (b0_42 hT :); have ob43 : ((-1) : Int) ≤ (th 43) ∧ (th 43) ≤ 1 := (b0_43 hT :); obtain ⟨o0a, o0b⟩ := (eL46R : In _ _ _); obtain ⟨o1a, o1b⟩ := (hv2_11 : In _ _ _); obtain ⟨o2a, o2b⟩ := (hv3_11 : In _ _ _); obtain ⟨o3a, o3b⟩ := (hv4_11 : In _ _ _); obtain ⟨o4a, o4b⟩ := (hv5_11 : In _ _ _); obtain ⟨o5a, o5b⟩ := (hb22 : In _ _ _); obtain ⟨o6a, o6b⟩ := (hv8_11 : In _ _ _); obtain ⟨o7a, o7b⟩ := (hv9_11 : In _ _ _); obtain ⟨o8a, o8b⟩ := (hv13_11 : In _ _ _); omega) (by have ob13 : (0 : Int) ≤ (th 13) ∧ (th 13) ≤ 500 := (b0_13 hT :); have ob35 : (0 : Int) ≤ (th 35) ∧ (th 35) ≤ 63 := (b0_35 hT :); have ob36 : (0 : Int) ≤ (th 36) ∧ (th 36) ≤ 20 := (b0_36 hT :); have ob37 : (0 : Int) ≤ zz8 ∧ zz8 ≤ 500 := (b0_37 hT :); have ob40 : (0 : Int) ≤ zz9 ∧ zz9 ≤ 500 := (b0_40 hT :); have ob41 : (0 : Int) ≤ zz10 ∧ zz10 ≤ 500 := (b0_41 hT :); have ob42 : ((-1) : Int) ≤ (th 42) ∧ (th 42) ≤ 500 := (b0_42 hT :); have ob43 : ((-1) : Int) ≤ (th 43) ∧ (th 43) ≤ 1 := (b0_43 hT :); obtain ⟨o0a, o0b⟩ := (eL46R : In _ _ _); obtain ⟨o1a, o1b⟩ := (hv2_11 : In _ _ _); obtain ⟨o2a, o2b⟩ := (hv3_11 : In _ _ _); obtain ⟨o3a, o3b⟩ := (hv4_11 : In _ _ _); obtain ⟨o4a, o4b⟩ := (hv5_11 : In _ _ _); obtain ⟨o5a, o5b⟩ := (hb22 : In _ _ _); obtain ⟨o6a, o6b⟩ := (hv8_11 : In _ _ _); obtain ⟨o7a, o7b⟩ := (hv9_11 : In _ _ _); obtain ⟨o8a, o8b⟩ := (hv13_11 : In _ _ _); omega))⟩) dX11_digit_43
    ·
      have oc0 : (0 : Int32).toInt = 0 := by decide
      have cc48 : r32.toInt = (0 : Int32).toInt := congrArg Int32.toInt c38
      have hb49 : In r32 0 0 := In.eq1 eL36R (⟨by decide, by decide⟩ : In 0 0 0) cc48 (by decide) (by decide)
      exact hJ28 _ _ _ hP hD hS (lv_sub hl [0, 1, 2] rfl)

abbrev rm_X11_digit_0_8 : Room := { frames := 3, cells := 0, slots := 0, locals := 61 }
abbrev po_X11_digit_0_8 (g : GG) (ad : Nat → Nat) (th : Nat → Int) (L : List Nat) (f : HP)  : Int32 → (List Nat × HP) → Prop := fun r u => u.1 = L ∧ (∃ za zr zl ze : Int, ((th 37 ≤ zr ∧ 0 ≤ zr ∧ 0 ≤ zl ∧ zr + zl = za ∧ za ≤ 500)) ∧ TI g ad (gset (gset (gset (gset th 37 za) 40 zr) 41 zl) 42 ze) u.2) ∧ (∀ b, b ≠ (ad 255) → u.2 b = f b) ∧ In r 0 8
set_option maxHeartbeats 4000000 in
set_option maxRecDepth 100000 in
theorem s_X11_digit_0_8 (l : Launch) (g : GG) (ad : Nat → Nat) (th : Nat → Int) (L : List Nat) (f : HP) (sz : Nat)  (hst : ST ad L) (hT : TI g ad th f)  : MtI l g yX11_digit cX11_digit 3 (some .int) rm_X11_digit_0_8 [.ref (ad 255), .int 0, .int 8] L f sz (po_X11_digit_0_8 g ad th L f ) := by
  refine MtI.of (by decide +kernel) (Nat.le_of_ble_eq_true rfl) ?_
  intro p e s m below meth c A hEn hP hD hS ls hl
  obtain ⟨hx, hb, hr, hml, hown, hlocks, hts, hG, hA, hE, hnm⟩ := hEn
  have hown : s.vm.findClass "RulerWordModel" = some m.cls := hown
  have hl : lv_has ls 3 [(0, .ref (ad 255)), (1, .int 0), (2, .int 8)] := hl
  have hfr : (∀ b, b ≠ (ad 255) → f b = f b) := fun b z0_ => rfl
  refine lv_aload_n hx hb dX11_digit_0 rfl (lv_at hl 0 rfl) ?_
  refine M0e hT (fun v0_1 v2_1 v3_1 v4_1 v5_1 v6_1 v8_1 v9_1 v12_1 v13_1 v14_1 v15_1 v16_1 v17_1 v18_1 v19_1 v20_1 v21_1 v22_1 v23_1 v25_1 v36_1 v37_1 v38_1 v39_1 v40_1 v45_1 v46_1 v47_1 v48_1 v50_1 v51_1 v53_1 v55_1 hf2 hv0_1 hv2_1 hg2_1 hv3_1 hg3_1 hv4_1 hg4_1 hv5_1 hg5_1 hv6_1 hg6_1 hv8_1 hg8_1 hv9_1 hg9_1 hv12_1 hv13_1 hg13_1 hv14_1 hg14_1 hv15_1 hg15_1 hv17_1 hg17_1 hv20_1 hg20_1 hv23_1 hg23_1 hv25_1 hg25_1 hv36_1 hg36_1 hv47_1 hg47_1 hv48_1 hg48_1 hv53_1 hg53_1 hv55_1 hg55_1 hrel0_1 => ?_)
  have hg15_1 : v15_1.toInt = th 11 := hg15_1
  have hg17_1 : v17_1.toInt = th 12 := hg17_1
  have hg20_1 : v20_1.toInt = th 14 := hg20_1
  refine call_v (run_V (rm := rm_X11_digits) hx hb hml hown hts (s_X11_digits l g ad th _ _ _  hst hT ) cV_X11_digits wg_1570 ⟨Nat.le_of_ble_eq_true rfl, Nat.le_of_ble_eq_true rfl⟩ hG hE hA hP hD hS (hst.1 255 (by decide)) hf2 rfl rfl hl.1 (As := []) (rest := []) rfl (Nat.le_of_ble_eq_true rfl) dX11_digit_1 ⟨Nat.le_of_ble_eq_true rfl, Nat.le_of_ble_eq_true rfl⟩) hA hD hS (fun L4 f5 H locs hp6 hP hD hS => ?_)
  obtain ⟨eL7L, eL7T, eL7F⟩ := hp6
  have eL7L : L4 = L := eL7L
  rw [eL7L] at hP hD
  obtain ⟨zz8, zz9, zz10, hzz8, eL7T⟩ := eL7T
  have hT : TI g ad (gset (gset (gset th 37 zz8) 40 zz9) 41 zz10) f5 := eL7T
  have eL7F : ∀ b, b ≠ (ad 255) → f5 b = f b := eL7F
  have hfr : (∀ b, b ≠ (ad 255) → f5 b = f b) := fun b z0_ => (eL7F b z0_).trans (hfr b z0_)
  refine lv_aload_n hx hb dX11_digit_4 rfl (lv_at hl 0 rfl) ?_
  refine M0e hT (fun v0_11 v2_11 v3_11 v4_11 v5_11 v6_11 v8_11 v9_11 v12_11 v13_11 v14_11 v15_11 v16_11 v17_11 v18_11 v19_11 v20_11 v21_11 v22_11 v23_11 v25_11 v36_11 v37_11 v38_11 v39_11 v40_11 v45_11 v46_11 v47_11 v48_11 v50_11 v51_11 v53_11 v55_11 hf12 hv0_11 hv2_11 hg2_11 hv3_11 hg3_11 hv4_11 hg4_11 hv5_11 hg5_11 hv6_11 hg6_11 hv8_11 hg8_11 hv9_11 hg9_11 hv12_11 hv13_11 hg13_11 hv14_11 hg14_11 hv15_11 hg15_11 hv17_11 hg17_11 hv20_11 hg20_11 hv23_11 hg23_11 hv25_11 hg25_11 hv36_11 hg36_11 hv47_11 hg47_11 hv48_11 hg48_11 hv53_11 hg53_11 hv55_11 hg55_11 hrel0_11 => ?_)
  have hg15_11 : v15_11.toInt = th 11 := hg15_11
  have hg17_11 : v17_11.toInt = th 12 := hg17_11
  have hg20_11 : v20_11.toInt = th 14 := hg20_11
  refine pl_get (v := .int v6_11) hx hb hts (fun w h => mT (inX11 w h)) hown hG.1 hP (hst.1 255 (by decide)) hf12 rfl 6 (by decide) (hts _ (mT wg_1342)) (fun _ h => h) rfl dX11_digit_5 ?_
  have hg6_11 : v6_11.toInt = zz10 := hg6_11
  refine lv_iconst (v := 1) hx hb dX11_digit_8 (by decide) ?_
  have hJ28 : ∀ (H : Heap) (locs : List Loc) (ls : Array Slot), va_P g.1 vwCl (va_pl L f5) H → va_D A (va_pl L f5) → va_S A s.heap H locs → lv_has ls 3 [(0, .ref (ad 255)), (1, .int 0), (2, .int 8)] → W p l e rm_X11_digit_0_8 s m [.ref (ad 255), .int 0, .int 8].toArray below meth c H locs 0 0 (MQ below (va_Qi (po_X11_digit_0_8 g ad th L f ) (PstB g A) A) [.ref (ad 255), .int 0, .int 8].toArray s rm_X11_digit_0_8.cells rm_X11_digit_0_8.slots A) (F0 m 28 ls []) := by
    intro H locs ls hP hD hS hl
    refine lv_aload_n hx hb dX11_digit_28 rfl (lv_at hl 0 rfl) ?_
    refine lv_aload_n hx hb dX11_digit_29 rfl (lv_at hl 0 rfl) ?_
    refine pl_get (v := .int v5_11) hx hb hts (fun w h => mT (inX11 w h)) hown hG.1 hP (hst.1 255 (by decide)) hf12 rfl 5 (by decide) (hts _ (mT wg_1341)) (fun _ h => h) rfl dX11_digit_30 ?_
    have hg5_11 : v5_11.toInt = zz9 := hg5_11
    refine call_v (run_V (rm := rm_X11_fails) hx hb hml hown hts (s_X11_fails l g ad (gset (gset (gset th 37 zz8) 40 zz9) 41 zz10) _ _ _ v5_11 hst hT hv5_11) cV_X11_fails wg_1545 ⟨Nat.le_of_ble_eq_true rfl, Nat.le_of_ble_eq_true rfl⟩ hG hE hA hP hD hS (hst.1 255 (by decide)) hf12 rfl rfl hl.1 (As := [.int v5_11]) (rest := []) rfl (Nat.le_of_ble_eq_true rfl) dX11_digit_33 ⟨Nat.le_of_ble_eq_true rfl, Nat.le_of_ble_eq_true rfl⟩) hA hD hS (fun L14 f15 H locs hp16 hP hD hS => ?_)
    obtain ⟨eL17L, eL17T, eL17F⟩ := hp16
    have eL17L : L14 = L := eL17L
    rw [eL17L] at hP hD
    obtain ⟨zz18, hzz18, eL17T⟩ := eL17T
    have hzz18 : 0 ≤ zz18 := hzz18
    have hT : TI g ad (gset (gset (gset (gset th 37 zz8) 40 zz9) 41 zz10) 42 zz18) f15 := eL17T
    have eL17F : ∀ b, b ≠ (ad 255) → f15 b = f5 b := eL17F
    have hfr : (∀ b, b ≠ (ad 255) → f15 b = f b) := fun b z0_ => (eL17F b z0_).trans (hfr b z0_)
    refine lv_iload_n hx hb dX11_digit_36 rfl (lv_at hl 1 rfl) ?_
    exact ret_i (ty := .int) hx hb hr hlocks (rfl) hP hD hS (Nat.le_of_ble_eq_true rfl) (Nat.le_of_ble_eq_true rfl) (⟨rfl, ⟨zz8, zz9, zz10, zz18, (show (th 37 ≤ zz9 ∧ 0 ≤ zz9 ∧ 0 ≤ zz10 ∧ zz9 + zz10 = zz8 ∧ zz8 ≤ 500) from (by have ob13 : (0 : Int) ≤ (th 13) ∧ (th 13) ≤ 500 := (b0_13 hT :); have ob35 : (0 : Int) ≤ (th 35) ∧ (th 35) ≤ 63 := (b0_35 hT :); have ob36 : (0 : Int) ≤ (th 36) ∧ (th 36) ≤ 20 := (b0_36 hT :); have ob37 : (0 : Int) ≤ zz8 ∧ zz8 ≤ 500 := (b0_37 hT :); have ob40 : (0 : Int) ≤ zz9 ∧ zz9 ≤ 500 := (b0_40 hT :); have ob41 : (0 : Int) ≤ zz10 ∧ zz10 ≤ 500 := (b0_41 hT :); have ob42 : ((-1) : Int) ≤ zz18 ∧ zz18 ≤ 500 := (b0_42 hT :); have ob43 : ((-1) : Int) ≤ (th 43) ∧ (th 43) ≤ 1 := (b0_43 hT :); have oc0 : (0 : Int32).toInt = 0 := (by decide); omega)), TI.cast hT (by funext q; by_cases hq0 : q = 42; (subst hq0; rfl); by_cases hq1 : q = 41; (subst hq1; rfl); by_cases hq2 : q = 40; (subst hq2; rfl); by_cases hq3 : q = 37; (subst hq3; rfl); simp only [gset, if_neg hq0, if_neg hq1, if_neg hq2, if_neg hq3])⟩, hfr, (⟨by decide, by decide⟩ : In 0 0 8)⟩) dX11_digit_37
  refine lv_icmp_ne (tgt := 28) hx hb dX11_digit_9 (by decide) (fun c19 => ?_) (fun c19 => ?_)
  ·
    have oc1 : (1 : Int32).toInt = 1 := by decide
    have cc20 : v6_11.toInt ≠ (1 : Int32).toInt := i32_ne c19
    exact hJ28 _ _ _ hP hD hS (lv_sub hl [0, 1, 2] rfl)
  ·
    have oc1 : (1 : Int32).toInt = 1 := by decide
    have cc21 : v6_11.toInt = (1 : Int32).toInt := congrArg Int32.toInt c19
    have hb22 : In v6_11 1 1 := In.eq1 hv6_11 (⟨by decide, by decide⟩ : In 1 1 1) cc21 (by decide) (by decide)
    refine lv_aload_n hx hb dX11_digit_12 rfl (lv_at hl 0 rfl) ?_
    refine lv_iconst (v := 0) hx hb dX11_digit_13 (by decide) ?_
    refine call_i (run_V (rm := rm_X11_digitAt) hx hb hml hown hts (s_X11_digitAt l g ad (gset (gset (gset th 37 zz8) 40 zz9) 41 zz10) _ _ _ 0 hst hT (⟨by decide, by decide⟩ : In 0 0 499) (show zz9 + (0 : Int32).toInt < 500 from (by have ob13 : (0 : Int) ≤ (th 13) ∧ (th 13) ≤ 500 := (b0_13 hT :); have ob35 : (0 : Int) ≤ (th 35) ∧ (th 35) ≤ 63 := (b0_35 hT :); have ob36 : (0 : Int) ≤ (th 36) ∧ (th 36) ≤ 20 := (b0_36 hT :); have ob37 : (0 : Int) ≤ zz8 ∧ zz8 ≤ 500 := (b0_37 hT :); have ob40 : (0 : Int) ≤ zz9 ∧ zz9 ≤ 500 := (b0_40 hT :); have ob41 : (0 : Int) ≤ zz10 ∧ zz10 ≤ 500 := (b0_41 hT :); have ob42 : ((-1) : Int) ≤ (th 42) ∧ (th 42) ≤ 500 := (b0_42 hT :); have ob43 : ((-1) : Int) ≤ (th 43) ∧ (th 43) ≤ 1 := (b0_43 hT :); have oc0 : (0 : Int32).toInt = 0 := (by decide); obtain ⟨o0a, o0b⟩ := (hv2_11 : In _ _ _); obtain ⟨o1a, o1b⟩ := (hv3_11 : In _ _ _); obtain ⟨o2a, o2b⟩ := (hv4_11 : In _ _ _); obtain ⟨o3a, o3b⟩ := (hv5_11 : In _ _ _); obtain ⟨o4a, o4b⟩ := (hb22 : In _ _ _); obtain ⟨o5a, o5b⟩ := (hv8_11 : In _ _ _); obtain ⟨o6a, o6b⟩ := (hv9_11 : In _ _ _); obtain ⟨o7a, o7b⟩ := (hv13_11 : In _ _ _); omega))) cV_X11_digitAt wg_1577 ⟨Nat.le_of_ble_eq_true rfl, Nat.le_of_ble_eq_true rfl⟩ hG hE hA hP hD hS (hst.1 255 (by decide)) hf12 rfl rfl hl.1 (As := [.int 0]) (rest := []) rfl (Nat.le_of_ble_eq_true rfl) dX11_digit_14 ⟨Nat.le_of_ble_eq_true rfl, Nat.le_of_ble_eq_true rfl⟩) hA hD hS (fun r23 L24 f25 H locs hp26 hP hD hS => ?_)
    obtain ⟨eL27L, eL27T, eL27R, eL27X0⟩ := hp26
    have eL27L : L24 = L := eL27L
    have eL27T : f25 = f5 := eL27T
    rw [eL27L, eL27T] at hP hD
    have eL27R : In r23 (-176) 79 := eL27R
    obtain ⟨rw28, hf29, hc30⟩ := hT.2.2 1 (by decide)
    have hda31 : r23.toInt = (rw28 (zz9 + 0).toNat).toInt - 48 := (eL27X0 _ hf29)
    refine lv_i2l hx hb dX11_digit_17 rfl ?_
    refine lv_iload_n hx hb dX11_digit_18 rfl (lv_at hl 1 rfl) ?_
    refine lv_i2l (v := 0) hx hb dX11_digit_19 (by decide) ?_
    refine lv_iload_n hx hb dX11_digit_20 rfl (lv_at hl 2 rfl) ?_
    refine lv_i2l (v := 8) hx hb dX11_digit_21 (by decide) ?_
    refine call_i (run_S (rm := rm_X11_isIn) hx hb hml hown hts (s_X11_isIn l g ad (gset (gset (gset th 37 zz8) 40 zz9) 41 zz10) _ _ _ (r23.toInt64) 0 8 hst hT ) cS_X11_isIn wg_1581 ⟨Nat.le_of_ble_eq_true rfl, Nat.le_of_ble_eq_true rfl⟩ hG hE hA hP hD hS rfl hl.1 (As := [.long (r23.toInt64), .long 0, .long 8]) (rest := []) rfl (Nat.le_of_ble_eq_true rfl) dX11_digit_22 ⟨Nat.le_of_ble_eq_true rfl, Nat.le_of_ble_eq_true rfl⟩) hA hD hS (fun r32 L33 f34 H locs hp35 hP hD hS => ?_)
    obtain ⟨eL36L, eL36T, eL36R, eL36X0, eL36X1⟩ := hp35
    have eL36L : L33 = L := eL36L
    have eL36T : f34 = f5 := eL36T
    rw [eL36L, eL36T] at hP hD
    have eL36R : In r32 0 1 := eL36R
    have hii37 : r32.toInt = 0 ∨ (0 ≤ r23.toInt ∧ r23.toInt ≤ 8) := by have z := eL36X0; rw [i2l_t r23, (by decide : (0 : Int64).toInt = 0), (by decide : (8 : Int64).toInt = 8)] at z; exact z
    have hii37w : ¬ r32 = 0 → In r23 0 8 := fun c => by have c2 := i32_ne c; have e0 : (0 : Int32).toInt = 0 := (by decide); exact ⟨by omega, by omega⟩
    refine lv_if_ne (tgt := 38) hx hb dX11_digit_25 (by decide) (fun c38 => ?_) (fun c38 => ?_)
    ·
      have oc0 : (0 : Int32).toInt = 0 := by decide
      have cc39 : r32.toInt ≠ (0 : Int32).toInt := i32_ne c38
      have hb40 : In r32 1 1 := In.ne1 eL36R (⟨by decide, by decide⟩ : In 0 0 0) cc39 (by decide) (by decide)
      have hb41 : In r23 0 8 := In.both (hii37w c38) eL27R (by decide) (by decide)
      refine lv_aload_n hx hb dX11_digit_38 rfl (lv_at hl 0 rfl) ?_
      refine lv_iconst (v := 0) hx hb dX11_digit_39 (by decide) ?_
      refine call_i (run_V (rm := rm_X11_digitAt) hx hb hml hown hts (s_X11_digitAt l g ad (gset (gset (gset th 37 zz8) 40 zz9) 41 zz10) _ _ _ 0 hst hT (⟨by decide, by decide⟩ : In 0 0 499) (show zz9 + (0 : Int32).toInt < 500 from (by have ob13 : (0 : Int) ≤ (th 13) ∧ (th 13) ≤ 500 := (b0_13 hT :); have ob35 : (0 : Int) ≤ (th 35) ∧ (th 35) ≤ 63 := (b0_35 hT :); have ob36 : (0 : Int) ≤ (th 36) ∧ (th 36) ≤ 20 := (b0_36 hT :); have ob37 : (0 : Int) ≤ zz8 ∧ zz8 ≤ 500 := (b0_37 hT :); have ob40 : (0 : Int) ≤ zz9 ∧ zz9 ≤ 500 := (b0_40 hT :); have ob41 : (0 : Int) ≤ zz10 ∧ zz10 ≤ 500 := (b0_41 hT :); have ob42 : ((-1) : Int) ≤ (th 42) ∧ (th 42) ≤ 500 := (b0_42 hT :); have ob43 : ((-1) : Int) ≤ (th 43) ∧ (th 43) ≤ 1 := (b0_43 hT :); have oc0 : (0 : Int32).toInt = 0 := (by decide); obtain ⟨o0a, o0b⟩ := (hv2_11 : In _ _ _); obtain ⟨o1a, o1b⟩ := (hv3_11 : In _ _ _); obtain ⟨o2a, o2b⟩ := (hv4_11 : In _ _ _); obtain ⟨o3a, o3b⟩ := (hv5_11 : In _ _ _); obtain ⟨o4a, o4b⟩ := (hb22 : In _ _ _); obtain ⟨o5a, o5b⟩ := (hv8_11 : In _ _ _); obtain ⟨o6a, o6b⟩ := (hv9_11 : In _ _ _); obtain ⟨o7a, o7b⟩ := (hv13_11 : In _ _ _); omega))) cV_X11_digitAt wg_1577 ⟨Nat.le_of_ble_eq_true rfl, Nat.le_of_ble_eq_true rfl⟩ hG hE hA hP hD hS (hst.1 255 (by decide)) hf12 rfl rfl hl.1 (As := [.int 0]) (rest := []) rfl (Nat.le_of_ble_eq_true rfl) dX11_digit_40 ⟨Nat.le_of_ble_eq_true rfl, Nat.le_of_ble_eq_true rfl⟩) hA hD hS (fun r42 L43 f44 H locs hp45 hP hD hS => ?_)
      obtain ⟨eL46L, eL46T, eL46R, eL46X0⟩ := hp45
      have eL46L : L43 = L := eL46L
      have eL46T : f44 = f5 := eL46T
      rw [eL46L, eL46T] at hP hD
      have eL46R : In r42 (-176) 79 := eL46R
      have hda47 : r42.toInt = (rw28 (zz9 + 0).toNat).toInt - 48 := (eL46X0 _ hf29)
      exact ret_i (ty := .int) hx hb hr hlocks (rfl) hP hD hS (Nat.le_of_ble_eq_true rfl) (Nat.le_of_ble_eq_true rfl) (⟨rfl, ⟨zz8, zz9, zz10, (th 42), (show (th 37 ≤ zz9 ∧ 0 ≤ zz9 ∧ 0 ≤ zz10 ∧ zz9 + zz10 = zz8 ∧ zz8 ≤ 500) from (by have ob13 : (0 : Int) ≤ (th 13) ∧ (th 13) ≤ 500 := (b0_13 hT :); have ob35 : (0 : Int) ≤ (th 35) ∧ (th 35) ≤ 63 := (b0_35 hT :); have ob36 : (0 : Int) ≤ (th 36) ∧ (th 36) ≤ 20 := (b0_36 hT :); have ob37 : (0 : Int) ≤ zz8 ∧ zz8 ≤ 500 := (b0_37 hT :); have ob40 : (0 : Int) ≤ zz9 ∧ zz9 ≤ 500 := (b0_40 hT :); have ob41 : (0 : Int) ≤ zz10 ∧ zz10 ≤ 500 := (b0_41 hT :); have ob42 : ((-1) : Int) ≤ (th 42) ∧ (th 42) ≤ 500 := (b0_42 hT :); have ob43 : ((-1) : Int) ≤ (th 43) ∧ (th 43) ≤ 1 := (b0_43 hT :); obtain ⟨o0a, o0b⟩ := (eL46R : In _ _ _); obtain ⟨o1a, o1b⟩ := (hv2_11 : In _ _ _); obtain ⟨o2a, o2b⟩ := (hv3_11 : In _ _ _); obtain ⟨o3a, o3b⟩ := (hv4_11 : In _ _ _); obtain ⟨o4a, o4b⟩ := (hv5_11 : In _ _ _); obtain ⟨o5a, o5b⟩ := (hb22 : In _ _ _); obtain ⟨o6a, o6b⟩ := (hv8_11 : In _ _ _); obtain ⟨o7a, o7b⟩ := (hv9_11 : In _ _ _); obtain ⟨o8a, o8b⟩ := (hv13_11 : In _ _ _); omega)), TI.cast hT (by funext q; by_cases hq0 : q = 41; (subst hq0; rfl); by_cases hq1 : q = 40; (subst hq1; rfl); by_cases hq2 : q = 37; (subst hq2; rfl); by_cases hq3 : q = 42; (subst hq3; rfl); simp only [gset, if_neg hq0, if_neg hq1, if_neg hq2, if_neg hq3])⟩, hfr, (In.mk (by have ob13 : (0 : Int) ≤ (th 13) ∧ (th 13) ≤ 500 := (b0_13 hT :); have ob35 : (0 : Int) ≤ (th 35) ∧ (th 35) ≤ 63 := (b0_35 hT :); have ob36 : (0 : Int) ≤ (th 36) ∧ (th 36) ≤ 20 := (b0_36 hT :); have ob37 : (0 : Int) ≤ zz8 ∧ zz8 ≤ 500 := (b0_37 hT :); have ob40 : (0 : Int) ≤ zz9 ∧ zz9 ≤ 500 := (b0_40 hT :); have ob41 : (0 : Int) ≤ zz10 ∧ zz10 ≤ 500 := (b0_41 hT :); have ob42 : ((-1) : Int) ≤ (th 42) ∧ (th 42) ≤ 500 := (b0_42 hT :); have ob43 : ((-1) : Int) ≤ (th 43) ∧ (th 43) ≤ 1 := (b0_43 hT :); obtain ⟨o0a, o0b⟩ := (eL46R : In _ _ _); obtain ⟨o1a, o1b⟩ := (hv2_11 : In _ _ _); obtain ⟨o2a, o2b⟩ := (hv3_11 : In _ _ _); obtain ⟨o3a, o3b⟩ := (hv4_11 : In _ _ _); obtain ⟨o4a, o4b⟩ := (hv5_11 : In _ _ _); obtain ⟨o5a, o5b⟩ := (hb22 : In _ _ _); obtain ⟨o6a, o6b⟩ := (hv8_11 : In _ _ _); obtain ⟨o7a, o7b⟩ := (hv9_11 : In _ _ _); obtain ⟨o8a, o8b⟩ := (hv13_11 : In _ _ _); omega) (by have ob13 : (0 : Int) ≤ (th 13) ∧ (th 13) ≤ 500 := (b0_13 hT :); have ob35 : (0 : Int) ≤ (th 35) ∧ (th 35) ≤ 63 := (b0_35 hT :); have ob36 : (0 : Int) ≤ (th 36) ∧ (th 36) ≤ 20 := (b0_36 hT :); have ob37 : (0 : Int) ≤ zz8 ∧ zz8 ≤ 500 := (b0_37 hT :); have ob40 : (0 : Int) ≤ zz9 ∧ zz9 ≤ 500 := (b0_40 hT :); have ob41 : (0 : Int) ≤ zz10 ∧ zz10 ≤ 500 := (b0_41 hT :); have ob42 : ((-1) : Int) ≤ (th 42) ∧ (th 42) ≤ 500 := (b0_42 hT :); have ob43 : ((-1) : Int) ≤ (th 43) ∧ (th 43) ≤ 1 := (b0_43 hT :); obtain ⟨o0a, o0b⟩ := (eL46R : In _ _ _); obtain ⟨o1a, o1b⟩ := (hv2_11 : In _ _ _); obtain ⟨o2a, o2b⟩ := (hv3_11 : In _ _ _); obtain ⟨o3a, o3b⟩ := (hv4_11 : In _ _ _); obtain ⟨o4a, o4b⟩ := (hv5_11 : In _ _ _); obtain ⟨o5a, o5b⟩ := (hb22 : In _ _ _); obtain ⟨o6a, o6b⟩ := (hv8_11 : In _ _ _); obtain ⟨o7a, o7b⟩ := (hv9_11 : In _ _ _); obtain ⟨o8a, o8b⟩ := (hv13_11 : In _ _ _); omega))⟩) dX11_digit_43
    ·
      have oc0 : (0 : Int32).toInt = 0 := by decide
      have cc48 : r32.toInt = (0 : Int32).toInt := congrArg Int32.toInt c38
      have hb49 : In r32 0 0 := In.eq1 eL36R (⟨by decide, by decide⟩ : In 0 0 0) cc48 (by decide) (by decide)
      exact hJ28 _ _ _ hP hD hS (lv_sub hl [0, 1, 2] rfl)

abbrev rm_X11_pieceHere : Room := { frames := 5, cells := 0, slots := 0, locals := 108 }
abbrev po_X11_pieceHere (g : GG) (ad : Nat → Nat) (th : Nat → Int) (L : List Nat) (f : HP)  : Int32 → (List Nat × HP) → Prop := fun r u => u.1 = L ∧ (∃ za : Int, (th 37 ≤ za ∧ za ≤ 500) ∧ TI g ad (gset th 37 za) u.2) ∧ (∀ b, b ≠ (ad 255) → u.2 b = f b) ∧ In r (-1) 5
set_option maxHeartbeats 4000000 in
set_option maxRecDepth 100000 in
theorem s_X11_pieceHere (l : Launch) (g : GG) (ad : Nat → Nat) (th : Nat → Int) (L : List Nat) (f : HP) (sz : Nat)  (hst : ST ad L) (hT : TI g ad th f)  : MtI l g yX11_pieceHere cX11_pieceHere 1 (some .int) rm_X11_pieceHere [.ref (ad 255)] L f sz (po_X11_pieceHere g ad th L f ) := by
  refine MtI.of (by decide +kernel) (Nat.le_of_ble_eq_true rfl) ?_
  intro p e s m below meth c A hEn hP hD hS ls hl
  obtain ⟨hx, hb, hr, hml, hown, hlocks, hts, hG, hA, hE, hnm⟩ := hEn
  have hown : s.vm.findClass "RulerWordModel" = some m.cls := hown
  have hl : lv_has ls 1 [(0, .ref (ad 255))] := hl
  have hfr : (∀ b, b ≠ (ad 255) → f b = f b) := fun b z0_ => rfl
  refine lv_aload_n hx hb dX11_pieceHere_0 rfl (lv_at hl 0 rfl) ?_
  refine va_ldcS hx hb hown (hG.2.2.1 ("RulerWordModel", 139, "size", 2) (by decide +kernel)) dX11_pieceHere_1 ?_
  refine M0e hT (fun v0_1 v2_1 v3_1 v4_1 v5_1 v6_1 v8_1 v9_1 v12_1 v13_1 v14_1 v15_1 v16_1 v17_1 v18_1 v19_1 v20_1 v21_1 v22_1 v23_1 v25_1 v36_1 v37_1 v38_1 v39_1 v40_1 v45_1 v46_1 v47_1 v48_1 v50_1 v51_1 v53_1 v55_1 hf2 hv0_1 hv2_1 hg2_1 hv3_1 hg3_1 hv4_1 hg4_1 hv5_1 hg5_1 hv6_1 hg6_1 hv8_1 hg8_1 hv9_1 hg9_1 hv12_1 hv13_1 hg13_1 hv14_1 hg14_1 hv15_1 hg15_1 hv17_1 hg17_1 hv20_1 hg20_1 hv23_1 hg23_1 hv25_1 hg25_1 hv36_1 hg36_1 hv47_1 hg47_1 hv48_1 hg48_1 hv53_1 hg53_1 hv55_1 hg55_1 hrel0_1 => ?_)
  have hg15_1 : v15_1.toInt = th 11 := hg15_1
  have hg17_1 : v17_1.toInt = th 12 := hg17_1
  have hg20_1 : v20_1.toInt = th 14 := hg20_1
  refine call_i (run_V (rm := rm_X11_takes) hx hb hml hown hts (s_X11_takes l g ad th _ _ _ 2 hst hT (by decide)) cV_X11_takes wg_1538 ⟨Nat.le_of_ble_eq_true rfl, Nat.le_of_ble_eq_true rfl⟩ hG hE hA hP hD hS (hst.1 255 (by decide)) hf2 rfl rfl hl.1 (As := [.ref (g.2.2.1 2)]) (rest := []) rfl (Nat.le_of_ble_eq_true rfl) dX11_pieceHere_3 ⟨Nat.le_of_ble_eq_true rfl, Nat.le_of_ble_eq_true rfl⟩) hA hD hS (fun r3 L4 f5 H locs hp6 hP hD hS => ?_)
  obtain ⟨eL7L, eL7T, eL7F, eL7R⟩ := hp6
  have eL7L : L4 = L := eL7L
  rw [eL7L] at hP hD
  obtain ⟨zz8, hzz8, eL7T⟩ := eL7T
  have hzz8 : (th 37) ≤ zz8 ∧ zz8 ≤ 500 := hzz8
  have hT : TI g ad (gset th 37 zz8) f5 := eL7T
  have eL7F : ∀ b, b ≠ (ad 255) → f5 b = f b := eL7F
  have hfr : (∀ b, b ≠ (ad 255) → f5 b = f b) := fun b z0_ => (eL7F b z0_).trans (hfr b z0_)
  have eL7R : In r3 0 1 := eL7R
  refine lv_if_eq (tgt := 11) hx hb dX11_pieceHere_6 (by decide) (fun c9 => ?_) (fun c9 => ?_)
  ·
    have oc0 : (0 : Int32).toInt = 0 := by decide
    have cc10 : r3.toInt = (0 : Int32).toInt := congrArg Int32.toInt c9
    have hb11 : In r3 0 0 := In.eq1 eL7R (⟨by decide, by decide⟩ : In 0 0 0) cc10 (by decide) (by decide)
    refine lv_aload_n hx hb dX11_pieceHere_11 rfl (lv_at hl 0 rfl) ?_
    refine va_ldcS hx hb hown (hG.2.2.1 ("RulerWordModel", 145, "bound", 3) (by decide +kernel)) dX11_pieceHere_12 ?_
    refine M0e hT (fun v0_12 v2_12 v3_12 v4_12 v5_12 v6_12 v8_12 v9_12 v12_12 v13_12 v14_12 v15_12 v16_12 v17_12 v18_12 v19_12 v20_12 v21_12 v22_12 v23_12 v25_12 v36_12 v37_12 v38_12 v39_12 v40_12 v45_12 v46_12 v47_12 v48_12 v50_12 v51_12 v53_12 v55_12 hf13 hv0_12 hv2_12 hg2_12 hv3_12 hg3_12 hv4_12 hg4_12 hv5_12 hg5_12 hv6_12 hg6_12 hv8_12 hg8_12 hv9_12 hg9_12 hv12_12 hv13_12 hg13_12 hv14_12 hg14_12 hv15_12 hg15_12 hv17_12 hg17_12 hv20_12 hg20_12 hv23_12 hg23_12 hv25_12 hg25_12 hv36_12 hg36_12 hv47_12 hg47_12 hv48_12 hg48_12 hv53_12 hg53_12 hv55_12 hg55_12 hrel0_12 => ?_)
    have hg15_12 : v15_12.toInt = th 11 := hg15_12
    have hg17_12 : v17_12.toInt = th 12 := hg17_12
    have hg20_12 : v20_12.toInt = th 14 := hg20_12
    refine call_i (run_V (rm := rm_X11_takes) hx hb hml hown hts (s_X11_takes l g ad (gset th 37 zz8) _ _ _ 3 hst hT (by decide)) cV_X11_takes wg_1538 ⟨Nat.le_of_ble_eq_true rfl, Nat.le_of_ble_eq_true rfl⟩ hG hE hA hP hD hS (hst.1 255 (by decide)) hf13 rfl rfl hl.1 (As := [.ref (g.2.2.1 3)]) (rest := []) rfl (Nat.le_of_ble_eq_true rfl) dX11_pieceHere_14 ⟨Nat.le_of_ble_eq_true rfl, Nat.le_of_ble_eq_true rfl⟩) hA hD hS (fun r14 L15 f16 H locs hp17 hP hD hS => ?_)
    obtain ⟨eL18L, eL18T, eL18F, eL18R⟩ := hp17
    have eL18L : L15 = L := eL18L
    rw [eL18L] at hP hD
    obtain ⟨zz19, hzz19, eL18T⟩ := eL18T
    have hzz19 : zz8 ≤ zz19 ∧ zz19 ≤ 500 := hzz19
    have hT : TI g ad (gset (gset th 37 zz8) 37 zz19) f16 := eL18T
    have hT : TI g ad (gset th 37 zz19) f16 := TI.cast hT (by funext q; by_cases hq0 : q = 37; (subst hq0; rfl); simp only [gset, if_neg hq0])
    have eL18F : ∀ b, b ≠ (ad 255) → f16 b = f5 b := eL18F
    have hfr : (∀ b, b ≠ (ad 255) → f16 b = f b) := fun b z0_ => (eL18F b z0_).trans (hfr b z0_)
    have eL18R : In r14 0 1 := eL18R
    refine lv_if_eq (tgt := 22) hx hb dX11_pieceHere_17 (by decide) (fun c20 => ?_) (fun c20 => ?_)
    ·
      have oc0 : (0 : Int32).toInt = 0 := by decide
      have cc21 : r14.toInt = (0 : Int32).toInt := congrArg Int32.toInt c20
      have hb22 : In r14 0 0 := In.eq1 eL18R (⟨by decide, by decide⟩ : In 0 0 0) cc21 (by decide) (by decide)
      refine lv_aload_n hx hb dX11_pieceHere_22 rfl (lv_at hl 0 rfl) ?_
      refine va_ldcS hx hb hown (hG.2.2.1 ("RulerWordModel", 147, "phases", 4) (by decide +kernel)) dX11_pieceHere_23 ?_
      refine M0e hT (fun v0_23 v2_23 v3_23 v4_23 v5_23 v6_23 v8_23 v9_23 v12_23 v13_23 v14_23 v15_23 v16_23 v17_23 v18_23 v19_23 v20_23 v21_23 v22_23 v23_23 v25_23 v36_23 v37_23 v38_23 v39_23 v40_23 v45_23 v46_23 v47_23 v48_23 v50_23 v51_23 v53_23 v55_23 hf24 hv0_23 hv2_23 hg2_23 hv3_23 hg3_23 hv4_23 hg4_23 hv5_23 hg5_23 hv6_23 hg6_23 hv8_23 hg8_23 hv9_23 hg9_23 hv12_23 hv13_23 hg13_23 hv14_23 hg14_23 hv15_23 hg15_23 hv17_23 hg17_23 hv20_23 hg20_23 hv23_23 hg23_23 hv25_23 hg25_23 hv36_23 hg36_23 hv47_23 hg47_23 hv48_23 hg48_23 hv53_23 hg53_23 hv55_23 hg55_23 hrel0_23 => ?_)
      have hg15_23 : v15_23.toInt = th 11 := hg15_23
      have hg17_23 : v17_23.toInt = th 12 := hg17_23
      have hg20_23 : v20_23.toInt = th 14 := hg20_23
      refine call_i (run_V (rm := rm_X11_takes) hx hb hml hown hts (s_X11_takes l g ad (gset th 37 zz19) _ _ _ 4 hst hT (by decide)) cV_X11_takes wg_1538 ⟨Nat.le_of_ble_eq_true rfl, Nat.le_of_ble_eq_true rfl⟩ hG hE hA hP hD hS (hst.1 255 (by decide)) hf24 rfl rfl hl.1 (As := [.ref (g.2.2.1 4)]) (rest := []) rfl (Nat.le_of_ble_eq_true rfl) dX11_pieceHere_25 ⟨Nat.le_of_ble_eq_true rfl, Nat.le_of_ble_eq_true rfl⟩) hA hD hS (fun r25 L26 f27 H locs hp28 hP hD hS => ?_)
      obtain ⟨eL29L, eL29T, eL29F, eL29R⟩ := hp28
      have eL29L : L26 = L := eL29L
      rw [eL29L] at hP hD
      obtain ⟨zz30, hzz30, eL29T⟩ := eL29T
      have hzz30 : zz19 ≤ zz30 ∧ zz30 ≤ 500 := hzz30
      have hT : TI g ad (gset (gset th 37 zz19) 37 zz30) f27 := eL29T
      have hT : TI g ad (gset th 37 zz30) f27 := TI.cast hT (by funext q; by_cases hq0 : q = 37; (subst hq0; rfl); simp only [gset, if_neg hq0])
      have eL29F : ∀ b, b ≠ (ad 255) → f27 b = f16 b := eL29F
      have hfr : (∀ b, b ≠ (ad 255) → f27 b = f b) := fun b z0_ => (eL29F b z0_).trans (hfr b z0_)
      have eL29R : In r25 0 1 := eL29R
      refine lv_if_eq (tgt := 33) hx hb dX11_pieceHere_28 (by decide) (fun c31 => ?_) (fun c31 => ?_)
      ·
        have oc0 : (0 : Int32).toInt = 0 := by decide
        have cc32 : r25.toInt = (0 : Int32).toInt := congrArg Int32.toInt c31
        have hb33 : In r25 0 0 := In.eq1 eL29R (⟨by decide, by decide⟩ : In 0 0 0) cc32 (by decide) (by decide)
        refine lv_aload_n hx hb dX11_pieceHere_33 rfl (lv_at hl 0 rfl) ?_
        refine va_ldcS hx hb hown (hG.2.2.1 ("RulerWordModel", 149, "starts", 5) (by decide +kernel)) dX11_pieceHere_34 ?_
        refine M0e hT (fun v0_34 v2_34 v3_34 v4_34 v5_34 v6_34 v8_34 v9_34 v12_34 v13_34 v14_34 v15_34 v16_34 v17_34 v18_34 v19_34 v20_34 v21_34 v22_34 v23_34 v25_34 v36_34 v37_34 v38_34 v39_34 v40_34 v45_34 v46_34 v47_34 v48_34 v50_34 v51_34 v53_34 v55_34 hf35 hv0_34 hv2_34 hg2_34 hv3_34 hg3_34 hv4_34 hg4_34 hv5_34 hg5_34 hv6_34 hg6_34 hv8_34 hg8_34 hv9_34 hg9_34 hv12_34 hv13_34 hg13_34 hv14_34 hg14_34 hv15_34 hg15_34 hv17_34 hg17_34 hv20_34 hg20_34 hv23_34 hg23_34 hv25_34 hg25_34 hv36_34 hg36_34 hv47_34 hg47_34 hv48_34 hg48_34 hv53_34 hg53_34 hv55_34 hg55_34 hrel0_34 => ?_)
        have hg15_34 : v15_34.toInt = th 11 := hg15_34
        have hg17_34 : v17_34.toInt = th 12 := hg17_34
        have hg20_34 : v20_34.toInt = th 14 := hg20_34
        refine call_i (run_V (rm := rm_X11_takes) hx hb hml hown hts (s_X11_takes l g ad (gset th 37 zz30) _ _ _ 5 hst hT (by decide)) cV_X11_takes wg_1538 ⟨Nat.le_of_ble_eq_true rfl, Nat.le_of_ble_eq_true rfl⟩ hG hE hA hP hD hS (hst.1 255 (by decide)) hf35 rfl rfl hl.1 (As := [.ref (g.2.2.1 5)]) (rest := []) rfl (Nat.le_of_ble_eq_true rfl) dX11_pieceHere_36 ⟨Nat.le_of_ble_eq_true rfl, Nat.le_of_ble_eq_true rfl⟩) hA hD hS (fun r36 L37 f38 H locs hp39 hP hD hS => ?_)
        obtain ⟨eL40L, eL40T, eL40F, eL40R⟩ := hp39
        have eL40L : L37 = L := eL40L
        rw [eL40L] at hP hD
        obtain ⟨zz41, hzz41, eL40T⟩ := eL40T
        have hzz41 : zz30 ≤ zz41 ∧ zz41 ≤ 500 := hzz41
        have hT : TI g ad (gset (gset th 37 zz30) 37 zz41) f38 := eL40T
        have hT : TI g ad (gset th 37 zz41) f38 := TI.cast hT (by funext q; by_cases hq0 : q = 37; (subst hq0; rfl); simp only [gset, if_neg hq0])
        have eL40F : ∀ b, b ≠ (ad 255) → f38 b = f27 b := eL40F
        have hfr : (∀ b, b ≠ (ad 255) → f38 b = f b) := fun b z0_ => (eL40F b z0_).trans (hfr b z0_)
        have eL40R : In r36 0 1 := eL40R
        refine lv_if_eq (tgt := 44) hx hb dX11_pieceHere_39 (by decide) (fun c42 => ?_) (fun c42 => ?_)
        ·
          have oc0 : (0 : Int32).toInt = 0 := by decide
          have cc43 : r36.toInt = (0 : Int32).toInt := congrArg Int32.toInt c42
          have hb44 : In r36 0 0 := In.eq1 eL40R (⟨by decide, by decide⟩ : In 0 0 0) cc43 (by decide) (by decide)
          refine lv_aload_n hx hb dX11_pieceHere_44 rfl (lv_at hl 0 rfl) ?_
          refine va_ldcS hx hb hown (hG.2.2.1 ("RulerWordModel", 151, "false", 6) (by decide +kernel)) dX11_pieceHere_45 ?_
          refine M0e hT (fun v0_45 v2_45 v3_45 v4_45 v5_45 v6_45 v8_45 v9_45 v12_45 v13_45 v14_45 v15_45 v16_45 v17_45 v18_45 v19_45 v20_45 v21_45 v22_45 v23_45 v25_45 v36_45 v37_45 v38_45 v39_45 v40_45 v45_45 v46_45 v47_45 v48_45 v50_45 v51_45 v53_45 v55_45 hf46 hv0_45 hv2_45 hg2_45 hv3_45 hg3_45 hv4_45 hg4_45 hv5_45 hg5_45 hv6_45 hg6_45 hv8_45 hg8_45 hv9_45 hg9_45 hv12_45 hv13_45 hg13_45 hv14_45 hg14_45 hv15_45 hg15_45 hv17_45 hg17_45 hv20_45 hg20_45 hv23_45 hg23_45 hv25_45 hg25_45 hv36_45 hg36_45 hv47_45 hg47_45 hv48_45 hg48_45 hv53_45 hg53_45 hv55_45 hg55_45 hrel0_45 => ?_)
          have hg15_45 : v15_45.toInt = th 11 := hg15_45
          have hg17_45 : v17_45.toInt = th 12 := hg17_45
          have hg20_45 : v20_45.toInt = th 14 := hg20_45
          refine call_i (run_V (rm := rm_X11_takes) hx hb hml hown hts (s_X11_takes l g ad (gset th 37 zz41) _ _ _ 6 hst hT (by decide)) cV_X11_takes wg_1538 ⟨Nat.le_of_ble_eq_true rfl, Nat.le_of_ble_eq_true rfl⟩ hG hE hA hP hD hS (hst.1 255 (by decide)) hf46 rfl rfl hl.1 (As := [.ref (g.2.2.1 6)]) (rest := []) rfl (Nat.le_of_ble_eq_true rfl) dX11_pieceHere_47 ⟨Nat.le_of_ble_eq_true rfl, Nat.le_of_ble_eq_true rfl⟩) hA hD hS (fun r47 L48 f49 H locs hp50 hP hD hS => ?_)
          obtain ⟨eL51L, eL51T, eL51F, eL51R⟩ := hp50
          have eL51L : L48 = L := eL51L
          rw [eL51L] at hP hD
          obtain ⟨zz52, hzz52, eL51T⟩ := eL51T
          have hzz52 : zz41 ≤ zz52 ∧ zz52 ≤ 500 := hzz52
          have hT : TI g ad (gset (gset th 37 zz41) 37 zz52) f49 := eL51T
          have hT : TI g ad (gset th 37 zz52) f49 := TI.cast hT (by funext q; by_cases hq0 : q = 37; (subst hq0; rfl); simp only [gset, if_neg hq0])
          have eL51F : ∀ b, b ≠ (ad 255) → f49 b = f38 b := eL51F
          have hfr : (∀ b, b ≠ (ad 255) → f49 b = f b) := fun b z0_ => (eL51F b z0_).trans (hfr b z0_)
          have eL51R : In r47 0 1 := eL51R
          refine lv_if_eq (tgt := 55) hx hb dX11_pieceHere_50 (by decide) (fun c53 => ?_) (fun c53 => ?_)
          ·
            have oc0 : (0 : Int32).toInt = 0 := by decide
            have cc54 : r47.toInt = (0 : Int32).toInt := congrArg Int32.toInt c53
            have hb55 : In r47 0 0 := In.eq1 eL51R (⟨by decide, by decide⟩ : In 0 0 0) cc54 (by decide) (by decide)
            refine lv_aload_n hx hb dX11_pieceHere_55 rfl (lv_at hl 0 rfl) ?_
            refine va_ldcS hx hb hown (hG.2.2.1 ("RulerWordModel", 153, "skip", 7) (by decide +kernel)) dX11_pieceHere_56 ?_
            refine M0e hT (fun v0_56 v2_56 v3_56 v4_56 v5_56 v6_56 v8_56 v9_56 v12_56 v13_56 v14_56 v15_56 v16_56 v17_56 v18_56 v19_56 v20_56 v21_56 v22_56 v23_56 v25_56 v36_56 v37_56 v38_56 v39_56 v40_56 v45_56 v46_56 v47_56 v48_56 v50_56 v51_56 v53_56 v55_56 hf57 hv0_56 hv2_56 hg2_56 hv3_56 hg3_56 hv4_56 hg4_56 hv5_56 hg5_56 hv6_56 hg6_56 hv8_56 hg8_56 hv9_56 hg9_56 hv12_56 hv13_56 hg13_56 hv14_56 hg14_56 hv15_56 hg15_56 hv17_56 hg17_56 hv20_56 hg20_56 hv23_56 hg23_56 hv25_56 hg25_56 hv36_56 hg36_56 hv47_56 hg47_56 hv48_56 hg48_56 hv53_56 hg53_56 hv55_56 hg55_56 hrel0_56 => ?_)
            have hg15_56 : v15_56.toInt = th 11 := hg15_56
            have hg17_56 : v17_56.toInt = th 12 := hg17_56
            have hg20_56 : v20_56.toInt = th 14 := hg20_56
            refine call_i (run_V (rm := rm_X11_takes) hx hb hml hown hts (s_X11_takes l g ad (gset th 37 zz52) _ _ _ 7 hst hT (by decide)) cV_X11_takes wg_1538 ⟨Nat.le_of_ble_eq_true rfl, Nat.le_of_ble_eq_true rfl⟩ hG hE hA hP hD hS (hst.1 255 (by decide)) hf57 rfl rfl hl.1 (As := [.ref (g.2.2.1 7)]) (rest := []) rfl (Nat.le_of_ble_eq_true rfl) dX11_pieceHere_58 ⟨Nat.le_of_ble_eq_true rfl, Nat.le_of_ble_eq_true rfl⟩) hA hD hS (fun r58 L59 f60 H locs hp61 hP hD hS => ?_)
            obtain ⟨eL62L, eL62T, eL62F, eL62R⟩ := hp61
            have eL62L : L59 = L := eL62L
            rw [eL62L] at hP hD
            obtain ⟨zz63, hzz63, eL62T⟩ := eL62T
            have hzz63 : zz52 ≤ zz63 ∧ zz63 ≤ 500 := hzz63
            have hT : TI g ad (gset (gset th 37 zz52) 37 zz63) f60 := eL62T
            have hT : TI g ad (gset th 37 zz63) f60 := TI.cast hT (by funext q; by_cases hq0 : q = 37; (subst hq0; rfl); simp only [gset, if_neg hq0])
            have eL62F : ∀ b, b ≠ (ad 255) → f60 b = f49 b := eL62F
            have hfr : (∀ b, b ≠ (ad 255) → f60 b = f b) := fun b z0_ => (eL62F b z0_).trans (hfr b z0_)
            have eL62R : In r58 0 1 := eL62R
            refine lv_if_eq (tgt := 68) hx hb dX11_pieceHere_61 (by decide) (fun c64 => ?_) (fun c64 => ?_)
            ·
              have oc0 : (0 : Int32).toInt = 0 := by decide
              have cc65 : r58.toInt = (0 : Int32).toInt := congrArg Int32.toInt c64
              have hb66 : In r58 0 0 := In.eq1 eL62R (⟨by decide, by decide⟩ : In 0 0 0) cc65 (by decide) (by decide)
              refine lv_iconst (v := (-1)) hx hb dX11_pieceHere_68 (by decide) ?_
              exact ret_i (ty := .int) hx hb hr hlocks (rfl) hP hD hS (Nat.le_of_ble_eq_true rfl) (Nat.le_of_ble_eq_true rfl) (⟨rfl, ⟨zz63, (show th 37 ≤ zz63 ∧ zz63 ≤ 500 from (by have ob13 : (0 : Int) ≤ (th 13) ∧ (th 13) ≤ 500 := (b0_13 hT :); have ob35 : (0 : Int) ≤ (th 35) ∧ (th 35) ≤ 63 := (b0_35 hT :); have ob36 : (0 : Int) ≤ (th 36) ∧ (th 36) ≤ 20 := (b0_36 hT :); have ob37 : (0 : Int) ≤ zz63 ∧ zz63 ≤ 500 := (b0_37 hT :); have ob40 : (0 : Int) ≤ (th 40) ∧ (th 40) ≤ 500 := (b0_40 hT :); have ob41 : (0 : Int) ≤ (th 41) ∧ (th 41) ≤ 500 := (b0_41 hT :); have ob42 : ((-1) : Int) ≤ (th 42) ∧ (th 42) ≤ 500 := (b0_42 hT :); have ob43 : ((-1) : Int) ≤ (th 43) ∧ (th 43) ≤ 1 := (b0_43 hT :); have ocm1 : ((-1) : Int32).toInt = (-1) := (by decide); omega)), TI.cast hT (by funext q; by_cases hq0 : q = 37; (subst hq0; rfl); simp only [gset, if_neg hq0])⟩, hfr, (⟨by decide, by decide⟩ : In (-1) (-1) 5)⟩) dX11_pieceHere_69
            ·
              have oc0 : (0 : Int32).toInt = 0 := by decide
              have cc67 : r58.toInt ≠ (0 : Int32).toInt := i32_ne c64
              have hb68 : In r58 1 1 := In.ne1 eL62R (⟨by decide, by decide⟩ : In 0 0 0) cc67 (by decide) (by decide)
              refine lv_iconst (v := 5) hx hb dX11_pieceHere_64 (by decide) ?_
              refine lv_goto (tgt := 69) hx hb dX11_pieceHere_65 (by decide) ?_
              exact ret_i (ty := .int) hx hb hr hlocks (rfl) hP hD hS (Nat.le_of_ble_eq_true rfl) (Nat.le_of_ble_eq_true rfl) (⟨rfl, ⟨zz63, (show th 37 ≤ zz63 ∧ zz63 ≤ 500 from (by have ob13 : (0 : Int) ≤ (th 13) ∧ (th 13) ≤ 500 := (b0_13 hT :); have ob35 : (0 : Int) ≤ (th 35) ∧ (th 35) ≤ 63 := (b0_35 hT :); have ob36 : (0 : Int) ≤ (th 36) ∧ (th 36) ≤ 20 := (b0_36 hT :); have ob37 : (0 : Int) ≤ zz63 ∧ zz63 ≤ 500 := (b0_37 hT :); have ob40 : (0 : Int) ≤ (th 40) ∧ (th 40) ≤ 500 := (b0_40 hT :); have ob41 : (0 : Int) ≤ (th 41) ∧ (th 41) ≤ 500 := (b0_41 hT :); have ob42 : ((-1) : Int) ≤ (th 42) ∧ (th 42) ≤ 500 := (b0_42 hT :); have ob43 : ((-1) : Int) ≤ (th 43) ∧ (th 43) ≤ 1 := (b0_43 hT :); have oc5 : (5 : Int32).toInt = 5 := (by decide); omega)), TI.cast hT (by funext q; by_cases hq0 : q = 37; (subst hq0; rfl); simp only [gset, if_neg hq0])⟩, hfr, (⟨by decide, by decide⟩ : In 5 (-1) 5)⟩) dX11_pieceHere_69
          ·
            have oc0 : (0 : Int32).toInt = 0 := by decide
            have cc69 : r47.toInt ≠ (0 : Int32).toInt := i32_ne c53
            have hb70 : In r47 1 1 := In.ne1 eL51R (⟨by decide, by decide⟩ : In 0 0 0) cc69 (by decide) (by decide)
            refine lv_iconst (v := 4) hx hb dX11_pieceHere_53 (by decide) ?_
            exact ret_i (ty := .int) hx hb hr hlocks (rfl) hP hD hS (Nat.le_of_ble_eq_true rfl) (Nat.le_of_ble_eq_true rfl) (⟨rfl, ⟨zz52, (show th 37 ≤ zz52 ∧ zz52 ≤ 500 from (by have ob13 : (0 : Int) ≤ (th 13) ∧ (th 13) ≤ 500 := (b0_13 hT :); have ob35 : (0 : Int) ≤ (th 35) ∧ (th 35) ≤ 63 := (b0_35 hT :); have ob36 : (0 : Int) ≤ (th 36) ∧ (th 36) ≤ 20 := (b0_36 hT :); have ob37 : (0 : Int) ≤ zz52 ∧ zz52 ≤ 500 := (b0_37 hT :); have ob40 : (0 : Int) ≤ (th 40) ∧ (th 40) ≤ 500 := (b0_40 hT :); have ob41 : (0 : Int) ≤ (th 41) ∧ (th 41) ≤ 500 := (b0_41 hT :); have ob42 : ((-1) : Int) ≤ (th 42) ∧ (th 42) ≤ 500 := (b0_42 hT :); have ob43 : ((-1) : Int) ≤ (th 43) ∧ (th 43) ≤ 1 := (b0_43 hT :); have oc4 : (4 : Int32).toInt = 4 := (by decide); omega)), TI.cast hT (by funext q; by_cases hq0 : q = 37; (subst hq0; rfl); simp only [gset, if_neg hq0])⟩, hfr, (⟨by decide, by decide⟩ : In 4 (-1) 5)⟩) dX11_pieceHere_54
        ·
          have oc0 : (0 : Int32).toInt = 0 := by decide
          have cc71 : r36.toInt ≠ (0 : Int32).toInt := i32_ne c42
          have hb72 : In r36 1 1 := In.ne1 eL40R (⟨by decide, by decide⟩ : In 0 0 0) cc71 (by decide) (by decide)
          refine lv_iconst (v := 3) hx hb dX11_pieceHere_42 (by decide) ?_
          exact ret_i (ty := .int) hx hb hr hlocks (rfl) hP hD hS (Nat.le_of_ble_eq_true rfl) (Nat.le_of_ble_eq_true rfl) (⟨rfl, ⟨zz41, (show th 37 ≤ zz41 ∧ zz41 ≤ 500 from (by have ob13 : (0 : Int) ≤ (th 13) ∧ (th 13) ≤ 500 := (b0_13 hT :); have ob35 : (0 : Int) ≤ (th 35) ∧ (th 35) ≤ 63 := (b0_35 hT :); have ob36 : (0 : Int) ≤ (th 36) ∧ (th 36) ≤ 20 := (b0_36 hT :); have ob37 : (0 : Int) ≤ zz41 ∧ zz41 ≤ 500 := (b0_37 hT :); have ob40 : (0 : Int) ≤ (th 40) ∧ (th 40) ≤ 500 := (b0_40 hT :); have ob41 : (0 : Int) ≤ (th 41) ∧ (th 41) ≤ 500 := (b0_41 hT :); have ob42 : ((-1) : Int) ≤ (th 42) ∧ (th 42) ≤ 500 := (b0_42 hT :); have ob43 : ((-1) : Int) ≤ (th 43) ∧ (th 43) ≤ 1 := (b0_43 hT :); have oc3 : (3 : Int32).toInt = 3 := (by decide); omega)), TI.cast hT (by funext q; by_cases hq0 : q = 37; (subst hq0; rfl); simp only [gset, if_neg hq0])⟩, hfr, (⟨by decide, by decide⟩ : In 3 (-1) 5)⟩) dX11_pieceHere_43
      ·
        have oc0 : (0 : Int32).toInt = 0 := by decide
        have cc73 : r25.toInt ≠ (0 : Int32).toInt := i32_ne c31
        have hb74 : In r25 1 1 := In.ne1 eL29R (⟨by decide, by decide⟩ : In 0 0 0) cc73 (by decide) (by decide)
        refine lv_iconst (v := 2) hx hb dX11_pieceHere_31 (by decide) ?_
        exact ret_i (ty := .int) hx hb hr hlocks (rfl) hP hD hS (Nat.le_of_ble_eq_true rfl) (Nat.le_of_ble_eq_true rfl) (⟨rfl, ⟨zz30, (show th 37 ≤ zz30 ∧ zz30 ≤ 500 from (by have ob13 : (0 : Int) ≤ (th 13) ∧ (th 13) ≤ 500 := (b0_13 hT :); have ob35 : (0 : Int) ≤ (th 35) ∧ (th 35) ≤ 63 := (b0_35 hT :); have ob36 : (0 : Int) ≤ (th 36) ∧ (th 36) ≤ 20 := (b0_36 hT :); have ob37 : (0 : Int) ≤ zz30 ∧ zz30 ≤ 500 := (b0_37 hT :); have ob40 : (0 : Int) ≤ (th 40) ∧ (th 40) ≤ 500 := (b0_40 hT :); have ob41 : (0 : Int) ≤ (th 41) ∧ (th 41) ≤ 500 := (b0_41 hT :); have ob42 : ((-1) : Int) ≤ (th 42) ∧ (th 42) ≤ 500 := (b0_42 hT :); have ob43 : ((-1) : Int) ≤ (th 43) ∧ (th 43) ≤ 1 := (b0_43 hT :); have oc2 : (2 : Int32).toInt = 2 := (by decide); omega)), TI.cast hT (by funext q; by_cases hq0 : q = 37; (subst hq0; rfl); simp only [gset, if_neg hq0])⟩, hfr, (⟨by decide, by decide⟩ : In 2 (-1) 5)⟩) dX11_pieceHere_32
    ·
      have oc0 : (0 : Int32).toInt = 0 := by decide
      have cc75 : r14.toInt ≠ (0 : Int32).toInt := i32_ne c20
      have hb76 : In r14 1 1 := In.ne1 eL18R (⟨by decide, by decide⟩ : In 0 0 0) cc75 (by decide) (by decide)
      refine lv_iconst (v := 1) hx hb dX11_pieceHere_20 (by decide) ?_
      exact ret_i (ty := .int) hx hb hr hlocks (rfl) hP hD hS (Nat.le_of_ble_eq_true rfl) (Nat.le_of_ble_eq_true rfl) (⟨rfl, ⟨zz19, (show th 37 ≤ zz19 ∧ zz19 ≤ 500 from (by have ob13 : (0 : Int) ≤ (th 13) ∧ (th 13) ≤ 500 := (b0_13 hT :); have ob35 : (0 : Int) ≤ (th 35) ∧ (th 35) ≤ 63 := (b0_35 hT :); have ob36 : (0 : Int) ≤ (th 36) ∧ (th 36) ≤ 20 := (b0_36 hT :); have ob37 : (0 : Int) ≤ zz19 ∧ zz19 ≤ 500 := (b0_37 hT :); have ob40 : (0 : Int) ≤ (th 40) ∧ (th 40) ≤ 500 := (b0_40 hT :); have ob41 : (0 : Int) ≤ (th 41) ∧ (th 41) ≤ 500 := (b0_41 hT :); have ob42 : ((-1) : Int) ≤ (th 42) ∧ (th 42) ≤ 500 := (b0_42 hT :); have ob43 : ((-1) : Int) ≤ (th 43) ∧ (th 43) ≤ 1 := (b0_43 hT :); have oc1 : (1 : Int32).toInt = 1 := (by decide); omega)), TI.cast hT (by funext q; by_cases hq0 : q = 37; (subst hq0; rfl); simp only [gset, if_neg hq0])⟩, hfr, (⟨by decide, by decide⟩ : In 1 (-1) 5)⟩) dX11_pieceHere_21
  ·
    have oc0 : (0 : Int32).toInt = 0 := by decide
    have cc77 : r3.toInt ≠ (0 : Int32).toInt := i32_ne c9
    have hb78 : In r3 1 1 := In.ne1 eL7R (⟨by decide, by decide⟩ : In 0 0 0) cc77 (by decide) (by decide)
    refine lv_iconst (v := 0) hx hb dX11_pieceHere_9 (by decide) ?_
    exact ret_i (ty := .int) hx hb hr hlocks (rfl) hP hD hS (Nat.le_of_ble_eq_true rfl) (Nat.le_of_ble_eq_true rfl) (⟨rfl, ⟨zz8, (show th 37 ≤ zz8 ∧ zz8 ≤ 500 from (by have ob13 : (0 : Int) ≤ (th 13) ∧ (th 13) ≤ 500 := (b0_13 hT :); have ob35 : (0 : Int) ≤ (th 35) ∧ (th 35) ≤ 63 := (b0_35 hT :); have ob36 : (0 : Int) ≤ (th 36) ∧ (th 36) ≤ 20 := (b0_36 hT :); have ob37 : (0 : Int) ≤ zz8 ∧ zz8 ≤ 500 := (b0_37 hT :); have ob40 : (0 : Int) ≤ (th 40) ∧ (th 40) ≤ 500 := (b0_40 hT :); have ob41 : (0 : Int) ≤ (th 41) ∧ (th 41) ≤ 500 := (b0_41 hT :); have ob42 : ((-1) : Int) ≤ (th 42) ∧ (th 42) ≤ 500 := (b0_42 hT :); have ob43 : ((-1) : Int) ≤ (th 43) ∧ (th 43) ≤ 1 := (b0_43 hT :); have oc0 : (0 : Int32).toInt = 0 := (by decide); omega)), TI.cast hT (by funext q; by_cases hq0 : q = 37; (subst hq0; rfl); simp only [gset, if_neg hq0])⟩, hfr, (⟨by decide, by decide⟩ : In 0 (-1) 5)⟩) dX11_pieceHere_10

abbrev rm_X11_starts : Room := { frames := 3, cells := 0, slots := 0, locals := 61 }
abbrev po_X11_starts (g : GG) (ad : Nat → Nat) (th : Nat → Int) (L : List Nat) (f : HP)  : (List Nat × HP) → Prop := fun u => u.1 = L ∧ (∃ za zr zl ze : Int, (th 37 ≤ za ∧ za ≤ 500) ∧ TI g ad (gset (gset (gset (gset th 37 za) 40 zr) 41 zl) 42 ze) u.2) ∧ (∀ b, b ≠ (ad 255) → b ≠ (ad 257) → u.2 b = f b)
set_option maxHeartbeats 4000000 in
set_option maxRecDepth 100000 in
theorem s_X11_starts (l : Launch) (g : GG) (ad : Nat → Nat) (th : Nat → Int) (L : List Nat) (f : HP) (sz : Nat)  (hst : ST ad L) (hT : TI g ad th f)  : MtV l g yX11_starts cX11_starts 3 rm_X11_starts [.ref (ad 255)] L f sz (po_X11_starts g ad th L f ) := by
  refine MtV.of (by decide +kernel) (Nat.le_of_ble_eq_true rfl) ?_
  intro p e s m below meth c A hEn hP hD hS ls hl
  obtain ⟨hx, hb, hr, hml, hown, hlocks, hts, hG, hA, hE, hnm⟩ := hEn
  have hown : s.vm.findClass "RulerWordModel" = some m.cls := hown
  have hl : lv_has ls 3 [(0, .ref (ad 255))] := hl
  have hfr : (∀ b, b ≠ (ad 255) → b ≠ (ad 257) → f b = f b) := fun b z0_ z1_ => rfl
  refine lv_aload_n hx hb dX11_starts_0 rfl (lv_at hl 0 rfl) ?_
  refine M0e hT (fun v0_1 v2_1 v3_1 v4_1 v5_1 v6_1 v8_1 v9_1 v12_1 v13_1 v14_1 v15_1 v16_1 v17_1 v18_1 v19_1 v20_1 v21_1 v22_1 v23_1 v25_1 v36_1 v37_1 v38_1 v39_1 v40_1 v45_1 v46_1 v47_1 v48_1 v50_1 v51_1 v53_1 v55_1 hf2 hv0_1 hv2_1 hg2_1 hv3_1 hg3_1 hv4_1 hg4_1 hv5_1 hg5_1 hv6_1 hg6_1 hv8_1 hg8_1 hv9_1 hg9_1 hv12_1 hv13_1 hg13_1 hv14_1 hg14_1 hv15_1 hg15_1 hv17_1 hg17_1 hv20_1 hg20_1 hv23_1 hg23_1 hv25_1 hg25_1 hv36_1 hg36_1 hv47_1 hg47_1 hv48_1 hg48_1 hv53_1 hg53_1 hv55_1 hg55_1 hrel0_1 => ?_)
  have hg15_1 : v15_1.toInt = th 11 := hg15_1
  have hg17_1 : v17_1.toInt = th 12 := hg17_1
  have hg20_1 : v20_1.toInt = th 14 := hg20_1
  refine call_v (run_V (rm := rm_X11_digits) hx hb hml hown hts (s_X11_digits l g ad th _ _ _  hst hT ) cV_X11_digits wg_1570 ⟨Nat.le_of_ble_eq_true rfl, Nat.le_of_ble_eq_true rfl⟩ hG hE hA hP hD hS (hst.1 255 (by decide)) hf2 rfl rfl hl.1 (As := []) (rest := []) rfl (Nat.le_of_ble_eq_true rfl) dX11_starts_1 ⟨Nat.le_of_ble_eq_true rfl, Nat.le_of_ble_eq_true rfl⟩) hA hD hS (fun L4 f5 H locs hp6 hP hD hS => ?_)
  obtain ⟨eL7L, eL7T, eL7F⟩ := hp6
  have eL7L : L4 = L := eL7L
  rw [eL7L] at hP hD
  obtain ⟨zz8, zz9, zz10, hzz8, eL7T⟩ := eL7T
  have hT : TI g ad (gset (gset (gset th 37 zz8) 40 zz9) 41 zz10) f5 := eL7T
  have eL7F : ∀ b, b ≠ (ad 255) → f5 b = f b := eL7F
  have hfr : (∀ b, b ≠ (ad 255) → b ≠ (ad 257) → f5 b = f b) := fun b z0_ z1_ => (eL7F b z0_).trans (hfr b z0_ z1_)
  refine lv_aload_n hx hb dX11_starts_4 rfl (lv_at hl 0 rfl) ?_
  refine M0e hT (fun v0_11 v2_11 v3_11 v4_11 v5_11 v6_11 v8_11 v9_11 v12_11 v13_11 v14_11 v15_11 v16_11 v17_11 v18_11 v19_11 v20_11 v21_11 v22_11 v23_11 v25_11 v36_11 v37_11 v38_11 v39_11 v40_11 v45_11 v46_11 v47_11 v48_11 v50_11 v51_11 v53_11 v55_11 hf12 hv0_11 hv2_11 hg2_11 hv3_11 hg3_11 hv4_11 hg4_11 hv5_11 hg5_11 hv6_11 hg6_11 hv8_11 hg8_11 hv9_11 hg9_11 hv12_11 hv13_11 hg13_11 hv14_11 hg14_11 hv15_11 hg15_11 hv17_11 hg17_11 hv20_11 hg20_11 hv23_11 hg23_11 hv25_11 hg25_11 hv36_11 hg36_11 hv47_11 hg47_11 hv48_11 hg48_11 hv53_11 hg53_11 hv55_11 hg55_11 hrel0_11 => ?_)
  have hg15_11 : v15_11.toInt = th 11 := hg15_11
  have hg17_11 : v17_11.toInt = th 12 := hg17_11
  have hg20_11 : v20_11.toInt = th 14 := hg20_11
  refine pl_get (v := .int v6_11) hx hb hts (fun w h => mT (inX11 w h)) hown hG.1 hP (hst.1 255 (by decide)) hf12 rfl 6 (by decide) (hts _ (mT wg_1342)) (fun _ h => h) rfl dX11_starts_5 ?_
  have hg6_11 : v6_11.toInt = zz10 := hg6_11
  refine lv_aload_n hx hb dX11_starts_8 rfl (lv_at hl 0 rfl) ?_
  refine pl_get (v := .ref (ad 257)) hx hb hts (fun w h => mT (inX11 w h)) hown hG.1 hP (hst.1 255 (by decide)) hf12 rfl 7 (by decide) (hts _ (mT wg_1343)) (fun _ h => h) rfl dX11_starts_9 ?_
  refine lv_iconst (v := 0) hx hb dX11_starts_12 (by decide) ?_
  obtain ⟨rw13, hf14, hpn15, hpg16, hpn17, hpn18, hpn19, hpg20⟩ := hT.2.2 2 (by decide)
  have hin21 : vp_in 0 6 := In.inb (⟨by decide, by decide⟩ : In 0 0 0) (by decide) (by decide)
  refine pl_iald hx hb hG.1 hP (hst.1 257 (by decide)) 0 hf14 rfl hin21 dX11_starts_13 ?_
  refine lv_topi (fun x22 ex22 => ?_)
  have hb23 : In x22 0 9 := by rw [ex22]; exact pinI (k := 0) (by decide) hpn15
  have hgl24 : x22.toInt = th 30 := by rw [ex22]; exact pinE (k := 0) (by decide) hpg16
  have hJ22 : ∀ (y22_s0 : Int32) (H : Heap) (locs : List Loc) (ls : Array Slot), In y22_s0 0 1 → va_P g.1 vwCl (va_pl L f5) H → va_D A (va_pl L f5) → va_S A s.heap H locs → lv_has ls 3 [(0, .ref (ad 255))] → W p l e rm_X11_starts s m [.ref (ad 255)].toArray below meth c H locs 0 0 (MQ below (va_Qv (po_X11_starts g ad th L f ) (PstB g A) A) [.ref (ad 255)].toArray s rm_X11_starts.cells rm_X11_starts.slots A) (F0 m 22 ls [.int y22_s0]) := by
    intro y22_s0 H locs ls hy22_s0 hP hD hS hl
    refine lv_istore_n (lv' := [(1, .int y22_s0), (0, .ref (ad 255))]) hx hb dX11_starts_22 rfl hl (by decide) rfl (fun ls hl => ?_)
    refine lv_iconst (v := 0) hx hb dX11_starts_23 (by decide) ?_
    refine lv_istore_n (lv' := [(2, .int 0), (1, .int y22_s0), (0, .ref (ad 255))]) hx hb dX11_starts_24 rfl hl (by decide) rfl (fun ls hl => ?_)
    have hJ25 : ∀ (k25 : Nat) (y25_l1 : Int32) (y25_l2 : Int32) (f_25 : HP) (H : Heap) (locs : List Loc) (ls : Array Slot), In y25_l1 0 1 → In y25_l2 0 2147483647 → va_P g.1 vwCl (va_pl L f_25) H → va_D A (va_pl L f_25) → va_S A s.heap H locs → TI g ad (gset (gset (gset th 37 zz8) 40 zz9) 41 zz10) f_25 → (∀ b, b ≠ (ad 255) → b ≠ (ad 257) → f_25 b = f b) → f_25 (ad 255) = .inr (10, [.int v0_11, .ref (ad 256), .int v2_11, .int v3_11, .int v4_11, .int v5_11, .int v6_11, .ref (ad 257), .int v8_11, .int v9_11, .ref (ad 258), .ref (ad 259), .int v12_11, .int v13_11, .int v14_11, .int v15_11, .int v16_11, .int v17_11, .int v18_11, .int v19_11, .int v20_11, .long v21_11, .long v22_11, .int v23_11, .ref (ad 260), .int v25_11, .ref (ad 261), .ref (ad 262), .ref (ad 263), .ref (ad 264), .ref (ad 265), .ref (ad 266), .ref (ad 267), .ref (ad 268), .ref (ad 269), .ref (ad 270), .int v36_11, .int v37_11, .int v38_11, .int v39_11, .int v40_11, .ref (ad 271), .ref (ad 272), .ref (ad 273), .ref (ad 274), .long v45_11, .long v46_11, .int v47_11, .int v48_11, .ref (ad 275), .int v50_11, .int v51_11, .ref (ad 276), .int v53_11, .ref (ad 277), .int v55_11]) → (y25_l2.toInt ≤ v6_11.toInt ∧ 0 ≤ y25_l2.toInt) → lv_has ls 3 [(0, .ref (ad 255)), (1, .int y25_l1), (2, .int y25_l2)] → 2147483647 - y25_l2.toInt < ((k25 : Nat) : Int) → W p l e rm_X11_starts s m [.ref (ad 255)].toArray below meth c H locs 0 0 (MQ below (va_Qv (po_X11_starts g ad th L f ) (PstB g A) A) [.ref (ad 255)].toArray s rm_X11_starts.cells rm_X11_starts.slots A) (F0 m 25 ls []) := by
      intro k25
      induction k25 with
      | zero =>
        intro y25_l1 y25_l2 f_25 H locs ls hy25_l1 hy25_l2 hP hD hS hT hfr hf25 hinv25_0 hl hmz25
        exact ms0 hy25_l2 hmz25
      | succ k25 ih25 =>
        intro y25_l1 y25_l2 f_25 H locs ls hy25_l1 hy25_l2 hP hD hS hT hfr hf25 hinv25_0 hl hmz25
        refine lv_iload_n hx hb dX11_starts_25 rfl (lv_at hl 2 rfl) ?_
        refine lv_aload_n hx hb dX11_starts_26 rfl (lv_at hl 0 rfl) ?_
        refine pl_get (v := .int v6_11) hx hb hts (fun w h => mT (inX11 w h)) hown hG.1 hP (hst.1 255 (by decide)) hf25 rfl 6 (by decide) (hts _ (mT wg_1342)) (fun _ h => h) rfl dX11_starts_27 ?_
        have hJ82 : ∀ (H : Heap) (locs : List Loc) (ls : Array Slot), va_P g.1 vwCl (va_pl L f_25) H → va_D A (va_pl L f_25) → va_S A s.heap H locs → lv_has ls 3 [(0, .ref (ad 255)), (1, .int y25_l1), (2, .int y25_l2)] → W p l e rm_X11_starts s m [.ref (ad 255)].toArray below meth c H locs 0 0 (MQ below (va_Qv (po_X11_starts g ad th L f ) (PstB g A) A) [.ref (ad 255)].toArray s rm_X11_starts.cells rm_X11_starts.slots A) (F0 m 82 ls []) := by
          intro H locs ls hP hD hS hl
          refine lv_iload_n hx hb dX11_starts_82 rfl (lv_at hl 1 rfl) ?_
          refine lv_if_ne (tgt := 94) hx hb dX11_starts_83 (by decide) (fun c26 => ?_) (fun c26 => ?_)
          ·
            have oc0 : (0 : Int32).toInt = 0 := by decide
            have cc27 : y25_l1.toInt ≠ (0 : Int32).toInt := i32_ne c26
            have hb28 : In y25_l1 1 1 := In.ne1 hy25_l1 (⟨by decide, by decide⟩ : In 0 0 0) cc27 (by decide) (by decide)
            exact ret_v hx hb hr hlocks hP hD hS (Nat.le_of_ble_eq_true rfl) (Nat.le_of_ble_eq_true rfl) (⟨rfl, ⟨zz8, zz9, zz10, (th 42), (show th 37 ≤ zz8 ∧ zz8 ≤ 500 from (by have ob13 : (0 : Int) ≤ (th 13) ∧ (th 13) ≤ 500 := (b0_13 hT :); have ob35 : (0 : Int) ≤ (th 35) ∧ (th 35) ≤ 63 := (b0_35 hT :); have ob36 : (0 : Int) ≤ (th 36) ∧ (th 36) ≤ 20 := (b0_36 hT :); have ob37 : (0 : Int) ≤ zz8 ∧ zz8 ≤ 500 := (b0_37 hT :); have ob40 : (0 : Int) ≤ zz9 ∧ zz9 ≤ 500 := (b0_40 hT :); have ob41 : (0 : Int) ≤ zz10 ∧ zz10 ≤ 500 := (b0_41 hT :); have ob42 : ((-1) : Int) ≤ (th 42) ∧ (th 42) ≤ 500 := (b0_42 hT :); have ob43 : ((-1) : Int) ≤ (th 43) ∧ (th 43) ≤ 1 := (b0_43 hT :); obtain ⟨o0a, o0b⟩ := (hb28 : In _ _ _); obtain ⟨o1a, o1b⟩ := (hy25_l2 : In _ _ _); obtain ⟨o2a, o2b⟩ := (hv2_11 : In _ _ _); obtain ⟨o3a, o3b⟩ := (hv3_11 : In _ _ _); obtain ⟨o4a, o4b⟩ := (hv4_11 : In _ _ _); obtain ⟨o5a, o5b⟩ := (hv5_11 : In _ _ _); obtain ⟨o6a, o6b⟩ := (hv6_11 : In _ _ _); obtain ⟨o7a, o7b⟩ := (hv8_11 : In _ _ _); obtain ⟨o8a, o8b⟩ := (hv9_11 : In _ _ _); obtain ⟨o9a, o9b⟩ := (hv13_11 : In _ _ _); omega)), TI.cast hT (by funext q; by_cases hq0 : q = 41; (subst hq0; rfl); by_cases hq1 : q = 40; (subst hq1; rfl); by_cases hq2 : q = 37; (subst hq2; rfl); by_cases hq3 : q = 42; (subst hq3; rfl); simp only [gset, if_neg hq0, if_neg hq1, if_neg hq2, if_neg hq3])⟩, hfr⟩) dX11_starts_94
          ·
            have oc0 : (0 : Int32).toInt = 0 := by decide
            have cc29 : y25_l1.toInt = (0 : Int32).toInt := congrArg Int32.toInt c26
            have hb30 : In y25_l1 0 0 := In.eq1 hy25_l1 (⟨by decide, by decide⟩ : In 0 0 0) cc29 (by decide) (by decide)
            refine lv_aload_n hx hb dX11_starts_86 rfl (lv_at hl 0 rfl) ?_
            refine lv_aload_n hx hb dX11_starts_87 rfl (lv_at hl 0 rfl) ?_
            refine pl_get (v := .int v5_11) hx hb hts (fun w h => mT (inX11 w h)) hown hG.1 hP (hst.1 255 (by decide)) hf25 rfl 5 (by decide) (hts _ (mT wg_1341)) (fun _ h => h) rfl dX11_starts_88 ?_
            have hg5_11 : v5_11.toInt = zz9 := hg5_11
            refine call_v (run_V (rm := rm_X11_fails) hx hb hml hown hts (s_X11_fails l g ad (gset (gset (gset th 37 zz8) 40 zz9) 41 zz10) _ _ _ v5_11 hst hT hv5_11) cV_X11_fails wg_1545 ⟨Nat.le_of_ble_eq_true rfl, Nat.le_of_ble_eq_true rfl⟩ hG hE hA hP hD hS (hst.1 255 (by decide)) hf25 rfl rfl hl.1 (As := [.int v5_11]) (rest := []) rfl (Nat.le_of_ble_eq_true rfl) dX11_starts_91 ⟨Nat.le_of_ble_eq_true rfl, Nat.le_of_ble_eq_true rfl⟩) hA hD hS (fun L32 f33 H locs hp34 hP hD hS => ?_)
            obtain ⟨eL35L, eL35T, eL35F⟩ := hp34
            have eL35L : L32 = L := eL35L
            rw [eL35L] at hP hD
            obtain ⟨zz36, hzz36, eL35T⟩ := eL35T
            have hzz36 : 0 ≤ zz36 := hzz36
            have hT : TI g ad (gset (gset (gset (gset th 37 zz8) 40 zz9) 41 zz10) 42 zz36) f33 := eL35T
            have eL35F : ∀ b, b ≠ (ad 255) → f33 b = f_25 b := eL35F
            have hfr : (∀ b, b ≠ (ad 255) → b ≠ (ad 257) → f33 b = f b) := fun b z0_ z1_ => (eL35F b z0_).trans (hfr b z0_ z1_)
            exact ret_v hx hb hr hlocks hP hD hS (Nat.le_of_ble_eq_true rfl) (Nat.le_of_ble_eq_true rfl) (⟨rfl, ⟨zz8, zz9, zz10, zz36, (show th 37 ≤ zz8 ∧ zz8 ≤ 500 from (by have ob13 : (0 : Int) ≤ (th 13) ∧ (th 13) ≤ 500 := (b0_13 hT :); have ob35 : (0 : Int) ≤ (th 35) ∧ (th 35) ≤ 63 := (b0_35 hT :); have ob36 : (0 : Int) ≤ (th 36) ∧ (th 36) ≤ 20 := (b0_36 hT :); have ob37 : (0 : Int) ≤ zz8 ∧ zz8 ≤ 500 := (b0_37 hT :); have ob40 : (0 : Int) ≤ zz9 ∧ zz9 ≤ 500 := (b0_40 hT :); have ob41 : (0 : Int) ≤ zz10 ∧ zz10 ≤ 500 := (b0_41 hT :); have ob42 : ((-1) : Int) ≤ zz36 ∧ zz36 ≤ 500 := (b0_42 hT :); have ob43 : ((-1) : Int) ≤ (th 43) ∧ (th 43) ≤ 1 := (b0_43 hT :); obtain ⟨o0a, o0b⟩ := (hb30 : In _ _ _); obtain ⟨o1a, o1b⟩ := (hy25_l2 : In _ _ _); obtain ⟨o2a, o2b⟩ := (hv6_11 : In _ _ _); omega)), TI.cast hT (by funext q; by_cases hq0 : q = 42; (subst hq0; rfl); by_cases hq1 : q = 41; (subst hq1; rfl); by_cases hq2 : q = 40; (subst hq2; rfl); by_cases hq3 : q = 37; (subst hq3; rfl); simp only [gset, if_neg hq0, if_neg hq1, if_neg hq2, if_neg hq3])⟩, hfr⟩) dX11_starts_94
        refine lv_icmp_ge (tgt := 82) hx hb dX11_starts_30 (by decide) (fun c37 => ?_) (fun c37 => ?_)
        ·
          have cc38 : v6_11.toInt ≤ y25_l2.toInt := i32_le.mp c37
          exact hJ82 _ _ _ hP hD hS (lv_sub hl [0, 1, 2] rfl)
        ·
          have cc39 : y25_l2.toInt < v6_11.toInt := i32_nle c37
          have hb40 : In y25_l2 0 499 := In.lt1 hy25_l2 hv6_11 cc39 (by decide) (by decide)
          have hb41 : In v6_11 1 500 := In.lt2 hy25_l2 hv6_11 cc39 (by decide) (by decide)
          refine lv_iload_n hx hb dX11_starts_33 rfl (lv_at hl 1 rfl) ?_
          refine lv_if_eq (tgt := 82) hx hb dX11_starts_34 (by decide) (fun c42 => ?_) (fun c42 => ?_)
          ·
            have oc0 : (0 : Int32).toInt = 0 := by decide
            have cc43 : y25_l1.toInt = (0 : Int32).toInt := congrArg Int32.toInt c42
            have hb44 : In y25_l1 0 0 := In.eq1 hy25_l1 (⟨by decide, by decide⟩ : In 0 0 0) cc43 (by decide) (by decide)
            exact hJ82 _ _ _ hP hD hS (lv_sub hl [0, 1, 2] rfl)
          ·
            have oc0 : (0 : Int32).toInt = 0 := by decide
            have cc45 : y25_l1.toInt ≠ (0 : Int32).toInt := i32_ne c42
            have hb46 : In y25_l1 1 1 := In.ne1 hy25_l1 (⟨by decide, by decide⟩ : In 0 0 0) cc45 (by decide) (by decide)
            refine lv_aload_n hx hb dX11_starts_37 rfl (lv_at hl 0 rfl) ?_
            refine lv_iload_n hx hb dX11_starts_38 rfl (lv_at hl 2 rfl) ?_
            refine call_i (run_V (rm := rm_X11_digitAt) hx hb hml hown hts (s_X11_digitAt l g ad (gset (gset (gset th 37 zz8) 40 zz9) 41 zz10) _ _ _ y25_l2 hst hT hb40 (show zz9 + y25_l2.toInt < 500 from (by have ob13 : (0 : Int) ≤ (th 13) ∧ (th 13) ≤ 500 := (b0_13 hT :); have ob35 : (0 : Int) ≤ (th 35) ∧ (th 35) ≤ 63 := (b0_35 hT :); have ob36 : (0 : Int) ≤ (th 36) ∧ (th 36) ≤ 20 := (b0_36 hT :); have ob37 : (0 : Int) ≤ zz8 ∧ zz8 ≤ 500 := (b0_37 hT :); have ob40 : (0 : Int) ≤ zz9 ∧ zz9 ≤ 500 := (b0_40 hT :); have ob41 : (0 : Int) ≤ zz10 ∧ zz10 ≤ 500 := (b0_41 hT :); have ob42 : ((-1) : Int) ≤ (th 42) ∧ (th 42) ≤ 500 := (b0_42 hT :); have ob43 : ((-1) : Int) ≤ (th 43) ∧ (th 43) ≤ 1 := (b0_43 hT :); obtain ⟨o0a, o0b⟩ := (hb40 : In _ _ _); obtain ⟨o1a, o1b⟩ := (hv2_11 : In _ _ _); obtain ⟨o2a, o2b⟩ := (hv3_11 : In _ _ _); obtain ⟨o3a, o3b⟩ := (hv4_11 : In _ _ _); obtain ⟨o4a, o4b⟩ := (hv5_11 : In _ _ _); obtain ⟨o5a, o5b⟩ := (hb41 : In _ _ _); obtain ⟨o6a, o6b⟩ := (hv8_11 : In _ _ _); obtain ⟨o7a, o7b⟩ := (hv9_11 : In _ _ _); obtain ⟨o8a, o8b⟩ := (hv13_11 : In _ _ _); omega))) cV_X11_digitAt wg_1577 ⟨Nat.le_of_ble_eq_true rfl, Nat.le_of_ble_eq_true rfl⟩ hG hE hA hP hD hS (hst.1 255 (by decide)) hf25 rfl rfl hl.1 (As := [.int y25_l2]) (rest := []) rfl (Nat.le_of_ble_eq_true rfl) dX11_starts_39 ⟨Nat.le_of_ble_eq_true rfl, Nat.le_of_ble_eq_true rfl⟩) hA hD hS (fun r47 L48 f49 H locs hp50 hP hD hS => ?_)
            obtain ⟨eL51L, eL51T, eL51R, eL51X0⟩ := hp50
            have eL51L : L48 = L := eL51L
            have eL51T : f49 = f_25 := eL51T
            rw [eL51L, eL51T] at hP hD
            have eL51R : In r47 (-176) 79 := eL51R
            obtain ⟨rw52, hf53, hc54⟩ := hT.2.2 1 (by decide)
            have hda55 : r47.toInt = (rw52 (zz9 + y25_l2.toInt).toNat).toInt - 48 := (eL51X0 _ hf53)
            refine lv_iconst (v := 2) hx hb dX11_starts_42 (by decide) ?_
            have hJ51 : ∀ (y51_s0 : Int32) (H : Heap) (locs : List Loc) (ls : Array Slot), In y51_s0 0 1 → va_P g.1 vwCl (va_pl L f_25) H → va_D A (va_pl L f_25) → va_S A s.heap H locs → lv_has ls 3 [(0, .ref (ad 255)), (1, .int y25_l1), (2, .int y25_l2)] → W p l e rm_X11_starts s m [.ref (ad 255)].toArray below meth c H locs 0 0 (MQ below (va_Qv (po_X11_starts g ad th L f ) (PstB g A) A) [.ref (ad 255)].toArray s rm_X11_starts.cells rm_X11_starts.slots A) (F0 m 51 ls [.int y51_s0]) := by
              intro y51_s0 H locs ls hy51_s0 hP hD hS hl
              refine lv_istore_n (lv' := [(1, .int y51_s0), (0, .ref (ad 255)), (2, .int y25_l2)]) hx hb dX11_starts_51 rfl hl (by decide) rfl (fun ls hl => ?_)
              refine lv_aload_n hx hb dX11_starts_52 rfl (lv_at hl 1 rfl) ?_
              refine pl_get (v := .ref (ad 257)) hx hb hts (fun w h => mT (inX11 w h)) hown hG.1 hP (hst.1 255 (by decide)) hf25 rfl 7 (by decide) (hts _ (mT wg_1343)) (fun _ h => h) rfl dX11_starts_53 ?_
              refine lv_iconst (v := 3) hx hb dX11_starts_56 (by decide) ?_
              refine lv_dup2_11 hx hb dX11_starts_57 rfl rfl ?_
              obtain ⟨rw56, hf57, hpn58, hpg59, hpn60, hpn61, hpn62, hpg63⟩ := hT.2.2 2 (by decide)
              have hin64 : vp_in 3 6 := In.inb (⟨by decide, by decide⟩ : In 3 3 3) (by decide) (by decide)
              refine pl_iald hx hb hG.1 hP (hst.1 257 (by decide)) 0 hf57 rfl hin64 dX11_starts_58 ?_
              refine lv_topi (fun x65 ex65 => ?_)
              refine lv_iload_n hx hb dX11_starts_59 rfl (lv_at hl 0 rfl) ?_
              have hJ74 : ∀ (y74_s0 : Int32) (H : Heap) (locs : List Loc) (ls : Array Slot), In y74_s0 (-2147483648) 2147483647 → va_P g.1 vwCl (va_pl L f_25) H → va_D A (va_pl L f_25) → va_S A s.heap H locs → lv_has ls 3 [(0, .ref (ad 255)), (1, .int y51_s0), (2, .int y25_l2)] → W p l e rm_X11_starts s m [.ref (ad 255)].toArray below meth c H locs 0 0 (MQ below (va_Qv (po_X11_starts g ad th L f ) (PstB g A) A) [.ref (ad 255)].toArray s rm_X11_starts.cells rm_X11_starts.slots A) (F0 m 74 ls [.int y74_s0, .int x65, .int 3, .ref (ad 257)]) := by
                intro y74_s0 H locs ls hy74_s0 hP hD hS hl
                refine lv_ior hx hb dX11_starts_74 ?_
                refine lv_topi (fun x66 ex66 => ?_)
                refine pl_iastE hx hb hG.1 hP hD hS (hst.1 257 (by decide)) 0 hf57 rfl (In.inb (⟨by decide, by decide⟩ : In 3 3 3) (by decide) (by decide)) dX11_starts_75 (fun H locs f67 r70 er70 hf68 ho69 hP hD hS => ?_)
                have hpn71 : In (r70 0) 0 9 := (upd_neI (k := 0) er70 (by decide)) ▸ hpn58
                have hpg72 := (congrArg Int32.toInt (upd_neI (k := 0) er70 (by decide))).trans hpg59
                have hpn73 : In (r70 1) 0 4 := (upd_neI (k := 1) er70 (by decide)) ▸ hpn60
                have hpn74 : In (r70 2) 0 6 := (upd_neI (k := 2) er70 (by decide)) ▸ hpn61
                have hpn75 : In (r70 4) 0 511 := (upd_neI (k := 4) er70 (by decide)) ▸ hpn62
                have hpg76 := (congrArg Int32.toInt (upd_neI (k := 4) er70 (by decide))).trans hpg63
                have hf77 := (ho69 (ad 255) (hst.ne (by decide) (by decide) (by decide))).trans hf25
                have hf78 := (ho69 (ad 256) (hst.ne (by decide) (by decide) (by decide))).trans hf53
                have hfr : (∀ b, b ≠ (ad 255) → b ≠ (ad 257) → f67 b = f b) := fun b z0_ z1_ => (ho69 b z1_).trans (hfr b z0_ z1_)
                obtain ⟨x79, ex79⟩ : ∃ y : Int32, y = y25_l2 + 1 := ⟨_, rfl⟩
                have hb80 : In x79 1 500 := ex79 ▸ In.add hb40 (⟨by decide, by decide⟩ : In 1 1 1) (by decide) (by decide) (by decide) (by decide)
                have et81 : x79.toInt = y25_l2.toInt + 1 := In.adde ex79 hb40 (k := 1) (by decide) (by decide) (by decide)
                refine lv_iinc (v := x79) (lv' := [(2, .int x79), (0, .ref (ad 255)), (1, .int y51_s0)]) hx hb dX11_starts_76 hl (k := 2) rfl (by rw [ex79]; rfl) (by decide) rfl (fun ls hl => ?_)
                have hT := TI.updM hT hst (k := 2) (by decide) hf68 ho69 ⟨r70, rfl, hpn71, (hpg72.trans rfl), hpn73, hpn74, hpn75, (hpg76.trans rfl)⟩
                refine lv_goto (tgt := 25) hx hb dX11_starts_79 (by decide) ?_
                exact ih25 y51_s0 x79 _ _ _ _ hy51_s0 (In.mono hb80 (by decide) (by decide)) hP hD hS hT hfr hf77 (by have ob13 : (0 : Int) ≤ (th 13) ∧ (th 13) ≤ 500 := (b0_13 hT :); have ob35 : (0 : Int) ≤ (th 35) ∧ (th 35) ≤ 63 := (b0_35 hT :); have ob36 : (0 : Int) ≤ (th 36) ∧ (th 36) ≤ 20 := (b0_36 hT :); have ob37 : (0 : Int) ≤ zz8 ∧ zz8 ≤ 500 := (b0_37 hT :); have ob40 : (0 : Int) ≤ zz9 ∧ zz9 ≤ 500 := (b0_40 hT :); have ob41 : (0 : Int) ≤ zz10 ∧ zz10 ≤ 500 := (b0_41 hT :); have ob42 : ((-1) : Int) ≤ (th 42) ∧ (th 42) ≤ 500 := (b0_42 hT :); have ob43 : ((-1) : Int) ≤ (th 43) ∧ (th 43) ≤ 1 := (b0_43 hT :); obtain ⟨o0a, o0b⟩ := (hb80 : In _ _ _); obtain ⟨o1a, o1b⟩ := (hb41 : In _ _ _); obtain ⟨o2a, o2b⟩ := (hv2_11 : In _ _ _); obtain ⟨o3a, o3b⟩ := (hv3_11 : In _ _ _); obtain ⟨o4a, o4b⟩ := (hv4_11 : In _ _ _); obtain ⟨o5a, o5b⟩ := (hv5_11 : In _ _ _); obtain ⟨o6a, o6b⟩ := (hv8_11 : In _ _ _); obtain ⟨o7a, o7b⟩ := (hv9_11 : In _ _ _); obtain ⟨o8a, o8b⟩ := (hv13_11 : In _ _ _); obtain ⟨o9a, o9b⟩ := (hb40 : In _ _ _); omega) (lv_sub hl [1, 2, 0] rfl) (msu et81 (by decide) hmz25)
              refine lv_if_eq (tgt := 73) hx hb dX11_starts_60 (by decide) (fun c82 => ?_) (fun c82 => ?_)
              ·
                have oc0 : (0 : Int32).toInt = 0 := by decide
                have cc83 : y51_s0.toInt = (0 : Int32).toInt := congrArg Int32.toInt c82
                have hb84 : In y51_s0 0 0 := In.eq1 hy51_s0 (⟨by decide, by decide⟩ : In 0 0 0) cc83 (by decide) (by decide)
                refine lv_iconst (v := 0) hx hb dX11_starts_73 (by decide) ?_
                exact hJ74 0 _ _ _ (⟨by decide, by decide⟩ : In 0 (-2147483648) 2147483647) hP hD hS (lv_sub hl [1, 0, 2] rfl)
              ·
                have oc0 : (0 : Int32).toInt = 0 := by decide
                have cc85 : y51_s0.toInt ≠ (0 : Int32).toInt := i32_ne c82
                have hb86 : In y51_s0 1 1 := In.ne1 hy51_s0 (⟨by decide, by decide⟩ : In 0 0 0) cc85 (by decide) (by decide)
                refine lv_aload_n hx hb dX11_starts_63 rfl (lv_at hl 1 rfl) ?_
                refine lv_iload_n hx hb dX11_starts_64 rfl (lv_at hl 2 rfl) ?_
                refine call_i (run_V (rm := rm_X11_digitAt) hx hb hml hown hts (s_X11_digitAt l g ad (gset (gset (gset th 37 zz8) 40 zz9) 41 zz10) _ _ _ y25_l2 hst hT hb40 (show zz9 + y25_l2.toInt < 500 from (by have ob13 : (0 : Int) ≤ (th 13) ∧ (th 13) ≤ 500 := (b0_13 hT :); have ob35 : (0 : Int) ≤ (th 35) ∧ (th 35) ≤ 63 := (b0_35 hT :); have ob36 : (0 : Int) ≤ (th 36) ∧ (th 36) ≤ 20 := (b0_36 hT :); have ob37 : (0 : Int) ≤ zz8 ∧ zz8 ≤ 500 := (b0_37 hT :); have ob40 : (0 : Int) ≤ zz9 ∧ zz9 ≤ 500 := (b0_40 hT :); have ob41 : (0 : Int) ≤ zz10 ∧ zz10 ≤ 500 := (b0_41 hT :); have ob42 : ((-1) : Int) ≤ (th 42) ∧ (th 42) ≤ 500 := (b0_42 hT :); have ob43 : ((-1) : Int) ≤ (th 43) ∧ (th 43) ≤ 1 := (b0_43 hT :); obtain ⟨o0a, o0b⟩ := (hb40 : In _ _ _); obtain ⟨o1a, o1b⟩ := (hv2_11 : In _ _ _); obtain ⟨o2a, o2b⟩ := (hv3_11 : In _ _ _); obtain ⟨o3a, o3b⟩ := (hv4_11 : In _ _ _); obtain ⟨o4a, o4b⟩ := (hv5_11 : In _ _ _); obtain ⟨o5a, o5b⟩ := (hb41 : In _ _ _); obtain ⟨o6a, o6b⟩ := (hv8_11 : In _ _ _); obtain ⟨o7a, o7b⟩ := (hv9_11 : In _ _ _); obtain ⟨o8a, o8b⟩ := (hv13_11 : In _ _ _); omega))) cV_X11_digitAt wg_1577 ⟨Nat.le_of_ble_eq_true rfl, Nat.le_of_ble_eq_true rfl⟩ hG hE hA hP hD hS (hst.1 255 (by decide)) hf25 rfl rfl hl.1 (As := [.int y25_l2]) (rest := [.int x65, .int 3, .ref (ad 257)]) rfl (Nat.le_of_ble_eq_true rfl) dX11_starts_65 ⟨Nat.le_of_ble_eq_true rfl, Nat.le_of_ble_eq_true rfl⟩) hA hD hS (fun r87 L88 f89 H locs hp90 hP hD hS => ?_)
                obtain ⟨eL91L, eL91T, eL91R, eL91X0⟩ := hp90
                have eL91L : L88 = L := eL91L
                have eL91T : f89 = f_25 := eL91T
                rw [eL91L, eL91T] at hP hD
                have eL91R : In r87 (-176) 79 := eL91R
                have hda92 : r87.toInt = (rw52 (zz9 + y25_l2.toInt).toNat).toInt - 48 := (eL91X0 _ hf53)
                refine lv_iload_n hx hb dX11_starts_68 rfl (lv_at hl 2 rfl) ?_
                refine lv_ishl hx hb dX11_starts_69 ?_
                refine lv_topi (fun x93 ex93 => ?_)
                refine lv_goto (tgt := 74) hx hb dX11_starts_70 (by decide) ?_
                exact hJ74 x93 _ _ _ (In.full x93) hP hD hS (lv_sub hl [1, 0, 2] rfl)
            refine lv_icmp_ge (tgt := 50) hx hb dX11_starts_43 (by decide) (fun c94 => ?_) (fun c94 => ?_)
            ·
              have oc2 : (2 : Int32).toInt = 2 := by decide
              have cc95 : (2 : Int32).toInt ≤ r47.toInt := i32_le.mp c94
              have hb96 : In r47 2 79 := In.ge1 eL51R (⟨by decide, by decide⟩ : In 2 2 2) cc95 (by decide) (by decide)
              refine lv_iconst (v := 0) hx hb dX11_starts_50 (by decide) ?_
              exact hJ51 0 _ _ _ (⟨by decide, by decide⟩ : In 0 0 1) hP hD hS (lv_sub hl [0, 1, 2] rfl)
            ·
              have oc2 : (2 : Int32).toInt = 2 := by decide
              have cc97 : r47.toInt < (2 : Int32).toInt := i32_nle c94
              have hb98 : In r47 (-176) 1 := In.lt1 eL51R (⟨by decide, by decide⟩ : In 2 2 2) cc97 (by decide) (by decide)
              refine lv_iconst (v := 1) hx hb dX11_starts_46 (by decide) ?_
              refine lv_goto (tgt := 51) hx hb dX11_starts_47 (by decide) ?_
              exact hJ51 1 _ _ _ (⟨by decide, by decide⟩ : In 1 0 1) hP hD hS (lv_sub hl [0, 1, 2] rfl)
    exact hJ25 ((2147483647 - (0 : Int32).toInt).toNat + 1) y22_s0 0 _ _ _ _ hy22_s0 (⟨by decide, by decide⟩ : In 0 0 2147483647) hP hD hS hT hfr hf12 (by have ob13 : (0 : Int) ≤ (th 13) ∧ (th 13) ≤ 500 := (b0_13 hT :); have ob35 : (0 : Int) ≤ (th 35) ∧ (th 35) ≤ 63 := (b0_35 hT :); have ob36 : (0 : Int) ≤ (th 36) ∧ (th 36) ≤ 20 := (b0_36 hT :); have ob37 : (0 : Int) ≤ zz8 ∧ zz8 ≤ 500 := (b0_37 hT :); have ob40 : (0 : Int) ≤ zz9 ∧ zz9 ≤ 500 := (b0_40 hT :); have ob41 : (0 : Int) ≤ zz10 ∧ zz10 ≤ 500 := (b0_41 hT :); have ob42 : ((-1) : Int) ≤ (th 42) ∧ (th 42) ≤ 500 := (b0_42 hT :); have ob43 : ((-1) : Int) ≤ (th 43) ∧ (th 43) ≤ 1 := (b0_43 hT :); have oc0 : (0 : Int32).toInt = 0 := (by decide); obtain ⟨o1a, o1b⟩ := (hv6_11 : In _ _ _); obtain ⟨o2a, o2b⟩ := (hv2_11 : In _ _ _); obtain ⟨o3a, o3b⟩ := (hv3_11 : In _ _ _); obtain ⟨o4a, o4b⟩ := (hv4_11 : In _ _ _); obtain ⟨o5a, o5b⟩ := (hv5_11 : In _ _ _); obtain ⟨o6a, o6b⟩ := (hv8_11 : In _ _ _); obtain ⟨o7a, o7b⟩ := (hv9_11 : In _ _ _); obtain ⟨o8a, o8b⟩ := (hv13_11 : In _ _ _); omega) (lv_sub hl [2, 1, 0] rfl) (msI _)
  refine lv_icmp_ne (tgt := 21) hx hb dX11_starts_14 (by decide) (fun c99 => ?_) (fun c99 => ?_)
  ·
    have cc100 : v6_11.toInt ≠ x22.toInt := i32_ne c99
    refine lv_iconst (v := 0) hx hb dX11_starts_21 (by decide) ?_
    exact hJ22 0 _ _ _ (⟨by decide, by decide⟩ : In 0 0 1) hP hD hS (lv_sub hl [0] rfl)
  ·
    have cc101 : v6_11.toInt = x22.toInt := congrArg Int32.toInt c99
    have hb102 : In v6_11 0 9 := In.eq1 hv6_11 hb23 cc101 (by decide) (by decide)
    refine lv_iconst (v := 1) hx hb dX11_starts_17 (by decide) ?_
    refine lv_goto (tgt := 22) hx hb dX11_starts_18 (by decide) ?_
    exact hJ22 1 _ _ _ (⟨by decide, by decide⟩ : In 1 0 1) hP hD hS (lv_sub hl [0] rfl)
