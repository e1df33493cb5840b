abbrev rm_X11_here : Room := { frames := 0, cells := 0, slots := 0, locals := 0 }
abbrev po_X11_here (g : GG) (ad : Nat → Nat) (th : Nat → Int) (L : List Nat) (f : HP)  : Int32 → (List Nat × HP) → Prop := fun r u => u.1 = L ∧ u.2 = f ∧ In r (-1) 255 ∧ (r.toInt = -1 ∨ th 37 < th 13) ∧ (∀ r0 : Nat → Int32, f (ad 256) = .inl (g.2.1 2, 500, .inl r0) → r.toInt = -1 ∨ r.toInt = (r0 (th 37).toNat).toInt % 256)
set_option maxHeartbeats 4000000 in
set_option maxRecDepth 100000 in
theorem s_X11_here (l : Launch) (g : GG) (ad : Nat → Nat) (th : Nat → Int) (L : List Nat) (f : HP) (sz : Nat)  (hst : ST ad L) (hT : TI g ad th f)  : MtI l g yX11_here cX11_here 1 (some .int) rm_X11_here [.ref (ad 255)] L f sz (po_X11_here g ad th L f ) := by
  refine MtI.of (by decide +kernel) (Nat.le_of_ble_eq_true rfl) ?_
  intro p e s m below meth c A hEn hP hD hS ls hl
  obtain ⟨hx, hb, hr, hml, hown, hlocks, hts, hG, hA, hE, hnm⟩ := hEn
  have hown : s.vm.findClass "RulerWordModel" = some m.cls := hown
  have hl : lv_has ls 1 [(0, .ref (ad 255))] := hl
  refine lv_aload_n hx hb dX11_here_0 rfl (lv_at hl 0 rfl) ?_
  refine M0e hT (fun v0_1 v2_1 v3_1 v4_1 v5_1 v6_1 v8_1 v9_1 v12_1 v13_1 v14_1 v15_1 v16_1 v17_1 v18_1 v19_1 v20_1 v21_1 v22_1 v23_1 v25_1 v36_1 v37_1 v38_1 v39_1 v40_1 v45_1 v46_1 v47_1 v48_1 v50_1 v51_1 v53_1 v55_1 hf2 hv0_1 hv2_1 hg2_1 hv3_1 hg3_1 hv4_1 hg4_1 hv5_1 hg5_1 hv6_1 hg6_1 hv8_1 hg8_1 hv9_1 hg9_1 hv12_1 hv13_1 hg13_1 hv14_1 hg14_1 hv15_1 hg15_1 hv17_1 hg17_1 hv20_1 hg20_1 hv23_1 hg23_1 hv25_1 hg25_1 hv36_1 hg36_1 hv47_1 hg47_1 hv48_1 hg48_1 hv53_1 hg53_1 hv55_1 hg55_1 hrel0_1 => ?_)
  have hg15_1 : v15_1.toInt = th 11 := hg15_1
  have hg17_1 : v17_1.toInt = th 12 := hg17_1
  have hg20_1 : v20_1.toInt = th 14 := hg20_1
  refine pl_get (v := .int v3_1) hx hb hts (fun w h => mT (inX11 w h)) hown hG.1 hP (hst.1 255 (by decide)) hf2 rfl 3 (by decide) (hts _ (mT wg_1339)) (fun _ h => h) rfl dX11_here_1 ?_
  have hg3_1 : v3_1.toInt = th 37 := hg3_1
  refine lv_aload_n hx hb dX11_here_4 rfl (lv_at hl 0 rfl) ?_
  refine pl_get (v := .int v2_1) hx hb hts (fun w h => mT (inX11 w h)) hown hG.1 hP (hst.1 255 (by decide)) hf2 rfl 2 (by decide) (hts _ (mT wg_1338)) (fun _ h => h) rfl dX11_here_5 ?_
  have hg2_1 : v2_1.toInt = th 13 := hg2_1
  refine lv_icmp_ge (tgt := 27) hx hb dX11_here_8 (by decide) (fun c3 => ?_) (fun c3 => ?_)
  ·
    have cc4 : v2_1.toInt ≤ v3_1.toInt := i32_le.mp c3
    refine lv_iconst (v := (-1)) hx hb dX11_here_27 (by decide) ?_
    exact ret_i (ty := .int) hx hb hr hlocks (rfl) hP hD hS (Nat.le_of_ble_eq_true rfl) (Nat.le_of_ble_eq_true rfl) (⟨rfl, rfl, (⟨by decide, by decide⟩ : In (-1) (-1) 255), (Or.inl (by decide)), (fun r0 _ => Or.inl (by decide))⟩) dX11_here_28
  ·
    have cc5 : v3_1.toInt < v2_1.toInt := i32_nle c3
    have hb6 : In v3_1 0 499 := In.lt1 hv3_1 hv2_1 cc5 (by decide) (by decide)
    have hb7 : In v2_1 1 500 := In.lt2 hv3_1 hv2_1 cc5 (by decide) (by decide)
    refine lv_aload_n hx hb dX11_here_11 rfl (lv_at hl 0 rfl) ?_
    refine pl_get (v := .ref (ad 256)) hx hb hts (fun w h => mT (inX11 w h)) hown hG.1 hP (hst.1 255 (by decide)) hf2 rfl 1 (by decide) (hts _ (mT wg_1337)) (fun _ h => h) rfl dX11_here_12 ?_
    refine lv_aload_n hx hb dX11_here_15 rfl (lv_at hl 0 rfl) ?_
    refine pl_get (v := .int v3_1) hx hb hts (fun w h => mT (inX11 w h)) hown hG.1 hP (hst.1 255 (by decide)) hf2 rfl 3 (by decide) (hts _ (mT wg_1339)) (fun _ h => h) rfl dX11_here_16 ?_
    obtain ⟨rw8, hf9, hc10⟩ := hT.2.2 1 (by decide)
    have hin11 : vp_in v3_1 500 := In.inb hb6 (by decide) (by decide)
    refine pl_bald hx hb hG.1 hP (hst.1 256 (by decide)) 2 hf9 rfl hin11 dX11_here_19 ?_
    refine lv_topi (fun x12 ex12 => ?_)
    have hb13 : In x12 (-128) 127 := by rw [ex12]; exact hc10 _ (vp_nat hin11)
    refine lv_sipush (v := 255) hx hb dX11_here_20 (by decide) ?_
    refine lv_iand hx hb dX11_here_23 ?_
    refine lv_topi (fun x14 ex14 => ?_)
    have hb15 : In x14 0 255 := ex14 ▸ In.andr (⟨by decide, by decide⟩ : In 255 255 255) (by decide)
    refine lv_goto (tgt := 28) hx hb dX11_here_24 (by decide) ?_
    exact ret_i (ty := .int) hx hb hr hlocks (rfl) hP hD hS (Nat.le_of_ble_eq_true rfl) (Nat.le_of_ble_eq_true rfl) (⟨rfl, rfl, (In.mono hb15 (by decide) (by decide)), (Or.inr (by have ob13 : (0 : Int) ≤ (th 13) ∧ (th 13) ≤ 500 := (b0_13 hT :); have ob35 : (0 : Int) ≤ (th 35) ∧ (th 35) ≤ 63 := (b0_35 hT :); have ob36 : (0 : Int) ≤ (th 36) ∧ (th 36) ≤ 20 := (b0_36 hT :); have ob37 : (0 : Int) ≤ (th 37) ∧ (th 37) ≤ 500 := (b0_37 hT :); have ob40 : (0 : Int) ≤ (th 40) ∧ (th 40) ≤ 500 := (b0_40 hT :); have ob41 : (0 : Int) ≤ (th 41) ∧ (th 41) ≤ 500 := (b0_41 hT :); have ob42 : ((-1) : Int) ≤ (th 42) ∧ (th 42) ≤ 500 := (b0_42 hT :); have ob43 : ((-1) : Int) ≤ (th 43) ∧ (th 43) ≤ 1 := (b0_43 hT :); obtain ⟨o0a, o0b⟩ := (hb7 : In _ _ _); obtain ⟨o1a, o1b⟩ := (hb6 : In _ _ _); obtain ⟨o2a, o2b⟩ := (hv4_1 : In _ _ _); obtain ⟨o3a, o3b⟩ := (hv5_1 : In _ _ _); obtain ⟨o4a, o4b⟩ := (hv6_1 : In _ _ _); obtain ⟨o5a, o5b⟩ := (hv8_1 : In _ _ _); obtain ⟨o6a, o6b⟩ := (hv9_1 : In _ _ _); obtain ⟨o7a, o7b⟩ := (hv13_1 : In _ _ _); omega)), (fun r0 q0 => Or.inr (by rw [and255 ex14, ex12]; have q1 := hf9.symm.trans q0; injection q1 with q1; injection q1 with _ q1; injection q1 with _ q1; injection q1 with q1; rw [← q1]; show (rw8 v3_1.toInt.toNat).toInt % 256 = _; rw [hg3_1]))⟩) dX11_here_28

abbrev rm_X11_look : Room := { frames := 1, cells := 0, slots := 0, locals := 20 }
abbrev po_X11_look (g : GG) (ad : Nat → Nat) (th : Nat → Int) (L : List Nat) (f : HP)  : Int32 → (List Nat × HP) → Prop := fun r u => u.1 = L ∧ (∃ za : Int, ((th 37 ≤ za ∧ za ≤ 500) ∧ (r.toInt = -1 ∨ za < th 13)) ∧ TI g ad (gset th 37 za) u.2) ∧ (∀ b, b ≠ (ad 255) → u.2 b = f b) ∧ In r (-1) 255
set_option maxHeartbeats 4000000 in
set_option maxRecDepth 100000 in
theorem s_X11_look (l : Launch) (g : GG) (ad : Nat → Nat) (th : Nat → Int) (L : List Nat) (f : HP) (sz : Nat)  (hst : ST ad L) (hT : TI g ad th f)  : MtI l g yX11_look cX11_look 1 (some .int) rm_X11_look [.ref (ad 255)] L f sz (po_X11_look g ad th L f ) := by
  refine MtI.of (by decide +kernel) (Nat.le_of_ble_eq_true rfl) ?_
  intro p e s m below meth c A hEn hP hD hS ls hl
  obtain ⟨hx, hb, hr, hml, hown, hlocks, hts, hG, hA, hE, hnm⟩ := hEn
  have hown : s.vm.findClass "RulerWordModel" = some m.cls := hown
  have hl : lv_has ls 1 [(0, .ref (ad 255))] := hl
  have hfr : (∀ b, b ≠ (ad 255) → f b = f b) := fun b z0_ => rfl
  have hJ0 : ∀ (k0 : Nat) (zg0_za : Int) (f_0 : HP) (H : Heap) (locs : List Loc) (ls : Array Slot), th 37 ≤ zg0_za ∧ zg0_za ≤ 500 → va_P g.1 vwCl (va_pl L f_0) H → va_D A (va_pl L f_0) → va_S A s.heap H locs → TI g ad (gset th 37 zg0_za) f_0 → (∀ b, b ≠ (ad 255) → f_0 b = f b) → lv_has ls 1 [(0, .ref (ad 255))] → 500 - zg0_za < ((k0 : Nat) : Int) → W p l e rm_X11_look s m [.ref (ad 255)].toArray below meth c H locs 0 0 (MQ below (va_Qi (po_X11_look g ad th L f ) (PstB g A) A) [.ref (ad 255)].toArray s rm_X11_look.cells rm_X11_look.slots A) (F0 m 0 ls []) := by
    intro k0
    induction k0 with
    | zero =>
      intro zg0_za f_0 H locs ls hzg0 hP hD hS hT hfr hl hmz0
      exact absurd hmz0 (by omega)
    | succ k0 ih0 =>
      intro zg0_za f_0 H locs ls hzg0 hP hD hS hT hfr hl hmz0
      refine lv_aload_n hx hb dX11_look_0 rfl (lv_at hl 0 rfl) ?_
      refine M0e hT (fun v0_1 v2_1 v3_1 v4_1 v5_1 v6_1 v8_1 v9_1 v12_1 v13_1 v14_1 v15_1 v16_1 v17_1 v18_1 v19_1 v20_1 v21_1 v22_1 v23_1 v25_1 v36_1 v37_1 v38_1 v39_1 v40_1 v45_1 v46_1 v47_1 v48_1 v50_1 v51_1 v53_1 v55_1 hf2 hv0_1 hv2_1 hg2_1 hv3_1 hg3_1 hv4_1 hg4_1 hv5_1 hg5_1 hv6_1 hg6_1 hv8_1 hg8_1 hv9_1 hg9_1 hv12_1 hv13_1 hg13_1 hv14_1 hg14_1 hv15_1 hg15_1 hv17_1 hg17_1 hv20_1 hg20_1 hv23_1 hg23_1 hv25_1 hg25_1 hv36_1 hg36_1 hv47_1 hg47_1 hv48_1 hg48_1 hv53_1 hg53_1 hv55_1 hg55_1 hrel0_1 => ?_)
      have hg15_1 : v15_1.toInt = th 11 := hg15_1
      have hg17_1 : v17_1.toInt = th 12 := hg17_1
      have hg20_1 : v20_1.toInt = th 14 := hg20_1
      refine call_i (run_V (rm := rm_X11_here) hx hb hml hown hts (s_X11_here l g ad (gset th 37 zg0_za) _ _ _  hst hT ) cV_X11_here wg_1533 ⟨Nat.le_of_ble_eq_true rfl, Nat.le_of_ble_eq_true rfl⟩ hG hE hA hP hD hS (hst.1 255 (by decide)) hf2 rfl rfl hl.1 (As := []) (rest := []) rfl (Nat.le_of_ble_eq_true rfl) dX11_look_1 ⟨Nat.le_of_ble_eq_true rfl, Nat.le_of_ble_eq_true rfl⟩) hA hD hS (fun r3 L4 f5 H locs hp6 hP hD hS => ?_)
      obtain ⟨eL7L, eL7T, eL7R, eL7X0, eL7X1⟩ := hp6
      have eL7L : L4 = L := eL7L
      have eL7T : f5 = f_0 := eL7T
      rw [eL7L, eL7T] at hP hD
      have eL7R : In r3 (-1) 255 := eL7R
      have hh8 : r3.toInt = -1 ∨ zg0_za < th 13 := eL7X0
      refine lv_bipush (v := 32) hx hb dX11_look_4 (by decide) ?_
      refine lv_icmp_ne (tgt := 22) hx hb dX11_look_6 (by decide) (fun c9 => ?_) (fun c9 => ?_)
      ·
        have oc32 : (32 : Int32).toInt = 32 := by decide
        have cc10 : r3.toInt ≠ (32 : Int32).toInt := i32_ne c9
        refine lv_aload_n hx hb dX11_look_22 rfl (lv_at hl 0 rfl) ?_
        refine call_i (run_V (rm := rm_X11_here) hx hb hml hown hts (s_X11_here l g ad (gset th 37 zg0_za) _ _ _  hst hT ) cV_X11_here wg_1533 ⟨Nat.le_of_ble_eq_true rfl, Nat.le_of_ble_eq_true rfl⟩ hG hE hA hP hD hS (hst.1 255 (by decide)) hf2 rfl rfl hl.1 (As := []) (rest := []) rfl (Nat.le_of_ble_eq_true rfl) dX11_look_23 ⟨Nat.le_of_ble_eq_true rfl, Nat.le_of_ble_eq_true rfl⟩) hA hD hS (fun r11 L12 f13 H locs hp14 hP hD hS => ?_)
        obtain ⟨eL15L, eL15T, eL15R, eL15X0, eL15X1⟩ := hp14
        have eL15L : L12 = L := eL15L
        have eL15T : f13 = f_0 := eL15T
        rw [eL15L, eL15T] at hP hD
        have eL15R : In r11 (-1) 255 := eL15R
        have hh16 : r11.toInt = -1 ∨ zg0_za < th 13 := eL15X0
        exact ret_i (ty := .int) hx hb hr hlocks (rfl) hP hD hS (Nat.le_of_ble_eq_true rfl) (Nat.le_of_ble_eq_true rfl) (⟨rfl, ⟨zg0_za, (show (th 37 ≤ zg0_za ∧ zg0_za ≤ 500) ∧ (r11.toInt = -1 ∨ zg0_za < th 13) from (by have ob13 : (0 : Int) ≤ (th 13) ∧ (th 13) ≤ 500 := (b0_13 hT :); have ob35 : (0 : Int) ≤ (th 35) ∧ (th 35) ≤ 63 := (b0_35 hT :); have ob36 : (0 : Int) ≤ (th 36) ∧ (th 36) ≤ 20 := (b0_36 hT :); have ob37 : (0 : Int) ≤ zg0_za ∧ zg0_za ≤ 500 := (b0_37 hT :); have ob40 : (0 : Int) ≤ (th 40) ∧ (th 40) ≤ 500 := (b0_40 hT :); have ob41 : (0 : Int) ≤ (th 41) ∧ (th 41) ≤ 500 := (b0_41 hT :); have ob42 : ((-1) : Int) ≤ (th 42) ∧ (th 42) ≤ 500 := (b0_42 hT :); have ob43 : ((-1) : Int) ≤ (th 43) ∧ (th 43) ≤ 1 := (b0_43 hT :); obtain ⟨o0a, o0b⟩ := (eL15R : In _ _ _); obtain ⟨o1a, o1b⟩ := (hv2_1 : In _ _ _); obtain ⟨o2a, o2b⟩ := (hv3_1 : In _ _ _); obtain ⟨o3a, o3b⟩ := (hv4_1 : In _ _ _); obtain ⟨o4a, o4b⟩ := (hv5_1 : In _ _ _); obtain ⟨o5a, o5b⟩ := (hv6_1 : In _ _ _); obtain ⟨o6a, o6b⟩ := (hv8_1 : In _ _ _); obtain ⟨o7a, o7b⟩ := (hv9_1 : In _ _ _); obtain ⟨o8a, o8b⟩ := (hv13_1 : In _ _ _); omega)), TI.cast hT (by funext q; by_cases hq0 : q = 37; (subst hq0; rfl); simp only [gset, if_neg hq0])⟩, hfr, eL15R⟩) dX11_look_26
      ·
        have oc32 : (32 : Int32).toInt = 32 := by decide
        have cc17 : r3.toInt = (32 : Int32).toInt := congrArg Int32.toInt c9
        have hb18 : In r3 32 32 := In.eq1 eL7R (⟨by decide, by decide⟩ : In 32 32 32) cc17 (by decide) (by decide)
        refine lv_aload_n hx hb dX11_look_9 rfl (lv_at hl 0 rfl) ?_
        refine lv_dup hx hb dX11_look_10 rfl ?_
        refine pl_get (v := .int v3_1) hx hb hts (fun w h => mT (inX11 w h)) hown hG.1 hP (hst.1 255 (by decide)) hf2 rfl 3 (by decide) (hts _ (mT wg_1339)) (fun _ h => h) rfl dX11_look_11 ?_
        have hg3_1 : v3_1.toInt = zg0_za := hg3_1
        refine lv_iconst (v := 1) hx hb dX11_look_14 (by decide) ?_
        refine lv_iadd hx hb dX11_look_15 ?_
        refine lv_topi (fun x19 ex19 => ?_)
        have hb20 : In x19 1 501 := ex19 ▸ In.add hv3_1 (⟨by decide, by decide⟩ : In 1 1 1) (by decide) (by decide) (by decide) (by decide)
        have et21 : x19.toInt = v3_1.toInt + 1 := In.adde ex19 hv3_1 (k := 1) (by decide) (by decide) (by decide)
        refine pl_put (ty := .int) (v := .int x19) (fs' := [.int v0_1, .ref (ad 256), .int v2_1, .int x19, .int v4_1, .int v5_1, .int v6_1, .ref (ad 257), .int v8_1, .int v9_1, .ref (ad 258), .ref (ad 259), .int v12_1, .int v13_1, .int v14_1, .int v15_1, .int v16_1, .int v17_1, .int v18_1, .int v19_1, .int v20_1, .long v21_1, .long v22_1, .int v23_1, .ref (ad 260), .int v25_1, .ref (ad 261), .ref (ad 262), .ref (ad 263), .ref (ad 264), .ref (ad 265), .ref (ad 266), .ref (ad 267), .ref (ad 268), .ref (ad 269), .ref (ad 270), .int v36_1, .int v37_1, .int v38_1, .int v39_1, .int v40_1, .ref (ad 271), .ref (ad 272), .ref (ad 273), .ref (ad 274), .long v45_1, .long v46_1, .int v47_1, .int v48_1, .ref (ad 275), .int v50_1, .int v51_1, .ref (ad 276), .int v53_1, .ref (ad 277), .int v55_1]) hx hb hts (fun w h => mT (inX11 w h)) tyX11 tyX11_ok nmX11 hown hG.1 hP hD hS (hst.1 255 (by decide)) hf2 rfl 3 (by decide) (hts _ (mT wg_1339)) (fun _ h => h) rfl (by decide +kernel) (rfl) (rfl) (Nat.le_of_ble_eq_true rfl) rfl dX11_look_16 (fun H locs f22 hf23 ho24 hP hD hS => ?_)
        have hfr : (∀ b, b ≠ (ad 255) → f22 b = f b) := fun b z0_ => (ho24 b z0_).trans (hfr b z0_)
        have hT := TI.updMG (th' := (gset (gset th 37 zg0_za) 37 (x19.toInt))) hT hst (k := 0) (by decide) hf23 ho24 ⟨v0_1, v2_1, x19, v4_1, v5_1, v6_1, v8_1, v9_1, v12_1, v13_1, v14_1, v15_1, v16_1, v17_1, v18_1, v19_1, v20_1, v21_1, v22_1, v23_1, v25_1, v36_1, v37_1, v38_1, v39_1, v40_1, v45_1, v46_1, v47_1, v48_1, v50_1, v51_1, v53_1, v55_1, rfl, hv0_1, hv2_1, hg2_1, (In.mk (by have ob13 : (0 : Int) ≤ (th 13) ∧ (th 13) ≤ 500 := (b0_13 hT :); have ob35 : (0 : Int) ≤ (th 35) ∧ (th 35) ≤ 63 := (b0_35 hT :); have ob36 : (0 : Int) ≤ (th 36) ∧ (th 36) ≤ 20 := (b0_36 hT :); have ob37 : (0 : Int) ≤ zg0_za ∧ zg0_za ≤ 500 := (b0_37 hT :); have ob40 : (0 : Int) ≤ (th 40) ∧ (th 40) ≤ 500 := (b0_40 hT :); have ob41 : (0 : Int) ≤ (th 41) ∧ (th 41) ≤ 500 := (b0_41 hT :); have ob42 : ((-1) : Int) ≤ (th 42) ∧ (th 42) ≤ 500 := (b0_42 hT :); have ob43 : ((-1) : Int) ≤ (th 43) ∧ (th 43) ≤ 1 := (b0_43 hT :); obtain ⟨o0a, o0b⟩ := (hb20 : In _ _ _); obtain ⟨o1a, o1b⟩ := (hv2_1 : In _ _ _); obtain ⟨o2a, o2b⟩ := (hv4_1 : In _ _ _); obtain ⟨o3a, o3b⟩ := (hv5_1 : In _ _ _); obtain ⟨o4a, o4b⟩ := (hv6_1 : In _ _ _); obtain ⟨o5a, o5b⟩ := (hv8_1 : In _ _ _); obtain ⟨o6a, o6b⟩ := (hv9_1 : In _ _ _); obtain ⟨o7a, o7b⟩ := (hv13_1 : In _ _ _); obtain ⟨o8a, o8b⟩ := (hv3_1 : In _ _ _); omega) (by have ob13 : (0 : Int) ≤ (th 13) ∧ (th 13) ≤ 500 := (b0_13 hT :); have ob35 : (0 : Int) ≤ (th 35) ∧ (th 35) ≤ 63 := (b0_35 hT :); have ob36 : (0 : Int) ≤ (th 36) ∧ (th 36) ≤ 20 := (b0_36 hT :); have ob37 : (0 : Int) ≤ zg0_za ∧ zg0_za ≤ 500 := (b0_37 hT :); have ob40 : (0 : Int) ≤ (th 40) ∧ (th 40) ≤ 500 := (b0_40 hT :); have ob41 : (0 : Int) ≤ (th 41) ∧ (th 41) ≤ 500 := (b0_41 hT :); have ob42 : ((-1) : Int) ≤ (th 42) ∧ (th 42) ≤ 500 := (b0_42 hT :); have ob43 : ((-1) : Int) ≤ (th 43) ∧ (th 43) ≤ 1 := (b0_43 hT :); obtain ⟨o0a, o0b⟩ := (hb20 : In _ _ _); obtain ⟨o1a, o1b⟩ := (hv2_1 : In _ _ _); obtain ⟨o2a, o2b⟩ := (hv4_1 : In _ _ _); obtain ⟨o3a, o3b⟩ := (hv5_1 : In _ _ _); obtain ⟨o4a, o4b⟩ := (hv6_1 : In _ _ _); obtain ⟨o5a, o5b⟩ := (hv8_1 : In _ _ _); obtain ⟨o6a, o6b⟩ := (hv9_1 : In _ _ _); obtain ⟨o7a, o7b⟩ := (hv13_1 : In _ _ _); obtain ⟨o8a, o8b⟩ := (hv3_1 : In _ _ _); omega)), rfl, hv4_1, hg4_1, hv5_1, hg5_1, hv6_1, hg6_1, hv8_1, hg8_1, hv9_1, hg9_1, hv12_1, hv13_1, hg13_1, hv14_1, hg14_1, hv15_1, hg15_1, hv17_1, hg17_1, hv20_1, hg20_1, hv23_1, hg23_1, hv25_1, hg25_1, hv36_1, hg36_1, hv47_1, hg47_1, hv48_1, hg48_1, hv53_1, hg53_1, hv55_1, hg55_1, hrel0_1⟩ (fun q hq => ((gset_ne (fun e => hq (by subst e; decide))).trans rfl))
        have hT : TI g ad (gset th 37 x19.toInt) f22 := TI.cast hT (by funext q; by_cases hq0 : q = 37; (subst hq0; rfl); simp only [gset, if_neg hq0])
        refine lv_goto (tgt := 0) hx hb dX11_look_19 (by decide) ?_
        exact ih0 x19.toInt _ _ _ _ (show th 37 ≤ x19.toInt ∧ x19.toInt ≤ 500 from (by have ob13 : (0 : Int) ≤ (th 13) ∧ (th 13) ≤ 500 := (b0_13 hT :); have ob35 : (0 : Int) ≤ (th 35) ∧ (th 35) ≤ 63 := (b0_35 hT :); have ob36 : (0 : Int) ≤ (th 36) ∧ (th 36) ≤ 20 := (b0_36 hT :); have ob37 : (0 : Int) ≤ x19.toInt ∧ x19.toInt ≤ 500 := (b0_37 hT :); have ob40 : (0 : Int) ≤ (th 40) ∧ (th 40) ≤ 500 := (b0_40 hT :); have ob41 : (0 : Int) ≤ (th 41) ∧ (th 41) ≤ 500 := (b0_41 hT :); have ob42 : ((-1) : Int) ≤ (th 42) ∧ (th 42) ≤ 500 := (b0_42 hT :); have ob43 : ((-1) : Int) ≤ (th 43) ∧ (th 43) ≤ 1 := (b0_43 hT :); omega)) hP hD hS (TI.cast hT (by funext q; by_cases hq0 : q = 37; (subst hq0; rfl); simp only [gset, if_neg hq0])) hfr (lv_sub hl [0] rfl) (show 500 - (x19.toInt) < ((k0 : Nat) : Int) from (by have ob13 : (0 : Int) ≤ (th 13) ∧ (th 13) ≤ 500 := (b0_13 hT :); have ob35 : (0 : Int) ≤ (th 35) ∧ (th 35) ≤ 63 := (b0_35 hT :); have ob36 : (0 : Int) ≤ (th 36) ∧ (th 36) ≤ 20 := (b0_36 hT :); have ob37 : (0 : Int) ≤ x19.toInt ∧ x19.toInt ≤ 500 := (b0_37 hT :); have ob40 : (0 : Int) ≤ (th 40) ∧ (th 40) ≤ 500 := (b0_40 hT :); have ob41 : (0 : Int) ≤ (th 41) ∧ (th 41) ≤ 500 := (b0_41 hT :); have ob42 : ((-1) : Int) ≤ (th 42) ∧ (th 42) ≤ 500 := (b0_42 hT :); have ob43 : ((-1) : Int) ≤ (th 43) ∧ (th 43) ≤ 1 := (b0_43 hT :); omega))
  exact hJ0 ((500 - (th 37)).toNat + 1) (th 37) _ _ _ _ (show th 37 ≤ (th 37) ∧ (th 37) ≤ 500 from (by have ob13 : (0 : Int) ≤ (th 13) ∧ (th 13) ≤ 500 := (b0_13 hT :); have ob35 : (0 : Int) ≤ (th 35) ∧ (th 35) ≤ 63 := (b0_35 hT :); have ob36 : (0 : Int) ≤ (th 36) ∧ (th 36) ≤ 20 := (b0_36 hT :); have ob37 : (0 : Int) ≤ (th 37) ∧ (th 37) ≤ 500 := (b0_37 hT :); have ob40 : (0 : Int) ≤ (th 40) ∧ (th 40) ≤ 500 := (b0_40 hT :); have ob41 : (0 : Int) ≤ (th 41) ∧ (th 41) ≤ 500 := (b0_41 hT :); have ob42 : ((-1) : Int) ≤ (th 42) ∧ (th 42) ≤ 500 := (b0_42 hT :); have ob43 : ((-1) : Int) ≤ (th 43) ∧ (th 43) ≤ 1 := (b0_43 hT :); omega)) hP hD hS (TI.cast hT (by funext q; by_cases hq0 : q = 37; (subst hq0; rfl); simp only [gset, if_neg hq0])) hfr (lv_sub hl [0] rfl) (msI _)

abbrev rm_X11_fails : Room := { frames := 0, cells := 0, slots := 0, locals := 0 }
abbrev po_X11_fails (g : GG) (ad : Nat → Nat) (th : Nat → Int) (L : List Nat) (f : HP) (z1 : Int32) : (List Nat × HP) → Prop := fun u => u.1 = L ∧ (∃ ze : Int, (0 ≤ ze) ∧ TI g ad (gset th 42 ze) u.2) ∧ (∀ b, b ≠ (ad 255) → u.2 b = f b)
set_option maxHeartbeats 4000000 in
set_option maxRecDepth 100000 in
theorem s_X11_fails (l : Launch) (g : GG) (ad : Nat → Nat) (th : Nat → Int) (L : List Nat) (f : HP) (sz : Nat) (z1 : Int32) (hst : ST ad L) (hT : TI g ad th f) (hz1 : In z1 0 500) : MtV l g yX11_fails cX11_fails 2 rm_X11_fails [.ref (ad 255), .int z1] L f sz (po_X11_fails g ad th L f z1) := by
  refine MtV.of (by decide +kernel) (Nat.le_of_ble_eq_true rfl) ?_
  intro p e s m below meth c A hEn hP hD hS ls hl
  obtain ⟨hx, hb, hr, hml, hown, hlocks, hts, hG, hA, hE, hnm⟩ := hEn
  have hown : s.vm.findClass "RulerWordModel" = some m.cls := hown
  have hl : lv_has ls 2 [(0, .ref (ad 255)), (1, .int z1)] := hl
  have hfr : (∀ b, b ≠ (ad 255) → f b = f b) := fun b z0_ => rfl
  refine lv_aload_n hx hb dX11_fails_0 rfl (lv_at hl 0 rfl) ?_
  refine M0e hT (fun v0_1 v2_1 v3_1 v4_1 v5_1 v6_1 v8_1 v9_1 v12_1 v13_1 v14_1 v15_1 v16_1 v17_1 v18_1 v19_1 v20_1 v21_1 v22_1 v23_1 v25_1 v36_1 v37_1 v38_1 v39_1 v40_1 v45_1 v46_1 v47_1 v48_1 v50_1 v51_1 v53_1 v55_1 hf2 hv0_1 hv2_1 hg2_1 hv3_1 hg3_1 hv4_1 hg4_1 hv5_1 hg5_1 hv6_1 hg6_1 hv8_1 hg8_1 hv9_1 hg9_1 hv12_1 hv13_1 hg13_1 hv14_1 hg14_1 hv15_1 hg15_1 hv17_1 hg17_1 hv20_1 hg20_1 hv23_1 hg23_1 hv25_1 hg25_1 hv36_1 hg36_1 hv47_1 hg47_1 hv48_1 hg48_1 hv53_1 hg53_1 hv55_1 hg55_1 hrel0_1 => ?_)
  have hg15_1 : v15_1.toInt = th 11 := hg15_1
  have hg17_1 : v17_1.toInt = th 12 := hg17_1
  have hg20_1 : v20_1.toInt = th 14 := hg20_1
  refine pl_get (v := .int v4_1) hx hb hts (fun w h => mT (inX11 w h)) hown hG.1 hP (hst.1 255 (by decide)) hf2 rfl 4 (by decide) (hts _ (mT wg_1340)) (fun _ h => h) rfl dX11_fails_1 ?_
  have hg4_1 : v4_1.toInt = th 42 := hg4_1
  refine lv_iconst (v := (-1)) hx hb dX11_fails_4 (by decide) ?_
  refine lv_icmp_ne (tgt := 13) hx hb dX11_fails_5 (by decide) (fun c3 => ?_) (fun c3 => ?_)
  ·
    have ocm1 : ((-1) : Int32).toInt = (-1) := by decide
    have cc4 : v4_1.toInt ≠ ((-1) : Int32).toInt := i32_ne c3
    have hb5 : In v4_1 0 500 := In.ne1 hv4_1 (⟨by decide, by decide⟩ : In (-1) (-1) (-1)) cc4 (by decide) (by decide)
    exact ret_v hx hb hr hlocks hP hD hS (Nat.le_of_ble_eq_true rfl) (Nat.le_of_ble_eq_true rfl) (⟨rfl, ⟨(th 42), (show 0 ≤ (th 42) from (by have ob13 : (0 : Int) ≤ (th 13) ∧ (th 13) ≤ 500 := (b0_13 hT :); have ob35 : (0 : Int) ≤ (th 35) ∧ (th 35) ≤ 63 := (b0_35 hT :); have ob36 : (0 : Int) ≤ (th 36) ∧ (th 36) ≤ 20 := (b0_36 hT :); have ob37 : (0 : Int) ≤ (th 37) ∧ (th 37) ≤ 500 := (b0_37 hT :); have ob40 : (0 : Int) ≤ (th 40) ∧ (th 40) ≤ 500 := (b0_40 hT :); have ob41 : (0 : Int) ≤ (th 41) ∧ (th 41) ≤ 500 := (b0_41 hT :); have ob42 : ((-1) : Int) ≤ (th 42) ∧ (th 42) ≤ 500 := (b0_42 hT :); have ob43 : ((-1) : Int) ≤ (th 43) ∧ (th 43) ≤ 1 := (b0_43 hT :); obtain ⟨o0a, o0b⟩ := (hz1 : In _ _ _); obtain ⟨o1a, o1b⟩ := (hv2_1 : In _ _ _); obtain ⟨o2a, o2b⟩ := (hv3_1 : In _ _ _); obtain ⟨o3a, o3b⟩ := (hb5 : In _ _ _); obtain ⟨o4a, o4b⟩ := (hv5_1 : In _ _ _); obtain ⟨o5a, o5b⟩ := (hv6_1 : In _ _ _); obtain ⟨o6a, o6b⟩ := (hv8_1 : In _ _ _); obtain ⟨o7a, o7b⟩ := (hv9_1 : In _ _ _); obtain ⟨o8a, o8b⟩ := (hv13_1 : In _ _ _); omega)), TI.cast hT (by funext q; by_cases hq0 : q = 42; (subst hq0; rfl); simp only [gset, if_neg hq0])⟩, hfr⟩) dX11_fails_13
  ·
    have ocm1 : ((-1) : Int32).toInt = (-1) := by decide
    have cc6 : v4_1.toInt = ((-1) : Int32).toInt := congrArg Int32.toInt c3
    have hb7 : In v4_1 (-1) (-1) := In.eq1 hv4_1 (⟨by decide, by decide⟩ : In (-1) (-1) (-1)) cc6 (by decide) (by decide)
    refine lv_aload_n hx hb dX11_fails_8 rfl (lv_at hl 0 rfl) ?_
    refine lv_iload_n hx hb dX11_fails_9 rfl (lv_at hl 1 rfl) ?_
    refine pl_put (ty := .int) (v := .int z1) (fs' := [.int v0_1, .ref (ad 256), .int v2_1, .int v3_1, .int z1, .int v5_1, .int v6_1, .ref (ad 257), .int v8_1, .int v9_1, .ref (ad 258), .ref (ad 259), .int v12_1, .int v13_1, .int v14_1, .int v15_1, .int v16_1, .int v17_1, .int v18_1, .int v19_1, .int v20_1, .long v21_1, .long v22_1, .int v23_1, .ref (ad 260), .int v25_1, .ref (ad 261), .ref (ad 262), .ref (ad 263), .ref (ad 264), .ref (ad 265), .ref (ad 266), .ref (ad 267), .ref (ad 268), .ref (ad 269), .ref (ad 270), .int v36_1, .int v37_1, .int v38_1, .int v39_1, .int v40_1, .ref (ad 271), .ref (ad 272), .ref (ad 273), .ref (ad 274), .long v45_1, .long v46_1, .int v47_1, .int v48_1, .ref (ad 275), .int v50_1, .int v51_1, .ref (ad 276), .int v53_1, .ref (ad 277), .int v55_1]) hx hb hts (fun w h => mT (inX11 w h)) tyX11 tyX11_ok nmX11 hown hG.1 hP hD hS (hst.1 255 (by decide)) hf2 rfl 4 (by decide) (hts _ (mT wg_1340)) (fun _ h => h) rfl (by decide +kernel) (rfl) (rfl) (Nat.le_of_ble_eq_true rfl) rfl dX11_fails_10 (fun H locs f8 hf9 ho10 hP hD hS => ?_)
    have hfr : (∀ b, b ≠ (ad 255) → f8 b = f b) := fun b z0_ => (ho10 b z0_).trans (hfr b z0_)
    have hT := TI.updMG (th' := (gset th 42 (z1.toInt))) hT hst (k := 0) (by decide) hf9 ho10 ⟨v0_1, v2_1, v3_1, z1, v5_1, v6_1, v8_1, v9_1, v12_1, v13_1, v14_1, v15_1, v16_1, v17_1, v18_1, v19_1, v20_1, v21_1, v22_1, v23_1, v25_1, v36_1, v37_1, v38_1, v39_1, v40_1, v45_1, v46_1, v47_1, v48_1, v50_1, v51_1, v53_1, v55_1, rfl, hv0_1, hv2_1, hg2_1, hv3_1, hg3_1, (In.mono hz1 (by decide) (by decide)), rfl, hv5_1, hg5_1, hv6_1, hg6_1, hv8_1, hg8_1, hv9_1, hg9_1, hv12_1, hv13_1, hg13_1, hv14_1, hg14_1, hv15_1, hg15_1, hv17_1, hg17_1, hv20_1, hg20_1, hv23_1, hg23_1, hv25_1, hg25_1, hv36_1, hg36_1, hv47_1, hg47_1, hv48_1, hg48_1, hv53_1, hg53_1, hv55_1, hg55_1, hrel0_1⟩ (fun q hq => ((gset_ne (fun e => hq (by subst e; decide))).trans rfl))
    have hT : TI g ad (gset th 42 z1.toInt) f8 := TI.cast hT (by funext q; by_cases hq0 : q = 42; (subst hq0; rfl); simp only [gset, if_neg hq0])
    exact ret_v hx hb hr hlocks hP hD hS (Nat.le_of_ble_eq_true rfl) (Nat.le_of_ble_eq_true rfl) (⟨rfl, ⟨z1.toInt, (show 0 ≤ z1.toInt from (by have ob13 : (0 : Int) ≤ (th 13) ∧ (th 13) ≤ 500 := (b0_13 hT :); have ob35 : (0 : Int) ≤ (th 35) ∧ (th 35) ≤ 63 := (b0_35 hT :); have ob36 : (0 : Int) ≤ (th 36) ∧ (th 36) ≤ 20 := (b0_36 hT :); have ob37 : (0 : Int) ≤ (th 37) ∧ (th 37) ≤ 500 := (b0_37 hT :); have ob40 : (0 : Int) ≤ (th 40) ∧ (th 40) ≤ 500 := (b0_40 hT :); have ob41 : (0 : Int) ≤ (th 41) ∧ (th 41) ≤ 500 := (b0_41 hT :); have ob42 : ((-1) : Int) ≤ z1.toInt ∧ z1.toInt ≤ 500 := (b0_42 hT :); have ob43 : ((-1) : Int) ≤ (th 43) ∧ (th 43) ≤ 1 := (b0_43 hT :); obtain ⟨o0a, o0b⟩ := (hz1 : In _ _ _); omega)), TI.cast hT (by funext q; by_cases hq0 : q = 42; (subst hq0; rfl); simp only [gset, if_neg hq0])⟩, hfr⟩) dX11_fails_13

abbrev rm_X11_isDigit : Room := { frames := 0, cells := 0, slots := 0, locals := 0 }
abbrev po_X11_isDigit (g : GG) (ad : Nat → Nat) (th : Nat → Int) (L : List Nat) (f : HP) (z0 : Int32) : Int32 → (List Nat × HP) → Prop := fun r u => u.1 = L ∧ u.2 = f ∧ In r 0 1 ∧ (¬ r = 0 → In z0 48 57)
set_option maxHeartbeats 4000000 in
set_option maxRecDepth 100000 in
theorem s_X11_isDigit (l : Launch) (g : GG) (ad : Nat → Nat) (th : Nat → Int) (L : List Nat) (f : HP) (sz : Nat) (z0 : Int32) (hst : ST ad L) (hT : TI g ad th f)  : MtI l g yX11_isDigit cX11_isDigit 1 (some .boolean) rm_X11_isDigit [.int z0] L f sz (po_X11_isDigit g ad th L f z0) := by
  refine MtI.of (by decide +kernel) (Nat.le_of_ble_eq_true rfl) ?_
  intro p e s m below meth c A hEn hP hD hS ls hl
  obtain ⟨hx, hb, hr, hml, hown, hlocks, hts, hG, hA, hE, hnm⟩ := hEn
  have hown : s.vm.findClass "RulerWordModel" = some m.cls := hown
  have hl : lv_has ls 1 [(0, .int z0)] := hl
  refine lv_iload_n hx hb dX11_isDigit_0 rfl (lv_at hl 0 rfl) ?_
  refine lv_bipush (v := 48) hx hb dX11_isDigit_1 (by decide) ?_
  have hJ16 : ∀ (H : Heap) (locs : List Loc) (ls : Array Slot), va_P g.1 vwCl (va_pl L f) H → va_D A (va_pl L f) → va_S A s.heap H locs → lv_has ls 1 [(0, .int z0)] → W p l e rm_X11_isDigit s m [.int z0].toArray below meth c H locs 0 0 (MQ below (va_Qi (po_X11_isDigit g ad th L f z0) (PstB g A) A) [.int z0].toArray s rm_X11_isDigit.cells rm_X11_isDigit.slots A) (F0 m 16 ls []) := by
    intro H locs ls hP hD hS hl
    refine lv_iconst (v := 0) hx hb dX11_isDigit_16 (by decide) ?_
    exact ret_i (ty := .boolean) hx hb hr hlocks (rfl) hP hD hS (Nat.le_of_ble_eq_true rfl) (Nat.le_of_ble_eq_true rfl) (⟨rfl, rfl, (⟨by decide, by decide⟩ : In 0 0 1), (fun q => absurd rfl q)⟩) dX11_isDigit_17
  refine lv_icmp_lt (tgt := 16) hx hb dX11_isDigit_3 (by decide) (fun c1 => ?_) (fun c1 => ?_)
  ·
    have cc2 : z0.toInt < (48 : Int32).toInt := i32_lt.mp c1
    have hb3 : In z0 (-2147483648) 47 := In.lt1 (In.full z0) (⟨by decide, by decide⟩ : In 48 48 48) cc2 (by omega) (by omega)
    exact hJ16 _ _ _ hP hD hS (lv_sub hl [0] rfl)
  ·
    have cc4 : (48 : Int32).toInt ≤ z0.toInt := i32_nlt c1
    have hb5 : In z0 48 2147483647 := In.ge1 (In.full z0) (⟨by decide, by decide⟩ : In 48 48 48) cc4 (by omega) (by omega)
    refine lv_iload_n hx hb dX11_isDigit_6 rfl (lv_at hl 0 rfl) ?_
    refine lv_bipush (v := 57) hx hb dX11_isDigit_7 (by decide) ?_
    refine lv_icmp_gt (tgt := 16) hx hb dX11_isDigit_9 (by decide) (fun c6 => ?_) (fun c6 => ?_)
    ·
      have cc7 : (57 : Int32).toInt < z0.toInt := i32_lt.mp c6
      have hb8 : In z0 58 2147483647 := In.gt1 hb5 (⟨by decide, by decide⟩ : In 57 57 57) cc7 (by omega) (by omega)
      exact hJ16 _ _ _ hP hD hS (lv_sub hl [0] rfl)
    ·
      have cc9 : z0.toInt ≤ (57 : Int32).toInt := i32_nlt c6
      have hb10 : In z0 48 57 := In.le1 hb5 (⟨by decide, by decide⟩ : In 57 57 57) cc9 (by omega) (by omega)
      refine lv_iconst (v := 1) hx hb dX11_isDigit_12 (by decide) ?_
      refine lv_goto (tgt := 17) hx hb dX11_isDigit_13 (by decide) ?_
      exact ret_i (ty := .boolean) hx hb hr hlocks (rfl) hP hD hS (Nat.le_of_ble_eq_true rfl) (Nat.le_of_ble_eq_true rfl) (⟨rfl, rfl, (⟨by decide, by decide⟩ : In 1 0 1), (fun _ => hb10)⟩) dX11_isDigit_17

abbrev rm_X11_takes : Room := { frames := 4, cells := 0, slots := 0, locals := 85 }
abbrev po_X11_takes (g : GG) (ad : Nat → Nat) (th : Nat → Int) (L : List Nat) (f : HP) (z1 : Nat) : Int32 → (List Nat × HP) → Prop := fun r u => u.1 = L ∧ (∃ za : Int, (th 37 ≤ za ∧ za ≤ 500) ∧ TI g ad (gset th 37 za) u.2) ∧ (∀ b, b ≠ (ad 255) → u.2 b = f b) ∧ In r 0 1
set_option maxHeartbeats 4000000 in
set_option maxRecDepth 100000 in
theorem s_X11_takes (l : Launch) (g : GG) (ad : Nat → Nat) (th : Nat → Int) (L : List Nat) (f : HP) (sz : Nat) (z1 : Nat) (hst : ST ad L) (hT : TI g ad th f) (hi_z1 : z1 < nS) : MtI l g yX11_takes cX11_takes 4 (some .boolean) rm_X11_takes [.ref (ad 255), .ref (g.2.2.1 z1)] L f sz (po_X11_takes g ad th L f z1) := by
  refine MtI.of (by decide +kernel) (Nat.le_of_ble_eq_true rfl) ?_
  intro p e s m below meth c A hEn hP hD hS ls hl
  obtain ⟨hx, hb, hr, hml, hown, hlocks, hts, hG, hA, hE, hnm⟩ := hEn
  have hown : s.vm.findClass "RulerWordModel" = some m.cls := hown
  have hl : lv_has ls 4 [(0, .ref (ad 255)), (1, .ref (g.2.2.1 z1))] := hl
  have hfr : (∀ b, b ≠ (ad 255) → f b = f b) := fun b z0_ => rfl
  refine lv_aload_n hx hb dX11_takes_0 rfl (lv_at hl 0 rfl) ?_
  refine M0e hT (fun v0_1 v2_1 v3_1 v4_1 v5_1 v6_1 v8_1 v9_1 v12_1 v13_1 v14_1 v15_1 v16_1 v17_1 v18_1 v19_1 v20_1 v21_1 v22_1 v23_1 v25_1 v36_1 v37_1 v38_1 v39_1 v40_1 v45_1 v46_1 v47_1 v48_1 v50_1 v51_1 v53_1 v55_1 hf2 hv0_1 hv2_1 hg2_1 hv3_1 hg3_1 hv4_1 hg4_1 hv5_1 hg5_1 hv6_1 hg6_1 hv8_1 hg8_1 hv9_1 hg9_1 hv12_1 hv13_1 hg13_1 hv14_1 hg14_1 hv15_1 hg15_1 hv17_1 hg17_1 hv20_1 hg20_1 hv23_1 hg23_1 hv25_1 hg25_1 hv36_1 hg36_1 hv47_1 hg47_1 hv48_1 hg48_1 hv53_1 hg53_1 hv55_1 hg55_1 hrel0_1 => ?_)
  have hg15_1 : v15_1.toInt = th 11 := hg15_1
  have hg17_1 : v17_1.toInt = th 12 := hg17_1
  have hg20_1 : v20_1.toInt = th 14 := hg20_1
  refine call_i (run_V (rm := rm_X11_look) hx hb hml hown hts (s_X11_look l g ad th _ _ _  hst hT ) cV_X11_look wg_1529 ⟨Nat.le_of_ble_eq_true rfl, Nat.le_of_ble_eq_true rfl⟩ hG hE hA hP hD hS (hst.1 255 (by decide)) hf2 rfl rfl hl.1 (As := []) (rest := []) rfl (Nat.le_of_ble_eq_true rfl) dX11_takes_1 ⟨Nat.le_of_ble_eq_true rfl, Nat.le_of_ble_eq_true rfl⟩) hA hD hS (fun r3 L4 f5 H locs hp6 hP hD hS => ?_)
  obtain ⟨eL7L, eL7T, eL7F, eL7R⟩ := hp6
  have eL7L : L4 = L := eL7L
  rw [eL7L] at hP hD
  obtain ⟨zz8, hzz8, eL7T⟩ := eL7T
  have hT : TI g ad (gset th 37 zz8) f5 := eL7T
  have eL7F : ∀ b, b ≠ (ad 255) → f5 b = f b := eL7F
  have hfr : (∀ b, b ≠ (ad 255) → f5 b = f b) := fun b z0_ => (eL7F b z0_).trans (hfr b z0_)
  have eL7R : In r3 (-1) 255 := eL7R
  refine lv_istore_n (lv' := [(2, .int r3), (0, .ref (ad 255)), (1, .ref (g.2.2.1 z1))]) hx hb dX11_takes_4 rfl hl (by decide) rfl (fun ls hl => ?_)
  refine lv_iconst (v := 0) hx hb dX11_takes_5 (by decide) ?_
  refine lv_istore_n (lv' := [(3, .int 0), (2, .int r3), (0, .ref (ad 255)), (1, .ref (g.2.2.1 z1))]) hx hb dX11_takes_6 rfl hl (by decide) rfl (fun ls hl => ?_)
  refine M0e hT (fun v0_9 v2_9 v3_9 v4_9 v5_9 v6_9 v8_9 v9_9 v12_9 v13_9 v14_9 v15_9 v16_9 v17_9 v18_9 v19_9 v20_9 v21_9 v22_9 v23_9 v25_9 v36_9 v37_9 v38_9 v39_9 v40_9 v45_9 v46_9 v47_9 v48_9 v50_9 v51_9 v53_9 v55_9 hf10 hv0_9 hv2_9 hg2_9 hv3_9 hg3_9 hv4_9 hg4_9 hv5_9 hg5_9 hv6_9 hg6_9 hv8_9 hg8_9 hv9_9 hg9_9 hv12_9 hv13_9 hg13_9 hv14_9 hg14_9 hv15_9 hg15_9 hv17_9 hg17_9 hv20_9 hg20_9 hv23_9 hg23_9 hv25_9 hg25_9 hv36_9 hg36_9 hv47_9 hg47_9 hv48_9 hg48_9 hv53_9 hg53_9 hv55_9 hg55_9 hrel0_9 => ?_)
  have hg15_9 : v15_9.toInt = th 11 := hg15_9
  have hg17_9 : v17_9.toInt = th 12 := hg17_9
  have hg20_9 : v20_9.toInt = th 14 := hg20_9
  have hJ7 : ∀ (k7 : Nat) (y7_l3 : Int32) (H : Heap) (locs : List Loc) (ls : Array Slot), In y7_l3 0 7 → va_P g.1 vwCl (va_pl L f5) H → va_D A (va_pl L f5) → va_S A s.heap H locs → (y7_l3.toInt = 0 ∨ v3_9.toInt + y7_l3.toInt ≤ v2_9.toInt) ∧ y7_l3.toInt ≤ ((lenS.getD z1 0 : Nat) : Int) ∧ 0 ≤ y7_l3.toInt → lv_has ls 4 [(0, .ref (ad 255)), (1, .ref (g.2.2.1 z1)), (2, .int r3), (3, .int y7_l3)] → 7 - y7_l3.toInt < ((k7 : Nat) : Int) → W p l e rm_X11_takes s m [.ref (ad 255), .ref (g.2.2.1 z1)].toArray below meth c H locs 0 0 (MQ below (va_Qi (po_X11_takes g ad th L f z1) (PstB g A) A) [.ref (ad 255), .ref (g.2.2.1 z1)].toArray s rm_X11_takes.cells rm_X11_takes.slots A) (F0 m 7 ls []) := by
    intro k7
    induction k7 with
    | zero =>
      intro y7_l3 H locs ls hy7_l3 hP hD hS hxi7_0 hl hmz7
      exact ms0 hy7_l3 hmz7
    | succ k7 ih7 =>
      intro y7_l3 H locs ls hy7_l3 hP hD hS hxi7_0 hl hmz7
      refine lv_iload_n hx hb dX11_takes_7 rfl (lv_at hl 3 rfl) ?_
      refine lv_aload_n hx hb dX11_takes_8 rfl (lv_at hl 1 rfl) ?_
      refine call_i (run_VJ (rm := rm_J0_length) hx hb hml hown hts (i := z1) (hi_z1) (s_J0_length l g _ _ _ z1  hi_z1) cV_J0_length_8abf5 wg_1542 rfl ⟨Nat.le_of_ble_eq_true rfl, Nat.le_of_ble_eq_true rfl⟩ hG hE hA hP hD hS rfl hl.1 (As := []) (rest := [.int y7_l3]) rfl (Nat.le_of_ble_eq_true rfl) dX11_takes_9 ⟨Nat.le_of_ble_eq_true rfl, Nat.le_of_ble_eq_true rfl⟩) hA hD hS (fun r11 L12 f13 H locs hp14 hP hD hS => ?_)
      have eL15 : L12 = L := hp14.1
      have eL15f : f13 = f5 := hp14.2.1
      rw [eL15, eL15f] at hP hD
      have hb16 : In r11 0 7 := hp14.2.2.1
      have hle17 : r11.toInt = ((lenS.getD z1 0 : Nat) : Int) := hp14.2.2.2
      refine lv_icmp_ge (tgt := 55) hx hb dX11_takes_12 (by decide) (fun c18 => ?_) (fun c18 => ?_)
      ·
        have cc19 : r11.toInt ≤ y7_l3.toInt := i32_le.mp c18
        refine lv_aload_n hx hb dX11_takes_55 rfl (lv_at hl 0 rfl) ?_
        refine pl_get (v := .int v3_9) hx hb hts (fun w h => mT (inX11 w h)) hown hG.1 hP (hst.1 255 (by decide)) hf10 rfl 3 (by decide) (hts _ (mT wg_1339)) (fun _ h => h) rfl dX11_takes_56 ?_
        have hg3_9 : v3_9.toInt = zz8 := hg3_9
        refine lv_aload_n hx hb dX11_takes_59 rfl (lv_at hl 1 rfl) ?_
        refine call_i (run_VJ (rm := rm_J0_length) hx hb hml hown hts (i := z1) (hi_z1) (s_J0_length l g _ _ _ z1  hi_z1) cV_J0_length_8abf5 wg_1542 rfl ⟨Nat.le_of_ble_eq_true rfl, Nat.le_of_ble_eq_true rfl⟩ hG hE hA hP hD hS rfl hl.1 (As := []) (rest := [.int v3_9]) rfl (Nat.le_of_ble_eq_true rfl) dX11_takes_60 ⟨Nat.le_of_ble_eq_true rfl, Nat.le_of_ble_eq_true rfl⟩) hA hD hS (fun r20 L21 f22 H locs hp23 hP hD hS => ?_)
        have eL24 : L21 = L := hp23.1
        have eL24f : f22 = f5 := hp23.2.1
        rw [eL24, eL24f] at hP hD
        have hb25 : In r20 0 7 := hp23.2.2.1
        have hle26 : r20.toInt = ((lenS.getD z1 0 : Nat) : Int) := hp23.2.2.2
        refine lv_iadd hx hb dX11_takes_63 ?_
        refine lv_topi (fun x27 ex27 => ?_)
        have hb28 : In x27 0 507 := ex27 ▸ In.add hv3_9 hb25 (by decide) (by decide) (by decide) (by decide)
        have et29 : x27.toInt = v3_9.toInt + r20.toInt := In.add2e ex27 hv3_9 hb25 (by decide) (by decide)
        refine lv_istore_n (lv' := [(3, .int x27), (0, .ref (ad 255)), (1, .ref (g.2.2.1 z1)), (2, .int r3)]) hx hb dX11_takes_64 rfl hl (by decide) rfl (fun ls hl => ?_)
        refine lv_iload_n hx hb dX11_takes_65 rfl (lv_at hl 0 rfl) ?_
        refine lv_aload_n hx hb dX11_takes_66 rfl (lv_at hl 1 rfl) ?_
        refine pl_get (v := .int v2_9) hx hb hts (fun w h => mT (inX11 w h)) hown hG.1 hP (hst.1 255 (by decide)) hf10 rfl 2 (by decide) (hts _ (mT wg_1338)) (fun _ h => h) rfl dX11_takes_67 ?_
        have hg2_9 : v2_9.toInt = th 13 := hg2_9
        have hJ97 : ∀ (H : Heap) (locs : List Loc) (ls : Array Slot), va_P g.1 vwCl (va_pl L f5) H → va_D A (va_pl L f5) → va_S A s.heap H locs → lv_has ls 4 [(0, .ref (ad 255)), (1, .ref (g.2.2.1 z1)), (2, .int r3), (3, .int x27)] → W p l e rm_X11_takes s m [.ref (ad 255), .ref (g.2.2.1 z1)].toArray below meth c H locs 0 0 (MQ below (va_Qi (po_X11_takes g ad th L f z1) (PstB g A) A) [.ref (ad 255), .ref (g.2.2.1 z1)].toArray s rm_X11_takes.cells rm_X11_takes.slots A) (F0 m 97 ls []) := by
          intro H locs ls hP hD hS hl
          refine lv_aload_n hx hb dX11_takes_97 rfl (lv_at hl 0 rfl) ?_
          refine lv_iload_n hx hb dX11_takes_98 rfl (lv_at hl 3 rfl) ?_
          refine pl_put (ty := .int) (v := .int x27) (fs' := [.int v0_9, .ref (ad 256), .int v2_9, .int x27, .int v4_9, .int v5_9, .int v6_9, .ref (ad 257), .int v8_9, .int v9_9, .ref (ad 258), .ref (ad 259), .int v12_9, .int v13_9, .int v14_9, .int v15_9, .int v16_9, .int v17_9, .int v18_9, .int v19_9, .int v20_9, .long v21_9, .long v22_9, .int v23_9, .ref (ad 260), .int v25_9, .ref (ad 261), .ref (ad 262), .ref (ad 263), .ref (ad 264), .ref (ad 265), .ref (ad 266), .ref (ad 267), .ref (ad 268), .ref (ad 269), .ref (ad 270), .int v36_9, .int v37_9, .int v38_9, .int v39_9, .int v40_9, .ref (ad 271), .ref (ad 272), .ref (ad 273), .ref (ad 274), .long v45_9, .long v46_9, .int v47_9, .int v48_9, .ref (ad 275), .int v50_9, .int v51_9, .ref (ad 276), .int v53_9, .ref (ad 277), .int v55_9]) hx hb hts (fun w h => mT (inX11 w h)) tyX11 tyX11_ok nmX11 hown hG.1 hP hD hS (hst.1 255 (by decide)) hf10 rfl 3 (by decide) (hts _ (mT wg_1339)) (fun _ h => h) rfl (by decide +kernel) (rfl) (rfl) (Nat.le_of_ble_eq_true rfl) rfl dX11_takes_99 (fun H locs f30 hf31 ho32 hP hD hS => ?_)
          have hfr : (∀ b, b ≠ (ad 255) → f30 b = f b) := fun b z0_ => (ho32 b z0_).trans (hfr b z0_)
          refine lv_iconst (v := 1) hx hb dX11_takes_102 (by decide) ?_
          have hT := TI.updMG (th' := (gset (gset th 37 zz8) 37 (x27.toInt))) hT hst (k := 0) (by decide) hf31 ho32 ⟨v0_9, v2_9, x27, v4_9, v5_9, v6_9, v8_9, v9_9, v12_9, v13_9, v14_9, v15_9, v16_9, v17_9, v18_9, v19_9, v20_9, v21_9, v22_9, v23_9, v25_9, v36_9, v37_9, v38_9, v39_9, v40_9, v45_9, v46_9, v47_9, v48_9, v50_9, v51_9, v53_9, v55_9, rfl, hv0_9, hv2_9, hg2_9, (In.mk (by have ob13 : (0 : Int) ≤ (th 13) ∧ (th 13) ≤ 500 := (b0_13 hT :); have ob35 : (0 : Int) ≤ (th 35) ∧ (th 35) ≤ 63 := (b0_35 hT :); have ob36 : (0 : Int) ≤ (th 36) ∧ (th 36) ≤ 20 := (b0_36 hT :); have ob37 : (0 : Int) ≤ zz8 ∧ zz8 ≤ 500 := (b0_37 hT :); have ob40 : (0 : Int) ≤ (th 40) ∧ (th 40) ≤ 500 := (b0_40 hT :); have ob41 : (0 : Int) ≤ (th 41) ∧ (th 41) ≤ 500 := (b0_41 hT :); have ob42 : ((-1) : Int) ≤ (th 42) ∧ (th 42) ≤ 500 := (b0_42 hT :); have ob43 : ((-1) : Int) ≤ (th 43) ∧ (th 43) ≤ 1 := (b0_43 hT :); obtain ⟨o0a, o0b⟩ := (hb28 : In _ _ _); obtain ⟨o1a, o1b⟩ := (hv2_9 : In _ _ _); obtain ⟨o2a, o2b⟩ := (hv4_9 : In _ _ _); obtain ⟨o3a, o3b⟩ := (hv5_9 : In _ _ _); obtain ⟨o4a, o4b⟩ := (hv6_9 : In _ _ _); obtain ⟨o5a, o5b⟩ := (hv8_9 : In _ _ _); obtain ⟨o6a, o6b⟩ := (hv9_9 : In _ _ _); obtain ⟨o7a, o7b⟩ := (hv13_9 : In _ _ _); obtain ⟨o8a, o8b⟩ := (hv3_9 : In _ _ _); obtain ⟨o9a, o9b⟩ := (hb25 : In _ _ _); obtain ⟨o10a, o10b⟩ := (hb16 : In _ _ _); obtain ⟨o11a, o11b⟩ := (hy7_l3 : In _ _ _); omega) (by have ob13 : (0 : Int) ≤ (th 13) ∧ (th 13) ≤ 500 := (b0_13 hT :); have ob35 : (0 : Int) ≤ (th 35) ∧ (th 35) ≤ 63 := (b0_35 hT :); have ob36 : (0 : Int) ≤ (th 36) ∧ (th 36) ≤ 20 := (b0_36 hT :); have ob37 : (0 : Int) ≤ zz8 ∧ zz8 ≤ 500 := (b0_37 hT :); have ob40 : (0 : Int) ≤ (th 40) ∧ (th 40) ≤ 500 := (b0_40 hT :); have ob41 : (0 : Int) ≤ (th 41) ∧ (th 41) ≤ 500 := (b0_41 hT :); have ob42 : ((-1) : Int) ≤ (th 42) ∧ (th 42) ≤ 500 := (b0_42 hT :); have ob43 : ((-1) : Int) ≤ (th 43) ∧ (th 43) ≤ 1 := (b0_43 hT :); obtain ⟨o0a, o0b⟩ := (hb28 : In _ _ _); obtain ⟨o1a, o1b⟩ := (hv2_9 : In _ _ _); obtain ⟨o2a, o2b⟩ := (hv4_9 : In _ _ _); obtain ⟨o3a, o3b⟩ := (hv5_9 : In _ _ _); obtain ⟨o4a, o4b⟩ := (hv6_9 : In _ _ _); obtain ⟨o5a, o5b⟩ := (hv8_9 : In _ _ _); obtain ⟨o6a, o6b⟩ := (hv9_9 : In _ _ _); obtain ⟨o7a, o7b⟩ := (hv13_9 : In _ _ _); obtain ⟨o8a, o8b⟩ := (hv3_9 : In _ _ _); obtain ⟨o9a, o9b⟩ := (hb25 : In _ _ _); obtain ⟨o10a, o10b⟩ := (hb16 : In _ _ _); obtain ⟨o11a, o11b⟩ := (hy7_l3 : In _ _ _); omega)), rfl, hv4_9, hg4_9, hv5_9, hg5_9, hv6_9, hg6_9, hv8_9, hg8_9, hv9_9, hg9_9, hv12_9, hv13_9, hg13_9, hv14_9, hg14_9, hv15_9, hg15_9, hv17_9, hg17_9, hv20_9, hg20_9, hv23_9, hg23_9, hv25_9, hg25_9, hv36_9, hg36_9, hv47_9, hg47_9, hv48_9, hg48_9, hv53_9, hg53_9, hv55_9, hg55_9, hrel0_9⟩ (fun q hq => ((gset_ne (fun e => hq (by subst e; decide))).trans rfl))
          have hT : TI g ad (gset th 37 x27.toInt) f30 := TI.cast hT (by funext q; by_cases hq0 : q = 37; (subst hq0; rfl); simp only [gset, if_neg hq0])
          exact ret_i (ty := .boolean) hx hb hr hlocks (rfl) hP hD hS (Nat.le_of_ble_eq_true rfl) (Nat.le_of_ble_eq_true rfl) (⟨rfl, ⟨x27.toInt, (show th 37 ≤ x27.toInt ∧ x27.toInt ≤ 500 from (by have ob13 : (0 : Int) ≤ (th 13) ∧ (th 13) ≤ 500 := (b0_13 hT :); have ob35 : (0 : Int) ≤ (th 35) ∧ (th 35) ≤ 63 := (b0_35 hT :); have ob36 : (0 : Int) ≤ (th 36) ∧ (th 36) ≤ 20 := (b0_36 hT :); have ob37 : (0 : Int) ≤ x27.toInt ∧ x27.toInt ≤ 500 := (b0_37 hT :); have ob40 : (0 : Int) ≤ (th 40) ∧ (th 40) ≤ 500 := (b0_40 hT :); have ob41 : (0 : Int) ≤ (th 41) ∧ (th 41) ≤ 500 := (b0_41 hT :); have ob42 : ((-1) : Int) ≤ (th 42) ∧ (th 42) ≤ 500 := (b0_42 hT :); have ob43 : ((-1) : Int) ≤ (th 43) ∧ (th 43) ≤ 1 := (b0_43 hT :); have oc1 : (1 : Int32).toInt = 1 := (by decide); obtain ⟨o0a, o0b⟩ := (eL7R : In _ _ _); obtain ⟨o1a, o1b⟩ := (hb28 : In _ _ _); obtain ⟨o2a, o2b⟩ := (hv3_9 : In _ _ _); obtain ⟨o3a, o3b⟩ := (hb25 : In _ _ _); obtain ⟨o4a, o4b⟩ := (hb16 : In _ _ _); obtain ⟨o5a, o5b⟩ := (hy7_l3 : In _ _ _); omega)), TI.cast hT (by funext q; by_cases hq0 : q = 37; (subst hq0; rfl); simp only [gset, if_neg hq0])⟩, hfr, (⟨by decide, by decide⟩ : In 1 0 1)⟩) dX11_takes_103
        refine lv_icmp_ge (tgt := 97) hx hb dX11_takes_70 (by decide) (fun c33 => ?_) (fun c33 => ?_)
        ·
          have cc34 : v2_9.toInt ≤ x27.toInt := i32_le.mp c33
          exact hJ97 _ _ _ hP hD hS (lv_sub hl [1, 2, 3, 0] rfl)
        ·
          have cc35 : x27.toInt < v2_9.toInt := i32_nle c33
          have hb36 : In x27 0 499 := In.lt1 hb28 hv2_9 cc35 (by decide) (by decide)
          have hb37 : In v2_9 1 500 := In.lt2 hb28 hv2_9 cc35 (by decide) (by decide)
          refine lv_aload_n hx hb dX11_takes_73 rfl (lv_at hl 1 rfl) ?_
          refine pl_get (v := .ref (ad 256)) hx hb hts (fun w h => mT (inX11 w h)) hown hG.1 hP (hst.1 255 (by decide)) hf10 rfl 1 (by decide) (hts _ (mT wg_1337)) (fun _ h => h) rfl dX11_takes_74 ?_
          refine lv_iload_n hx hb dX11_takes_77 rfl (lv_at hl 0 rfl) ?_
          obtain ⟨rw38, hf39, hc40⟩ := hT.2.2 1 (by decide)
          have hin41 : vp_in x27 500 := In.inb hb36 (by decide) (by decide)
          refine pl_bald hx hb hG.1 hP (hst.1 256 (by decide)) 2 hf39 rfl hin41 dX11_takes_78 ?_
          refine lv_topi (fun x42 ex42 => ?_)
          have hb43 : In x42 (-128) 127 := by rw [ex42]; exact hc40 _ (vp_nat hin41)
          refine lv_bipush (v := 97) hx hb dX11_takes_79 (by decide) ?_
          refine lv_icmp_lt (tgt := 97) hx hb dX11_takes_81 (by decide) (fun c44 => ?_) (fun c44 => ?_)
          ·
            have oc97 : (97 : Int32).toInt = 97 := by decide
            have cc45 : x42.toInt < (97 : Int32).toInt := i32_lt.mp c44
            have hb46 : In x42 (-128) 96 := In.lt1 hb43 (⟨by decide, by decide⟩ : In 97 97 97) cc45 (by decide) (by decide)
            exact hJ97 _ _ _ hP hD hS (lv_sub hl [1, 2, 3, 0] rfl)
          ·
            have oc97 : (97 : Int32).toInt = 97 := by decide
            have cc47 : (97 : Int32).toInt ≤ x42.toInt := i32_nlt c44
            have hb48 : In x42 97 127 := In.ge1 hb43 (⟨by decide, by decide⟩ : In 97 97 97) cc47 (by decide) (by decide)
            refine lv_aload_n hx hb dX11_takes_84 rfl (lv_at hl 1 rfl) ?_
            refine pl_get (v := .ref (ad 256)) hx hb hts (fun w h => mT (inX11 w h)) hown hG.1 hP (hst.1 255 (by decide)) hf10 rfl 1 (by decide) (hts _ (mT wg_1337)) (fun _ h => h) rfl dX11_takes_85 ?_
            refine lv_iload_n hx hb dX11_takes_88 rfl (lv_at hl 0 rfl) ?_
            have hin49 : vp_in x27 500 := In.inb hb36 (by decide) (by decide)
            refine pl_bald hx hb hG.1 hP (hst.1 256 (by decide)) 2 hf39 rfl hin49 dX11_takes_89 ?_
            refine lv_topi (fun x50 ex50 => ?_)
            obtain rfl : x42 = x50 := ex42.trans ex50.symm
            refine lv_bipush (v := 122) hx hb dX11_takes_90 (by decide) ?_
            refine lv_icmp_gt (tgt := 97) hx hb dX11_takes_92 (by decide) (fun c51 => ?_) (fun c51 => ?_)
            ·
              have oc122 : (122 : Int32).toInt = 122 := by decide
              have cc52 : (122 : Int32).toInt < x42.toInt := i32_lt.mp c51
              have hb53 : In x42 123 127 := In.gt1 hb48 (⟨by decide, by decide⟩ : In 122 122 122) cc52 (by decide) (by decide)
              exact hJ97 _ _ _ hP hD hS (lv_sub hl [1, 2, 3, 0] rfl)
            ·
              have oc122 : (122 : Int32).toInt = 122 := by decide
              have cc54 : x42.toInt ≤ (122 : Int32).toInt := i32_nlt c51
              have hb55 : In x42 97 122 := In.le1 hb48 (⟨by decide, by decide⟩ : In 122 122 122) cc54 (by decide) (by decide)
              refine lv_iconst (v := 0) hx hb dX11_takes_95 (by decide) ?_
              exact ret_i (ty := .boolean) hx hb hr hlocks (rfl) hP hD hS (Nat.le_of_ble_eq_true rfl) (Nat.le_of_ble_eq_true rfl) (⟨rfl, ⟨zz8, (show th 37 ≤ zz8 ∧ zz8 ≤ 500 from (by have ob13 : (0 : Int) ≤ (th 13) ∧ (th 13) ≤ 500 := (b0_13 hT :); have ob35 : (0 : Int) ≤ (th 35) ∧ (th 35) ≤ 63 := (b0_35 hT :); have ob36 : (0 : Int) ≤ (th 36) ∧ (th 36) ≤ 20 := (b0_36 hT :); have ob37 : (0 : Int) ≤ zz8 ∧ zz8 ≤ 500 := (b0_37 hT :); have ob40 : (0 : Int) ≤ (th 40) ∧ (th 40) ≤ 500 := (b0_40 hT :); have ob41 : (0 : Int) ≤ (th 41) ∧ (th 41) ≤ 500 := (b0_41 hT :); have ob42 : ((-1) : Int) ≤ (th 42) ∧ (th 42) ≤ 500 := (b0_42 hT :); have ob43 : ((-1) : Int) ≤ (th 43) ∧ (th 43) ≤ 1 := (b0_43 hT :); have oc0 : (0 : Int32).toInt = 0 := (by decide); obtain ⟨o0a, o0b⟩ := (eL7R : In _ _ _); obtain ⟨o1a, o1b⟩ := (hb36 : In _ _ _); obtain ⟨o2a, o2b⟩ := (hb37 : In _ _ _); obtain ⟨o3a, o3b⟩ := (hv3_9 : In _ _ _); obtain ⟨o4a, o4b⟩ := (hv4_9 : In _ _ _); obtain ⟨o5a, o5b⟩ := (hv5_9 : In _ _ _); obtain ⟨o6a, o6b⟩ := (hv6_9 : In _ _ _); obtain ⟨o7a, o7b⟩ := (hv8_9 : In _ _ _); obtain ⟨o8a, o8b⟩ := (hv9_9 : In _ _ _); obtain ⟨o9a, o9b⟩ := (hv13_9 : In _ _ _); obtain ⟨o10a, o10b⟩ := (hb25 : In _ _ _); obtain ⟨o11a, o11b⟩ := (hb16 : In _ _ _); obtain ⟨o12a, o12b⟩ := (hy7_l3 : In _ _ _); omega)), TI.cast hT (by funext q; by_cases hq0 : q = 37; (subst hq0; rfl); simp only [gset, if_neg hq0])⟩, hfr, (⟨by decide, by decide⟩ : In 0 0 1)⟩) dX11_takes_96
      ·
        have cc56 : y7_l3.toInt < r11.toInt := i32_nle c18
        have hb57 : In y7_l3 0 6 := In.lt1 hy7_l3 hb16 cc56 (by decide) (by decide)
        have hb58 : In r11 1 7 := In.lt2 hy7_l3 hb16 cc56 (by decide) (by decide)
        refine lv_aload_n hx hb dX11_takes_15 rfl (lv_at hl 0 rfl) ?_
        refine pl_get (v := .int v3_9) hx hb hts (fun w h => mT (inX11 w h)) hown hG.1 hP (hst.1 255 (by decide)) hf10 rfl 3 (by decide) (hts _ (mT wg_1339)) (fun _ h => h) rfl dX11_takes_16 ?_
        have hg3_9 : v3_9.toInt = zz8 := hg3_9
        refine lv_iload_n hx hb dX11_takes_19 rfl (lv_at hl 3 rfl) ?_
        refine lv_iadd hx hb dX11_takes_20 ?_
        refine lv_topi (fun x59 ex59 => ?_)
        have hb60 : In x59 0 506 := ex59 ▸ In.add hv3_9 hb57 (by decide) (by decide) (by decide) (by decide)
        have et61 : x59.toInt = v3_9.toInt + y7_l3.toInt := In.add2e ex59 hv3_9 hb57 (by decide) (by decide)
        refine lv_aload_n hx hb dX11_takes_21 rfl (lv_at hl 0 rfl) ?_
        refine pl_get (v := .int v2_9) hx hb hts (fun w h => mT (inX11 w h)) hown hG.1 hP (hst.1 255 (by decide)) hf10 rfl 2 (by decide) (hts _ (mT wg_1338)) (fun _ h => h) rfl dX11_takes_22 ?_
        have hg2_9 : v2_9.toInt = th 13 := hg2_9
        refine lv_icmp_ge (tgt := 47) hx hb dX11_takes_25 (by decide) (fun c62 => ?_) (fun c62 => ?_)
        ·
          have cc63 : v2_9.toInt ≤ x59.toInt := i32_le.mp c62
          refine lv_iconst (v := 0) hx hb dX11_takes_47 (by decide) ?_
          exact ret_i (ty := .boolean) hx hb hr hlocks (rfl) hP hD hS (Nat.le_of_ble_eq_true rfl) (Nat.le_of_ble_eq_true rfl) (⟨rfl, ⟨zz8, (show th 37 ≤ zz8 ∧ zz8 ≤ 500 from (by have ob13 : (0 : Int) ≤ (th 13) ∧ (th 13) ≤ 500 := (b0_13 hT :); have ob35 : (0 : Int) ≤ (th 35) ∧ (th 35) ≤ 63 := (b0_35 hT :); have ob36 : (0 : Int) ≤ (th 36) ∧ (th 36) ≤ 20 := (b0_36 hT :); have ob37 : (0 : Int) ≤ zz8 ∧ zz8 ≤ 500 := (b0_37 hT :); have ob40 : (0 : Int) ≤ (th 40) ∧ (th 40) ≤ 500 := (b0_40 hT :); have ob41 : (0 : Int) ≤ (th 41) ∧ (th 41) ≤ 500 := (b0_41 hT :); have ob42 : ((-1) : Int) ≤ (th 42) ∧ (th 42) ≤ 500 := (b0_42 hT :); have ob43 : ((-1) : Int) ≤ (th 43) ∧ (th 43) ≤ 1 := (b0_43 hT :); have oc0 : (0 : Int32).toInt = 0 := (by decide); obtain ⟨o0a, o0b⟩ := (eL7R : In _ _ _); obtain ⟨o1a, o1b⟩ := (hb57 : In _ _ _); obtain ⟨o2a, o2b⟩ := (hv2_9 : In _ _ _); obtain ⟨o3a, o3b⟩ := (hv3_9 : In _ _ _); obtain ⟨o4a, o4b⟩ := (hv4_9 : In _ _ _); obtain ⟨o5a, o5b⟩ := (hv5_9 : In _ _ _); obtain ⟨o6a, o6b⟩ := (hv6_9 : In _ _ _); obtain ⟨o7a, o7b⟩ := (hv8_9 : In _ _ _); obtain ⟨o8a, o8b⟩ := (hv9_9 : In _ _ _); obtain ⟨o9a, o9b⟩ := (hv13_9 : In _ _ _); obtain ⟨o10a, o10b⟩ := (hb58 : In _ _ _); obtain ⟨o11a, o11b⟩ := (hb60 : In _ _ _); omega)), TI.cast hT (by funext q; by_cases hq0 : q = 37; (subst hq0; rfl); simp only [gset, if_neg hq0])⟩, hfr, (⟨by decide, by decide⟩ : In 0 0 1)⟩) dX11_takes_48
        ·
          have cc64 : x59.toInt < v2_9.toInt := i32_nle c62
          have hb65 : In x59 0 499 := In.lt1 hb60 hv2_9 cc64 (by decide) (by decide)
          have hb66 : In v2_9 1 500 := In.lt2 hb60 hv2_9 cc64 (by decide) (by decide)
          refine lv_aload_n hx hb dX11_takes_28 rfl (lv_at hl 0 rfl) ?_
          refine pl_get (v := .ref (ad 256)) hx hb hts (fun w h => mT (inX11 w h)) hown hG.1 hP (hst.1 255 (by decide)) hf10 rfl 1 (by decide) (hts _ (mT wg_1337)) (fun _ h => h) rfl dX11_takes_29 ?_
          refine lv_aload_n hx hb dX11_takes_32 rfl (lv_at hl 0 rfl) ?_
          refine pl_get (v := .int v3_9) hx hb hts (fun w h => mT (inX11 w h)) hown hG.1 hP (hst.1 255 (by decide)) hf10 rfl 3 (by decide) (hts _ (mT wg_1339)) (fun _ h => h) rfl dX11_takes_33 ?_
          refine lv_iload_n hx hb dX11_takes_36 rfl (lv_at hl 3 rfl) ?_
          refine lv_iadd hx hb dX11_takes_37 ?_
          refine lv_topi (fun x67 ex67 => ?_)
          obtain rfl : x59 = x67 := ex59.trans ex67.symm
          obtain ⟨rw68, hf69, hc70⟩ := hT.2.2 1 (by decide)
          have hin71 : vp_in x59 500 := In.inb hb65 (by decide) (by decide)
          refine pl_bald hx hb hG.1 hP (hst.1 256 (by decide)) 2 hf69 rfl hin71 dX11_takes_38 ?_
          refine lv_topi (fun x72 ex72 => ?_)
          have hb73 : In x72 (-128) 127 := by rw [ex72]; exact hc70 _ (vp_nat hin71)
          refine lv_aload_n hx hb dX11_takes_39 rfl (lv_at hl 1 rfl) ?_
          refine lv_iload_n hx hb dX11_takes_40 rfl (lv_at hl 3 rfl) ?_
          refine call_i (run_VJ (rm := rm_J0_charAt) hx hb hml hown hts (i := z1) (hi_z1) (s_J0_charAt l g _ _ _ z1 y7_l3 hi_z1 (Int.le_trans (by decide) hb57.1) (by have q1 := cc56; have q2 := hle17; omega)) cV_J0_charAt_5068e wg_1543 rfl ⟨Nat.le_of_ble_eq_true rfl, Nat.le_of_ble_eq_true rfl⟩ hG hE hA hP hD hS rfl hl.1 (As := [.int y7_l3]) (rest := [.int x72]) rfl (Nat.le_of_ble_eq_true rfl) dX11_takes_41 ⟨Nat.le_of_ble_eq_true rfl, Nat.le_of_ble_eq_true rfl⟩) hA hD hS (fun r74 L75 f76 H locs hp77 hP hD hS => ?_)
          have eL78 : L75 = L := hp77.1
          have eL78f : f76 = f5 := hp77.2.1
          rw [eL78, eL78f] at hP hD
          have hb79 : In r74 0 65535 := hp77.2.2
          refine lv_icmp_eq (tgt := 49) hx hb dX11_takes_44 (by decide) (fun c80 => ?_) (fun c80 => ?_)
          ·
            have cc81 : x72.toInt = r74.toInt := congrArg Int32.toInt c80
            have hb82 : In x72 0 127 := In.eq1 hb73 hb79 cc81 (by decide) (by decide)
            have hb83 : In r74 0 127 := In.eq2 hb73 hb79 cc81 (by decide) (by decide)
            obtain ⟨x84, ex84⟩ : ∃ y : Int32, y = y7_l3 + 1 := ⟨_, rfl⟩
            have hb85 : In x84 1 7 := ex84 ▸ In.add hb57 (⟨by decide, by decide⟩ : In 1 1 1) (by decide) (by decide) (by decide) (by decide)
            have et86 : x84.toInt = y7_l3.toInt + 1 := In.adde ex84 hb57 (k := 1) (by decide) (by decide) (by decide)
            refine lv_iinc (v := x84) (lv' := [(3, .int x84), (0, .ref (ad 255)), (1, .ref (g.2.2.1 z1)), (2, .int r3)]) hx hb dX11_takes_49 hl (k := 3) rfl (by rw [ex84]; rfl) (by decide) rfl (fun ls hl => ?_)
            refine lv_goto (tgt := 7) hx hb dX11_takes_52 (by decide) ?_
            exact ih7 x84 _ _ _ (In.mono hb85 (by decide) (by decide)) hP hD hS (by have ql := Int.natCast_nonneg (lenS.getD z1 0); have ob13 : (0 : Int) ≤ (th 13) ∧ (th 13) ≤ 500 := (b0_13 hT :); have ob35 : (0 : Int) ≤ (th 35) ∧ (th 35) ≤ 63 := (b0_35 hT :); have ob36 : (0 : Int) ≤ (th 36) ∧ (th 36) ≤ 20 := (b0_36 hT :); have ob37 : (0 : Int) ≤ zz8 ∧ zz8 ≤ 500 := (b0_37 hT :); have ob40 : (0 : Int) ≤ (th 40) ∧ (th 40) ≤ 500 := (b0_40 hT :); have ob41 : (0 : Int) ≤ (th 41) ∧ (th 41) ≤ 500 := (b0_41 hT :); have ob42 : ((-1) : Int) ≤ (th 42) ∧ (th 42) ≤ 500 := (b0_42 hT :); have ob43 : ((-1) : Int) ≤ (th 43) ∧ (th 43) ≤ 1 := (b0_43 hT :); obtain ⟨o0a, o0b⟩ := (hb85 : In _ _ _); obtain ⟨o1a, o1b⟩ := (hb66 : In _ _ _); obtain ⟨o2a, o2b⟩ := (hv3_9 : In _ _ _); obtain ⟨o3a, o3b⟩ := (hv4_9 : In _ _ _); obtain ⟨o4a, o4b⟩ := (hv5_9 : In _ _ _); obtain ⟨o5a, o5b⟩ := (hv6_9 : In _ _ _); obtain ⟨o6a, o6b⟩ := (hv8_9 : In _ _ _); obtain ⟨o7a, o7b⟩ := (hv9_9 : In _ _ _); obtain ⟨o8a, o8b⟩ := (hv13_9 : In _ _ _); obtain ⟨o9a, o9b⟩ := (hb57 : In _ _ _); obtain ⟨o10a, o10b⟩ := (hb65 : In _ _ _); obtain ⟨o11a, o11b⟩ := (hb58 : In _ _ _); omega) (lv_sub hl [1, 2, 3, 0] rfl) (msu et86 (by decide) hmz7)
          ·
            have cc87 : x72.toInt ≠ r74.toInt := i32_ne c80
            refine lv_iconst (v := 0) hx hb dX11_takes_47 (by decide) ?_
            exact ret_i (ty := .boolean) hx hb hr hlocks (rfl) hP hD hS (Nat.le_of_ble_eq_true rfl) (Nat.le_of_ble_eq_true rfl) (⟨rfl, ⟨zz8, (show th 37 ≤ zz8 ∧ zz8 ≤ 500 from (by have ob13 : (0 : Int) ≤ (th 13) ∧ (th 13) ≤ 500 := (b0_13 hT :); have ob35 : (0 : Int) ≤ (th 35) ∧ (th 35) ≤ 63 := (b0_35 hT :); have ob36 : (0 : Int) ≤ (th 36) ∧ (th 36) ≤ 20 := (b0_36 hT :); have ob37 : (0 : Int) ≤ zz8 ∧ zz8 ≤ 500 := (b0_37 hT :); have ob40 : (0 : Int) ≤ (th 40) ∧ (th 40) ≤ 500 := (b0_40 hT :); have ob41 : (0 : Int) ≤ (th 41) ∧ (th 41) ≤ 500 := (b0_41 hT :); have ob42 : ((-1) : Int) ≤ (th 42) ∧ (th 42) ≤ 500 := (b0_42 hT :); have ob43 : ((-1) : Int) ≤ (th 43) ∧ (th 43) ≤ 1 := (b0_43 hT :); have oc0 : (0 : Int32).toInt = 0 := (by decide); obtain ⟨o0a, o0b⟩ := (eL7R : In _ _ _); obtain ⟨o1a, o1b⟩ := (hb57 : In _ _ _); obtain ⟨o2a, o2b⟩ := (hb66 : In _ _ _); obtain ⟨o3a, o3b⟩ := (hv3_9 : In _ _ _); obtain ⟨o4a, o4b⟩ := (hv4_9 : In _ _ _); obtain ⟨o5a, o5b⟩ := (hv5_9 : In _ _ _); obtain ⟨o6a, o6b⟩ := (hv6_9 : In _ _ _); obtain ⟨o7a, o7b⟩ := (hv8_9 : In _ _ _); obtain ⟨o8a, o8b⟩ := (hv9_9 : In _ _ _); obtain ⟨o9a, o9b⟩ := (hv13_9 : In _ _ _); obtain ⟨o10a, o10b⟩ := (hb58 : In _ _ _); obtain ⟨o11a, o11b⟩ := (hb65 : In _ _ _); omega)), TI.cast hT (by funext q; by_cases hq0 : q = 37; (subst hq0; rfl); simp only [gset, if_neg hq0])⟩, hfr, (⟨by decide, by decide⟩ : In 0 0 1)⟩) dX11_takes_48
  exact hJ7 ((7 - (0 : Int32).toInt).toNat + 1) 0 _ _ _ (⟨by decide, by decide⟩ : In 0 0 7) hP hD hS (by have ql := Int.natCast_nonneg (lenS.getD z1 0); have ob13 : (0 : Int) ≤ (th 13) ∧ (th 13) ≤ 500 := (b0_13 hT :); have ob35 : (0 : Int) ≤ (th 35) ∧ (th 35) ≤ 63 := (b0_35 hT :); have ob36 : (0 : Int) ≤ (th 36) ∧ (th 36) ≤ 20 := (b0_36 hT :); have ob37 : (0 : Int) ≤ zz8 ∧ zz8 ≤ 500 := (b0_37 hT :); have ob40 : (0 : Int) ≤ (th 40) ∧ (th 40) ≤ 500 := (b0_40 hT :); have ob41 : (0 : Int) ≤ (th 41) ∧ (th 41) ≤ 500 := (b0_41 hT :); have ob42 : ((-1) : Int) ≤ (th 42) ∧ (th 42) ≤ 500 := (b0_42 hT :); have ob43 : ((-1) : Int) ≤ (th 43) ∧ (th 43) ≤ 1 := (b0_43 hT :); have oc0 : (0 : Int32).toInt = 0 := (by decide); omega) (lv_sub hl [2, 3, 1, 0] rfl) (msI _)

abbrev rm_X11_digits : Room := { frames := 2, cells := 0, slots := 0, locals := 40 }
abbrev po_X11_digits (g : GG) (ad : Nat → Nat) (th : Nat → Int) (L : List Nat) (f : HP)  : (List Nat × HP) → Prop := fun u => u.1 = L ∧ (∃ za zr zl : Int, ((th 37 ≤ zr ∧ 0 ≤ zr ∧ 0 ≤ zl ∧ zr + zl = za ∧ za ≤ 500) ∧ (∀ r0 : Nat → Int32, u.2 (ad 256) = .inl (g.2.1 2, 500, .inl r0) → ∀ i : Nat, zr ≤ (i : Int) → (i : Int) < za → In (r0 i) 48 57)) ∧ TI g ad (gset (gset (gset th 37 za) 40 zr) 41 zl) u.2) ∧ (∀ b, b ≠ (ad 255) → u.2 b = f b)
set_option maxHeartbeats 4000000 in
set_option maxRecDepth 100000 in
theorem s_X11_digits (l : Launch) (g : GG) (ad : Nat → Nat) (th : Nat → Int) (L : List Nat) (f : HP) (sz : Nat)  (hst : ST ad L) (hT : TI g ad th f)  : MtV l g yX11_digits cX11_digits 2 rm_X11_digits [.ref (ad 255)] L f sz (po_X11_digits g ad th L f ) := by
  refine MtV.of (by decide +kernel) (Nat.le_of_ble_eq_true rfl) ?_
  intro p e s m below meth c A hEn hP hD hS ls hl
  obtain ⟨hx, hb, hr, hml, hown, hlocks, hts, hG, hA, hE, hnm⟩ := hEn
  have hown : s.vm.findClass "RulerWordModel" = some m.cls := hown
  have hl : lv_has ls 2 [(0, .ref (ad 255))] := hl
  have hfr : (∀ b, b ≠ (ad 255) → f b = f b) := fun b z0_ => rfl
  obtain ⟨rw1, hf2, hc3⟩ := hT.2.2 1 (by decide)
  refine lv_aload_n hx hb dX11_digits_0 rfl (lv_at hl 0 rfl) ?_
  refine M0e hT (fun v0_4 v2_4 v3_4 v4_4 v5_4 v6_4 v8_4 v9_4 v12_4 v13_4 v14_4 v15_4 v16_4 v17_4 v18_4 v19_4 v20_4 v21_4 v22_4 v23_4 v25_4 v36_4 v37_4 v38_4 v39_4 v40_4 v45_4 v46_4 v47_4 v48_4 v50_4 v51_4 v53_4 v55_4 hf5 hv0_4 hv2_4 hg2_4 hv3_4 hg3_4 hv4_4 hg4_4 hv5_4 hg5_4 hv6_4 hg6_4 hv8_4 hg8_4 hv9_4 hg9_4 hv12_4 hv13_4 hg13_4 hv14_4 hg14_4 hv15_4 hg15_4 hv17_4 hg17_4 hv20_4 hg20_4 hv23_4 hg23_4 hv25_4 hg25_4 hv36_4 hg36_4 hv47_4 hg47_4 hv48_4 hg48_4 hv53_4 hg53_4 hv55_4 hg55_4 hrel0_4 => ?_)
  have hg15_4 : v15_4.toInt = th 11 := hg15_4
  have hg17_4 : v17_4.toInt = th 12 := hg17_4
  have hg20_4 : v20_4.toInt = th 14 := hg20_4
  refine call_i (run_V (rm := rm_X11_look) hx hb hml hown hts (s_X11_look l g ad th _ _ _  hst hT ) cV_X11_look wg_1529 ⟨Nat.le_of_ble_eq_true rfl, Nat.le_of_ble_eq_true rfl⟩ hG hE hA hP hD hS (hst.1 255 (by decide)) hf5 rfl rfl hl.1 (As := []) (rest := []) rfl (Nat.le_of_ble_eq_true rfl) dX11_digits_1 ⟨Nat.le_of_ble_eq_true rfl, Nat.le_of_ble_eq_true rfl⟩) hA hD hS (fun r6 L7 f8 H locs hp9 hP hD hS => ?_)
  obtain ⟨eL10L, eL10T, eL10F, eL10R⟩ := hp9
  have eL10L : L7 = L := eL10L
  rw [eL10L] at hP hD
  obtain ⟨zz11, hzz11, eL10T⟩ := eL10T
  have hT : TI g ad (gset th 37 zz11) f8 := eL10T
  have eL10F : ∀ b, b ≠ (ad 255) → f8 b = f b := eL10F
  have hf12 := (eL10F (ad 256) (hst.ne (by decide) (by decide) (by decide))).trans hf2
  have hfr : (∀ b, b ≠ (ad 255) → f8 b = f b) := fun b z0_ => (eL10F b z0_).trans (hfr b z0_)
  have eL10R : In r6 (-1) 255 := eL10R
  refine lv_istore_n (lv' := [(1, .int r6), (0, .ref (ad 255))]) hx hb dX11_digits_4 rfl hl (by decide) rfl (fun ls hl => ?_)
  refine lv_aload_n hx hb dX11_digits_5 rfl (lv_at hl 1 rfl) ?_
  refine lv_aload_n hx hb dX11_digits_6 rfl (lv_at hl 1 rfl) ?_
  refine M0e hT (fun v0_13 v2_13 v3_13 v4_13 v5_13 v6_13 v8_13 v9_13 v12_13 v13_13 v14_13 v15_13 v16_13 v17_13 v18_13 v19_13 v20_13 v21_13 v22_13 v23_13 v25_13 v36_13 v37_13 v38_13 v39_13 v40_13 v45_13 v46_13 v47_13 v48_13 v50_13 v51_13 v53_13 v55_13 hf14 hv0_13 hv2_13 hg2_13 hv3_13 hg3_13 hv4_13 hg4_13 hv5_13 hg5_13 hv6_13 hg6_13 hv8_13 hg8_13 hv9_13 hg9_13 hv12_13 hv13_13 hg13_13 hv14_13 hg14_13 hv15_13 hg15_13 hv17_13 hg17_13 hv20_13 hg20_13 hv23_13 hg23_13 hv25_13 hg25_13 hv36_13 hg36_13 hv47_13 hg47_13 hv48_13 hg48_13 hv53_13 hg53_13 hv55_13 hg55_13 hrel0_13 => ?_)
  have hg15_13 : v15_13.toInt = th 11 := hg15_13
  have hg17_13 : v17_13.toInt = th 12 := hg17_13
  have hg20_13 : v20_13.toInt = th 14 := hg20_13
  refine pl_get (v := .int v3_13) hx hb hts (fun w h => mT (inX11 w h)) hown hG.1 hP (hst.1 255 (by decide)) hf14 rfl 3 (by decide) (hts _ (mT wg_1339)) (fun _ h => h) rfl dX11_digits_7 ?_
  have hg3_13 : v3_13.toInt = zz11 := hg3_13
  refine pl_put (ty := .int) (v := .int v3_13) (fs' := [.int v0_13, .ref (ad 256), .int v2_13, .int v3_13, .int v4_13, .int v3_13, .int v6_13, .ref (ad 257), .int v8_13, .int v9_13, .ref (ad 258), .ref (ad 259), .int v12_13, .int v13_13, .int v14_13, .int v15_13, .int v16_13, .int v17_13, .int v18_13, .int v19_13, .int v20_13, .long v21_13, .long v22_13, .int v23_13, .ref (ad 260), .int v25_13, .ref (ad 261), .ref (ad 262), .ref (ad 263), .ref (ad 264), .ref (ad 265), .ref (ad 266), .ref (ad 267), .ref (ad 268), .ref (ad 269), .ref (ad 270), .int v36_13, .int v37_13, .int v38_13, .int v39_13, .int v40_13, .ref (ad 271), .ref (ad 272), .ref (ad 273), .ref (ad 274), .long v45_13, .long v46_13, .int v47_13, .int v48_13, .ref (ad 275), .int v50_13, .int v51_13, .ref (ad 276), .int v53_13, .ref (ad 277), .int v55_13]) hx hb hts (fun w h => mT (inX11 w h)) tyX11 tyX11_ok nmX11 hown hG.1 hP hD hS (hst.1 255 (by decide)) hf14 rfl 5 (by decide) (hts _ (mT wg_1341)) (fun _ h => h) rfl (by decide +kernel) (rfl) (rfl) (Nat.le_of_ble_eq_true rfl) rfl dX11_digits_10 (fun H locs f15 hf16 ho17 hP hD hS => ?_)
  have hf18 := (ho17 (ad 256) (hst.ne (by decide) (by decide) (by decide))).trans hf12
  have hfr : (∀ b, b ≠ (ad 255) → f15 b = f b) := fun b z0_ => (ho17 b z0_).trans (hfr b z0_)
  have hT := TI.updMG (th' := (gset (gset th 37 zz11) 40 (v3_13.toInt))) hT hst (k := 0) (by decide) hf16 ho17 ⟨v0_13, v2_13, v3_13, v4_13, v3_13, v6_13, v8_13, v9_13, v12_13, v13_13, v14_13, v15_13, v16_13, v17_13, v18_13, v19_13, v20_13, v21_13, v22_13, v23_13, v25_13, v36_13, v37_13, v38_13, v39_13, v40_13, v45_13, v46_13, v47_13, v48_13, v50_13, v51_13, v53_13, v55_13, rfl, hv0_13, hv2_13, hg2_13, hv3_13, hg3_13, hv4_13, hg4_13, hv3_13, rfl, hv6_13, hg6_13, hv8_13, hg8_13, hv9_13, hg9_13, hv12_13, hv13_13, hg13_13, hv14_13, hg14_13, hv15_13, hg15_13, hv17_13, hg17_13, hv20_13, hg20_13, hv23_13, hg23_13, hv25_13, hg25_13, hv36_13, hg36_13, hv47_13, hg47_13, hv48_13, hg48_13, hv53_13, hg53_13, hv55_13, hg55_13, hrel0_13⟩ (fun q hq => ((gset_ne (fun e => hq (by subst e; decide))).trans rfl))
  have hT : TI g ad (gset (gset th 37 zz11) 40 v3_13.toInt) f15 := TI.cast hT (by funext q; by_cases hq0 : q = 40; (subst hq0; rfl); by_cases hq1 : q = 37; (subst hq1; rfl); simp only [gset, if_neg hq0, if_neg hq1])
  have hJ13 : ∀ (k13 : Nat) (zg13_za : Int) (f_13 : HP) (H : Heap) (locs : List Loc) (ls : Array Slot), (v3_13.toInt ≤ zg13_za ∧ zg13_za ≤ 500 ∧ 0 ≤ zg13_za) → va_P g.1 vwCl (va_pl L f_13) H → va_D A (va_pl L f_13) → va_S A s.heap H locs → TI g ad (gset (gset th 40 v3_13.toInt) 37 zg13_za) f_13 → (∀ b, b ≠ (ad 255) → f_13 b = f b) → f_13 (ad 256) = .inl (g.2.1 2, 500, .inl (rw1)) → (∀ i : Nat, v3_13.toInt ≤ (i : Int) → (i : Int) < zg13_za → In (rw1 i) 48 57) → lv_has ls 2 [(0, .ref (ad 255)), (1, .int r6)] → 500 - zg13_za < ((k13 : Nat) : Int) → W p l e rm_X11_digits s m [.ref (ad 255)].toArray below meth c H locs 0 0 (MQ below (va_Qv (po_X11_digits g ad th L f ) (PstB g A) A) [.ref (ad 255)].toArray s rm_X11_digits.cells rm_X11_digits.slots A) (F0 m 13 ls []) := by
    intro k13
    induction k13 with
    | zero =>
      intro zg13_za f_13 H locs ls hzg13 hP hD hS hT hfr hf19 hxi13_0 hl hmz13
      exact absurd hmz13 (by omega)
    | succ k13 ih13 =>
      intro zg13_za f_13 H locs ls hzg13 hP hD hS hT hfr hf19 hxi13_0 hl hmz13
      refine lv_aload_n hx hb dX11_digits_13 rfl (lv_at hl 0 rfl) ?_
      refine M0e hT (fun v0_20 v2_20 v3_20 v4_20 v5_20 v6_20 v8_20 v9_20 v12_20 v13_20 v14_20 v15_20 v16_20 v17_20 v18_20 v19_20 v20_20 v21_20 v22_20 v23_20 v25_20 v36_20 v37_20 v38_20 v39_20 v40_20 v45_20 v46_20 v47_20 v48_20 v50_20 v51_20 v53_20 v55_20 hf21 hv0_20 hv2_20 hg2_20 hv3_20 hg3_20 hv4_20 hg4_20 hv5_20 hg5_20 hv6_20 hg6_20 hv8_20 hg8_20 hv9_20 hg9_20 hv12_20 hv13_20 hg13_20 hv14_20 hg14_20 hv15_20 hg15_20 hv17_20 hg17_20 hv20_20 hg20_20 hv23_20 hg23_20 hv25_20 hg25_20 hv36_20 hg36_20 hv47_20 hg47_20 hv48_20 hg48_20 hv53_20 hg53_20 hv55_20 hg55_20 hrel0_20 => ?_)
      have hg15_20 : v15_20.toInt = th 11 := hg15_20
      have hg17_20 : v17_20.toInt = th 12 := hg17_20
      have hg20_20 : v20_20.toInt = th 14 := hg20_20
      refine call_i (run_V (rm := rm_X11_here) hx hb hml hown hts (s_X11_here l g ad (gset (gset th 40 v3_13.toInt) 37 zg13_za) _ _ _  hst hT ) cV_X11_here wg_1533 ⟨Nat.le_of_ble_eq_true rfl, Nat.le_of_ble_eq_true rfl⟩ hG hE hA hP hD hS (hst.1 255 (by decide)) hf21 rfl rfl hl.1 (As := []) (rest := []) rfl (Nat.le_of_ble_eq_true rfl) dX11_digits_14 ⟨Nat.le_of_ble_eq_true rfl, Nat.le_of_ble_eq_true rfl⟩) hA hD hS (fun r22 L23 f24 H locs hp25 hP hD hS => ?_)
      obtain ⟨eL26L, eL26T, eL26R, eL26X0, eL26X1⟩ := hp25
      have eL26L : L23 = L := eL26L
      have eL26T : f24 = f_13 := eL26T
      rw [eL26L, eL26T] at hP hD
      have eL26R : In r22 (-1) 255 := eL26R
      have hh27 : r22.toInt = -1 ∨ zg13_za < th 13 := eL26X0
      have hby28 : r22.toInt = -1 ∨ r22.toInt = (rw1 (zg13_za).toNat).toInt % 256 := eL26X1 _ hf19
      refine call_i (run_S (rm := rm_X11_isDigit) hx hb hml hown hts (s_X11_isDigit l g ad (gset (gset th 40 v3_13.toInt) 37 zg13_za) _ _ _ r22 hst hT ) cS_X11_isDigit wg_1574 ⟨Nat.le_of_ble_eq_true rfl, Nat.le_of_ble_eq_true rfl⟩ hG hE hA hP hD hS rfl hl.1 (As := [.int r22]) (rest := []) rfl (Nat.le_of_ble_eq_true rfl) dX11_digits_17 ⟨Nat.le_of_ble_eq_true rfl, Nat.le_of_ble_eq_true rfl⟩) hA hD hS (fun r29 L30 f31 H locs hp32 hP hD hS => ?_)
      obtain ⟨eL33L, eL33T, eL33R, eL33W0⟩ := hp32
      have eL33L : L30 = L := eL33L
      have eL33T : f31 = f_13 := eL33T
      rw [eL33L, eL33T] at hP hD
      have eL33R : In r29 0 1 := eL33R
      refine lv_if_eq (tgt := 36) hx hb dX11_digits_20 (by decide) (fun c34 => ?_) (fun c34 => ?_)
      ·
        have oc0 : (0 : Int32).toInt = 0 := by decide
        have cc35 : r29.toInt = (0 : Int32).toInt := congrArg Int32.toInt c34
        have hb36 : In r29 0 0 := In.eq1 eL33R (⟨by decide, by decide⟩ : In 0 0 0) cc35 (by decide) (by decide)
        refine lv_aload_n hx hb dX11_digits_36 rfl (lv_at hl 0 rfl) ?_
        refine lv_aload_n hx hb dX11_digits_37 rfl (lv_at hl 0 rfl) ?_
        refine pl_get (v := .int v3_20) hx hb hts (fun w h => mT (inX11 w h)) hown hG.1 hP (hst.1 255 (by decide)) hf21 rfl 3 (by decide) (hts _ (mT wg_1339)) (fun _ h => h) rfl dX11_digits_38 ?_
        have hg3_20 : v3_20.toInt = zg13_za := hg3_20
        refine lv_aload_n hx hb dX11_digits_41 rfl (lv_at hl 0 rfl) ?_
        refine pl_get (v := .int v5_20) hx hb hts (fun w h => mT (inX11 w h)) hown hG.1 hP (hst.1 255 (by decide)) hf21 rfl 5 (by decide) (hts _ (mT wg_1341)) (fun _ h => h) rfl dX11_digits_42 ?_
        have hg5_20 : v5_20.toInt = v3_13.toInt := hg5_20
        refine lv_isub hx hb dX11_digits_45 ?_
        refine lv_topi (fun x37 ex37 => ?_)
        have hb38 : In x37 (-500) 500 := ex37 ▸ In.sub hv3_20 hv5_20 (by decide) (by decide) (by decide) (by decide)
        have et39 : x37.toInt = v3_20.toInt - v5_20.toInt := In.sub2e ex37 hv3_20 hv5_20 (by decide) (by decide)
        refine pl_put (ty := .int) (v := .int x37) (fs' := [.int v0_20, .ref (ad 256), .int v2_20, .int v3_20, .int v4_20, .int v5_20, .int x37, .ref (ad 257), .int v8_20, .int v9_20, .ref (ad 258), .ref (ad 259), .int v12_20, .int v13_20, .int v14_20, .int v15_20, .int v16_20, .int v17_20, .int v18_20, .int v19_20, .int v20_20, .long v21_20, .long v22_20, .int v23_20, .ref (ad 260), .int v25_20, .ref (ad 261), .ref (ad 262), .ref (ad 263), .ref (ad 264), .ref (ad 265), .ref (ad 266), .ref (ad 267), .ref (ad 268), .ref (ad 269), .ref (ad 270), .int v36_20, .int v37_20, .int v38_20, .int v39_20, .int v40_20, .ref (ad 271), .ref (ad 272), .ref (ad 273), .ref (ad 274), .long v45_20, .long v46_20, .int v47_20, .int v48_20, .ref (ad 275), .int v50_20, .int v51_20, .ref (ad 276), .int v53_20, .ref (ad 277), .int v55_20]) hx hb hts (fun w h => mT (inX11 w h)) tyX11 tyX11_ok nmX11 hown hG.1 hP hD hS (hst.1 255 (by decide)) hf21 rfl 6 (by decide) (hts _ (mT wg_1342)) (fun _ h => h) rfl (by decide +kernel) (rfl) (rfl) (Nat.le_of_ble_eq_true rfl) rfl dX11_digits_46 (fun H locs f40 hf41 ho42 hP hD hS => ?_)
        have hf43 := (ho42 (ad 256) (hst.ne (by decide) (by decide) (by decide))).trans hf19
        have hfr : (∀ b, b ≠ (ad 255) → f40 b = f b) := fun b z0_ => (ho42 b z0_).trans (hfr b z0_)
        have hT := TI.updMG (th' := (gset (gset (gset th 40 v3_13.toInt) 37 zg13_za) 41 (x37.toInt))) hT hst (k := 0) (by decide) hf41 ho42 ⟨v0_20, v2_20, v3_20, v4_20, v5_20, x37, v8_20, v9_20, v12_20, v13_20, v14_20, v15_20, v16_20, v17_20, v18_20, v19_20, v20_20, v21_20, v22_20, v23_20, v25_20, v36_20, v37_20, v38_20, v39_20, v40_20, v45_20, v46_20, v47_20, v48_20, v50_20, v51_20, v53_20, v55_20, rfl, hv0_20, hv2_20, hg2_20, hv3_20, hg3_20, hv4_20, hg4_20, hv5_20, hg5_20, (In.mk (by have ob13 : (0 : Int) ≤ (th 13) ∧ (th 13) ≤ 500 := (b0_13 hT :); have ob35 : (0 : Int) ≤ (th 35) ∧ (th 35) ≤ 63 := (b0_35 hT :); have ob36 : (0 : Int) ≤ (th 36) ∧ (th 36) ≤ 20 := (b0_36 hT :); have ob37 : (0 : Int) ≤ zg13_za ∧ zg13_za ≤ 500 := (b0_37 hT :); have ob40 : (0 : Int) ≤ v3_13.toInt ∧ v3_13.toInt ≤ 500 := (b0_40 hT :); have ob41 : (0 : Int) ≤ (th 41) ∧ (th 41) ≤ 500 := (b0_41 hT :); have ob42 : ((-1) : Int) ≤ (th 42) ∧ (th 42) ≤ 500 := (b0_42 hT :); have ob43 : ((-1) : Int) ≤ (th 43) ∧ (th 43) ≤ 1 := (b0_43 hT :); obtain ⟨o0a, o0b⟩ := (hb38 : In _ _ _); obtain ⟨o1a, o1b⟩ := (hv2_20 : In _ _ _); obtain ⟨o2a, o2b⟩ := (hv3_20 : In _ _ _); obtain ⟨o3a, o3b⟩ := (hv4_20 : In _ _ _); obtain ⟨o4a, o4b⟩ := (hv5_20 : In _ _ _); obtain ⟨o5a, o5b⟩ := (hv8_20 : In _ _ _); obtain ⟨o6a, o6b⟩ := (hv9_20 : In _ _ _); obtain ⟨o7a, o7b⟩ := (hv13_20 : In _ _ _); omega) (by have ob13 : (0 : Int) ≤ (th 13) ∧ (th 13) ≤ 500 := (b0_13 hT :); have ob35 : (0 : Int) ≤ (th 35) ∧ (th 35) ≤ 63 := (b0_35 hT :); have ob36 : (0 : Int) ≤ (th 36) ∧ (th 36) ≤ 20 := (b0_36 hT :); have ob37 : (0 : Int) ≤ zg13_za ∧ zg13_za ≤ 500 := (b0_37 hT :); have ob40 : (0 : Int) ≤ v3_13.toInt ∧ v3_13.toInt ≤ 500 := (b0_40 hT :); have ob41 : (0 : Int) ≤ (th 41) ∧ (th 41) ≤ 500 := (b0_41 hT :); have ob42 : ((-1) : Int) ≤ (th 42) ∧ (th 42) ≤ 500 := (b0_42 hT :); have ob43 : ((-1) : Int) ≤ (th 43) ∧ (th 43) ≤ 1 := (b0_43 hT :); obtain ⟨o0a, o0b⟩ := (hb38 : In _ _ _); obtain ⟨o1a, o1b⟩ := (hv2_20 : In _ _ _); obtain ⟨o2a, o2b⟩ := (hv3_20 : In _ _ _); obtain ⟨o3a, o3b⟩ := (hv4_20 : In _ _ _); obtain ⟨o4a, o4b⟩ := (hv5_20 : In _ _ _); obtain ⟨o5a, o5b⟩ := (hv8_20 : In _ _ _); obtain ⟨o6a, o6b⟩ := (hv9_20 : In _ _ _); obtain ⟨o7a, o7b⟩ := (hv13_20 : In _ _ _); omega)), rfl, hv8_20, hg8_20, hv9_20, hg9_20, hv12_20, hv13_20, hg13_20, hv14_20, hg14_20, hv15_20, hg15_20, hv17_20, hg17_20, hv20_20, hg20_20, hv23_20, hg23_20, hv25_20, hg25_20, hv36_20, hg36_20, hv47_20, hg47_20, hv48_20, hg48_20, hv53_20, hg53_20, hv55_20, hg55_20, hrel0_20⟩ (fun q hq => ((gset_ne (fun e => hq (by subst e; decide))).trans rfl))
        have hT : TI g ad (gset (gset (gset th 40 v3_13.toInt) 37 zg13_za) 41 x37.toInt) f40 := TI.cast hT (by funext q; by_cases hq0 : q = 41; (subst hq0; rfl); by_cases hq1 : q = 37; (subst hq1; rfl); by_cases hq2 : q = 40; (subst hq2; rfl); simp only [gset, if_neg hq0, if_neg hq1, if_neg hq2])
        exact ret_v hx hb hr hlocks hP hD hS (Nat.le_of_ble_eq_true rfl) (Nat.le_of_ble_eq_true rfl) (⟨rfl, ⟨zg13_za, v3_13.toInt, x37.toInt, ⟨(show (th 37 ≤ v3_13.toInt ∧ 0 ≤ v3_13.toInt ∧ 0 ≤ x37.toInt ∧ v3_13.toInt + x37.toInt = zg13_za ∧ zg13_za ≤ 500) from (by have ob13 : (0 : Int) ≤ (th 13) ∧ (th 13) ≤ 500 := (b0_13 hT :); have ob35 : (0 : Int) ≤ (th 35) ∧ (th 35) ≤ 63 := (b0_35 hT :); have ob36 : (0 : Int) ≤ (th 36) ∧ (th 36) ≤ 20 := (b0_36 hT :); have ob37 : (0 : Int) ≤ zg13_za ∧ zg13_za ≤ 500 := (b0_37 hT :); have ob40 : (0 : Int) ≤ v3_13.toInt ∧ v3_13.toInt ≤ 500 := (b0_40 hT :); have ob41 : (0 : Int) ≤ x37.toInt ∧ x37.toInt ≤ 500 := (b0_41 hT :); have ob42 : ((-1) : Int) ≤ (th 42) ∧ (th 42) ≤ 500 := (b0_42 hT :); have ob43 : ((-1) : Int) ≤ (th 43) ∧ (th 43) ≤ 1 := (b0_43 hT :); omega)), fun r0 q0 => by have q1 := hf43.symm.trans q0; injection q1 with q1; injection q1 with _ q1; injection q1 with _ q1; injection q1 with q1; rw [← q1]; exact fun i a b => hxi13_0 i a (by omega)⟩, TI.cast hT (by funext q; by_cases hq0 : q = 41; (subst hq0; rfl); by_cases hq1 : q = 37; (subst hq1; rfl); by_cases hq2 : q = 40; (subst hq2; rfl); simp only [gset, if_neg hq0, if_neg hq1, if_neg hq2])⟩, hfr⟩) dX11_digits_49
      ·
        have oc0 : (0 : Int32).toInt = 0 := by decide
        have cc44 : r29.toInt ≠ (0 : Int32).toInt := i32_ne c34
        have hb45 : In r29 1 1 := In.ne1 eL33R (⟨by decide, by decide⟩ : In 0 0 0) cc44 (by decide) (by decide)
        have hb46 : In r22 48 57 := In.both (eL33W0 c34) eL26R (by decide) (by decide)
        have hlthdd47 : zg13_za < (th 13) := (by have ob13 : (0 : Int) ≤ (th 13) ∧ (th 13) ≤ 500 := (b0_13 hT :); have ob35 : (0 : Int) ≤ (th 35) ∧ (th 35) ≤ 63 := (b0_35 hT :); have ob36 : (0 : Int) ≤ (th 36) ∧ (th 36) ≤ 20 := (b0_36 hT :); have ob37 : (0 : Int) ≤ zg13_za ∧ zg13_za ≤ 500 := (b0_37 hT :); have ob40 : (0 : Int) ≤ v3_13.toInt ∧ v3_13.toInt ≤ 500 := (b0_40 hT :); have ob41 : (0 : Int) ≤ (th 41) ∧ (th 41) ≤ 500 := (b0_41 hT :); have ob42 : ((-1) : Int) ≤ (th 42) ∧ (th 42) ≤ 500 := (b0_42 hT :); have ob43 : ((-1) : Int) ≤ (th 43) ∧ (th 43) ≤ 1 := (b0_43 hT :); obtain ⟨o0a, o0b⟩ := (hb46 : In _ _ _); obtain ⟨o1a, o1b⟩ := (hv2_20 : In _ _ _); obtain ⟨o2a, o2b⟩ := (hv3_20 : In _ _ _); obtain ⟨o3a, o3b⟩ := (hv4_20 : In _ _ _); obtain ⟨o4a, o4b⟩ := (hv5_20 : In _ _ _); obtain ⟨o5a, o5b⟩ := (hv6_20 : In _ _ _); obtain ⟨o6a, o6b⟩ := (hv8_20 : In _ _ _); obtain ⟨o7a, o7b⟩ := (hv9_20 : In _ _ _); obtain ⟨o8a, o8b⟩ := (hv13_20 : In _ _ _); omega)
        have hdd47 : In (rw1 (zg13_za).toNat) 48 57 := dg_at (hc3 _ (by have ob13 : (0 : Int) ≤ (th 13) ∧ (th 13) ≤ 500 := (b0_13 hT :); have ob35 : (0 : Int) ≤ (th 35) ∧ (th 35) ≤ 63 := (b0_35 hT :); have ob36 : (0 : Int) ≤ (th 36) ∧ (th 36) ≤ 20 := (b0_36 hT :); have ob37 : (0 : Int) ≤ zg13_za ∧ zg13_za ≤ 500 := (b0_37 hT :); have ob40 : (0 : Int) ≤ v3_13.toInt ∧ v3_13.toInt ≤ 500 := (b0_40 hT :); have ob41 : (0 : Int) ≤ (th 41) ∧ (th 41) ≤ 500 := (b0_41 hT :); have ob42 : ((-1) : Int) ≤ (th 42) ∧ (th 42) ≤ 500 := (b0_42 hT :); have ob43 : ((-1) : Int) ≤ (th 43) ∧ (th 43) ≤ 1 := (b0_43 hT :); obtain ⟨o0a, o0b⟩ := (hb46 : In _ _ _); obtain ⟨o1a, o1b⟩ := (hv2_20 : In _ _ _); obtain ⟨o2a, o2b⟩ := (hv3_20 : In _ _ _); obtain ⟨o3a, o3b⟩ := (hv4_20 : In _ _ _); obtain ⟨o4a, o4b⟩ := (hv5_20 : In _ _ _); obtain ⟨o5a, o5b⟩ := (hv6_20 : In _ _ _); obtain ⟨o6a, o6b⟩ := (hv8_20 : In _ _ _); obtain ⟨o7a, o7b⟩ := (hv9_20 : In _ _ _); obtain ⟨o8a, o8b⟩ := (hv13_20 : In _ _ _); omega)) hb46 hby28
        refine lv_aload_n hx hb dX11_digits_23 rfl (lv_at hl 0 rfl) ?_
        refine lv_dup hx hb dX11_digits_24 rfl ?_
        refine pl_get (v := .int v3_20) hx hb hts (fun w h => mT (inX11 w h)) hown hG.1 hP (hst.1 255 (by decide)) hf21 rfl 3 (by decide) (hts _ (mT wg_1339)) (fun _ h => h) rfl dX11_digits_25 ?_
        have hg3_20 : v3_20.toInt = zg13_za := hg3_20
        refine lv_iconst (v := 1) hx hb dX11_digits_28 (by decide) ?_
        refine lv_iadd hx hb dX11_digits_29 ?_
        refine lv_topi (fun x48 ex48 => ?_)
        have hb49 : In x48 1 501 := ex48 ▸ In.add hv3_20 (⟨by decide, by decide⟩ : In 1 1 1) (by decide) (by decide) (by decide) (by decide)
        have et50 : x48.toInt = v3_20.toInt + 1 := In.adde ex48 hv3_20 (k := 1) (by decide) (by decide) (by decide)
        refine pl_put (ty := .int) (v := .int x48) (fs' := [.int v0_20, .ref (ad 256), .int v2_20, .int x48, .int v4_20, .int v5_20, .int v6_20, .ref (ad 257), .int v8_20, .int v9_20, .ref (ad 258), .ref (ad 259), .int v12_20, .int v13_20, .int v14_20, .int v15_20, .int v16_20, .int v17_20, .int v18_20, .int v19_20, .int v20_20, .long v21_20, .long v22_20, .int v23_20, .ref (ad 260), .int v25_20, .ref (ad 261), .ref (ad 262), .ref (ad 263), .ref (ad 264), .ref (ad 265), .ref (ad 266), .ref (ad 267), .ref (ad 268), .ref (ad 269), .ref (ad 270), .int v36_20, .int v37_20, .int v38_20, .int v39_20, .int v40_20, .ref (ad 271), .ref (ad 272), .ref (ad 273), .ref (ad 274), .long v45_20, .long v46_20, .int v47_20, .int v48_20, .ref (ad 275), .int v50_20, .int v51_20, .ref (ad 276), .int v53_20, .ref (ad 277), .int v55_20]) hx hb hts (fun w h => mT (inX11 w h)) tyX11 tyX11_ok nmX11 hown hG.1 hP hD hS (hst.1 255 (by decide)) hf21 rfl 3 (by decide) (hts _ (mT wg_1339)) (fun _ h => h) rfl (by decide +kernel) (rfl) (rfl) (Nat.le_of_ble_eq_true rfl) rfl dX11_digits_30 (fun H locs f51 hf52 ho53 hP hD hS => ?_)
        have hf54 := (ho53 (ad 256) (hst.ne (by decide) (by decide) (by decide))).trans hf19
        have hfr : (∀ b, b ≠ (ad 255) → f51 b = f b) := fun b z0_ => (ho53 b z0_).trans (hfr b z0_)
        have hT := TI.updMG (th' := (gset (gset (gset th 40 v3_13.toInt) 37 zg13_za) 37 (x48.toInt))) hT hst (k := 0) (by decide) hf52 ho53 ⟨v0_20, v2_20, x48, v4_20, v5_20, v6_20, v8_20, v9_20, v12_20, v13_20, v14_20, v15_20, v16_20, v17_20, v18_20, v19_20, v20_20, v21_20, v22_20, v23_20, v25_20, v36_20, v37_20, v38_20, v39_20, v40_20, v45_20, v46_20, v47_20, v48_20, v50_20, v51_20, v53_20, v55_20, rfl, hv0_20, hv2_20, hg2_20, (In.mk (by have ob13 : (0 : Int) ≤ (th 13) ∧ (th 13) ≤ 500 := (b0_13 hT :); have ob35 : (0 : Int) ≤ (th 35) ∧ (th 35) ≤ 63 := (b0_35 hT :); have ob36 : (0 : Int) ≤ (th 36) ∧ (th 36) ≤ 20 := (b0_36 hT :); have ob37 : (0 : Int) ≤ zg13_za ∧ zg13_za ≤ 500 := (b0_37 hT :); have ob40 : (0 : Int) ≤ v3_13.toInt ∧ v3_13.toInt ≤ 500 := (b0_40 hT :); have ob41 : (0 : Int) ≤ (th 41) ∧ (th 41) ≤ 500 := (b0_41 hT :); have ob42 : ((-1) : Int) ≤ (th 42) ∧ (th 42) ≤ 500 := (b0_42 hT :); have ob43 : ((-1) : Int) ≤ (th 43) ∧ (th 43) ≤ 1 := (b0_43 hT :); obtain ⟨o0a, o0b⟩ := (hb49 : In _ _ _); obtain ⟨o1a, o1b⟩ := (hv2_20 : In _ _ _); obtain ⟨o2a, o2b⟩ := (hv4_20 : In _ _ _); obtain ⟨o3a, o3b⟩ := (hv5_20 : In _ _ _); obtain ⟨o4a, o4b⟩ := (hv6_20 : In _ _ _); obtain ⟨o5a, o5b⟩ := (hv8_20 : In _ _ _); obtain ⟨o6a, o6b⟩ := (hv9_20 : In _ _ _); obtain ⟨o7a, o7b⟩ := (hv13_20 : In _ _ _); obtain ⟨o8a, o8b⟩ := (hv3_20 : In _ _ _); omega) (by have ob13 : (0 : Int) ≤ (th 13) ∧ (th 13) ≤ 500 := (b0_13 hT :); have ob35 : (0 : Int) ≤ (th 35) ∧ (th 35) ≤ 63 := (b0_35 hT :); have ob36 : (0 : Int) ≤ (th 36) ∧ (th 36) ≤ 20 := (b0_36 hT :); have ob37 : (0 : Int) ≤ zg13_za ∧ zg13_za ≤ 500 := (b0_37 hT :); have ob40 : (0 : Int) ≤ v3_13.toInt ∧ v3_13.toInt ≤ 500 := (b0_40 hT :); have ob41 : (0 : Int) ≤ (th 41) ∧ (th 41) ≤ 500 := (b0_41 hT :); have ob42 : ((-1) : Int) ≤ (th 42) ∧ (th 42) ≤ 500 := (b0_42 hT :); have ob43 : ((-1) : Int) ≤ (th 43) ∧ (th 43) ≤ 1 := (b0_43 hT :); obtain ⟨o0a, o0b⟩ := (hb49 : In _ _ _); obtain ⟨o1a, o1b⟩ := (hv2_20 : In _ _ _); obtain ⟨o2a, o2b⟩ := (hv4_20 : In _ _ _); obtain ⟨o3a, o3b⟩ := (hv5_20 : In _ _ _); obtain ⟨o4a, o4b⟩ := (hv6_20 : In _ _ _); obtain ⟨o5a, o5b⟩ := (hv8_20 : In _ _ _); obtain ⟨o6a, o6b⟩ := (hv9_20 : In _ _ _); obtain ⟨o7a, o7b⟩ := (hv13_20 : In _ _ _); obtain ⟨o8a, o8b⟩ := (hv3_20 : In _ _ _); omega)), rfl, hv4_20, hg4_20, hv5_20, hg5_20, hv6_20, hg6_20, hv8_20, hg8_20, hv9_20, hg9_20, hv12_20, hv13_20, hg13_20, hv14_20, hg14_20, hv15_20, hg15_20, hv17_20, hg17_20, hv20_20, hg20_20, hv23_20, hg23_20, hv25_20, hg25_20, hv36_20, hg36_20, hv47_20, hg47_20, hv48_20, hg48_20, hv53_20, hg53_20, hv55_20, hg55_20, hrel0_20⟩ (fun q hq => ((gset_ne (fun e => hq (by subst e; decide))).trans rfl))
        have hT : TI g ad (gset (gset th 40 v3_13.toInt) 37 x48.toInt) f51 := TI.cast hT (by funext q; by_cases hq0 : q = 37; (subst hq0; rfl); by_cases hq1 : q = 40; (subst hq1; rfl); simp only [gset, if_neg hq0, if_neg hq1])
        refine lv_goto (tgt := 13) hx hb dX11_digits_33 (by decide) ?_
        exact ih13 x48.toInt _ _ _ _ (show (v3_13.toInt ≤ x48.toInt ∧ x48.toInt ≤ 500 ∧ 0 ≤ x48.toInt) from (by have ob13 : (0 : Int) ≤ (th 13) ∧ (th 13) ≤ 500 := (b0_13 hT :); have ob35 : (0 : Int) ≤ (th 35) ∧ (th 35) ≤ 63 := (b0_35 hT :); have ob36 : (0 : Int) ≤ (th 36) ∧ (th 36) ≤ 20 := (b0_36 hT :); have ob37 : (0 : Int) ≤ x48.toInt ∧ x48.toInt ≤ 500 := (b0_37 hT :); have ob40 : (0 : Int) ≤ v3_13.toInt ∧ v3_13.toInt ≤ 500 := (b0_40 hT :); have ob41 : (0 : Int) ≤ (th 41) ∧ (th 41) ≤ 500 := (b0_41 hT :); have ob42 : ((-1) : Int) ≤ (th 42) ∧ (th 42) ≤ 500 := (b0_42 hT :); have ob43 : ((-1) : Int) ≤ (th 43) ∧ (th 43) ≤ 1 := (b0_43 hT :); obtain ⟨o0a, o0b⟩ := (eL10R : In _ _ _); omega)) hP hD hS (TI.cast hT (by funext q; by_cases hq0 : q = 37; (subst hq0; rfl); by_cases hq1 : q = 40; (subst hq1; rfl); simp only [gset, if_neg hq0, if_neg hq1])) hfr hf54 (fun i q1 q2 => dg_step hxi13_0 hdd47 i q1 (by omega)) (lv_sub hl [0, 1] rfl) (show 500 - (x48.toInt) < ((k13 : Nat) : Int) from (by have ob13 : (0 : Int) ≤ (th 13) ∧ (th 13) ≤ 500 := (b0_13 hT :); have ob35 : (0 : Int) ≤ (th 35) ∧ (th 35) ≤ 63 := (b0_35 hT :); have ob36 : (0 : Int) ≤ (th 36) ∧ (th 36) ≤ 20 := (b0_36 hT :); have ob37 : (0 : Int) ≤ x48.toInt ∧ x48.toInt ≤ 500 := (b0_37 hT :); have ob40 : (0 : Int) ≤ v3_13.toInt ∧ v3_13.toInt ≤ 500 := (b0_40 hT :); have ob41 : (0 : Int) ≤ (th 41) ∧ (th 41) ≤ 500 := (b0_41 hT :); have ob42 : ((-1) : Int) ≤ (th 42) ∧ (th 42) ≤ 500 := (b0_42 hT :); have ob43 : ((-1) : Int) ≤ (th 43) ∧ (th 43) ≤ 1 := (b0_43 hT :); omega))
  exact hJ13 ((500 - zz11).toNat + 1) zz11 _ _ _ _ (show (v3_13.toInt ≤ zz11 ∧ zz11 ≤ 500 ∧ 0 ≤ zz11) from (by have ob13 : (0 : Int) ≤ (th 13) ∧ (th 13) ≤ 500 := (b0_13 hT :); have ob35 : (0 : Int) ≤ (th 35) ∧ (th 35) ≤ 63 := (b0_35 hT :); have ob36 : (0 : Int) ≤ (th 36) ∧ (th 36) ≤ 20 := (b0_36 hT :); have ob37 : (0 : Int) ≤ zz11 ∧ zz11 ≤ 500 := (b0_37 hT :); have ob40 : (0 : Int) ≤ v3_13.toInt ∧ v3_13.toInt ≤ 500 := (b0_40 hT :); have ob41 : (0 : Int) ≤ (th 41) ∧ (th 41) ≤ 500 := (b0_41 hT :); have ob42 : ((-1) : Int) ≤ (th 42) ∧ (th 42) ≤ 500 := (b0_42 hT :); have ob43 : ((-1) : Int) ≤ (th 43) ∧ (th 43) ≤ 1 := (b0_43 hT :); obtain ⟨o0a, o0b⟩ := (eL10R : In _ _ _); omega)) hP hD hS (TI.cast hT (by funext q; by_cases hq0 : q = 40; (subst hq0; rfl); by_cases hq1 : q = 37; (subst hq1; rfl); simp only [gset, if_neg hq0, if_neg hq1])) hfr hf18 (fun i q1 q2 => by omega) (lv_sub hl [1, 0] rfl) (msI _)
