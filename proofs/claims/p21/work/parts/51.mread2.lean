abbrev rm_X11_liars : Room := { frames := 3, cells := 0, slots := 0, locals := 61 }
abbrev po_X11_liars (g : GG) (ad : Nat → Nat) (th : Nat → Int) (L : List Nat) (f : HP)  : (List Nat × HP) → Prop := fun u => u.1 = L ∧ (∃ za zr zl ze zf : Int, ((th 37 ≤ za ∧ za ≤ 500) ∧ capI zf (th 30)) ∧ TI g ad (gset (gset (gset (gset (gset th 37 za) 40 zr) 41 zl) 42 ze) 34 zf) u.2) ∧ (∀ b, b ≠ (ad 255) → b ≠ (ad 257) → u.2 b = f b)
set_option maxHeartbeats 4000000 in
set_option maxRecDepth 100000 in
theorem s_X11_liars (l : Launch) (g : GG) (ad : Nat → Nat) (th : Nat → Int) (L : List Nat) (f : HP) (sz : Nat)  (hst : ST ad L) (hT : TI g ad th f) (hl0 : th 34 = 0) (hl1 : 3 ≤ th 30 ∧ th 30 ≤ 9) : MtV l g yX11_liars cX11_liars 3 rm_X11_liars [.ref (ad 255)] L f sz (po_X11_liars g ad th L f ) := by
  refine MtV.of (by decide +kernel) (Nat.le_of_ble_eq_true rfl) ?_
  intro p e s m below meth c A hEn hP hD hS ls hl
  obtain ⟨hx, hb, hr, hml, hown, hlocks, hts, hG, hA, hE, hnm⟩ := hEn
  have hown : s.vm.findClass "RulerWordModel" = some m.cls := hown
  have hl : lv_has ls 3 [(0, .ref (ad 255))] := hl
  have hfr : (∀ b, b ≠ (ad 255) → b ≠ (ad 257) → f b = f b) := fun b z0_ z1_ => rfl
  refine lv_aload_n hx hb dX11_liars_0 rfl (lv_at hl 0 rfl) ?_
  refine M0e hT (fun v0_1 v2_1 v3_1 v4_1 v5_1 v6_1 v8_1 v9_1 v12_1 v13_1 v14_1 v15_1 v16_1 v17_1 v18_1 v19_1 v20_1 v21_1 v22_1 v23_1 v25_1 v36_1 v37_1 v38_1 v39_1 v40_1 v45_1 v46_1 v47_1 v48_1 v50_1 v51_1 v53_1 v55_1 hf2 hv0_1 hv2_1 hg2_1 hv3_1 hg3_1 hv4_1 hg4_1 hv5_1 hg5_1 hv6_1 hg6_1 hv8_1 hg8_1 hv9_1 hg9_1 hv12_1 hv13_1 hg13_1 hv14_1 hg14_1 hv15_1 hg15_1 hv17_1 hg17_1 hv20_1 hg20_1 hv23_1 hg23_1 hv25_1 hg25_1 hv36_1 hg36_1 hv47_1 hg47_1 hv48_1 hg48_1 hv53_1 hg53_1 hv55_1 hg55_1 hrel0_1 => ?_)
  have hg15_1 : v15_1.toInt = th 11 := hg15_1
  have hg17_1 : v17_1.toInt = th 12 := hg17_1
  have hg20_1 : v20_1.toInt = th 14 := hg20_1
  refine call_v (run_V (rm := rm_X11_digits) hx hb hml hown hts (s_X11_digits l g ad th _ _ _  hst hT ) cV_X11_digits wg_1570 ⟨Nat.le_of_ble_eq_true rfl, Nat.le_of_ble_eq_true rfl⟩ hG hE hA hP hD hS (hst.1 255 (by decide)) hf2 rfl rfl hl.1 (As := []) (rest := []) rfl (Nat.le_of_ble_eq_true rfl) dX11_liars_1 ⟨Nat.le_of_ble_eq_true rfl, Nat.le_of_ble_eq_true rfl⟩) hA hD hS (fun L4 f5 H locs hp6 hP hD hS => ?_)
  obtain ⟨eL7L, eL7T, eL7F⟩ := hp6
  have eL7L : L4 = L := eL7L
  rw [eL7L] at hP hD
  obtain ⟨zz8, zz9, zz10, hzz8, eL7T⟩ := eL7T
  have hT : TI g ad (gset (gset (gset th 37 zz8) 40 zz9) 41 zz10) f5 := eL7T
  have eL7F : ∀ b, b ≠ (ad 255) → f5 b = f b := eL7F
  have hfr : (∀ b, b ≠ (ad 255) → b ≠ (ad 257) → f5 b = f b) := fun b z0_ z1_ => (eL7F b z0_).trans (hfr b z0_ z1_)
  obtain ⟨rw11, hf12, hc13⟩ := hT.2.2 1 (by decide)
  have hcont : ∀ i : Nat, zz9 ≤ (i : Int) → (i : Int) < zz8 → In (rw11 i) 48 57 := hzz8.2 _ hf12
  have hcd0 := hzz8.1
  refine lv_aload_n hx hb dX11_liars_4 rfl (lv_at hl 0 rfl) ?_
  refine M0e hT (fun v0_14 v2_14 v3_14 v4_14 v5_14 v6_14 v8_14 v9_14 v12_14 v13_14 v14_14 v15_14 v16_14 v17_14 v18_14 v19_14 v20_14 v21_14 v22_14 v23_14 v25_14 v36_14 v37_14 v38_14 v39_14 v40_14 v45_14 v46_14 v47_14 v48_14 v50_14 v51_14 v53_14 v55_14 hf15 hv0_14 hv2_14 hg2_14 hv3_14 hg3_14 hv4_14 hg4_14 hv5_14 hg5_14 hv6_14 hg6_14 hv8_14 hg8_14 hv9_14 hg9_14 hv12_14 hv13_14 hg13_14 hv14_14 hg14_14 hv15_14 hg15_14 hv17_14 hg17_14 hv20_14 hg20_14 hv23_14 hg23_14 hv25_14 hg25_14 hv36_14 hg36_14 hv47_14 hg47_14 hv48_14 hg48_14 hv53_14 hg53_14 hv55_14 hg55_14 hrel0_14 => ?_)
  have hg15_14 : v15_14.toInt = th 11 := hg15_14
  have hg17_14 : v17_14.toInt = th 12 := hg17_14
  have hg20_14 : v20_14.toInt = th 14 := hg20_14
  refine pl_get (v := .int v6_14) hx hb hts (fun w h => mT (inX11 w h)) hown hG.1 hP (hst.1 255 (by decide)) hf15 rfl 6 (by decide) (hts _ (mT wg_1342)) (fun _ h => h) rfl dX11_liars_5 ?_
  have hg6_14 : v6_14.toInt = zz10 := hg6_14
  have hJ29 : ∀ (y29_s0 : Int32) (H : Heap) (locs : List Loc) (ls : Array Slot), In y29_s0 0 1 → va_P g.1 vwCl (va_pl L f5) H → va_D A (va_pl L f5) → va_S A s.heap H locs → (y29_s0.toInt = 0 ∨ zz10 < th 30) → lv_has ls 3 [(0, .ref (ad 255))] → W p l e rm_X11_liars s m [.ref (ad 255)].toArray below meth c H locs 0 0 (MQ below (va_Qv (po_X11_liars g ad th L f ) (PstB g A) A) [.ref (ad 255)].toArray s rm_X11_liars.cells rm_X11_liars.slots A) (F0 m 29 ls [.int y29_s0]) := by
    intro y29_s0 H locs ls hy29_s0 hP hD hS hinv29_0 hl
    refine lv_istore_n (lv' := [(1, .int y29_s0), (0, .ref (ad 255))]) hx hb dX11_liars_29 rfl hl (by decide) rfl (fun ls hl => ?_)
    refine lv_iconst (v := 0) hx hb dX11_liars_30 (by decide) ?_
    refine lv_istore_n (lv' := [(2, .int 0), (1, .int y29_s0), (0, .ref (ad 255))]) hx hb dX11_liars_31 rfl hl (by decide) rfl (fun ls hl => ?_)
    have hJ32 : ∀ (k32 : Nat) (zg32_zf : Int) (y32_l1 : Int32) (y32_l2 : Int32) (f_32 : HP) (H : Heap) (locs : List Loc) (ls : Array Slot), (0 ≤ zg32_zf ∧ zg32_zf < 2 ^ (th 30).toNat ∧ pcI zg32_zf ≤ y32_l2.toInt) → In y32_l1 0 1 → In y32_l2 0 2147483647 → va_P g.1 vwCl (va_pl L f_32) H → va_D A (va_pl L f_32) → va_S A s.heap H locs → TI g ad (gset (gset (gset (gset th 37 zz8) 40 zz9) 41 zz10) 34 zg32_zf) f_32 → (∀ b, b ≠ (ad 255) → b ≠ (ad 257) → f_32 b = f b) → f_32 (ad 256) = .inl (g.2.1 2, 500, .inl (rw11)) → (y32_l2.toInt ≤ zz10 ∧ 0 ≤ y32_l2.toInt) → ((y32_l1.toInt = 0 ∨ zz10 < th 30) ∧ (y32_l2.toInt = 0 ∨ zz10 < th 30)) → lv_has ls 3 [(0, .ref (ad 255)), (1, .int y32_l1), (2, .int y32_l2)] → 2147483647 - y32_l2.toInt < ((k32 : Nat) : Int) → W p l e rm_X11_liars s m [.ref (ad 255)].toArray below meth c H locs 0 0 (MQ below (va_Qv (po_X11_liars g ad th L f ) (PstB g A) A) [.ref (ad 255)].toArray s rm_X11_liars.cells rm_X11_liars.slots A) (F0 m 32 ls []) := by
      intro k32
      induction k32 with
      | zero =>
        intro zg32_zf y32_l1 y32_l2 f_32 H locs ls hzg32 hy32_l1 hy32_l2 hP hD hS hT hfr hf16 hinv32_0 hinv32_1 hl hmz32
        exact ms0 hy32_l2 hmz32
      | succ k32 ih32 =>
        intro zg32_zf y32_l1 y32_l2 f_32 H locs ls hzg32 hy32_l1 hy32_l2 hP hD hS hT hfr hf16 hinv32_0 hinv32_1 hl hmz32
        refine lv_iload_n hx hb dX11_liars_32 rfl (lv_at hl 2 rfl) ?_
        refine lv_aload_n hx hb dX11_liars_33 rfl (lv_at hl 0 rfl) ?_
        refine M0e hT (fun v0_17 v2_17 v3_17 v4_17 v5_17 v6_17 v8_17 v9_17 v12_17 v13_17 v14_17 v15_17 v16_17 v17_17 v18_17 v19_17 v20_17 v21_17 v22_17 v23_17 v25_17 v36_17 v37_17 v38_17 v39_17 v40_17 v45_17 v46_17 v47_17 v48_17 v50_17 v51_17 v53_17 v55_17 hf18 hv0_17 hv2_17 hg2_17 hv3_17 hg3_17 hv4_17 hg4_17 hv5_17 hg5_17 hv6_17 hg6_17 hv8_17 hg8_17 hv9_17 hg9_17 hv12_17 hv13_17 hg13_17 hv14_17 hg14_17 hv15_17 hg15_17 hv17_17 hg17_17 hv20_17 hg20_17 hv23_17 hg23_17 hv25_17 hg25_17 hv36_17 hg36_17 hv47_17 hg47_17 hv48_17 hg48_17 hv53_17 hg53_17 hv55_17 hg55_17 hrel0_17 => ?_)
        have hg15_17 : v15_17.toInt = th 11 := hg15_17
        have hg17_17 : v17_17.toInt = th 12 := hg17_17
        have hg20_17 : v20_17.toInt = th 14 := hg20_17
        refine pl_get (v := .int v6_17) hx hb hts (fun w h => mT (inX11 w h)) hown hG.1 hP (hst.1 255 (by decide)) hf18 rfl 6 (by decide) (hts _ (mT wg_1342)) (fun _ h => h) rfl dX11_liars_34 ?_
        have hg6_17 : v6_17.toInt = zz10 := hg6_17
        have hJ113 : ∀ (H : Heap) (locs : List Loc) (ls : Array Slot), va_P g.1 vwCl (va_pl L f_32) H → va_D A (va_pl L f_32) → va_S A s.heap H locs → lv_has ls 3 [(0, .ref (ad 255)), (1, .int y32_l1), (2, .int y32_l2)] → W p l e rm_X11_liars s m [.ref (ad 255)].toArray below meth c H locs 0 0 (MQ below (va_Qv (po_X11_liars g ad th L f ) (PstB g A) A) [.ref (ad 255)].toArray s rm_X11_liars.cells rm_X11_liars.slots A) (F0 m 113 ls []) := by
          intro H locs ls hP hD hS hl
          have hcapf : capI zg32_zf (th 30) := pc_cap (i := y32_l2.toInt) hzg32 (by omega) (by have ob13 : (0 : Int) ≤ (th 13) ∧ (th 13) ≤ 500 := (b0_13 hT :); have ob35 : (0 : Int) ≤ (th 35) ∧ (th 35) ≤ 63 := (b0_35 hT :); have ob36 : (0 : Int) ≤ (th 36) ∧ (th 36) ≤ 20 := (b0_36 hT :); have ob37 : (0 : Int) ≤ zz8 ∧ zz8 ≤ 500 := (b0_37 hT :); have ob40 : (0 : Int) ≤ zz9 ∧ zz9 ≤ 500 := (b0_40 hT :); have ob41 : (0 : Int) ≤ zz10 ∧ zz10 ≤ 500 := (b0_41 hT :); have ob42 : ((-1) : Int) ≤ (th 42) ∧ (th 42) ≤ 500 := (b0_42 hT :); have ob43 : ((-1) : Int) ≤ (th 43) ∧ (th 43) ≤ 1 := (b0_43 hT :); obtain ⟨o0a, o0b⟩ := (hy32_l2 : In _ _ _); obtain ⟨o1a, o1b⟩ := (hv2_17 : In _ _ _); obtain ⟨o2a, o2b⟩ := (hv3_17 : In _ _ _); obtain ⟨o3a, o3b⟩ := (hv4_17 : In _ _ _); obtain ⟨o4a, o4b⟩ := (hv5_17 : In _ _ _); obtain ⟨o5a, o5b⟩ := (hv6_17 : In _ _ _); obtain ⟨o6a, o6b⟩ := (hv8_17 : In _ _ _); obtain ⟨o7a, o7b⟩ := (hv9_17 : In _ _ _); obtain ⟨o8a, o8b⟩ := (hv13_17 : In _ _ _); obtain ⟨o10a, o10b⟩ := (hy32_l1 : In _ _ _); obtain ⟨o11a, o11b⟩ := (hy29_s0 : In _ _ _); omega)
          refine lv_iload_n hx hb dX11_liars_113 rfl (lv_at hl 1 rfl) ?_
          refine lv_if_ne (tgt := 125) hx hb dX11_liars_114 (by decide) (fun c19 => ?_) (fun c19 => ?_)
          ·
            have oc0 : (0 : Int32).toInt = 0 := by decide
            have cc20 : y32_l1.toInt ≠ (0 : Int32).toInt := i32_ne c19
            have hb21 : In y32_l1 1 1 := In.ne1 hy32_l1 (⟨by decide, by decide⟩ : In 0 0 0) cc20 (by decide) (by decide)
            exact ret_v hx hb hr hlocks hP hD hS (Nat.le_of_ble_eq_true rfl) (Nat.le_of_ble_eq_true rfl) (⟨rfl, ⟨zz8, zz9, zz10, (th 42), zg32_zf, ⟨(show th 37 ≤ zz8 ∧ zz8 ≤ 500 from (by have ob13 : (0 : Int) ≤ (th 13) ∧ (th 13) ≤ 500 := (b0_13 hT :); have ob35 : (0 : Int) ≤ (th 35) ∧ (th 35) ≤ 63 := (b0_35 hT :); have ob36 : (0 : Int) ≤ (th 36) ∧ (th 36) ≤ 20 := (b0_36 hT :); have ob37 : (0 : Int) ≤ zz8 ∧ zz8 ≤ 500 := (b0_37 hT :); have ob40 : (0 : Int) ≤ zz9 ∧ zz9 ≤ 500 := (b0_40 hT :); have ob41 : (0 : Int) ≤ zz10 ∧ zz10 ≤ 500 := (b0_41 hT :); have ob42 : ((-1) : Int) ≤ (th 42) ∧ (th 42) ≤ 500 := (b0_42 hT :); have ob43 : ((-1) : Int) ≤ (th 43) ∧ (th 43) ≤ 1 := (b0_43 hT :); obtain ⟨o0a, o0b⟩ := (hv2_17 : In _ _ _); obtain ⟨o1a, o1b⟩ := (hv3_17 : In _ _ _); obtain ⟨o2a, o2b⟩ := (hv4_17 : In _ _ _); obtain ⟨o3a, o3b⟩ := (hv5_17 : In _ _ _); obtain ⟨o4a, o4b⟩ := (hv6_17 : In _ _ _); obtain ⟨o5a, o5b⟩ := (hv8_17 : In _ _ _); obtain ⟨o6a, o6b⟩ := (hv9_17 : In _ _ _); obtain ⟨o7a, o7b⟩ := (hv13_17 : In _ _ _); omega)), hcapf⟩, TI.cast hT (by funext q; by_cases hq0 : q = 34; (subst hq0; rfl); by_cases hq1 : q = 41; (subst hq1; rfl); by_cases hq2 : q = 40; (subst hq2; rfl); by_cases hq3 : q = 37; (subst hq3; rfl); by_cases hq4 : q = 42; (subst hq4; rfl); simp only [gset, if_neg hq0, if_neg hq1, if_neg hq2, if_neg hq3, if_neg hq4])⟩, hfr⟩) dX11_liars_125
          ·
            have oc0 : (0 : Int32).toInt = 0 := by decide
            have cc22 : y32_l1.toInt = (0 : Int32).toInt := congrArg Int32.toInt c19
            have hb23 : In y32_l1 0 0 := In.eq1 hy32_l1 (⟨by decide, by decide⟩ : In 0 0 0) cc22 (by decide) (by decide)
            refine lv_aload_n hx hb dX11_liars_117 rfl (lv_at hl 0 rfl) ?_
            refine lv_aload_n hx hb dX11_liars_118 rfl (lv_at hl 0 rfl) ?_
            refine pl_get (v := .int v5_17) hx hb hts (fun w h => mT (inX11 w h)) hown hG.1 hP (hst.1 255 (by decide)) hf18 rfl 5 (by decide) (hts _ (mT wg_1341)) (fun _ h => h) rfl dX11_liars_119 ?_
            have hg5_17 : v5_17.toInt = zz9 := hg5_17
            refine call_v (run_V (rm := rm_X11_fails) hx hb hml hown hts (s_X11_fails l g ad (gset (gset (gset (gset th 37 zz8) 40 zz9) 41 zz10) 34 zg32_zf) _ _ _ v5_17 hst hT hv5_17) cV_X11_fails wg_1545 ⟨Nat.le_of_ble_eq_true rfl, Nat.le_of_ble_eq_true rfl⟩ hG hE hA hP hD hS (hst.1 255 (by decide)) hf18 rfl rfl hl.1 (As := [.int v5_17]) (rest := []) rfl (Nat.le_of_ble_eq_true rfl) dX11_liars_122 ⟨Nat.le_of_ble_eq_true rfl, Nat.le_of_ble_eq_true rfl⟩) hA hD hS (fun L25 f26 H locs hp27 hP hD hS => ?_)
            obtain ⟨eL28L, eL28T, eL28F⟩ := hp27
            have eL28L : L25 = L := eL28L
            rw [eL28L] at hP hD
            obtain ⟨zz29, hzz29, eL28T⟩ := eL28T
            have hzz29 : 0 ≤ zz29 := hzz29
            have hT : TI g ad (gset (gset (gset (gset (gset th 37 zz8) 40 zz9) 41 zz10) 34 zg32_zf) 42 zz29) f26 := eL28T
            have eL28F : ∀ b, b ≠ (ad 255) → f26 b = f_32 b := eL28F
            have hf30 := (eL28F (ad 256) (hst.ne (by decide) (by decide) (by decide))).trans hf16
            have hfr : (∀ b, b ≠ (ad 255) → b ≠ (ad 257) → f26 b = f b) := fun b z0_ z1_ => (eL28F b z0_).trans (hfr b z0_ z1_)
            exact ret_v hx hb hr hlocks hP hD hS (Nat.le_of_ble_eq_true rfl) (Nat.le_of_ble_eq_true rfl) (⟨rfl, ⟨zz8, zz9, zz10, zz29, zg32_zf, ⟨(show th 37 ≤ zz8 ∧ zz8 ≤ 500 from (by have ob13 : (0 : Int) ≤ (th 13) ∧ (th 13) ≤ 500 := (b0_13 hT :); have ob35 : (0 : Int) ≤ (th 35) ∧ (th 35) ≤ 63 := (b0_35 hT :); have ob36 : (0 : Int) ≤ (th 36) ∧ (th 36) ≤ 20 := (b0_36 hT :); have ob37 : (0 : Int) ≤ zz8 ∧ zz8 ≤ 500 := (b0_37 hT :); have ob40 : (0 : Int) ≤ zz9 ∧ zz9 ≤ 500 := (b0_40 hT :); have ob41 : (0 : Int) ≤ zz10 ∧ zz10 ≤ 500 := (b0_41 hT :); have ob42 : ((-1) : Int) ≤ zz29 ∧ zz29 ≤ 500 := (b0_42 hT :); have ob43 : ((-1) : Int) ≤ (th 43) ∧ (th 43) ≤ 1 := (b0_43 hT :); omega)), hcapf⟩, TI.cast hT (by funext q; by_cases hq0 : q = 42; (subst hq0; rfl); by_cases hq1 : q = 34; (subst hq1; rfl); by_cases hq2 : q = 41; (subst hq2; rfl); by_cases hq3 : q = 40; (subst hq3; rfl); by_cases hq4 : q = 37; (subst hq4; rfl); simp only [gset, if_neg hq0, if_neg hq1, if_neg hq2, if_neg hq3, if_neg hq4])⟩, hfr⟩) dX11_liars_125
        refine lv_icmp_ge (tgt := 113) hx hb dX11_liars_37 (by decide) (fun c31 => ?_) (fun c31 => ?_)
        ·
          have cc32 : v6_17.toInt ≤ y32_l2.toInt := i32_le.mp c31
          exact hJ113 _ _ _ hP hD hS (lv_sub hl [0, 1, 2] rfl)
        ·
          have cc33 : y32_l2.toInt < v6_17.toInt := i32_nle c31
          have hb34 : In y32_l2 0 499 := In.lt1 hy32_l2 hv6_17 cc33 (by decide) (by decide)
          have hb35 : In v6_17 1 500 := In.lt2 hy32_l2 hv6_17 cc33 (by decide) (by decide)
          refine lv_iload_n hx hb dX11_liars_40 rfl (lv_at hl 1 rfl) ?_
          refine lv_if_eq (tgt := 113) hx hb dX11_liars_41 (by decide) (fun c36 => ?_) (fun c36 => ?_)
          ·
            have oc0 : (0 : Int32).toInt = 0 := by decide
            have cc37 : y32_l1.toInt = (0 : Int32).toInt := congrArg Int32.toInt c36
            have hb38 : In y32_l1 0 0 := In.eq1 hy32_l1 (⟨by decide, by decide⟩ : In 0 0 0) cc37 (by decide) (by decide)
            exact hJ113 _ _ _ hP hD hS (lv_sub hl [0, 1, 2] rfl)
          ·
            have oc0 : (0 : Int32).toInt = 0 := by decide
            have cc39 : y32_l1.toInt ≠ (0 : Int32).toInt := i32_ne c36
            have hb40 : In y32_l1 1 1 := In.ne1 hy32_l1 (⟨by decide, by decide⟩ : In 0 0 0) cc39 (by decide) (by decide)
            refine lv_aload_n hx hb dX11_liars_44 rfl (lv_at hl 0 rfl) ?_
            refine lv_iload_n hx hb dX11_liars_45 rfl (lv_at hl 2 rfl) ?_
            refine call_i (run_V (rm := rm_X11_digitAt) hx hb hml hown hts (s_X11_digitAt l g ad (gset (gset (gset (gset th 37 zz8) 40 zz9) 41 zz10) 34 zg32_zf) _ _ _ y32_l2 hst hT hb34 (show zz9 + y32_l2.toInt < 500 from (by have ob13 : (0 : Int) ≤ (th 13) ∧ (th 13) ≤ 500 := (b0_13 hT :); have ob35 : (0 : Int) ≤ (th 35) ∧ (th 35) ≤ 63 := (b0_35 hT :); have ob36 : (0 : Int) ≤ (th 36) ∧ (th 36) ≤ 20 := (b0_36 hT :); have ob37 : (0 : Int) ≤ zz8 ∧ zz8 ≤ 500 := (b0_37 hT :); have ob40 : (0 : Int) ≤ zz9 ∧ zz9 ≤ 500 := (b0_40 hT :); have ob41 : (0 : Int) ≤ zz10 ∧ zz10 ≤ 500 := (b0_41 hT :); have ob42 : ((-1) : Int) ≤ (th 42) ∧ (th 42) ≤ 500 := (b0_42 hT :); have ob43 : ((-1) : Int) ≤ (th 43) ∧ (th 43) ≤ 1 := (b0_43 hT :); obtain ⟨o0a, o0b⟩ := (hb34 : In _ _ _); obtain ⟨o1a, o1b⟩ := (hv2_17 : In _ _ _); obtain ⟨o2a, o2b⟩ := (hv3_17 : In _ _ _); obtain ⟨o3a, o3b⟩ := (hv4_17 : In _ _ _); obtain ⟨o4a, o4b⟩ := (hv5_17 : In _ _ _); obtain ⟨o5a, o5b⟩ := (hb35 : In _ _ _); obtain ⟨o6a, o6b⟩ := (hv8_17 : In _ _ _); obtain ⟨o7a, o7b⟩ := (hv9_17 : In _ _ _); obtain ⟨o8a, o8b⟩ := (hv13_17 : In _ _ _); obtain ⟨o10a, o10b⟩ := (hb40 : In _ _ _); obtain ⟨o11a, o11b⟩ := (hy29_s0 : In _ _ _); omega))) cV_X11_digitAt wg_1577 ⟨Nat.le_of_ble_eq_true rfl, Nat.le_of_ble_eq_true rfl⟩ hG hE hA hP hD hS (hst.1 255 (by decide)) hf18 rfl rfl hl.1 (As := [.int y32_l2]) (rest := []) rfl (Nat.le_of_ble_eq_true rfl) dX11_liars_46 ⟨Nat.le_of_ble_eq_true rfl, Nat.le_of_ble_eq_true rfl⟩) hA hD hS (fun r41 L42 f43 H locs hp44 hP hD hS => ?_)
            obtain ⟨eL45L, eL45T, eL45R, eL45X0⟩ := hp44
            have eL45L : L42 = L := eL45L
            have eL45T : f43 = f_32 := eL45T
            rw [eL45L, eL45T] at hP hD
            have eL45R : In r41 (-176) 79 := eL45R
            have hda46 : r41.toInt = (rw11 (zz9 + y32_l2.toInt).toNat).toInt - 48 := (eL45X0 _ hf16)
            refine lv_aload_n hx hb dX11_liars_49 rfl (lv_at hl 0 rfl) ?_
            refine pl_get (v := .ref (ad 257)) hx hb hts (fun w h => mT (inX11 w h)) hown hG.1 hP (hst.1 255 (by decide)) hf18 rfl 7 (by decide) (hts _ (mT wg_1343)) (fun _ h => h) rfl dX11_liars_50 ?_
            refine lv_iconst (v := 0) hx hb dX11_liars_53 (by decide) ?_
            obtain ⟨rw47, hf48, hpn49, hpg50, hpn51, hpn52, hpn53, hpg54⟩ := hT.2.2 2 (by decide)
            have hin55 : vp_in 0 6 := In.inb (⟨by decide, by decide⟩ : In 0 0 0) (by decide) (by decide)
            refine pl_iald hx hb hG.1 hP (hst.1 257 (by decide)) 0 hf48 rfl hin55 dX11_liars_54 ?_
            refine lv_topi (fun x56 ex56 => ?_)
            have hb57 : In x56 0 9 := by rw [ex56]; exact pinI (k := 0) (by decide) hpn49
            have hgl58 : x56.toInt = th 30 := by rw [ex56]; exact pinE (k := 0) (by decide) hpg50
            have hJ82 : ∀ (y82_s0 : Int32) (H : Heap) (locs : List Loc) (ls : Array Slot), In y82_s0 0 1 → va_P g.1 vwCl (va_pl L f_32) H → va_D A (va_pl L f_32) → va_S A s.heap H locs → (y82_s0.toInt = 0 ∨ (rw11 (zz9 + y32_l2.toInt).toNat).toInt - 48 < th 30) → lv_has ls 3 [(0, .ref (ad 255)), (1, .int y32_l1), (2, .int y32_l2)] → W p l e rm_X11_liars s m [.ref (ad 255)].toArray below meth c H locs 0 0 (MQ below (va_Qv (po_X11_liars g ad th L f ) (PstB g A) A) [.ref (ad 255)].toArray s rm_X11_liars.cells rm_X11_liars.slots A) (F0 m 82 ls [.int y82_s0]) := by
              intro y82_s0 H locs ls hy82_s0 hP hD hS hxi82_0 hl
              refine lv_istore_n (lv' := [(1, .int y82_s0), (0, .ref (ad 255)), (2, .int y32_l2)]) hx hb dX11_liars_82 rfl hl (by decide) rfl (fun ls hl => ?_)
              refine lv_aload_n hx hb dX11_liars_83 rfl (lv_at hl 1 rfl) ?_
              refine pl_get (v := .ref (ad 257)) hx hb hts (fun w h => mT (inX11 w h)) hown hG.1 hP (hst.1 255 (by decide)) hf18 rfl 7 (by decide) (hts _ (mT wg_1343)) (fun _ h => h) rfl dX11_liars_84 ?_
              refine lv_iconst (v := 4) hx hb dX11_liars_87 (by decide) ?_
              refine lv_dup2_11 hx hb dX11_liars_88 rfl rfl ?_
              have hin59 : vp_in 4 6 := In.inb (⟨by decide, by decide⟩ : In 4 4 4) (by decide) (by decide)
              refine pl_iald hx hb hG.1 hP (hst.1 257 (by decide)) 0 hf48 rfl hin59 dX11_liars_89 ?_
              refine lv_topi (fun x60 ex60 => ?_)
              have hb61 : In x60 0 511 := by rw [ex60]; exact pinI (k := 4) (by decide) hpn53
              have hgl62 : x60.toInt = zg32_zf := by rw [ex60]; exact pinE (k := 4) (by decide) hpg54
              refine lv_iload_n hx hb dX11_liars_90 rfl (lv_at hl 0 rfl) ?_
              refine lv_if_eq (tgt := 104) hx hb dX11_liars_91 (by decide) (fun c63 => ?_) (fun c63 => ?_)
              ·
                have oc0 : (0 : Int32).toInt = 0 := by decide
                have cc64 : y82_s0.toInt = (0 : Int32).toInt := congrArg Int32.toInt c63
                have hb65 : In y82_s0 0 0 := In.eq1 hy82_s0 (⟨by decide, by decide⟩ : In 0 0 0) cc64 (by decide) (by decide)
                refine lv_iconst (v := 0) hx hb dX11_liars_104 (by decide) ?_
                refine lv_ior hx hb dX11_liars_105 ?_
                refine lv_topi (fun x66 ex66 => ?_)
                have hb67 : In x66 0 511 := ex66 ▸ In.or 9 hb61 (⟨by decide, by decide⟩ : In 0 0 0) (by decide) (by decide) (by decide) (by decide) (by decide)
                refine pl_iastE hx hb hG.1 hP hD hS (hst.1 257 (by decide)) 0 hf48 rfl (In.inb (⟨by decide, by decide⟩ : In 4 4 4) (by decide) (by decide)) dX11_liars_106 (fun H locs f68 r71 er71 hf69 ho70 hP hD hS => ?_)
                have hpn72 : In (r71 0) 0 9 := (upd_neI (k := 0) er71 (by decide)) ▸ hpn49
                have hpg73 := (congrArg Int32.toInt (upd_neI (k := 0) er71 (by decide))).trans hpg50
                have hpn74 : In (r71 1) 0 4 := (upd_neI (k := 1) er71 (by decide)) ▸ hpn51
                have hpn75 : In (r71 2) 0 6 := (upd_neI (k := 2) er71 (by decide)) ▸ hpn52
                have hpn76 : In (r71 4) 0 511 := (upd_eqI (k := 4) er71 (by decide)) ▸ hb67
                have hpg77 : (r71 4).toInt = x66.toInt := congrArg Int32.toInt (upd_eqI (k := 4) er71 (by decide))
                have hf78 := (ho70 (ad 256) (hst.ne (by decide) (by decide) (by decide))).trans hf16
                have hf79 := (ho70 (ad 255) (hst.ne (by decide) (by decide) (by decide))).trans hf18
                have hfr : (∀ b, b ≠ (ad 255) → b ≠ (ad 257) → f68 b = f b) := fun b z0_ z1_ => (ho70 b z1_).trans (hfr b z0_ z1_)
                obtain ⟨x80, ex80⟩ : ∃ y : Int32, y = y32_l2 + 1 := ⟨_, rfl⟩
                have hb81 : In x80 1 500 := ex80 ▸ In.add hb34 (⟨by decide, by decide⟩ : In 1 1 1) (by decide) (by decide) (by decide) (by decide)
                have et82 : x80.toInt = y32_l2.toInt + 1 := In.adde ex80 hb34 (k := 1) (by decide) (by decide) (by decide)
                refine lv_iinc (v := x80) (lv' := [(2, .int x80), (1, .int y82_s0), (0, .ref (ad 255))]) hx hb dX11_liars_107 hl (k := 2) rfl (by rw [ex80]; rfl) (by decide) rfl (fun ls hl => ?_)
                have hT := TI.updMG (th' := (gset (gset (gset (gset (gset th 37 zz8) 40 zz9) 41 zz10) 34 zg32_zf) 34 (x66.toInt))) hT hst (k := 2) (by decide) hf69 ho70 ⟨r71, rfl, hpn72, (hpg73.trans rfl), hpn74, hpn75, hpn76, (hpg77.trans rfl)⟩ (fun q hq => ((gset_ne (fun e => hq (by subst e; decide))).trans rfl))
                have hT : TI g ad (gset (gset (gset (gset th 37 zz8) 40 zz9) 41 zz10) 34 x66.toInt) f68 := TI.cast hT (by funext q; by_cases hq0 : q = 34; (subst hq0; rfl); by_cases hq1 : q = 41; (subst hq1; rfl); by_cases hq2 : q = 40; (subst hq2; rfl); by_cases hq3 : q = 37; (subst hq3; rfl); simp only [gset, if_neg hq0, if_neg hq1, if_neg hq2, if_neg hq3])
                refine lv_goto (tgt := 32) hx hb dX11_liars_110 (by decide) ?_
                exact ih32 x66.toInt y82_s0 x80 _ _ _ _ (by rw [et82, show x66 = x60 by rw [ex66]; exact or0 _, hgl62]; exact ⟨hzg32.1, hzg32.2.1, by have := hzg32.2.2; omega⟩) (In.mono hb65 (by decide) (by decide)) (In.mono hb81 (by decide) (by decide)) hP hD hS (TI.cast hT (by funext q; by_cases hq0 : q = 34; (subst hq0; rfl); by_cases hq1 : q = 41; (subst hq1; rfl); by_cases hq2 : q = 40; (subst hq2; rfl); by_cases hq3 : q = 37; (subst hq3; rfl); simp only [gset, if_neg hq0, if_neg hq1, if_neg hq2, if_neg hq3])) hfr hf78 (by have ob13 : (0 : Int) ≤ (th 13) ∧ (th 13) ≤ 500 := (b0_13 hT :); have ob35 : (0 : Int) ≤ (th 35) ∧ (th 35) ≤ 63 := (b0_35 hT :); have ob36 : (0 : Int) ≤ (th 36) ∧ (th 36) ≤ 20 := (b0_36 hT :); have ob37 : (0 : Int) ≤ zz8 ∧ zz8 ≤ 500 := (b0_37 hT :); have ob40 : (0 : Int) ≤ zz9 ∧ zz9 ≤ 500 := (b0_40 hT :); have ob41 : (0 : Int) ≤ zz10 ∧ zz10 ≤ 500 := (b0_41 hT :); have ob42 : ((-1) : Int) ≤ (th 42) ∧ (th 42) ≤ 500 := (b0_42 hT :); have ob43 : ((-1) : Int) ≤ (th 43) ∧ (th 43) ≤ 1 := (b0_43 hT :); obtain ⟨o0a, o0b⟩ := (hb81 : In _ _ _); obtain ⟨o2a, o2b⟩ := (hb34 : In _ _ _); obtain ⟨o3a, o3b⟩ := (hy29_s0 : In _ _ _); obtain ⟨o4a, o4b⟩ := (hb40 : In _ _ _); obtain ⟨o5a, o5b⟩ := (hb35 : In _ _ _); omega) (by have ob13 : (0 : Int) ≤ (th 13) ∧ (th 13) ≤ 500 := (b0_13 hT :); have ob35 : (0 : Int) ≤ (th 35) ∧ (th 35) ≤ 63 := (b0_35 hT :); have ob36 : (0 : Int) ≤ (th 36) ∧ (th 36) ≤ 20 := (b0_36 hT :); have ob37 : (0 : Int) ≤ zz8 ∧ zz8 ≤ 500 := (b0_37 hT :); have ob40 : (0 : Int) ≤ zz9 ∧ zz9 ≤ 500 := (b0_40 hT :); have ob41 : (0 : Int) ≤ zz10 ∧ zz10 ≤ 500 := (b0_41 hT :); have ob42 : ((-1) : Int) ≤ (th 42) ∧ (th 42) ≤ 500 := (b0_42 hT :); have ob43 : ((-1) : Int) ≤ (th 43) ∧ (th 43) ≤ 1 := (b0_43 hT :); obtain ⟨o0a, o0b⟩ := (hb65 : In _ _ _); obtain ⟨o1a, o1b⟩ := (hb81 : In _ _ _); obtain ⟨o3a, o3b⟩ := (hb34 : In _ _ _); obtain ⟨o4a, o4b⟩ := (hy29_s0 : In _ _ _); obtain ⟨o5a, o5b⟩ := (hb40 : In _ _ _); obtain ⟨o6a, o6b⟩ := (hb35 : In _ _ _); omega) (lv_sub hl [2, 1, 0] rfl) (msu et82 (by decide) hmz32)
              ·
                have oc0 : (0 : Int32).toInt = 0 := by decide
                have cc83 : y82_s0.toInt ≠ (0 : Int32).toInt := i32_ne c63
                have hb84 : In y82_s0 1 1 := In.ne1 hy82_s0 (⟨by decide, by decide⟩ : In 0 0 0) cc83 (by decide) (by decide)
                refine lv_iconst (v := 1) hx hb dX11_liars_94 (by decide) ?_
                refine lv_aload_n hx hb dX11_liars_95 rfl (lv_at hl 1 rfl) ?_
                refine lv_iload_n hx hb dX11_liars_96 rfl (lv_at hl 2 rfl) ?_
                refine call_i (run_V (rm := rm_X11_digitAt) hx hb hml hown hts (s_X11_digitAt l g ad (gset (gset (gset (gset th 37 zz8) 40 zz9) 41 zz10) 34 zg32_zf) _ _ _ y32_l2 hst hT hb34 (show zz9 + y32_l2.toInt < 500 from (by have ob13 : (0 : Int) ≤ (th 13) ∧ (th 13) ≤ 500 := (b0_13 hT :); have ob35 : (0 : Int) ≤ (th 35) ∧ (th 35) ≤ 63 := (b0_35 hT :); have ob36 : (0 : Int) ≤ (th 36) ∧ (th 36) ≤ 20 := (b0_36 hT :); have ob37 : (0 : Int) ≤ zz8 ∧ zz8 ≤ 500 := (b0_37 hT :); have ob40 : (0 : Int) ≤ zz9 ∧ zz9 ≤ 500 := (b0_40 hT :); have ob41 : (0 : Int) ≤ zz10 ∧ zz10 ≤ 500 := (b0_41 hT :); have ob42 : ((-1) : Int) ≤ (th 42) ∧ (th 42) ≤ 500 := (b0_42 hT :); have ob43 : ((-1) : Int) ≤ (th 43) ∧ (th 43) ≤ 1 := (b0_43 hT :); obtain ⟨o0a, o0b⟩ := (hb34 : In _ _ _); obtain ⟨o1a, o1b⟩ := (hv2_17 : In _ _ _); obtain ⟨o2a, o2b⟩ := (hv3_17 : In _ _ _); obtain ⟨o3a, o3b⟩ := (hv4_17 : In _ _ _); obtain ⟨o4a, o4b⟩ := (hv5_17 : In _ _ _); obtain ⟨o5a, o5b⟩ := (hb35 : In _ _ _); obtain ⟨o6a, o6b⟩ := (hv8_17 : In _ _ _); obtain ⟨o7a, o7b⟩ := (hv9_17 : In _ _ _); obtain ⟨o8a, o8b⟩ := (hv13_17 : In _ _ _); obtain ⟨o10a, o10b⟩ := (hb40 : In _ _ _); obtain ⟨o11a, o11b⟩ := (hy29_s0 : In _ _ _); omega))) cV_X11_digitAt wg_1577 ⟨Nat.le_of_ble_eq_true rfl, Nat.le_of_ble_eq_true rfl⟩ hG hE hA hP hD hS (hst.1 255 (by decide)) hf18 rfl rfl hl.1 (As := [.int y32_l2]) (rest := [.int 1, .int x60, .int 4, .ref (ad 257)]) rfl (Nat.le_of_ble_eq_true rfl) dX11_liars_97 ⟨Nat.le_of_ble_eq_true rfl, Nat.le_of_ble_eq_true rfl⟩) hA hD hS (fun r85 L86 f87 H locs hp88 hP hD hS => ?_)
                obtain ⟨eL89L, eL89T, eL89R, eL89X0⟩ := hp88
                have eL89L : L86 = L := eL89L
                have eL89T : f87 = f_32 := eL89T
                rw [eL89L, eL89T] at hP hD
                have eL89R : In r85 (-176) 79 := eL89R
                have hda90 : r85.toInt = (rw11 (zz9 + y32_l2.toInt).toNat).toInt - 48 := (eL89X0 _ hf16)
                have hcd91 := hcont (zz9 + y32_l2.toInt).toNat (by have ob13 : (0 : Int) ≤ (th 13) ∧ (th 13) ≤ 500 := (b0_13 hT :); have ob35 : (0 : Int) ≤ (th 35) ∧ (th 35) ≤ 63 := (b0_35 hT :); have ob36 : (0 : Int) ≤ (th 36) ∧ (th 36) ≤ 20 := (b0_36 hT :); have ob37 : (0 : Int) ≤ zz8 ∧ zz8 ≤ 500 := (b0_37 hT :); have ob40 : (0 : Int) ≤ zz9 ∧ zz9 ≤ 500 := (b0_40 hT :); have ob41 : (0 : Int) ≤ zz10 ∧ zz10 ≤ 500 := (b0_41 hT :); have ob42 : ((-1) : Int) ≤ (th 42) ∧ (th 42) ≤ 500 := (b0_42 hT :); have ob43 : ((-1) : Int) ≤ (th 43) ∧ (th 43) ≤ 1 := (b0_43 hT :); obtain ⟨o0a, o0b⟩ := (hb34 : In _ _ _); obtain ⟨o1a, o1b⟩ := (hv2_17 : In _ _ _); obtain ⟨o2a, o2b⟩ := (hv3_17 : In _ _ _); obtain ⟨o3a, o3b⟩ := (hv4_17 : In _ _ _); obtain ⟨o4a, o4b⟩ := (hv5_17 : In _ _ _); obtain ⟨o5a, o5b⟩ := (hb35 : In _ _ _); obtain ⟨o6a, o6b⟩ := (hv8_17 : In _ _ _); obtain ⟨o7a, o7b⟩ := (hv9_17 : In _ _ _); obtain ⟨o8a, o8b⟩ := (hv13_17 : In _ _ _); obtain ⟨o10a, o10b⟩ := (hb40 : In _ _ _); obtain ⟨o11a, o11b⟩ := (hy29_s0 : In _ _ _); omega) (by have ob13 : (0 : Int) ≤ (th 13) ∧ (th 13) ≤ 500 := (b0_13 hT :); have ob35 : (0 : Int) ≤ (th 35) ∧ (th 35) ≤ 63 := (b0_35 hT :); have ob36 : (0 : Int) ≤ (th 36) ∧ (th 36) ≤ 20 := (b0_36 hT :); have ob37 : (0 : Int) ≤ zz8 ∧ zz8 ≤ 500 := (b0_37 hT :); have ob40 : (0 : Int) ≤ zz9 ∧ zz9 ≤ 500 := (b0_40 hT :); have ob41 : (0 : Int) ≤ zz10 ∧ zz10 ≤ 500 := (b0_41 hT :); have ob42 : ((-1) : Int) ≤ (th 42) ∧ (th 42) ≤ 500 := (b0_42 hT :); have ob43 : ((-1) : Int) ≤ (th 43) ∧ (th 43) ≤ 1 := (b0_43 hT :); obtain ⟨o0a, o0b⟩ := (hb34 : In _ _ _); obtain ⟨o1a, o1b⟩ := (hv2_17 : In _ _ _); obtain ⟨o2a, o2b⟩ := (hv3_17 : In _ _ _); obtain ⟨o3a, o3b⟩ := (hv4_17 : In _ _ _); obtain ⟨o4a, o4b⟩ := (hv5_17 : In _ _ _); obtain ⟨o5a, o5b⟩ := (hb35 : In _ _ _); obtain ⟨o6a, o6b⟩ := (hv8_17 : In _ _ _); obtain ⟨o7a, o7b⟩ := (hv9_17 : In _ _ _); obtain ⟨o8a, o8b⟩ := (hv13_17 : In _ _ _); obtain ⟨o10a, o10b⟩ := (hb40 : In _ _ _); obtain ⟨o11a, o11b⟩ := (hy29_s0 : In _ _ _); omega)
                obtain ⟨hcd91a, hcd91b⟩ := hcd91
                have hb92 : In r85 0 8 := In.mk (by have ob13 : (0 : Int) ≤ (th 13) ∧ (th 13) ≤ 500 := (b0_13 hT :); have ob35 : (0 : Int) ≤ (th 35) ∧ (th 35) ≤ 63 := (b0_35 hT :); have ob36 : (0 : Int) ≤ (th 36) ∧ (th 36) ≤ 20 := (b0_36 hT :); have ob37 : (0 : Int) ≤ zz8 ∧ zz8 ≤ 500 := (b0_37 hT :); have ob40 : (0 : Int) ≤ zz9 ∧ zz9 ≤ 500 := (b0_40 hT :); have ob41 : (0 : Int) ≤ zz10 ∧ zz10 ≤ 500 := (b0_41 hT :); have ob42 : ((-1) : Int) ≤ (th 42) ∧ (th 42) ≤ 500 := (b0_42 hT :); have ob43 : ((-1) : Int) ≤ (th 43) ∧ (th 43) ≤ 1 := (b0_43 hT :); obtain ⟨o0a, o0b⟩ := (eL89R : In _ _ _); obtain ⟨o1a, o1b⟩ := (hb34 : In _ _ _); obtain ⟨o2a, o2b⟩ := (hv2_17 : In _ _ _); obtain ⟨o3a, o3b⟩ := (hv3_17 : In _ _ _); obtain ⟨o4a, o4b⟩ := (hv4_17 : In _ _ _); obtain ⟨o5a, o5b⟩ := (hv5_17 : In _ _ _); obtain ⟨o6a, o6b⟩ := (hb35 : In _ _ _); obtain ⟨o7a, o7b⟩ := (hv8_17 : In _ _ _); obtain ⟨o8a, o8b⟩ := (hv9_17 : In _ _ _); obtain ⟨o9a, o9b⟩ := (hv13_17 : In _ _ _); obtain ⟨o11a, o11b⟩ := (hb40 : In _ _ _); obtain ⟨o12a, o12b⟩ := (hy29_s0 : In _ _ _); omega) (by have ob13 : (0 : Int) ≤ (th 13) ∧ (th 13) ≤ 500 := (b0_13 hT :); have ob35 : (0 : Int) ≤ (th 35) ∧ (th 35) ≤ 63 := (b0_35 hT :); have ob36 : (0 : Int) ≤ (th 36) ∧ (th 36) ≤ 20 := (b0_36 hT :); have ob37 : (0 : Int) ≤ zz8 ∧ zz8 ≤ 500 := (b0_37 hT :); have ob40 : (0 : Int) ≤ zz9 ∧ zz9 ≤ 500 := (b0_40 hT :); have ob41 : (0 : Int) ≤ zz10 ∧ zz10 ≤ 500 := (b0_41 hT :); have ob42 : ((-1) : Int) ≤ (th 42) ∧ (th 42) ≤ 500 := (b0_42 hT :); have ob43 : ((-1) : Int) ≤ (th 43) ∧ (th 43) ≤ 1 := (b0_43 hT :); obtain ⟨o0a, o0b⟩ := (eL89R : In _ _ _); obtain ⟨o1a, o1b⟩ := (hb34 : In _ _ _); obtain ⟨o2a, o2b⟩ := (hv2_17 : In _ _ _); obtain ⟨o3a, o3b⟩ := (hv3_17 : In _ _ _); obtain ⟨o4a, o4b⟩ := (hv4_17 : In _ _ _); obtain ⟨o5a, o5b⟩ := (hv5_17 : In _ _ _); obtain ⟨o6a, o6b⟩ := (hb35 : In _ _ _); obtain ⟨o7a, o7b⟩ := (hv8_17 : In _ _ _); obtain ⟨o8a, o8b⟩ := (hv9_17 : In _ _ _); obtain ⟨o9a, o9b⟩ := (hv13_17 : In _ _ _); obtain ⟨o11a, o11b⟩ := (hb40 : In _ _ _); obtain ⟨o12a, o12b⟩ := (hy29_s0 : In _ _ _); omega)
                refine lv_ishl hx hb dX11_liars_100 ?_
                refine lv_topi (fun x93 ex93 => ?_)
                have hb94 : In x93 1 256 := ex93 ▸ In.shl (⟨by decide, by decide⟩ : In 1 1 1) hb92 (by decide) (by decide) (by decide) (by decide) (by decide) (by decide)
                refine lv_goto (tgt := 105) hx hb dX11_liars_101 (by decide) ?_
                refine lv_ior hx hb dX11_liars_105 ?_
                refine lv_topi (fun x95 ex95 => ?_)
                have hb96 : In x95 0 511 := ex95 ▸ In.or 9 hb61 hb94 (by decide) (by decide) (by decide) (by decide) (by decide)
                refine pl_iastE hx hb hG.1 hP hD hS (hst.1 257 (by decide)) 0 hf48 rfl (In.inb (⟨by decide, by decide⟩ : In 4 4 4) (by decide) (by decide)) dX11_liars_106 (fun H locs f97 r100 er100 hf98 ho99 hP hD hS => ?_)
                have hpn101 : In (r100 0) 0 9 := (upd_neI (k := 0) er100 (by decide)) ▸ hpn49
                have hpg102 := (congrArg Int32.toInt (upd_neI (k := 0) er100 (by decide))).trans hpg50
                have hpn103 : In (r100 1) 0 4 := (upd_neI (k := 1) er100 (by decide)) ▸ hpn51
                have hpn104 : In (r100 2) 0 6 := (upd_neI (k := 2) er100 (by decide)) ▸ hpn52
                have hpn105 : In (r100 4) 0 511 := (upd_eqI (k := 4) er100 (by decide)) ▸ hb96
                have hpg106 : (r100 4).toInt = x95.toInt := congrArg Int32.toInt (upd_eqI (k := 4) er100 (by decide))
                have hf107 := (ho99 (ad 256) (hst.ne (by decide) (by decide) (by decide))).trans hf16
                have hf108 := (ho99 (ad 255) (hst.ne (by decide) (by decide) (by decide))).trans hf18
                have hfr : (∀ b, b ≠ (ad 255) → b ≠ (ad 257) → f97 b = f b) := fun b z0_ z1_ => (ho99 b z1_).trans (hfr b z0_ z1_)
                obtain ⟨x109, ex109⟩ : ∃ y : Int32, y = y32_l2 + 1 := ⟨_, rfl⟩
                have hb110 : In x109 1 500 := ex109 ▸ In.add hb34 (⟨by decide, by decide⟩ : In 1 1 1) (by decide) (by decide) (by decide) (by decide)
                have et111 : x109.toInt = y32_l2.toInt + 1 := In.adde ex109 hb34 (k := 1) (by decide) (by decide) (by decide)
                refine lv_iinc (v := x109) (lv' := [(2, .int x109), (1, .int y82_s0), (0, .ref (ad 255))]) hx hb dX11_liars_107 hl (k := 2) rfl (by rw [ex109]; rfl) (by decide) rfl (fun ls hl => ?_)
                have hT := TI.updMG (th' := (gset (gset (gset (gset (gset th 37 zz8) 40 zz9) 41 zz10) 34 zg32_zf) 34 (x95.toInt))) hT hst (k := 2) (by decide) hf98 ho99 ⟨r100, rfl, hpn101, (hpg102.trans rfl), hpn103, hpn104, hpn105, (hpg106.trans rfl)⟩ (fun q hq => ((gset_ne (fun e => hq (by subst e; decide))).trans rfl))
                have hT : TI g ad (gset (gset (gset (gset th 37 zz8) 40 zz9) 41 zz10) 34 x95.toInt) f97 := TI.cast hT (by funext q; by_cases hq0 : q = 34; (subst hq0; rfl); by_cases hq1 : q = 41; (subst hq1; rfl); by_cases hq2 : q = 40; (subst hq2; rfl); by_cases hq3 : q = 37; (subst hq3; rfl); simp only [gset, if_neg hq0, if_neg hq1, if_neg hq2, if_neg hq3])
                refine lv_goto (tgt := 32) hx hb dX11_liars_110 (by decide) ?_
                have hdz113 : r85.toInt < th 30 := (by have ob13 : (0 : Int) ≤ (th 13) ∧ (th 13) ≤ 500 := (b0_13 hT :); have ob35 : (0 : Int) ≤ (th 35) ∧ (th 35) ≤ 63 := (b0_35 hT :); have ob36 : (0 : Int) ≤ (th 36) ∧ (th 36) ≤ 20 := (b0_36 hT :); have ob37 : (0 : Int) ≤ zz8 ∧ zz8 ≤ 500 := (b0_37 hT :); have ob40 : (0 : Int) ≤ zz9 ∧ zz9 ≤ 500 := (b0_40 hT :); have ob41 : (0 : Int) ≤ zz10 ∧ zz10 ≤ 500 := (b0_41 hT :); have ob42 : ((-1) : Int) ≤ (th 42) ∧ (th 42) ≤ 500 := (b0_42 hT :); have ob43 : ((-1) : Int) ≤ (th 43) ∧ (th 43) ≤ 1 := (b0_43 hT :); obtain ⟨o0a, o0b⟩ := (hb92 : In _ _ _); omega)
                have hop112 := or_pc (n := th 30) (i := y32_l2.toInt) ex93 ex95 hb92 hl1.2 hdz113 ⟨by rw [hgl62]; exact hzg32.1, by rw [hgl62]; exact hzg32.2.1, by rw [hgl62]; exact hzg32.2.2⟩
                exact ih32 x95.toInt y82_s0 x109 _ _ _ _ (by rw [et111]; exact hop112) (In.mono hb84 (by decide) (by decide)) (In.mono hb110 (by decide) (by decide)) hP hD hS (TI.cast hT (by funext q; by_cases hq0 : q = 34; (subst hq0; rfl); by_cases hq1 : q = 41; (subst hq1; rfl); by_cases hq2 : q = 40; (subst hq2; rfl); by_cases hq3 : q = 37; (subst hq3; rfl); simp only [gset, if_neg hq0, if_neg hq1, if_neg hq2, if_neg hq3])) hfr hf107 (by have ob13 : (0 : Int) ≤ (th 13) ∧ (th 13) ≤ 500 := (b0_13 hT :); have ob35 : (0 : Int) ≤ (th 35) ∧ (th 35) ≤ 63 := (b0_35 hT :); have ob36 : (0 : Int) ≤ (th 36) ∧ (th 36) ≤ 20 := (b0_36 hT :); have ob37 : (0 : Int) ≤ zz8 ∧ zz8 ≤ 500 := (b0_37 hT :); have ob40 : (0 : Int) ≤ zz9 ∧ zz9 ≤ 500 := (b0_40 hT :); have ob41 : (0 : Int) ≤ zz10 ∧ zz10 ≤ 500 := (b0_41 hT :); have ob42 : ((-1) : Int) ≤ (th 42) ∧ (th 42) ≤ 500 := (b0_42 hT :); have ob43 : ((-1) : Int) ≤ (th 43) ∧ (th 43) ≤ 1 := (b0_43 hT :); obtain ⟨o0a, o0b⟩ := (hb110 : In _ _ _); obtain ⟨o2a, o2b⟩ := (hb34 : In _ _ _); obtain ⟨o3a, o3b⟩ := (hy29_s0 : In _ _ _); obtain ⟨o4a, o4b⟩ := (hb40 : In _ _ _); obtain ⟨o5a, o5b⟩ := (hb35 : In _ _ _); omega) (by have ob13 : (0 : Int) ≤ (th 13) ∧ (th 13) ≤ 500 := (b0_13 hT :); have ob35 : (0 : Int) ≤ (th 35) ∧ (th 35) ≤ 63 := (b0_35 hT :); have ob36 : (0 : Int) ≤ (th 36) ∧ (th 36) ≤ 20 := (b0_36 hT :); have ob37 : (0 : Int) ≤ zz8 ∧ zz8 ≤ 500 := (b0_37 hT :); have ob40 : (0 : Int) ≤ zz9 ∧ zz9 ≤ 500 := (b0_40 hT :); have ob41 : (0 : Int) ≤ zz10 ∧ zz10 ≤ 500 := (b0_41 hT :); have ob42 : ((-1) : Int) ≤ (th 42) ∧ (th 42) ≤ 500 := (b0_42 hT :); have ob43 : ((-1) : Int) ≤ (th 43) ∧ (th 43) ≤ 1 := (b0_43 hT :); obtain ⟨o0a, o0b⟩ := (hb84 : In _ _ _); obtain ⟨o1a, o1b⟩ := (hb110 : In _ _ _); obtain ⟨o3a, o3b⟩ := (hb34 : In _ _ _); obtain ⟨o4a, o4b⟩ := (hy29_s0 : In _ _ _); obtain ⟨o5a, o5b⟩ := (hb40 : In _ _ _); obtain ⟨o6a, o6b⟩ := (hb35 : In _ _ _); omega) (lv_sub hl [2, 1, 0] rfl) (msu et111 (by decide) hmz32)
            have hJ81 : ∀ (H : Heap) (locs : List Loc) (ls : Array Slot), va_P g.1 vwCl (va_pl L f_32) H → va_D A (va_pl L f_32) → va_S A s.heap H locs → lv_has ls 3 [(0, .ref (ad 255)), (1, .int y32_l1), (2, .int y32_l2)] → W p l e rm_X11_liars s m [.ref (ad 255)].toArray below meth c H locs 0 0 (MQ below (va_Qv (po_X11_liars g ad th L f ) (PstB g A) A) [.ref (ad 255)].toArray s rm_X11_liars.cells rm_X11_liars.slots A) (F0 m 81 ls []) := by
              intro H locs ls hP hD hS hl
              refine lv_iconst (v := 0) hx hb dX11_liars_81 (by decide) ?_
              exact hJ82 0 _ _ _ (⟨by decide, by decide⟩ : In 0 0 1) hP hD hS (by have ob13 : (0 : Int) ≤ (th 13) ∧ (th 13) ≤ 500 := (b0_13 hT :); have ob35 : (0 : Int) ≤ (th 35) ∧ (th 35) ≤ 63 := (b0_35 hT :); have ob36 : (0 : Int) ≤ (th 36) ∧ (th 36) ≤ 20 := (b0_36 hT :); have ob37 : (0 : Int) ≤ zz8 ∧ zz8 ≤ 500 := (b0_37 hT :); have ob40 : (0 : Int) ≤ zz9 ∧ zz9 ≤ 500 := (b0_40 hT :); have ob41 : (0 : Int) ≤ zz10 ∧ zz10 ≤ 500 := (b0_41 hT :); have ob42 : ((-1) : Int) ≤ (th 42) ∧ (th 42) ≤ 500 := (b0_42 hT :); have ob43 : ((-1) : Int) ≤ (th 43) ∧ (th 43) ≤ 1 := (b0_43 hT :); have oc0 : (0 : Int32).toInt = 0 := (by decide); obtain ⟨o0a, o0b⟩ := (hv2_17 : In _ _ _); obtain ⟨o1a, o1b⟩ := (hv3_17 : In _ _ _); obtain ⟨o2a, o2b⟩ := (hv4_17 : In _ _ _); obtain ⟨o3a, o3b⟩ := (hv5_17 : In _ _ _); obtain ⟨o4a, o4b⟩ := (hb35 : In _ _ _); obtain ⟨o5a, o5b⟩ := (hv8_17 : In _ _ _); obtain ⟨o6a, o6b⟩ := (hv9_17 : In _ _ _); obtain ⟨o7a, o7b⟩ := (hv13_17 : In _ _ _); obtain ⟨o8a, o8b⟩ := (hb34 : In _ _ _); obtain ⟨o10a, o10b⟩ := (hb40 : In _ _ _); obtain ⟨o11a, o11b⟩ := (hy29_s0 : In _ _ _); omega) (lv_sub hl [0, 1, 2] rfl)
            refine lv_icmp_ge (tgt := 81) hx hb dX11_liars_55 (by decide) (fun c114 => ?_) (fun c114 => ?_)
            ·
              have cc115 : x56.toInt ≤ r41.toInt := i32_le.mp c114
              have hb116 : In r41 0 79 := In.ge1 eL45R hb57 cc115 (by decide) (by decide)
              exact hJ81 _ _ _ hP hD hS (lv_sub hl [0, 1, 2] rfl)
            ·
              have cc117 : r41.toInt < x56.toInt := i32_nle c114
              have hb118 : In r41 (-176) 8 := In.lt1 eL45R hb57 cc117 (by decide) (by decide)
              refine lv_iload_n hx hb dX11_liars_58 rfl (lv_at hl 2 rfl) ?_
              have hJ77 : ∀ (H : Heap) (locs : List Loc) (ls : Array Slot), va_P g.1 vwCl (va_pl L f_32) H → va_D A (va_pl L f_32) → va_S A s.heap H locs → lv_has ls 3 [(0, .ref (ad 255)), (1, .int y32_l1), (2, .int y32_l2)] → W p l e rm_X11_liars s m [.ref (ad 255)].toArray below meth c H locs 0 0 (MQ below (va_Qv (po_X11_liars g ad th L f ) (PstB g A) A) [.ref (ad 255)].toArray s rm_X11_liars.cells rm_X11_liars.slots A) (F0 m 77 ls []) := by
                intro H locs ls hP hD hS hl
                refine lv_iconst (v := 1) hx hb dX11_liars_77 (by decide) ?_
                refine lv_goto (tgt := 82) hx hb dX11_liars_78 (by decide) ?_
                exact hJ82 1 _ _ _ (⟨by decide, by decide⟩ : In 1 0 1) hP hD hS (by have ob13 : (0 : Int) ≤ (th 13) ∧ (th 13) ≤ 500 := (b0_13 hT :); have ob35 : (0 : Int) ≤ (th 35) ∧ (th 35) ≤ 63 := (b0_35 hT :); have ob36 : (0 : Int) ≤ (th 36) ∧ (th 36) ≤ 20 := (b0_36 hT :); have ob37 : (0 : Int) ≤ zz8 ∧ zz8 ≤ 500 := (b0_37 hT :); have ob40 : (0 : Int) ≤ zz9 ∧ zz9 ≤ 500 := (b0_40 hT :); have ob41 : (0 : Int) ≤ zz10 ∧ zz10 ≤ 500 := (b0_41 hT :); have ob42 : ((-1) : Int) ≤ (th 42) ∧ (th 42) ≤ 500 := (b0_42 hT :); have ob43 : ((-1) : Int) ≤ (th 43) ∧ (th 43) ≤ 1 := (b0_43 hT :); have oc1 : (1 : Int32).toInt = 1 := (by decide); obtain ⟨o0a, o0b⟩ := (hv2_17 : In _ _ _); obtain ⟨o1a, o1b⟩ := (hv3_17 : In _ _ _); obtain ⟨o2a, o2b⟩ := (hv4_17 : In _ _ _); obtain ⟨o3a, o3b⟩ := (hv5_17 : In _ _ _); obtain ⟨o4a, o4b⟩ := (hb35 : In _ _ _); obtain ⟨o5a, o5b⟩ := (hv8_17 : In _ _ _); obtain ⟨o6a, o6b⟩ := (hv9_17 : In _ _ _); obtain ⟨o7a, o7b⟩ := (hv13_17 : In _ _ _); obtain ⟨o8a, o8b⟩ := (hb34 : In _ _ _); obtain ⟨o10a, o10b⟩ := (hb40 : In _ _ _); obtain ⟨o11a, o11b⟩ := (hy29_s0 : In _ _ _); omega) (lv_sub hl [0, 1, 2] rfl)
              refine lv_if_eq (tgt := 77) hx hb dX11_liars_59 (by decide) (fun c119 => ?_) (fun c119 => ?_)
              ·
                have oc0 : (0 : Int32).toInt = 0 := by decide
                have cc120 : y32_l2.toInt = (0 : Int32).toInt := congrArg Int32.toInt c119
                have hb121 : In y32_l2 0 0 := In.eq1 hb34 (⟨by decide, by decide⟩ : In 0 0 0) cc120 (by decide) (by decide)
                exact hJ77 _ _ _ hP hD hS (lv_sub hl [0, 1, 2] rfl)
              ·
                have oc0 : (0 : Int32).toInt = 0 := by decide
                have cc122 : y32_l2.toInt ≠ (0 : Int32).toInt := i32_ne c119
                have hb123 : In y32_l2 1 499 := In.ne1 hb34 (⟨by decide, by decide⟩ : In 0 0 0) cc122 (by decide) (by decide)
                refine lv_aload_n hx hb dX11_liars_62 rfl (lv_at hl 0 rfl) ?_
                refine lv_iload_n hx hb dX11_liars_63 rfl (lv_at hl 2 rfl) ?_
                refine call_i (run_V (rm := rm_X11_digitAt) hx hb hml hown hts (s_X11_digitAt l g ad (gset (gset (gset (gset th 37 zz8) 40 zz9) 41 zz10) 34 zg32_zf) _ _ _ y32_l2 hst hT (In.mono hb123 (by decide) (by decide)) (show zz9 + y32_l2.toInt < 500 from (by have ob13 : (0 : Int) ≤ (th 13) ∧ (th 13) ≤ 500 := (b0_13 hT :); have ob35 : (0 : Int) ≤ (th 35) ∧ (th 35) ≤ 63 := (b0_35 hT :); have ob36 : (0 : Int) ≤ (th 36) ∧ (th 36) ≤ 20 := (b0_36 hT :); have ob37 : (0 : Int) ≤ zz8 ∧ zz8 ≤ 500 := (b0_37 hT :); have ob40 : (0 : Int) ≤ zz9 ∧ zz9 ≤ 500 := (b0_40 hT :); have ob41 : (0 : Int) ≤ zz10 ∧ zz10 ≤ 500 := (b0_41 hT :); have ob42 : ((-1) : Int) ≤ (th 42) ∧ (th 42) ≤ 500 := (b0_42 hT :); have ob43 : ((-1) : Int) ≤ (th 43) ∧ (th 43) ≤ 1 := (b0_43 hT :); obtain ⟨o0a, o0b⟩ := (hb123 : In _ _ _); obtain ⟨o1a, o1b⟩ := (hv2_17 : In _ _ _); obtain ⟨o2a, o2b⟩ := (hv3_17 : In _ _ _); obtain ⟨o3a, o3b⟩ := (hv4_17 : In _ _ _); obtain ⟨o4a, o4b⟩ := (hv5_17 : In _ _ _); obtain ⟨o5a, o5b⟩ := (hb35 : In _ _ _); obtain ⟨o6a, o6b⟩ := (hv8_17 : In _ _ _); obtain ⟨o7a, o7b⟩ := (hv9_17 : In _ _ _); obtain ⟨o8a, o8b⟩ := (hv13_17 : In _ _ _); obtain ⟨o10a, o10b⟩ := (hb40 : In _ _ _); obtain ⟨o11a, o11b⟩ := (hy29_s0 : In _ _ _); omega))) cV_X11_digitAt wg_1577 ⟨Nat.le_of_ble_eq_true rfl, Nat.le_of_ble_eq_true rfl⟩ hG hE hA hP hD hS (hst.1 255 (by decide)) hf18 rfl rfl hl.1 (As := [.int y32_l2]) (rest := []) rfl (Nat.le_of_ble_eq_true rfl) dX11_liars_64 ⟨Nat.le_of_ble_eq_true rfl, Nat.le_of_ble_eq_true rfl⟩) hA hD hS (fun r124 L125 f126 H locs hp127 hP hD hS => ?_)
                obtain ⟨eL128L, eL128T, eL128R, eL128X0⟩ := hp127
                have eL128L : L125 = L := eL128L
                have eL128T : f126 = f_32 := eL128T
                rw [eL128L, eL128T] at hP hD
                have eL128R : In r124 (-176) 79 := eL128R
                have hda129 : r124.toInt = (rw11 (zz9 + y32_l2.toInt).toNat).toInt - 48 := (eL128X0 _ hf16)
                refine lv_aload_n hx hb dX11_liars_67 rfl (lv_at hl 0 rfl) ?_
                refine lv_iload_n hx hb dX11_liars_68 rfl (lv_at hl 2 rfl) ?_
                refine lv_iconst (v := 1) hx hb dX11_liars_69 (by decide) ?_
                refine lv_isub hx hb dX11_liars_70 ?_
                refine lv_topi (fun x130 ex130 => ?_)
                have hb131 : In x130 0 498 := ex130 ▸ In.sub hb123 (⟨by decide, by decide⟩ : In 1 1 1) (by decide) (by decide) (by decide) (by decide)
                have et132 : x130.toInt = y32_l2.toInt + (-1) := In.sube ex130 hb123 (k := 1) (by decide) (by decide) (by decide)
                refine call_i (run_V (rm := rm_X11_digitAt) hx hb hml hown hts (s_X11_digitAt l g ad (gset (gset (gset (gset th 37 zz8) 40 zz9) 41 zz10) 34 zg32_zf) _ _ _ x130 hst hT (In.mono hb131 (by decide) (by decide)) (show zz9 + x130.toInt < 500 from (by have ob13 : (0 : Int) ≤ (th 13) ∧ (th 13) ≤ 500 := (b0_13 hT :); have ob35 : (0 : Int) ≤ (th 35) ∧ (th 35) ≤ 63 := (b0_35 hT :); have ob36 : (0 : Int) ≤ (th 36) ∧ (th 36) ≤ 20 := (b0_36 hT :); have ob37 : (0 : Int) ≤ zz8 ∧ zz8 ≤ 500 := (b0_37 hT :); have ob40 : (0 : Int) ≤ zz9 ∧ zz9 ≤ 500 := (b0_40 hT :); have ob41 : (0 : Int) ≤ zz10 ∧ zz10 ≤ 500 := (b0_41 hT :); have ob42 : ((-1) : Int) ≤ (th 42) ∧ (th 42) ≤ 500 := (b0_42 hT :); have ob43 : ((-1) : Int) ≤ (th 43) ∧ (th 43) ≤ 1 := (b0_43 hT :); obtain ⟨o0a, o0b⟩ := (hb131 : In _ _ _); obtain ⟨o1a, o1b⟩ := (hv2_17 : In _ _ _); obtain ⟨o2a, o2b⟩ := (hv3_17 : In _ _ _); obtain ⟨o3a, o3b⟩ := (hv4_17 : In _ _ _); obtain ⟨o4a, o4b⟩ := (hv5_17 : In _ _ _); obtain ⟨o5a, o5b⟩ := (hb35 : In _ _ _); obtain ⟨o6a, o6b⟩ := (hv8_17 : In _ _ _); obtain ⟨o7a, o7b⟩ := (hv9_17 : In _ _ _); obtain ⟨o8a, o8b⟩ := (hv13_17 : In _ _ _); obtain ⟨o9a, o9b⟩ := (hb123 : In _ _ _); obtain ⟨o11a, o11b⟩ := (hb40 : In _ _ _); obtain ⟨o12a, o12b⟩ := (hy29_s0 : In _ _ _); omega))) cV_X11_digitAt wg_1577 ⟨Nat.le_of_ble_eq_true rfl, Nat.le_of_ble_eq_true rfl⟩ hG hE hA hP hD hS (hst.1 255 (by decide)) hf18 rfl rfl hl.1 (As := [.int x130]) (rest := [.int r124]) rfl (Nat.le_of_ble_eq_true rfl) dX11_liars_71 ⟨Nat.le_of_ble_eq_true rfl, Nat.le_of_ble_eq_true rfl⟩) hA hD hS (fun r133 L134 f135 H locs hp136 hP hD hS => ?_)
                obtain ⟨eL137L, eL137T, eL137R, eL137X0⟩ := hp136
                have eL137L : L134 = L := eL137L
                have eL137T : f135 = f_32 := eL137T
                rw [eL137L, eL137T] at hP hD
                have eL137R : In r133 (-176) 79 := eL137R
                have hda138 : r133.toInt = (rw11 (zz9 + x130.toInt).toNat).toInt - 48 := (eL137X0 _ hf16)
                refine lv_icmp_le (tgt := 81) hx hb dX11_liars_74 (by decide) (fun c139 => ?_) (fun c139 => ?_)
                ·
                  have cc140 : r124.toInt ≤ r133.toInt := i32_le.mp c139
                  exact hJ81 _ _ _ hP hD hS (lv_sub hl [0, 1, 2] rfl)
                ·
                  have cc141 : r133.toInt < r124.toInt := i32_nle c139
                  have hb142 : In r124 (-175) 79 := In.gt1 eL128R eL137R cc141 (by decide) (by decide)
                  have hb143 : In r133 (-176) 78 := In.gt2 eL128R eL137R cc141 (by decide) (by decide)
                  exact hJ77 _ _ _ hP hD hS (lv_sub hl [0, 1, 2] rfl)
    exact hJ32 ((2147483647 - (0 : Int32).toInt).toNat + 1) (th 34) y29_s0 0 _ _ _ _ (by rw [hl0]; exact pc_0 _) hy29_s0 (⟨by decide, by decide⟩ : In 0 0 2147483647) hP hD hS (TI.cast hT (by funext q; by_cases hq0 : q = 41; (subst hq0; rfl); by_cases hq1 : q = 40; (subst hq1; rfl); by_cases hq2 : q = 37; (subst hq2; rfl); by_cases hq3 : q = 34; (subst hq3; rfl); simp only [gset, if_neg hq0, if_neg hq1, if_neg hq2, if_neg hq3])) hfr hf12 (by have ob13 : (0 : Int) ≤ (th 13) ∧ (th 13) ≤ 500 := (b0_13 hT :); have ob35 : (0 : Int) ≤ (th 35) ∧ (th 35) ≤ 63 := (b0_35 hT :); have ob36 : (0 : Int) ≤ (th 36) ∧ (th 36) ≤ 20 := (b0_36 hT :); have ob37 : (0 : Int) ≤ zz8 ∧ zz8 ≤ 500 := (b0_37 hT :); have ob40 : (0 : Int) ≤ zz9 ∧ zz9 ≤ 500 := (b0_40 hT :); have ob41 : (0 : Int) ≤ zz10 ∧ zz10 ≤ 500 := (b0_41 hT :); have ob42 : ((-1) : Int) ≤ (th 42) ∧ (th 42) ≤ 500 := (b0_42 hT :); have ob43 : ((-1) : Int) ≤ (th 43) ∧ (th 43) ≤ 1 := (b0_43 hT :); have oc0 : (0 : Int32).toInt = 0 := (by decide); obtain ⟨o2a, o2b⟩ := (hv2_14 : In _ _ _); obtain ⟨o3a, o3b⟩ := (hv3_14 : In _ _ _); obtain ⟨o4a, o4b⟩ := (hv4_14 : In _ _ _); obtain ⟨o5a, o5b⟩ := (hv5_14 : In _ _ _); obtain ⟨o6a, o6b⟩ := (hv6_14 : In _ _ _); obtain ⟨o7a, o7b⟩ := (hv8_14 : In _ _ _); obtain ⟨o8a, o8b⟩ := (hv9_14 : In _ _ _); obtain ⟨o9a, o9b⟩ := (hv13_14 : In _ _ _); obtain ⟨o10a, o10b⟩ := (hy29_s0 : In _ _ _); omega) (by have ob13 : (0 : Int) ≤ (th 13) ∧ (th 13) ≤ 500 := (b0_13 hT :); have ob35 : (0 : Int) ≤ (th 35) ∧ (th 35) ≤ 63 := (b0_35 hT :); have ob36 : (0 : Int) ≤ (th 36) ∧ (th 36) ≤ 20 := (b0_36 hT :); have ob37 : (0 : Int) ≤ zz8 ∧ zz8 ≤ 500 := (b0_37 hT :); have ob40 : (0 : Int) ≤ zz9 ∧ zz9 ≤ 500 := (b0_40 hT :); have ob41 : (0 : Int) ≤ zz10 ∧ zz10 ≤ 500 := (b0_41 hT :); have ob42 : ((-1) : Int) ≤ (th 42) ∧ (th 42) ≤ 500 := (b0_42 hT :); have ob43 : ((-1) : Int) ≤ (th 43) ∧ (th 43) ≤ 1 := (b0_43 hT :); have oc0 : (0 : Int32).toInt = 0 := (by decide); obtain ⟨o0a, o0b⟩ := (hy29_s0 : In _ _ _); obtain ⟨o3a, o3b⟩ := (hv2_14 : In _ _ _); obtain ⟨o4a, o4b⟩ := (hv3_14 : In _ _ _); obtain ⟨o5a, o5b⟩ := (hv4_14 : In _ _ _); obtain ⟨o6a, o6b⟩ := (hv5_14 : In _ _ _); obtain ⟨o7a, o7b⟩ := (hv6_14 : In _ _ _); obtain ⟨o8a, o8b⟩ := (hv8_14 : In _ _ _); obtain ⟨o9a, o9b⟩ := (hv9_14 : In _ _ _); obtain ⟨o10a, o10b⟩ := (hv13_14 : In _ _ _); omega) (lv_sub hl [2, 1, 0] rfl) (msI _)
  have hJ28 : ∀ (H : Heap) (locs : List Loc) (ls : Array Slot), va_P g.1 vwCl (va_pl L f5) H → va_D A (va_pl L f5) → va_S A s.heap H locs → lv_has ls 3 [(0, .ref (ad 255))] → W p l e rm_X11_liars s m [.ref (ad 255)].toArray below meth c H locs 0 0 (MQ below (va_Qv (po_X11_liars g ad th L f ) (PstB g A) A) [.ref (ad 255)].toArray s rm_X11_liars.cells rm_X11_liars.slots A) (F0 m 28 ls []) := by
    intro H locs ls hP hD hS hl
    refine lv_iconst (v := 0) hx hb dX11_liars_28 (by decide) ?_
    exact hJ29 0 _ _ _ (⟨by decide, by decide⟩ : In 0 0 1) hP hD hS (by have ob13 : (0 : Int) ≤ (th 13) ∧ (th 13) ≤ 500 := (b0_13 hT :); have ob35 : (0 : Int) ≤ (th 35) ∧ (th 35) ≤ 63 := (b0_35 hT :); have ob36 : (0 : Int) ≤ (th 36) ∧ (th 36) ≤ 20 := (b0_36 hT :); have ob37 : (0 : Int) ≤ zz8 ∧ zz8 ≤ 500 := (b0_37 hT :); have ob40 : (0 : Int) ≤ zz9 ∧ zz9 ≤ 500 := (b0_40 hT :); have ob41 : (0 : Int) ≤ zz10 ∧ zz10 ≤ 500 := (b0_41 hT :); have ob42 : ((-1) : Int) ≤ (th 42) ∧ (th 42) ≤ 500 := (b0_42 hT :); have ob43 : ((-1) : Int) ≤ (th 43) ∧ (th 43) ≤ 1 := (b0_43 hT :); have oc0 : (0 : Int32).toInt = 0 := (by decide); obtain ⟨o2a, o2b⟩ := (hv2_14 : In _ _ _); obtain ⟨o3a, o3b⟩ := (hv3_14 : In _ _ _); obtain ⟨o4a, o4b⟩ := (hv4_14 : In _ _ _); obtain ⟨o5a, o5b⟩ := (hv5_14 : In _ _ _); obtain ⟨o6a, o6b⟩ := (hv6_14 : In _ _ _); obtain ⟨o7a, o7b⟩ := (hv8_14 : In _ _ _); obtain ⟨o8a, o8b⟩ := (hv9_14 : In _ _ _); obtain ⟨o9a, o9b⟩ := (hv13_14 : In _ _ _); omega) (lv_sub hl [0] rfl)
  refine lv_if_le (tgt := 28) hx hb dX11_liars_8 (by decide) (fun c144 => ?_) (fun c144 => ?_)
  ·
    have oc0 : (0 : Int32).toInt = 0 := by decide
    have cc145 : v6_14.toInt ≤ (0 : Int32).toInt := i32_le.mp c144
    have hb146 : In v6_14 0 0 := In.le1 hv6_14 (⟨by decide, by decide⟩ : In 0 0 0) cc145 (by decide) (by decide)
    exact hJ28 _ _ _ hP hD hS (lv_sub hl [0] rfl)
  ·
    have oc0 : (0 : Int32).toInt = 0 := by decide
    have cc147 : (0 : Int32).toInt < v6_14.toInt := i32_nle c144
    have hb148 : In v6_14 1 500 := In.gt1 hv6_14 (⟨by decide, by decide⟩ : In 0 0 0) cc147 (by decide) (by decide)
    refine lv_aload_n hx hb dX11_liars_11 rfl (lv_at hl 0 rfl) ?_
    refine pl_get (v := .int v6_14) hx hb hts (fun w h => mT (inX11 w h)) hown hG.1 hP (hst.1 255 (by decide)) hf15 rfl 6 (by decide) (hts _ (mT wg_1342)) (fun _ h => h) rfl dX11_liars_12 ?_
    refine lv_aload_n hx hb dX11_liars_15 rfl (lv_at hl 0 rfl) ?_
    refine pl_get (v := .ref (ad 257)) hx hb hts (fun w h => mT (inX11 w h)) hown hG.1 hP (hst.1 255 (by decide)) hf15 rfl 7 (by decide) (hts _ (mT wg_1343)) (fun _ h => h) rfl dX11_liars_16 ?_
    refine lv_iconst (v := 0) hx hb dX11_liars_19 (by decide) ?_
    obtain ⟨rw149, hf150, hpn151, hpg152, hpn153, hpn154, hpn155, hpg156⟩ := hT.2.2 2 (by decide)
    have hin157 : vp_in 0 6 := In.inb (⟨by decide, by decide⟩ : In 0 0 0) (by decide) (by decide)
    refine pl_iald hx hb hG.1 hP (hst.1 257 (by decide)) 0 hf150 rfl hin157 dX11_liars_20 ?_
    refine lv_topi (fun x158 ex158 => ?_)
    have hb159 : In x158 0 9 := by rw [ex158]; exact pinI (k := 0) (by decide) hpn151
    have hgl160 : x158.toInt = th 30 := by rw [ex158]; exact pinE (k := 0) (by decide) hpg152
    refine lv_icmp_ge (tgt := 28) hx hb dX11_liars_21 (by decide) (fun c161 => ?_) (fun c161 => ?_)
    ·
      have cc162 : x158.toInt ≤ v6_14.toInt := i32_le.mp c161
      exact hJ28 _ _ _ hP hD hS (lv_sub hl [0] rfl)
    ·
      have cc163 : v6_14.toInt < x158.toInt := i32_nle c161
      have hb164 : In v6_14 1 8 := In.lt1 hb148 hb159 cc163 (by decide) (by decide)
      have hb165 : In x158 2 9 := In.lt2 hb148 hb159 cc163 (by decide) (by decide)
      refine lv_iconst (v := 1) hx hb dX11_liars_24 (by decide) ?_
      refine lv_goto (tgt := 29) hx hb dX11_liars_25 (by decide) ?_
      exact hJ29 1 _ _ _ (⟨by decide, by decide⟩ : In 1 0 1) hP hD hS (by have ob13 : (0 : Int) ≤ (th 13) ∧ (th 13) ≤ 500 := (b0_13 hT :); have ob35 : (0 : Int) ≤ (th 35) ∧ (th 35) ≤ 63 := (b0_35 hT :); have ob36 : (0 : Int) ≤ (th 36) ∧ (th 36) ≤ 20 := (b0_36 hT :); have ob37 : (0 : Int) ≤ zz8 ∧ zz8 ≤ 500 := (b0_37 hT :); have ob40 : (0 : Int) ≤ zz9 ∧ zz9 ≤ 500 := (b0_40 hT :); have ob41 : (0 : Int) ≤ zz10 ∧ zz10 ≤ 500 := (b0_41 hT :); have ob42 : ((-1) : Int) ≤ (th 42) ∧ (th 42) ≤ 500 := (b0_42 hT :); have ob43 : ((-1) : Int) ≤ (th 43) ∧ (th 43) ≤ 1 := (b0_43 hT :); have oc1 : (1 : Int32).toInt = 1 := (by decide); obtain ⟨o2a, o2b⟩ := (hv2_14 : In _ _ _); obtain ⟨o3a, o3b⟩ := (hv3_14 : In _ _ _); obtain ⟨o4a, o4b⟩ := (hv4_14 : In _ _ _); obtain ⟨o5a, o5b⟩ := (hv5_14 : In _ _ _); obtain ⟨o6a, o6b⟩ := (hb164 : In _ _ _); obtain ⟨o7a, o7b⟩ := (hv8_14 : In _ _ _); obtain ⟨o8a, o8b⟩ := (hv9_14 : In _ _ _); obtain ⟨o9a, o9b⟩ := (hv13_14 : In _ _ _); obtain ⟨o10a, o10b⟩ := (hb165 : In _ _ _); omega) (lv_sub hl [0] rfl)

abbrev rm_X11_piece : Room := { frames := 6, cells := 0, slots := 0, locals := 128 }
abbrev po_X11_piece (g : GG) (ad : Nat → Nat) (th : Nat → Int) (L : List Nat) (f : HP)  : (List Nat × HP) → Prop := fun u => u.1 = L ∧ (∃ za zr zl ze zt zs zf : Int, ((th 37 ≤ za ∧ za ≤ 500) ∧ DIp zt zs zf) ∧ TI g ad (gset (gset (gset (gset (gset (gset (gset th 37 za) 40 zr) 41 zl) 42 ze) 35 zt) 30 zs) 34 zf) u.2) ∧ (∀ b, b ≠ (ad 255) → b ≠ (ad 257) → u.2 b = f b)
set_option maxHeartbeats 4000000 in
set_option maxRecDepth 100000 in
theorem s_X11_piece (l : Launch) (g : GG) (ad : Nat → Nat) (th : Nat → Int) (L : List Nat) (f : HP) (sz : Nat)  (hst : ST ad L) (hT : TI g ad th f) (hDI : DIp (th 35) (th 30) (th 34)) : MtV l g yX11_piece cX11_piece 4 rm_X11_piece [.ref (ad 255)] L f sz (po_X11_piece g ad th L f ) := by
  refine MtV.of (by decide +kernel) (Nat.le_of_ble_eq_true rfl) ?_
  intro p e s m below meth c A hEn hP hD hS ls hl
  obtain ⟨hx, hb, hr, hml, hown, hlocks, hts, hG, hA, hE, hnm⟩ := hEn
  have hown : s.vm.findClass "RulerWordModel" = some m.cls := hown
  have hl : lv_has ls 4 [(0, .ref (ad 255))] := hl
  have hfr : (∀ b, b ≠ (ad 255) → b ≠ (ad 257) → f b = f b) := fun b z0_ z1_ => rfl
  have hDI0 := hDI
  obtain ⟨hd1, hd2, hd3, hd4, hd5⟩ := hDI
  have hb0 := bitI_0 (th 35)
  have hbs := bitI_s (th 35)
  refine lv_aload_n hx hb dX11_piece_0 rfl (lv_at hl 0 rfl) ?_
  refine M0e hT (fun v0_1 v2_1 v3_1 v4_1 v5_1 v6_1 v8_1 v9_1 v12_1 v13_1 v14_1 v15_1 v16_1 v17_1 v18_1 v19_1 v20_1 v21_1 v22_1 v23_1 v25_1 v36_1 v37_1 v38_1 v39_1 v40_1 v45_1 v46_1 v47_1 v48_1 v50_1 v51_1 v53_1 v55_1 hf2 hv0_1 hv2_1 hg2_1 hv3_1 hg3_1 hv4_1 hg4_1 hv5_1 hg5_1 hv6_1 hg6_1 hv8_1 hg8_1 hv9_1 hg9_1 hv12_1 hv13_1 hg13_1 hv14_1 hg14_1 hv15_1 hg15_1 hv17_1 hg17_1 hv20_1 hg20_1 hv23_1 hg23_1 hv25_1 hg25_1 hv36_1 hg36_1 hv47_1 hg47_1 hv48_1 hg48_1 hv53_1 hg53_1 hv55_1 hg55_1 hrel0_1 => ?_)
  have hg15_1 : v15_1.toInt = th 11 := hg15_1
  have hg17_1 : v17_1.toInt = th 12 := hg17_1
  have hg20_1 : v20_1.toInt = th 14 := hg20_1
  refine call_i (run_V (rm := rm_X11_look) hx hb hml hown hts (s_X11_look l g ad th _ _ _  hst hT ) cV_X11_look wg_1529 ⟨Nat.le_of_ble_eq_true rfl, Nat.le_of_ble_eq_true rfl⟩ hG hE hA hP hD hS (hst.1 255 (by decide)) hf2 rfl rfl hl.1 (As := []) (rest := []) rfl (Nat.le_of_ble_eq_true rfl) dX11_piece_1 ⟨Nat.le_of_ble_eq_true rfl, Nat.le_of_ble_eq_true rfl⟩) hA hD hS (fun r3 L4 f5 H locs hp6 hP hD hS => ?_)
  obtain ⟨eL7L, eL7T, eL7F, eL7R⟩ := hp6
  have eL7L : L4 = L := eL7L
  rw [eL7L] at hP hD
  obtain ⟨zz8, hzz8, eL7T⟩ := eL7T
  have hT : TI g ad (gset th 37 zz8) f5 := eL7T
  have eL7F : ∀ b, b ≠ (ad 255) → f5 b = f b := eL7F
  have hfr : (∀ b, b ≠ (ad 255) → b ≠ (ad 257) → f5 b = f b) := fun b z0_ z1_ => (eL7F b z0_).trans (hfr b z0_ z1_)
  have eL7R : In r3 (-1) 255 := eL7R
  refine lv_istore_n (lv' := [(1, .int r3), (0, .ref (ad 255))]) hx hb dX11_piece_4 rfl hl (by decide) rfl (fun ls hl => ?_)
  refine lv_aload_n hx hb dX11_piece_5 rfl (lv_at hl 1 rfl) ?_
  refine M0e hT (fun v0_9 v2_9 v3_9 v4_9 v5_9 v6_9 v8_9 v9_9 v12_9 v13_9 v14_9 v15_9 v16_9 v17_9 v18_9 v19_9 v20_9 v21_9 v22_9 v23_9 v25_9 v36_9 v37_9 v38_9 v39_9 v40_9 v45_9 v46_9 v47_9 v48_9 v50_9 v51_9 v53_9 v55_9 hf10 hv0_9 hv2_9 hg2_9 hv3_9 hg3_9 hv4_9 hg4_9 hv5_9 hg5_9 hv6_9 hg6_9 hv8_9 hg8_9 hv9_9 hg9_9 hv12_9 hv13_9 hg13_9 hv14_9 hg14_9 hv15_9 hg15_9 hv17_9 hg17_9 hv20_9 hg20_9 hv23_9 hg23_9 hv25_9 hg25_9 hv36_9 hg36_9 hv47_9 hg47_9 hv48_9 hg48_9 hv53_9 hg53_9 hv55_9 hg55_9 hrel0_9 => ?_)
  have hg15_9 : v15_9.toInt = th 11 := hg15_9
  have hg17_9 : v17_9.toInt = th 12 := hg17_9
  have hg20_9 : v20_9.toInt = th 14 := hg20_9
  refine pl_get (v := .int v3_9) hx hb hts (fun w h => mT (inX11 w h)) hown hG.1 hP (hst.1 255 (by decide)) hf10 rfl 3 (by decide) (hts _ (mT wg_1339)) (fun _ h => h) rfl dX11_piece_6 ?_
  have hg3_9 : v3_9.toInt = zz8 := hg3_9
  refine lv_istore_n (lv' := [(2, .int v3_9), (1, .int r3), (0, .ref (ad 255))]) hx hb dX11_piece_9 rfl hl (by decide) rfl (fun ls hl => ?_)
  refine lv_aload_n hx hb dX11_piece_10 rfl (lv_at hl 2 rfl) ?_
  refine call_i (run_V (rm := rm_X11_pieceHere) hx hb hml hown hts (s_X11_pieceHere l g ad (gset th 37 zz8) _ _ _  hst hT ) cV_X11_pieceHere wg_1553 ⟨Nat.le_of_ble_eq_true rfl, Nat.le_of_ble_eq_true rfl⟩ hG hE hA hP hD hS (hst.1 255 (by decide)) hf10 rfl rfl hl.1 (As := []) (rest := []) rfl (Nat.le_of_ble_eq_true rfl) dX11_piece_11 ⟨Nat.le_of_ble_eq_true rfl, Nat.le_of_ble_eq_true rfl⟩) hA hD hS (fun r11 L12 f13 H locs hp14 hP hD hS => ?_)
  obtain ⟨eL15L, eL15T, eL15F, eL15R⟩ := hp14
  have eL15L : L12 = L := eL15L
  rw [eL15L] at hP hD
  obtain ⟨zz16, hzz16, eL15T⟩ := eL15T
  have hzz16 : zz8 ≤ zz16 ∧ zz16 ≤ 500 := hzz16
  have hT : TI g ad (gset (gset th 37 zz8) 37 zz16) f13 := eL15T
  have hT : TI g ad (gset th 37 zz16) f13 := TI.cast hT (by funext q; by_cases hq0 : q = 37; (subst hq0; rfl); simp only [gset, if_neg hq0])
  have eL15F : ∀ b, b ≠ (ad 255) → f13 b = f5 b := eL15F
  have hfr : (∀ b, b ≠ (ad 255) → b ≠ (ad 257) → f13 b = f b) := fun b z0_ z1_ => (eL15F b z0_).trans (hfr b z0_ z1_)
  have eL15R : In r11 (-1) 5 := eL15R
  refine lv_istore_n (lv' := [(3, .int r11), (2, .int v3_9), (1, .int r3), (0, .ref (ad 255))]) hx hb dX11_piece_14 rfl hl (by decide) rfl (fun ls hl => ?_)
  refine lv_iload_n hx hb dX11_piece_15 rfl (lv_at hl 0 rfl) ?_
  refine lv_iconst (v := (-1)) hx hb dX11_piece_16 (by decide) ?_
  have hJ52 : ∀ (H : Heap) (locs : List Loc) (ls : Array Slot), va_P g.1 vwCl (va_pl L f13) H → va_D A (va_pl L f13) → va_S A s.heap H locs → lv_has ls 4 [(0, .ref (ad 255)), (1, .int r3), (2, .int v3_9), (3, .int r11)] → W p l e rm_X11_piece s m [.ref (ad 255)].toArray below meth c H locs 0 0 (MQ below (va_Qv (po_X11_piece g ad th L f ) (PstB g A) A) [.ref (ad 255)].toArray s rm_X11_piece.cells rm_X11_piece.slots A) (F0 m 52 ls []) := by
    intro H locs ls hP hD hS hl
    refine lv_aload_n hx hb dX11_piece_52 rfl (lv_at hl 0 rfl) ?_
    refine lv_iload_n hx hb dX11_piece_53 rfl (lv_at hl 2 rfl) ?_
    refine M0e hT (fun v0_17 v2_17 v3_17 v4_17 v5_17 v6_17 v8_17 v9_17 v12_17 v13_17 v14_17 v15_17 v16_17 v17_17 v18_17 v19_17 v20_17 v21_17 v22_17 v23_17 v25_17 v36_17 v37_17 v38_17 v39_17 v40_17 v45_17 v46_17 v47_17 v48_17 v50_17 v51_17 v53_17 v55_17 hf18 hv0_17 hv2_17 hg2_17 hv3_17 hg3_17 hv4_17 hg4_17 hv5_17 hg5_17 hv6_17 hg6_17 hv8_17 hg8_17 hv9_17 hg9_17 hv12_17 hv13_17 hg13_17 hv14_17 hg14_17 hv15_17 hg15_17 hv17_17 hg17_17 hv20_17 hg20_17 hv23_17 hg23_17 hv25_17 hg25_17 hv36_17 hg36_17 hv47_17 hg47_17 hv48_17 hg48_17 hv53_17 hg53_17 hv55_17 hg55_17 hrel0_17 => ?_)
    have hg15_17 : v15_17.toInt = th 11 := hg15_17
    have hg17_17 : v17_17.toInt = th 12 := hg17_17
    have hg20_17 : v20_17.toInt = th 14 := hg20_17
    refine call_v (run_V (rm := rm_X11_fails) hx hb hml hown hts (s_X11_fails l g ad (gset th 37 zz16) _ _ _ v3_9 hst hT hv3_9) cV_X11_fails wg_1545 ⟨Nat.le_of_ble_eq_true rfl, Nat.le_of_ble_eq_true rfl⟩ hG hE hA hP hD hS (hst.1 255 (by decide)) hf18 rfl rfl hl.1 (As := [.int v3_9]) (rest := []) rfl (Nat.le_of_ble_eq_true rfl) dX11_piece_54 ⟨Nat.le_of_ble_eq_true rfl, Nat.le_of_ble_eq_true rfl⟩) hA hD hS (fun L20 f21 H locs hp22 hP hD hS => ?_)
    obtain ⟨eL23L, eL23T, eL23F⟩ := hp22
    have eL23L : L20 = L := eL23L
    rw [eL23L] at hP hD
    obtain ⟨zz24, hzz24, eL23T⟩ := eL23T
    have hzz24 : 0 ≤ zz24 := hzz24
    have hT : TI g ad (gset (gset th 37 zz16) 42 zz24) f21 := eL23T
    have eL23F : ∀ b, b ≠ (ad 255) → f21 b = f13 b := eL23F
    have hfr : (∀ b, b ≠ (ad 255) → b ≠ (ad 257) → f21 b = f b) := fun b z0_ z1_ => (eL23F b z0_).trans (hfr b z0_ z1_)
    exact ret_v hx hb hr hlocks hP hD hS (Nat.le_of_ble_eq_true rfl) (Nat.le_of_ble_eq_true rfl) (⟨rfl, ⟨zz16, (th 40), (th 41), zz24, (th 35), (th 30), (th 34), ⟨(show th 37 ≤ zz16 ∧ zz16 ≤ 500 from (by have ob13 : (0 : Int) ≤ (th 13) ∧ (th 13) ≤ 500 := (b0_13 hT :); have ob35 : (0 : Int) ≤ (th 35) ∧ (th 35) ≤ 63 := (b0_35 hT :); have ob36 : (0 : Int) ≤ (th 36) ∧ (th 36) ≤ 20 := (b0_36 hT :); have ob37 : (0 : Int) ≤ zz16 ∧ zz16 ≤ 500 := (b0_37 hT :); have ob40 : (0 : Int) ≤ (th 40) ∧ (th 40) ≤ 500 := (b0_40 hT :); have ob41 : (0 : Int) ≤ (th 41) ∧ (th 41) ≤ 500 := (b0_41 hT :); have ob42 : ((-1) : Int) ≤ zz24 ∧ zz24 ≤ 500 := (b0_42 hT :); have ob43 : ((-1) : Int) ≤ (th 43) ∧ (th 43) ≤ 1 := (b0_43 hT :); omega)), hDI0⟩, TI.cast hT (by funext q; by_cases hq0 : q = 42; (subst hq0; rfl); by_cases hq1 : q = 37; (subst hq1; rfl); by_cases hq2 : q = 40; (subst hq2; rfl); by_cases hq3 : q = 41; (subst hq3; rfl); by_cases hq4 : q = 35; (subst hq4; rfl); by_cases hq5 : q = 30; (subst hq5; rfl); by_cases hq6 : q = 34; (subst hq6; rfl); simp only [gset, if_neg hq0, if_neg hq1, if_neg hq2, if_neg hq3, if_neg hq4, if_neg hq5, if_neg hq6])⟩, hfr⟩) dX11_piece_57
  refine lv_icmp_eq (tgt := 52) hx hb dX11_piece_17 (by decide) (fun c25 => ?_) (fun c25 => ?_)
  ·
    have ocm1 : ((-1) : Int32).toInt = (-1) := by decide
    have cc26 : r11.toInt = ((-1) : Int32).toInt := congrArg Int32.toInt c25
    have hb27 : In r11 (-1) (-1) := In.eq1 eL15R (⟨by decide, by decide⟩ : In (-1) (-1) (-1)) cc26 (by decide) (by decide)
    exact hJ52 _ _ _ hP hD hS (lv_sub hl [3, 2, 1, 0] rfl)
  ·
    have ocm1 : ((-1) : Int32).toInt = (-1) := by decide
    have cc28 : r11.toInt ≠ ((-1) : Int32).toInt := i32_ne c25
    have hb29 : In r11 0 5 := In.ne1 eL15R (⟨by decide, by decide⟩ : In (-1) (-1) (-1)) cc28 (by decide) (by decide)
    refine lv_aload_n hx hb dX11_piece_20 rfl (lv_at hl 3 rfl) ?_
    refine M0e hT (fun v0_30 v2_30 v3_30 v4_30 v5_30 v6_30 v8_30 v9_30 v12_30 v13_30 v14_30 v15_30 v16_30 v17_30 v18_30 v19_30 v20_30 v21_30 v22_30 v23_30 v25_30 v36_30 v37_30 v38_30 v39_30 v40_30 v45_30 v46_30 v47_30 v48_30 v50_30 v51_30 v53_30 v55_30 hf31 hv0_30 hv2_30 hg2_30 hv3_30 hg3_30 hv4_30 hg4_30 hv5_30 hg5_30 hv6_30 hg6_30 hv8_30 hg8_30 hv9_30 hg9_30 hv12_30 hv13_30 hg13_30 hv14_30 hg14_30 hv15_30 hg15_30 hv17_30 hg17_30 hv20_30 hg20_30 hv23_30 hg23_30 hv25_30 hg25_30 hv36_30 hg36_30 hv47_30 hg47_30 hv48_30 hg48_30 hv53_30 hg53_30 hv55_30 hg55_30 hrel0_30 => ?_)
    have hg15_30 : v15_30.toInt = th 11 := hg15_30
    have hg17_30 : v17_30.toInt = th 12 := hg17_30
    have hg20_30 : v20_30.toInt = th 14 := hg20_30
    refine pl_get (v := .int v9_30) hx hb hts (fun w h => mT (inX11 w h)) hown hG.1 hP (hst.1 255 (by decide)) hf31 rfl 9 (by decide) (hts _ (mT wg_1345)) (fun _ h => h) rfl dX11_piece_21 ?_
    have hg9_30 : v9_30.toInt = th 35 := hg9_30
    refine lv_iload_n hx hb dX11_piece_24 rfl (lv_at hl 0 rfl) ?_
    refine call_i (run_S (rm := rm_X11_has) hx hb hml hown hts (s_X11_has l g ad (gset th 37 zz16) _ _ _ v9_30 r11 hst hT ) cS_X11_has wg_1563 ⟨Nat.le_of_ble_eq_true rfl, Nat.le_of_ble_eq_true rfl⟩ hG hE hA hP hD hS rfl hl.1 (As := [.int v9_30, .int r11]) (rest := []) rfl (Nat.le_of_ble_eq_true rfl) dX11_piece_25 ⟨Nat.le_of_ble_eq_true rfl, Nat.le_of_ble_eq_true rfl⟩) hA hD hS (fun r32 L33 f34 H locs hp35 hP hD hS => ?_)
    obtain ⟨eL36L, eL36T, eL36R, eL36X0⟩ := hp35
    have eL36L : L33 = L := eL36L
    have eL36T : f34 = f13 := eL36T
    rw [eL36L, eL36T] at hP hD
    have eL36R : In r32 0 1 := eL36R
    have hbt37 : r32.toInt = bitI (th 35) r11.toInt := (eL36X0 (Int.le_trans (by decide) hv9_30.1) (In.mono hb29 (by decide) (by decide))).trans (by rw [hg9_30])
    refine lv_if_ne (tgt := 52) hx hb dX11_piece_28 (by decide) (fun c38 => ?_) (fun c38 => ?_)
    ·
      have oc0 : (0 : Int32).toInt = 0 := by decide
      have cc39 : r32.toInt ≠ (0 : Int32).toInt := i32_ne c38
      have hb40 : In r32 1 1 := In.ne1 eL36R (⟨by decide, by decide⟩ : In 0 0 0) cc39 (by decide) (by decide)
      exact hJ52 _ _ _ hP hD hS (lv_sub hl [3, 2, 1, 0] rfl)
    ·
      have oc0 : (0 : Int32).toInt = 0 := by decide
      have cc41 : r32.toInt = (0 : Int32).toInt := congrArg Int32.toInt c38
      have hb42 : In r32 0 0 := In.eq1 eL36R (⟨by decide, by decide⟩ : In 0 0 0) cc41 (by decide) (by decide)
      refine lv_iload_n hx hb dX11_piece_31 rfl (lv_at hl 0 rfl) ?_
      refine lv_iconst (v := 3) hx hb dX11_piece_32 (by decide) ?_
      have hJ58 : ∀ (H : Heap) (locs : List Loc) (ls : Array Slot), va_P g.1 vwCl (va_pl L f13) H → va_D A (va_pl L f13) → va_S A s.heap H locs → (r11.toInt ≠ 4 ∨ bitI (th 35) 0 = 1) → lv_has ls 4 [(0, .ref (ad 255)), (1, .int r3), (2, .int v3_9), (3, .int r11)] → W p l e rm_X11_piece s m [.ref (ad 255)].toArray below meth c H locs 0 0 (MQ below (va_Qv (po_X11_piece g ad th L f ) (PstB g A) A) [.ref (ad 255)].toArray s rm_X11_piece.cells rm_X11_piece.slots A) (F0 m 58 ls []) := by
        intro H locs ls hP hD hS hinv58_0 hl
        refine lv_aload_n hx hb dX11_piece_58 rfl (lv_at hl 0 rfl) ?_
        refine lv_dup hx hb dX11_piece_59 rfl ?_
        refine pl_get (v := .int v9_30) hx hb hts (fun w h => mT (inX11 w h)) hown hG.1 hP (hst.1 255 (by decide)) hf31 rfl 9 (by decide) (hts _ (mT wg_1345)) (fun _ h => h) rfl dX11_piece_60 ?_
        refine lv_iconst (v := 1) hx hb dX11_piece_63 (by decide) ?_
        refine lv_iload_n hx hb dX11_piece_64 rfl (lv_at hl 3 rfl) ?_
        refine lv_ishl hx hb dX11_piece_65 ?_
        refine lv_topi (fun x43 ex43 => ?_)
        have hb44 : In x43 1 32 := ex43 ▸ In.shl (⟨by decide, by decide⟩ : In 1 1 1) hb29 (by decide) (by decide) (by decide) (by decide) (by decide) (by decide)
        refine lv_ior hx hb dX11_piece_66 ?_
        refine lv_topi (fun x45 ex45 => ?_)
        have hb46 : In x45 0 63 := ex45 ▸ In.or 6 hv9_30 hb44 (by decide) (by decide) (by decide) (by decide) (by decide)
        have hoa : x45.toInt = th 35 + 2 ^ r11.toInt.toNat := (or_add ex43 ex45 hb29 hv9_30 (by rw [hg9_30]; omega)).trans (by rw [hg9_30])
        have hb47 : In x45 0 63 := by rw [ex45]; exact In.or 6 hv9_30 hb44 (by decide) (by decide) (by decide) (by decide) (by decide)
        refine pl_put (ty := .int) (v := .int x45) (fs' := [.int v0_30, .ref (ad 256), .int v2_30, .int v3_30, .int v4_30, .int v5_30, .int v6_30, .ref (ad 257), .int v8_30, .int x45, .ref (ad 258), .ref (ad 259), .int v12_30, .int v13_30, .int v14_30, .int v15_30, .int v16_30, .int v17_30, .int v18_30, .int v19_30, .int v20_30, .long v21_30, .long v22_30, .int v23_30, .ref (ad 260), .int v25_30, .ref (ad 261), .ref (ad 262), .ref (ad 263), .ref (ad 264), .ref (ad 265), .ref (ad 266), .ref (ad 267), .ref (ad 268), .ref (ad 269), .ref (ad 270), .int v36_30, .int v37_30, .int v38_30, .int v39_30, .int v40_30, .ref (ad 271), .ref (ad 272), .ref (ad 273), .ref (ad 274), .long v45_30, .long v46_30, .int v47_30, .int v48_30, .ref (ad 275), .int v50_30, .int v51_30, .ref (ad 276), .int v53_30, .ref (ad 277), .int v55_30]) hx hb hts (fun w h => mT (inX11 w h)) tyX11 tyX11_ok nmX11 hown hG.1 hP hD hS (hst.1 255 (by decide)) hf31 rfl 9 (by decide) (hts _ (mT wg_1345)) (fun _ h => h) rfl (by decide +kernel) (rfl) (rfl) (Nat.le_of_ble_eq_true rfl) rfl dX11_piece_67 (fun H locs f48 hf49 ho50 hP hD hS => ?_)
        have hfr : (∀ b, b ≠ (ad 255) → b ≠ (ad 257) → f48 b = f b) := fun b z0_ z1_ => (ho50 b z0_).trans (hfr b z0_ z1_)
        refine lv_iload_n hx hb dX11_piece_70 rfl (lv_at hl 3 rfl) ?_
        have hT := TI.updMG (th' := (gset (gset th 37 zz16) 35 (x45.toInt))) hT hst (k := 0) (by decide) hf49 ho50 ⟨v0_30, v2_30, v3_30, v4_30, v5_30, v6_30, v8_30, x45, v12_30, v13_30, v14_30, v15_30, v16_30, v17_30, v18_30, v19_30, v20_30, v21_30, v22_30, v23_30, v25_30, v36_30, v37_30, v38_30, v39_30, v40_30, v45_30, v46_30, v47_30, v48_30, v50_30, v51_30, v53_30, v55_30, rfl, hv0_30, hv2_30, hg2_30, hv3_30, hg3_30, hv4_30, hg4_30, hv5_30, hg5_30, hv6_30, hg6_30, hv8_30, hg8_30, hb47, rfl, hv12_30, hv13_30, hg13_30, hv14_30, hg14_30, hv15_30, hg15_30, hv17_30, hg17_30, hv20_30, hg20_30, hv23_30, hg23_30, hv25_30, hg25_30, hv36_30, hg36_30, hv47_30, hg47_30, hv48_30, hg48_30, hv53_30, hg53_30, hv55_30, hg55_30, hrel0_30⟩ (fun q hq => ((gset_ne (fun e => hq (by subst e; decide))).trans rfl))
        have hT : TI g ad (gset (gset th 37 zz16) 35 x45.toInt) f48 := TI.cast hT (by funext q; by_cases hq0 : q = 35; (subst hq0; rfl); by_cases hq1 : q = 37; (subst hq1; rfl); simp only [gset, if_neg hq0, if_neg hq1])
        refine lv_if_ne (tgt := 87) hx hb dX11_piece_71 (by decide) (fun c51 => ?_) (fun c51 => ?_)
        ·
          have oc0 : (0 : Int32).toInt = 0 := by decide
          have cc52 : r11.toInt ≠ (0 : Int32).toInt := i32_ne c51
          have hb53 : In r11 1 5 := In.ne1 hb29 (⟨by decide, by decide⟩ : In 0 0 0) cc52 (by decide) (by decide)
          refine lv_iload_n hx hb dX11_piece_87 rfl (lv_at hl 3 rfl) ?_
          refine lv_iconst (v := 1) hx hb dX11_piece_88 (by decide) ?_
          refine lv_icmp_ne (tgt := 104) hx hb dX11_piece_89 (by decide) (fun c54 => ?_) (fun c54 => ?_)
          ·
            have oc1 : (1 : Int32).toInt = 1 := by decide
            have cc55 : r11.toInt ≠ (1 : Int32).toInt := i32_ne c54
            have hb56 : In r11 2 5 := In.ne1 hb53 (⟨by decide, by decide⟩ : In 1 1 1) cc55 (by decide) (by decide)
            refine lv_iload_n hx hb dX11_piece_104 rfl (lv_at hl 3 rfl) ?_
            refine lv_iconst (v := 2) hx hb dX11_piece_105 (by decide) ?_
            refine lv_icmp_ne (tgt := 122) hx hb dX11_piece_106 (by decide) (fun c57 => ?_) (fun c57 => ?_)
            ·
              have oc2 : (2 : Int32).toInt = 2 := by decide
              have cc58 : r11.toInt ≠ (2 : Int32).toInt := i32_ne c57
              have hb59 : In r11 3 5 := In.ne1 hb56 (⟨by decide, by decide⟩ : In 2 2 2) cc58 (by decide) (by decide)
              refine lv_iload_n hx hb dX11_piece_122 rfl (lv_at hl 3 rfl) ?_
              refine lv_iconst (v := 3) hx hb dX11_piece_123 (by decide) ?_
              refine lv_icmp_ne (tgt := 131) hx hb dX11_piece_124 (by decide) (fun c60 => ?_) (fun c60 => ?_)
              ·
                have oc3 : (3 : Int32).toInt = 3 := by decide
                have cc61 : r11.toInt ≠ (3 : Int32).toInt := i32_ne c60
                have hb62 : In r11 4 5 := In.ne1 hb59 (⟨by decide, by decide⟩ : In 3 3 3) cc61 (by decide) (by decide)
                refine lv_iload_n hx hb dX11_piece_131 rfl (lv_at hl 3 rfl) ?_
                refine lv_iconst (v := 4) hx hb dX11_piece_132 (by decide) ?_
                refine lv_icmp_ne (tgt := 140) hx hb dX11_piece_133 (by decide) (fun c63 => ?_) (fun c63 => ?_)
                ·
                  have oc4 : (4 : Int32).toInt = 4 := by decide
                  have cc64 : r11.toInt ≠ (4 : Int32).toInt := i32_ne c63
                  have hb65 : In r11 5 5 := In.ne1 hb62 (⟨by decide, by decide⟩ : In 4 4 4) cc64 (by decide) (by decide)
                  refine lv_iload_n hx hb dX11_piece_140 rfl (lv_at hl 3 rfl) ?_
                  refine lv_iconst (v := 5) hx hb dX11_piece_141 (by decide) ?_
                  refine lv_icmp_ne (tgt := 152) hx hb dX11_piece_142 (by decide) (fun c66 => ?_) (fun c66 => ?_)
                  ·
                    have oc5 : (5 : Int32).toInt = 5 := by decide
                    have cc67 : r11.toInt ≠ (5 : Int32).toInt := i32_ne c66
                    exact In.empty (lo := 6) (hi := 5) (In.ne1 hb65 (⟨by decide, by decide⟩ : In 5 5 5) cc67 (by decide) (by decide)) (by decide)
                  ·
                    have oc5 : (5 : Int32).toInt = 5 := by decide
                    have cc68 : r11.toInt = (5 : Int32).toInt := congrArg Int32.toInt c66
                    have hpk : r11.toInt = 5 := (by have ob13 : (0 : Int) ≤ (th 13) ∧ (th 13) ≤ 500 := (b0_13 hT :); have ob35 : (0 : Int) ≤ x45.toInt ∧ x45.toInt ≤ 63 := (b0_35 hT :); have ob36 : (0 : Int) ≤ (th 36) ∧ (th 36) ≤ 20 := (b0_36 hT :); have ob37 : (0 : Int) ≤ zz16 ∧ zz16 ≤ 500 := (b0_37 hT :); have ob40 : (0 : Int) ≤ (th 40) ∧ (th 40) ≤ 500 := (b0_40 hT :); have ob41 : (0 : Int) ≤ (th 41) ∧ (th 41) ≤ 500 := (b0_41 hT :); have ob42 : ((-1) : Int) ≤ (th 42) ∧ (th 42) ≤ 500 := (b0_42 hT :); have ob43 : ((-1) : Int) ≤ (th 43) ∧ (th 43) ≤ 1 := (b0_43 hT :); obtain ⟨o0a, o0b⟩ := (hb65 : In _ _ _); omega)
                    have hp2 : (2 : Int) ^ r11.toInt.toNat = 32 := by rw [hpk]; rfl
                    have hbk : bitI (th 35) r11.toInt = bitI (th 35) 5 := by rw [hpk]
                    refine lv_aload_n hx hb dX11_piece_145 rfl (lv_at hl 0 rfl) ?_
                    refine M0e hT (fun v0_69 v2_69 v3_69 v4_69 v5_69 v6_69 v8_69 v9_69 v12_69 v13_69 v14_69 v15_69 v16_69 v17_69 v18_69 v19_69 v20_69 v21_69 v22_69 v23_69 v25_69 v36_69 v37_69 v38_69 v39_69 v40_69 v45_69 v46_69 v47_69 v48_69 v50_69 v51_69 v53_69 v55_69 hf70 hv0_69 hv2_69 hg2_69 hv3_69 hg3_69 hv4_69 hg4_69 hv5_69 hg5_69 hv6_69 hg6_69 hv8_69 hg8_69 hv9_69 hg9_69 hv12_69 hv13_69 hg13_69 hv14_69 hg14_69 hv15_69 hg15_69 hv17_69 hg17_69 hv20_69 hg20_69 hv23_69 hg23_69 hv25_69 hg25_69 hv36_69 hg36_69 hv47_69 hg47_69 hv48_69 hg48_69 hv53_69 hg53_69 hv55_69 hg55_69 hrel0_69 => ?_)
                    have hg15_69 : v15_69.toInt = th 11 := hg15_69
                    have hg17_69 : v17_69.toInt = th 12 := hg17_69
                    have hg20_69 : v20_69.toInt = th 14 := hg20_69
                    refine pl_get (v := .ref (ad 257)) hx hb hts (fun w h => mT (inX11 w h)) hown hG.1 hP (hst.1 255 (by decide)) hf70 rfl 7 (by decide) (hts _ (mT wg_1343)) (fun _ h => h) rfl dX11_piece_146 ?_
                    refine lv_iconst (v := 5) hx hb dX11_piece_149 (by decide) ?_
                    refine lv_iconst (v := 1) hx hb dX11_piece_150 (by decide) ?_
                    obtain ⟨rw71, hf72, hpn73, hpg74, hpn75, hpn76, hpn77, hpg78⟩ := hT.2.2 2 (by decide)
                    refine pl_iastE hx hb hG.1 hP hD hS (hst.1 257 (by decide)) 0 hf72 rfl (In.inb (⟨by decide, by decide⟩ : In 5 5 5) (by decide) (by decide)) dX11_piece_151 (fun H locs f79 r82 er82 hf80 ho81 hP hD hS => ?_)
                    have hpn83 : In (r82 0) 0 9 := (upd_neI (k := 0) er82 (by decide)) ▸ hpn73
                    have hpg84 := (congrArg Int32.toInt (upd_neI (k := 0) er82 (by decide))).trans hpg74
                    have hpn85 : In (r82 1) 0 4 := (upd_neI (k := 1) er82 (by decide)) ▸ hpn75
                    have hpn86 : In (r82 2) 0 6 := (upd_neI (k := 2) er82 (by decide)) ▸ hpn76
                    have hpn87 : In (r82 4) 0 511 := (upd_neI (k := 4) er82 (by decide)) ▸ hpn77
                    have hpg88 := (congrArg Int32.toInt (upd_neI (k := 4) er82 (by decide))).trans hpg78
                    have hf89 := (ho81 (ad 255) (hst.ne (by decide) (by decide) (by decide))).trans hf70
                    have hfr : (∀ b, b ≠ (ad 255) → b ≠ (ad 257) → f79 b = f b) := fun b z0_ z1_ => (ho81 b z1_).trans (hfr b z0_ z1_)
                    have hT := TI.updM hT hst (k := 2) (by decide) hf80 ho81 ⟨r82, rfl, hpn83, (hpg84.trans rfl), hpn85, hpn86, hpn87, (hpg88.trans rfl)⟩
                    exact ret_v hx hb hr hlocks hP hD hS (Nat.le_of_ble_eq_true rfl) (Nat.le_of_ble_eq_true rfl) (⟨rfl, ⟨zz16, (th 40), (th 41), (th 42), x45.toInt, (th 30), (th 34), ⟨(show th 37 ≤ zz16 ∧ zz16 ≤ 500 from (by have ob13 : (0 : Int) ≤ (th 13) ∧ (th 13) ≤ 500 := (b0_13 hT :); have ob35 : (0 : Int) ≤ x45.toInt ∧ x45.toInt ≤ 63 := (b0_35 hT :); have ob36 : (0 : Int) ≤ (th 36) ∧ (th 36) ≤ 20 := (b0_36 hT :); have ob37 : (0 : Int) ≤ zz16 ∧ zz16 ≤ 500 := (b0_37 hT :); have ob40 : (0 : Int) ≤ (th 40) ∧ (th 40) ≤ 500 := (b0_40 hT :); have ob41 : (0 : Int) ≤ (th 41) ∧ (th 41) ≤ 500 := (b0_41 hT :); have ob42 : ((-1) : Int) ≤ (th 42) ∧ (th 42) ≤ 500 := (b0_42 hT :); have ob43 : ((-1) : Int) ≤ (th 43) ∧ (th 43) ≤ 1 := (b0_43 hT :); obtain ⟨o0a, o0b⟩ := (hv2_69 : In _ _ _); obtain ⟨o1a, o1b⟩ := (hv3_69 : In _ _ _); obtain ⟨o2a, o2b⟩ := (hv4_69 : In _ _ _); obtain ⟨o3a, o3b⟩ := (hv5_69 : In _ _ _); obtain ⟨o4a, o4b⟩ := (hv6_69 : In _ _ _); obtain ⟨o5a, o5b⟩ := (hv8_69 : In _ _ _); obtain ⟨o6a, o6b⟩ := (hv9_69 : In _ _ _); obtain ⟨o7a, o7b⟩ := (hv13_69 : In _ _ _); omega)), ⟨(by have ob13 : (0 : Int) ≤ (th 13) ∧ (th 13) ≤ 500 := (b0_13 hT :); have ob35 : (0 : Int) ≤ x45.toInt ∧ x45.toInt ≤ 63 := (b0_35 hT :); have ob36 : (0 : Int) ≤ (th 36) ∧ (th 36) ≤ 20 := (b0_36 hT :); have ob37 : (0 : Int) ≤ zz16 ∧ zz16 ≤ 500 := (b0_37 hT :); have ob40 : (0 : Int) ≤ (th 40) ∧ (th 40) ≤ 500 := (b0_40 hT :); have ob41 : (0 : Int) ≤ (th 41) ∧ (th 41) ≤ 500 := (b0_41 hT :); have ob42 : ((-1) : Int) ≤ (th 42) ∧ (th 42) ≤ 500 := (b0_42 hT :); have ob43 : ((-1) : Int) ≤ (th 43) ∧ (th 43) ≤ 1 := (b0_43 hT :); obtain ⟨o0a, o0b⟩ := (hb44 : In _ _ _); obtain ⟨o1a, o1b⟩ := (hb47 : In _ _ _); obtain ⟨o2a, o2b⟩ := (eL7R : In _ _ _); obtain ⟨o3a, o3b⟩ := (hb65 : In _ _ _); obtain ⟨o4a, o4b⟩ := (hb42 : In _ _ _); obtain ⟨o5a, o5b⟩ := (hv2_69 : In _ _ _); obtain ⟨o6a, o6b⟩ := (hv3_69 : In _ _ _); obtain ⟨o7a, o7b⟩ := (hv4_69 : In _ _ _); obtain ⟨o8a, o8b⟩ := (hv5_69 : In _ _ _); obtain ⟨o9a, o9b⟩ := (hv6_69 : In _ _ _); obtain ⟨o10a, o10b⟩ := (hv8_69 : In _ _ _); obtain ⟨o11a, o11b⟩ := (hv9_69 : In _ _ _); obtain ⟨o12a, o12b⟩ := (hv13_69 : In _ _ _); omega), (by have ob13 : (0 : Int) ≤ (th 13) ∧ (th 13) ≤ 500 := (b0_13 hT :); have ob35 : (0 : Int) ≤ x45.toInt ∧ x45.toInt ≤ 63 := (b0_35 hT :); have ob36 : (0 : Int) ≤ (th 36) ∧ (th 36) ≤ 20 := (b0_36 hT :); have ob37 : (0 : Int) ≤ zz16 ∧ zz16 ≤ 500 := (b0_37 hT :); have ob40 : (0 : Int) ≤ (th 40) ∧ (th 40) ≤ 500 := (b0_40 hT :); have ob41 : (0 : Int) ≤ (th 41) ∧ (th 41) ≤ 500 := (b0_41 hT :); have ob42 : ((-1) : Int) ≤ (th 42) ∧ (th 42) ≤ 500 := (b0_42 hT :); have ob43 : ((-1) : Int) ≤ (th 43) ∧ (th 43) ≤ 1 := (b0_43 hT :); obtain ⟨o0a, o0b⟩ := (hb44 : In _ _ _); obtain ⟨o1a, o1b⟩ := (hb47 : In _ _ _); obtain ⟨o2a, o2b⟩ := (eL7R : In _ _ _); obtain ⟨o3a, o3b⟩ := (hb65 : In _ _ _); obtain ⟨o4a, o4b⟩ := (hb42 : In _ _ _); obtain ⟨o5a, o5b⟩ := (hv2_69 : In _ _ _); obtain ⟨o6a, o6b⟩ := (hv3_69 : In _ _ _); obtain ⟨o7a, o7b⟩ := (hv4_69 : In _ _ _); obtain ⟨o8a, o8b⟩ := (hv5_69 : In _ _ _); obtain ⟨o9a, o9b⟩ := (hv6_69 : In _ _ _); obtain ⟨o10a, o10b⟩ := (hv8_69 : In _ _ _); obtain ⟨o11a, o11b⟩ := (hv9_69 : In _ _ _); obtain ⟨o12a, o12b⟩ := (hv13_69 : In _ _ _); omega), (by have ob13 : (0 : Int) ≤ (th 13) ∧ (th 13) ≤ 500 := (b0_13 hT :); have ob35 : (0 : Int) ≤ x45.toInt ∧ x45.toInt ≤ 63 := (b0_35 hT :); have ob36 : (0 : Int) ≤ (th 36) ∧ (th 36) ≤ 20 := (b0_36 hT :); have ob37 : (0 : Int) ≤ zz16 ∧ zz16 ≤ 500 := (b0_37 hT :); have ob40 : (0 : Int) ≤ (th 40) ∧ (th 40) ≤ 500 := (b0_40 hT :); have ob41 : (0 : Int) ≤ (th 41) ∧ (th 41) ≤ 500 := (b0_41 hT :); have ob42 : ((-1) : Int) ≤ (th 42) ∧ (th 42) ≤ 500 := (b0_42 hT :); have ob43 : ((-1) : Int) ≤ (th 43) ∧ (th 43) ≤ 1 := (b0_43 hT :); obtain ⟨o0a, o0b⟩ := (hb44 : In _ _ _); obtain ⟨o1a, o1b⟩ := (hb47 : In _ _ _); obtain ⟨o2a, o2b⟩ := (eL7R : In _ _ _); obtain ⟨o3a, o3b⟩ := (hb65 : In _ _ _); obtain ⟨o4a, o4b⟩ := (hb42 : In _ _ _); obtain ⟨o5a, o5b⟩ := (hv2_69 : In _ _ _); obtain ⟨o6a, o6b⟩ := (hv3_69 : In _ _ _); obtain ⟨o7a, o7b⟩ := (hv4_69 : In _ _ _); obtain ⟨o8a, o8b⟩ := (hv5_69 : In _ _ _); obtain ⟨o9a, o9b⟩ := (hv6_69 : In _ _ _); obtain ⟨o10a, o10b⟩ := (hv8_69 : In _ _ _); obtain ⟨o11a, o11b⟩ := (hv9_69 : In _ _ _); obtain ⟨o12a, o12b⟩ := (hv13_69 : In _ _ _); omega), hd4, (by have ob13 : (0 : Int) ≤ (th 13) ∧ (th 13) ≤ 500 := (b0_13 hT :); have ob35 : (0 : Int) ≤ x45.toInt ∧ x45.toInt ≤ 63 := (b0_35 hT :); have ob36 : (0 : Int) ≤ (th 36) ∧ (th 36) ≤ 20 := (b0_36 hT :); have ob37 : (0 : Int) ≤ zz16 ∧ zz16 ≤ 500 := (b0_37 hT :); have ob40 : (0 : Int) ≤ (th 40) ∧ (th 40) ≤ 500 := (b0_40 hT :); have ob41 : (0 : Int) ≤ (th 41) ∧ (th 41) ≤ 500 := (b0_41 hT :); have ob42 : ((-1) : Int) ≤ (th 42) ∧ (th 42) ≤ 500 := (b0_42 hT :); have ob43 : ((-1) : Int) ≤ (th 43) ∧ (th 43) ≤ 1 := (b0_43 hT :); obtain ⟨o0a, o0b⟩ := (hb44 : In _ _ _); obtain ⟨o1a, o1b⟩ := (hb47 : In _ _ _); obtain ⟨o2a, o2b⟩ := (eL7R : In _ _ _); obtain ⟨o3a, o3b⟩ := (hb65 : In _ _ _); obtain ⟨o4a, o4b⟩ := (hb42 : In _ _ _); obtain ⟨o5a, o5b⟩ := (hv2_69 : In _ _ _); obtain ⟨o6a, o6b⟩ := (hv3_69 : In _ _ _); obtain ⟨o7a, o7b⟩ := (hv4_69 : In _ _ _); obtain ⟨o8a, o8b⟩ := (hv5_69 : In _ _ _); obtain ⟨o9a, o9b⟩ := (hv6_69 : In _ _ _); obtain ⟨o10a, o10b⟩ := (hv8_69 : In _ _ _); obtain ⟨o11a, o11b⟩ := (hv9_69 : In _ _ _); obtain ⟨o12a, o12b⟩ := (hv13_69 : In _ _ _); omega)⟩⟩, TI.cast hT (by funext q; by_cases hq0 : q = 35; (subst hq0; rfl); by_cases hq1 : q = 37; (subst hq1; rfl); by_cases hq2 : q = 40; (subst hq2; rfl); by_cases hq3 : q = 41; (subst hq3; rfl); by_cases hq4 : q = 42; (subst hq4; rfl); by_cases hq5 : q = 30; (subst hq5; rfl); by_cases hq6 : q = 34; (subst hq6; rfl); simp only [gset, if_neg hq0, if_neg hq1, if_neg hq2, if_neg hq3, if_neg hq4, if_neg hq5, if_neg hq6])⟩, hfr⟩) dX11_piece_152
                ·
                  have oc4 : (4 : Int32).toInt = 4 := by decide
                  have cc90 : r11.toInt = (4 : Int32).toInt := congrArg Int32.toInt c63
                  have hb91 : In r11 4 4 := In.eq1 hb62 (⟨by decide, by decide⟩ : In 4 4 4) cc90 (by decide) (by decide)
                  have hpk : r11.toInt = 4 := (by have ob13 : (0 : Int) ≤ (th 13) ∧ (th 13) ≤ 500 := (b0_13 hT :); have ob35 : (0 : Int) ≤ x45.toInt ∧ x45.toInt ≤ 63 := (b0_35 hT :); have ob36 : (0 : Int) ≤ (th 36) ∧ (th 36) ≤ 20 := (b0_36 hT :); have ob37 : (0 : Int) ≤ zz16 ∧ zz16 ≤ 500 := (b0_37 hT :); have ob40 : (0 : Int) ≤ (th 40) ∧ (th 40) ≤ 500 := (b0_40 hT :); have ob41 : (0 : Int) ≤ (th 41) ∧ (th 41) ≤ 500 := (b0_41 hT :); have ob42 : ((-1) : Int) ≤ (th 42) ∧ (th 42) ≤ 500 := (b0_42 hT :); have ob43 : ((-1) : Int) ≤ (th 43) ∧ (th 43) ≤ 1 := (b0_43 hT :); obtain ⟨o0a, o0b⟩ := (hb91 : In _ _ _); omega)
                  have hp2 : (2 : Int) ^ r11.toInt.toNat = 16 := by rw [hpk]; rfl
                  have hbk : bitI (th 35) r11.toInt = bitI (th 35) 4 := by rw [hpk]
                  refine lv_aload_n hx hb dX11_piece_136 rfl (lv_at hl 0 rfl) ?_
                  refine M0e hT (fun v0_92 v2_92 v3_92 v4_92 v5_92 v6_92 v8_92 v9_92 v12_92 v13_92 v14_92 v15_92 v16_92 v17_92 v18_92 v19_92 v20_92 v21_92 v22_92 v23_92 v25_92 v36_92 v37_92 v38_92 v39_92 v40_92 v45_92 v46_92 v47_92 v48_92 v50_92 v51_92 v53_92 v55_92 hf93 hv0_92 hv2_92 hg2_92 hv3_92 hg3_92 hv4_92 hg4_92 hv5_92 hg5_92 hv6_92 hg6_92 hv8_92 hg8_92 hv9_92 hg9_92 hv12_92 hv13_92 hg13_92 hv14_92 hg14_92 hv15_92 hg15_92 hv17_92 hg17_92 hv20_92 hg20_92 hv23_92 hg23_92 hv25_92 hg25_92 hv36_92 hg36_92 hv47_92 hg47_92 hv48_92 hg48_92 hv53_92 hg53_92 hv55_92 hg55_92 hrel0_92 => ?_)
                  have hg15_92 : v15_92.toInt = th 11 := hg15_92
                  have hg17_92 : v17_92.toInt = th 12 := hg17_92
                  have hg20_92 : v20_92.toInt = th 14 := hg20_92
                  refine call_v (run_V (rm := rm_X11_liars) hx hb hml hown hts (s_X11_liars l g ad (gset (gset th 37 zz16) 35 x45.toInt) _ _ _  hst hT (show th 34 = 0 by omega) (show 3 ≤ th 30 ∧ th 30 ≤ 9 by omega)) cV_X11_liars wg_1588 ⟨Nat.le_of_ble_eq_true rfl, Nat.le_of_ble_eq_true rfl⟩ hG hE hA hP hD hS (hst.1 255 (by decide)) hf93 rfl rfl hl.1 (As := []) (rest := []) rfl (Nat.le_of_ble_eq_true rfl) dX11_piece_137 ⟨Nat.le_of_ble_eq_true rfl, Nat.le_of_ble_eq_true rfl⟩) hA hD hS (fun L95 f96 H locs hp97 hP hD hS => ?_)
                  obtain ⟨eL98L, eL98T, eL98F⟩ := hp97
                  have eL98L : L95 = L := eL98L
                  rw [eL98L] at hP hD
                  obtain ⟨zz99, zz100, zz101, zz102, zz103, hzz99, eL98T⟩ := eL98T
                  have hzz99 : (zz16 ≤ zz99 ∧ zz99 ≤ 500) ∧ capI zz103 ((th 30)) := hzz99
                  have hT : TI g ad (gset (gset (gset (gset (gset (gset (gset th 37 zz16) 35 x45.toInt) 37 zz99) 40 zz100) 41 zz101) 42 zz102) 34 zz103) f96 := eL98T
                  have hT : TI g ad (gset (gset (gset (gset (gset (gset th 35 x45.toInt) 37 zz99) 40 zz100) 41 zz101) 42 zz102) 34 zz103) f96 := TI.cast hT (by funext q; by_cases hq0 : q = 34; (subst hq0; rfl); by_cases hq1 : q = 42; (subst hq1; rfl); by_cases hq2 : q = 41; (subst hq2; rfl); by_cases hq3 : q = 40; (subst hq3; rfl); by_cases hq4 : q = 37; (subst hq4; rfl); by_cases hq5 : q = 35; (subst hq5; rfl); simp only [gset, if_neg hq0, if_neg hq1, if_neg hq2, if_neg hq3, if_neg hq4, if_neg hq5])
                  have eL98F : ∀ b, b ≠ (ad 255) → b ≠ (ad 257) → f96 b = f48 b := eL98F
                  have hfr : (∀ b, b ≠ (ad 255) → b ≠ (ad 257) → f96 b = f b) := fun b z0_ z1_ => (eL98F b z0_ z1_).trans (hfr b z0_ z1_)
                  refine lv_iload_n hx hb dX11_piece_140 rfl (lv_at hl 3 rfl) ?_
                  refine lv_iconst (v := 5) hx hb dX11_piece_141 (by decide) ?_
                  refine lv_icmp_ne (tgt := 152) hx hb dX11_piece_142 (by decide) (fun c104 => ?_) (fun c104 => ?_)
                  ·
                    have oc5 : (5 : Int32).toInt = 5 := by decide
                    have cc105 : r11.toInt ≠ (5 : Int32).toInt := i32_ne c104
                    exact ret_v hx hb hr hlocks hP hD hS (Nat.le_of_ble_eq_true rfl) (Nat.le_of_ble_eq_true rfl) (⟨rfl, ⟨zz99, zz100, zz101, zz102, x45.toInt, (th 30), zz103, ⟨(show th 37 ≤ zz99 ∧ zz99 ≤ 500 from (by have ob13 : (0 : Int) ≤ (th 13) ∧ (th 13) ≤ 500 := (b0_13 hT :); have ob35 : (0 : Int) ≤ x45.toInt ∧ x45.toInt ≤ 63 := (b0_35 hT :); have ob36 : (0 : Int) ≤ (th 36) ∧ (th 36) ≤ 20 := (b0_36 hT :); have ob37 : (0 : Int) ≤ zz99 ∧ zz99 ≤ 500 := (b0_37 hT :); have ob40 : (0 : Int) ≤ zz100 ∧ zz100 ≤ 500 := (b0_40 hT :); have ob41 : (0 : Int) ≤ zz101 ∧ zz101 ≤ 500 := (b0_41 hT :); have ob42 : ((-1) : Int) ≤ zz102 ∧ zz102 ≤ 500 := (b0_42 hT :); have ob43 : ((-1) : Int) ≤ (th 43) ∧ (th 43) ≤ 1 := (b0_43 hT :); omega)), ⟨(by have ob13 : (0 : Int) ≤ (th 13) ∧ (th 13) ≤ 500 := (b0_13 hT :); have ob35 : (0 : Int) ≤ x45.toInt ∧ x45.toInt ≤ 63 := (b0_35 hT :); have ob36 : (0 : Int) ≤ (th 36) ∧ (th 36) ≤ 20 := (b0_36 hT :); have ob37 : (0 : Int) ≤ zz99 ∧ zz99 ≤ 500 := (b0_37 hT :); have ob40 : (0 : Int) ≤ zz100 ∧ zz100 ≤ 500 := (b0_40 hT :); have ob41 : (0 : Int) ≤ zz101 ∧ zz101 ≤ 500 := (b0_41 hT :); have ob42 : ((-1) : Int) ≤ zz102 ∧ zz102 ≤ 500 := (b0_42 hT :); have ob43 : ((-1) : Int) ≤ (th 43) ∧ (th 43) ≤ 1 := (b0_43 hT :); obtain ⟨o0a, o0b⟩ := (hb44 : In _ _ _); obtain ⟨o1a, o1b⟩ := (hb47 : In _ _ _); obtain ⟨o2a, o2b⟩ := (eL7R : In _ _ _); obtain ⟨o3a, o3b⟩ := (hb91 : In _ _ _); obtain ⟨o4a, o4b⟩ := (hb42 : In _ _ _); omega), (by have ob13 : (0 : Int) ≤ (th 13) ∧ (th 13) ≤ 500 := (b0_13 hT :); have ob35 : (0 : Int) ≤ x45.toInt ∧ x45.toInt ≤ 63 := (b0_35 hT :); have ob36 : (0 : Int) ≤ (th 36) ∧ (th 36) ≤ 20 := (b0_36 hT :); have ob37 : (0 : Int) ≤ zz99 ∧ zz99 ≤ 500 := (b0_37 hT :); have ob40 : (0 : Int) ≤ zz100 ∧ zz100 ≤ 500 := (b0_40 hT :); have ob41 : (0 : Int) ≤ zz101 ∧ zz101 ≤ 500 := (b0_41 hT :); have ob42 : ((-1) : Int) ≤ zz102 ∧ zz102 ≤ 500 := (b0_42 hT :); have ob43 : ((-1) : Int) ≤ (th 43) ∧ (th 43) ≤ 1 := (b0_43 hT :); obtain ⟨o0a, o0b⟩ := (hb44 : In _ _ _); obtain ⟨o1a, o1b⟩ := (hb47 : In _ _ _); obtain ⟨o2a, o2b⟩ := (eL7R : In _ _ _); obtain ⟨o3a, o3b⟩ := (hb91 : In _ _ _); obtain ⟨o4a, o4b⟩ := (hb42 : In _ _ _); omega), (by have ob13 : (0 : Int) ≤ (th 13) ∧ (th 13) ≤ 500 := (b0_13 hT :); have ob35 : (0 : Int) ≤ x45.toInt ∧ x45.toInt ≤ 63 := (b0_35 hT :); have ob36 : (0 : Int) ≤ (th 36) ∧ (th 36) ≤ 20 := (b0_36 hT :); have ob37 : (0 : Int) ≤ zz99 ∧ zz99 ≤ 500 := (b0_37 hT :); have ob40 : (0 : Int) ≤ zz100 ∧ zz100 ≤ 500 := (b0_40 hT :); have ob41 : (0 : Int) ≤ zz101 ∧ zz101 ≤ 500 := (b0_41 hT :); have ob42 : ((-1) : Int) ≤ zz102 ∧ zz102 ≤ 500 := (b0_42 hT :); have ob43 : ((-1) : Int) ≤ (th 43) ∧ (th 43) ≤ 1 := (b0_43 hT :); obtain ⟨o0a, o0b⟩ := (hb44 : In _ _ _); obtain ⟨o1a, o1b⟩ := (hb47 : In _ _ _); obtain ⟨o2a, o2b⟩ := (eL7R : In _ _ _); obtain ⟨o3a, o3b⟩ := (hb91 : In _ _ _); obtain ⟨o4a, o4b⟩ := (hb42 : In _ _ _); omega), hzz99.2, (by have ob13 : (0 : Int) ≤ (th 13) ∧ (th 13) ≤ 500 := (b0_13 hT :); have ob35 : (0 : Int) ≤ x45.toInt ∧ x45.toInt ≤ 63 := (b0_35 hT :); have ob36 : (0 : Int) ≤ (th 36) ∧ (th 36) ≤ 20 := (b0_36 hT :); have ob37 : (0 : Int) ≤ zz99 ∧ zz99 ≤ 500 := (b0_37 hT :); have ob40 : (0 : Int) ≤ zz100 ∧ zz100 ≤ 500 := (b0_40 hT :); have ob41 : (0 : Int) ≤ zz101 ∧ zz101 ≤ 500 := (b0_41 hT :); have ob42 : ((-1) : Int) ≤ zz102 ∧ zz102 ≤ 500 := (b0_42 hT :); have ob43 : ((-1) : Int) ≤ (th 43) ∧ (th 43) ≤ 1 := (b0_43 hT :); obtain ⟨o0a, o0b⟩ := (hb44 : In _ _ _); obtain ⟨o1a, o1b⟩ := (hb47 : In _ _ _); obtain ⟨o2a, o2b⟩ := (eL7R : In _ _ _); obtain ⟨o3a, o3b⟩ := (hb91 : In _ _ _); obtain ⟨o4a, o4b⟩ := (hb42 : In _ _ _); omega)⟩⟩, TI.cast hT (by funext q; by_cases hq0 : q = 34; (subst hq0; rfl); by_cases hq1 : q = 42; (subst hq1; rfl); by_cases hq2 : q = 41; (subst hq2; rfl); by_cases hq3 : q = 40; (subst hq3; rfl); by_cases hq4 : q = 37; (subst hq4; rfl); by_cases hq5 : q = 35; (subst hq5; rfl); by_cases hq6 : q = 30; (subst hq6; rfl); simp only [gset, if_neg hq0, if_neg hq1, if_neg hq2, if_neg hq3, if_neg hq4, if_neg hq5, if_neg hq6])⟩, hfr⟩) dX11_piece_152
                  ·
                    have oc5 : (5 : Int32).toInt = 5 := by decide
                    have cc106 : r11.toInt = (5 : Int32).toInt := congrArg Int32.toInt c104
                    exact In.empty (lo := 5) (hi := 4) (In.eq1 hb91 (⟨by decide, by decide⟩ : In 5 5 5) cc106 (by decide) (by decide)) (by decide)
              ·
                have oc3 : (3 : Int32).toInt = 3 := by decide
                have cc107 : r11.toInt = (3 : Int32).toInt := congrArg Int32.toInt c60
                have hb108 : In r11 3 3 := In.eq1 hb59 (⟨by decide, by decide⟩ : In 3 3 3) cc107 (by decide) (by decide)
                have hpk : r11.toInt = 3 := (by have ob13 : (0 : Int) ≤ (th 13) ∧ (th 13) ≤ 500 := (b0_13 hT :); have ob35 : (0 : Int) ≤ x45.toInt ∧ x45.toInt ≤ 63 := (b0_35 hT :); have ob36 : (0 : Int) ≤ (th 36) ∧ (th 36) ≤ 20 := (b0_36 hT :); have ob37 : (0 : Int) ≤ zz16 ∧ zz16 ≤ 500 := (b0_37 hT :); have ob40 : (0 : Int) ≤ (th 40) ∧ (th 40) ≤ 500 := (b0_40 hT :); have ob41 : (0 : Int) ≤ (th 41) ∧ (th 41) ≤ 500 := (b0_41 hT :); have ob42 : ((-1) : Int) ≤ (th 42) ∧ (th 42) ≤ 500 := (b0_42 hT :); have ob43 : ((-1) : Int) ≤ (th 43) ∧ (th 43) ≤ 1 := (b0_43 hT :); obtain ⟨o0a, o0b⟩ := (hb108 : In _ _ _); omega)
                have hp2 : (2 : Int) ^ r11.toInt.toNat = 8 := by rw [hpk]; rfl
                have hbk : bitI (th 35) r11.toInt = bitI (th 35) 3 := by rw [hpk]
                refine lv_aload_n hx hb dX11_piece_127 rfl (lv_at hl 0 rfl) ?_
                refine M0e hT (fun v0_109 v2_109 v3_109 v4_109 v5_109 v6_109 v8_109 v9_109 v12_109 v13_109 v14_109 v15_109 v16_109 v17_109 v18_109 v19_109 v20_109 v21_109 v22_109 v23_109 v25_109 v36_109 v37_109 v38_109 v39_109 v40_109 v45_109 v46_109 v47_109 v48_109 v50_109 v51_109 v53_109 v55_109 hf110 hv0_109 hv2_109 hg2_109 hv3_109 hg3_109 hv4_109 hg4_109 hv5_109 hg5_109 hv6_109 hg6_109 hv8_109 hg8_109 hv9_109 hg9_109 hv12_109 hv13_109 hg13_109 hv14_109 hg14_109 hv15_109 hg15_109 hv17_109 hg17_109 hv20_109 hg20_109 hv23_109 hg23_109 hv25_109 hg25_109 hv36_109 hg36_109 hv47_109 hg47_109 hv48_109 hg48_109 hv53_109 hg53_109 hv55_109 hg55_109 hrel0_109 => ?_)
                have hg15_109 : v15_109.toInt = th 11 := hg15_109
                have hg17_109 : v17_109.toInt = th 12 := hg17_109
                have hg20_109 : v20_109.toInt = th 14 := hg20_109
                refine call_v (run_V (rm := rm_X11_starts) hx hb hml hown hts (s_X11_starts l g ad (gset (gset th 37 zz16) 35 x45.toInt) _ _ _  hst hT ) cV_X11_starts wg_1584 ⟨Nat.le_of_ble_eq_true rfl, Nat.le_of_ble_eq_true rfl⟩ hG hE hA hP hD hS (hst.1 255 (by decide)) hf110 rfl rfl hl.1 (As := []) (rest := []) rfl (Nat.le_of_ble_eq_true rfl) dX11_piece_128 ⟨Nat.le_of_ble_eq_true rfl, Nat.le_of_ble_eq_true rfl⟩) hA hD hS (fun L112 f113 H locs hp114 hP hD hS => ?_)
                obtain ⟨eL115L, eL115T, eL115F⟩ := hp114
                have eL115L : L112 = L := eL115L
                rw [eL115L] at hP hD
                obtain ⟨zz116, zz117, zz118, zz119, hzz116, eL115T⟩ := eL115T
                have hzz116 : zz16 ≤ zz116 ∧ zz116 ≤ 500 := hzz116
                have hT : TI g ad (gset (gset (gset (gset (gset (gset th 37 zz16) 35 x45.toInt) 37 zz116) 40 zz117) 41 zz118) 42 zz119) f113 := eL115T
                have hT : TI g ad (gset (gset (gset (gset (gset th 35 x45.toInt) 37 zz116) 40 zz117) 41 zz118) 42 zz119) f113 := TI.cast hT (by funext q; by_cases hq0 : q = 42; (subst hq0; rfl); by_cases hq1 : q = 41; (subst hq1; rfl); by_cases hq2 : q = 40; (subst hq2; rfl); by_cases hq3 : q = 37; (subst hq3; rfl); by_cases hq4 : q = 35; (subst hq4; rfl); simp only [gset, if_neg hq0, if_neg hq1, if_neg hq2, if_neg hq3, if_neg hq4])
                have eL115F : ∀ b, b ≠ (ad 255) → b ≠ (ad 257) → f113 b = f48 b := eL115F
                have hfr : (∀ b, b ≠ (ad 255) → b ≠ (ad 257) → f113 b = f b) := fun b z0_ z1_ => (eL115F b z0_ z1_).trans (hfr b z0_ z1_)
                refine lv_iload_n hx hb dX11_piece_131 rfl (lv_at hl 3 rfl) ?_
                refine lv_iconst (v := 4) hx hb dX11_piece_132 (by decide) ?_
                refine lv_icmp_ne (tgt := 140) hx hb dX11_piece_133 (by decide) (fun c120 => ?_) (fun c120 => ?_)
                ·
                  have oc4 : (4 : Int32).toInt = 4 := by decide
                  have cc121 : r11.toInt ≠ (4 : Int32).toInt := i32_ne c120
                  refine lv_iload_n hx hb dX11_piece_140 rfl (lv_at hl 3 rfl) ?_
                  refine lv_iconst (v := 5) hx hb dX11_piece_141 (by decide) ?_
                  refine lv_icmp_ne (tgt := 152) hx hb dX11_piece_142 (by decide) (fun c122 => ?_) (fun c122 => ?_)
                  ·
                    have oc5 : (5 : Int32).toInt = 5 := by decide
                    have cc123 : r11.toInt ≠ (5 : Int32).toInt := i32_ne c122
                    exact ret_v hx hb hr hlocks hP hD hS (Nat.le_of_ble_eq_true rfl) (Nat.le_of_ble_eq_true rfl) (⟨rfl, ⟨zz116, zz117, zz118, zz119, x45.toInt, (th 30), (th 34), ⟨(show th 37 ≤ zz116 ∧ zz116 ≤ 500 from (by have ob13 : (0 : Int) ≤ (th 13) ∧ (th 13) ≤ 500 := (b0_13 hT :); have ob35 : (0 : Int) ≤ x45.toInt ∧ x45.toInt ≤ 63 := (b0_35 hT :); have ob36 : (0 : Int) ≤ (th 36) ∧ (th 36) ≤ 20 := (b0_36 hT :); have ob37 : (0 : Int) ≤ zz116 ∧ zz116 ≤ 500 := (b0_37 hT :); have ob40 : (0 : Int) ≤ zz117 ∧ zz117 ≤ 500 := (b0_40 hT :); have ob41 : (0 : Int) ≤ zz118 ∧ zz118 ≤ 500 := (b0_41 hT :); have ob42 : ((-1) : Int) ≤ zz119 ∧ zz119 ≤ 500 := (b0_42 hT :); have ob43 : ((-1) : Int) ≤ (th 43) ∧ (th 43) ≤ 1 := (b0_43 hT :); omega)), ⟨(by have ob13 : (0 : Int) ≤ (th 13) ∧ (th 13) ≤ 500 := (b0_13 hT :); have ob35 : (0 : Int) ≤ x45.toInt ∧ x45.toInt ≤ 63 := (b0_35 hT :); have ob36 : (0 : Int) ≤ (th 36) ∧ (th 36) ≤ 20 := (b0_36 hT :); have ob37 : (0 : Int) ≤ zz116 ∧ zz116 ≤ 500 := (b0_37 hT :); have ob40 : (0 : Int) ≤ zz117 ∧ zz117 ≤ 500 := (b0_40 hT :); have ob41 : (0 : Int) ≤ zz118 ∧ zz118 ≤ 500 := (b0_41 hT :); have ob42 : ((-1) : Int) ≤ zz119 ∧ zz119 ≤ 500 := (b0_42 hT :); have ob43 : ((-1) : Int) ≤ (th 43) ∧ (th 43) ≤ 1 := (b0_43 hT :); obtain ⟨o0a, o0b⟩ := (hb44 : In _ _ _); obtain ⟨o1a, o1b⟩ := (hb47 : In _ _ _); obtain ⟨o2a, o2b⟩ := (eL7R : In _ _ _); obtain ⟨o3a, o3b⟩ := (hb108 : In _ _ _); obtain ⟨o4a, o4b⟩ := (hb42 : In _ _ _); omega), (by have ob13 : (0 : Int) ≤ (th 13) ∧ (th 13) ≤ 500 := (b0_13 hT :); have ob35 : (0 : Int) ≤ x45.toInt ∧ x45.toInt ≤ 63 := (b0_35 hT :); have ob36 : (0 : Int) ≤ (th 36) ∧ (th 36) ≤ 20 := (b0_36 hT :); have ob37 : (0 : Int) ≤ zz116 ∧ zz116 ≤ 500 := (b0_37 hT :); have ob40 : (0 : Int) ≤ zz117 ∧ zz117 ≤ 500 := (b0_40 hT :); have ob41 : (0 : Int) ≤ zz118 ∧ zz118 ≤ 500 := (b0_41 hT :); have ob42 : ((-1) : Int) ≤ zz119 ∧ zz119 ≤ 500 := (b0_42 hT :); have ob43 : ((-1) : Int) ≤ (th 43) ∧ (th 43) ≤ 1 := (b0_43 hT :); obtain ⟨o0a, o0b⟩ := (hb44 : In _ _ _); obtain ⟨o1a, o1b⟩ := (hb47 : In _ _ _); obtain ⟨o2a, o2b⟩ := (eL7R : In _ _ _); obtain ⟨o3a, o3b⟩ := (hb108 : In _ _ _); obtain ⟨o4a, o4b⟩ := (hb42 : In _ _ _); omega), (by have ob13 : (0 : Int) ≤ (th 13) ∧ (th 13) ≤ 500 := (b0_13 hT :); have ob35 : (0 : Int) ≤ x45.toInt ∧ x45.toInt ≤ 63 := (b0_35 hT :); have ob36 : (0 : Int) ≤ (th 36) ∧ (th 36) ≤ 20 := (b0_36 hT :); have ob37 : (0 : Int) ≤ zz116 ∧ zz116 ≤ 500 := (b0_37 hT :); have ob40 : (0 : Int) ≤ zz117 ∧ zz117 ≤ 500 := (b0_40 hT :); have ob41 : (0 : Int) ≤ zz118 ∧ zz118 ≤ 500 := (b0_41 hT :); have ob42 : ((-1) : Int) ≤ zz119 ∧ zz119 ≤ 500 := (b0_42 hT :); have ob43 : ((-1) : Int) ≤ (th 43) ∧ (th 43) ≤ 1 := (b0_43 hT :); obtain ⟨o0a, o0b⟩ := (hb44 : In _ _ _); obtain ⟨o1a, o1b⟩ := (hb47 : In _ _ _); obtain ⟨o2a, o2b⟩ := (eL7R : In _ _ _); obtain ⟨o3a, o3b⟩ := (hb108 : In _ _ _); obtain ⟨o4a, o4b⟩ := (hb42 : In _ _ _); omega), hd4, (by have ob13 : (0 : Int) ≤ (th 13) ∧ (th 13) ≤ 500 := (b0_13 hT :); have ob35 : (0 : Int) ≤ x45.toInt ∧ x45.toInt ≤ 63 := (b0_35 hT :); have ob36 : (0 : Int) ≤ (th 36) ∧ (th 36) ≤ 20 := (b0_36 hT :); have ob37 : (0 : Int) ≤ zz116 ∧ zz116 ≤ 500 := (b0_37 hT :); have ob40 : (0 : Int) ≤ zz117 ∧ zz117 ≤ 500 := (b0_40 hT :); have ob41 : (0 : Int) ≤ zz118 ∧ zz118 ≤ 500 := (b0_41 hT :); have ob42 : ((-1) : Int) ≤ zz119 ∧ zz119 ≤ 500 := (b0_42 hT :); have ob43 : ((-1) : Int) ≤ (th 43) ∧ (th 43) ≤ 1 := (b0_43 hT :); obtain ⟨o0a, o0b⟩ := (hb44 : In _ _ _); obtain ⟨o1a, o1b⟩ := (hb47 : In _ _ _); obtain ⟨o2a, o2b⟩ := (eL7R : In _ _ _); obtain ⟨o3a, o3b⟩ := (hb108 : In _ _ _); obtain ⟨o4a, o4b⟩ := (hb42 : In _ _ _); omega)⟩⟩, TI.cast hT (by funext q; by_cases hq0 : q = 42; (subst hq0; rfl); by_cases hq1 : q = 41; (subst hq1; rfl); by_cases hq2 : q = 40; (subst hq2; rfl); by_cases hq3 : q = 37; (subst hq3; rfl); by_cases hq4 : q = 35; (subst hq4; rfl); by_cases hq5 : q = 30; (subst hq5; rfl); by_cases hq6 : q = 34; (subst hq6; rfl); simp only [gset, if_neg hq0, if_neg hq1, if_neg hq2, if_neg hq3, if_neg hq4, if_neg hq5, if_neg hq6])⟩, hfr⟩) dX11_piece_152
                  ·
                    have oc5 : (5 : Int32).toInt = 5 := by decide
                    have cc124 : r11.toInt = (5 : Int32).toInt := congrArg Int32.toInt c122
                    exact In.empty (lo := 5) (hi := 3) (In.eq1 hb108 (⟨by decide, by decide⟩ : In 5 5 5) cc124 (by decide) (by decide)) (by decide)
                ·
                  have oc4 : (4 : Int32).toInt = 4 := by decide
                  have cc125 : r11.toInt = (4 : Int32).toInt := congrArg Int32.toInt c120
                  exact In.empty (lo := 4) (hi := 3) (In.eq1 hb108 (⟨by decide, by decide⟩ : In 4 4 4) cc125 (by decide) (by decide)) (by decide)
            ·
              have oc2 : (2 : Int32).toInt = 2 := by decide
              have cc126 : r11.toInt = (2 : Int32).toInt := congrArg Int32.toInt c57
              have hb127 : In r11 2 2 := In.eq1 hb56 (⟨by decide, by decide⟩ : In 2 2 2) cc126 (by decide) (by decide)
              have hpk : r11.toInt = 2 := (by have ob13 : (0 : Int) ≤ (th 13) ∧ (th 13) ≤ 500 := (b0_13 hT :); have ob35 : (0 : Int) ≤ x45.toInt ∧ x45.toInt ≤ 63 := (b0_35 hT :); have ob36 : (0 : Int) ≤ (th 36) ∧ (th 36) ≤ 20 := (b0_36 hT :); have ob37 : (0 : Int) ≤ zz16 ∧ zz16 ≤ 500 := (b0_37 hT :); have ob40 : (0 : Int) ≤ (th 40) ∧ (th 40) ≤ 500 := (b0_40 hT :); have ob41 : (0 : Int) ≤ (th 41) ∧ (th 41) ≤ 500 := (b0_41 hT :); have ob42 : ((-1) : Int) ≤ (th 42) ∧ (th 42) ≤ 500 := (b0_42 hT :); have ob43 : ((-1) : Int) ≤ (th 43) ∧ (th 43) ≤ 1 := (b0_43 hT :); obtain ⟨o0a, o0b⟩ := (hb127 : In _ _ _); omega)
              have hp2 : (2 : Int) ^ r11.toInt.toNat = 4 := by rw [hpk]; rfl
              have hbk : bitI (th 35) r11.toInt = bitI (th 35) 2 := by rw [hpk]
              refine lv_aload_n hx hb dX11_piece_109 rfl (lv_at hl 0 rfl) ?_
              refine M0e hT (fun v0_128 v2_128 v3_128 v4_128 v5_128 v6_128 v8_128 v9_128 v12_128 v13_128 v14_128 v15_128 v16_128 v17_128 v18_128 v19_128 v20_128 v21_128 v22_128 v23_128 v25_128 v36_128 v37_128 v38_128 v39_128 v40_128 v45_128 v46_128 v47_128 v48_128 v50_128 v51_128 v53_128 v55_128 hf129 hv0_128 hv2_128 hg2_128 hv3_128 hg3_128 hv4_128 hg4_128 hv5_128 hg5_128 hv6_128 hg6_128 hv8_128 hg8_128 hv9_128 hg9_128 hv12_128 hv13_128 hg13_128 hv14_128 hg14_128 hv15_128 hg15_128 hv17_128 hg17_128 hv20_128 hg20_128 hv23_128 hg23_128 hv25_128 hg25_128 hv36_128 hg36_128 hv47_128 hg47_128 hv48_128 hg48_128 hv53_128 hg53_128 hv55_128 hg55_128 hrel0_128 => ?_)
              have hg15_128 : v15_128.toInt = th 11 := hg15_128
              have hg17_128 : v17_128.toInt = th 12 := hg17_128
              have hg20_128 : v20_128.toInt = th 14 := hg20_128
              refine pl_get (v := .ref (ad 257)) hx hb hts (fun w h => mT (inX11 w h)) hown hG.1 hP (hst.1 255 (by decide)) hf129 rfl 7 (by decide) (hts _ (mT wg_1343)) (fun _ h => h) rfl dX11_piece_110 ?_
              refine lv_iconst (v := 2) hx hb dX11_piece_113 (by decide) ?_
              refine lv_aload_n hx hb dX11_piece_114 rfl (lv_at hl 0 rfl) ?_
              refine lv_iconst (v := 1) hx hb dX11_piece_115 (by decide) ?_
              refine lv_bipush (v := 6) hx hb dX11_piece_116 (by decide) ?_
              refine call_i (run_V (rm := rm_X11_digit_1_6) hx hb hml hown hts (s_X11_digit_1_6 l g ad (gset (gset th 37 zz16) 35 x45.toInt) _ _ _  hst hT ) cV_X11_digit wg_1566 ⟨Nat.le_of_ble_eq_true rfl, Nat.le_of_ble_eq_true rfl⟩ hG hE hA hP hD hS (hst.1 255 (by decide)) hf129 rfl rfl hl.1 (As := [.int 1, .int 6]) (rest := [.int 2, .ref (ad 257)]) rfl (Nat.le_of_ble_eq_true rfl) dX11_piece_118 ⟨Nat.le_of_ble_eq_true rfl, Nat.le_of_ble_eq_true rfl⟩) hA hD hS (fun r130 L131 f132 H locs hp133 hP hD hS => ?_)
              obtain ⟨eL134L, eL134T, eL134F, eL134R⟩ := hp133
              have eL134L : L131 = L := eL134L
              rw [eL134L] at hP hD
              obtain ⟨zz135, zz136, zz137, zz138, hzz135, eL134T⟩ := eL134T
              have hzz135 : (zz16 ≤ zz136 ∧ 0 ≤ zz136 ∧ 0 ≤ zz137 ∧ zz136 + zz137 = zz135 ∧ zz135 ≤ 500) := hzz135
              have hT : TI g ad (gset (gset (gset (gset (gset (gset th 37 zz16) 35 x45.toInt) 37 zz135) 40 zz136) 41 zz137) 42 zz138) f132 := eL134T
              have hT : TI g ad (gset (gset (gset (gset (gset th 35 x45.toInt) 37 zz135) 40 zz136) 41 zz137) 42 zz138) f132 := TI.cast hT (by funext q; by_cases hq0 : q = 42; (subst hq0; rfl); by_cases hq1 : q = 41; (subst hq1; rfl); by_cases hq2 : q = 40; (subst hq2; rfl); by_cases hq3 : q = 37; (subst hq3; rfl); by_cases hq4 : q = 35; (subst hq4; rfl); simp only [gset, if_neg hq0, if_neg hq1, if_neg hq2, if_neg hq3, if_neg hq4])
              have eL134F : ∀ b, b ≠ (ad 255) → f132 b = f48 b := eL134F
              have hfr : (∀ b, b ≠ (ad 255) → b ≠ (ad 257) → f132 b = f b) := fun b z0_ z1_ => (eL134F b z0_).trans (hfr b z0_ z1_)
              have eL134R : In r130 1 6 := eL134R
              obtain ⟨rw139, hf140, hpn141, hpg142, hpn143, hpn144, hpn145, hpg146⟩ := hT.2.2 2 (by decide)
              refine pl_iastE hx hb hG.1 hP hD hS (hst.1 257 (by decide)) 0 hf140 rfl (In.inb (⟨by decide, by decide⟩ : In 2 2 2) (by decide) (by decide)) dX11_piece_121 (fun H locs f147 r150 er150 hf148 ho149 hP hD hS => ?_)
              have hpn151 : In (r150 0) 0 9 := (upd_neI (k := 0) er150 (by decide)) ▸ hpn141
              have hpg152 := (congrArg Int32.toInt (upd_neI (k := 0) er150 (by decide))).trans hpg142
              have hpn153 : In (r150 1) 0 4 := (upd_neI (k := 1) er150 (by decide)) ▸ hpn143
              have hpn154 : In (r150 2) 0 6 := (upd_eqI (k := 2) er150 (by decide)) ▸ (In.mono eL134R (by decide) (by decide))
              have hpn155 : In (r150 4) 0 511 := (upd_neI (k := 4) er150 (by decide)) ▸ hpn145
              have hpg156 := (congrArg Int32.toInt (upd_neI (k := 4) er150 (by decide))).trans hpg146
              have hfr : (∀ b, b ≠ (ad 255) → b ≠ (ad 257) → f147 b = f b) := fun b z0_ z1_ => (ho149 b z1_).trans (hfr b z0_ z1_)
              refine lv_iload_n hx hb dX11_piece_122 rfl (lv_at hl 3 rfl) ?_
              refine lv_iconst (v := 3) hx hb dX11_piece_123 (by decide) ?_
              have hT := TI.updM hT hst (k := 2) (by decide) hf148 ho149 ⟨r150, rfl, hpn151, (hpg152.trans rfl), hpn153, hpn154, hpn155, (hpg156.trans rfl)⟩
              refine lv_icmp_ne (tgt := 131) hx hb dX11_piece_124 (by decide) (fun c157 => ?_) (fun c157 => ?_)
              ·
                have oc3 : (3 : Int32).toInt = 3 := by decide
                have cc158 : r11.toInt ≠ (3 : Int32).toInt := i32_ne c157
                refine lv_iload_n hx hb dX11_piece_131 rfl (lv_at hl 3 rfl) ?_
                refine lv_iconst (v := 4) hx hb dX11_piece_132 (by decide) ?_
                refine lv_icmp_ne (tgt := 140) hx hb dX11_piece_133 (by decide) (fun c159 => ?_) (fun c159 => ?_)
                ·
                  have oc4 : (4 : Int32).toInt = 4 := by decide
                  have cc160 : r11.toInt ≠ (4 : Int32).toInt := i32_ne c159
                  refine lv_iload_n hx hb dX11_piece_140 rfl (lv_at hl 3 rfl) ?_
                  refine lv_iconst (v := 5) hx hb dX11_piece_141 (by decide) ?_
                  refine lv_icmp_ne (tgt := 152) hx hb dX11_piece_142 (by decide) (fun c161 => ?_) (fun c161 => ?_)
                  ·
                    have oc5 : (5 : Int32).toInt = 5 := by decide
                    have cc162 : r11.toInt ≠ (5 : Int32).toInt := i32_ne c161
                    exact ret_v hx hb hr hlocks hP hD hS (Nat.le_of_ble_eq_true rfl) (Nat.le_of_ble_eq_true rfl) (⟨rfl, ⟨zz135, zz136, zz137, zz138, x45.toInt, (th 30), (th 34), ⟨(show th 37 ≤ zz135 ∧ zz135 ≤ 500 from (by have ob13 : (0 : Int) ≤ (th 13) ∧ (th 13) ≤ 500 := (b0_13 hT :); have ob35 : (0 : Int) ≤ x45.toInt ∧ x45.toInt ≤ 63 := (b0_35 hT :); have ob36 : (0 : Int) ≤ (th 36) ∧ (th 36) ≤ 20 := (b0_36 hT :); have ob37 : (0 : Int) ≤ zz135 ∧ zz135 ≤ 500 := (b0_37 hT :); have ob40 : (0 : Int) ≤ zz136 ∧ zz136 ≤ 500 := (b0_40 hT :); have ob41 : (0 : Int) ≤ zz137 ∧ zz137 ≤ 500 := (b0_41 hT :); have ob42 : ((-1) : Int) ≤ zz138 ∧ zz138 ≤ 500 := (b0_42 hT :); have ob43 : ((-1) : Int) ≤ (th 43) ∧ (th 43) ≤ 1 := (b0_43 hT :); omega)), ⟨(by have ob13 : (0 : Int) ≤ (th 13) ∧ (th 13) ≤ 500 := (b0_13 hT :); have ob35 : (0 : Int) ≤ x45.toInt ∧ x45.toInt ≤ 63 := (b0_35 hT :); have ob36 : (0 : Int) ≤ (th 36) ∧ (th 36) ≤ 20 := (b0_36 hT :); have ob37 : (0 : Int) ≤ zz135 ∧ zz135 ≤ 500 := (b0_37 hT :); have ob40 : (0 : Int) ≤ zz136 ∧ zz136 ≤ 500 := (b0_40 hT :); have ob41 : (0 : Int) ≤ zz137 ∧ zz137 ≤ 500 := (b0_41 hT :); have ob42 : ((-1) : Int) ≤ zz138 ∧ zz138 ≤ 500 := (b0_42 hT :); have ob43 : ((-1) : Int) ≤ (th 43) ∧ (th 43) ≤ 1 := (b0_43 hT :); obtain ⟨o0a, o0b⟩ := (hb44 : In _ _ _); obtain ⟨o1a, o1b⟩ := (hb47 : In _ _ _); obtain ⟨o2a, o2b⟩ := (eL7R : In _ _ _); obtain ⟨o3a, o3b⟩ := (hb127 : In _ _ _); obtain ⟨o4a, o4b⟩ := (hb42 : In _ _ _); obtain ⟨o5a, o5b⟩ := (eL134R : In _ _ _); omega), (by have ob13 : (0 : Int) ≤ (th 13) ∧ (th 13) ≤ 500 := (b0_13 hT :); have ob35 : (0 : Int) ≤ x45.toInt ∧ x45.toInt ≤ 63 := (b0_35 hT :); have ob36 : (0 : Int) ≤ (th 36) ∧ (th 36) ≤ 20 := (b0_36 hT :); have ob37 : (0 : Int) ≤ zz135 ∧ zz135 ≤ 500 := (b0_37 hT :); have ob40 : (0 : Int) ≤ zz136 ∧ zz136 ≤ 500 := (b0_40 hT :); have ob41 : (0 : Int) ≤ zz137 ∧ zz137 ≤ 500 := (b0_41 hT :); have ob42 : ((-1) : Int) ≤ zz138 ∧ zz138 ≤ 500 := (b0_42 hT :); have ob43 : ((-1) : Int) ≤ (th 43) ∧ (th 43) ≤ 1 := (b0_43 hT :); obtain ⟨o0a, o0b⟩ := (hb44 : In _ _ _); obtain ⟨o1a, o1b⟩ := (hb47 : In _ _ _); obtain ⟨o2a, o2b⟩ := (eL7R : In _ _ _); obtain ⟨o3a, o3b⟩ := (hb127 : In _ _ _); obtain ⟨o4a, o4b⟩ := (hb42 : In _ _ _); obtain ⟨o5a, o5b⟩ := (eL134R : In _ _ _); omega), (by have ob13 : (0 : Int) ≤ (th 13) ∧ (th 13) ≤ 500 := (b0_13 hT :); have ob35 : (0 : Int) ≤ x45.toInt ∧ x45.toInt ≤ 63 := (b0_35 hT :); have ob36 : (0 : Int) ≤ (th 36) ∧ (th 36) ≤ 20 := (b0_36 hT :); have ob37 : (0 : Int) ≤ zz135 ∧ zz135 ≤ 500 := (b0_37 hT :); have ob40 : (0 : Int) ≤ zz136 ∧ zz136 ≤ 500 := (b0_40 hT :); have ob41 : (0 : Int) ≤ zz137 ∧ zz137 ≤ 500 := (b0_41 hT :); have ob42 : ((-1) : Int) ≤ zz138 ∧ zz138 ≤ 500 := (b0_42 hT :); have ob43 : ((-1) : Int) ≤ (th 43) ∧ (th 43) ≤ 1 := (b0_43 hT :); obtain ⟨o0a, o0b⟩ := (hb44 : In _ _ _); obtain ⟨o1a, o1b⟩ := (hb47 : In _ _ _); obtain ⟨o2a, o2b⟩ := (eL7R : In _ _ _); obtain ⟨o3a, o3b⟩ := (hb127 : In _ _ _); obtain ⟨o4a, o4b⟩ := (hb42 : In _ _ _); obtain ⟨o5a, o5b⟩ := (eL134R : In _ _ _); omega), hd4, (by have ob13 : (0 : Int) ≤ (th 13) ∧ (th 13) ≤ 500 := (b0_13 hT :); have ob35 : (0 : Int) ≤ x45.toInt ∧ x45.toInt ≤ 63 := (b0_35 hT :); have ob36 : (0 : Int) ≤ (th 36) ∧ (th 36) ≤ 20 := (b0_36 hT :); have ob37 : (0 : Int) ≤ zz135 ∧ zz135 ≤ 500 := (b0_37 hT :); have ob40 : (0 : Int) ≤ zz136 ∧ zz136 ≤ 500 := (b0_40 hT :); have ob41 : (0 : Int) ≤ zz137 ∧ zz137 ≤ 500 := (b0_41 hT :); have ob42 : ((-1) : Int) ≤ zz138 ∧ zz138 ≤ 500 := (b0_42 hT :); have ob43 : ((-1) : Int) ≤ (th 43) ∧ (th 43) ≤ 1 := (b0_43 hT :); obtain ⟨o0a, o0b⟩ := (hb44 : In _ _ _); obtain ⟨o1a, o1b⟩ := (hb47 : In _ _ _); obtain ⟨o2a, o2b⟩ := (eL7R : In _ _ _); obtain ⟨o3a, o3b⟩ := (hb127 : In _ _ _); obtain ⟨o4a, o4b⟩ := (hb42 : In _ _ _); obtain ⟨o5a, o5b⟩ := (eL134R : In _ _ _); omega)⟩⟩, TI.cast hT (by funext q; by_cases hq0 : q = 42; (subst hq0; rfl); by_cases hq1 : q = 41; (subst hq1; rfl); by_cases hq2 : q = 40; (subst hq2; rfl); by_cases hq3 : q = 37; (subst hq3; rfl); by_cases hq4 : q = 35; (subst hq4; rfl); by_cases hq5 : q = 30; (subst hq5; rfl); by_cases hq6 : q = 34; (subst hq6; rfl); simp only [gset, if_neg hq0, if_neg hq1, if_neg hq2, if_neg hq3, if_neg hq4, if_neg hq5, if_neg hq6])⟩, hfr⟩) dX11_piece_152
                  ·
                    have oc5 : (5 : Int32).toInt = 5 := by decide
                    have cc163 : r11.toInt = (5 : Int32).toInt := congrArg Int32.toInt c161
                    exact In.empty (lo := 5) (hi := 2) (In.eq1 hb127 (⟨by decide, by decide⟩ : In 5 5 5) cc163 (by decide) (by decide)) (by decide)
                ·
                  have oc4 : (4 : Int32).toInt = 4 := by decide
                  have cc164 : r11.toInt = (4 : Int32).toInt := congrArg Int32.toInt c159
                  exact In.empty (lo := 4) (hi := 2) (In.eq1 hb127 (⟨by decide, by decide⟩ : In 4 4 4) cc164 (by decide) (by decide)) (by decide)
              ·
                have oc3 : (3 : Int32).toInt = 3 := by decide
                have cc165 : r11.toInt = (3 : Int32).toInt := congrArg Int32.toInt c157
                exact In.empty (lo := 3) (hi := 2) (In.eq1 hb127 (⟨by decide, by decide⟩ : In 3 3 3) cc165 (by decide) (by decide)) (by decide)
          ·
            have oc1 : (1 : Int32).toInt = 1 := by decide
            have cc166 : r11.toInt = (1 : Int32).toInt := congrArg Int32.toInt c54
            have hb167 : In r11 1 1 := In.eq1 hb53 (⟨by decide, by decide⟩ : In 1 1 1) cc166 (by decide) (by decide)
            have hpk : r11.toInt = 1 := (by have ob13 : (0 : Int) ≤ (th 13) ∧ (th 13) ≤ 500 := (b0_13 hT :); have ob35 : (0 : Int) ≤ x45.toInt ∧ x45.toInt ≤ 63 := (b0_35 hT :); have ob36 : (0 : Int) ≤ (th 36) ∧ (th 36) ≤ 20 := (b0_36 hT :); have ob37 : (0 : Int) ≤ zz16 ∧ zz16 ≤ 500 := (b0_37 hT :); have ob40 : (0 : Int) ≤ (th 40) ∧ (th 40) ≤ 500 := (b0_40 hT :); have ob41 : (0 : Int) ≤ (th 41) ∧ (th 41) ≤ 500 := (b0_41 hT :); have ob42 : ((-1) : Int) ≤ (th 42) ∧ (th 42) ≤ 500 := (b0_42 hT :); have ob43 : ((-1) : Int) ≤ (th 43) ∧ (th 43) ≤ 1 := (b0_43 hT :); obtain ⟨o0a, o0b⟩ := (hb167 : In _ _ _); omega)
            have hp2 : (2 : Int) ^ r11.toInt.toNat = 2 := by rw [hpk]; rfl
            have hbk : bitI (th 35) r11.toInt = bitI (th 35) 1 := by rw [hpk]
            refine lv_aload_n hx hb dX11_piece_92 rfl (lv_at hl 0 rfl) ?_
            refine M0e hT (fun v0_168 v2_168 v3_168 v4_168 v5_168 v6_168 v8_168 v9_168 v12_168 v13_168 v14_168 v15_168 v16_168 v17_168 v18_168 v19_168 v20_168 v21_168 v22_168 v23_168 v25_168 v36_168 v37_168 v38_168 v39_168 v40_168 v45_168 v46_168 v47_168 v48_168 v50_168 v51_168 v53_168 v55_168 hf169 hv0_168 hv2_168 hg2_168 hv3_168 hg3_168 hv4_168 hg4_168 hv5_168 hg5_168 hv6_168 hg6_168 hv8_168 hg8_168 hv9_168 hg9_168 hv12_168 hv13_168 hg13_168 hv14_168 hg14_168 hv15_168 hg15_168 hv17_168 hg17_168 hv20_168 hg20_168 hv23_168 hg23_168 hv25_168 hg25_168 hv36_168 hg36_168 hv47_168 hg47_168 hv48_168 hg48_168 hv53_168 hg53_168 hv55_168 hg55_168 hrel0_168 => ?_)
            have hg15_168 : v15_168.toInt = th 11 := hg15_168
            have hg17_168 : v17_168.toInt = th 12 := hg17_168
            have hg20_168 : v20_168.toInt = th 14 := hg20_168
            refine pl_get (v := .ref (ad 257)) hx hb hts (fun w h => mT (inX11 w h)) hown hG.1 hP (hst.1 255 (by decide)) hf169 rfl 7 (by decide) (hts _ (mT wg_1343)) (fun _ h => h) rfl dX11_piece_93 ?_
            refine lv_iconst (v := 1) hx hb dX11_piece_96 (by decide) ?_
            refine lv_aload_n hx hb dX11_piece_97 rfl (lv_at hl 0 rfl) ?_
            refine lv_iconst (v := 0) hx hb dX11_piece_98 (by decide) ?_
            refine lv_iconst (v := 4) hx hb dX11_piece_99 (by decide) ?_
            refine call_i (run_V (rm := rm_X11_digit_0_4) hx hb hml hown hts (s_X11_digit_0_4 l g ad (gset (gset th 37 zz16) 35 x45.toInt) _ _ _  hst hT ) cV_X11_digit wg_1566 ⟨Nat.le_of_ble_eq_true rfl, Nat.le_of_ble_eq_true rfl⟩ hG hE hA hP hD hS (hst.1 255 (by decide)) hf169 rfl rfl hl.1 (As := [.int 0, .int 4]) (rest := [.int 1, .ref (ad 257)]) rfl (Nat.le_of_ble_eq_true rfl) dX11_piece_100 ⟨Nat.le_of_ble_eq_true rfl, Nat.le_of_ble_eq_true rfl⟩) hA hD hS (fun r170 L171 f172 H locs hp173 hP hD hS => ?_)
            obtain ⟨eL174L, eL174T, eL174F, eL174R⟩ := hp173
            have eL174L : L171 = L := eL174L
            rw [eL174L] at hP hD
            obtain ⟨zz175, zz176, zz177, zz178, hzz175, eL174T⟩ := eL174T
            have hzz175 : (zz16 ≤ zz176 ∧ 0 ≤ zz176 ∧ 0 ≤ zz177 ∧ zz176 + zz177 = zz175 ∧ zz175 ≤ 500) := hzz175
            have hT : TI g ad (gset (gset (gset (gset (gset (gset th 37 zz16) 35 x45.toInt) 37 zz175) 40 zz176) 41 zz177) 42 zz178) f172 := eL174T
            have hT : TI g ad (gset (gset (gset (gset (gset th 35 x45.toInt) 37 zz175) 40 zz176) 41 zz177) 42 zz178) f172 := TI.cast hT (by funext q; by_cases hq0 : q = 42; (subst hq0; rfl); by_cases hq1 : q = 41; (subst hq1; rfl); by_cases hq2 : q = 40; (subst hq2; rfl); by_cases hq3 : q = 37; (subst hq3; rfl); by_cases hq4 : q = 35; (subst hq4; rfl); simp only [gset, if_neg hq0, if_neg hq1, if_neg hq2, if_neg hq3, if_neg hq4])
            have eL174F : ∀ b, b ≠ (ad 255) → f172 b = f48 b := eL174F
            have hfr : (∀ b, b ≠ (ad 255) → b ≠ (ad 257) → f172 b = f b) := fun b z0_ z1_ => (eL174F b z0_).trans (hfr b z0_ z1_)
            have eL174R : In r170 0 4 := eL174R
            obtain ⟨rw179, hf180, hpn181, hpg182, hpn183, hpn184, hpn185, hpg186⟩ := hT.2.2 2 (by decide)
            refine pl_iastE hx hb hG.1 hP hD hS (hst.1 257 (by decide)) 0 hf180 rfl (In.inb (⟨by decide, by decide⟩ : In 1 1 1) (by decide) (by decide)) dX11_piece_103 (fun H locs f187 r190 er190 hf188 ho189 hP hD hS => ?_)
            have hpn191 : In (r190 0) 0 9 := (upd_neI (k := 0) er190 (by decide)) ▸ hpn181
            have hpg192 := (congrArg Int32.toInt (upd_neI (k := 0) er190 (by decide))).trans hpg182
            have hpn193 : In (r190 1) 0 4 := (upd_eqI (k := 1) er190 (by decide)) ▸ eL174R
            have hpn194 : In (r190 2) 0 6 := (upd_neI (k := 2) er190 (by decide)) ▸ hpn184
            have hpn195 : In (r190 4) 0 511 := (upd_neI (k := 4) er190 (by decide)) ▸ hpn185
            have hpg196 := (congrArg Int32.toInt (upd_neI (k := 4) er190 (by decide))).trans hpg186
            have hfr : (∀ b, b ≠ (ad 255) → b ≠ (ad 257) → f187 b = f b) := fun b z0_ z1_ => (ho189 b z1_).trans (hfr b z0_ z1_)
            refine lv_iload_n hx hb dX11_piece_104 rfl (lv_at hl 3 rfl) ?_
            refine lv_iconst (v := 2) hx hb dX11_piece_105 (by decide) ?_
            have hT := TI.updM hT hst (k := 2) (by decide) hf188 ho189 ⟨r190, rfl, hpn191, (hpg192.trans rfl), hpn193, hpn194, hpn195, (hpg196.trans rfl)⟩
            refine lv_icmp_ne (tgt := 122) hx hb dX11_piece_106 (by decide) (fun c197 => ?_) (fun c197 => ?_)
            ·
              have oc2 : (2 : Int32).toInt = 2 := by decide
              have cc198 : r11.toInt ≠ (2 : Int32).toInt := i32_ne c197
              refine lv_iload_n hx hb dX11_piece_122 rfl (lv_at hl 3 rfl) ?_
              refine lv_iconst (v := 3) hx hb dX11_piece_123 (by decide) ?_
              refine lv_icmp_ne (tgt := 131) hx hb dX11_piece_124 (by decide) (fun c199 => ?_) (fun c199 => ?_)
              ·
                have oc3 : (3 : Int32).toInt = 3 := by decide
                have cc200 : r11.toInt ≠ (3 : Int32).toInt := i32_ne c199
                refine lv_iload_n hx hb dX11_piece_131 rfl (lv_at hl 3 rfl) ?_
                refine lv_iconst (v := 4) hx hb dX11_piece_132 (by decide) ?_
                refine lv_icmp_ne (tgt := 140) hx hb dX11_piece_133 (by decide) (fun c201 => ?_) (fun c201 => ?_)
                ·
                  have oc4 : (4 : Int32).toInt = 4 := by decide
                  have cc202 : r11.toInt ≠ (4 : Int32).toInt := i32_ne c201
                  refine lv_iload_n hx hb dX11_piece_140 rfl (lv_at hl 3 rfl) ?_
                  refine lv_iconst (v := 5) hx hb dX11_piece_141 (by decide) ?_
                  refine lv_icmp_ne (tgt := 152) hx hb dX11_piece_142 (by decide) (fun c203 => ?_) (fun c203 => ?_)
                  ·
                    have oc5 : (5 : Int32).toInt = 5 := by decide
                    have cc204 : r11.toInt ≠ (5 : Int32).toInt := i32_ne c203
                    exact ret_v hx hb hr hlocks hP hD hS (Nat.le_of_ble_eq_true rfl) (Nat.le_of_ble_eq_true rfl) (⟨rfl, ⟨zz175, zz176, zz177, zz178, x45.toInt, (th 30), (th 34), ⟨(show th 37 ≤ zz175 ∧ zz175 ≤ 500 from (by have ob13 : (0 : Int) ≤ (th 13) ∧ (th 13) ≤ 500 := (b0_13 hT :); have ob35 : (0 : Int) ≤ x45.toInt ∧ x45.toInt ≤ 63 := (b0_35 hT :); have ob36 : (0 : Int) ≤ (th 36) ∧ (th 36) ≤ 20 := (b0_36 hT :); have ob37 : (0 : Int) ≤ zz175 ∧ zz175 ≤ 500 := (b0_37 hT :); have ob40 : (0 : Int) ≤ zz176 ∧ zz176 ≤ 500 := (b0_40 hT :); have ob41 : (0 : Int) ≤ zz177 ∧ zz177 ≤ 500 := (b0_41 hT :); have ob42 : ((-1) : Int) ≤ zz178 ∧ zz178 ≤ 500 := (b0_42 hT :); have ob43 : ((-1) : Int) ≤ (th 43) ∧ (th 43) ≤ 1 := (b0_43 hT :); omega)), ⟨(by have ob13 : (0 : Int) ≤ (th 13) ∧ (th 13) ≤ 500 := (b0_13 hT :); have ob35 : (0 : Int) ≤ x45.toInt ∧ x45.toInt ≤ 63 := (b0_35 hT :); have ob36 : (0 : Int) ≤ (th 36) ∧ (th 36) ≤ 20 := (b0_36 hT :); have ob37 : (0 : Int) ≤ zz175 ∧ zz175 ≤ 500 := (b0_37 hT :); have ob40 : (0 : Int) ≤ zz176 ∧ zz176 ≤ 500 := (b0_40 hT :); have ob41 : (0 : Int) ≤ zz177 ∧ zz177 ≤ 500 := (b0_41 hT :); have ob42 : ((-1) : Int) ≤ zz178 ∧ zz178 ≤ 500 := (b0_42 hT :); have ob43 : ((-1) : Int) ≤ (th 43) ∧ (th 43) ≤ 1 := (b0_43 hT :); obtain ⟨o0a, o0b⟩ := (hb44 : In _ _ _); obtain ⟨o1a, o1b⟩ := (hb47 : In _ _ _); obtain ⟨o2a, o2b⟩ := (eL7R : In _ _ _); obtain ⟨o3a, o3b⟩ := (hb167 : In _ _ _); obtain ⟨o4a, o4b⟩ := (hb42 : In _ _ _); obtain ⟨o5a, o5b⟩ := (eL174R : In _ _ _); omega), (by have ob13 : (0 : Int) ≤ (th 13) ∧ (th 13) ≤ 500 := (b0_13 hT :); have ob35 : (0 : Int) ≤ x45.toInt ∧ x45.toInt ≤ 63 := (b0_35 hT :); have ob36 : (0 : Int) ≤ (th 36) ∧ (th 36) ≤ 20 := (b0_36 hT :); have ob37 : (0 : Int) ≤ zz175 ∧ zz175 ≤ 500 := (b0_37 hT :); have ob40 : (0 : Int) ≤ zz176 ∧ zz176 ≤ 500 := (b0_40 hT :); have ob41 : (0 : Int) ≤ zz177 ∧ zz177 ≤ 500 := (b0_41 hT :); have ob42 : ((-1) : Int) ≤ zz178 ∧ zz178 ≤ 500 := (b0_42 hT :); have ob43 : ((-1) : Int) ≤ (th 43) ∧ (th 43) ≤ 1 := (b0_43 hT :); obtain ⟨o0a, o0b⟩ := (hb44 : In _ _ _); obtain ⟨o1a, o1b⟩ := (hb47 : In _ _ _); obtain ⟨o2a, o2b⟩ := (eL7R : In _ _ _); obtain ⟨o3a, o3b⟩ := (hb167 : In _ _ _); obtain ⟨o4a, o4b⟩ := (hb42 : In _ _ _); obtain ⟨o5a, o5b⟩ := (eL174R : In _ _ _); omega), (by have ob13 : (0 : Int) ≤ (th 13) ∧ (th 13) ≤ 500 := (b0_13 hT :); have ob35 : (0 : Int) ≤ x45.toInt ∧ x45.toInt ≤ 63 := (b0_35 hT :); have ob36 : (0 : Int) ≤ (th 36) ∧ (th 36) ≤ 20 := (b0_36 hT :); have ob37 : (0 : Int) ≤ zz175 ∧ zz175 ≤ 500 := (b0_37 hT :); have ob40 : (0 : Int) ≤ zz176 ∧ zz176 ≤ 500 := (b0_40 hT :); have ob41 : (0 : Int) ≤ zz177 ∧ zz177 ≤ 500 := (b0_41 hT :); have ob42 : ((-1) : Int) ≤ zz178 ∧ zz178 ≤ 500 := (b0_42 hT :); have ob43 : ((-1) : Int) ≤ (th 43) ∧ (th 43) ≤ 1 := (b0_43 hT :); obtain ⟨o0a, o0b⟩ := (hb44 : In _ _ _); obtain ⟨o1a, o1b⟩ := (hb47 : In _ _ _); obtain ⟨o2a, o2b⟩ := (eL7R : In _ _ _); obtain ⟨o3a, o3b⟩ := (hb167 : In _ _ _); obtain ⟨o4a, o4b⟩ := (hb42 : In _ _ _); obtain ⟨o5a, o5b⟩ := (eL174R : In _ _ _); omega), hd4, (by have ob13 : (0 : Int) ≤ (th 13) ∧ (th 13) ≤ 500 := (b0_13 hT :); have ob35 : (0 : Int) ≤ x45.toInt ∧ x45.toInt ≤ 63 := (b0_35 hT :); have ob36 : (0 : Int) ≤ (th 36) ∧ (th 36) ≤ 20 := (b0_36 hT :); have ob37 : (0 : Int) ≤ zz175 ∧ zz175 ≤ 500 := (b0_37 hT :); have ob40 : (0 : Int) ≤ zz176 ∧ zz176 ≤ 500 := (b0_40 hT :); have ob41 : (0 : Int) ≤ zz177 ∧ zz177 ≤ 500 := (b0_41 hT :); have ob42 : ((-1) : Int) ≤ zz178 ∧ zz178 ≤ 500 := (b0_42 hT :); have ob43 : ((-1) : Int) ≤ (th 43) ∧ (th 43) ≤ 1 := (b0_43 hT :); obtain ⟨o0a, o0b⟩ := (hb44 : In _ _ _); obtain ⟨o1a, o1b⟩ := (hb47 : In _ _ _); obtain ⟨o2a, o2b⟩ := (eL7R : In _ _ _); obtain ⟨o3a, o3b⟩ := (hb167 : In _ _ _); obtain ⟨o4a, o4b⟩ := (hb42 : In _ _ _); obtain ⟨o5a, o5b⟩ := (eL174R : In _ _ _); omega)⟩⟩, TI.cast hT (by funext q; by_cases hq0 : q = 42; (subst hq0; rfl); by_cases hq1 : q = 41; (subst hq1; rfl); by_cases hq2 : q = 40; (subst hq2; rfl); by_cases hq3 : q = 37; (subst hq3; rfl); by_cases hq4 : q = 35; (subst hq4; rfl); by_cases hq5 : q = 30; (subst hq5; rfl); by_cases hq6 : q = 34; (subst hq6; rfl); simp only [gset, if_neg hq0, if_neg hq1, if_neg hq2, if_neg hq3, if_neg hq4, if_neg hq5, if_neg hq6])⟩, hfr⟩) dX11_piece_152
                  ·
                    have oc5 : (5 : Int32).toInt = 5 := by decide
                    have cc205 : r11.toInt = (5 : Int32).toInt := congrArg Int32.toInt c203
                    exact In.empty (lo := 5) (hi := 1) (In.eq1 hb167 (⟨by decide, by decide⟩ : In 5 5 5) cc205 (by decide) (by decide)) (by decide)
                ·
                  have oc4 : (4 : Int32).toInt = 4 := by decide
                  have cc206 : r11.toInt = (4 : Int32).toInt := congrArg Int32.toInt c201
                  exact In.empty (lo := 4) (hi := 1) (In.eq1 hb167 (⟨by decide, by decide⟩ : In 4 4 4) cc206 (by decide) (by decide)) (by decide)
              ·
                have oc3 : (3 : Int32).toInt = 3 := by decide
                have cc207 : r11.toInt = (3 : Int32).toInt := congrArg Int32.toInt c199
                exact In.empty (lo := 3) (hi := 1) (In.eq1 hb167 (⟨by decide, by decide⟩ : In 3 3 3) cc207 (by decide) (by decide)) (by decide)
            ·
              have oc2 : (2 : Int32).toInt = 2 := by decide
              have cc208 : r11.toInt = (2 : Int32).toInt := congrArg Int32.toInt c197
              exact In.empty (lo := 2) (hi := 1) (In.eq1 hb167 (⟨by decide, by decide⟩ : In 2 2 2) cc208 (by decide) (by decide)) (by decide)
        ·
          have oc0 : (0 : Int32).toInt = 0 := by decide
          have cc209 : r11.toInt = (0 : Int32).toInt := congrArg Int32.toInt c51
          have hb210 : In r11 0 0 := In.eq1 hb29 (⟨by decide, by decide⟩ : In 0 0 0) cc209 (by decide) (by decide)
          have hpk : r11.toInt = 0 := (by have ob13 : (0 : Int) ≤ (th 13) ∧ (th 13) ≤ 500 := (b0_13 hT :); have ob35 : (0 : Int) ≤ x45.toInt ∧ x45.toInt ≤ 63 := (b0_35 hT :); have ob36 : (0 : Int) ≤ (th 36) ∧ (th 36) ≤ 20 := (b0_36 hT :); have ob37 : (0 : Int) ≤ zz16 ∧ zz16 ≤ 500 := (b0_37 hT :); have ob40 : (0 : Int) ≤ (th 40) ∧ (th 40) ≤ 500 := (b0_40 hT :); have ob41 : (0 : Int) ≤ (th 41) ∧ (th 41) ≤ 500 := (b0_41 hT :); have ob42 : ((-1) : Int) ≤ (th 42) ∧ (th 42) ≤ 500 := (b0_42 hT :); have ob43 : ((-1) : Int) ≤ (th 43) ∧ (th 43) ≤ 1 := (b0_43 hT :); obtain ⟨o0a, o0b⟩ := (hb210 : In _ _ _); omega)
          have hp2 : (2 : Int) ^ r11.toInt.toNat = 1 := by rw [hpk]; rfl
          have hbk : bitI (th 35) r11.toInt = bitI (th 35) 0 := by rw [hpk]
          refine lv_aload_n hx hb dX11_piece_74 rfl (lv_at hl 0 rfl) ?_
          refine M0e hT (fun v0_211 v2_211 v3_211 v4_211 v5_211 v6_211 v8_211 v9_211 v12_211 v13_211 v14_211 v15_211 v16_211 v17_211 v18_211 v19_211 v20_211 v21_211 v22_211 v23_211 v25_211 v36_211 v37_211 v38_211 v39_211 v40_211 v45_211 v46_211 v47_211 v48_211 v50_211 v51_211 v53_211 v55_211 hf212 hv0_211 hv2_211 hg2_211 hv3_211 hg3_211 hv4_211 hg4_211 hv5_211 hg5_211 hv6_211 hg6_211 hv8_211 hg8_211 hv9_211 hg9_211 hv12_211 hv13_211 hg13_211 hv14_211 hg14_211 hv15_211 hg15_211 hv17_211 hg17_211 hv20_211 hg20_211 hv23_211 hg23_211 hv25_211 hg25_211 hv36_211 hg36_211 hv47_211 hg47_211 hv48_211 hg48_211 hv53_211 hg53_211 hv55_211 hg55_211 hrel0_211 => ?_)
          have hg15_211 : v15_211.toInt = th 11 := hg15_211
          have hg17_211 : v17_211.toInt = th 12 := hg17_211
          have hg20_211 : v20_211.toInt = th 14 := hg20_211
          refine pl_get (v := .ref (ad 257)) hx hb hts (fun w h => mT (inX11 w h)) hown hG.1 hP (hst.1 255 (by decide)) hf212 rfl 7 (by decide) (hts _ (mT wg_1343)) (fun _ h => h) rfl dX11_piece_75 ?_
          refine lv_iconst (v := 0) hx hb dX11_piece_78 (by decide) ?_
          refine lv_aload_n hx hb dX11_piece_79 rfl (lv_at hl 0 rfl) ?_
          refine lv_iconst (v := 3) hx hb dX11_piece_80 (by decide) ?_
          refine lv_bipush (v := 9) hx hb dX11_piece_81 (by decide) ?_
          refine call_i (run_V (rm := rm_X11_digit_3_9) hx hb hml hown hts (s_X11_digit_3_9 l g ad (gset (gset th 37 zz16) 35 x45.toInt) _ _ _  hst hT ) cV_X11_digit wg_1566 ⟨Nat.le_of_ble_eq_true rfl, Nat.le_of_ble_eq_true rfl⟩ hG hE hA hP hD hS (hst.1 255 (by decide)) hf212 rfl rfl hl.1 (As := [.int 3, .int 9]) (rest := [.int 0, .ref (ad 257)]) rfl (Nat.le_of_ble_eq_true rfl) dX11_piece_83 ⟨Nat.le_of_ble_eq_true rfl, Nat.le_of_ble_eq_true rfl⟩) hA hD hS (fun r213 L214 f215 H locs hp216 hP hD hS => ?_)
          obtain ⟨eL217L, eL217T, eL217F, eL217R⟩ := hp216
          have eL217L : L214 = L := eL217L
          rw [eL217L] at hP hD
          obtain ⟨zz218, zz219, zz220, zz221, hzz218, eL217T⟩ := eL217T
          have hzz218 : (zz16 ≤ zz219 ∧ 0 ≤ zz219 ∧ 0 ≤ zz220 ∧ zz219 + zz220 = zz218 ∧ zz218 ≤ 500) := hzz218
          have hT : TI g ad (gset (gset (gset (gset (gset (gset th 37 zz16) 35 x45.toInt) 37 zz218) 40 zz219) 41 zz220) 42 zz221) f215 := eL217T
          have hT : TI g ad (gset (gset (gset (gset (gset th 35 x45.toInt) 37 zz218) 40 zz219) 41 zz220) 42 zz221) f215 := TI.cast hT (by funext q; by_cases hq0 : q = 42; (subst hq0; rfl); by_cases hq1 : q = 41; (subst hq1; rfl); by_cases hq2 : q = 40; (subst hq2; rfl); by_cases hq3 : q = 37; (subst hq3; rfl); by_cases hq4 : q = 35; (subst hq4; rfl); simp only [gset, if_neg hq0, if_neg hq1, if_neg hq2, if_neg hq3, if_neg hq4])
          have eL217F : ∀ b, b ≠ (ad 255) → f215 b = f48 b := eL217F
          have hfr : (∀ b, b ≠ (ad 255) → b ≠ (ad 257) → f215 b = f b) := fun b z0_ z1_ => (eL217F b z0_).trans (hfr b z0_ z1_)
          have eL217R : In r213 3 9 := eL217R
          obtain ⟨rw222, hf223, hpn224, hpg225, hpn226, hpn227, hpn228, hpg229⟩ := hT.2.2 2 (by decide)
          refine pl_iastE hx hb hG.1 hP hD hS (hst.1 257 (by decide)) 0 hf223 rfl (In.inb (⟨by decide, by decide⟩ : In 0 0 0) (by decide) (by decide)) dX11_piece_86 (fun H locs f230 r233 er233 hf231 ho232 hP hD hS => ?_)
          have hpn234 : In (r233 0) 0 9 := (upd_eqI (k := 0) er233 (by decide)) ▸ (In.mono eL217R (by decide) (by decide))
          have hpg235 : (r233 0).toInt = r213.toInt := congrArg Int32.toInt (upd_eqI (k := 0) er233 (by decide))
          have hpn236 : In (r233 1) 0 4 := (upd_neI (k := 1) er233 (by decide)) ▸ hpn226
          have hpn237 : In (r233 2) 0 6 := (upd_neI (k := 2) er233 (by decide)) ▸ hpn227
          have hpn238 : In (r233 4) 0 511 := (upd_neI (k := 4) er233 (by decide)) ▸ hpn228
          have hpg239 := (congrArg Int32.toInt (upd_neI (k := 4) er233 (by decide))).trans hpg229
          have hfr : (∀ b, b ≠ (ad 255) → b ≠ (ad 257) → f230 b = f b) := fun b z0_ z1_ => (ho232 b z1_).trans (hfr b z0_ z1_)
          refine lv_iload_n hx hb dX11_piece_87 rfl (lv_at hl 3 rfl) ?_
          refine lv_iconst (v := 1) hx hb dX11_piece_88 (by decide) ?_
          have hT := TI.updMG (th' := (gset (gset (gset (gset (gset (gset th 35 x45.toInt) 37 zz218) 40 zz219) 41 zz220) 42 zz221) 30 (r213.toInt))) hT hst (k := 2) (by decide) hf231 ho232 ⟨r233, rfl, hpn234, (hpg235.trans rfl), hpn236, hpn237, hpn238, (hpg239.trans rfl)⟩ (fun q hq => ((gset_ne (fun e => hq (by subst e; decide))).trans rfl))
          have hT : TI g ad (gset (gset (gset (gset (gset (gset th 35 x45.toInt) 37 zz218) 40 zz219) 41 zz220) 42 zz221) 30 r213.toInt) f230 := TI.cast hT (by funext q; by_cases hq0 : q = 30; (subst hq0; rfl); by_cases hq1 : q = 42; (subst hq1; rfl); by_cases hq2 : q = 41; (subst hq2; rfl); by_cases hq3 : q = 40; (subst hq3; rfl); by_cases hq4 : q = 37; (subst hq4; rfl); by_cases hq5 : q = 35; (subst hq5; rfl); simp only [gset, if_neg hq0, if_neg hq1, if_neg hq2, if_neg hq3, if_neg hq4, if_neg hq5])
          refine lv_icmp_ne (tgt := 104) hx hb dX11_piece_89 (by decide) (fun c240 => ?_) (fun c240 => ?_)
          ·
            have oc1 : (1 : Int32).toInt = 1 := by decide
            have cc241 : r11.toInt ≠ (1 : Int32).toInt := i32_ne c240
            refine lv_iload_n hx hb dX11_piece_104 rfl (lv_at hl 3 rfl) ?_
            refine lv_iconst (v := 2) hx hb dX11_piece_105 (by decide) ?_
            refine lv_icmp_ne (tgt := 122) hx hb dX11_piece_106 (by decide) (fun c242 => ?_) (fun c242 => ?_)
            ·
              have oc2 : (2 : Int32).toInt = 2 := by decide
              have cc243 : r11.toInt ≠ (2 : Int32).toInt := i32_ne c242
              refine lv_iload_n hx hb dX11_piece_122 rfl (lv_at hl 3 rfl) ?_
              refine lv_iconst (v := 3) hx hb dX11_piece_123 (by decide) ?_
              refine lv_icmp_ne (tgt := 131) hx hb dX11_piece_124 (by decide) (fun c244 => ?_) (fun c244 => ?_)
              ·
                have oc3 : (3 : Int32).toInt = 3 := by decide
                have cc245 : r11.toInt ≠ (3 : Int32).toInt := i32_ne c244
                refine lv_iload_n hx hb dX11_piece_131 rfl (lv_at hl 3 rfl) ?_
                refine lv_iconst (v := 4) hx hb dX11_piece_132 (by decide) ?_
                refine lv_icmp_ne (tgt := 140) hx hb dX11_piece_133 (by decide) (fun c246 => ?_) (fun c246 => ?_)
                ·
                  have oc4 : (4 : Int32).toInt = 4 := by decide
                  have cc247 : r11.toInt ≠ (4 : Int32).toInt := i32_ne c246
                  refine lv_iload_n hx hb dX11_piece_140 rfl (lv_at hl 3 rfl) ?_
                  refine lv_iconst (v := 5) hx hb dX11_piece_141 (by decide) ?_
                  refine lv_icmp_ne (tgt := 152) hx hb dX11_piece_142 (by decide) (fun c248 => ?_) (fun c248 => ?_)
                  ·
                    have oc5 : (5 : Int32).toInt = 5 := by decide
                    have cc249 : r11.toInt ≠ (5 : Int32).toInt := i32_ne c248
                    exact ret_v hx hb hr hlocks hP hD hS (Nat.le_of_ble_eq_true rfl) (Nat.le_of_ble_eq_true rfl) (⟨rfl, ⟨zz218, zz219, zz220, zz221, x45.toInt, r213.toInt, (th 34), ⟨(show th 37 ≤ zz218 ∧ zz218 ≤ 500 from (by have ob13 : (0 : Int) ≤ (th 13) ∧ (th 13) ≤ 500 := (b0_13 hT :); have ob35 : (0 : Int) ≤ x45.toInt ∧ x45.toInt ≤ 63 := (b0_35 hT :); have ob36 : (0 : Int) ≤ (th 36) ∧ (th 36) ≤ 20 := (b0_36 hT :); have ob37 : (0 : Int) ≤ zz218 ∧ zz218 ≤ 500 := (b0_37 hT :); have ob40 : (0 : Int) ≤ zz219 ∧ zz219 ≤ 500 := (b0_40 hT :); have ob41 : (0 : Int) ≤ zz220 ∧ zz220 ≤ 500 := (b0_41 hT :); have ob42 : ((-1) : Int) ≤ zz221 ∧ zz221 ≤ 500 := (b0_42 hT :); have ob43 : ((-1) : Int) ≤ (th 43) ∧ (th 43) ≤ 1 := (b0_43 hT :); omega)), ⟨(by have ob13 : (0 : Int) ≤ (th 13) ∧ (th 13) ≤ 500 := (b0_13 hT :); have ob35 : (0 : Int) ≤ x45.toInt ∧ x45.toInt ≤ 63 := (b0_35 hT :); have ob36 : (0 : Int) ≤ (th 36) ∧ (th 36) ≤ 20 := (b0_36 hT :); have ob37 : (0 : Int) ≤ zz218 ∧ zz218 ≤ 500 := (b0_37 hT :); have ob40 : (0 : Int) ≤ zz219 ∧ zz219 ≤ 500 := (b0_40 hT :); have ob41 : (0 : Int) ≤ zz220 ∧ zz220 ≤ 500 := (b0_41 hT :); have ob42 : ((-1) : Int) ≤ zz221 ∧ zz221 ≤ 500 := (b0_42 hT :); have ob43 : ((-1) : Int) ≤ (th 43) ∧ (th 43) ≤ 1 := (b0_43 hT :); obtain ⟨o0a, o0b⟩ := (hb44 : In _ _ _); obtain ⟨o1a, o1b⟩ := (hb47 : In _ _ _); obtain ⟨o2a, o2b⟩ := (eL7R : In _ _ _); obtain ⟨o3a, o3b⟩ := (hb210 : In _ _ _); obtain ⟨o4a, o4b⟩ := (hb42 : In _ _ _); obtain ⟨o5a, o5b⟩ := (eL217R : In _ _ _); omega), (by have ob13 : (0 : Int) ≤ (th 13) ∧ (th 13) ≤ 500 := (b0_13 hT :); have ob35 : (0 : Int) ≤ x45.toInt ∧ x45.toInt ≤ 63 := (b0_35 hT :); have ob36 : (0 : Int) ≤ (th 36) ∧ (th 36) ≤ 20 := (b0_36 hT :); have ob37 : (0 : Int) ≤ zz218 ∧ zz218 ≤ 500 := (b0_37 hT :); have ob40 : (0 : Int) ≤ zz219 ∧ zz219 ≤ 500 := (b0_40 hT :); have ob41 : (0 : Int) ≤ zz220 ∧ zz220 ≤ 500 := (b0_41 hT :); have ob42 : ((-1) : Int) ≤ zz221 ∧ zz221 ≤ 500 := (b0_42 hT :); have ob43 : ((-1) : Int) ≤ (th 43) ∧ (th 43) ≤ 1 := (b0_43 hT :); obtain ⟨o0a, o0b⟩ := (hb44 : In _ _ _); obtain ⟨o1a, o1b⟩ := (hb47 : In _ _ _); obtain ⟨o2a, o2b⟩ := (eL7R : In _ _ _); obtain ⟨o3a, o3b⟩ := (hb210 : In _ _ _); obtain ⟨o4a, o4b⟩ := (hb42 : In _ _ _); obtain ⟨o5a, o5b⟩ := (eL217R : In _ _ _); omega), (by have ob13 : (0 : Int) ≤ (th 13) ∧ (th 13) ≤ 500 := (b0_13 hT :); have ob35 : (0 : Int) ≤ x45.toInt ∧ x45.toInt ≤ 63 := (b0_35 hT :); have ob36 : (0 : Int) ≤ (th 36) ∧ (th 36) ≤ 20 := (b0_36 hT :); have ob37 : (0 : Int) ≤ zz218 ∧ zz218 ≤ 500 := (b0_37 hT :); have ob40 : (0 : Int) ≤ zz219 ∧ zz219 ≤ 500 := (b0_40 hT :); have ob41 : (0 : Int) ≤ zz220 ∧ zz220 ≤ 500 := (b0_41 hT :); have ob42 : ((-1) : Int) ≤ zz221 ∧ zz221 ≤ 500 := (b0_42 hT :); have ob43 : ((-1) : Int) ≤ (th 43) ∧ (th 43) ≤ 1 := (b0_43 hT :); obtain ⟨o0a, o0b⟩ := (hb44 : In _ _ _); obtain ⟨o1a, o1b⟩ := (hb47 : In _ _ _); obtain ⟨o2a, o2b⟩ := (eL7R : In _ _ _); obtain ⟨o3a, o3b⟩ := (hb210 : In _ _ _); obtain ⟨o4a, o4b⟩ := (hb42 : In _ _ _); obtain ⟨o5a, o5b⟩ := (eL217R : In _ _ _); omega), Or.inl (by omega), (by have ob13 : (0 : Int) ≤ (th 13) ∧ (th 13) ≤ 500 := (b0_13 hT :); have ob35 : (0 : Int) ≤ x45.toInt ∧ x45.toInt ≤ 63 := (b0_35 hT :); have ob36 : (0 : Int) ≤ (th 36) ∧ (th 36) ≤ 20 := (b0_36 hT :); have ob37 : (0 : Int) ≤ zz218 ∧ zz218 ≤ 500 := (b0_37 hT :); have ob40 : (0 : Int) ≤ zz219 ∧ zz219 ≤ 500 := (b0_40 hT :); have ob41 : (0 : Int) ≤ zz220 ∧ zz220 ≤ 500 := (b0_41 hT :); have ob42 : ((-1) : Int) ≤ zz221 ∧ zz221 ≤ 500 := (b0_42 hT :); have ob43 : ((-1) : Int) ≤ (th 43) ∧ (th 43) ≤ 1 := (b0_43 hT :); obtain ⟨o0a, o0b⟩ := (hb44 : In _ _ _); obtain ⟨o1a, o1b⟩ := (hb47 : In _ _ _); obtain ⟨o2a, o2b⟩ := (eL7R : In _ _ _); obtain ⟨o3a, o3b⟩ := (hb210 : In _ _ _); obtain ⟨o4a, o4b⟩ := (hb42 : In _ _ _); obtain ⟨o5a, o5b⟩ := (eL217R : In _ _ _); omega)⟩⟩, TI.cast hT (by funext q; by_cases hq0 : q = 30; (subst hq0; rfl); by_cases hq1 : q = 42; (subst hq1; rfl); by_cases hq2 : q = 41; (subst hq2; rfl); by_cases hq3 : q = 40; (subst hq3; rfl); by_cases hq4 : q = 37; (subst hq4; rfl); by_cases hq5 : q = 35; (subst hq5; rfl); by_cases hq6 : q = 34; (subst hq6; rfl); simp only [gset, if_neg hq0, if_neg hq1, if_neg hq2, if_neg hq3, if_neg hq4, if_neg hq5, if_neg hq6])⟩, hfr⟩) dX11_piece_152
                  ·
                    have oc5 : (5 : Int32).toInt = 5 := by decide
                    have cc250 : r11.toInt = (5 : Int32).toInt := congrArg Int32.toInt c248
                    exact In.empty (lo := 5) (hi := 0) (In.eq1 hb210 (⟨by decide, by decide⟩ : In 5 5 5) cc250 (by decide) (by decide)) (by decide)
                ·
                  have oc4 : (4 : Int32).toInt = 4 := by decide
                  have cc251 : r11.toInt = (4 : Int32).toInt := congrArg Int32.toInt c246
                  exact In.empty (lo := 4) (hi := 0) (In.eq1 hb210 (⟨by decide, by decide⟩ : In 4 4 4) cc251 (by decide) (by decide)) (by decide)
              ·
                have oc3 : (3 : Int32).toInt = 3 := by decide
                have cc252 : r11.toInt = (3 : Int32).toInt := congrArg Int32.toInt c244
                exact In.empty (lo := 3) (hi := 0) (In.eq1 hb210 (⟨by decide, by decide⟩ : In 3 3 3) cc252 (by decide) (by decide)) (by decide)
            ·
              have oc2 : (2 : Int32).toInt = 2 := by decide
              have cc253 : r11.toInt = (2 : Int32).toInt := congrArg Int32.toInt c242
              exact In.empty (lo := 2) (hi := 0) (In.eq1 hb210 (⟨by decide, by decide⟩ : In 2 2 2) cc253 (by decide) (by decide)) (by decide)
          ·
            have oc1 : (1 : Int32).toInt = 1 := by decide
            have cc254 : r11.toInt = (1 : Int32).toInt := congrArg Int32.toInt c240
            exact In.empty (lo := 1) (hi := 0) (In.eq1 hb210 (⟨by decide, by decide⟩ : In 1 1 1) cc254 (by decide) (by decide)) (by decide)
      have hJ41 : ∀ (H : Heap) (locs : List Loc) (ls : Array Slot), va_P g.1 vwCl (va_pl L f13) H → va_D A (va_pl L f13) → va_S A s.heap H locs → lv_has ls 4 [(0, .ref (ad 255)), (1, .int r3), (2, .int v3_9), (3, .int r11)] → W p l e rm_X11_piece s m [.ref (ad 255)].toArray below meth c H locs 0 0 (MQ below (va_Qv (po_X11_piece g ad th L f ) (PstB g A) A) [.ref (ad 255)].toArray s rm_X11_piece.cells rm_X11_piece.slots A) (F0 m 41 ls []) := by
        intro H locs ls hP hD hS hl
        refine lv_aload_n hx hb dX11_piece_41 rfl (lv_at hl 0 rfl) ?_
        refine pl_get (v := .int v9_30) hx hb hts (fun w h => mT (inX11 w h)) hown hG.1 hP (hst.1 255 (by decide)) hf31 rfl 9 (by decide) (hts _ (mT wg_1345)) (fun _ h => h) rfl dX11_piece_42 ?_
        refine lv_iconst (v := 0) hx hb dX11_piece_45 (by decide) ?_
        refine call_i (run_S (rm := rm_X11_has) hx hb hml hown hts (s_X11_has l g ad (gset th 37 zz16) _ _ _ v9_30 0 hst hT ) cS_X11_has wg_1563 ⟨Nat.le_of_ble_eq_true rfl, Nat.le_of_ble_eq_true rfl⟩ hG hE hA hP hD hS rfl hl.1 (As := [.int v9_30, .int 0]) (rest := []) rfl (Nat.le_of_ble_eq_true rfl) dX11_piece_46 ⟨Nat.le_of_ble_eq_true rfl, Nat.le_of_ble_eq_true rfl⟩) hA hD hS (fun r255 L256 f257 H locs hp258 hP hD hS => ?_)
        obtain ⟨eL259L, eL259T, eL259R, eL259X0⟩ := hp258
        have eL259L : L256 = L := eL259L
        have eL259T : f257 = f13 := eL259T
        rw [eL259L, eL259T] at hP hD
        have eL259R : In r255 0 1 := eL259R
        have hbt260 : r255.toInt = bitI (th 35) 0 := (eL259X0 (Int.le_trans (by decide) hv9_30.1) (⟨by decide, by decide⟩ : In 0 0 30)).trans (by rw [hg9_30, show (0 : Int32).toInt = 0 by decide])
        refine lv_if_ne (tgt := 58) hx hb dX11_piece_49 (by decide) (fun c261 => ?_) (fun c261 => ?_)
        ·
          have oc0 : (0 : Int32).toInt = 0 := by decide
          have cc262 : r255.toInt ≠ (0 : Int32).toInt := i32_ne c261
          have hb263 : In r255 1 1 := In.ne1 eL259R (⟨by decide, by decide⟩ : In 0 0 0) cc262 (by decide) (by decide)
          exact hJ58 _ _ _ hP hD hS (by have ob13 : (0 : Int) ≤ (th 13) ∧ (th 13) ≤ 500 := (b0_13 hT :); have ob35 : (0 : Int) ≤ (th 35) ∧ (th 35) ≤ 63 := (b0_35 hT :); have ob36 : (0 : Int) ≤ (th 36) ∧ (th 36) ≤ 20 := (b0_36 hT :); have ob37 : (0 : Int) ≤ zz16 ∧ zz16 ≤ 500 := (b0_37 hT :); have ob40 : (0 : Int) ≤ (th 40) ∧ (th 40) ≤ 500 := (b0_40 hT :); have ob41 : (0 : Int) ≤ (th 41) ∧ (th 41) ≤ 500 := (b0_41 hT :); have ob42 : ((-1) : Int) ≤ (th 42) ∧ (th 42) ≤ 500 := (b0_42 hT :); have ob43 : ((-1) : Int) ≤ (th 43) ∧ (th 43) ≤ 1 := (b0_43 hT :); obtain ⟨o0a, o0b⟩ := (hb29 : In _ _ _); obtain ⟨o1a, o1b⟩ := (hv2_30 : In _ _ _); obtain ⟨o2a, o2b⟩ := (hv3_30 : In _ _ _); obtain ⟨o3a, o3b⟩ := (hv4_30 : In _ _ _); obtain ⟨o4a, o4b⟩ := (hv5_30 : In _ _ _); obtain ⟨o5a, o5b⟩ := (hv6_30 : In _ _ _); obtain ⟨o6a, o6b⟩ := (hv8_30 : In _ _ _); obtain ⟨o7a, o7b⟩ := (hv9_30 : In _ _ _); obtain ⟨o8a, o8b⟩ := (hv13_30 : In _ _ _); omega) (lv_sub hl [0, 1, 2, 3] rfl)
        ·
          have oc0 : (0 : Int32).toInt = 0 := by decide
          have cc264 : r255.toInt = (0 : Int32).toInt := congrArg Int32.toInt c261
          have hb265 : In r255 0 0 := In.eq1 eL259R (⟨by decide, by decide⟩ : In 0 0 0) cc264 (by decide) (by decide)
          exact hJ52 _ _ _ hP hD hS (lv_sub hl [0, 1, 2, 3] rfl)
      refine lv_icmp_eq (tgt := 41) hx hb dX11_piece_33 (by decide) (fun c266 => ?_) (fun c266 => ?_)
      ·
        have oc3 : (3 : Int32).toInt = 3 := by decide
        have cc267 : r11.toInt = (3 : Int32).toInt := congrArg Int32.toInt c266
        have hb268 : In r11 3 3 := In.eq1 hb29 (⟨by decide, by decide⟩ : In 3 3 3) cc267 (by decide) (by decide)
        exact hJ41 _ _ _ hP hD hS (lv_sub hl [3, 2, 1, 0] rfl)
      ·
        have oc3 : (3 : Int32).toInt = 3 := by decide
        have cc269 : r11.toInt ≠ (3 : Int32).toInt := i32_ne c266
        refine lv_iload_n hx hb dX11_piece_36 rfl (lv_at hl 0 rfl) ?_
        refine lv_iconst (v := 4) hx hb dX11_piece_37 (by decide) ?_
        refine lv_icmp_ne (tgt := 58) hx hb dX11_piece_38 (by decide) (fun c270 => ?_) (fun c270 => ?_)
        ·
          have oc4 : (4 : Int32).toInt = 4 := by decide
          have cc271 : r11.toInt ≠ (4 : Int32).toInt := i32_ne c270
          exact hJ58 _ _ _ hP hD hS (by have ob13 : (0 : Int) ≤ (th 13) ∧ (th 13) ≤ 500 := (b0_13 hT :); have ob35 : (0 : Int) ≤ (th 35) ∧ (th 35) ≤ 63 := (b0_35 hT :); have ob36 : (0 : Int) ≤ (th 36) ∧ (th 36) ≤ 20 := (b0_36 hT :); have ob37 : (0 : Int) ≤ zz16 ∧ zz16 ≤ 500 := (b0_37 hT :); have ob40 : (0 : Int) ≤ (th 40) ∧ (th 40) ≤ 500 := (b0_40 hT :); have ob41 : (0 : Int) ≤ (th 41) ∧ (th 41) ≤ 500 := (b0_41 hT :); have ob42 : ((-1) : Int) ≤ (th 42) ∧ (th 42) ≤ 500 := (b0_42 hT :); have ob43 : ((-1) : Int) ≤ (th 43) ∧ (th 43) ≤ 1 := (b0_43 hT :); obtain ⟨o0a, o0b⟩ := (hb29 : In _ _ _); obtain ⟨o1a, o1b⟩ := (hv2_30 : In _ _ _); obtain ⟨o2a, o2b⟩ := (hv3_30 : In _ _ _); obtain ⟨o3a, o3b⟩ := (hv4_30 : In _ _ _); obtain ⟨o4a, o4b⟩ := (hv5_30 : In _ _ _); obtain ⟨o5a, o5b⟩ := (hv6_30 : In _ _ _); obtain ⟨o6a, o6b⟩ := (hv8_30 : In _ _ _); obtain ⟨o7a, o7b⟩ := (hv9_30 : In _ _ _); obtain ⟨o8a, o8b⟩ := (hv13_30 : In _ _ _); omega) (lv_sub hl [3, 2, 1, 0] rfl)
        ·
          have oc4 : (4 : Int32).toInt = 4 := by decide
          have cc272 : r11.toInt = (4 : Int32).toInt := congrArg Int32.toInt c270
          have hb273 : In r11 4 4 := In.eq1 hb29 (⟨by decide, by decide⟩ : In 4 4 4) cc272 (by decide) (by decide)
          exact hJ41 _ _ _ hP hD hS (lv_sub hl [3, 2, 1, 0] rfl)
