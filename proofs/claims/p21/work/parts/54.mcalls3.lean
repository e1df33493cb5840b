abbrev rm_X11_shows : Room := { frames := 0, cells := 0, slots := 0, locals := 0 }
abbrev po_X11_shows (g : GG) (ad : Nat → Nat) (th : Nat → Int) (L : List Nat) (f : HP) (z1 : Int32) : (List Nat × HP) → Prop := fun u => u.1 = L ∧ (∃ zs : Int, (zs = th 39 + 1) ∧ TI g ad (gset th 39 zs) u.2) ∧ (∀ b, b ≠ (ad 255) → b ≠ (ad 277) → u.2 b = f b)
set_option maxHeartbeats 4000000 in
set_option maxRecDepth 100000 in
theorem s_X11_shows (l : Launch) (g : GG) (ad : Nat → Nat) (th : Nat → Int) (L : List Nat) (f : HP) (sz : Nat) (z1 : Int32) (hst : ST ad L) (hT : TI g ad th f) (hlen : th 39 < 200) : MtV l g yX11_shows cX11_shows 2 rm_X11_shows [.ref (ad 255), .int z1] L f sz (po_X11_shows g ad th L f z1) := by
  refine MtV.of (by decide +kernel) (Nat.le_of_ble_eq_true rfl) ?_
  intro p e s m below meth c A hEn hP hD hS ls hl
  obtain ⟨hx, hb, hr, hml, hown, hlocks, hts, hG, hA, hE, hnm⟩ := hEn
  have hown : s.vm.findClass "RulerWordModel" = some m.cls := hown
  have hl : lv_has ls 2 [(0, .ref (ad 255)), (1, .int z1)] := hl
  have hfr : (∀ b, b ≠ (ad 255) → b ≠ (ad 277) → f b = f b) := fun b z0_ z1_ => rfl
  refine lv_aload_n hx hb dX11_shows_0 rfl (lv_at hl 0 rfl) ?_
  refine M0e hT (fun v0_1 v2_1 v3_1 v4_1 v5_1 v6_1 v8_1 v9_1 v12_1 v13_1 v14_1 v15_1 v16_1 v17_1 v18_1 v19_1 v20_1 v21_1 v22_1 v23_1 v25_1 v36_1 v37_1 v38_1 v39_1 v40_1 v45_1 v46_1 v47_1 v48_1 v50_1 v51_1 v53_1 v55_1 hf2 hv0_1 hv2_1 hg2_1 hv3_1 hg3_1 hv4_1 hg4_1 hv5_1 hg5_1 hv6_1 hg6_1 hv8_1 hg8_1 hv9_1 hg9_1 hv12_1 hv13_1 hg13_1 hv14_1 hg14_1 hv15_1 hg15_1 hv17_1 hg17_1 hv20_1 hg20_1 hv23_1 hg23_1 hv25_1 hg25_1 hv36_1 hg36_1 hv47_1 hg47_1 hv48_1 hg48_1 hv53_1 hg53_1 hv55_1 hg55_1 hrel0_1 => ?_)
  have hg15_1 : v15_1.toInt = th 11 := hg15_1
  have hg17_1 : v17_1.toInt = th 12 := hg17_1
  have hg20_1 : v20_1.toInt = th 14 := hg20_1
  refine pl_get (v := .ref (ad 277)) hx hb hts (fun w h => mT (inX11 w h)) hown hG.1 hP (hst.1 255 (by decide)) hf2 rfl 54 (by decide) (hts _ (mT wg_1390)) (fun _ h => h) rfl dX11_shows_1 ?_
  refine lv_aload_n hx hb dX11_shows_4 rfl (lv_at hl 0 rfl) ?_
  refine pl_get (v := .int v55_1) hx hb hts (fun w h => mT (inX11 w h)) hown hG.1 hP (hst.1 255 (by decide)) hf2 rfl 55 (by decide) (hts _ (mT wg_1391)) (fun _ h => h) rfl dX11_shows_5 ?_
  have hg55_1 : v55_1.toInt = th 39 := hg55_1
  refine lv_iload_n hx hb dX11_shows_8 rfl (lv_at hl 1 rfl) ?_
  obtain ⟨rw3, hf4⟩ := hT.2.2 22 (by decide)
  refine pl_iastE hx hb hG.1 hP hD hS (hst.1 277 (by decide)) 0 hf4 rfl (vp_of (by have ob10 : (0 : Int) ≤ (th 10) ∧ (th 10) ≤ 1 := (b0_10 hT :); have ob11 : (0 : Int) ≤ (th 11) ∧ (th 11) ≤ 9 := (b0_11 hT :); have ob12 : (0 : Int) ≤ (th 12) ∧ (th 12) ≤ 6 := (b0_12 hT :); have ob14 : (0 : Int) ≤ (th 14) ∧ (th 14) ≤ 511 := (b0_14 hT :); have ob15 : (0 : Int) ≤ (th 15) ∧ (th 15) ≤ 1 := (b0_15 hT :); have ob16 : (0 : Int) ≤ (th 16) ∧ (th 16) ≤ 20 := (b0_16 hT :); have ob17 : (0 : Int) ≤ (th 17) ∧ (th 17) ≤ 1 := (b0_17 hT :); have ob18 : (0 : Int) ≤ (th 18) ∧ (th 18) ≤ 18 := (b0_18 hT :); have ob38 : (0 : Int) ≤ (th 38) ∧ (th 38) ≤ 400 := (b0_38 hT :); have ob39 : (0 : Int) ≤ (th 39) ∧ (th 39) ≤ 200 := (b0_39 hT :); have ob44 : (0 : Int) ≤ (th 44) ∧ (th 44) ≤ 30 := (b0_44 hT :); have orn := rnd_b (th 10); obtain ⟨o0a, o0b⟩ := (hv55_1 : In _ _ _); obtain ⟨o1a, o1b⟩ := (hv14_1 : In _ _ _); obtain ⟨o2a, o2b⟩ := (hv15_1 : In _ _ _); obtain ⟨o3a, o3b⟩ := (hv17_1 : In _ _ _); obtain ⟨o4a, o4b⟩ := (hv20_1 : In _ _ _); obtain ⟨o5a, o5b⟩ := (hv23_1 : In _ _ _); obtain ⟨o6a, o6b⟩ := (hv25_1 : In _ _ _); obtain ⟨o7a, o7b⟩ := (hv36_1 : In _ _ _); obtain ⟨o8a, o8b⟩ := (hv47_1 : In _ _ _); obtain ⟨o9a, o9b⟩ := (hv48_1 : In _ _ _); obtain ⟨o10a, o10b⟩ := (hv53_1 : In _ _ _); omega) (by have ob10 : (0 : Int) ≤ (th 10) ∧ (th 10) ≤ 1 := (b0_10 hT :); have ob11 : (0 : Int) ≤ (th 11) ∧ (th 11) ≤ 9 := (b0_11 hT :); have ob12 : (0 : Int) ≤ (th 12) ∧ (th 12) ≤ 6 := (b0_12 hT :); have ob14 : (0 : Int) ≤ (th 14) ∧ (th 14) ≤ 511 := (b0_14 hT :); have ob15 : (0 : Int) ≤ (th 15) ∧ (th 15) ≤ 1 := (b0_15 hT :); have ob16 : (0 : Int) ≤ (th 16) ∧ (th 16) ≤ 20 := (b0_16 hT :); have ob17 : (0 : Int) ≤ (th 17) ∧ (th 17) ≤ 1 := (b0_17 hT :); have ob18 : (0 : Int) ≤ (th 18) ∧ (th 18) ≤ 18 := (b0_18 hT :); have ob38 : (0 : Int) ≤ (th 38) ∧ (th 38) ≤ 400 := (b0_38 hT :); have ob39 : (0 : Int) ≤ (th 39) ∧ (th 39) ≤ 200 := (b0_39 hT :); have ob44 : (0 : Int) ≤ (th 44) ∧ (th 44) ≤ 30 := (b0_44 hT :); have orn := rnd_b (th 10); obtain ⟨o0a, o0b⟩ := (hv55_1 : In _ _ _); obtain ⟨o1a, o1b⟩ := (hv14_1 : In _ _ _); obtain ⟨o2a, o2b⟩ := (hv15_1 : In _ _ _); obtain ⟨o3a, o3b⟩ := (hv17_1 : In _ _ _); obtain ⟨o4a, o4b⟩ := (hv20_1 : In _ _ _); obtain ⟨o5a, o5b⟩ := (hv23_1 : In _ _ _); obtain ⟨o6a, o6b⟩ := (hv25_1 : In _ _ _); obtain ⟨o7a, o7b⟩ := (hv36_1 : In _ _ _); obtain ⟨o8a, o8b⟩ := (hv47_1 : In _ _ _); obtain ⟨o9a, o9b⟩ := (hv48_1 : In _ _ _); obtain ⟨o10a, o10b⟩ := (hv53_1 : In _ _ _); omega)) dX11_shows_9 (fun H locs f5 r8 er8 hf6 ho7 hP hD hS => ?_)
  have hf9 := (ho7 (ad 255) (hst.ne (by decide) (by decide) (by decide))).trans hf2
  have hfr : (∀ b, b ≠ (ad 255) → b ≠ (ad 277) → f5 b = f b) := fun b z0_ z1_ => (ho7 b z1_).trans (hfr b z0_ z1_)
  refine lv_aload_n hx hb dX11_shows_10 rfl (lv_at hl 0 rfl) ?_
  refine lv_dup hx hb dX11_shows_11 rfl ?_
  refine pl_get (v := .int v55_1) hx hb hts (fun w h => mT (inX11 w h)) hown hG.1 hP (hst.1 255 (by decide)) hf9 rfl 55 (by decide) (hts _ (mT wg_1391)) (fun _ h => h) rfl dX11_shows_12 ?_
  refine lv_iconst (v := 1) hx hb dX11_shows_15 (by decide) ?_
  refine lv_iadd hx hb dX11_shows_16 ?_
  refine lv_topi (fun x10 ex10 => ?_)
  have hb11 : In x10 1 201 := ex10 ▸ In.add hv55_1 (⟨by decide, by decide⟩ : In 1 1 1) (by decide) (by decide) (by decide) (by decide)
  have et12 : x10.toInt = v55_1.toInt + 1 := In.adde ex10 hv55_1 (k := 1) (by decide) (by decide) (by decide)
  have hT := TI.updM hT hst (k := 22) (by decide) hf6 ho7 ⟨r8, rfl⟩
  refine pl_put (ty := .int) (v := .int x10) (fs' := [.int v0_1, .ref (ad 256), .int v2_1, .int v3_1, .int v4_1, .int v5_1, .int v6_1, .ref (ad 257), .int v8_1, .int v9_1, .ref (ad 258), .ref (ad 259), .int v12_1, .int v13_1, .int v14_1, .int v15_1, .int v16_1, .int v17_1, .int v18_1, .int v19_1, .int v20_1, .long v21_1, .long v22_1, .int v23_1, .ref (ad 260), .int v25_1, .ref (ad 261), .ref (ad 262), .ref (ad 263), .ref (ad 264), .ref (ad 265), .ref (ad 266), .ref (ad 267), .ref (ad 268), .ref (ad 269), .ref (ad 270), .int v36_1, .int v37_1, .int v38_1, .int v39_1, .int v40_1, .ref (ad 271), .ref (ad 272), .ref (ad 273), .ref (ad 274), .long v45_1, .long v46_1, .int v47_1, .int v48_1, .ref (ad 275), .int v50_1, .int v51_1, .ref (ad 276), .int v53_1, .ref (ad 277), .int x10]) hx hb hts (fun w h => mT (inX11 w h)) tyX11 tyX11_ok nmX11 hown hG.1 hP hD hS (hst.1 255 (by decide)) hf9 rfl 55 (by decide) (hts _ (mT wg_1391)) (fun _ h => h) rfl (by decide +kernel) (rfl) (rfl) (Nat.le_of_ble_eq_true rfl) rfl dX11_shows_17 (fun H locs f13 hf14 ho15 hP hD hS => ?_)
  have hf16 := (ho15 (ad 277) (hst.ne (by decide) (by decide) (by decide))).trans hf6
  have hfr : (∀ b, b ≠ (ad 255) → b ≠ (ad 277) → f13 b = f b) := fun b z0_ z1_ => (ho15 b z0_).trans (hfr b z0_ z1_)
  have hT := TI.updMG (th' := (gset th 39 (x10.toInt))) hT hst (k := 0) (by decide) hf14 ho15 ⟨v0_1, v2_1, v3_1, v4_1, v5_1, v6_1, v8_1, v9_1, v12_1, v13_1, v14_1, v15_1, v16_1, v17_1, v18_1, v19_1, v20_1, v21_1, v22_1, v23_1, v25_1, v36_1, v37_1, v38_1, v39_1, v40_1, v45_1, v46_1, v47_1, v48_1, v50_1, v51_1, v53_1, x10, rfl, hv0_1, hv2_1, hg2_1, hv3_1, hg3_1, hv4_1, hg4_1, hv5_1, hg5_1, hv6_1, hg6_1, hv8_1, hg8_1, hv9_1, hg9_1, hv12_1, hv13_1, hg13_1, hv14_1, hg14_1, hv15_1, hg15_1, hv17_1, hg17_1, hv20_1, hg20_1, hv23_1, hg23_1, hv25_1, hg25_1, hv36_1, hg36_1, hv47_1, hg47_1, hv48_1, hg48_1, hv53_1, hg53_1, (In.mk (by have ob10 : (0 : Int) ≤ (th 10) ∧ (th 10) ≤ 1 := (b0_10 hT :); have ob11 : (0 : Int) ≤ (th 11) ∧ (th 11) ≤ 9 := (b0_11 hT :); have ob12 : (0 : Int) ≤ (th 12) ∧ (th 12) ≤ 6 := (b0_12 hT :); have ob14 : (0 : Int) ≤ (th 14) ∧ (th 14) ≤ 511 := (b0_14 hT :); have ob15 : (0 : Int) ≤ (th 15) ∧ (th 15) ≤ 1 := (b0_15 hT :); have ob16 : (0 : Int) ≤ (th 16) ∧ (th 16) ≤ 20 := (b0_16 hT :); have ob17 : (0 : Int) ≤ (th 17) ∧ (th 17) ≤ 1 := (b0_17 hT :); have ob18 : (0 : Int) ≤ (th 18) ∧ (th 18) ≤ 18 := (b0_18 hT :); have ob38 : (0 : Int) ≤ (th 38) ∧ (th 38) ≤ 400 := (b0_38 hT :); have ob39 : (0 : Int) ≤ (th 39) ∧ (th 39) ≤ 200 := (b0_39 hT :); have ob44 : (0 : Int) ≤ (th 44) ∧ (th 44) ≤ 30 := (b0_44 hT :); have orn := rnd_b (th 10); obtain ⟨o0a, o0b⟩ := (hb11 : In _ _ _); obtain ⟨o1a, o1b⟩ := (hv14_1 : In _ _ _); obtain ⟨o2a, o2b⟩ := (hv15_1 : In _ _ _); obtain ⟨o3a, o3b⟩ := (hv17_1 : In _ _ _); obtain ⟨o4a, o4b⟩ := (hv20_1 : In _ _ _); obtain ⟨o5a, o5b⟩ := (hv23_1 : In _ _ _); obtain ⟨o6a, o6b⟩ := (hv25_1 : In _ _ _); obtain ⟨o7a, o7b⟩ := (hv36_1 : In _ _ _); obtain ⟨o8a, o8b⟩ := (hv47_1 : In _ _ _); obtain ⟨o9a, o9b⟩ := (hv48_1 : In _ _ _); obtain ⟨o10a, o10b⟩ := (hv53_1 : In _ _ _); obtain ⟨o11a, o11b⟩ := (hv55_1 : In _ _ _); omega) (by have ob10 : (0 : Int) ≤ (th 10) ∧ (th 10) ≤ 1 := (b0_10 hT :); have ob11 : (0 : Int) ≤ (th 11) ∧ (th 11) ≤ 9 := (b0_11 hT :); have ob12 : (0 : Int) ≤ (th 12) ∧ (th 12) ≤ 6 := (b0_12 hT :); have ob14 : (0 : Int) ≤ (th 14) ∧ (th 14) ≤ 511 := (b0_14 hT :); have ob15 : (0 : Int) ≤ (th 15) ∧ (th 15) ≤ 1 := (b0_15 hT :); have ob16 : (0 : Int) ≤ (th 16) ∧ (th 16) ≤ 20 := (b0_16 hT :); have ob17 : (0 : Int) ≤ (th 17) ∧ (th 17) ≤ 1 := (b0_17 hT :); have ob18 : (0 : Int) ≤ (th 18) ∧ (th 18) ≤ 18 := (b0_18 hT :); have ob38 : (0 : Int) ≤ (th 38) ∧ (th 38) ≤ 400 := (b0_38 hT :); have ob39 : (0 : Int) ≤ (th 39) ∧ (th 39) ≤ 200 := (b0_39 hT :); have ob44 : (0 : Int) ≤ (th 44) ∧ (th 44) ≤ 30 := (b0_44 hT :); have orn := rnd_b (th 10); obtain ⟨o0a, o0b⟩ := (hb11 : In _ _ _); obtain ⟨o1a, o1b⟩ := (hv14_1 : In _ _ _); obtain ⟨o2a, o2b⟩ := (hv15_1 : In _ _ _); obtain ⟨o3a, o3b⟩ := (hv17_1 : In _ _ _); obtain ⟨o4a, o4b⟩ := (hv20_1 : In _ _ _); obtain ⟨o5a, o5b⟩ := (hv23_1 : In _ _ _); obtain ⟨o6a, o6b⟩ := (hv25_1 : In _ _ _); obtain ⟨o7a, o7b⟩ := (hv36_1 : In _ _ _); obtain ⟨o8a, o8b⟩ := (hv47_1 : In _ _ _); obtain ⟨o9a, o9b⟩ := (hv48_1 : In _ _ _); obtain ⟨o10a, o10b⟩ := (hv53_1 : In _ _ _); obtain ⟨o11a, o11b⟩ := (hv55_1 : In _ _ _); omega)), rfl, hrel0_1⟩ (fun q hq => ((gset_ne (fun e => hq (by subst e; decide))).trans rfl))
  have hT : TI g ad (gset th 39 x10.toInt) f13 := TI.cast hT (by funext q; by_cases hq0 : q = 39; (subst hq0; rfl); simp only [gset, if_neg hq0])
  exact ret_v hx hb hr hlocks hP hD hS (Nat.le_of_ble_eq_true rfl) (Nat.le_of_ble_eq_true rfl) (⟨rfl, ⟨x10.toInt, (show x10.toInt = th 39 + 1 from (by have ob10 : (0 : Int) ≤ (th 10) ∧ (th 10) ≤ 1 := (b0_10 hT :); have ob11 : (0 : Int) ≤ (th 11) ∧ (th 11) ≤ 9 := (b0_11 hT :); have ob12 : (0 : Int) ≤ (th 12) ∧ (th 12) ≤ 6 := (b0_12 hT :); have ob14 : (0 : Int) ≤ (th 14) ∧ (th 14) ≤ 511 := (b0_14 hT :); have ob15 : (0 : Int) ≤ (th 15) ∧ (th 15) ≤ 1 := (b0_15 hT :); have ob16 : (0 : Int) ≤ (th 16) ∧ (th 16) ≤ 20 := (b0_16 hT :); have ob17 : (0 : Int) ≤ (th 17) ∧ (th 17) ≤ 1 := (b0_17 hT :); have ob18 : (0 : Int) ≤ (th 18) ∧ (th 18) ≤ 18 := (b0_18 hT :); have ob38 : (0 : Int) ≤ (th 38) ∧ (th 38) ≤ 400 := (b0_38 hT :); have ob39 : (0 : Int) ≤ x10.toInt ∧ x10.toInt ≤ 200 := (b0_39 hT :); have ob44 : (0 : Int) ≤ (th 44) ∧ (th 44) ≤ 30 := (b0_44 hT :); have orn := rnd_b (th 10); omega)), TI.cast hT (by funext q; by_cases hq0 : q = 39; (subst hq0; rfl); simp only [gset, if_neg hq0])⟩, hfr⟩) dX11_shows_20

abbrev rm_X11_writesDigit : Room := { frames := 0, cells := 0, slots := 0, locals := 0 }
abbrev po_X11_writesDigit (g : GG) (ad : Nat → Nat) (th : Nat → Int) (L : List Nat) (f : HP) (z1 : Int32) : (List Nat × HP) → Prop := fun u => u.1 = L ∧ (∃ zs : Int, (zs = th 38 + 1) ∧ TI g ad (gset th 38 zs) u.2) ∧ (∀ b, b ≠ (ad 255) → b ≠ (ad 276) → u.2 b = f b)
set_option maxHeartbeats 4000000 in
set_option maxRecDepth 100000 in
theorem s_X11_writesDigit (l : Launch) (g : GG) (ad : Nat → Nat) (th : Nat → Int) (L : List Nat) (f : HP) (sz : Nat) (z1 : Int32) (hst : ST ad L) (hT : TI g ad th f) (hlen : th 38 < 400) : MtV l g yX11_writesDigit cX11_writesDigit 2 rm_X11_writesDigit [.ref (ad 255), .int z1] L f sz (po_X11_writesDigit g ad th L f z1) := by
  refine MtV.of (by decide +kernel) (Nat.le_of_ble_eq_true rfl) ?_
  intro p e s m below meth c A hEn hP hD hS ls hl
  obtain ⟨hx, hb, hr, hml, hown, hlocks, hts, hG, hA, hE, hnm⟩ := hEn
  have hown : s.vm.findClass "RulerWordModel" = some m.cls := hown
  have hl : lv_has ls 2 [(0, .ref (ad 255)), (1, .int z1)] := hl
  have hfr : (∀ b, b ≠ (ad 255) → b ≠ (ad 276) → f b = f b) := fun b z0_ z1_ => rfl
  refine lv_aload_n hx hb dX11_writesDigit_0 rfl (lv_at hl 0 rfl) ?_
  refine M0e hT (fun v0_1 v2_1 v3_1 v4_1 v5_1 v6_1 v8_1 v9_1 v12_1 v13_1 v14_1 v15_1 v16_1 v17_1 v18_1 v19_1 v20_1 v21_1 v22_1 v23_1 v25_1 v36_1 v37_1 v38_1 v39_1 v40_1 v45_1 v46_1 v47_1 v48_1 v50_1 v51_1 v53_1 v55_1 hf2 hv0_1 hv2_1 hg2_1 hv3_1 hg3_1 hv4_1 hg4_1 hv5_1 hg5_1 hv6_1 hg6_1 hv8_1 hg8_1 hv9_1 hg9_1 hv12_1 hv13_1 hg13_1 hv14_1 hg14_1 hv15_1 hg15_1 hv17_1 hg17_1 hv20_1 hg20_1 hv23_1 hg23_1 hv25_1 hg25_1 hv36_1 hg36_1 hv47_1 hg47_1 hv48_1 hg48_1 hv53_1 hg53_1 hv55_1 hg55_1 hrel0_1 => ?_)
  have hg15_1 : v15_1.toInt = th 11 := hg15_1
  have hg17_1 : v17_1.toInt = th 12 := hg17_1
  have hg20_1 : v20_1.toInt = th 14 := hg20_1
  refine pl_get (v := .ref (ad 276)) hx hb hts (fun w h => mT (inX11 w h)) hown hG.1 hP (hst.1 255 (by decide)) hf2 rfl 52 (by decide) (hts _ (mT wg_1388)) (fun _ h => h) rfl dX11_writesDigit_1 ?_
  refine lv_aload_n hx hb dX11_writesDigit_4 rfl (lv_at hl 0 rfl) ?_
  refine pl_get (v := .int v53_1) hx hb hts (fun w h => mT (inX11 w h)) hown hG.1 hP (hst.1 255 (by decide)) hf2 rfl 53 (by decide) (hts _ (mT wg_1389)) (fun _ h => h) rfl dX11_writesDigit_5 ?_
  have hg53_1 : v53_1.toInt = th 38 := hg53_1
  refine lv_bipush (v := 48) hx hb dX11_writesDigit_8 (by decide) ?_
  refine lv_iload_n hx hb dX11_writesDigit_10 rfl (lv_at hl 1 rfl) ?_
  refine lv_iadd hx hb dX11_writesDigit_11 ?_
  refine lv_topi (fun x3 ex3 => ?_)
  obtain ⟨rw4, hf5⟩ := hT.2.2 21 (by decide)
  refine pl_iastE hx hb hG.1 hP hD hS (hst.1 276 (by decide)) 0 hf5 rfl (vp_of (by have ob10 : (0 : Int) ≤ (th 10) ∧ (th 10) ≤ 1 := (b0_10 hT :); have ob11 : (0 : Int) ≤ (th 11) ∧ (th 11) ≤ 9 := (b0_11 hT :); have ob12 : (0 : Int) ≤ (th 12) ∧ (th 12) ≤ 6 := (b0_12 hT :); have ob14 : (0 : Int) ≤ (th 14) ∧ (th 14) ≤ 511 := (b0_14 hT :); have ob15 : (0 : Int) ≤ (th 15) ∧ (th 15) ≤ 1 := (b0_15 hT :); have ob16 : (0 : Int) ≤ (th 16) ∧ (th 16) ≤ 20 := (b0_16 hT :); have ob17 : (0 : Int) ≤ (th 17) ∧ (th 17) ≤ 1 := (b0_17 hT :); have ob18 : (0 : Int) ≤ (th 18) ∧ (th 18) ≤ 18 := (b0_18 hT :); have ob38 : (0 : Int) ≤ (th 38) ∧ (th 38) ≤ 400 := (b0_38 hT :); have ob39 : (0 : Int) ≤ (th 39) ∧ (th 39) ≤ 200 := (b0_39 hT :); have ob44 : (0 : Int) ≤ (th 44) ∧ (th 44) ≤ 30 := (b0_44 hT :); have orn := rnd_b (th 10); obtain ⟨o0a, o0b⟩ := (hv53_1 : In _ _ _); obtain ⟨o1a, o1b⟩ := (hv14_1 : In _ _ _); obtain ⟨o2a, o2b⟩ := (hv15_1 : In _ _ _); obtain ⟨o3a, o3b⟩ := (hv17_1 : In _ _ _); obtain ⟨o4a, o4b⟩ := (hv20_1 : In _ _ _); obtain ⟨o5a, o5b⟩ := (hv23_1 : In _ _ _); obtain ⟨o6a, o6b⟩ := (hv25_1 : In _ _ _); obtain ⟨o7a, o7b⟩ := (hv36_1 : In _ _ _); obtain ⟨o8a, o8b⟩ := (hv47_1 : In _ _ _); obtain ⟨o9a, o9b⟩ := (hv48_1 : In _ _ _); obtain ⟨o10a, o10b⟩ := (hv55_1 : In _ _ _); omega) (by have ob10 : (0 : Int) ≤ (th 10) ∧ (th 10) ≤ 1 := (b0_10 hT :); have ob11 : (0 : Int) ≤ (th 11) ∧ (th 11) ≤ 9 := (b0_11 hT :); have ob12 : (0 : Int) ≤ (th 12) ∧ (th 12) ≤ 6 := (b0_12 hT :); have ob14 : (0 : Int) ≤ (th 14) ∧ (th 14) ≤ 511 := (b0_14 hT :); have ob15 : (0 : Int) ≤ (th 15) ∧ (th 15) ≤ 1 := (b0_15 hT :); have ob16 : (0 : Int) ≤ (th 16) ∧ (th 16) ≤ 20 := (b0_16 hT :); have ob17 : (0 : Int) ≤ (th 17) ∧ (th 17) ≤ 1 := (b0_17 hT :); have ob18 : (0 : Int) ≤ (th 18) ∧ (th 18) ≤ 18 := (b0_18 hT :); have ob38 : (0 : Int) ≤ (th 38) ∧ (th 38) ≤ 400 := (b0_38 hT :); have ob39 : (0 : Int) ≤ (th 39) ∧ (th 39) ≤ 200 := (b0_39 hT :); have ob44 : (0 : Int) ≤ (th 44) ∧ (th 44) ≤ 30 := (b0_44 hT :); have orn := rnd_b (th 10); obtain ⟨o0a, o0b⟩ := (hv53_1 : In _ _ _); obtain ⟨o1a, o1b⟩ := (hv14_1 : In _ _ _); obtain ⟨o2a, o2b⟩ := (hv15_1 : In _ _ _); obtain ⟨o3a, o3b⟩ := (hv17_1 : In _ _ _); obtain ⟨o4a, o4b⟩ := (hv20_1 : In _ _ _); obtain ⟨o5a, o5b⟩ := (hv23_1 : In _ _ _); obtain ⟨o6a, o6b⟩ := (hv25_1 : In _ _ _); obtain ⟨o7a, o7b⟩ := (hv36_1 : In _ _ _); obtain ⟨o8a, o8b⟩ := (hv47_1 : In _ _ _); obtain ⟨o9a, o9b⟩ := (hv48_1 : In _ _ _); obtain ⟨o10a, o10b⟩ := (hv55_1 : In _ _ _); omega)) dX11_writesDigit_12 (fun H locs f6 r9 er9 hf7 ho8 hP hD hS => ?_)
  have hf10 := (ho8 (ad 255) (hst.ne (by decide) (by decide) (by decide))).trans hf2
  have hfr : (∀ b, b ≠ (ad 255) → b ≠ (ad 276) → f6 b = f b) := fun b z0_ z1_ => (ho8 b z1_).trans (hfr b z0_ z1_)
  refine lv_aload_n hx hb dX11_writesDigit_13 rfl (lv_at hl 0 rfl) ?_
  refine lv_dup hx hb dX11_writesDigit_14 rfl ?_
  refine pl_get (v := .int v53_1) hx hb hts (fun w h => mT (inX11 w h)) hown hG.1 hP (hst.1 255 (by decide)) hf10 rfl 53 (by decide) (hts _ (mT wg_1389)) (fun _ h => h) rfl dX11_writesDigit_15 ?_
  refine lv_iconst (v := 1) hx hb dX11_writesDigit_18 (by decide) ?_
  refine lv_iadd hx hb dX11_writesDigit_19 ?_
  refine lv_topi (fun x11 ex11 => ?_)
  have hb12 : In x11 1 401 := ex11 ▸ In.add hv53_1 (⟨by decide, by decide⟩ : In 1 1 1) (by decide) (by decide) (by decide) (by decide)
  have et13 : x11.toInt = v53_1.toInt + 1 := In.adde ex11 hv53_1 (k := 1) (by decide) (by decide) (by decide)
  have hT := TI.updM hT hst (k := 21) (by decide) hf7 ho8 ⟨r9, rfl⟩
  refine pl_put (ty := .int) (v := .int x11) (fs' := [.int v0_1, .ref (ad 256), .int v2_1, .int v3_1, .int v4_1, .int v5_1, .int v6_1, .ref (ad 257), .int v8_1, .int v9_1, .ref (ad 258), .ref (ad 259), .int v12_1, .int v13_1, .int v14_1, .int v15_1, .int v16_1, .int v17_1, .int v18_1, .int v19_1, .int v20_1, .long v21_1, .long v22_1, .int v23_1, .ref (ad 260), .int v25_1, .ref (ad 261), .ref (ad 262), .ref (ad 263), .ref (ad 264), .ref (ad 265), .ref (ad 266), .ref (ad 267), .ref (ad 268), .ref (ad 269), .ref (ad 270), .int v36_1, .int v37_1, .int v38_1, .int v39_1, .int v40_1, .ref (ad 271), .ref (ad 272), .ref (ad 273), .ref (ad 274), .long v45_1, .long v46_1, .int v47_1, .int v48_1, .ref (ad 275), .int v50_1, .int v51_1, .ref (ad 276), .int x11, .ref (ad 277), .int v55_1]) hx hb hts (fun w h => mT (inX11 w h)) tyX11 tyX11_ok nmX11 hown hG.1 hP hD hS (hst.1 255 (by decide)) hf10 rfl 53 (by decide) (hts _ (mT wg_1389)) (fun _ h => h) rfl (by decide +kernel) (rfl) (rfl) (Nat.le_of_ble_eq_true rfl) rfl dX11_writesDigit_20 (fun H locs f14 hf15 ho16 hP hD hS => ?_)
  have hf17 := (ho16 (ad 276) (hst.ne (by decide) (by decide) (by decide))).trans hf7
  have hfr : (∀ b, b ≠ (ad 255) → b ≠ (ad 276) → f14 b = f b) := fun b z0_ z1_ => (ho16 b z0_).trans (hfr b z0_ z1_)
  have hT := TI.updMG (th' := (gset th 38 (x11.toInt))) hT hst (k := 0) (by decide) hf15 ho16 ⟨v0_1, v2_1, v3_1, v4_1, v5_1, v6_1, v8_1, v9_1, v12_1, v13_1, v14_1, v15_1, v16_1, v17_1, v18_1, v19_1, v20_1, v21_1, v22_1, v23_1, v25_1, v36_1, v37_1, v38_1, v39_1, v40_1, v45_1, v46_1, v47_1, v48_1, v50_1, v51_1, x11, v55_1, rfl, hv0_1, hv2_1, hg2_1, hv3_1, hg3_1, hv4_1, hg4_1, hv5_1, hg5_1, hv6_1, hg6_1, hv8_1, hg8_1, hv9_1, hg9_1, hv12_1, hv13_1, hg13_1, hv14_1, hg14_1, hv15_1, hg15_1, hv17_1, hg17_1, hv20_1, hg20_1, hv23_1, hg23_1, hv25_1, hg25_1, hv36_1, hg36_1, hv47_1, hg47_1, hv48_1, hg48_1, (In.mk (by have ob10 : (0 : Int) ≤ (th 10) ∧ (th 10) ≤ 1 := (b0_10 hT :); have ob11 : (0 : Int) ≤ (th 11) ∧ (th 11) ≤ 9 := (b0_11 hT :); have ob12 : (0 : Int) ≤ (th 12) ∧ (th 12) ≤ 6 := (b0_12 hT :); have ob14 : (0 : Int) ≤ (th 14) ∧ (th 14) ≤ 511 := (b0_14 hT :); have ob15 : (0 : Int) ≤ (th 15) ∧ (th 15) ≤ 1 := (b0_15 hT :); have ob16 : (0 : Int) ≤ (th 16) ∧ (th 16) ≤ 20 := (b0_16 hT :); have ob17 : (0 : Int) ≤ (th 17) ∧ (th 17) ≤ 1 := (b0_17 hT :); have ob18 : (0 : Int) ≤ (th 18) ∧ (th 18) ≤ 18 := (b0_18 hT :); have ob38 : (0 : Int) ≤ (th 38) ∧ (th 38) ≤ 400 := (b0_38 hT :); have ob39 : (0 : Int) ≤ (th 39) ∧ (th 39) ≤ 200 := (b0_39 hT :); have ob44 : (0 : Int) ≤ (th 44) ∧ (th 44) ≤ 30 := (b0_44 hT :); have orn := rnd_b (th 10); obtain ⟨o0a, o0b⟩ := (hb12 : In _ _ _); obtain ⟨o1a, o1b⟩ := (hv14_1 : In _ _ _); obtain ⟨o2a, o2b⟩ := (hv15_1 : In _ _ _); obtain ⟨o3a, o3b⟩ := (hv17_1 : In _ _ _); obtain ⟨o4a, o4b⟩ := (hv20_1 : In _ _ _); obtain ⟨o5a, o5b⟩ := (hv23_1 : In _ _ _); obtain ⟨o6a, o6b⟩ := (hv25_1 : In _ _ _); obtain ⟨o7a, o7b⟩ := (hv36_1 : In _ _ _); obtain ⟨o8a, o8b⟩ := (hv47_1 : In _ _ _); obtain ⟨o9a, o9b⟩ := (hv48_1 : In _ _ _); obtain ⟨o10a, o10b⟩ := (hv55_1 : In _ _ _); obtain ⟨o11a, o11b⟩ := (hv53_1 : In _ _ _); omega) (by have ob10 : (0 : Int) ≤ (th 10) ∧ (th 10) ≤ 1 := (b0_10 hT :); have ob11 : (0 : Int) ≤ (th 11) ∧ (th 11) ≤ 9 := (b0_11 hT :); have ob12 : (0 : Int) ≤ (th 12) ∧ (th 12) ≤ 6 := (b0_12 hT :); have ob14 : (0 : Int) ≤ (th 14) ∧ (th 14) ≤ 511 := (b0_14 hT :); have ob15 : (0 : Int) ≤ (th 15) ∧ (th 15) ≤ 1 := (b0_15 hT :); have ob16 : (0 : Int) ≤ (th 16) ∧ (th 16) ≤ 20 := (b0_16 hT :); have ob17 : (0 : Int) ≤ (th 17) ∧ (th 17) ≤ 1 := (b0_17 hT :); have ob18 : (0 : Int) ≤ (th 18) ∧ (th 18) ≤ 18 := (b0_18 hT :); have ob38 : (0 : Int) ≤ (th 38) ∧ (th 38) ≤ 400 := (b0_38 hT :); have ob39 : (0 : Int) ≤ (th 39) ∧ (th 39) ≤ 200 := (b0_39 hT :); have ob44 : (0 : Int) ≤ (th 44) ∧ (th 44) ≤ 30 := (b0_44 hT :); have orn := rnd_b (th 10); obtain ⟨o0a, o0b⟩ := (hb12 : In _ _ _); obtain ⟨o1a, o1b⟩ := (hv14_1 : In _ _ _); obtain ⟨o2a, o2b⟩ := (hv15_1 : In _ _ _); obtain ⟨o3a, o3b⟩ := (hv17_1 : In _ _ _); obtain ⟨o4a, o4b⟩ := (hv20_1 : In _ _ _); obtain ⟨o5a, o5b⟩ := (hv23_1 : In _ _ _); obtain ⟨o6a, o6b⟩ := (hv25_1 : In _ _ _); obtain ⟨o7a, o7b⟩ := (hv36_1 : In _ _ _); obtain ⟨o8a, o8b⟩ := (hv47_1 : In _ _ _); obtain ⟨o9a, o9b⟩ := (hv48_1 : In _ _ _); obtain ⟨o10a, o10b⟩ := (hv55_1 : In _ _ _); obtain ⟨o11a, o11b⟩ := (hv53_1 : In _ _ _); omega)), rfl, hv55_1, hg55_1, hrel0_1⟩ (fun q hq => ((gset_ne (fun e => hq (by subst e; decide))).trans rfl))
  have hT : TI g ad (gset th 38 x11.toInt) f14 := TI.cast hT (by funext q; by_cases hq0 : q = 38; (subst hq0; rfl); simp only [gset, if_neg hq0])
  exact ret_v hx hb hr hlocks hP hD hS (Nat.le_of_ble_eq_true rfl) (Nat.le_of_ble_eq_true rfl) (⟨rfl, ⟨x11.toInt, (show x11.toInt = th 38 + 1 from (by have ob10 : (0 : Int) ≤ (th 10) ∧ (th 10) ≤ 1 := (b0_10 hT :); have ob11 : (0 : Int) ≤ (th 11) ∧ (th 11) ≤ 9 := (b0_11 hT :); have ob12 : (0 : Int) ≤ (th 12) ∧ (th 12) ≤ 6 := (b0_12 hT :); have ob14 : (0 : Int) ≤ (th 14) ∧ (th 14) ≤ 511 := (b0_14 hT :); have ob15 : (0 : Int) ≤ (th 15) ∧ (th 15) ≤ 1 := (b0_15 hT :); have ob16 : (0 : Int) ≤ (th 16) ∧ (th 16) ≤ 20 := (b0_16 hT :); have ob17 : (0 : Int) ≤ (th 17) ∧ (th 17) ≤ 1 := (b0_17 hT :); have ob18 : (0 : Int) ≤ (th 18) ∧ (th 18) ≤ 18 := (b0_18 hT :); have ob38 : (0 : Int) ≤ x11.toInt ∧ x11.toInt ≤ 400 := (b0_38 hT :); have ob39 : (0 : Int) ≤ (th 39) ∧ (th 39) ≤ 200 := (b0_39 hT :); have ob44 : (0 : Int) ≤ (th 44) ∧ (th 44) ≤ 30 := (b0_44 hT :); have orn := rnd_b (th 10); omega)), TI.cast hT (by funext q; by_cases hq0 : q = 38; (subst hq0; rfl); simp only [gset, if_neg hq0])⟩, hfr⟩) dX11_writesDigit_23

abbrev rm_X11_showsWord : Room := { frames := 4, cells := 0, slots := 0, locals := 85 }
abbrev po_X11_showsWord (g : GG) (ad : Nat → Nat) (th : Nat → Int) (L : List Nat) (f : HP) (z1 : Nat) : (List Nat × HP) → Prop := fun u => u.1 = L ∧ (∃ zs : Int, (zs = th 39 + ((lenS.getD z1 0 : Nat) : Int)) ∧ TI g ad (gset th 39 zs) u.2) ∧ (∀ b, b ≠ (ad 255) → b ≠ (ad 277) → u.2 b = f b)
set_option maxHeartbeats 4000000 in
set_option maxRecDepth 100000 in
theorem s_X11_showsWord (l : Launch) (g : GG) (ad : Nat → Nat) (th : Nat → Int) (L : List Nat) (f : HP) (sz : Nat) (z1 : Nat) (hst : ST ad L) (hT : TI g ad th f) (hi_z1 : z1 < nS) (hlen : th 39 + ((lenS.getD z1 0 : Nat) : Int) ≤ 200) : MtV l g yX11_showsWord cX11_showsWord 3 rm_X11_showsWord [.ref (ad 255), .ref (g.2.2.1 z1)] L f sz (po_X11_showsWord g ad th L f z1) := by
  refine MtV.of (by decide +kernel) (Nat.le_of_ble_eq_true rfl) ?_
  intro p e s m below meth c A hEn hP hD hS ls hl
  obtain ⟨hx, hb, hr, hml, hown, hlocks, hts, hG, hA, hE, hnm⟩ := hEn
  have hown : s.vm.findClass "RulerWordModel" = some m.cls := hown
  have hl : lv_has ls 3 [(0, .ref (ad 255)), (1, .ref (g.2.2.1 z1))] := hl
  have hfr : (∀ b, b ≠ (ad 255) → b ≠ (ad 277) → f b = f b) := fun b z0_ z1_ => rfl
  refine lv_iconst (v := 0) hx hb dX11_showsWord_0 (by decide) ?_
  refine lv_istore_n (lv' := [(2, .int 0), (0, .ref (ad 255)), (1, .ref (g.2.2.1 z1))]) hx hb dX11_showsWord_1 rfl hl (by decide) rfl (fun ls hl => ?_)
  have hJ2 : ∀ (k2 : Nat) (zg2_zs : Int) (y2_l2 : Int32) (f_2 : HP) (H : Heap) (locs : List Loc) (ls : Array Slot), (zg2_zs = th 39 + y2_l2.toInt ∧ y2_l2.toInt ≤ ((lenS.getD z1 0 : Nat) : Int)) → In y2_l2 0 7 → va_P g.1 vwCl (va_pl L f_2) H → va_D A (va_pl L f_2) → va_S A s.heap H locs → TI g ad (gset th 39 zg2_zs) f_2 → (∀ b, b ≠ (ad 255) → b ≠ (ad 277) → f_2 b = f b) → lv_has ls 3 [(0, .ref (ad 255)), (1, .ref (g.2.2.1 z1)), (2, .int y2_l2)] → 7 - y2_l2.toInt < ((k2 : Nat) : Int) → W p l e rm_X11_showsWord s m [.ref (ad 255), .ref (g.2.2.1 z1)].toArray below meth c H locs 0 0 (MQ below (va_Qv (po_X11_showsWord g ad th L f z1) (PstB g A) A) [.ref (ad 255), .ref (g.2.2.1 z1)].toArray s rm_X11_showsWord.cells rm_X11_showsWord.slots A) (F0 m 2 ls []) := by
    intro k2
    induction k2 with
    | zero =>
      intro zg2_zs y2_l2 f_2 H locs ls hzg2 hy2_l2 hP hD hS hT hfr hl hmz2
      exact ms0 hy2_l2 hmz2
    | succ k2 ih2 =>
      intro zg2_zs y2_l2 f_2 H locs ls hzg2 hy2_l2 hP hD hS hT hfr hl hmz2
      refine lv_iload_n hx hb dX11_showsWord_2 rfl (lv_at hl 2 rfl) ?_
      refine lv_aload_n hx hb dX11_showsWord_3 rfl (lv_at hl 1 rfl) ?_
      refine call_i (run_VJ (rm := rm_J0_length) hx hb hml hown hts (i := z1) (hi_z1) (s_J0_length l g _ _ _ z1  hi_z1) cV_J0_length_8abf5 wg_1542 rfl ⟨Nat.le_of_ble_eq_true rfl, Nat.le_of_ble_eq_true rfl⟩ hG hE hA hP hD hS rfl hl.1 (As := []) (rest := [.int y2_l2]) rfl (Nat.le_of_ble_eq_true rfl) dX11_showsWord_4 ⟨Nat.le_of_ble_eq_true rfl, Nat.le_of_ble_eq_true rfl⟩) hA hD hS (fun r1 L2 f3 H locs hp4 hP hD hS => ?_)
      have eL5 : L2 = L := hp4.1
      have eL5f : f3 = f_2 := hp4.2.1
      rw [eL5, eL5f] at hP hD
      have hb6 : In r1 0 7 := hp4.2.2.1
      have hle7 : r1.toInt = ((lenS.getD z1 0 : Nat) : Int) := hp4.2.2.2
      refine lv_icmp_ge (tgt := 25) hx hb dX11_showsWord_7 (by decide) (fun c8 => ?_) (fun c8 => ?_)
      ·
        have cc9 : r1.toInt ≤ y2_l2.toInt := i32_le.mp c8
        exact ret_v hx hb hr hlocks hP hD hS (Nat.le_of_ble_eq_true rfl) (Nat.le_of_ble_eq_true rfl) (⟨rfl, ⟨zg2_zs, (show zg2_zs = th 39 + ((lenS.getD z1 0 : Nat) : Int) from (by have ob10 : (0 : Int) ≤ (th 10) ∧ (th 10) ≤ 1 := (b0_10 hT :); have ob11 : (0 : Int) ≤ (th 11) ∧ (th 11) ≤ 9 := (b0_11 hT :); have ob12 : (0 : Int) ≤ (th 12) ∧ (th 12) ≤ 6 := (b0_12 hT :); have ob14 : (0 : Int) ≤ (th 14) ∧ (th 14) ≤ 511 := (b0_14 hT :); have ob15 : (0 : Int) ≤ (th 15) ∧ (th 15) ≤ 1 := (b0_15 hT :); have ob16 : (0 : Int) ≤ (th 16) ∧ (th 16) ≤ 20 := (b0_16 hT :); have ob17 : (0 : Int) ≤ (th 17) ∧ (th 17) ≤ 1 := (b0_17 hT :); have ob18 : (0 : Int) ≤ (th 18) ∧ (th 18) ≤ 18 := (b0_18 hT :); have ob38 : (0 : Int) ≤ (th 38) ∧ (th 38) ≤ 400 := (b0_38 hT :); have ob39 : (0 : Int) ≤ zg2_zs ∧ zg2_zs ≤ 200 := (b0_39 hT :); have ob44 : (0 : Int) ≤ (th 44) ∧ (th 44) ≤ 30 := (b0_44 hT :); have orn := rnd_b (th 10); obtain ⟨o0a, o0b⟩ := (hy2_l2 : In _ _ _); obtain ⟨o1a, o1b⟩ := (hb6 : In _ _ _); omega)), TI.cast hT (by funext q; by_cases hq0 : q = 39; (subst hq0; rfl); simp only [gset, if_neg hq0])⟩, hfr⟩) dX11_showsWord_25
      ·
        have cc10 : y2_l2.toInt < r1.toInt := i32_nle c8
        have hb11 : In y2_l2 0 6 := In.lt1 hy2_l2 hb6 cc10 (by decide) (by decide)
        have hb12 : In r1 1 7 := In.lt2 hy2_l2 hb6 cc10 (by decide) (by decide)
        refine lv_aload_n hx hb dX11_showsWord_10 rfl (lv_at hl 0 rfl) ?_
        refine lv_aload_n hx hb dX11_showsWord_11 rfl (lv_at hl 1 rfl) ?_
        refine lv_iload_n hx hb dX11_showsWord_12 rfl (lv_at hl 2 rfl) ?_
        refine call_i (run_VJ (rm := rm_J0_charAt) hx hb hml hown hts (i := z1) (hi_z1) (s_J0_charAt l g _ _ _ z1 y2_l2 hi_z1 (Int.le_trans (by decide) hb11.1) (by have q1 := cc10; have q2 := hle7; omega)) cV_J0_charAt_5068e wg_1543 rfl ⟨Nat.le_of_ble_eq_true rfl, Nat.le_of_ble_eq_true rfl⟩ hG hE hA hP hD hS rfl hl.1 (As := [.int y2_l2]) (rest := [.ref (ad 255)]) rfl (Nat.le_of_ble_eq_true rfl) dX11_showsWord_13 ⟨Nat.le_of_ble_eq_true rfl, Nat.le_of_ble_eq_true rfl⟩) hA hD hS (fun r13 L14 f15 H locs hp16 hP hD hS => ?_)
        have eL17 : L14 = L := hp16.1
        have eL17f : f15 = f_2 := hp16.2.1
        rw [eL17, eL17f] at hP hD
        have hb18 : In r13 0 65535 := hp16.2.2
        refine M0e hT (fun v0_19 v2_19 v3_19 v4_19 v5_19 v6_19 v8_19 v9_19 v12_19 v13_19 v14_19 v15_19 v16_19 v17_19 v18_19 v19_19 v20_19 v21_19 v22_19 v23_19 v25_19 v36_19 v37_19 v38_19 v39_19 v40_19 v45_19 v46_19 v47_19 v48_19 v50_19 v51_19 v53_19 v55_19 hf20 hv0_19 hv2_19 hg2_19 hv3_19 hg3_19 hv4_19 hg4_19 hv5_19 hg5_19 hv6_19 hg6_19 hv8_19 hg8_19 hv9_19 hg9_19 hv12_19 hv13_19 hg13_19 hv14_19 hg14_19 hv15_19 hg15_19 hv17_19 hg17_19 hv20_19 hg20_19 hv23_19 hg23_19 hv25_19 hg25_19 hv36_19 hg36_19 hv47_19 hg47_19 hv48_19 hg48_19 hv53_19 hg53_19 hv55_19 hg55_19 hrel0_19 => ?_)
        have hg15_19 : v15_19.toInt = th 11 := hg15_19
        have hg17_19 : v17_19.toInt = th 12 := hg17_19
        have hg20_19 : v20_19.toInt = th 14 := hg20_19
        refine call_v (run_V (rm := rm_X11_shows) hx hb hml hown hts (s_X11_shows l g ad (gset th 39 zg2_zs) _ _ _ r13 hst hT (show zg2_zs < 200 from (by have ob10 : (0 : Int) ≤ (th 10) ∧ (th 10) ≤ 1 := (b0_10 hT :); have ob11 : (0 : Int) ≤ (th 11) ∧ (th 11) ≤ 9 := (b0_11 hT :); have ob12 : (0 : Int) ≤ (th 12) ∧ (th 12) ≤ 6 := (b0_12 hT :); have ob14 : (0 : Int) ≤ (th 14) ∧ (th 14) ≤ 511 := (b0_14 hT :); have ob15 : (0 : Int) ≤ (th 15) ∧ (th 15) ≤ 1 := (b0_15 hT :); have ob16 : (0 : Int) ≤ (th 16) ∧ (th 16) ≤ 20 := (b0_16 hT :); have ob17 : (0 : Int) ≤ (th 17) ∧ (th 17) ≤ 1 := (b0_17 hT :); have ob18 : (0 : Int) ≤ (th 18) ∧ (th 18) ≤ 18 := (b0_18 hT :); have ob38 : (0 : Int) ≤ (th 38) ∧ (th 38) ≤ 400 := (b0_38 hT :); have ob39 : (0 : Int) ≤ zg2_zs ∧ zg2_zs ≤ 200 := (b0_39 hT :); have ob44 : (0 : Int) ≤ (th 44) ∧ (th 44) ≤ 30 := (b0_44 hT :); have orn := rnd_b (th 10); obtain ⟨o0a, o0b⟩ := (hv14_19 : In _ _ _); obtain ⟨o1a, o1b⟩ := (hv15_19 : In _ _ _); obtain ⟨o2a, o2b⟩ := (hv17_19 : In _ _ _); obtain ⟨o3a, o3b⟩ := (hv20_19 : In _ _ _); obtain ⟨o4a, o4b⟩ := (hv23_19 : In _ _ _); obtain ⟨o5a, o5b⟩ := (hv25_19 : In _ _ _); obtain ⟨o6a, o6b⟩ := (hv36_19 : In _ _ _); obtain ⟨o7a, o7b⟩ := (hv47_19 : In _ _ _); obtain ⟨o8a, o8b⟩ := (hv48_19 : In _ _ _); obtain ⟨o9a, o9b⟩ := (hv53_19 : In _ _ _); obtain ⟨o10a, o10b⟩ := (hv55_19 : In _ _ _); omega))) cV_X11_shows wg_1929 ⟨Nat.le_of_ble_eq_true rfl, Nat.le_of_ble_eq_true rfl⟩ hG hE hA hP hD hS (hst.1 255 (by decide)) hf20 rfl rfl hl.1 (As := [.int r13]) (rest := []) rfl (Nat.le_of_ble_eq_true rfl) dX11_showsWord_16 ⟨Nat.le_of_ble_eq_true rfl, Nat.le_of_ble_eq_true rfl⟩) hA hD hS (fun L22 f23 H locs hp24 hP hD hS => ?_)
        obtain ⟨eL25L, eL25T, eL25F⟩ := hp24
        have eL25L : L22 = L := eL25L
        rw [eL25L] at hP hD
        obtain ⟨zz26, hzz26, eL25T⟩ := eL25T
        have hzz26 : zz26 = zg2_zs + 1 := hzz26
        have hT : TI g ad (gset (gset th 39 zg2_zs) 39 zz26) f23 := eL25T
        have hT : TI g ad (gset th 39 zz26) f23 := TI.cast hT (by funext q; by_cases hq0 : q = 39; (subst hq0; rfl); simp only [gset, if_neg hq0])
        have eL25F : ∀ b, b ≠ (ad 255) → b ≠ (ad 277) → f23 b = f_2 b := eL25F
        have hfr : (∀ b, b ≠ (ad 255) → b ≠ (ad 277) → f23 b = f b) := fun b z0_ z1_ => (eL25F b z0_ z1_).trans (hfr b z0_ z1_)
        obtain ⟨x27, ex27⟩ : ∃ y : Int32, y = y2_l2 + 1 := ⟨_, rfl⟩
        have hb28 : In x27 1 7 := ex27 ▸ In.add hb11 (⟨by decide, by decide⟩ : In 1 1 1) (by decide) (by decide) (by decide) (by decide)
        have et29 : x27.toInt = y2_l2.toInt + 1 := In.adde ex27 hb11 (k := 1) (by decide) (by decide) (by decide)
        refine lv_iinc (v := x27) (lv' := [(2, .int x27), (0, .ref (ad 255)), (1, .ref (g.2.2.1 z1))]) hx hb dX11_showsWord_19 hl (k := 2) rfl (by rw [ex27]; rfl) (by decide) rfl (fun ls hl => ?_)
        refine lv_goto (tgt := 2) hx hb dX11_showsWord_22 (by decide) ?_
        exact ih2 zz26 x27 _ _ _ _ (show _ from (by have ql := Int.natCast_nonneg (lenS.getD z1 0); have ob10 : (0 : Int) ≤ (th 10) ∧ (th 10) ≤ 1 := (b0_10 hT :); have ob11 : (0 : Int) ≤ (th 11) ∧ (th 11) ≤ 9 := (b0_11 hT :); have ob12 : (0 : Int) ≤ (th 12) ∧ (th 12) ≤ 6 := (b0_12 hT :); have ob14 : (0 : Int) ≤ (th 14) ∧ (th 14) ≤ 511 := (b0_14 hT :); have ob15 : (0 : Int) ≤ (th 15) ∧ (th 15) ≤ 1 := (b0_15 hT :); have ob16 : (0 : Int) ≤ (th 16) ∧ (th 16) ≤ 20 := (b0_16 hT :); have ob17 : (0 : Int) ≤ (th 17) ∧ (th 17) ≤ 1 := (b0_17 hT :); have ob18 : (0 : Int) ≤ (th 18) ∧ (th 18) ≤ 18 := (b0_18 hT :); have ob38 : (0 : Int) ≤ (th 38) ∧ (th 38) ≤ 400 := (b0_38 hT :); have ob39 : (0 : Int) ≤ zz26 ∧ zz26 ≤ 200 := (b0_39 hT :); have ob44 : (0 : Int) ≤ (th 44) ∧ (th 44) ≤ 30 := (b0_44 hT :); have orn := rnd_b (th 10); obtain ⟨o0a, o0b⟩ := (hb28 : In _ _ _); obtain ⟨o1a, o1b⟩ := (hb11 : In _ _ _); obtain ⟨o2a, o2b⟩ := (hb12 : In _ _ _); omega)) (In.mono hb28 (by decide) (by decide)) hP hD hS (TI.cast hT (by funext q; by_cases hq0 : q = 39; (subst hq0; rfl); simp only [gset, if_neg hq0])) hfr (lv_sub hl [1, 2, 0] rfl) (msu et29 (by decide) hmz2)
  exact hJ2 ((7 - (0 : Int32).toInt).toNat + 1) (th 39) 0 _ _ _ _ (show _ from (by have ql := Int.natCast_nonneg (lenS.getD z1 0); have ob10 : (0 : Int) ≤ (th 10) ∧ (th 10) ≤ 1 := (b0_10 hT :); have ob11 : (0 : Int) ≤ (th 11) ∧ (th 11) ≤ 9 := (b0_11 hT :); have ob12 : (0 : Int) ≤ (th 12) ∧ (th 12) ≤ 6 := (b0_12 hT :); have ob14 : (0 : Int) ≤ (th 14) ∧ (th 14) ≤ 511 := (b0_14 hT :); have ob15 : (0 : Int) ≤ (th 15) ∧ (th 15) ≤ 1 := (b0_15 hT :); have ob16 : (0 : Int) ≤ (th 16) ∧ (th 16) ≤ 20 := (b0_16 hT :); have ob17 : (0 : Int) ≤ (th 17) ∧ (th 17) ≤ 1 := (b0_17 hT :); have ob18 : (0 : Int) ≤ (th 18) ∧ (th 18) ≤ 18 := (b0_18 hT :); have ob38 : (0 : Int) ≤ (th 38) ∧ (th 38) ≤ 400 := (b0_38 hT :); have ob39 : (0 : Int) ≤ (th 39) ∧ (th 39) ≤ 200 := (b0_39 hT :); have ob44 : (0 : Int) ≤ (th 44) ∧ (th 44) ≤ 30 := (b0_44 hT :); have orn := rnd_b (th 10); have oc0 : (0 : Int32).toInt = 0 := (by decide); omega)) (⟨by decide, by decide⟩ : In 0 0 7) hP hD hS (TI.cast hT (by funext q; by_cases hq0 : q = 39; (subst hq0; rfl); simp only [gset, if_neg hq0])) hfr (lv_sub hl [1, 2, 0] rfl) (msI _)

abbrev rm_X11_writesWord : Room := { frames := 4, cells := 0, slots := 0, locals := 85 }
abbrev po_X11_writesWord (g : GG) (ad : Nat → Nat) (th : Nat → Int) (L : List Nat) (f : HP) (z1 : Nat) : (List Nat × HP) → Prop := fun u => u.1 = L ∧ (∃ zs : Int, (zs = th 38 + ((lenS.getD z1 0 : Nat) : Int)) ∧ TI g ad (gset th 38 zs) u.2) ∧ (∀ b, b ≠ (ad 255) → b ≠ (ad 276) → u.2 b = f b)
set_option maxHeartbeats 4000000 in
set_option maxRecDepth 100000 in
theorem s_X11_writesWord (l : Launch) (g : GG) (ad : Nat → Nat) (th : Nat → Int) (L : List Nat) (f : HP) (sz : Nat) (z1 : Nat) (hst : ST ad L) (hT : TI g ad th f) (hi_z1 : z1 < nS) (hlen : th 38 + ((lenS.getD z1 0 : Nat) : Int) ≤ 400) : MtV l g yX11_writesWord cX11_writesWord 3 rm_X11_writesWord [.ref (ad 255), .ref (g.2.2.1 z1)] L f sz (po_X11_writesWord g ad th L f z1) := by
  refine MtV.of (by decide +kernel) (Nat.le_of_ble_eq_true rfl) ?_
  intro p e s m below meth c A hEn hP hD hS ls hl
  obtain ⟨hx, hb, hr, hml, hown, hlocks, hts, hG, hA, hE, hnm⟩ := hEn
  have hown : s.vm.findClass "RulerWordModel" = some m.cls := hown
  have hl : lv_has ls 3 [(0, .ref (ad 255)), (1, .ref (g.2.2.1 z1))] := hl
  have hfr : (∀ b, b ≠ (ad 255) → b ≠ (ad 276) → f b = f b) := fun b z0_ z1_ => rfl
  refine lv_iconst (v := 0) hx hb dX11_writesWord_0 (by decide) ?_
  refine lv_istore_n (lv' := [(2, .int 0), (0, .ref (ad 255)), (1, .ref (g.2.2.1 z1))]) hx hb dX11_writesWord_1 rfl hl (by decide) rfl (fun ls hl => ?_)
  have hJ2 : ∀ (k2 : Nat) (zg2_zs : Int) (y2_l2 : Int32) (f_2 : HP) (H : Heap) (locs : List Loc) (ls : Array Slot), (zg2_zs = th 38 + y2_l2.toInt ∧ y2_l2.toInt ≤ ((lenS.getD z1 0 : Nat) : Int)) → In y2_l2 0 7 → va_P g.1 vwCl (va_pl L f_2) H → va_D A (va_pl L f_2) → va_S A s.heap H locs → TI g ad (gset th 38 zg2_zs) f_2 → (∀ b, b ≠ (ad 255) → b ≠ (ad 276) → f_2 b = f b) → lv_has ls 3 [(0, .ref (ad 255)), (1, .ref (g.2.2.1 z1)), (2, .int y2_l2)] → 7 - y2_l2.toInt < ((k2 : Nat) : Int) → W p l e rm_X11_writesWord s m [.ref (ad 255), .ref (g.2.2.1 z1)].toArray below meth c H locs 0 0 (MQ below (va_Qv (po_X11_writesWord g ad th L f z1) (PstB g A) A) [.ref (ad 255), .ref (g.2.2.1 z1)].toArray s rm_X11_writesWord.cells rm_X11_writesWord.slots A) (F0 m 2 ls []) := by
    intro k2
    induction k2 with
    | zero =>
      intro zg2_zs y2_l2 f_2 H locs ls hzg2 hy2_l2 hP hD hS hT hfr hl hmz2
      exact ms0 hy2_l2 hmz2
    | succ k2 ih2 =>
      intro zg2_zs y2_l2 f_2 H locs ls hzg2 hy2_l2 hP hD hS hT hfr hl hmz2
      refine lv_iload_n hx hb dX11_writesWord_2 rfl (lv_at hl 2 rfl) ?_
      refine lv_aload_n hx hb dX11_writesWord_3 rfl (lv_at hl 1 rfl) ?_
      refine call_i (run_VJ (rm := rm_J0_length) hx hb hml hown hts (i := z1) (hi_z1) (s_J0_length l g _ _ _ z1  hi_z1) cV_J0_length_8abf5 wg_1542 rfl ⟨Nat.le_of_ble_eq_true rfl, Nat.le_of_ble_eq_true rfl⟩ hG hE hA hP hD hS rfl hl.1 (As := []) (rest := [.int y2_l2]) rfl (Nat.le_of_ble_eq_true rfl) dX11_writesWord_4 ⟨Nat.le_of_ble_eq_true rfl, Nat.le_of_ble_eq_true rfl⟩) hA hD hS (fun r1 L2 f3 H locs hp4 hP hD hS => ?_)
      have eL5 : L2 = L := hp4.1
      have eL5f : f3 = f_2 := hp4.2.1
      rw [eL5, eL5f] at hP hD
      have hb6 : In r1 0 7 := hp4.2.2.1
      have hle7 : r1.toInt = ((lenS.getD z1 0 : Nat) : Int) := hp4.2.2.2
      refine lv_icmp_ge (tgt := 40) hx hb dX11_writesWord_7 (by decide) (fun c8 => ?_) (fun c8 => ?_)
      ·
        have cc9 : r1.toInt ≤ y2_l2.toInt := i32_le.mp c8
        exact ret_v hx hb hr hlocks hP hD hS (Nat.le_of_ble_eq_true rfl) (Nat.le_of_ble_eq_true rfl) (⟨rfl, ⟨zg2_zs, (show zg2_zs = th 38 + ((lenS.getD z1 0 : Nat) : Int) from (by have ob10 : (0 : Int) ≤ (th 10) ∧ (th 10) ≤ 1 := (b0_10 hT :); have ob11 : (0 : Int) ≤ (th 11) ∧ (th 11) ≤ 9 := (b0_11 hT :); have ob12 : (0 : Int) ≤ (th 12) ∧ (th 12) ≤ 6 := (b0_12 hT :); have ob14 : (0 : Int) ≤ (th 14) ∧ (th 14) ≤ 511 := (b0_14 hT :); have ob15 : (0 : Int) ≤ (th 15) ∧ (th 15) ≤ 1 := (b0_15 hT :); have ob16 : (0 : Int) ≤ (th 16) ∧ (th 16) ≤ 20 := (b0_16 hT :); have ob17 : (0 : Int) ≤ (th 17) ∧ (th 17) ≤ 1 := (b0_17 hT :); have ob18 : (0 : Int) ≤ (th 18) ∧ (th 18) ≤ 18 := (b0_18 hT :); have ob38 : (0 : Int) ≤ zg2_zs ∧ zg2_zs ≤ 400 := (b0_38 hT :); have ob39 : (0 : Int) ≤ (th 39) ∧ (th 39) ≤ 200 := (b0_39 hT :); have ob44 : (0 : Int) ≤ (th 44) ∧ (th 44) ≤ 30 := (b0_44 hT :); have orn := rnd_b (th 10); obtain ⟨o0a, o0b⟩ := (hy2_l2 : In _ _ _); obtain ⟨o1a, o1b⟩ := (hb6 : In _ _ _); omega)), TI.cast hT (by funext q; by_cases hq0 : q = 38; (subst hq0; rfl); simp only [gset, if_neg hq0])⟩, hfr⟩) dX11_writesWord_40
      ·
        have cc10 : y2_l2.toInt < r1.toInt := i32_nle c8
        have hb11 : In y2_l2 0 6 := In.lt1 hy2_l2 hb6 cc10 (by decide) (by decide)
        have hb12 : In r1 1 7 := In.lt2 hy2_l2 hb6 cc10 (by decide) (by decide)
        refine lv_aload_n hx hb dX11_writesWord_10 rfl (lv_at hl 0 rfl) ?_
        refine M0e hT (fun v0_13 v2_13 v3_13 v4_13 v5_13 v6_13 v8_13 v9_13 v12_13 v13_13 v14_13 v15_13 v16_13 v17_13 v18_13 v19_13 v20_13 v21_13 v22_13 v23_13 v25_13 v36_13 v37_13 v38_13 v39_13 v40_13 v45_13 v46_13 v47_13 v48_13 v50_13 v51_13 v53_13 v55_13 hf14 hv0_13 hv2_13 hg2_13 hv3_13 hg3_13 hv4_13 hg4_13 hv5_13 hg5_13 hv6_13 hg6_13 hv8_13 hg8_13 hv9_13 hg9_13 hv12_13 hv13_13 hg13_13 hv14_13 hg14_13 hv15_13 hg15_13 hv17_13 hg17_13 hv20_13 hg20_13 hv23_13 hg23_13 hv25_13 hg25_13 hv36_13 hg36_13 hv47_13 hg47_13 hv48_13 hg48_13 hv53_13 hg53_13 hv55_13 hg55_13 hrel0_13 => ?_)
        have hg15_13 : v15_13.toInt = th 11 := hg15_13
        have hg17_13 : v17_13.toInt = th 12 := hg17_13
        have hg20_13 : v20_13.toInt = th 14 := hg20_13
        refine pl_get (v := .ref (ad 276)) hx hb hts (fun w h => mT (inX11 w h)) hown hG.1 hP (hst.1 255 (by decide)) hf14 rfl 52 (by decide) (hts _ (mT wg_1388)) (fun _ h => h) rfl dX11_writesWord_11 ?_
        refine lv_aload_n hx hb dX11_writesWord_14 rfl (lv_at hl 0 rfl) ?_
        refine pl_get (v := .int v53_13) hx hb hts (fun w h => mT (inX11 w h)) hown hG.1 hP (hst.1 255 (by decide)) hf14 rfl 53 (by decide) (hts _ (mT wg_1389)) (fun _ h => h) rfl dX11_writesWord_15 ?_
        have hg53_13 : v53_13.toInt = zg2_zs := hg53_13
        refine lv_aload_n hx hb dX11_writesWord_18 rfl (lv_at hl 1 rfl) ?_
        refine lv_iload_n hx hb dX11_writesWord_19 rfl (lv_at hl 2 rfl) ?_
        refine call_i (run_VJ (rm := rm_J0_charAt) hx hb hml hown hts (i := z1) (hi_z1) (s_J0_charAt l g _ _ _ z1 y2_l2 hi_z1 (Int.le_trans (by decide) hb11.1) (by have q1 := cc10; have q2 := hle7; omega)) cV_J0_charAt_5068e wg_1543 rfl ⟨Nat.le_of_ble_eq_true rfl, Nat.le_of_ble_eq_true rfl⟩ hG hE hA hP hD hS rfl hl.1 (As := [.int y2_l2]) (rest := [.int v53_13, .ref (ad 276)]) rfl (Nat.le_of_ble_eq_true rfl) dX11_writesWord_20 ⟨Nat.le_of_ble_eq_true rfl, Nat.le_of_ble_eq_true rfl⟩) hA hD hS (fun r15 L16 f17 H locs hp18 hP hD hS => ?_)
        have eL19 : L16 = L := hp18.1
        have eL19f : f17 = f_2 := hp18.2.1
        rw [eL19, eL19f] at hP hD
        have hb20 : In r15 0 65535 := hp18.2.2
        obtain ⟨rw21, hf22⟩ := hT.2.2 21 (by decide)
        refine pl_iastE hx hb hG.1 hP hD hS (hst.1 276 (by decide)) 0 hf22 rfl (vp_of (by have ob10 : (0 : Int) ≤ (th 10) ∧ (th 10) ≤ 1 := (b0_10 hT :); have ob11 : (0 : Int) ≤ (th 11) ∧ (th 11) ≤ 9 := (b0_11 hT :); have ob12 : (0 : Int) ≤ (th 12) ∧ (th 12) ≤ 6 := (b0_12 hT :); have ob14 : (0 : Int) ≤ (th 14) ∧ (th 14) ≤ 511 := (b0_14 hT :); have ob15 : (0 : Int) ≤ (th 15) ∧ (th 15) ≤ 1 := (b0_15 hT :); have ob16 : (0 : Int) ≤ (th 16) ∧ (th 16) ≤ 20 := (b0_16 hT :); have ob17 : (0 : Int) ≤ (th 17) ∧ (th 17) ≤ 1 := (b0_17 hT :); have ob18 : (0 : Int) ≤ (th 18) ∧ (th 18) ≤ 18 := (b0_18 hT :); have ob38 : (0 : Int) ≤ zg2_zs ∧ zg2_zs ≤ 400 := (b0_38 hT :); have ob39 : (0 : Int) ≤ (th 39) ∧ (th 39) ≤ 200 := (b0_39 hT :); have ob44 : (0 : Int) ≤ (th 44) ∧ (th 44) ≤ 30 := (b0_44 hT :); have orn := rnd_b (th 10); obtain ⟨o0a, o0b⟩ := (hv53_13 : In _ _ _); obtain ⟨o1a, o1b⟩ := (hv14_13 : In _ _ _); obtain ⟨o2a, o2b⟩ := (hv15_13 : In _ _ _); obtain ⟨o3a, o3b⟩ := (hv17_13 : In _ _ _); obtain ⟨o4a, o4b⟩ := (hv20_13 : In _ _ _); obtain ⟨o5a, o5b⟩ := (hv23_13 : In _ _ _); obtain ⟨o6a, o6b⟩ := (hv25_13 : In _ _ _); obtain ⟨o7a, o7b⟩ := (hv36_13 : In _ _ _); obtain ⟨o8a, o8b⟩ := (hv47_13 : In _ _ _); obtain ⟨o9a, o9b⟩ := (hv48_13 : In _ _ _); obtain ⟨o10a, o10b⟩ := (hv55_13 : In _ _ _); omega) (by have ob10 : (0 : Int) ≤ (th 10) ∧ (th 10) ≤ 1 := (b0_10 hT :); have ob11 : (0 : Int) ≤ (th 11) ∧ (th 11) ≤ 9 := (b0_11 hT :); have ob12 : (0 : Int) ≤ (th 12) ∧ (th 12) ≤ 6 := (b0_12 hT :); have ob14 : (0 : Int) ≤ (th 14) ∧ (th 14) ≤ 511 := (b0_14 hT :); have ob15 : (0 : Int) ≤ (th 15) ∧ (th 15) ≤ 1 := (b0_15 hT :); have ob16 : (0 : Int) ≤ (th 16) ∧ (th 16) ≤ 20 := (b0_16 hT :); have ob17 : (0 : Int) ≤ (th 17) ∧ (th 17) ≤ 1 := (b0_17 hT :); have ob18 : (0 : Int) ≤ (th 18) ∧ (th 18) ≤ 18 := (b0_18 hT :); have ob38 : (0 : Int) ≤ zg2_zs ∧ zg2_zs ≤ 400 := (b0_38 hT :); have ob39 : (0 : Int) ≤ (th 39) ∧ (th 39) ≤ 200 := (b0_39 hT :); have ob44 : (0 : Int) ≤ (th 44) ∧ (th 44) ≤ 30 := (b0_44 hT :); have orn := rnd_b (th 10); obtain ⟨o0a, o0b⟩ := (hv53_13 : In _ _ _); obtain ⟨o1a, o1b⟩ := (hv14_13 : In _ _ _); obtain ⟨o2a, o2b⟩ := (hv15_13 : In _ _ _); obtain ⟨o3a, o3b⟩ := (hv17_13 : In _ _ _); obtain ⟨o4a, o4b⟩ := (hv20_13 : In _ _ _); obtain ⟨o5a, o5b⟩ := (hv23_13 : In _ _ _); obtain ⟨o6a, o6b⟩ := (hv25_13 : In _ _ _); obtain ⟨o7a, o7b⟩ := (hv36_13 : In _ _ _); obtain ⟨o8a, o8b⟩ := (hv47_13 : In _ _ _); obtain ⟨o9a, o9b⟩ := (hv48_13 : In _ _ _); obtain ⟨o10a, o10b⟩ := (hv55_13 : In _ _ _); omega)) dX11_writesWord_23 (fun H locs f23 r26 er26 hf24 ho25 hP hD hS => ?_)
        have hf27 := (ho25 (ad 255) (hst.ne (by decide) (by decide) (by decide))).trans hf14
        have hfr : (∀ b, b ≠ (ad 255) → b ≠ (ad 276) → f23 b = f b) := fun b z0_ z1_ => (ho25 b z1_).trans (hfr b z0_ z1_)
        refine lv_aload_n hx hb dX11_writesWord_24 rfl (lv_at hl 0 rfl) ?_
        refine lv_dup hx hb dX11_writesWord_25 rfl ?_
        refine pl_get (v := .int v53_13) hx hb hts (fun w h => mT (inX11 w h)) hown hG.1 hP (hst.1 255 (by decide)) hf27 rfl 53 (by decide) (hts _ (mT wg_1389)) (fun _ h => h) rfl dX11_writesWord_26 ?_
        refine lv_iconst (v := 1) hx hb dX11_writesWord_29 (by decide) ?_
        refine lv_iadd hx hb dX11_writesWord_30 ?_
        refine lv_topi (fun x28 ex28 => ?_)
        have hb29 : In x28 1 401 := ex28 ▸ In.add hv53_13 (⟨by decide, by decide⟩ : In 1 1 1) (by decide) (by decide) (by decide) (by decide)
        have et30 : x28.toInt = v53_13.toInt + 1 := In.adde ex28 hv53_13 (k := 1) (by decide) (by decide) (by decide)
        have hT := TI.updM hT hst (k := 21) (by decide) hf24 ho25 ⟨r26, rfl⟩
        refine pl_put (ty := .int) (v := .int x28) (fs' := [.int v0_13, .ref (ad 256), .int v2_13, .int v3_13, .int v4_13, .int v5_13, .int v6_13, .ref (ad 257), .int v8_13, .int v9_13, .ref (ad 258), .ref (ad 259), .int v12_13, .int v13_13, .int v14_13, .int v15_13, .int v16_13, .int v17_13, .int v18_13, .int v19_13, .int v20_13, .long v21_13, .long v22_13, .int v23_13, .ref (ad 260), .int v25_13, .ref (ad 261), .ref (ad 262), .ref (ad 263), .ref (ad 264), .ref (ad 265), .ref (ad 266), .ref (ad 267), .ref (ad 268), .ref (ad 269), .ref (ad 270), .int v36_13, .int v37_13, .int v38_13, .int v39_13, .int v40_13, .ref (ad 271), .ref (ad 272), .ref (ad 273), .ref (ad 274), .long v45_13, .long v46_13, .int v47_13, .int v48_13, .ref (ad 275), .int v50_13, .int v51_13, .ref (ad 276), .int x28, .ref (ad 277), .int v55_13]) hx hb hts (fun w h => mT (inX11 w h)) tyX11 tyX11_ok nmX11 hown hG.1 hP hD hS (hst.1 255 (by decide)) hf27 rfl 53 (by decide) (hts _ (mT wg_1389)) (fun _ h => h) rfl (by decide +kernel) (rfl) (rfl) (Nat.le_of_ble_eq_true rfl) rfl dX11_writesWord_31 (fun H locs f31 hf32 ho33 hP hD hS => ?_)
        have hf34 := (ho33 (ad 276) (hst.ne (by decide) (by decide) (by decide))).trans hf24
        have hfr : (∀ b, b ≠ (ad 255) → b ≠ (ad 276) → f31 b = f b) := fun b z0_ z1_ => (ho33 b z0_).trans (hfr b z0_ z1_)
        obtain ⟨x35, ex35⟩ : ∃ y : Int32, y = y2_l2 + 1 := ⟨_, rfl⟩
        have hb36 : In x35 1 7 := ex35 ▸ In.add hb11 (⟨by decide, by decide⟩ : In 1 1 1) (by decide) (by decide) (by decide) (by decide)
        have et37 : x35.toInt = y2_l2.toInt + 1 := In.adde ex35 hb11 (k := 1) (by decide) (by decide) (by decide)
        refine lv_iinc (v := x35) (lv' := [(2, .int x35), (0, .ref (ad 255)), (1, .ref (g.2.2.1 z1))]) hx hb dX11_writesWord_34 hl (k := 2) rfl (by rw [ex35]; rfl) (by decide) rfl (fun ls hl => ?_)
        have hT := TI.updMG (th' := (gset (gset th 38 zg2_zs) 38 (x28.toInt))) hT hst (k := 0) (by decide) hf32 ho33 ⟨v0_13, v2_13, v3_13, v4_13, v5_13, v6_13, v8_13, v9_13, v12_13, v13_13, v14_13, v15_13, v16_13, v17_13, v18_13, v19_13, v20_13, v21_13, v22_13, v23_13, v25_13, v36_13, v37_13, v38_13, v39_13, v40_13, v45_13, v46_13, v47_13, v48_13, v50_13, v51_13, x28, v55_13, rfl, hv0_13, hv2_13, hg2_13, hv3_13, hg3_13, hv4_13, hg4_13, hv5_13, hg5_13, hv6_13, hg6_13, hv8_13, hg8_13, hv9_13, hg9_13, hv12_13, hv13_13, hg13_13, hv14_13, hg14_13, hv15_13, hg15_13, hv17_13, hg17_13, hv20_13, hg20_13, hv23_13, hg23_13, hv25_13, hg25_13, hv36_13, hg36_13, hv47_13, hg47_13, hv48_13, hg48_13, (In.mk (by have ob10 : (0 : Int) ≤ (th 10) ∧ (th 10) ≤ 1 := (b0_10 hT :); have ob11 : (0 : Int) ≤ (th 11) ∧ (th 11) ≤ 9 := (b0_11 hT :); have ob12 : (0 : Int) ≤ (th 12) ∧ (th 12) ≤ 6 := (b0_12 hT :); have ob14 : (0 : Int) ≤ (th 14) ∧ (th 14) ≤ 511 := (b0_14 hT :); have ob15 : (0 : Int) ≤ (th 15) ∧ (th 15) ≤ 1 := (b0_15 hT :); have ob16 : (0 : Int) ≤ (th 16) ∧ (th 16) ≤ 20 := (b0_16 hT :); have ob17 : (0 : Int) ≤ (th 17) ∧ (th 17) ≤ 1 := (b0_17 hT :); have ob18 : (0 : Int) ≤ (th 18) ∧ (th 18) ≤ 18 := (b0_18 hT :); have ob38 : (0 : Int) ≤ zg2_zs ∧ zg2_zs ≤ 400 := (b0_38 hT :); have ob39 : (0 : Int) ≤ (th 39) ∧ (th 39) ≤ 200 := (b0_39 hT :); have ob44 : (0 : Int) ≤ (th 44) ∧ (th 44) ≤ 30 := (b0_44 hT :); have orn := rnd_b (th 10); obtain ⟨o0a, o0b⟩ := (hb29 : In _ _ _); obtain ⟨o1a, o1b⟩ := (hv14_13 : In _ _ _); obtain ⟨o2a, o2b⟩ := (hv15_13 : In _ _ _); obtain ⟨o3a, o3b⟩ := (hv17_13 : In _ _ _); obtain ⟨o4a, o4b⟩ := (hv20_13 : In _ _ _); obtain ⟨o5a, o5b⟩ := (hv23_13 : In _ _ _); obtain ⟨o6a, o6b⟩ := (hv25_13 : In _ _ _); obtain ⟨o7a, o7b⟩ := (hv36_13 : In _ _ _); obtain ⟨o8a, o8b⟩ := (hv47_13 : In _ _ _); obtain ⟨o9a, o9b⟩ := (hv48_13 : In _ _ _); obtain ⟨o10a, o10b⟩ := (hv55_13 : In _ _ _); obtain ⟨o11a, o11b⟩ := (hv53_13 : In _ _ _); omega) (by have ob10 : (0 : Int) ≤ (th 10) ∧ (th 10) ≤ 1 := (b0_10 hT :); have ob11 : (0 : Int) ≤ (th 11) ∧ (th 11) ≤ 9 := (b0_11 hT :); have ob12 : (0 : Int) ≤ (th 12) ∧ (th 12) ≤ 6 := (b0_12 hT :); have ob14 : (0 : Int) ≤ (th 14) ∧ (th 14) ≤ 511 := (b0_14 hT :); have ob15 : (0 : Int) ≤ (th 15) ∧ (th 15) ≤ 1 := (b0_15 hT :); have ob16 : (0 : Int) ≤ (th 16) ∧ (th 16) ≤ 20 := (b0_16 hT :); have ob17 : (0 : Int) ≤ (th 17) ∧ (th 17) ≤ 1 := (b0_17 hT :); have ob18 : (0 : Int) ≤ (th 18) ∧ (th 18) ≤ 18 := (b0_18 hT :); have ob38 : (0 : Int) ≤ zg2_zs ∧ zg2_zs ≤ 400 := (b0_38 hT :); have ob39 : (0 : Int) ≤ (th 39) ∧ (th 39) ≤ 200 := (b0_39 hT :); have ob44 : (0 : Int) ≤ (th 44) ∧ (th 44) ≤ 30 := (b0_44 hT :); have orn := rnd_b (th 10); obtain ⟨o0a, o0b⟩ := (hb29 : In _ _ _); obtain ⟨o1a, o1b⟩ := (hv14_13 : In _ _ _); obtain ⟨o2a, o2b⟩ := (hv15_13 : In _ _ _); obtain ⟨o3a, o3b⟩ := (hv17_13 : In _ _ _); obtain ⟨o4a, o4b⟩ := (hv20_13 : In _ _ _); obtain ⟨o5a, o5b⟩ := (hv23_13 : In _ _ _); obtain ⟨o6a, o6b⟩ := (hv25_13 : In _ _ _); obtain ⟨o7a, o7b⟩ := (hv36_13 : In _ _ _); obtain ⟨o8a, o8b⟩ := (hv47_13 : In _ _ _); obtain ⟨o9a, o9b⟩ := (hv48_13 : In _ _ _); obtain ⟨o10a, o10b⟩ := (hv55_13 : In _ _ _); obtain ⟨o11a, o11b⟩ := (hv53_13 : In _ _ _); omega)), rfl, hv55_13, hg55_13, hrel0_13⟩ (fun q hq => ((gset_ne (fun e => hq (by subst e; decide))).trans rfl))
        have hT : TI g ad (gset th 38 x28.toInt) f31 := TI.cast hT (by funext q; by_cases hq0 : q = 38; (subst hq0; rfl); simp only [gset, if_neg hq0])
        refine lv_goto (tgt := 2) hx hb dX11_writesWord_37 (by decide) ?_
        exact ih2 x28.toInt x35 _ _ _ _ (show _ from (by have ql := Int.natCast_nonneg (lenS.getD z1 0); have ob10 : (0 : Int) ≤ (th 10) ∧ (th 10) ≤ 1 := (b0_10 hT :); have ob11 : (0 : Int) ≤ (th 11) ∧ (th 11) ≤ 9 := (b0_11 hT :); have ob12 : (0 : Int) ≤ (th 12) ∧ (th 12) ≤ 6 := (b0_12 hT :); have ob14 : (0 : Int) ≤ (th 14) ∧ (th 14) ≤ 511 := (b0_14 hT :); have ob15 : (0 : Int) ≤ (th 15) ∧ (th 15) ≤ 1 := (b0_15 hT :); have ob16 : (0 : Int) ≤ (th 16) ∧ (th 16) ≤ 20 := (b0_16 hT :); have ob17 : (0 : Int) ≤ (th 17) ∧ (th 17) ≤ 1 := (b0_17 hT :); have ob18 : (0 : Int) ≤ (th 18) ∧ (th 18) ≤ 18 := (b0_18 hT :); have ob38 : (0 : Int) ≤ x28.toInt ∧ x28.toInt ≤ 400 := (b0_38 hT :); have ob39 : (0 : Int) ≤ (th 39) ∧ (th 39) ≤ 200 := (b0_39 hT :); have ob44 : (0 : Int) ≤ (th 44) ∧ (th 44) ≤ 30 := (b0_44 hT :); have orn := rnd_b (th 10); obtain ⟨o0a, o0b⟩ := (hb36 : In _ _ _); obtain ⟨o1a, o1b⟩ := (hb11 : In _ _ _); obtain ⟨o2a, o2b⟩ := (hb12 : In _ _ _); omega)) (In.mono hb36 (by decide) (by decide)) hP hD hS (TI.cast hT (by funext q; by_cases hq0 : q = 38; (subst hq0; rfl); simp only [gset, if_neg hq0])) hfr (lv_sub hl [1, 2, 0] rfl) (msu et37 (by decide) hmz2)
  exact hJ2 ((7 - (0 : Int32).toInt).toNat + 1) (th 38) 0 _ _ _ _ (show _ from (by have ql := Int.natCast_nonneg (lenS.getD z1 0); have ob10 : (0 : Int) ≤ (th 10) ∧ (th 10) ≤ 1 := (b0_10 hT :); have ob11 : (0 : Int) ≤ (th 11) ∧ (th 11) ≤ 9 := (b0_11 hT :); have ob12 : (0 : Int) ≤ (th 12) ∧ (th 12) ≤ 6 := (b0_12 hT :); have ob14 : (0 : Int) ≤ (th 14) ∧ (th 14) ≤ 511 := (b0_14 hT :); have ob15 : (0 : Int) ≤ (th 15) ∧ (th 15) ≤ 1 := (b0_15 hT :); have ob16 : (0 : Int) ≤ (th 16) ∧ (th 16) ≤ 20 := (b0_16 hT :); have ob17 : (0 : Int) ≤ (th 17) ∧ (th 17) ≤ 1 := (b0_17 hT :); have ob18 : (0 : Int) ≤ (th 18) ∧ (th 18) ≤ 18 := (b0_18 hT :); have ob38 : (0 : Int) ≤ (th 38) ∧ (th 38) ≤ 400 := (b0_38 hT :); have ob39 : (0 : Int) ≤ (th 39) ∧ (th 39) ≤ 200 := (b0_39 hT :); have ob44 : (0 : Int) ≤ (th 44) ∧ (th 44) ≤ 30 := (b0_44 hT :); have orn := rnd_b (th 10); have oc0 : (0 : Int32).toInt = 0 := (by decide); omega)) (⟨by decide, by decide⟩ : In 0 0 7) hP hD hS (TI.cast hT (by funext q; by_cases hq0 : q = 38; (subst hq0; rfl); simp only [gset, if_neg hq0])) hfr (lv_sub hl [1, 2, 0] rfl) (msI _)

abbrev rm_X11_shown : Room := { frames := 5, cells := 0, slots := 0, locals := 107 }
abbrev po_X11_shown (g : GG) (ad : Nat → Nat) (th : Nat → Int) (L : List Nat) (f : HP) (z1 : Int32) (z2 : Int32) : Int32 → (List Nat × HP) → Prop := fun r u => u.1 = L ∧ (∃ th' : Nat → Int, (MI th' ∧ SBM th th') ∧ TI g ad th' u.2) ∧ (∀ b, b ≠ (ad 255) → b ≠ (ad 277) → u.2 b = f b)
set_option maxHeartbeats 4000000 in
set_option maxRecDepth 100000 in
theorem s_X11_shown (l : Launch) (g : GG) (ad : Nat → Nat) (th : Nat → Int) (L : List Nat) (f : HP) (sz : Nat) (z1 : Int32) (z2 : Int32) (hst : ST ad L) (hT : TI g ad th f) (hM : MI th) : MtI l g yX11_shown cX11_shown 6 (some .int) rm_X11_shown [.ref (ad 255), .int z1, .int z2] L f sz (po_X11_shown g ad th L f z1 z2) := by
  refine MtI.of (by decide +kernel) (Nat.le_of_ble_eq_true rfl) ?_
  intro p e s m below meth c A hEn hP hD hS ls hl
  obtain ⟨hx, hb, hr, hml, hown, hlocks, hts, hG, hA, hE, hnm⟩ := hEn
  have hown : s.vm.findClass "RulerWordModel" = some m.cls := hown
  have hl : lv_has ls 6 [(0, .ref (ad 255)), (1, .int z1), (2, .int z2)] := hl
  have hfr : (∀ b, b ≠ (ad 255) → b ≠ (ad 277) → f b = f b) := fun b z0_ z1_ => rfl
  have hM0 := hM
  obtain ⟨m1, m2, m3, m4, m5, m6, m7, m8, m9, m10⟩ := hM0
  have m20 := mi20 m2 m3
  have ql16 : ((lenS.getD 16 0 : Nat) : Int) = 6 := by decide
  have ql22 : ((lenS.getD 22 0 : Nat) : Int) = 7 := by decide
  have ql24 : ((lenS.getD 24 0 : Nat) : Int) = 2 := by decide
  refine lv_aload_n hx hb dX11_shown_0 rfl (lv_at hl 0 rfl) ?_
  refine lv_iconst (v := 0) hx hb dX11_shown_1 (by decide) ?_
  refine M0e hT (fun v0_1 v2_1 v3_1 v4_1 v5_1 v6_1 v8_1 v9_1 v12_1 v13_1 v14_1 v15_1 v16_1 v17_1 v18_1 v19_1 v20_1 v21_1 v22_1 v23_1 v25_1 v36_1 v37_1 v38_1 v39_1 v40_1 v45_1 v46_1 v47_1 v48_1 v50_1 v51_1 v53_1 v55_1 hf2 hv0_1 hv2_1 hg2_1 hv3_1 hg3_1 hv4_1 hg4_1 hv5_1 hg5_1 hv6_1 hg6_1 hv8_1 hg8_1 hv9_1 hg9_1 hv12_1 hv13_1 hg13_1 hv14_1 hg14_1 hv15_1 hg15_1 hv17_1 hg17_1 hv20_1 hg20_1 hv23_1 hg23_1 hv25_1 hg25_1 hv36_1 hg36_1 hv47_1 hg47_1 hv48_1 hg48_1 hv53_1 hg53_1 hv55_1 hg55_1 hrel0_1 => ?_)
  have hg15_1 : v15_1.toInt = th 11 := hg15_1
  have hg17_1 : v17_1.toInt = th 12 := hg17_1
  have hg20_1 : v20_1.toInt = th 14 := hg20_1
  refine pl_put (ty := .int) (v := .int 0) (fs' := [.int 0, .ref (ad 256), .int v2_1, .int v3_1, .int v4_1, .int v5_1, .int v6_1, .ref (ad 257), .int v8_1, .int v9_1, .ref (ad 258), .ref (ad 259), .int v12_1, .int v13_1, .int v14_1, .int v15_1, .int v16_1, .int v17_1, .int v18_1, .int v19_1, .int v20_1, .long v21_1, .long v22_1, .int v23_1, .ref (ad 260), .int v25_1, .ref (ad 261), .ref (ad 262), .ref (ad 263), .ref (ad 264), .ref (ad 265), .ref (ad 266), .ref (ad 267), .ref (ad 268), .ref (ad 269), .ref (ad 270), .int v36_1, .int v37_1, .int v38_1, .int v39_1, .int v40_1, .ref (ad 271), .ref (ad 272), .ref (ad 273), .ref (ad 274), .long v45_1, .long v46_1, .int v47_1, .int v48_1, .ref (ad 275), .int v50_1, .int v51_1, .ref (ad 276), .int v53_1, .ref (ad 277), .int v55_1]) hx hb hts (fun w h => mT (inX11 w h)) tyX11 tyX11_ok nmX11 hown hG.1 hP hD hS (hst.1 255 (by decide)) hf2 rfl 0 (by decide) (hts _ (mT wg_1336)) (fun _ h => h) rfl (by decide +kernel) (rfl) (rfl) (Nat.le_of_ble_eq_true rfl) rfl dX11_shown_2 (fun H locs f3 hf4 ho5 hP hD hS => ?_)
  have hfr : (∀ b, b ≠ (ad 255) → b ≠ (ad 277) → f3 b = f b) := fun b z0_ z1_ => (ho5 b z0_).trans (hfr b z0_ z1_)
  refine lv_iload_n hx hb dX11_shown_5 rfl (lv_at hl 1 rfl) ?_
  refine lv_i2l hx hb dX11_shown_6 rfl ?_
  refine lv_lconst (v := 0) hx hb dX11_shown_7 (by decide) ?_
  refine lv_aload_n hx hb dX11_shown_8 rfl (lv_at hl 0 rfl) ?_
  have hT := TI.updM hT hst (k := 0) (by decide) hf4 ho5 ⟨0, v2_1, v3_1, v4_1, v5_1, v6_1, v8_1, v9_1, v12_1, v13_1, v14_1, v15_1, v16_1, v17_1, v18_1, v19_1, v20_1, v21_1, v22_1, v23_1, v25_1, v36_1, v37_1, v38_1, v39_1, v40_1, v45_1, v46_1, v47_1, v48_1, v50_1, v51_1, v53_1, v55_1, rfl, (⟨by decide, by decide⟩ : In 0 0 1), hv2_1, hg2_1, hv3_1, hg3_1, hv4_1, hg4_1, hv5_1, hg5_1, hv6_1, hg6_1, hv8_1, hg8_1, hv9_1, hg9_1, hv12_1, hv13_1, hg13_1, hv14_1, hg14_1, hv15_1, hg15_1, hv17_1, hg17_1, hv20_1, hg20_1, hv23_1, hg23_1, hv25_1, hg25_1, hv36_1, hg36_1, hv47_1, hg47_1, hv48_1, hg48_1, hv53_1, hg53_1, hv55_1, hg55_1, hrel0_1⟩
  refine call_i (run_V (rm := rm_X11_over) hx hb hml hown hts (s_X11_over l g ad th _ _ _  hst hT (show MI th from hM)) cV_X11_over wg_1769 ⟨Nat.le_of_ble_eq_true rfl, Nat.le_of_ble_eq_true rfl⟩ hG hE hA hP hD hS (hst.1 255 (by decide)) hf4 rfl rfl hl.1 (As := []) (rest := [.long 0, .long (z1.toInt64)]) rfl (Nat.le_of_ble_eq_true rfl) dX11_shown_9 ⟨Nat.le_of_ble_eq_true rfl, Nat.le_of_ble_eq_true rfl⟩) hA hD hS (fun r6 L7 f8 H locs hp9 hP hD hS => ?_)
  obtain ⟨eL10L, eL10T, eL10R, eL10X0⟩ := hp9
  have eL10L : L7 = L := eL10L
  have eL10T : f8 = f3 := eL10T
  rw [eL10L, eL10T] at hP hD
  have eL10R : In r6 0 6 := eL10R
  have hcl11 : r6.toInt = 0 ∨ th 15 = 1 := eL10X0
  refine lv_iconst (v := 1) hx hb dX11_shown_12 (by decide) ?_
  refine lv_isub hx hb dX11_shown_13 ?_
  refine lv_topi (fun x12 ex12 => ?_)
  have hb13 : In x12 (-1) 5 := ex12 ▸ In.sub eL10R (⟨by decide, by decide⟩ : In 1 1 1) (by decide) (by decide) (by decide) (by decide)
  have et14 : x12.toInt = r6.toInt + (-1) := In.sube ex12 eL10R (k := 1) (by decide) (by decide) (by decide)
  refine lv_i2l hx hb dX11_shown_14 rfl ?_
  refine call_i (run_S (rm := rm_X11_isIn) hx hb hml hown hts (s_X11_isIn l g ad th _ _ _ (z1.toInt64) 0 (x12.toInt64) hst hT ) cS_X11_isIn wg_1581 ⟨Nat.le_of_ble_eq_true rfl, Nat.le_of_ble_eq_true rfl⟩ hG hE hA hP hD hS rfl hl.1 (As := [.long (z1.toInt64), .long 0, .long (x12.toInt64)]) (rest := []) rfl (Nat.le_of_ble_eq_true rfl) dX11_shown_15 ⟨Nat.le_of_ble_eq_true rfl, Nat.le_of_ble_eq_true rfl⟩) hA hD hS (fun r15 L16 f17 H locs hp18 hP hD hS => ?_)
  obtain ⟨eL19L, eL19T, eL19R, eL19X0, eL19X1⟩ := hp18
  have eL19L : L16 = L := eL19L
  have eL19T : f17 = f3 := eL19T
  rw [eL19L, eL19T] at hP hD
  have eL19R : In r15 0 1 := eL19R
  have hii20 : r15.toInt = 0 ∨ (0 ≤ z1.toInt ∧ z1.toInt ≤ x12.toInt) := by have z := eL19X0; rw [i2l_t z1, (by decide : (0 : Int64).toInt = 0), i2l_t x12] at z; exact z
  have hii20w : ¬ r15 = 0 → In z1 0 5 := fun c => by have c2 := i32_ne c; have e0 : (0 : Int32).toInt = 0 := (by decide); obtain ⟨o1, p1⟩ := (hb13 : In _ _ _); exact ⟨by omega, by omega⟩
  refine lv_if_ne (tgt := 23) hx hb dX11_shown_18 (by decide) (fun c21 => ?_) (fun c21 => ?_)
  ·
    have oc0 : (0 : Int32).toInt = 0 := by decide
    have cc22 : r15.toInt ≠ (0 : Int32).toInt := i32_ne c21
    have hb23 : In r15 1 1 := In.ne1 eL19R (⟨by decide, by decide⟩ : In 0 0 0) cc22 (by decide) (by decide)
    have hb24 : In z1 0 5 := In.both (hii20w c21) (In.full z1) (by decide) (by decide)
    refine lv_iload_n hx hb dX11_shown_23 rfl (lv_at hl 1 rfl) ?_
    refine lv_aload_n hx hb dX11_shown_24 rfl (lv_at hl 0 rfl) ?_
    refine pl_get (v := .int v15_1) hx hb hts (fun w h => mT (inX11 w h)) hown hG.1 hP (hst.1 255 (by decide)) hf4 rfl 15 (by decide) (hts _ (mT wg_1351)) (fun _ h => h) rfl dX11_shown_25 ?_
    have hb25 : In v15_1 1 9 := In.mk (by have ob10 : (0 : Int) ≤ (th 10) ∧ (th 10) ≤ 1 := (b0_10 hT :); have ob11 : (0 : Int) ≤ (th 11) ∧ (th 11) ≤ 9 := (b0_11 hT :); have ob12 : (0 : Int) ≤ (th 12) ∧ (th 12) ≤ 6 := (b0_12 hT :); have ob14 : (0 : Int) ≤ (th 14) ∧ (th 14) ≤ 511 := (b0_14 hT :); have ob15 : (0 : Int) ≤ (th 15) ∧ (th 15) ≤ 1 := (b0_15 hT :); have ob16 : (0 : Int) ≤ (th 16) ∧ (th 16) ≤ 20 := (b0_16 hT :); have ob17 : (0 : Int) ≤ (th 17) ∧ (th 17) ≤ 1 := (b0_17 hT :); have ob18 : (0 : Int) ≤ (th 18) ∧ (th 18) ≤ 18 := (b0_18 hT :); have ob38 : (0 : Int) ≤ (th 38) ∧ (th 38) ≤ 400 := (b0_38 hT :); have ob39 : (0 : Int) ≤ (th 39) ∧ (th 39) ≤ 200 := (b0_39 hT :); have ob44 : (0 : Int) ≤ (th 44) ∧ (th 44) ≤ 30 := (b0_44 hT :); have orn := rnd_b (th 10); obtain ⟨o0a, o0b⟩ := (hv15_1 : In _ _ _); obtain ⟨o1a, o1b⟩ := (hv14_1 : In _ _ _); obtain ⟨o2a, o2b⟩ := (hv17_1 : In _ _ _); obtain ⟨o3a, o3b⟩ := (hv20_1 : In _ _ _); obtain ⟨o4a, o4b⟩ := (hv23_1 : In _ _ _); obtain ⟨o5a, o5b⟩ := (hv25_1 : In _ _ _); obtain ⟨o6a, o6b⟩ := (hv36_1 : In _ _ _); obtain ⟨o7a, o7b⟩ := (hv47_1 : In _ _ _); obtain ⟨o8a, o8b⟩ := (hv48_1 : In _ _ _); obtain ⟨o9a, o9b⟩ := (hv53_1 : In _ _ _); obtain ⟨o10a, o10b⟩ := (hv55_1 : In _ _ _); omega) (by have ob10 : (0 : Int) ≤ (th 10) ∧ (th 10) ≤ 1 := (b0_10 hT :); have ob11 : (0 : Int) ≤ (th 11) ∧ (th 11) ≤ 9 := (b0_11 hT :); have ob12 : (0 : Int) ≤ (th 12) ∧ (th 12) ≤ 6 := (b0_12 hT :); have ob14 : (0 : Int) ≤ (th 14) ∧ (th 14) ≤ 511 := (b0_14 hT :); have ob15 : (0 : Int) ≤ (th 15) ∧ (th 15) ≤ 1 := (b0_15 hT :); have ob16 : (0 : Int) ≤ (th 16) ∧ (th 16) ≤ 20 := (b0_16 hT :); have ob17 : (0 : Int) ≤ (th 17) ∧ (th 17) ≤ 1 := (b0_17 hT :); have ob18 : (0 : Int) ≤ (th 18) ∧ (th 18) ≤ 18 := (b0_18 hT :); have ob38 : (0 : Int) ≤ (th 38) ∧ (th 38) ≤ 400 := (b0_38 hT :); have ob39 : (0 : Int) ≤ (th 39) ∧ (th 39) ≤ 200 := (b0_39 hT :); have ob44 : (0 : Int) ≤ (th 44) ∧ (th 44) ≤ 30 := (b0_44 hT :); have orn := rnd_b (th 10); obtain ⟨o0a, o0b⟩ := (hv15_1 : In _ _ _); obtain ⟨o1a, o1b⟩ := (hv14_1 : In _ _ _); obtain ⟨o2a, o2b⟩ := (hv17_1 : In _ _ _); obtain ⟨o3a, o3b⟩ := (hv20_1 : In _ _ _); obtain ⟨o4a, o4b⟩ := (hv23_1 : In _ _ _); obtain ⟨o5a, o5b⟩ := (hv25_1 : In _ _ _); obtain ⟨o6a, o6b⟩ := (hv36_1 : In _ _ _); obtain ⟨o7a, o7b⟩ := (hv47_1 : In _ _ _); obtain ⟨o8a, o8b⟩ := (hv48_1 : In _ _ _); obtain ⟨o9a, o9b⟩ := (hv53_1 : In _ _ _); obtain ⟨o10a, o10b⟩ := (hv55_1 : In _ _ _); omega)
    refine lv_irem hx hb dX11_shown_28 (In.ne0 hb25 (by decide)) ?_
    refine lv_topi (fun x26 ex26 => ?_)
    have hb27 : In x26 0 5 := ex26 ▸ In.rem hb24 hb25 (by decide) (by decide) (by decide)
    refine lv_istore_n (lv' := [(3, .int x26), (0, .ref (ad 255)), (1, .int z1), (2, .int z2)]) hx hb dX11_shown_29 rfl hl (by decide) rfl (fun ls hl => ?_)
    refine lv_aload_n hx hb dX11_shown_30 rfl (lv_at hl 1 rfl) ?_
    refine lv_iconst (v := 0) hx hb dX11_shown_31 (by decide) ?_
    refine pl_put (ty := .int) (v := .int 0) (fs' := [.int 0, .ref (ad 256), .int v2_1, .int v3_1, .int v4_1, .int v5_1, .int v6_1, .ref (ad 257), .int v8_1, .int v9_1, .ref (ad 258), .ref (ad 259), .int v12_1, .int v13_1, .int v14_1, .int v15_1, .int v16_1, .int v17_1, .int v18_1, .int v19_1, .int v20_1, .long v21_1, .long v22_1, .int v23_1, .ref (ad 260), .int v25_1, .ref (ad 261), .ref (ad 262), .ref (ad 263), .ref (ad 264), .ref (ad 265), .ref (ad 266), .ref (ad 267), .ref (ad 268), .ref (ad 269), .ref (ad 270), .int v36_1, .int v37_1, .int v38_1, .int v39_1, .int v40_1, .ref (ad 271), .ref (ad 272), .ref (ad 273), .ref (ad 274), .long v45_1, .long v46_1, .int v47_1, .int v48_1, .ref (ad 275), .int v50_1, .int v51_1, .ref (ad 276), .int v53_1, .ref (ad 277), .int 0]) hx hb hts (fun w h => mT (inX11 w h)) tyX11 tyX11_ok nmX11 hown hG.1 hP hD hS (hst.1 255 (by decide)) hf4 rfl 55 (by decide) (hts _ (mT wg_1391)) (fun _ h => h) rfl (by decide +kernel) (rfl) (rfl) (Nat.le_of_ble_eq_true rfl) rfl dX11_shown_32 (fun H locs f28 hf29 ho30 hP hD hS => ?_)
    have hfr : (∀ b, b ≠ (ad 255) → b ≠ (ad 277) → f28 b = f b) := fun b z0_ z1_ => (ho30 b z0_).trans (hfr b z0_ z1_)
    refine lv_aload_n hx hb dX11_shown_35 rfl (lv_at hl 1 rfl) ?_
    refine va_ldcSw hx hb hown (hG.2.2.1 ("RulerWordModel", 423, "phase ", 16) (by decide +kernel)) dX11_shown_36 ?_
    have hT := TI.updMG (th' := (gset th 39 (0))) hT hst (k := 0) (by decide) hf29 ho30 ⟨0, v2_1, v3_1, v4_1, v5_1, v6_1, v8_1, v9_1, v12_1, v13_1, v14_1, v15_1, v16_1, v17_1, v18_1, v19_1, v20_1, v21_1, v22_1, v23_1, v25_1, v36_1, v37_1, v38_1, v39_1, v40_1, v45_1, v46_1, v47_1, v48_1, v50_1, v51_1, v53_1, 0, rfl, (⟨by decide, by decide⟩ : In 0 0 1), hv2_1, hg2_1, hv3_1, hg3_1, hv4_1, hg4_1, hv5_1, hg5_1, hv6_1, hg6_1, hv8_1, hg8_1, hv9_1, hg9_1, hv12_1, hv13_1, hg13_1, hv14_1, hg14_1, (In.mono hb25 (by decide) (by decide)), hg15_1, hv17_1, hg17_1, hv20_1, hg20_1, hv23_1, hg23_1, hv25_1, hg25_1, hv36_1, hg36_1, hv47_1, hg47_1, hv48_1, hg48_1, hv53_1, hg53_1, (⟨by decide, by decide⟩ : In 0 0 200), (show (0 : Int32).toInt = 0 by decide), hrel0_1⟩ (fun q hq => ((gset_ne (fun e => hq (by subst e; decide))).trans rfl))
    have hT : TI g ad (gset th 39 0) f28 := TI.cast hT (by funext q; by_cases hq0 : q = 39; (subst hq0; rfl); simp only [gset, if_neg hq0])
    refine M0e hT (fun v0_31 v2_31 v3_31 v4_31 v5_31 v6_31 v8_31 v9_31 v12_31 v13_31 v14_31 v15_31 v16_31 v17_31 v18_31 v19_31 v20_31 v21_31 v22_31 v23_31 v25_31 v36_31 v37_31 v38_31 v39_31 v40_31 v45_31 v46_31 v47_31 v48_31 v50_31 v51_31 v53_31 v55_31 hf32 hv0_31 hv2_31 hg2_31 hv3_31 hg3_31 hv4_31 hg4_31 hv5_31 hg5_31 hv6_31 hg6_31 hv8_31 hg8_31 hv9_31 hg9_31 hv12_31 hv13_31 hg13_31 hv14_31 hg14_31 hv15_31 hg15_31 hv17_31 hg17_31 hv20_31 hg20_31 hv23_31 hg23_31 hv25_31 hg25_31 hv36_31 hg36_31 hv47_31 hg47_31 hv48_31 hg48_31 hv53_31 hg53_31 hv55_31 hg55_31 hrel0_31 => ?_)
    have hg15_31 : v15_31.toInt = th 11 := hg15_31
    have hg17_31 : v17_31.toInt = th 12 := hg17_31
    have hg20_31 : v20_31.toInt = th 14 := hg20_31
    refine call_v (run_V (rm := rm_X11_showsWord) hx hb hml hown hts (s_X11_showsWord l g ad (gset th 39 0) _ _ _ 16 hst hT (by decide) (show 0 + ((lenS.getD 16 0 : Nat) : Int) ≤ 200 by have ql : (lenS.getD 16 0 : Nat) = 6 := (by decide); omega)) cV_X11_showsWord wg_1925 ⟨Nat.le_of_ble_eq_true rfl, Nat.le_of_ble_eq_true rfl⟩ hG hE hA hP hD hS (hst.1 255 (by decide)) hf32 rfl rfl hl.1 (As := [.ref (g.2.2.1 16)]) (rest := []) rfl (Nat.le_of_ble_eq_true rfl) dX11_shown_39 ⟨Nat.le_of_ble_eq_true rfl, Nat.le_of_ble_eq_true rfl⟩) hA hD hS (fun L34 f35 H locs hp36 hP hD hS => ?_)
    obtain ⟨eL37L, eL37T, eL37F⟩ := hp36
    have eL37L : L34 = L := eL37L
    rw [eL37L] at hP hD
    obtain ⟨zz38, hzz38, eL37T⟩ := eL37T
    have hgk39 : (gset th 39 0) 39 = 0 := rfl
    have hT : TI g ad (gset (gset th 39 0) 39 zz38) f35 := eL37T
    have hT : TI g ad (gset th 39 zz38) f35 := TI.cast hT (by funext q; by_cases hq0 : q = 39; (subst hq0; rfl); simp only [gset, if_neg hq0])
    have eL37F : ∀ b, b ≠ (ad 255) → b ≠ (ad 277) → f35 b = f28 b := eL37F
    have hfr : (∀ b, b ≠ (ad 255) → b ≠ (ad 277) → f35 b = f b) := fun b z0_ z1_ => (eL37F b z0_ z1_).trans (hfr b z0_ z1_)
    refine lv_aload_n hx hb dX11_shown_42 rfl (lv_at hl 1 rfl) ?_
    refine lv_bipush (v := 48) hx hb dX11_shown_43 (by decide) ?_
    refine lv_iload_n hx hb dX11_shown_45 rfl (lv_at hl 2 rfl) ?_
    refine lv_iadd hx hb dX11_shown_46 ?_
    refine lv_topi (fun x40 ex40 => ?_)
    have hb41 : In x40 48 53 := ex40 ▸ In.add (⟨by decide, by decide⟩ : In 48 48 48) hb24 (by decide) (by decide) (by decide) (by decide)
    have et42 : x40.toInt = (48 : Int32).toInt + z1.toInt := In.add2e ex40 (⟨by decide, by decide⟩ : In 48 48 48) hb24 (by decide) (by decide)
    refine M0e hT (fun v0_43 v2_43 v3_43 v4_43 v5_43 v6_43 v8_43 v9_43 v12_43 v13_43 v14_43 v15_43 v16_43 v17_43 v18_43 v19_43 v20_43 v21_43 v22_43 v23_43 v25_43 v36_43 v37_43 v38_43 v39_43 v40_43 v45_43 v46_43 v47_43 v48_43 v50_43 v51_43 v53_43 v55_43 hf44 hv0_43 hv2_43 hg2_43 hv3_43 hg3_43 hv4_43 hg4_43 hv5_43 hg5_43 hv6_43 hg6_43 hv8_43 hg8_43 hv9_43 hg9_43 hv12_43 hv13_43 hg13_43 hv14_43 hg14_43 hv15_43 hg15_43 hv17_43 hg17_43 hv20_43 hg20_43 hv23_43 hg23_43 hv25_43 hg25_43 hv36_43 hg36_43 hv47_43 hg47_43 hv48_43 hg48_43 hv53_43 hg53_43 hv55_43 hg55_43 hrel0_43 => ?_)
    have hg15_43 : v15_43.toInt = th 11 := hg15_43
    have hg17_43 : v17_43.toInt = th 12 := hg17_43
    have hg20_43 : v20_43.toInt = th 14 := hg20_43
    refine call_v (run_V (rm := rm_X11_shows) hx hb hml hown hts (s_X11_shows l g ad (gset th 39 zz38) _ _ _ x40 hst hT (show zz38 < 200 from (by have ob10 : (0 : Int) ≤ (th 10) ∧ (th 10) ≤ 1 := (b0_10 hT :); have ob11 : (0 : Int) ≤ (th 11) ∧ (th 11) ≤ 9 := (b0_11 hT :); have ob12 : (0 : Int) ≤ (th 12) ∧ (th 12) ≤ 6 := (b0_12 hT :); have ob14 : (0 : Int) ≤ (th 14) ∧ (th 14) ≤ 511 := (b0_14 hT :); have ob15 : (0 : Int) ≤ (th 15) ∧ (th 15) ≤ 1 := (b0_15 hT :); have ob16 : (0 : Int) ≤ (th 16) ∧ (th 16) ≤ 20 := (b0_16 hT :); have ob17 : (0 : Int) ≤ (th 17) ∧ (th 17) ≤ 1 := (b0_17 hT :); have ob18 : (0 : Int) ≤ (th 18) ∧ (th 18) ≤ 18 := (b0_18 hT :); have ob38 : (0 : Int) ≤ (th 38) ∧ (th 38) ≤ 400 := (b0_38 hT :); have ob39 : (0 : Int) ≤ zz38 ∧ zz38 ≤ 200 := (b0_39 hT :); have ob44 : (0 : Int) ≤ (th 44) ∧ (th 44) ≤ 30 := (b0_44 hT :); have orn := rnd_b (th 10); obtain ⟨o0a, o0b⟩ := (hv14_43 : In _ _ _); obtain ⟨o1a, o1b⟩ := (hv15_43 : In _ _ _); obtain ⟨o2a, o2b⟩ := (hv17_43 : In _ _ _); obtain ⟨o3a, o3b⟩ := (hv20_43 : In _ _ _); obtain ⟨o4a, o4b⟩ := (hv23_43 : In _ _ _); obtain ⟨o5a, o5b⟩ := (hv25_43 : In _ _ _); obtain ⟨o6a, o6b⟩ := (hv36_43 : In _ _ _); obtain ⟨o7a, o7b⟩ := (hv47_43 : In _ _ _); obtain ⟨o8a, o8b⟩ := (hv48_43 : In _ _ _); obtain ⟨o9a, o9b⟩ := (hv53_43 : In _ _ _); obtain ⟨o10a, o10b⟩ := (hv55_43 : In _ _ _); omega))) cV_X11_shows wg_1929 ⟨Nat.le_of_ble_eq_true rfl, Nat.le_of_ble_eq_true rfl⟩ hG hE hA hP hD hS (hst.1 255 (by decide)) hf44 rfl rfl hl.1 (As := [.int x40]) (rest := []) rfl (Nat.le_of_ble_eq_true rfl) dX11_shown_47 ⟨Nat.le_of_ble_eq_true rfl, Nat.le_of_ble_eq_true rfl⟩) hA hD hS (fun L46 f47 H locs hp48 hP hD hS => ?_)
    obtain ⟨eL49L, eL49T, eL49F⟩ := hp48
    have eL49L : L46 = L := eL49L
    rw [eL49L] at hP hD
    obtain ⟨zz50, hzz50, eL49T⟩ := eL49T
    have hzz50 : zz50 = zz38 + 1 := hzz50
    have hT : TI g ad (gset (gset th 39 zz38) 39 zz50) f47 := eL49T
    have hT : TI g ad (gset th 39 zz50) f47 := TI.cast hT (by funext q; by_cases hq0 : q = 39; (subst hq0; rfl); simp only [gset, if_neg hq0])
    have eL49F : ∀ b, b ≠ (ad 255) → b ≠ (ad 277) → f47 b = f35 b := eL49F
    have hfr : (∀ b, b ≠ (ad 255) → b ≠ (ad 277) → f47 b = f b) := fun b z0_ z1_ => (eL49F b z0_ z1_).trans (hfr b z0_ z1_)
    refine lv_aload_n hx hb dX11_shown_50 rfl (lv_at hl 1 rfl) ?_
    refine va_ldcSw hx hb hown (hG.2.2.1 ("RulerWordModel", 456, " ruler ", 22) (by decide +kernel)) dX11_shown_51 ?_
    refine M0e hT (fun v0_51 v2_51 v3_51 v4_51 v5_51 v6_51 v8_51 v9_51 v12_51 v13_51 v14_51 v15_51 v16_51 v17_51 v18_51 v19_51 v20_51 v21_51 v22_51 v23_51 v25_51 v36_51 v37_51 v38_51 v39_51 v40_51 v45_51 v46_51 v47_51 v48_51 v50_51 v51_51 v53_51 v55_51 hf52 hv0_51 hv2_51 hg2_51 hv3_51 hg3_51 hv4_51 hg4_51 hv5_51 hg5_51 hv6_51 hg6_51 hv8_51 hg8_51 hv9_51 hg9_51 hv12_51 hv13_51 hg13_51 hv14_51 hg14_51 hv15_51 hg15_51 hv17_51 hg17_51 hv20_51 hg20_51 hv23_51 hg23_51 hv25_51 hg25_51 hv36_51 hg36_51 hv47_51 hg47_51 hv48_51 hg48_51 hv53_51 hg53_51 hv55_51 hg55_51 hrel0_51 => ?_)
    have hg15_51 : v15_51.toInt = th 11 := hg15_51
    have hg17_51 : v17_51.toInt = th 12 := hg17_51
    have hg20_51 : v20_51.toInt = th 14 := hg20_51
    refine call_v (run_V (rm := rm_X11_showsWord) hx hb hml hown hts (s_X11_showsWord l g ad (gset th 39 zz50) _ _ _ 22 hst hT (by decide) (show zz50 + ((lenS.getD 22 0 : Nat) : Int) ≤ 200 by have ql : (lenS.getD 22 0 : Nat) = 7 := (by decide); omega)) cV_X11_showsWord wg_1925 ⟨Nat.le_of_ble_eq_true rfl, Nat.le_of_ble_eq_true rfl⟩ hG hE hA hP hD hS (hst.1 255 (by decide)) hf52 rfl rfl hl.1 (As := [.ref (g.2.2.1 22)]) (rest := []) rfl (Nat.le_of_ble_eq_true rfl) dX11_shown_54 ⟨Nat.le_of_ble_eq_true rfl, Nat.le_of_ble_eq_true rfl⟩) hA hD hS (fun L54 f55 H locs hp56 hP hD hS => ?_)
    obtain ⟨eL57L, eL57T, eL57F⟩ := hp56
    have eL57L : L54 = L := eL57L
    rw [eL57L] at hP hD
    obtain ⟨zz58, hzz58, eL57T⟩ := eL57T
    have hgk59 : (gset th 39 zz50) 39 = zz50 := rfl
    have hT : TI g ad (gset (gset th 39 zz50) 39 zz58) f55 := eL57T
    have hT : TI g ad (gset th 39 zz58) f55 := TI.cast hT (by funext q; by_cases hq0 : q = 39; (subst hq0; rfl); simp only [gset, if_neg hq0])
    have eL57F : ∀ b, b ≠ (ad 255) → b ≠ (ad 277) → f55 b = f47 b := eL57F
    have hfr : (∀ b, b ≠ (ad 255) → b ≠ (ad 277) → f55 b = f b) := fun b z0_ z1_ => (eL57F b z0_ z1_).trans (hfr b z0_ z1_)
    refine lv_aload_n hx hb dX11_shown_57 rfl (lv_at hl 1 rfl) ?_
    refine lv_bipush (v := 48) hx hb dX11_shown_58 (by decide) ?_
    refine lv_iload_n hx hb dX11_shown_60 rfl (lv_at hl 0 rfl) ?_
    refine lv_iadd hx hb dX11_shown_61 ?_
    refine lv_topi (fun x60 ex60 => ?_)
    have hb61 : In x60 48 53 := ex60 ▸ In.add (⟨by decide, by decide⟩ : In 48 48 48) hb27 (by decide) (by decide) (by decide) (by decide)
    have et62 : x60.toInt = (48 : Int32).toInt + x26.toInt := In.add2e ex60 (⟨by decide, by decide⟩ : In 48 48 48) hb27 (by decide) (by decide)
    refine M0e hT (fun v0_63 v2_63 v3_63 v4_63 v5_63 v6_63 v8_63 v9_63 v12_63 v13_63 v14_63 v15_63 v16_63 v17_63 v18_63 v19_63 v20_63 v21_63 v22_63 v23_63 v25_63 v36_63 v37_63 v38_63 v39_63 v40_63 v45_63 v46_63 v47_63 v48_63 v50_63 v51_63 v53_63 v55_63 hf64 hv0_63 hv2_63 hg2_63 hv3_63 hg3_63 hv4_63 hg4_63 hv5_63 hg5_63 hv6_63 hg6_63 hv8_63 hg8_63 hv9_63 hg9_63 hv12_63 hv13_63 hg13_63 hv14_63 hg14_63 hv15_63 hg15_63 hv17_63 hg17_63 hv20_63 hg20_63 hv23_63 hg23_63 hv25_63 hg25_63 hv36_63 hg36_63 hv47_63 hg47_63 hv48_63 hg48_63 hv53_63 hg53_63 hv55_63 hg55_63 hrel0_63 => ?_)
    have hg15_63 : v15_63.toInt = th 11 := hg15_63
    have hg17_63 : v17_63.toInt = th 12 := hg17_63
    have hg20_63 : v20_63.toInt = th 14 := hg20_63
    refine call_v (run_V (rm := rm_X11_shows) hx hb hml hown hts (s_X11_shows l g ad (gset th 39 zz58) _ _ _ x60 hst hT (show zz58 < 200 from (by have ob10 : (0 : Int) ≤ (th 10) ∧ (th 10) ≤ 1 := (b0_10 hT :); have ob11 : (0 : Int) ≤ (th 11) ∧ (th 11) ≤ 9 := (b0_11 hT :); have ob12 : (0 : Int) ≤ (th 12) ∧ (th 12) ≤ 6 := (b0_12 hT :); have ob14 : (0 : Int) ≤ (th 14) ∧ (th 14) ≤ 511 := (b0_14 hT :); have ob15 : (0 : Int) ≤ (th 15) ∧ (th 15) ≤ 1 := (b0_15 hT :); have ob16 : (0 : Int) ≤ (th 16) ∧ (th 16) ≤ 20 := (b0_16 hT :); have ob17 : (0 : Int) ≤ (th 17) ∧ (th 17) ≤ 1 := (b0_17 hT :); have ob18 : (0 : Int) ≤ (th 18) ∧ (th 18) ≤ 18 := (b0_18 hT :); have ob38 : (0 : Int) ≤ (th 38) ∧ (th 38) ≤ 400 := (b0_38 hT :); have ob39 : (0 : Int) ≤ zz58 ∧ zz58 ≤ 200 := (b0_39 hT :); have ob44 : (0 : Int) ≤ (th 44) ∧ (th 44) ≤ 30 := (b0_44 hT :); have orn := rnd_b (th 10); obtain ⟨o0a, o0b⟩ := (hv14_63 : In _ _ _); obtain ⟨o1a, o1b⟩ := (hv15_63 : In _ _ _); obtain ⟨o2a, o2b⟩ := (hv17_63 : In _ _ _); obtain ⟨o3a, o3b⟩ := (hv20_63 : In _ _ _); obtain ⟨o4a, o4b⟩ := (hv23_63 : In _ _ _); obtain ⟨o5a, o5b⟩ := (hv25_63 : In _ _ _); obtain ⟨o6a, o6b⟩ := (hv36_63 : In _ _ _); obtain ⟨o7a, o7b⟩ := (hv47_63 : In _ _ _); obtain ⟨o8a, o8b⟩ := (hv48_63 : In _ _ _); obtain ⟨o9a, o9b⟩ := (hv53_63 : In _ _ _); obtain ⟨o10a, o10b⟩ := (hv55_63 : In _ _ _); omega))) cV_X11_shows wg_1929 ⟨Nat.le_of_ble_eq_true rfl, Nat.le_of_ble_eq_true rfl⟩ hG hE hA hP hD hS (hst.1 255 (by decide)) hf64 rfl rfl hl.1 (As := [.int x60]) (rest := []) rfl (Nat.le_of_ble_eq_true rfl) dX11_shown_62 ⟨Nat.le_of_ble_eq_true rfl, Nat.le_of_ble_eq_true rfl⟩) hA hD hS (fun L66 f67 H locs hp68 hP hD hS => ?_)
    obtain ⟨eL69L, eL69T, eL69F⟩ := hp68
    have eL69L : L66 = L := eL69L
    rw [eL69L] at hP hD
    obtain ⟨zz70, hzz70, eL69T⟩ := eL69T
    have hzz70 : zz70 = zz58 + 1 := hzz70
    have hT : TI g ad (gset (gset th 39 zz58) 39 zz70) f67 := eL69T
    have hT : TI g ad (gset th 39 zz70) f67 := TI.cast hT (by funext q; by_cases hq0 : q = 39; (subst hq0; rfl); simp only [gset, if_neg hq0])
    have eL69F : ∀ b, b ≠ (ad 255) → b ≠ (ad 277) → f67 b = f55 b := eL69F
    have hfr : (∀ b, b ≠ (ad 255) → b ≠ (ad 277) → f67 b = f b) := fun b z0_ z1_ => (eL69F b z0_ z1_).trans (hfr b z0_ z1_)
    refine lv_iconst (v := 0) hx hb dX11_shown_65 (by decide) ?_
    refine lv_istore (lv' := [(4, .int 0), (3, .int x26), (0, .ref (ad 255)), (1, .int z1), (2, .int z2)]) hx hb dX11_shown_66 hl (by decide) rfl (fun ls hl => ?_)
    have hJ68 : ∀ (k68 : Nat) (zg68_zs : Int) (y68_l4 : Int32) (f_68 : HP) (H : Heap) (locs : List Loc) (ls : Array Slot), (0 ≤ zg68_zs ∧ zg68_zs ≤ 15 + 9 * y68_l4.toInt + 0) → In y68_l4 0 9 → va_P g.1 vwCl (va_pl L f_68) H → va_D A (va_pl L f_68) → va_S A s.heap H locs → TI g ad (gset th 39 zg68_zs) f_68 → (∀ b, b ≠ (ad 255) → b ≠ (ad 277) → f_68 b = f b) → lv_has ls 6 [(0, .ref (ad 255)), (1, .int z1), (2, .int z2), (3, .int x26), (4, .int y68_l4)] → 9 - y68_l4.toInt < ((k68 : Nat) : Int) → W p l e rm_X11_shown s m [.ref (ad 255), .int z1, .int z2].toArray below meth c H locs 0 0 (MQ below (va_Qi (po_X11_shown g ad th L f z1 z2) (PstB g A) A) [.ref (ad 255), .int z1, .int z2].toArray s rm_X11_shown.cells rm_X11_shown.slots A) (F0 m 68 ls []) := by
      intro k68
      induction k68 with
      | zero =>
        intro zg68_zs y68_l4 f_68 H locs ls hzg68 hy68_l4 hP hD hS hT hfr hl hmz68
        exact ms0 hy68_l4 hmz68
      | succ k68 ih68 =>
        intro zg68_zs y68_l4 f_68 H locs ls hzg68 hy68_l4 hP hD hS hT hfr hl hmz68
        refine lv_iload hx hb dX11_shown_68 (lv_at hl 4 rfl) ?_
        refine lv_aload_n hx hb dX11_shown_70 rfl (lv_at hl 0 rfl) ?_
        refine M0e hT (fun v0_71 v2_71 v3_71 v4_71 v5_71 v6_71 v8_71 v9_71 v12_71 v13_71 v14_71 v15_71 v16_71 v17_71 v18_71 v19_71 v20_71 v21_71 v22_71 v23_71 v25_71 v36_71 v37_71 v38_71 v39_71 v40_71 v45_71 v46_71 v47_71 v48_71 v50_71 v51_71 v53_71 v55_71 hf72 hv0_71 hv2_71 hg2_71 hv3_71 hg3_71 hv4_71 hg4_71 hv5_71 hg5_71 hv6_71 hg6_71 hv8_71 hg8_71 hv9_71 hg9_71 hv12_71 hv13_71 hg13_71 hv14_71 hg14_71 hv15_71 hg15_71 hv17_71 hg17_71 hv20_71 hg20_71 hv23_71 hg23_71 hv25_71 hg25_71 hv36_71 hg36_71 hv47_71 hg47_71 hv48_71 hg48_71 hv53_71 hg53_71 hv55_71 hg55_71 hrel0_71 => ?_)
        have hg15_71 : v15_71.toInt = th 11 := hg15_71
        have hg17_71 : v17_71.toInt = th 12 := hg17_71
        have hg20_71 : v20_71.toInt = th 14 := hg20_71
        refine pl_get (v := .int v15_71) hx hb hts (fun w h => mT (inX11 w h)) hown hG.1 hP (hst.1 255 (by decide)) hf72 rfl 15 (by decide) (hts _ (mT wg_1351)) (fun _ h => h) rfl dX11_shown_71 ?_
        refine lv_icmp_ge (tgt := 204) hx hb dX11_shown_74 (by decide) (fun c73 => ?_) (fun c73 => ?_)
        ·
          have cc74 : v15_71.toInt ≤ y68_l4.toInt := i32_le.mp c73
          refine lv_iload_n hx hb dX11_shown_204 rfl (lv_at hl 2 rfl) ?_
          refine lv_iconst (v := (-1)) hx hb dX11_shown_205 (by decide) ?_
          refine lv_icmp_ne (tgt := 216) hx hb dX11_shown_206 (by decide) (fun c75 => ?_) (fun c75 => ?_)
          ·
            have ocm1 : ((-1) : Int32).toInt = (-1) := by decide
            have cc76 : z2.toInt ≠ ((-1) : Int32).toInt := i32_ne c75
            refine lv_iload_n hx hb dX11_shown_216 rfl (lv_at hl 2 rfl) ?_
            refine lv_i2l hx hb dX11_shown_217 rfl ?_
            refine lv_lconst (v := 0) hx hb dX11_shown_218 (by decide) ?_
            refine lv_aload_n hx hb dX11_shown_219 rfl (lv_at hl 0 rfl) ?_
            refine pl_get (v := .int v55_71) hx hb hts (fun w h => mT (inX11 w h)) hown hG.1 hP (hst.1 255 (by decide)) hf72 rfl 55 (by decide) (hts _ (mT wg_1391)) (fun _ h => h) rfl dX11_shown_220 ?_
            have hg55_71 : v55_71.toInt = zg68_zs := hg55_71
            refine lv_iconst (v := 1) hx hb dX11_shown_223 (by decide) ?_
            refine lv_isub hx hb dX11_shown_224 ?_
            refine lv_topi (fun x77 ex77 => ?_)
            have hb78 : In x77 (-1) 199 := ex77 ▸ In.sub hv55_71 (⟨by decide, by decide⟩ : In 1 1 1) (by decide) (by decide) (by decide) (by decide)
            have et79 : x77.toInt = v55_71.toInt + (-1) := In.sube ex77 hv55_71 (k := 1) (by decide) (by decide) (by decide)
            refine lv_i2l hx hb dX11_shown_225 rfl ?_
            refine call_i (run_S (rm := rm_X11_isIn) hx hb hml hown hts (s_X11_isIn l g ad (gset th 39 zg68_zs) _ _ _ (z2.toInt64) 0 (x77.toInt64) hst hT ) cS_X11_isIn wg_1581 ⟨Nat.le_of_ble_eq_true rfl, Nat.le_of_ble_eq_true rfl⟩ hG hE hA hP hD hS rfl hl.1 (As := [.long (z2.toInt64), .long 0, .long (x77.toInt64)]) (rest := []) rfl (Nat.le_of_ble_eq_true rfl) dX11_shown_226 ⟨Nat.le_of_ble_eq_true rfl, Nat.le_of_ble_eq_true rfl⟩) hA hD hS (fun r80 L81 f82 H locs hp83 hP hD hS => ?_)
            obtain ⟨eL84L, eL84T, eL84R, eL84X0, eL84X1⟩ := hp83
            have eL84L : L81 = L := eL84L
            have eL84T : f82 = f_68 := eL84T
            rw [eL84L, eL84T] at hP hD
            have eL84R : In r80 0 1 := eL84R
            have hii85 : r80.toInt = 0 ∨ (0 ≤ z2.toInt ∧ z2.toInt ≤ x77.toInt) := by have z := eL84X0; rw [i2l_t z2, (by decide : (0 : Int64).toInt = 0), i2l_t x77] at z; exact z
            have hii85w : ¬ r80 = 0 → In z2 0 199 := fun c => by have c2 := i32_ne c; have e0 : (0 : Int32).toInt = 0 := (by decide); obtain ⟨o1, p1⟩ := (hb78 : In _ _ _); exact ⟨by omega, by omega⟩
            refine lv_if_eq (tgt := 241) hx hb dX11_shown_229 (by decide) (fun c86 => ?_) (fun c86 => ?_)
            ·
              have oc0 : (0 : Int32).toInt = 0 := by decide
              have cc87 : r80.toInt = (0 : Int32).toInt := congrArg Int32.toInt c86
              have hb88 : In r80 0 0 := In.eq1 eL84R (⟨by decide, by decide⟩ : In 0 0 0) cc87 (by decide) (by decide)
              refine lv_iconst (v := (-1)) hx hb dX11_shown_241 (by decide) ?_
              exact ret_i (ty := .int) hx hb hr hlocks (rfl) hP hD hS (Nat.le_of_ble_eq_true rfl) (Nat.le_of_ble_eq_true rfl) (⟨rfl, ⟨(gset th 39 zg68_zs), ⟨(show MI (gset th 39 zg68_zs) from ⟨m1, m2, (show th 20 = (th 12) * rnd (th 10) from m3), m4, m5, m6, m7, m8, m9, m10⟩), (SBM.set (k := 39) (SBM.rf th) (by decide))⟩, hT⟩, hfr⟩) dX11_shown_242
            ·
              have oc0 : (0 : Int32).toInt = 0 := by decide
              have cc89 : r80.toInt ≠ (0 : Int32).toInt := i32_ne c86
              have hb90 : In r80 1 1 := In.ne1 eL84R (⟨by decide, by decide⟩ : In 0 0 0) cc89 (by decide) (by decide)
              have hb91 : In z2 0 199 := In.both (hii85w c86) (In.full z2) (by decide) (by decide)
              refine lv_aload_n hx hb dX11_shown_232 rfl (lv_at hl 0 rfl) ?_
              refine pl_get (v := .ref (ad 277)) hx hb hts (fun w h => mT (inX11 w h)) hown hG.1 hP (hst.1 255 (by decide)) hf72 rfl 54 (by decide) (hts _ (mT wg_1390)) (fun _ h => h) rfl dX11_shown_233 ?_
              refine lv_iload_n hx hb dX11_shown_236 rfl (lv_at hl 2 rfl) ?_
              obtain ⟨rw92, hf93⟩ := hT.2.2 22 (by decide)
              have hin94 : vp_in z2 200 := In.inb hb91 (by decide) (by decide)
              refine pl_iald hx hb hG.1 hP (hst.1 277 (by decide)) 0 hf93 rfl hin94 dX11_shown_237 ?_
              refine lv_topi (fun x95 ex95 => ?_)
              refine lv_goto (tgt := 242) hx hb dX11_shown_238 (by decide) ?_
              exact ret_i (ty := .int) hx hb hr hlocks (rfl) hP hD hS (Nat.le_of_ble_eq_true rfl) (Nat.le_of_ble_eq_true rfl) (⟨rfl, ⟨(gset th 39 zg68_zs), ⟨(show MI (gset th 39 zg68_zs) from ⟨m1, m2, (show th 20 = (th 12) * rnd (th 10) from m3), m4, m5, m6, m7, m8, m9, m10⟩), (SBM.set (k := 39) (SBM.rf th) (by decide))⟩, hT⟩, hfr⟩) dX11_shown_242
          ·
            have ocm1 : ((-1) : Int32).toInt = (-1) := by decide
            have cc96 : z2.toInt = ((-1) : Int32).toInt := congrArg Int32.toInt c75
            have hb97 : In z2 (-1) (-1) := In.eq1 (In.full z2) (⟨by decide, by decide⟩ : In (-1) (-1) (-1)) cc96 (by decide) (by decide)
            refine lv_aload_n hx hb dX11_shown_209 rfl (lv_at hl 0 rfl) ?_
            refine pl_get (v := .int v55_71) hx hb hts (fun w h => mT (inX11 w h)) hown hG.1 hP (hst.1 255 (by decide)) hf72 rfl 55 (by decide) (hts _ (mT wg_1391)) (fun _ h => h) rfl dX11_shown_210 ?_
            have hg55_71 : v55_71.toInt = zg68_zs := hg55_71
            refine lv_goto (tgt := 242) hx hb dX11_shown_213 (by decide) ?_
            exact ret_i (ty := .int) hx hb hr hlocks (rfl) hP hD hS (Nat.le_of_ble_eq_true rfl) (Nat.le_of_ble_eq_true rfl) (⟨rfl, ⟨(gset th 39 zg68_zs), ⟨(show MI (gset th 39 zg68_zs) from ⟨m1, m2, (show th 20 = (th 12) * rnd (th 10) from m3), m4, m5, m6, m7, m8, m9, m10⟩), (SBM.set (k := 39) (SBM.rf th) (by decide))⟩, hT⟩, hfr⟩) dX11_shown_242
        ·
          have cc98 : y68_l4.toInt < v15_71.toInt := i32_nle c73
          have hb99 : In y68_l4 0 8 := In.lt1 hy68_l4 hv15_71 cc98 (by decide) (by decide)
          have hb100 : In v15_71 1 9 := In.lt2 hy68_l4 hv15_71 cc98 (by decide) (by decide)
          refine lv_iload_n hx hb dX11_shown_77 rfl (lv_at hl 1 rfl) ?_
          refine lv_iload hx hb dX11_shown_78 (lv_at hl 4 rfl) ?_
          refine call_i (run_S (rm := rm_X11_toldAt) hx hb hml hown hts (s_X11_toldAt l g ad (gset th 39 zg68_zs) _ _ _ z1 y68_l4 hst hT hb24 hb99) cS_X11_toldAt wg_1699 ⟨Nat.le_of_ble_eq_true rfl, Nat.le_of_ble_eq_true rfl⟩ hG hE hA hP hD hS rfl hl.1 (As := [.int z1, .int y68_l4]) (rest := []) rfl (Nat.le_of_ble_eq_true rfl) dX11_shown_80 ⟨Nat.le_of_ble_eq_true rfl, Nat.le_of_ble_eq_true rfl⟩) hA hD hS (fun r101 L102 f103 H locs hp104 hP hD hS => ?_)
          obtain ⟨eL105L, eL105T, eL105R⟩ := hp104
          have eL105L : L102 = L := eL105L
          have eL105T : f103 = f_68 := eL105T
          rw [eL105L, eL105T] at hP hD
          have eL105R : In r101 1538 1962 := eL105R
          refine lv_istore (lv' := [(5, .int r101), (0, .ref (ad 255)), (1, .int z1), (2, .int z2), (3, .int x26), (4, .int y68_l4)]) hx hb dX11_shown_83 hl (by decide) rfl (fun ls hl => ?_)
          refine lv_aload_n hx hb dX11_shown_85 rfl (lv_at hl 1 rfl) ?_
          refine va_ldcSw hx hb hown (hG.2.2.1 ("RulerWordModel", 458, ", ", 24) (by decide +kernel)) dX11_shown_86 ?_
          refine call_v (run_V (rm := rm_X11_showsWord) hx hb hml hown hts (s_X11_showsWord l g ad (gset th 39 zg68_zs) _ _ _ 24 hst hT (by decide) (show zg68_zs + ((lenS.getD 24 0 : Nat) : Int) ≤ 200 by have ql : (lenS.getD 24 0 : Nat) = 2 := (by decide); omega)) cV_X11_showsWord wg_1925 ⟨Nat.le_of_ble_eq_true rfl, Nat.le_of_ble_eq_true rfl⟩ hG hE hA hP hD hS (hst.1 255 (by decide)) hf72 rfl rfl hl.1 (As := [.ref (g.2.2.1 24)]) (rest := []) rfl (Nat.le_of_ble_eq_true rfl) dX11_shown_89 ⟨Nat.le_of_ble_eq_true rfl, Nat.le_of_ble_eq_true rfl⟩) hA hD hS (fun L107 f108 H locs hp109 hP hD hS => ?_)
          obtain ⟨eL110L, eL110T, eL110F⟩ := hp109
          have eL110L : L107 = L := eL110L
          rw [eL110L] at hP hD
          obtain ⟨zz111, hzz111, eL110T⟩ := eL110T
          have hgk112 : (gset th 39 zg68_zs) 39 = zg68_zs := rfl
          have hT : TI g ad (gset (gset th 39 zg68_zs) 39 zz111) f108 := eL110T
          have hT : TI g ad (gset th 39 zz111) f108 := TI.cast hT (by funext q; by_cases hq0 : q = 39; (subst hq0; rfl); simp only [gset, if_neg hq0])
          have eL110F : ∀ b, b ≠ (ad 255) → b ≠ (ad 277) → f108 b = f_68 b := eL110F
          have hfr : (∀ b, b ≠ (ad 255) → b ≠ (ad 277) → f108 b = f b) := fun b z0_ z1_ => (eL110F b z0_ z1_).trans (hfr b z0_ z1_)
          refine lv_aload_n hx hb dX11_shown_92 rfl (lv_at hl 1 rfl) ?_
          refine lv_iload hx hb dX11_shown_93 (lv_at hl 5 rfl) ?_
          refine M0e hT (fun v0_113 v2_113 v3_113 v4_113 v5_113 v6_113 v8_113 v9_113 v12_113 v13_113 v14_113 v15_113 v16_113 v17_113 v18_113 v19_113 v20_113 v21_113 v22_113 v23_113 v25_113 v36_113 v37_113 v38_113 v39_113 v40_113 v45_113 v46_113 v47_113 v48_113 v50_113 v51_113 v53_113 v55_113 hf114 hv0_113 hv2_113 hg2_113 hv3_113 hg3_113 hv4_113 hg4_113 hv5_113 hg5_113 hv6_113 hg6_113 hv8_113 hg8_113 hv9_113 hg9_113 hv12_113 hv13_113 hg13_113 hv14_113 hg14_113 hv15_113 hg15_113 hv17_113 hg17_113 hv20_113 hg20_113 hv23_113 hg23_113 hv25_113 hg25_113 hv36_113 hg36_113 hv47_113 hg47_113 hv48_113 hg48_113 hv53_113 hg53_113 hv55_113 hg55_113 hrel0_113 => ?_)
          have hg15_113 : v15_113.toInt = th 11 := hg15_113
          have hg17_113 : v17_113.toInt = th 12 := hg17_113
          have hg20_113 : v20_113.toInt = th 14 := hg20_113
          refine call_i (run_V (rm := rm_X11_isTrue) hx hb hml hown hts (s_X11_isTrue l g ad (gset th 39 zz111) _ _ _ y68_l4 hst hT ) cV_X11_isTrue wg_1782 ⟨Nat.le_of_ble_eq_true rfl, Nat.le_of_ble_eq_true rfl⟩ hG hE hA hP hD hS (hst.1 255 (by decide)) hf114 rfl rfl hl.1 (As := [.int y68_l4]) (rest := []) rfl (Nat.le_of_ble_eq_true rfl) dX11_shown_95 ⟨Nat.le_of_ble_eq_true rfl, Nat.le_of_ble_eq_true rfl⟩) hA hD hS (fun r115 L116 f117 H locs hp118 hP hD hS => ?_)
          obtain ⟨eL119L, eL119T, eL119R⟩ := hp118
          have eL119L : L116 = L := eL119L
          have eL119T : f117 = f108 := eL119T
          rw [eL119L, eL119T] at hP hD
          have eL119R : In r115 0 1 := eL119R
          have hJ107 : ∀ (zg107_zs : Int) (f_107 : HP) (H : Heap) (locs : List Loc) (ls : Array Slot), (0 ≤ zg107_zs ∧ zg107_zs ≤ 15 + 9 * y68_l4.toInt + 3) → va_P g.1 vwCl (va_pl L f_107) H → va_D A (va_pl L f_107) → va_S A s.heap H locs → TI g ad (gset th 39 zg107_zs) f_107 → (∀ b, b ≠ (ad 255) → b ≠ (ad 277) → f_107 b = f b) → lv_has ls 6 [(0, .ref (ad 255)), (1, .int z1), (2, .int z2), (3, .int x26), (4, .int y68_l4), (5, .int r101)] → W p l e rm_X11_shown s m [.ref (ad 255), .int z1, .int z2].toArray below meth c H locs 0 0 (MQ below (va_Qi (po_X11_shown g ad th L f z1 z2) (PstB g A) A) [.ref (ad 255), .int z1, .int z2].toArray s rm_X11_shown.cells rm_X11_shown.slots A) (F0 m 107 ls []) := by
            intro zg107_zs f_107 H locs ls hzg107 hP hD hS hT hfr hl
            refine lv_aload_n hx hb dX11_shown_107 rfl (lv_at hl 0 rfl) ?_
            refine lv_bipush (v := 48) hx hb dX11_shown_108 (by decide) ?_
            refine lv_iload hx hb dX11_shown_110 (lv_at hl 4 rfl) ?_
            refine lv_iadd hx hb dX11_shown_112 ?_
            refine lv_topi (fun x120 ex120 => ?_)
            have hb121 : In x120 48 56 := ex120 ▸ In.add (⟨by decide, by decide⟩ : In 48 48 48) hb99 (by decide) (by decide) (by decide) (by decide)
            have et122 : x120.toInt = (48 : Int32).toInt + y68_l4.toInt := In.add2e ex120 (⟨by decide, by decide⟩ : In 48 48 48) hb99 (by decide) (by decide)
            refine M0e hT (fun v0_123 v2_123 v3_123 v4_123 v5_123 v6_123 v8_123 v9_123 v12_123 v13_123 v14_123 v15_123 v16_123 v17_123 v18_123 v19_123 v20_123 v21_123 v22_123 v23_123 v25_123 v36_123 v37_123 v38_123 v39_123 v40_123 v45_123 v46_123 v47_123 v48_123 v50_123 v51_123 v53_123 v55_123 hf124 hv0_123 hv2_123 hg2_123 hv3_123 hg3_123 hv4_123 hg4_123 hv5_123 hg5_123 hv6_123 hg6_123 hv8_123 hg8_123 hv9_123 hg9_123 hv12_123 hv13_123 hg13_123 hv14_123 hg14_123 hv15_123 hg15_123 hv17_123 hg17_123 hv20_123 hg20_123 hv23_123 hg23_123 hv25_123 hg25_123 hv36_123 hg36_123 hv47_123 hg47_123 hv48_123 hg48_123 hv53_123 hg53_123 hv55_123 hg55_123 hrel0_123 => ?_)
            have hg15_123 : v15_123.toInt = th 11 := hg15_123
            have hg17_123 : v17_123.toInt = th 12 := hg17_123
            have hg20_123 : v20_123.toInt = th 14 := hg20_123
            refine call_v (run_V (rm := rm_X11_shows) hx hb hml hown hts (s_X11_shows l g ad (gset th 39 zg107_zs) _ _ _ x120 hst hT (show zg107_zs < 200 from (by have ob10 : (0 : Int) ≤ (th 10) ∧ (th 10) ≤ 1 := (b0_10 hT :); have ob11 : (0 : Int) ≤ (th 11) ∧ (th 11) ≤ 9 := (b0_11 hT :); have ob12 : (0 : Int) ≤ (th 12) ∧ (th 12) ≤ 6 := (b0_12 hT :); have ob14 : (0 : Int) ≤ (th 14) ∧ (th 14) ≤ 511 := (b0_14 hT :); have ob15 : (0 : Int) ≤ (th 15) ∧ (th 15) ≤ 1 := (b0_15 hT :); have ob16 : (0 : Int) ≤ (th 16) ∧ (th 16) ≤ 20 := (b0_16 hT :); have ob17 : (0 : Int) ≤ (th 17) ∧ (th 17) ≤ 1 := (b0_17 hT :); have ob18 : (0 : Int) ≤ (th 18) ∧ (th 18) ≤ 18 := (b0_18 hT :); have ob38 : (0 : Int) ≤ (th 38) ∧ (th 38) ≤ 400 := (b0_38 hT :); have ob39 : (0 : Int) ≤ zg107_zs ∧ zg107_zs ≤ 200 := (b0_39 hT :); have ob44 : (0 : Int) ≤ (th 44) ∧ (th 44) ≤ 30 := (b0_44 hT :); have orn := rnd_b (th 10); obtain ⟨o0a, o0b⟩ := (hv14_123 : In _ _ _); obtain ⟨o1a, o1b⟩ := (hv15_123 : In _ _ _); obtain ⟨o2a, o2b⟩ := (hv17_123 : In _ _ _); obtain ⟨o3a, o3b⟩ := (hv20_123 : In _ _ _); obtain ⟨o4a, o4b⟩ := (hv23_123 : In _ _ _); obtain ⟨o5a, o5b⟩ := (hv25_123 : In _ _ _); obtain ⟨o6a, o6b⟩ := (hv36_123 : In _ _ _); obtain ⟨o7a, o7b⟩ := (hv47_123 : In _ _ _); obtain ⟨o8a, o8b⟩ := (hv48_123 : In _ _ _); obtain ⟨o9a, o9b⟩ := (hv53_123 : In _ _ _); obtain ⟨o10a, o10b⟩ := (hv55_123 : In _ _ _); omega))) cV_X11_shows wg_1929 ⟨Nat.le_of_ble_eq_true rfl, Nat.le_of_ble_eq_true rfl⟩ hG hE hA hP hD hS (hst.1 255 (by decide)) hf124 rfl rfl hl.1 (As := [.int x120]) (rest := []) rfl (Nat.le_of_ble_eq_true rfl) dX11_shown_113 ⟨Nat.le_of_ble_eq_true rfl, Nat.le_of_ble_eq_true rfl⟩) hA hD hS (fun L126 f127 H locs hp128 hP hD hS => ?_)
            obtain ⟨eL129L, eL129T, eL129F⟩ := hp128
            have eL129L : L126 = L := eL129L
            rw [eL129L] at hP hD
            obtain ⟨zz130, hzz130, eL129T⟩ := eL129T
            have hzz130 : zz130 = zg107_zs + 1 := hzz130
            have hT : TI g ad (gset (gset th 39 zg107_zs) 39 zz130) f127 := eL129T
            have hT : TI g ad (gset th 39 zz130) f127 := TI.cast hT (by funext q; by_cases hq0 : q = 39; (subst hq0; rfl); simp only [gset, if_neg hq0])
            have eL129F : ∀ b, b ≠ (ad 255) → b ≠ (ad 277) → f127 b = f_107 b := eL129F
            have hfr : (∀ b, b ≠ (ad 255) → b ≠ (ad 277) → f127 b = f b) := fun b z0_ z1_ => (eL129F b z0_ z1_).trans (hfr b z0_ z1_)
            refine lv_aload_n hx hb dX11_shown_116 rfl (lv_at hl 0 rfl) ?_
            refine lv_bipush (v := 61) hx hb dX11_shown_117 (by decide) ?_
            refine M0e hT (fun v0_131 v2_131 v3_131 v4_131 v5_131 v6_131 v8_131 v9_131 v12_131 v13_131 v14_131 v15_131 v16_131 v17_131 v18_131 v19_131 v20_131 v21_131 v22_131 v23_131 v25_131 v36_131 v37_131 v38_131 v39_131 v40_131 v45_131 v46_131 v47_131 v48_131 v50_131 v51_131 v53_131 v55_131 hf132 hv0_131 hv2_131 hg2_131 hv3_131 hg3_131 hv4_131 hg4_131 hv5_131 hg5_131 hv6_131 hg6_131 hv8_131 hg8_131 hv9_131 hg9_131 hv12_131 hv13_131 hg13_131 hv14_131 hg14_131 hv15_131 hg15_131 hv17_131 hg17_131 hv20_131 hg20_131 hv23_131 hg23_131 hv25_131 hg25_131 hv36_131 hg36_131 hv47_131 hg47_131 hv48_131 hg48_131 hv53_131 hg53_131 hv55_131 hg55_131 hrel0_131 => ?_)
            have hg15_131 : v15_131.toInt = th 11 := hg15_131
            have hg17_131 : v17_131.toInt = th 12 := hg17_131
            have hg20_131 : v20_131.toInt = th 14 := hg20_131
            refine call_v (run_V (rm := rm_X11_shows) hx hb hml hown hts (s_X11_shows l g ad (gset th 39 zz130) _ _ _ 61 hst hT (show zz130 < 200 from (by have ob10 : (0 : Int) ≤ (th 10) ∧ (th 10) ≤ 1 := (b0_10 hT :); have ob11 : (0 : Int) ≤ (th 11) ∧ (th 11) ≤ 9 := (b0_11 hT :); have ob12 : (0 : Int) ≤ (th 12) ∧ (th 12) ≤ 6 := (b0_12 hT :); have ob14 : (0 : Int) ≤ (th 14) ∧ (th 14) ≤ 511 := (b0_14 hT :); have ob15 : (0 : Int) ≤ (th 15) ∧ (th 15) ≤ 1 := (b0_15 hT :); have ob16 : (0 : Int) ≤ (th 16) ∧ (th 16) ≤ 20 := (b0_16 hT :); have ob17 : (0 : Int) ≤ (th 17) ∧ (th 17) ≤ 1 := (b0_17 hT :); have ob18 : (0 : Int) ≤ (th 18) ∧ (th 18) ≤ 18 := (b0_18 hT :); have ob38 : (0 : Int) ≤ (th 38) ∧ (th 38) ≤ 400 := (b0_38 hT :); have ob39 : (0 : Int) ≤ zz130 ∧ zz130 ≤ 200 := (b0_39 hT :); have ob44 : (0 : Int) ≤ (th 44) ∧ (th 44) ≤ 30 := (b0_44 hT :); have orn := rnd_b (th 10); obtain ⟨o0a, o0b⟩ := (hv14_131 : In _ _ _); obtain ⟨o1a, o1b⟩ := (hv15_131 : In _ _ _); obtain ⟨o2a, o2b⟩ := (hv17_131 : In _ _ _); obtain ⟨o3a, o3b⟩ := (hv20_131 : In _ _ _); obtain ⟨o4a, o4b⟩ := (hv23_131 : In _ _ _); obtain ⟨o5a, o5b⟩ := (hv25_131 : In _ _ _); obtain ⟨o6a, o6b⟩ := (hv36_131 : In _ _ _); obtain ⟨o7a, o7b⟩ := (hv47_131 : In _ _ _); obtain ⟨o8a, o8b⟩ := (hv48_131 : In _ _ _); obtain ⟨o9a, o9b⟩ := (hv53_131 : In _ _ _); obtain ⟨o10a, o10b⟩ := (hv55_131 : In _ _ _); omega))) cV_X11_shows wg_1929 ⟨Nat.le_of_ble_eq_true rfl, Nat.le_of_ble_eq_true rfl⟩ hG hE hA hP hD hS (hst.1 255 (by decide)) hf132 rfl rfl hl.1 (As := [.int 61]) (rest := []) rfl (Nat.le_of_ble_eq_true rfl) dX11_shown_119 ⟨Nat.le_of_ble_eq_true rfl, Nat.le_of_ble_eq_true rfl⟩) hA hD hS (fun L134 f135 H locs hp136 hP hD hS => ?_)
            obtain ⟨eL137L, eL137T, eL137F⟩ := hp136
            have eL137L : L134 = L := eL137L
            rw [eL137L] at hP hD
            obtain ⟨zz138, hzz138, eL137T⟩ := eL137T
            have hzz138 : zz138 = zz130 + 1 := hzz138
            have hT : TI g ad (gset (gset th 39 zz130) 39 zz138) f135 := eL137T
            have hT : TI g ad (gset th 39 zz138) f135 := TI.cast hT (by funext q; by_cases hq0 : q = 39; (subst hq0; rfl); simp only [gset, if_neg hq0])
            have eL137F : ∀ b, b ≠ (ad 255) → b ≠ (ad 277) → f135 b = f127 b := eL137F
            have hfr : (∀ b, b ≠ (ad 255) → b ≠ (ad 277) → f135 b = f b) := fun b z0_ z1_ => (eL137F b z0_ z1_).trans (hfr b z0_ z1_)
            refine lv_aload_n hx hb dX11_shown_122 rfl (lv_at hl 0 rfl) ?_
            refine lv_bipush (v := 48) hx hb dX11_shown_123 (by decide) ?_
            refine lv_aload_n hx hb dX11_shown_125 rfl (lv_at hl 0 rfl) ?_
            refine M0e hT (fun v0_139 v2_139 v3_139 v4_139 v5_139 v6_139 v8_139 v9_139 v12_139 v13_139 v14_139 v15_139 v16_139 v17_139 v18_139 v19_139 v20_139 v21_139 v22_139 v23_139 v25_139 v36_139 v37_139 v38_139 v39_139 v40_139 v45_139 v46_139 v47_139 v48_139 v50_139 v51_139 v53_139 v55_139 hf140 hv0_139 hv2_139 hg2_139 hv3_139 hg3_139 hv4_139 hg4_139 hv5_139 hg5_139 hv6_139 hg6_139 hv8_139 hg8_139 hv9_139 hg9_139 hv12_139 hv13_139 hg13_139 hv14_139 hg14_139 hv15_139 hg15_139 hv17_139 hg17_139 hv20_139 hg20_139 hv23_139 hg23_139 hv25_139 hg25_139 hv36_139 hg36_139 hv47_139 hg47_139 hv48_139 hg48_139 hv53_139 hg53_139 hv55_139 hg55_139 hrel0_139 => ?_)
            have hg15_139 : v15_139.toInt = th 11 := hg15_139
            have hg17_139 : v17_139.toInt = th 12 := hg17_139
            have hg20_139 : v20_139.toInt = th 14 := hg20_139
            refine pl_get (v := .ref (ad 271)) hx hb hts (fun w h => mT (inX11 w h)) hown hG.1 hP (hst.1 255 (by decide)) hf140 rfl 41 (by decide) (hts _ (mT wg_1377)) (fun _ h => h) rfl dX11_shown_126 ?_
            refine lv_iload hx hb dX11_shown_129 (lv_at hl 5 rfl) ?_
            obtain ⟨rw141, hf142, hpi144, hc143⟩ := hT.2.2 16 (by decide)
            have hc143 : PRW 2126 (th 22) (th 20) (th 21) rw141 := hc143
            have hpi144 : ((72 : Int) < (th 22) → (rw141 72).toInt = th 19) := hpi144
            have hin145 : vp_in r101 2126 := In.inb eL105R (by decide) (by decide)
            refine pl_iald hx hb hG.1 hP (hst.1 271 (by decide)) 0 hf142 rfl hin145 dX11_shown_131 ?_
            refine lv_topi (fun x146 ex146 => ?_)
            refine lv_iadd hx hb dX11_shown_132 ?_
            refine lv_topi (fun x147 ex147 => ?_)
            refine call_v (run_V (rm := rm_X11_shows) hx hb hml hown hts (s_X11_shows l g ad (gset th 39 zz138) _ _ _ x147 hst hT (show zz138 < 200 from (by have ob10 : (0 : Int) ≤ (th 10) ∧ (th 10) ≤ 1 := (b0_10 hT :); have ob11 : (0 : Int) ≤ (th 11) ∧ (th 11) ≤ 9 := (b0_11 hT :); have ob12 : (0 : Int) ≤ (th 12) ∧ (th 12) ≤ 6 := (b0_12 hT :); have ob14 : (0 : Int) ≤ (th 14) ∧ (th 14) ≤ 511 := (b0_14 hT :); have ob15 : (0 : Int) ≤ (th 15) ∧ (th 15) ≤ 1 := (b0_15 hT :); have ob16 : (0 : Int) ≤ (th 16) ∧ (th 16) ≤ 20 := (b0_16 hT :); have ob17 : (0 : Int) ≤ (th 17) ∧ (th 17) ≤ 1 := (b0_17 hT :); have ob18 : (0 : Int) ≤ (th 18) ∧ (th 18) ≤ 18 := (b0_18 hT :); have ob38 : (0 : Int) ≤ (th 38) ∧ (th 38) ≤ 400 := (b0_38 hT :); have ob39 : (0 : Int) ≤ zz138 ∧ zz138 ≤ 200 := (b0_39 hT :); have ob44 : (0 : Int) ≤ (th 44) ∧ (th 44) ≤ 30 := (b0_44 hT :); have orn := rnd_b (th 10); obtain ⟨o0a, o0b⟩ := (hv14_139 : In _ _ _); obtain ⟨o1a, o1b⟩ := (hv15_139 : In _ _ _); obtain ⟨o2a, o2b⟩ := (hv17_139 : In _ _ _); obtain ⟨o3a, o3b⟩ := (hv20_139 : In _ _ _); obtain ⟨o4a, o4b⟩ := (hv23_139 : In _ _ _); obtain ⟨o5a, o5b⟩ := (hv25_139 : In _ _ _); obtain ⟨o6a, o6b⟩ := (hv36_139 : In _ _ _); obtain ⟨o7a, o7b⟩ := (hv47_139 : In _ _ _); obtain ⟨o8a, o8b⟩ := (hv48_139 : In _ _ _); obtain ⟨o9a, o9b⟩ := (hv53_139 : In _ _ _); obtain ⟨o10a, o10b⟩ := (hv55_139 : In _ _ _); omega))) cV_X11_shows wg_1929 ⟨Nat.le_of_ble_eq_true rfl, Nat.le_of_ble_eq_true rfl⟩ hG hE hA hP hD hS (hst.1 255 (by decide)) hf140 rfl rfl hl.1 (As := [.int x147]) (rest := []) rfl (Nat.le_of_ble_eq_true rfl) dX11_shown_133 ⟨Nat.le_of_ble_eq_true rfl, Nat.le_of_ble_eq_true rfl⟩) hA hD hS (fun L149 f150 H locs hp151 hP hD hS => ?_)
            obtain ⟨eL152L, eL152T, eL152F⟩ := hp151
            have eL152L : L149 = L := eL152L
            rw [eL152L] at hP hD
            obtain ⟨zz153, hzz153, eL152T⟩ := eL152T
            have hzz153 : zz153 = zz138 + 1 := hzz153
            have hT : TI g ad (gset (gset th 39 zz138) 39 zz153) f150 := eL152T
            have hT : TI g ad (gset th 39 zz153) f150 := TI.cast hT (by funext q; by_cases hq0 : q = 39; (subst hq0; rfl); simp only [gset, if_neg hq0])
            have eL152F : ∀ b, b ≠ (ad 255) → b ≠ (ad 277) → f150 b = f135 b := eL152F
            have hfr : (∀ b, b ≠ (ad 255) → b ≠ (ad 277) → f150 b = f b) := fun b z0_ z1_ => (eL152F b z0_ z1_).trans (hfr b z0_ z1_)
            refine lv_aload_n hx hb dX11_shown_136 rfl (lv_at hl 0 rfl) ?_
            refine M0e hT (fun v0_154 v2_154 v3_154 v4_154 v5_154 v6_154 v8_154 v9_154 v12_154 v13_154 v14_154 v15_154 v16_154 v17_154 v18_154 v19_154 v20_154 v21_154 v22_154 v23_154 v25_154 v36_154 v37_154 v38_154 v39_154 v40_154 v45_154 v46_154 v47_154 v48_154 v50_154 v51_154 v53_154 v55_154 hf155 hv0_154 hv2_154 hg2_154 hv3_154 hg3_154 hv4_154 hg4_154 hv5_154 hg5_154 hv6_154 hg6_154 hv8_154 hg8_154 hv9_154 hg9_154 hv12_154 hv13_154 hg13_154 hv14_154 hg14_154 hv15_154 hg15_154 hv17_154 hg17_154 hv20_154 hg20_154 hv23_154 hg23_154 hv25_154 hg25_154 hv36_154 hg36_154 hv47_154 hg47_154 hv48_154 hg48_154 hv53_154 hg53_154 hv55_154 hg55_154 hrel0_154 => ?_)
            have hg15_154 : v15_154.toInt = th 11 := hg15_154
            have hg17_154 : v17_154.toInt = th 12 := hg17_154
            have hg20_154 : v20_154.toInt = th 14 := hg20_154
            refine pl_get (v := .ref (ad 271)) hx hb hts (fun w h => mT (inX11 w h)) hown hG.1 hP (hst.1 255 (by decide)) hf155 rfl 41 (by decide) (hts _ (mT wg_1377)) (fun _ h => h) rfl dX11_shown_137 ?_
            refine lv_iload hx hb dX11_shown_140 (lv_at hl 5 rfl) ?_
            refine lv_iconst (v := 1) hx hb dX11_shown_142 (by decide) ?_
            refine lv_iadd hx hb dX11_shown_143 ?_
            refine lv_topi (fun x156 ex156 => ?_)
            have hb157 : In x156 1539 1963 := ex156 ▸ In.add eL105R (⟨by decide, by decide⟩ : In 1 1 1) (by decide) (by decide) (by decide) (by decide)
            have et158 : x156.toInt = r101.toInt + 1 := In.adde ex156 eL105R (k := 1) (by decide) (by decide) (by decide)
            obtain ⟨rw159, hf160, hpi162, hc161⟩ := hT.2.2 16 (by decide)
            have hc161 : PRW 2126 (th 22) (th 20) (th 21) rw159 := hc161
            have hpi162 : ((72 : Int) < (th 22) → (rw159 72).toInt = th 19) := hpi162
            have hin163 : vp_in x156 2126 := In.inb hb157 (by decide) (by decide)
            refine pl_iald hx hb hG.1 hP (hst.1 271 (by decide)) 0 hf160 rfl hin163 dX11_shown_144 ?_
            refine lv_topi (fun x164 ex164 => ?_)
            refine lv_iconst (v := 1) hx hb dX11_shown_145 (by decide) ?_
            have hJ155 : ∀ (zg155_zs : Int) (f_155 : HP) (H : Heap) (locs : List Loc) (ls : Array Slot), (0 ≤ zg155_zs ∧ zg155_zs ≤ 15 + 9 * y68_l4.toInt + 7) → va_P g.1 vwCl (va_pl L f_155) H → va_D A (va_pl L f_155) → va_S A s.heap H locs → TI g ad (gset th 39 zg155_zs) f_155 → (∀ b, b ≠ (ad 255) → b ≠ (ad 277) → f_155 b = f b) → lv_has ls 6 [(0, .ref (ad 255)), (1, .int z1), (2, .int z2), (3, .int x26), (4, .int y68_l4), (5, .int r101)] → W p l e rm_X11_shown s m [.ref (ad 255), .int z1, .int z2].toArray below meth c H locs 0 0 (MQ below (va_Qi (po_X11_shown g ad th L f z1 z2) (PstB g A) A) [.ref (ad 255), .int z1, .int z2].toArray s rm_X11_shown.cells rm_X11_shown.slots A) (F0 m 155 ls []) := by
              intro zg155_zs f_155 H locs ls hzg155 hP hD hS hT hfr hl
              refine lv_aload_n hx hb dX11_shown_155 rfl (lv_at hl 0 rfl) ?_
              refine M0e hT (fun v0_165 v2_165 v3_165 v4_165 v5_165 v6_165 v8_165 v9_165 v12_165 v13_165 v14_165 v15_165 v16_165 v17_165 v18_165 v19_165 v20_165 v21_165 v22_165 v23_165 v25_165 v36_165 v37_165 v38_165 v39_165 v40_165 v45_165 v46_165 v47_165 v48_165 v50_165 v51_165 v53_165 v55_165 hf166 hv0_165 hv2_165 hg2_165 hv3_165 hg3_165 hv4_165 hg4_165 hv5_165 hg5_165 hv6_165 hg6_165 hv8_165 hg8_165 hv9_165 hg9_165 hv12_165 hv13_165 hg13_165 hv14_165 hg14_165 hv15_165 hg15_165 hv17_165 hg17_165 hv20_165 hg20_165 hv23_165 hg23_165 hv25_165 hg25_165 hv36_165 hg36_165 hv47_165 hg47_165 hv48_165 hg48_165 hv53_165 hg53_165 hv55_165 hg55_165 hrel0_165 => ?_)
              have hg15_165 : v15_165.toInt = th 11 := hg15_165
              have hg17_165 : v17_165.toInt = th 12 := hg17_165
              have hg20_165 : v20_165.toInt = th 14 := hg20_165
              refine pl_get (v := .ref (ad 271)) hx hb hts (fun w h => mT (inX11 w h)) hown hG.1 hP (hst.1 255 (by decide)) hf166 rfl 41 (by decide) (hts _ (mT wg_1377)) (fun _ h => h) rfl dX11_shown_156 ?_
              refine lv_iload hx hb dX11_shown_159 (lv_at hl 5 rfl) ?_
              refine lv_bipush (v := 7) hx hb dX11_shown_161 (by decide) ?_
              refine lv_iadd hx hb dX11_shown_163 ?_
              refine lv_topi (fun x167 ex167 => ?_)
              have hb168 : In x167 1545 1969 := ex167 ▸ In.add eL105R (⟨by decide, by decide⟩ : In 7 7 7) (by decide) (by decide) (by decide) (by decide)
              have et169 : x167.toInt = r101.toInt + 7 := In.adde ex167 eL105R (k := 7) (by decide) (by decide) (by decide)
              obtain ⟨rw170, hf171, hpi173, hc172⟩ := hT.2.2 16 (by decide)
              have hc172 : PRW 2126 (th 22) (th 20) (th 21) rw170 := hc172
              have hpi173 : ((72 : Int) < (th 22) → (rw170 72).toInt = th 19) := hpi173
              have hin174 : vp_in x167 2126 := In.inb hb168 (by decide) (by decide)
              refine pl_iald hx hb hG.1 hP (hst.1 271 (by decide)) 0 hf171 rfl hin174 dX11_shown_164 ?_
              refine lv_topi (fun x175 ex175 => ?_)
              refine lv_iconst (v := 1) hx hb dX11_shown_165 (by decide) ?_
              have hJ175 : ∀ (zg175_zs : Int) (f_175 : HP) (H : Heap) (locs : List Loc) (ls : Array Slot), (0 ≤ zg175_zs ∧ zg175_zs ≤ 15 + 9 * y68_l4.toInt + 8) → va_P g.1 vwCl (va_pl L f_175) H → va_D A (va_pl L f_175) → va_S A s.heap H locs → TI g ad (gset th 39 zg175_zs) f_175 → (∀ b, b ≠ (ad 255) → b ≠ (ad 277) → f_175 b = f b) → lv_has ls 6 [(0, .ref (ad 255)), (1, .int z1), (2, .int z2), (3, .int x26), (4, .int y68_l4), (5, .int r101)] → W p l e rm_X11_shown s m [.ref (ad 255), .int z1, .int z2].toArray below meth c H locs 0 0 (MQ below (va_Qi (po_X11_shown g ad th L f z1 z2) (PstB g A) A) [.ref (ad 255), .int z1, .int z2].toArray s rm_X11_shown.cells rm_X11_shown.slots A) (F0 m 175 ls []) := by
                intro zg175_zs f_175 H locs ls hzg175 hP hD hS hT hfr hl
                refine lv_aload_n hx hb dX11_shown_175 rfl (lv_at hl 0 rfl) ?_
                refine M0e hT (fun v0_176 v2_176 v3_176 v4_176 v5_176 v6_176 v8_176 v9_176 v12_176 v13_176 v14_176 v15_176 v16_176 v17_176 v18_176 v19_176 v20_176 v21_176 v22_176 v23_176 v25_176 v36_176 v37_176 v38_176 v39_176 v40_176 v45_176 v46_176 v47_176 v48_176 v50_176 v51_176 v53_176 v55_176 hf177 hv0_176 hv2_176 hg2_176 hv3_176 hg3_176 hv4_176 hg4_176 hv5_176 hg5_176 hv6_176 hg6_176 hv8_176 hg8_176 hv9_176 hg9_176 hv12_176 hv13_176 hg13_176 hv14_176 hg14_176 hv15_176 hg15_176 hv17_176 hg17_176 hv20_176 hg20_176 hv23_176 hg23_176 hv25_176 hg25_176 hv36_176 hg36_176 hv47_176 hg47_176 hv48_176 hg48_176 hv53_176 hg53_176 hv55_176 hg55_176 hrel0_176 => ?_)
                have hg15_176 : v15_176.toInt = th 11 := hg15_176
                have hg17_176 : v17_176.toInt = th 12 := hg17_176
                have hg20_176 : v20_176.toInt = th 14 := hg20_176
                refine pl_get (v := .ref (ad 271)) hx hb hts (fun w h => mT (inX11 w h)) hown hG.1 hP (hst.1 255 (by decide)) hf177 rfl 41 (by decide) (hts _ (mT wg_1377)) (fun _ h => h) rfl dX11_shown_176 ?_
                refine lv_bipush (v := 9) hx hb dX11_shown_179 (by decide) ?_
                refine lv_iload hx hb dX11_shown_181 (lv_at hl 4 rfl) ?_
                refine lv_iadd hx hb dX11_shown_183 ?_
                refine lv_topi (fun x178 ex178 => ?_)
                have hb179 : In x178 9 17 := ex178 ▸ In.add (⟨by decide, by decide⟩ : In 9 9 9) hb99 (by decide) (by decide) (by decide) (by decide)
                have et180 : x178.toInt = (9 : Int32).toInt + y68_l4.toInt := In.add2e ex178 (⟨by decide, by decide⟩ : In 9 9 9) hb99 (by decide) (by decide)
                obtain ⟨rw181, hf182, hpi184, hc183⟩ := hT.2.2 16 (by decide)
                have hc183 : PRW 2126 (th 22) (th 20) (th 21) rw181 := hc183
                have hpi184 : ((72 : Int) < (th 22) → (rw181 72).toInt = th 19) := hpi184
                have hin185 : vp_in x178 2126 := In.inb hb179 (by decide) (by decide)
                refine pl_iald hx hb hG.1 hP (hst.1 271 (by decide)) 0 hf182 rfl hin185 dX11_shown_184 ?_
                refine lv_topi (fun x186 ex186 => ?_)
                refine lv_iload_n hx hb dX11_shown_185 rfl (lv_at hl 3 rfl) ?_
                refine call_i (run_S (rm := rm_X11_has) hx hb hml hown hts (s_X11_has l g ad (gset th 39 zg175_zs) _ _ _ x186 x26 hst hT ) cS_X11_has wg_1563 ⟨Nat.le_of_ble_eq_true rfl, Nat.le_of_ble_eq_true rfl⟩ hG hE hA hP hD hS rfl hl.1 (As := [.int x186, .int x26]) (rest := []) rfl (Nat.le_of_ble_eq_true rfl) dX11_shown_186 ⟨Nat.le_of_ble_eq_true rfl, Nat.le_of_ble_eq_true rfl⟩) hA hD hS (fun r187 L188 f189 H locs hp190 hP hD hS => ?_)
                obtain ⟨eL191L, eL191T, eL191R, eL191X0⟩ := hp190
                have eL191L : L188 = L := eL191L
                have eL191T : f189 = f_175 := eL191T
                rw [eL191L, eL191T] at hP hD
                have eL191R : In r187 0 1 := eL191R
                have hJ198 : ∀ (zg198_zs : Int) (f_198 : HP) (H : Heap) (locs : List Loc) (ls : Array Slot), (0 ≤ zg198_zs ∧ zg198_zs ≤ 15 + 9 * y68_l4.toInt + 9) → va_P g.1 vwCl (va_pl L f_198) H → va_D A (va_pl L f_198) → va_S A s.heap H locs → TI g ad (gset th 39 zg198_zs) f_198 → (∀ b, b ≠ (ad 255) → b ≠ (ad 277) → f_198 b = f b) → lv_has ls 6 [(0, .ref (ad 255)), (1, .int z1), (2, .int z2), (3, .int x26), (4, .int y68_l4), (5, .int r101)] → W p l e rm_X11_shown s m [.ref (ad 255), .int z1, .int z2].toArray below meth c H locs 0 0 (MQ below (va_Qi (po_X11_shown g ad th L f z1 z2) (PstB g A) A) [.ref (ad 255), .int z1, .int z2].toArray s rm_X11_shown.cells rm_X11_shown.slots A) (F0 m 198 ls []) := by
                  intro zg198_zs f_198 H locs ls hzg198 hP hD hS hT hfr hl
                  obtain ⟨x192, ex192⟩ : ∃ y : Int32, y = y68_l4 + 1 := ⟨_, rfl⟩
                  have hb193 : In x192 1 9 := ex192 ▸ In.add hb99 (⟨by decide, by decide⟩ : In 1 1 1) (by decide) (by decide) (by decide) (by decide)
                  have et194 : x192.toInt = y68_l4.toInt + 1 := In.adde ex192 hb99 (k := 1) (by decide) (by decide) (by decide)
                  refine lv_iinc (v := x192) (lv' := [(4, .int x192), (0, .ref (ad 255)), (1, .int z1), (2, .int z2), (3, .int x26), (5, .int r101)]) hx hb dX11_shown_198 hl (k := 4) rfl (by rw [ex192]; rfl) (by decide) rfl (fun ls hl => ?_)
                  refine lv_goto (tgt := 68) hx hb dX11_shown_201 (by decide) ?_
                  exact ih68 zg198_zs x192 _ _ _ _ (show (0 ≤ zg198_zs ∧ zg198_zs ≤ 15 + 9 * x192.toInt + 0) from (by have ob10 : (0 : Int) ≤ (th 10) ∧ (th 10) ≤ 1 := (b0_10 hT :); have ob11 : (0 : Int) ≤ (th 11) ∧ (th 11) ≤ 9 := (b0_11 hT :); have ob12 : (0 : Int) ≤ (th 12) ∧ (th 12) ≤ 6 := (b0_12 hT :); have ob14 : (0 : Int) ≤ (th 14) ∧ (th 14) ≤ 511 := (b0_14 hT :); have ob15 : (0 : Int) ≤ (th 15) ∧ (th 15) ≤ 1 := (b0_15 hT :); have ob16 : (0 : Int) ≤ (th 16) ∧ (th 16) ≤ 20 := (b0_16 hT :); have ob17 : (0 : Int) ≤ (th 17) ∧ (th 17) ≤ 1 := (b0_17 hT :); have ob18 : (0 : Int) ≤ (th 18) ∧ (th 18) ≤ 18 := (b0_18 hT :); have ob38 : (0 : Int) ≤ (th 38) ∧ (th 38) ≤ 400 := (b0_38 hT :); have ob39 : (0 : Int) ≤ zg198_zs ∧ zg198_zs ≤ 200 := (b0_39 hT :); have ob44 : (0 : Int) ≤ (th 44) ∧ (th 44) ≤ 30 := (b0_44 hT :); have orn := rnd_b (th 10); obtain ⟨o0a, o0b⟩ := (hb193 : In _ _ _); obtain ⟨o1a, o1b⟩ := (hb24 : In _ _ _); obtain ⟨o3a, o3b⟩ := (hb27 : In _ _ _); obtain ⟨o4a, o4b⟩ := (eL105R : In _ _ _); obtain ⟨o5a, o5b⟩ := (hb99 : In _ _ _); obtain ⟨o6a, o6b⟩ := (hb100 : In _ _ _); omega)) (In.mono hb193 (by decide) (by decide)) hP hD hS (TI.cast hT (by funext q; by_cases hq0 : q = 39; (subst hq0; rfl); simp only [gset, if_neg hq0])) hfr (lv_sub hl [1, 2, 3, 4, 0] rfl) (msu et194 (by decide) hmz68)
                refine lv_if_eq (tgt := 198) hx hb dX11_shown_189 (by decide) (fun c195 => ?_) (fun c195 => ?_)
                ·
                  have oc0 : (0 : Int32).toInt = 0 := by decide
                  have cc196 : r187.toInt = (0 : Int32).toInt := congrArg Int32.toInt c195
                  have hb197 : In r187 0 0 := In.eq1 eL191R (⟨by decide, by decide⟩ : In 0 0 0) cc196 (by decide) (by decide)
                  exact hJ198 zg175_zs _ _ _ _ (show (0 ≤ zg175_zs ∧ zg175_zs ≤ 15 + 9 * y68_l4.toInt + 9) from (by have ob10 : (0 : Int) ≤ (th 10) ∧ (th 10) ≤ 1 := (b0_10 hT :); have ob11 : (0 : Int) ≤ (th 11) ∧ (th 11) ≤ 9 := (b0_11 hT :); have ob12 : (0 : Int) ≤ (th 12) ∧ (th 12) ≤ 6 := (b0_12 hT :); have ob14 : (0 : Int) ≤ (th 14) ∧ (th 14) ≤ 511 := (b0_14 hT :); have ob15 : (0 : Int) ≤ (th 15) ∧ (th 15) ≤ 1 := (b0_15 hT :); have ob16 : (0 : Int) ≤ (th 16) ∧ (th 16) ≤ 20 := (b0_16 hT :); have ob17 : (0 : Int) ≤ (th 17) ∧ (th 17) ≤ 1 := (b0_17 hT :); have ob18 : (0 : Int) ≤ (th 18) ∧ (th 18) ≤ 18 := (b0_18 hT :); have ob38 : (0 : Int) ≤ (th 38) ∧ (th 38) ≤ 400 := (b0_38 hT :); have ob39 : (0 : Int) ≤ zg175_zs ∧ zg175_zs ≤ 200 := (b0_39 hT :); have ob44 : (0 : Int) ≤ (th 44) ∧ (th 44) ≤ 30 := (b0_44 hT :); have orn := rnd_b (th 10); obtain ⟨o0a, o0b⟩ := (hb99 : In _ _ _); obtain ⟨o1a, o1b⟩ := (hb24 : In _ _ _); obtain ⟨o3a, o3b⟩ := (hb27 : In _ _ _); obtain ⟨o4a, o4b⟩ := (eL105R : In _ _ _); obtain ⟨o5a, o5b⟩ := (hv14_176 : In _ _ _); obtain ⟨o6a, o6b⟩ := (hv15_176 : In _ _ _); obtain ⟨o7a, o7b⟩ := (hv17_176 : In _ _ _); obtain ⟨o8a, o8b⟩ := (hv20_176 : In _ _ _); obtain ⟨o9a, o9b⟩ := (hv23_176 : In _ _ _); obtain ⟨o10a, o10b⟩ := (hv25_176 : In _ _ _); obtain ⟨o11a, o11b⟩ := (hv36_176 : In _ _ _); obtain ⟨o12a, o12b⟩ := (hv47_176 : In _ _ _); obtain ⟨o13a, o13b⟩ := (hv48_176 : In _ _ _); obtain ⟨o14a, o14b⟩ := (hv53_176 : In _ _ _); obtain ⟨o15a, o15b⟩ := (hv55_176 : In _ _ _); obtain ⟨o16a, o16b⟩ := (hb100 : In _ _ _); omega)) hP hD hS (TI.cast hT (by funext q; by_cases hq0 : q = 39; (subst hq0; rfl); simp only [gset, if_neg hq0])) hfr (lv_sub hl [0, 1, 2, 3, 4, 5] rfl)
                ·
                  have oc0 : (0 : Int32).toInt = 0 := by decide
                  have cc198 : r187.toInt ≠ (0 : Int32).toInt := i32_ne c195
                  have hb199 : In r187 1 1 := In.ne1 eL191R (⟨by decide, by decide⟩ : In 0 0 0) cc198 (by decide) (by decide)
                  refine lv_aload_n hx hb dX11_shown_192 rfl (lv_at hl 0 rfl) ?_
                  refine lv_bipush (v := 63) hx hb dX11_shown_193 (by decide) ?_
                  refine call_v (run_V (rm := rm_X11_shows) hx hb hml hown hts (s_X11_shows l g ad (gset th 39 zg175_zs) _ _ _ 63 hst hT (show zg175_zs < 200 from (by have ob10 : (0 : Int) ≤ (th 10) ∧ (th 10) ≤ 1 := (b0_10 hT :); have ob11 : (0 : Int) ≤ (th 11) ∧ (th 11) ≤ 9 := (b0_11 hT :); have ob12 : (0 : Int) ≤ (th 12) ∧ (th 12) ≤ 6 := (b0_12 hT :); have ob14 : (0 : Int) ≤ (th 14) ∧ (th 14) ≤ 511 := (b0_14 hT :); have ob15 : (0 : Int) ≤ (th 15) ∧ (th 15) ≤ 1 := (b0_15 hT :); have ob16 : (0 : Int) ≤ (th 16) ∧ (th 16) ≤ 20 := (b0_16 hT :); have ob17 : (0 : Int) ≤ (th 17) ∧ (th 17) ≤ 1 := (b0_17 hT :); have ob18 : (0 : Int) ≤ (th 18) ∧ (th 18) ≤ 18 := (b0_18 hT :); have ob38 : (0 : Int) ≤ (th 38) ∧ (th 38) ≤ 400 := (b0_38 hT :); have ob39 : (0 : Int) ≤ zg175_zs ∧ zg175_zs ≤ 200 := (b0_39 hT :); have ob44 : (0 : Int) ≤ (th 44) ∧ (th 44) ≤ 30 := (b0_44 hT :); have orn := rnd_b (th 10); obtain ⟨o0a, o0b⟩ := (hv14_176 : In _ _ _); obtain ⟨o1a, o1b⟩ := (hv15_176 : In _ _ _); obtain ⟨o2a, o2b⟩ := (hv17_176 : In _ _ _); obtain ⟨o3a, o3b⟩ := (hv20_176 : In _ _ _); obtain ⟨o4a, o4b⟩ := (hv23_176 : In _ _ _); obtain ⟨o5a, o5b⟩ := (hv25_176 : In _ _ _); obtain ⟨o6a, o6b⟩ := (hv36_176 : In _ _ _); obtain ⟨o7a, o7b⟩ := (hv47_176 : In _ _ _); obtain ⟨o8a, o8b⟩ := (hv48_176 : In _ _ _); obtain ⟨o9a, o9b⟩ := (hv53_176 : In _ _ _); obtain ⟨o10a, o10b⟩ := (hv55_176 : In _ _ _); omega))) cV_X11_shows wg_1929 ⟨Nat.le_of_ble_eq_true rfl, Nat.le_of_ble_eq_true rfl⟩ hG hE hA hP hD hS (hst.1 255 (by decide)) hf177 rfl rfl hl.1 (As := [.int 63]) (rest := []) rfl (Nat.le_of_ble_eq_true rfl) dX11_shown_195 ⟨Nat.le_of_ble_eq_true rfl, Nat.le_of_ble_eq_true rfl⟩) hA hD hS (fun L201 f202 H locs hp203 hP hD hS => ?_)
                  obtain ⟨eL204L, eL204T, eL204F⟩ := hp203
                  have eL204L : L201 = L := eL204L
                  rw [eL204L] at hP hD
                  obtain ⟨zz205, hzz205, eL204T⟩ := eL204T
                  have hzz205 : zz205 = zg175_zs + 1 := hzz205
                  have hT : TI g ad (gset (gset th 39 zg175_zs) 39 zz205) f202 := eL204T
                  have hT : TI g ad (gset th 39 zz205) f202 := TI.cast hT (by funext q; by_cases hq0 : q = 39; (subst hq0; rfl); simp only [gset, if_neg hq0])
                  have eL204F : ∀ b, b ≠ (ad 255) → b ≠ (ad 277) → f202 b = f_175 b := eL204F
                  have hfr : (∀ b, b ≠ (ad 255) → b ≠ (ad 277) → f202 b = f b) := fun b z0_ z1_ => (eL204F b z0_ z1_).trans (hfr b z0_ z1_)
                  exact hJ198 zz205 _ _ _ _ (show (0 ≤ zz205 ∧ zz205 ≤ 15 + 9 * y68_l4.toInt + 9) from (by have ob10 : (0 : Int) ≤ (th 10) ∧ (th 10) ≤ 1 := (b0_10 hT :); have ob11 : (0 : Int) ≤ (th 11) ∧ (th 11) ≤ 9 := (b0_11 hT :); have ob12 : (0 : Int) ≤ (th 12) ∧ (th 12) ≤ 6 := (b0_12 hT :); have ob14 : (0 : Int) ≤ (th 14) ∧ (th 14) ≤ 511 := (b0_14 hT :); have ob15 : (0 : Int) ≤ (th 15) ∧ (th 15) ≤ 1 := (b0_15 hT :); have ob16 : (0 : Int) ≤ (th 16) ∧ (th 16) ≤ 20 := (b0_16 hT :); have ob17 : (0 : Int) ≤ (th 17) ∧ (th 17) ≤ 1 := (b0_17 hT :); have ob18 : (0 : Int) ≤ (th 18) ∧ (th 18) ≤ 18 := (b0_18 hT :); have ob38 : (0 : Int) ≤ (th 38) ∧ (th 38) ≤ 400 := (b0_38 hT :); have ob39 : (0 : Int) ≤ zz205 ∧ zz205 ≤ 200 := (b0_39 hT :); have ob44 : (0 : Int) ≤ (th 44) ∧ (th 44) ≤ 30 := (b0_44 hT :); have orn := rnd_b (th 10); obtain ⟨o0a, o0b⟩ := (hb99 : In _ _ _); obtain ⟨o1a, o1b⟩ := (hb24 : In _ _ _); obtain ⟨o3a, o3b⟩ := (hb27 : In _ _ _); obtain ⟨o4a, o4b⟩ := (eL105R : In _ _ _); obtain ⟨o5a, o5b⟩ := (hb100 : In _ _ _); omega)) hP hD hS (TI.cast hT (by funext q; by_cases hq0 : q = 39; (subst hq0; rfl); simp only [gset, if_neg hq0])) hfr (lv_sub hl [0, 1, 2, 3, 4, 5] rfl)
              refine lv_icmp_ne (tgt := 175) hx hb dX11_shown_166 (by decide) (fun c206 => ?_) (fun c206 => ?_)
              ·
                have oc1 : (1 : Int32).toInt = 1 := by decide
                have cc207 : x175.toInt ≠ (1 : Int32).toInt := i32_ne c206
                exact hJ175 zg155_zs _ _ _ _ (show (0 ≤ zg155_zs ∧ zg155_zs ≤ 15 + 9 * y68_l4.toInt + 8) from (by have ob10 : (0 : Int) ≤ (th 10) ∧ (th 10) ≤ 1 := (b0_10 hT :); have ob11 : (0 : Int) ≤ (th 11) ∧ (th 11) ≤ 9 := (b0_11 hT :); have ob12 : (0 : Int) ≤ (th 12) ∧ (th 12) ≤ 6 := (b0_12 hT :); have ob14 : (0 : Int) ≤ (th 14) ∧ (th 14) ≤ 511 := (b0_14 hT :); have ob15 : (0 : Int) ≤ (th 15) ∧ (th 15) ≤ 1 := (b0_15 hT :); have ob16 : (0 : Int) ≤ (th 16) ∧ (th 16) ≤ 20 := (b0_16 hT :); have ob17 : (0 : Int) ≤ (th 17) ∧ (th 17) ≤ 1 := (b0_17 hT :); have ob18 : (0 : Int) ≤ (th 18) ∧ (th 18) ≤ 18 := (b0_18 hT :); have ob38 : (0 : Int) ≤ (th 38) ∧ (th 38) ≤ 400 := (b0_38 hT :); have ob39 : (0 : Int) ≤ zg155_zs ∧ zg155_zs ≤ 200 := (b0_39 hT :); have ob44 : (0 : Int) ≤ (th 44) ∧ (th 44) ≤ 30 := (b0_44 hT :); have orn := rnd_b (th 10); obtain ⟨o0a, o0b⟩ := (hb99 : In _ _ _); obtain ⟨o1a, o1b⟩ := (hb24 : In _ _ _); obtain ⟨o3a, o3b⟩ := (hb27 : In _ _ _); obtain ⟨o4a, o4b⟩ := (eL105R : In _ _ _); obtain ⟨o5a, o5b⟩ := (hv14_165 : In _ _ _); obtain ⟨o6a, o6b⟩ := (hv15_165 : In _ _ _); obtain ⟨o7a, o7b⟩ := (hv17_165 : In _ _ _); obtain ⟨o8a, o8b⟩ := (hv20_165 : In _ _ _); obtain ⟨o9a, o9b⟩ := (hv23_165 : In _ _ _); obtain ⟨o10a, o10b⟩ := (hv25_165 : In _ _ _); obtain ⟨o11a, o11b⟩ := (hv36_165 : In _ _ _); obtain ⟨o12a, o12b⟩ := (hv47_165 : In _ _ _); obtain ⟨o13a, o13b⟩ := (hv48_165 : In _ _ _); obtain ⟨o14a, o14b⟩ := (hv53_165 : In _ _ _); obtain ⟨o15a, o15b⟩ := (hv55_165 : In _ _ _); obtain ⟨o16a, o16b⟩ := (hb100 : In _ _ _); omega)) hP hD hS (TI.cast hT (by funext q; by_cases hq0 : q = 39; (subst hq0; rfl); simp only [gset, if_neg hq0])) hfr (lv_sub hl [0, 1, 2, 3, 4, 5] rfl)
              ·
                have oc1 : (1 : Int32).toInt = 1 := by decide
                have cc208 : x175.toInt = (1 : Int32).toInt := congrArg Int32.toInt c206
                have hb209 : In x175 1 1 := In.eq1 (In.full x175) (⟨by decide, by decide⟩ : In 1 1 1) cc208 (by decide) (by decide)
                refine lv_aload_n hx hb dX11_shown_169 rfl (lv_at hl 0 rfl) ?_
                refine lv_bipush (v := 60) hx hb dX11_shown_170 (by decide) ?_
                refine call_v (run_V (rm := rm_X11_shows) hx hb hml hown hts (s_X11_shows l g ad (gset th 39 zg155_zs) _ _ _ 60 hst hT (show zg155_zs < 200 from (by have ob10 : (0 : Int) ≤ (th 10) ∧ (th 10) ≤ 1 := (b0_10 hT :); have ob11 : (0 : Int) ≤ (th 11) ∧ (th 11) ≤ 9 := (b0_11 hT :); have ob12 : (0 : Int) ≤ (th 12) ∧ (th 12) ≤ 6 := (b0_12 hT :); have ob14 : (0 : Int) ≤ (th 14) ∧ (th 14) ≤ 511 := (b0_14 hT :); have ob15 : (0 : Int) ≤ (th 15) ∧ (th 15) ≤ 1 := (b0_15 hT :); have ob16 : (0 : Int) ≤ (th 16) ∧ (th 16) ≤ 20 := (b0_16 hT :); have ob17 : (0 : Int) ≤ (th 17) ∧ (th 17) ≤ 1 := (b0_17 hT :); have ob18 : (0 : Int) ≤ (th 18) ∧ (th 18) ≤ 18 := (b0_18 hT :); have ob38 : (0 : Int) ≤ (th 38) ∧ (th 38) ≤ 400 := (b0_38 hT :); have ob39 : (0 : Int) ≤ zg155_zs ∧ zg155_zs ≤ 200 := (b0_39 hT :); have ob44 : (0 : Int) ≤ (th 44) ∧ (th 44) ≤ 30 := (b0_44 hT :); have orn := rnd_b (th 10); obtain ⟨o0a, o0b⟩ := (hv14_165 : In _ _ _); obtain ⟨o1a, o1b⟩ := (hv15_165 : In _ _ _); obtain ⟨o2a, o2b⟩ := (hv17_165 : In _ _ _); obtain ⟨o3a, o3b⟩ := (hv20_165 : In _ _ _); obtain ⟨o4a, o4b⟩ := (hv23_165 : In _ _ _); obtain ⟨o5a, o5b⟩ := (hv25_165 : In _ _ _); obtain ⟨o6a, o6b⟩ := (hv36_165 : In _ _ _); obtain ⟨o7a, o7b⟩ := (hv47_165 : In _ _ _); obtain ⟨o8a, o8b⟩ := (hv48_165 : In _ _ _); obtain ⟨o9a, o9b⟩ := (hv53_165 : In _ _ _); obtain ⟨o10a, o10b⟩ := (hv55_165 : In _ _ _); omega))) cV_X11_shows wg_1929 ⟨Nat.le_of_ble_eq_true rfl, Nat.le_of_ble_eq_true rfl⟩ hG hE hA hP hD hS (hst.1 255 (by decide)) hf166 rfl rfl hl.1 (As := [.int 60]) (rest := []) rfl (Nat.le_of_ble_eq_true rfl) dX11_shown_172 ⟨Nat.le_of_ble_eq_true rfl, Nat.le_of_ble_eq_true rfl⟩) hA hD hS (fun L211 f212 H locs hp213 hP hD hS => ?_)
                obtain ⟨eL214L, eL214T, eL214F⟩ := hp213
                have eL214L : L211 = L := eL214L
                rw [eL214L] at hP hD
                obtain ⟨zz215, hzz215, eL214T⟩ := eL214T
                have hzz215 : zz215 = zg155_zs + 1 := hzz215
                have hT : TI g ad (gset (gset th 39 zg155_zs) 39 zz215) f212 := eL214T
                have hT : TI g ad (gset th 39 zz215) f212 := TI.cast hT (by funext q; by_cases hq0 : q = 39; (subst hq0; rfl); simp only [gset, if_neg hq0])
                have eL214F : ∀ b, b ≠ (ad 255) → b ≠ (ad 277) → f212 b = f_155 b := eL214F
                have hfr : (∀ b, b ≠ (ad 255) → b ≠ (ad 277) → f212 b = f b) := fun b z0_ z1_ => (eL214F b z0_ z1_).trans (hfr b z0_ z1_)
                exact hJ175 zz215 _ _ _ _ (show (0 ≤ zz215 ∧ zz215 ≤ 15 + 9 * y68_l4.toInt + 8) from (by have ob10 : (0 : Int) ≤ (th 10) ∧ (th 10) ≤ 1 := (b0_10 hT :); have ob11 : (0 : Int) ≤ (th 11) ∧ (th 11) ≤ 9 := (b0_11 hT :); have ob12 : (0 : Int) ≤ (th 12) ∧ (th 12) ≤ 6 := (b0_12 hT :); have ob14 : (0 : Int) ≤ (th 14) ∧ (th 14) ≤ 511 := (b0_14 hT :); have ob15 : (0 : Int) ≤ (th 15) ∧ (th 15) ≤ 1 := (b0_15 hT :); have ob16 : (0 : Int) ≤ (th 16) ∧ (th 16) ≤ 20 := (b0_16 hT :); have ob17 : (0 : Int) ≤ (th 17) ∧ (th 17) ≤ 1 := (b0_17 hT :); have ob18 : (0 : Int) ≤ (th 18) ∧ (th 18) ≤ 18 := (b0_18 hT :); have ob38 : (0 : Int) ≤ (th 38) ∧ (th 38) ≤ 400 := (b0_38 hT :); have ob39 : (0 : Int) ≤ zz215 ∧ zz215 ≤ 200 := (b0_39 hT :); have ob44 : (0 : Int) ≤ (th 44) ∧ (th 44) ≤ 30 := (b0_44 hT :); have orn := rnd_b (th 10); obtain ⟨o0a, o0b⟩ := (hb99 : In _ _ _); obtain ⟨o1a, o1b⟩ := (hb24 : In _ _ _); obtain ⟨o3a, o3b⟩ := (hb27 : In _ _ _); obtain ⟨o4a, o4b⟩ := (eL105R : In _ _ _); obtain ⟨o5a, o5b⟩ := (hb100 : In _ _ _); omega)) hP hD hS (TI.cast hT (by funext q; by_cases hq0 : q = 39; (subst hq0; rfl); simp only [gset, if_neg hq0])) hfr (lv_sub hl [0, 1, 2, 3, 4, 5] rfl)
            refine lv_icmp_ne (tgt := 155) hx hb dX11_shown_146 (by decide) (fun c216 => ?_) (fun c216 => ?_)
            ·
              have oc1 : (1 : Int32).toInt = 1 := by decide
              have cc217 : x164.toInt ≠ (1 : Int32).toInt := i32_ne c216
              exact hJ155 zz153 _ _ _ _ (show (0 ≤ zz153 ∧ zz153 ≤ 15 + 9 * y68_l4.toInt + 7) from (by have ob10 : (0 : Int) ≤ (th 10) ∧ (th 10) ≤ 1 := (b0_10 hT :); have ob11 : (0 : Int) ≤ (th 11) ∧ (th 11) ≤ 9 := (b0_11 hT :); have ob12 : (0 : Int) ≤ (th 12) ∧ (th 12) ≤ 6 := (b0_12 hT :); have ob14 : (0 : Int) ≤ (th 14) ∧ (th 14) ≤ 511 := (b0_14 hT :); have ob15 : (0 : Int) ≤ (th 15) ∧ (th 15) ≤ 1 := (b0_15 hT :); have ob16 : (0 : Int) ≤ (th 16) ∧ (th 16) ≤ 20 := (b0_16 hT :); have ob17 : (0 : Int) ≤ (th 17) ∧ (th 17) ≤ 1 := (b0_17 hT :); have ob18 : (0 : Int) ≤ (th 18) ∧ (th 18) ≤ 18 := (b0_18 hT :); have ob38 : (0 : Int) ≤ (th 38) ∧ (th 38) ≤ 400 := (b0_38 hT :); have ob39 : (0 : Int) ≤ zz153 ∧ zz153 ≤ 200 := (b0_39 hT :); have ob44 : (0 : Int) ≤ (th 44) ∧ (th 44) ≤ 30 := (b0_44 hT :); have orn := rnd_b (th 10); obtain ⟨o0a, o0b⟩ := (hb99 : In _ _ _); obtain ⟨o1a, o1b⟩ := (hb24 : In _ _ _); obtain ⟨o3a, o3b⟩ := (hb27 : In _ _ _); obtain ⟨o4a, o4b⟩ := (eL105R : In _ _ _); obtain ⟨o5a, o5b⟩ := (hv14_154 : In _ _ _); obtain ⟨o6a, o6b⟩ := (hv15_154 : In _ _ _); obtain ⟨o7a, o7b⟩ := (hv17_154 : In _ _ _); obtain ⟨o8a, o8b⟩ := (hv20_154 : In _ _ _); obtain ⟨o9a, o9b⟩ := (hv23_154 : In _ _ _); obtain ⟨o10a, o10b⟩ := (hv25_154 : In _ _ _); obtain ⟨o11a, o11b⟩ := (hv36_154 : In _ _ _); obtain ⟨o12a, o12b⟩ := (hv47_154 : In _ _ _); obtain ⟨o13a, o13b⟩ := (hv48_154 : In _ _ _); obtain ⟨o14a, o14b⟩ := (hv53_154 : In _ _ _); obtain ⟨o15a, o15b⟩ := (hv55_154 : In _ _ _); obtain ⟨o16a, o16b⟩ := (hb100 : In _ _ _); omega)) hP hD hS (TI.cast hT (by funext q; by_cases hq0 : q = 39; (subst hq0; rfl); simp only [gset, if_neg hq0])) hfr (lv_sub hl [0, 1, 2, 3, 4, 5] rfl)
            ·
              have oc1 : (1 : Int32).toInt = 1 := by decide
              have cc218 : x164.toInt = (1 : Int32).toInt := congrArg Int32.toInt c216
              have hb219 : In x164 1 1 := In.eq1 (In.full x164) (⟨by decide, by decide⟩ : In 1 1 1) cc218 (by decide) (by decide)
              refine lv_aload_n hx hb dX11_shown_149 rfl (lv_at hl 0 rfl) ?_
              refine lv_bipush (v := 33) hx hb dX11_shown_150 (by decide) ?_
              refine call_v (run_V (rm := rm_X11_shows) hx hb hml hown hts (s_X11_shows l g ad (gset th 39 zz153) _ _ _ 33 hst hT (show zz153 < 200 from (by have ob10 : (0 : Int) ≤ (th 10) ∧ (th 10) ≤ 1 := (b0_10 hT :); have ob11 : (0 : Int) ≤ (th 11) ∧ (th 11) ≤ 9 := (b0_11 hT :); have ob12 : (0 : Int) ≤ (th 12) ∧ (th 12) ≤ 6 := (b0_12 hT :); have ob14 : (0 : Int) ≤ (th 14) ∧ (th 14) ≤ 511 := (b0_14 hT :); have ob15 : (0 : Int) ≤ (th 15) ∧ (th 15) ≤ 1 := (b0_15 hT :); have ob16 : (0 : Int) ≤ (th 16) ∧ (th 16) ≤ 20 := (b0_16 hT :); have ob17 : (0 : Int) ≤ (th 17) ∧ (th 17) ≤ 1 := (b0_17 hT :); have ob18 : (0 : Int) ≤ (th 18) ∧ (th 18) ≤ 18 := (b0_18 hT :); have ob38 : (0 : Int) ≤ (th 38) ∧ (th 38) ≤ 400 := (b0_38 hT :); have ob39 : (0 : Int) ≤ zz153 ∧ zz153 ≤ 200 := (b0_39 hT :); have ob44 : (0 : Int) ≤ (th 44) ∧ (th 44) ≤ 30 := (b0_44 hT :); have orn := rnd_b (th 10); obtain ⟨o0a, o0b⟩ := (hv14_154 : In _ _ _); obtain ⟨o1a, o1b⟩ := (hv15_154 : In _ _ _); obtain ⟨o2a, o2b⟩ := (hv17_154 : In _ _ _); obtain ⟨o3a, o3b⟩ := (hv20_154 : In _ _ _); obtain ⟨o4a, o4b⟩ := (hv23_154 : In _ _ _); obtain ⟨o5a, o5b⟩ := (hv25_154 : In _ _ _); obtain ⟨o6a, o6b⟩ := (hv36_154 : In _ _ _); obtain ⟨o7a, o7b⟩ := (hv47_154 : In _ _ _); obtain ⟨o8a, o8b⟩ := (hv48_154 : In _ _ _); obtain ⟨o9a, o9b⟩ := (hv53_154 : In _ _ _); obtain ⟨o10a, o10b⟩ := (hv55_154 : In _ _ _); omega))) cV_X11_shows wg_1929 ⟨Nat.le_of_ble_eq_true rfl, Nat.le_of_ble_eq_true rfl⟩ hG hE hA hP hD hS (hst.1 255 (by decide)) hf155 rfl rfl hl.1 (As := [.int 33]) (rest := []) rfl (Nat.le_of_ble_eq_true rfl) dX11_shown_152 ⟨Nat.le_of_ble_eq_true rfl, Nat.le_of_ble_eq_true rfl⟩) hA hD hS (fun L221 f222 H locs hp223 hP hD hS => ?_)
              obtain ⟨eL224L, eL224T, eL224F⟩ := hp223
              have eL224L : L221 = L := eL224L
              rw [eL224L] at hP hD
              obtain ⟨zz225, hzz225, eL224T⟩ := eL224T
              have hzz225 : zz225 = zz153 + 1 := hzz225
              have hT : TI g ad (gset (gset th 39 zz153) 39 zz225) f222 := eL224T
              have hT : TI g ad (gset th 39 zz225) f222 := TI.cast hT (by funext q; by_cases hq0 : q = 39; (subst hq0; rfl); simp only [gset, if_neg hq0])
              have eL224F : ∀ b, b ≠ (ad 255) → b ≠ (ad 277) → f222 b = f150 b := eL224F
              have hfr : (∀ b, b ≠ (ad 255) → b ≠ (ad 277) → f222 b = f b) := fun b z0_ z1_ => (eL224F b z0_ z1_).trans (hfr b z0_ z1_)
              exact hJ155 zz225 _ _ _ _ (show (0 ≤ zz225 ∧ zz225 ≤ 15 + 9 * y68_l4.toInt + 7) from (by have ob10 : (0 : Int) ≤ (th 10) ∧ (th 10) ≤ 1 := (b0_10 hT :); have ob11 : (0 : Int) ≤ (th 11) ∧ (th 11) ≤ 9 := (b0_11 hT :); have ob12 : (0 : Int) ≤ (th 12) ∧ (th 12) ≤ 6 := (b0_12 hT :); have ob14 : (0 : Int) ≤ (th 14) ∧ (th 14) ≤ 511 := (b0_14 hT :); have ob15 : (0 : Int) ≤ (th 15) ∧ (th 15) ≤ 1 := (b0_15 hT :); have ob16 : (0 : Int) ≤ (th 16) ∧ (th 16) ≤ 20 := (b0_16 hT :); have ob17 : (0 : Int) ≤ (th 17) ∧ (th 17) ≤ 1 := (b0_17 hT :); have ob18 : (0 : Int) ≤ (th 18) ∧ (th 18) ≤ 18 := (b0_18 hT :); have ob38 : (0 : Int) ≤ (th 38) ∧ (th 38) ≤ 400 := (b0_38 hT :); have ob39 : (0 : Int) ≤ zz225 ∧ zz225 ≤ 200 := (b0_39 hT :); have ob44 : (0 : Int) ≤ (th 44) ∧ (th 44) ≤ 30 := (b0_44 hT :); have orn := rnd_b (th 10); obtain ⟨o0a, o0b⟩ := (hb99 : In _ _ _); obtain ⟨o1a, o1b⟩ := (hb24 : In _ _ _); obtain ⟨o3a, o3b⟩ := (hb27 : In _ _ _); obtain ⟨o4a, o4b⟩ := (eL105R : In _ _ _); obtain ⟨o5a, o5b⟩ := (hb100 : In _ _ _); omega)) hP hD hS (TI.cast hT (by funext q; by_cases hq0 : q = 39; (subst hq0; rfl); simp only [gset, if_neg hq0])) hfr (lv_sub hl [0, 1, 2, 3, 4, 5] rfl)
          refine lv_if_ne (tgt := 107) hx hb dX11_shown_98 (by decide) (fun c226 => ?_) (fun c226 => ?_)
          ·
            have oc0 : (0 : Int32).toInt = 0 := by decide
            have cc227 : r115.toInt ≠ (0 : Int32).toInt := i32_ne c226
            have hb228 : In r115 1 1 := In.ne1 eL119R (⟨by decide, by decide⟩ : In 0 0 0) cc227 (by decide) (by decide)
            exact hJ107 zz111 _ _ _ _ (show (0 ≤ zz111 ∧ zz111 ≤ 15 + 9 * y68_l4.toInt + 3) from (by have ob10 : (0 : Int) ≤ (th 10) ∧ (th 10) ≤ 1 := (b0_10 hT :); have ob11 : (0 : Int) ≤ (th 11) ∧ (th 11) ≤ 9 := (b0_11 hT :); have ob12 : (0 : Int) ≤ (th 12) ∧ (th 12) ≤ 6 := (b0_12 hT :); have ob14 : (0 : Int) ≤ (th 14) ∧ (th 14) ≤ 511 := (b0_14 hT :); have ob15 : (0 : Int) ≤ (th 15) ∧ (th 15) ≤ 1 := (b0_15 hT :); have ob16 : (0 : Int) ≤ (th 16) ∧ (th 16) ≤ 20 := (b0_16 hT :); have ob17 : (0 : Int) ≤ (th 17) ∧ (th 17) ≤ 1 := (b0_17 hT :); have ob18 : (0 : Int) ≤ (th 18) ∧ (th 18) ≤ 18 := (b0_18 hT :); have ob38 : (0 : Int) ≤ (th 38) ∧ (th 38) ≤ 400 := (b0_38 hT :); have ob39 : (0 : Int) ≤ zz111 ∧ zz111 ≤ 200 := (b0_39 hT :); have ob44 : (0 : Int) ≤ (th 44) ∧ (th 44) ≤ 30 := (b0_44 hT :); have orn := rnd_b (th 10); obtain ⟨o0a, o0b⟩ := (hb99 : In _ _ _); obtain ⟨o1a, o1b⟩ := (hb24 : In _ _ _); obtain ⟨o3a, o3b⟩ := (hb27 : In _ _ _); obtain ⟨o4a, o4b⟩ := (eL105R : In _ _ _); obtain ⟨o5a, o5b⟩ := (hv14_113 : In _ _ _); obtain ⟨o6a, o6b⟩ := (hv15_113 : In _ _ _); obtain ⟨o7a, o7b⟩ := (hv17_113 : In _ _ _); obtain ⟨o8a, o8b⟩ := (hv20_113 : In _ _ _); obtain ⟨o9a, o9b⟩ := (hv23_113 : In _ _ _); obtain ⟨o10a, o10b⟩ := (hv25_113 : In _ _ _); obtain ⟨o11a, o11b⟩ := (hv36_113 : In _ _ _); obtain ⟨o12a, o12b⟩ := (hv47_113 : In _ _ _); obtain ⟨o13a, o13b⟩ := (hv48_113 : In _ _ _); obtain ⟨o14a, o14b⟩ := (hv53_113 : In _ _ _); obtain ⟨o15a, o15b⟩ := (hv55_113 : In _ _ _); obtain ⟨o16a, o16b⟩ := (hb100 : In _ _ _); omega)) hP hD hS (TI.cast hT (by funext q; by_cases hq0 : q = 39; (subst hq0; rfl); simp only [gset, if_neg hq0])) hfr (lv_sub hl [1, 2, 3, 4, 5, 0] rfl)
          ·
            have oc0 : (0 : Int32).toInt = 0 := by decide
            have cc229 : r115.toInt = (0 : Int32).toInt := congrArg Int32.toInt c226
            have hb230 : In r115 0 0 := In.eq1 eL119R (⟨by decide, by decide⟩ : In 0 0 0) cc229 (by decide) (by decide)
            refine lv_aload_n hx hb dX11_shown_101 rfl (lv_at hl 1 rfl) ?_
            refine lv_bipush (v := 120) hx hb dX11_shown_102 (by decide) ?_
            refine call_v (run_V (rm := rm_X11_shows) hx hb hml hown hts (s_X11_shows l g ad (gset th 39 zz111) _ _ _ 120 hst hT (show zz111 < 200 from (by have ob10 : (0 : Int) ≤ (th 10) ∧ (th 10) ≤ 1 := (b0_10 hT :); have ob11 : (0 : Int) ≤ (th 11) ∧ (th 11) ≤ 9 := (b0_11 hT :); have ob12 : (0 : Int) ≤ (th 12) ∧ (th 12) ≤ 6 := (b0_12 hT :); have ob14 : (0 : Int) ≤ (th 14) ∧ (th 14) ≤ 511 := (b0_14 hT :); have ob15 : (0 : Int) ≤ (th 15) ∧ (th 15) ≤ 1 := (b0_15 hT :); have ob16 : (0 : Int) ≤ (th 16) ∧ (th 16) ≤ 20 := (b0_16 hT :); have ob17 : (0 : Int) ≤ (th 17) ∧ (th 17) ≤ 1 := (b0_17 hT :); have ob18 : (0 : Int) ≤ (th 18) ∧ (th 18) ≤ 18 := (b0_18 hT :); have ob38 : (0 : Int) ≤ (th 38) ∧ (th 38) ≤ 400 := (b0_38 hT :); have ob39 : (0 : Int) ≤ zz111 ∧ zz111 ≤ 200 := (b0_39 hT :); have ob44 : (0 : Int) ≤ (th 44) ∧ (th 44) ≤ 30 := (b0_44 hT :); have orn := rnd_b (th 10); obtain ⟨o0a, o0b⟩ := (hv14_113 : In _ _ _); obtain ⟨o1a, o1b⟩ := (hv15_113 : In _ _ _); obtain ⟨o2a, o2b⟩ := (hv17_113 : In _ _ _); obtain ⟨o3a, o3b⟩ := (hv20_113 : In _ _ _); obtain ⟨o4a, o4b⟩ := (hv23_113 : In _ _ _); obtain ⟨o5a, o5b⟩ := (hv25_113 : In _ _ _); obtain ⟨o6a, o6b⟩ := (hv36_113 : In _ _ _); obtain ⟨o7a, o7b⟩ := (hv47_113 : In _ _ _); obtain ⟨o8a, o8b⟩ := (hv48_113 : In _ _ _); obtain ⟨o9a, o9b⟩ := (hv53_113 : In _ _ _); obtain ⟨o10a, o10b⟩ := (hv55_113 : In _ _ _); omega))) cV_X11_shows wg_1929 ⟨Nat.le_of_ble_eq_true rfl, Nat.le_of_ble_eq_true rfl⟩ hG hE hA hP hD hS (hst.1 255 (by decide)) hf114 rfl rfl hl.1 (As := [.int 120]) (rest := []) rfl (Nat.le_of_ble_eq_true rfl) dX11_shown_104 ⟨Nat.le_of_ble_eq_true rfl, Nat.le_of_ble_eq_true rfl⟩) hA hD hS (fun L232 f233 H locs hp234 hP hD hS => ?_)
            obtain ⟨eL235L, eL235T, eL235F⟩ := hp234
            have eL235L : L232 = L := eL235L
            rw [eL235L] at hP hD
            obtain ⟨zz236, hzz236, eL235T⟩ := eL235T
            have hzz236 : zz236 = zz111 + 1 := hzz236
            have hT : TI g ad (gset (gset th 39 zz111) 39 zz236) f233 := eL235T
            have hT : TI g ad (gset th 39 zz236) f233 := TI.cast hT (by funext q; by_cases hq0 : q = 39; (subst hq0; rfl); simp only [gset, if_neg hq0])
            have eL235F : ∀ b, b ≠ (ad 255) → b ≠ (ad 277) → f233 b = f108 b := eL235F
            have hfr : (∀ b, b ≠ (ad 255) → b ≠ (ad 277) → f233 b = f b) := fun b z0_ z1_ => (eL235F b z0_ z1_).trans (hfr b z0_ z1_)
            exact hJ107 zz236 _ _ _ _ (show (0 ≤ zz236 ∧ zz236 ≤ 15 + 9 * y68_l4.toInt + 3) from (by have ob10 : (0 : Int) ≤ (th 10) ∧ (th 10) ≤ 1 := (b0_10 hT :); have ob11 : (0 : Int) ≤ (th 11) ∧ (th 11) ≤ 9 := (b0_11 hT :); have ob12 : (0 : Int) ≤ (th 12) ∧ (th 12) ≤ 6 := (b0_12 hT :); have ob14 : (0 : Int) ≤ (th 14) ∧ (th 14) ≤ 511 := (b0_14 hT :); have ob15 : (0 : Int) ≤ (th 15) ∧ (th 15) ≤ 1 := (b0_15 hT :); have ob16 : (0 : Int) ≤ (th 16) ∧ (th 16) ≤ 20 := (b0_16 hT :); have ob17 : (0 : Int) ≤ (th 17) ∧ (th 17) ≤ 1 := (b0_17 hT :); have ob18 : (0 : Int) ≤ (th 18) ∧ (th 18) ≤ 18 := (b0_18 hT :); have ob38 : (0 : Int) ≤ (th 38) ∧ (th 38) ≤ 400 := (b0_38 hT :); have ob39 : (0 : Int) ≤ zz236 ∧ zz236 ≤ 200 := (b0_39 hT :); have ob44 : (0 : Int) ≤ (th 44) ∧ (th 44) ≤ 30 := (b0_44 hT :); have orn := rnd_b (th 10); obtain ⟨o0a, o0b⟩ := (hb99 : In _ _ _); obtain ⟨o1a, o1b⟩ := (hb24 : In _ _ _); obtain ⟨o3a, o3b⟩ := (hb27 : In _ _ _); obtain ⟨o4a, o4b⟩ := (eL105R : In _ _ _); obtain ⟨o5a, o5b⟩ := (hb100 : In _ _ _); omega)) hP hD hS (TI.cast hT (by funext q; by_cases hq0 : q = 39; (subst hq0; rfl); simp only [gset, if_neg hq0])) hfr (lv_sub hl [1, 2, 3, 4, 5, 0] rfl)
    exact hJ68 ((9 - (0 : Int32).toInt).toNat + 1) zz70 0 _ _ _ _ (show (0 ≤ zz70 ∧ zz70 ≤ 15 + 9 * (0 : Int32).toInt + 0) from (by have ob10 : (0 : Int) ≤ (th 10) ∧ (th 10) ≤ 1 := (b0_10 hT :); have ob11 : (0 : Int) ≤ (th 11) ∧ (th 11) ≤ 9 := (b0_11 hT :); have ob12 : (0 : Int) ≤ (th 12) ∧ (th 12) ≤ 6 := (b0_12 hT :); have ob14 : (0 : Int) ≤ (th 14) ∧ (th 14) ≤ 511 := (b0_14 hT :); have ob15 : (0 : Int) ≤ (th 15) ∧ (th 15) ≤ 1 := (b0_15 hT :); have ob16 : (0 : Int) ≤ (th 16) ∧ (th 16) ≤ 20 := (b0_16 hT :); have ob17 : (0 : Int) ≤ (th 17) ∧ (th 17) ≤ 1 := (b0_17 hT :); have ob18 : (0 : Int) ≤ (th 18) ∧ (th 18) ≤ 18 := (b0_18 hT :); have ob38 : (0 : Int) ≤ (th 38) ∧ (th 38) ≤ 400 := (b0_38 hT :); have ob39 : (0 : Int) ≤ zz70 ∧ zz70 ≤ 200 := (b0_39 hT :); have ob44 : (0 : Int) ≤ (th 44) ∧ (th 44) ≤ 30 := (b0_44 hT :); have orn := rnd_b (th 10); have oc0 : (0 : Int32).toInt = 0 := (by decide); obtain ⟨o0a, o0b⟩ := (hb24 : In _ _ _); obtain ⟨o2a, o2b⟩ := (hb27 : In _ _ _); omega)) (⟨by decide, by decide⟩ : In 0 0 9) hP hD hS (TI.cast hT (by funext q; by_cases hq0 : q = 39; (subst hq0; rfl); simp only [gset, if_neg hq0])) hfr (lv_sub hl [2, 3, 4, 1, 0] rfl) (msI _)
  ·
    have oc0 : (0 : Int32).toInt = 0 := by decide
    have cc237 : r15.toInt = (0 : Int32).toInt := congrArg Int32.toInt c21
    have hb238 : In r15 0 0 := In.eq1 eL19R (⟨by decide, by decide⟩ : In 0 0 0) cc237 (by decide) (by decide)
    refine lv_iconst (v := (-1)) hx hb dX11_shown_21 (by decide) ?_
    exact ret_i (ty := .int) hx hb hr hlocks (rfl) hP hD hS (Nat.le_of_ble_eq_true rfl) (Nat.le_of_ble_eq_true rfl) (⟨rfl, ⟨th, ⟨(show MI th from hM), (SBM.rf th)⟩, hT⟩, hfr⟩) dX11_shown_22

abbrev rm_X11_mostSuspecting : Room := { frames := 1, cells := 0, slots := 0, locals := 21 }
abbrev po_X11_mostSuspecting (g : GG) (ad : Nat → Nat) (th : Nat → Int) (L : List Nat) (f : HP) (z1 : Int32) : Int32 → (List Nat × HP) → Prop := fun _ u => u.1 = L ∧ u.2 = f
set_option maxHeartbeats 4000000 in
set_option maxRecDepth 100000 in
theorem s_X11_mostSuspecting (l : Launch) (g : GG) (ad : Nat → Nat) (th : Nat → Int) (L : List Nat) (f : HP) (sz : Nat) (z1 : Int32) (hst : ST ad L) (hT : TI g ad th f) (hz1 : In z1 0 1) : MtI l g yX11_mostSuspecting cX11_mostSuspecting 7 (some .int) rm_X11_mostSuspecting [.ref (ad 255), .int z1] L f sz (po_X11_mostSuspecting g ad th L f z1) := by
  refine MtI.of (by decide +kernel) (Nat.le_of_ble_eq_true rfl) ?_
  intro p e s m below meth c A hEn hP hD hS ls hl
  obtain ⟨hx, hb, hr, hml, hown, hlocks, hts, hG, hA, hE, hnm⟩ := hEn
  have hown : s.vm.findClass "RulerWordModel" = some m.cls := hown
  have hl : lv_has ls 7 [(0, .ref (ad 255)), (1, .int z1)] := hl
  refine lv_iconst (v := (-1)) hx hb dX11_mostSuspecting_0 (by decide) ?_
  refine lv_istore_n (lv' := [(2, .int (-1)), (0, .ref (ad 255)), (1, .int z1)]) hx hb dX11_mostSuspecting_1 rfl hl (by decide) rfl (fun ls hl => ?_)
  refine lv_iconst (v := 0) hx hb dX11_mostSuspecting_2 (by decide) ?_
  refine lv_istore_n (lv' := [(3, .int 0), (2, .int (-1)), (0, .ref (ad 255)), (1, .int z1)]) hx hb dX11_mostSuspecting_3 rfl hl (by decide) rfl (fun ls hl => ?_)
  refine lv_iconst (v := 0) hx hb dX11_mostSuspecting_4 (by decide) ?_
  refine lv_istore (lv' := [(4, .int 0), (3, .int 0), (2, .int (-1)), (0, .ref (ad 255)), (1, .int z1)]) hx hb dX11_mostSuspecting_5 hl (by decide) rfl (fun ls hl => ?_)
  have hJ7 : ∀ (k7 : Nat) (y7_l2 : Int32) (y7_l3 : Int32) (y7_l4 : Int32) (H : Heap) (locs : List Loc) (ls : Array Slot), In y7_l2 (-1) 8 → In y7_l3 0 2147483647 → In y7_l4 0 9 → va_P g.1 vwCl (va_pl L f) H → va_D A (va_pl L f) → va_S A s.heap H locs → lv_has ls 7 [(0, .ref (ad 255)), (1, .int z1), (2, .int y7_l2), (3, .int y7_l3), (4, .int y7_l4)] → 9 - y7_l4.toInt < ((k7 : Nat) : Int) → W p l e rm_X11_mostSuspecting s m [.ref (ad 255), .int z1].toArray below meth c H locs 0 0 (MQ below (va_Qi (po_X11_mostSuspecting g ad th L f z1) (PstB g A) A) [.ref (ad 255), .int z1].toArray s rm_X11_mostSuspecting.cells rm_X11_mostSuspecting.slots A) (F0 m 7 ls []) := by
    intro k7
    induction k7 with
    | zero =>
      intro y7_l2 y7_l3 y7_l4 H locs ls hy7_l2 hy7_l3 hy7_l4 hP hD hS hl hmz7
      exact ms0 hy7_l4 hmz7
    | succ k7 ih7 =>
      intro y7_l2 y7_l3 y7_l4 H locs ls hy7_l2 hy7_l3 hy7_l4 hP hD hS hl hmz7
      refine lv_iload hx hb dX11_mostSuspecting_7 (lv_at hl 4 rfl) ?_
      refine lv_aload_n hx hb dX11_mostSuspecting_9 rfl (lv_at hl 0 rfl) ?_
      refine M0e hT (fun v0_1 v2_1 v3_1 v4_1 v5_1 v6_1 v8_1 v9_1 v12_1 v13_1 v14_1 v15_1 v16_1 v17_1 v18_1 v19_1 v20_1 v21_1 v22_1 v23_1 v25_1 v36_1 v37_1 v38_1 v39_1 v40_1 v45_1 v46_1 v47_1 v48_1 v50_1 v51_1 v53_1 v55_1 hf2 hv0_1 hv2_1 hg2_1 hv3_1 hg3_1 hv4_1 hg4_1 hv5_1 hg5_1 hv6_1 hg6_1 hv8_1 hg8_1 hv9_1 hg9_1 hv12_1 hv13_1 hg13_1 hv14_1 hg14_1 hv15_1 hg15_1 hv17_1 hg17_1 hv20_1 hg20_1 hv23_1 hg23_1 hv25_1 hg25_1 hv36_1 hg36_1 hv47_1 hg47_1 hv48_1 hg48_1 hv53_1 hg53_1 hv55_1 hg55_1 hrel0_1 => ?_)
      have hg15_1 : v15_1.toInt = th 11 := hg15_1
      have hg17_1 : v17_1.toInt = th 12 := hg17_1
      have hg20_1 : v20_1.toInt = th 14 := hg20_1
      refine pl_get (v := .int v15_1) hx hb hts (fun w h => mT (inX11 w h)) hown hG.1 hP (hst.1 255 (by decide)) hf2 rfl 15 (by decide) (hts _ (mT wg_1351)) (fun _ h => h) rfl dX11_mostSuspecting_10 ?_
      refine lv_icmp_ge (tgt := 104) hx hb dX11_mostSuspecting_13 (by decide) (fun c3 => ?_) (fun c3 => ?_)
      ·
        refine lv_iload_n hx hb dX11_mostSuspecting_104 rfl (lv_at hl 2 rfl) ?_
        exact ret_i (ty := .int) hx hb hr hlocks (rfl) hP hD hS (Nat.le_of_ble_eq_true rfl) (Nat.le_of_ble_eq_true rfl) (⟨rfl, rfl⟩) dX11_mostSuspecting_105
      ·
        have cc4 : y7_l4.toInt < v15_1.toInt := i32_nle c3
        have hb5 : In y7_l4 0 8 := In.lt1 hy7_l4 hv15_1 cc4 (by omega) (by omega)
        have hb6 : In v15_1 1 9 := In.lt2 hy7_l4 hv15_1 cc4 (by omega) (by omega)
        refine lv_iconst (v := 0) hx hb dX11_mostSuspecting_16 (by decide) ?_
        refine lv_istore (lv' := [(5, .int 0), (0, .ref (ad 255)), (1, .int z1), (2, .int y7_l2), (3, .int y7_l3), (4, .int y7_l4)]) hx hb dX11_mostSuspecting_17 hl (by decide) rfl (fun ls hl => ?_)
        refine lv_iconst (v := 0) hx hb dX11_mostSuspecting_19 (by decide) ?_
        refine lv_istore (lv' := [(6, .int 0), (5, .int 0), (0, .ref (ad 255)), (1, .int z1), (2, .int y7_l2), (3, .int y7_l3), (4, .int y7_l4)]) hx hb dX11_mostSuspecting_20 hl (by decide) rfl (fun ls hl => ?_)
        have hJ22 : ∀ (k22 : Nat) (y22_l5 : Int32) (y22_l6 : Int32) (H : Heap) (locs : List Loc) (ls : Array Slot), In y22_l5 (-2147483648) 2147483647 → In y22_l6 0 9 → va_P g.1 vwCl (va_pl L f) H → va_D A (va_pl L f) → va_S A s.heap H locs → lv_has ls 7 [(0, .ref (ad 255)), (1, .int z1), (2, .int y7_l2), (3, .int y7_l3), (4, .int y7_l4), (5, .int y22_l5), (6, .int y22_l6)] → 9 - y22_l6.toInt < ((k22 : Nat) : Int) → W p l e rm_X11_mostSuspecting s m [.ref (ad 255), .int z1].toArray below meth c H locs 0 0 (MQ below (va_Qi (po_X11_mostSuspecting g ad th L f z1) (PstB g A) A) [.ref (ad 255), .int z1].toArray s rm_X11_mostSuspecting.cells rm_X11_mostSuspecting.slots A) (F0 m 22 ls []) := by
          intro k22
          induction k22 with
          | zero =>
            intro y22_l5 y22_l6 H locs ls hy22_l5 hy22_l6 hP hD hS hl hmz22
            exact ms0 hy22_l6 hmz22
          | succ k22 ih22 =>
            intro y22_l5 y22_l6 H locs ls hy22_l5 hy22_l6 hP hD hS hl hmz22
            refine lv_iload hx hb dX11_mostSuspecting_22 (lv_at hl 6 rfl) ?_
            refine lv_aload_n hx hb dX11_mostSuspecting_24 rfl (lv_at hl 0 rfl) ?_
            refine pl_get (v := .int v15_1) hx hb hts (fun w h => mT (inX11 w h)) hown hG.1 hP (hst.1 255 (by decide)) hf2 rfl 15 (by decide) (hts _ (mT wg_1351)) (fun _ h => h) rfl dX11_mostSuspecting_25 ?_
            refine lv_icmp_ge (tgt := 83) hx hb dX11_mostSuspecting_28 (by decide) (fun c7 => ?_) (fun c7 => ?_)
            ·
              have cc8 : v15_1.toInt ≤ y22_l6.toInt := i32_le.mp c7
              have hb9 : In y22_l6 1 9 := In.ge1 hy22_l6 hb6 cc8 (by omega) (by omega)
              refine lv_iload hx hb dX11_mostSuspecting_83 (lv_at hl 5 rfl) ?_
              refine lv_iload_n hx hb dX11_mostSuspecting_85 rfl (lv_at hl 3 rfl) ?_
              have hJ98 : ∀ (y98_l2 : Int32) (y98_l3 : Int32) (H : Heap) (locs : List Loc) (ls : Array Slot), In y98_l2 (-1) 8 → In y98_l3 0 2147483647 → va_P g.1 vwCl (va_pl L f) H → va_D A (va_pl L f) → va_S A s.heap H locs → lv_has ls 7 [(0, .ref (ad 255)), (1, .int z1), (2, .int y98_l2), (3, .int y98_l3), (4, .int y7_l4), (5, .int y22_l5), (6, .int y22_l6)] → W p l e rm_X11_mostSuspecting s m [.ref (ad 255), .int z1].toArray below meth c H locs 0 0 (MQ below (va_Qi (po_X11_mostSuspecting g ad th L f z1) (PstB g A) A) [.ref (ad 255), .int z1].toArray s rm_X11_mostSuspecting.cells rm_X11_mostSuspecting.slots A) (F0 m 98 ls []) := by
                intro y98_l2 y98_l3 H locs ls hy98_l2 hy98_l3 hP hD hS hl
                obtain ⟨x10, ex10⟩ : ∃ y : Int32, y = y7_l4 + 1 := ⟨_, rfl⟩
                have hb11 : In x10 1 9 := ex10 ▸ In.add hb5 (⟨by decide, by decide⟩ : In 1 1 1) (by decide) (by decide) (by decide) (by decide)
                have et12 : x10.toInt = y7_l4.toInt + 1 := In.adde ex10 hb5 (k := 1) (by decide) (by decide) (by decide)
                refine lv_iinc (v := x10) (lv' := [(4, .int x10), (0, .ref (ad 255)), (1, .int z1), (2, .int y98_l2), (3, .int y98_l3), (5, .int y22_l5), (6, .int y22_l6)]) hx hb dX11_mostSuspecting_98 hl (k := 4) rfl (by rw [ex10]; rfl) (by decide) rfl (fun ls hl => ?_)
                refine lv_goto (tgt := 7) hx hb dX11_mostSuspecting_101 (by decide) ?_
                exact ih7 y98_l2 y98_l3 x10 _ _ _ hy98_l2 hy98_l3 (In.mono hb11 (by decide) (by decide)) hP hD hS (lv_sub hl [1, 2, 3, 4, 0] rfl) (msu et12 (by decide) hmz7)
              refine lv_icmp_gt (tgt := 92) hx hb dX11_mostSuspecting_86 (by decide) (fun c13 => ?_) (fun c13 => ?_)
              ·
                have cc14 : y7_l3.toInt < y22_l5.toInt := i32_lt.mp c13
                have hb15 : In y22_l5 1 2147483647 := In.gt1 hy22_l5 hy7_l3 cc14 (by omega) (by omega)
                have hb16 : In y7_l3 0 2147483646 := In.gt2 hy22_l5 hy7_l3 cc14 (by omega) (by omega)
                refine lv_iload hx hb dX11_mostSuspecting_92 (lv_at hl 5 rfl) ?_
                refine lv_istore_n (lv' := [(3, .int y22_l5), (0, .ref (ad 255)), (1, .int z1), (2, .int y7_l2), (4, .int y7_l4), (5, .int y22_l5), (6, .int y22_l6)]) hx hb dX11_mostSuspecting_94 rfl hl (by decide) rfl (fun ls hl => ?_)
                refine lv_iload hx hb dX11_mostSuspecting_95 (lv_at hl 4 rfl) ?_
                refine lv_istore_n (lv' := [(2, .int y7_l4), (3, .int y22_l5), (0, .ref (ad 255)), (1, .int z1), (4, .int y7_l4), (5, .int y22_l5), (6, .int y22_l6)]) hx hb dX11_mostSuspecting_97 rfl hl (by decide) rfl (fun ls hl => ?_)
                exact hJ98 y7_l4 y22_l5 _ _ _ (In.mono hb5 (by decide) (by decide)) (In.mono hb15 (by decide) (by decide)) hP hD hS (lv_sub hl [2, 3, 0, 1, 4, 5, 6] rfl)
              ·
                refine lv_goto (tgt := 98) hx hb dX11_mostSuspecting_89 (by decide) ?_
                exact hJ98 y7_l2 y7_l3 _ _ _ hy7_l2 hy7_l3 hP hD hS (lv_sub hl [0, 1, 2, 3, 4, 5, 6] rfl)
            ·
              have cc17 : y22_l6.toInt < v15_1.toInt := i32_nle c7
              have hb18 : In y22_l6 0 8 := In.lt1 hy22_l6 hb6 cc17 (by omega) (by omega)
              refine lv_iload hx hb dX11_mostSuspecting_31 (lv_at hl 5 rfl) ?_
              refine lv_aload_n hx hb dX11_mostSuspecting_33 rfl (lv_at hl 0 rfl) ?_
              refine pl_get (v := .ref (ad 271)) hx hb hts (fun w h => mT (inX11 w h)) hown hG.1 hP (hst.1 255 (by decide)) hf2 rfl 41 (by decide) (hts _ (mT wg_1377)) (fun _ h => h) rfl dX11_mostSuspecting_34 ?_
              refine lv_bipush (v := 9) hx hb dX11_mostSuspecting_37 (by decide) ?_
              refine lv_iload_n hx hb dX11_mostSuspecting_39 rfl (lv_at hl 1 rfl) ?_
              have hJ50 : ∀ (y50_s0 : Int32) (H : Heap) (locs : List Loc) (ls : Array Slot), In y50_s0 0 8 → va_P g.1 vwCl (va_pl L f) H → va_D A (va_pl L f) → va_S A s.heap H locs → lv_has ls 7 [(0, .ref (ad 255)), (1, .int z1), (2, .int y7_l2), (3, .int y7_l3), (4, .int y7_l4), (5, .int y22_l5), (6, .int y22_l6)] → W p l e rm_X11_mostSuspecting s m [.ref (ad 255), .int z1].toArray below meth c H locs 0 0 (MQ below (va_Qi (po_X11_mostSuspecting g ad th L f z1) (PstB g A) A) [.ref (ad 255), .int z1].toArray s rm_X11_mostSuspecting.cells rm_X11_mostSuspecting.slots A) (F0 m 50 ls [.int y50_s0, .int 9, .ref (ad 271), .int y22_l5]) := by
                intro y50_s0 H locs ls hy50_s0 hP hD hS hl
                refine lv_iadd hx hb dX11_mostSuspecting_50 ?_
                refine lv_topi (fun x19 ex19 => ?_)
                have hb20 : In x19 9 17 := ex19 ▸ In.add (⟨by decide, by decide⟩ : In 9 9 9) hy50_s0 (by decide) (by decide) (by decide) (by decide)
                have et21 : x19.toInt = (9 : Int32).toInt + y50_s0.toInt := In.add2e ex19 (⟨by decide, by decide⟩ : In 9 9 9) hy50_s0 (by decide) (by decide)
                obtain ⟨rw22, hf23, hpi25, hc24⟩ := hT.2.2 16 (by decide)
                have hc24 : PRW 2126 (th 22) (th 20) (th 21) rw22 := hc24
                have hpi25 : ((72 : Int) < (th 22) → (rw22 72).toInt = th 19) := hpi25
                have hin26 : vp_in x19 2126 := In.inb hb20 (by decide) (by decide)
                refine pl_iald hx hb hG.1 hP (hst.1 271 (by decide)) 0 hf23 rfl hin26 dX11_mostSuspecting_51 ?_
                refine lv_topi (fun x27 ex27 => ?_)
                refine lv_iload_n hx hb dX11_mostSuspecting_52 rfl (lv_at hl 1 rfl) ?_
                have hJ63 : ∀ (y63_s0 : Int32) (H : Heap) (locs : List Loc) (ls : Array Slot), In y63_s0 0 8 → va_P g.1 vwCl (va_pl L f) H → va_D A (va_pl L f) → va_S A s.heap H locs → lv_has ls 7 [(0, .ref (ad 255)), (1, .int z1), (2, .int y7_l2), (3, .int y7_l3), (4, .int y7_l4), (5, .int y22_l5), (6, .int y22_l6)] → W p l e rm_X11_mostSuspecting s m [.ref (ad 255), .int z1].toArray below meth c H locs 0 0 (MQ below (va_Qi (po_X11_mostSuspecting g ad th L f z1) (PstB g A) A) [.ref (ad 255), .int z1].toArray s rm_X11_mostSuspecting.cells rm_X11_mostSuspecting.slots A) (F0 m 63 ls [.int y63_s0, .int x27, .int y22_l5]) := by
                  intro y63_s0 H locs ls hy63_s0 hP hD hS hl
                  refine call_i (run_S (rm := rm_X11_has) hx hb hml hown hts (s_X11_has l g ad th _ _ _ x27 y63_s0 hst hT ) cS_X11_has wg_1563 ⟨Nat.le_of_ble_eq_true rfl, Nat.le_of_ble_eq_true rfl⟩ hG hE hA hP hD hS rfl hl.1 (As := [.int x27, .int y63_s0]) (rest := [.int y22_l5]) rfl (Nat.le_of_ble_eq_true rfl) dX11_mostSuspecting_63 ⟨Nat.le_of_ble_eq_true rfl, Nat.le_of_ble_eq_true rfl⟩) hA hD hS (fun r28 L29 f30 H locs hp31 hP hD hS => ?_)
                  obtain ⟨eL32L, eL32T, eL32R, eL32X0⟩ := hp31
                  have eL32L : L29 = L := eL32L
                  have eL32T : f30 = f := eL32T
                  rw [eL32L, eL32T] at hP hD
                  have eL32R : In r28 0 1 := eL32R
                  have hJ74 : ∀ (y74_s0 : Int32) (H : Heap) (locs : List Loc) (ls : Array Slot), In y74_s0 0 1 → va_P g.1 vwCl (va_pl L f) H → va_D A (va_pl L f) → va_S A s.heap H locs → lv_has ls 7 [(0, .ref (ad 255)), (1, .int z1), (2, .int y7_l2), (3, .int y7_l3), (4, .int y7_l4), (5, .int y22_l5), (6, .int y22_l6)] → W p l e rm_X11_mostSuspecting s m [.ref (ad 255), .int z1].toArray below meth c H locs 0 0 (MQ below (va_Qi (po_X11_mostSuspecting g ad th L f z1) (PstB g A) A) [.ref (ad 255), .int z1].toArray s rm_X11_mostSuspecting.cells rm_X11_mostSuspecting.slots A) (F0 m 74 ls [.int y74_s0, .int y22_l5]) := by
                    intro y74_s0 H locs ls hy74_s0 hP hD hS hl
                    refine lv_iadd hx hb dX11_mostSuspecting_74 ?_
                    refine lv_topi (fun x33 ex33 => ?_)
                    refine lv_istore (lv' := [(5, .int x33), (0, .ref (ad 255)), (1, .int z1), (2, .int y7_l2), (3, .int y7_l3), (4, .int y7_l4), (6, .int y22_l6)]) hx hb dX11_mostSuspecting_75 hl (by decide) rfl (fun ls hl => ?_)
                    obtain ⟨x34, ex34⟩ : ∃ y : Int32, y = y22_l6 + 1 := ⟨_, rfl⟩
                    have hb35 : In x34 1 9 := ex34 ▸ In.add hb18 (⟨by decide, by decide⟩ : In 1 1 1) (by decide) (by decide) (by decide) (by decide)
                    have et36 : x34.toInt = y22_l6.toInt + 1 := In.adde ex34 hb18 (k := 1) (by decide) (by decide) (by decide)
                    refine lv_iinc (v := x34) (lv' := [(6, .int x34), (5, .int x33), (0, .ref (ad 255)), (1, .int z1), (2, .int y7_l2), (3, .int y7_l3), (4, .int y7_l4)]) hx hb dX11_mostSuspecting_77 hl (k := 6) rfl (by rw [ex34]; rfl) (by decide) rfl (fun ls hl => ?_)
                    refine lv_goto (tgt := 22) hx hb dX11_mostSuspecting_80 (by decide) ?_
                    exact ih22 x33 x34 _ _ _ (In.full x33) (In.mono hb35 (by decide) (by decide)) hP hD hS (lv_sub hl [2, 3, 4, 5, 6, 1, 0] rfl) (msu et36 (by decide) hmz22)
                  refine lv_if_eq (tgt := 73) hx hb dX11_mostSuspecting_66 (by decide) (fun c37 => ?_) (fun c37 => ?_)
                  ·
                    have cc38 : r28.toInt = (0 : Int32).toInt := congrArg Int32.toInt c37
                    have hb39 : In r28 0 0 := In.eq1 eL32R (⟨by decide, by decide⟩ : In 0 0 0) cc38 (by omega) (by omega)
                    refine lv_iconst (v := 0) hx hb dX11_mostSuspecting_73 (by decide) ?_
                    exact hJ74 0 _ _ _ (⟨by decide, by decide⟩ : In 0 0 1) hP hD hS (lv_sub hl [0, 1, 2, 3, 4, 5, 6] rfl)
                  ·
                    have cc40 : r28.toInt ≠ (0 : Int32).toInt := i32_ne c37
                    have hb41 : In r28 1 1 := In.ne1 eL32R (⟨by decide, by decide⟩ : In 0 0 0) cc40 (by omega) (by omega)
                    refine lv_iconst (v := 1) hx hb dX11_mostSuspecting_69 (by decide) ?_
                    refine lv_goto (tgt := 74) hx hb dX11_mostSuspecting_70 (by decide) ?_
                    exact hJ74 1 _ _ _ (⟨by decide, by decide⟩ : In 1 0 1) hP hD hS (lv_sub hl [0, 1, 2, 3, 4, 5, 6] rfl)
                refine lv_if_eq (tgt := 61) hx hb dX11_mostSuspecting_53 (by decide) (fun c42 => ?_) (fun c42 => ?_)
                ·
                  have cc43 : z1.toInt = (0 : Int32).toInt := congrArg Int32.toInt c42
                  have hb44 : In z1 0 0 := In.eq1 hz1 (⟨by decide, by decide⟩ : In 0 0 0) cc43 (by omega) (by omega)
                  refine lv_iload hx hb dX11_mostSuspecting_61 (lv_at hl 6 rfl) ?_
                  exact hJ63 y22_l6 _ _ _ hb18 hP hD hS (lv_sub hl [0, 1, 2, 3, 4, 5, 6] rfl)
                ·
                  have cc45 : z1.toInt ≠ (0 : Int32).toInt := i32_ne c42
                  have hb46 : In z1 1 1 := In.ne1 hz1 (⟨by decide, by decide⟩ : In 0 0 0) cc45 (by omega) (by omega)
                  refine lv_iload hx hb dX11_mostSuspecting_56 (lv_at hl 4 rfl) ?_
                  refine lv_goto (tgt := 63) hx hb dX11_mostSuspecting_58 (by decide) ?_
                  exact hJ63 y7_l4 _ _ _ hb5 hP hD hS (lv_sub hl [0, 1, 2, 3, 4, 5, 6] rfl)
              refine lv_if_eq (tgt := 48) hx hb dX11_mostSuspecting_40 (by decide) (fun c47 => ?_) (fun c47 => ?_)
              ·
                have cc48 : z1.toInt = (0 : Int32).toInt := congrArg Int32.toInt c47
                have hb49 : In z1 0 0 := In.eq1 hz1 (⟨by decide, by decide⟩ : In 0 0 0) cc48 (by omega) (by omega)
                refine lv_iload hx hb dX11_mostSuspecting_48 (lv_at hl 4 rfl) ?_
                exact hJ50 y7_l4 _ _ _ hb5 hP hD hS (lv_sub hl [0, 1, 2, 3, 4, 5, 6] rfl)
              ·
                have cc50 : z1.toInt ≠ (0 : Int32).toInt := i32_ne c47
                have hb51 : In z1 1 1 := In.ne1 hz1 (⟨by decide, by decide⟩ : In 0 0 0) cc50 (by omega) (by omega)
                refine lv_iload hx hb dX11_mostSuspecting_43 (lv_at hl 6 rfl) ?_
                refine lv_goto (tgt := 50) hx hb dX11_mostSuspecting_45 (by decide) ?_
                exact hJ50 y22_l6 _ _ _ hb18 hP hD hS (lv_sub hl [0, 1, 2, 3, 4, 5, 6] rfl)
        exact hJ22 ((9 - (0 : Int32).toInt).toNat + 1) 0 0 _ _ _ (⟨by decide, by decide⟩ : In 0 (-2147483648) 2147483647) (⟨by decide, by decide⟩ : In 0 0 9) hP hD hS (lv_sub hl [2, 3, 4, 5, 6, 1, 0] rfl) (msI _)
  exact hJ7 ((9 - (0 : Int32).toInt).toNat + 1) (-1) 0 0 _ _ _ (⟨by decide, by decide⟩ : In (-1) (-1) 8) (⟨by decide, by decide⟩ : In 0 0 2147483647) (⟨by decide, by decide⟩ : In 0 0 9) hP hD hS (lv_sub hl [3, 4, 2, 1, 0] rfl) (msI _)

abbrev rm_X11_trueOf : Room := { frames := 2, cells := 0, slots := 0, locals := 42 }
abbrev po_X11_trueOf (g : GG) (ad : Nat → Nat) (th : Nat → Int) (L : List Nat) (f : HP) (z1 : Int32) (z2 : Int32) (z3 : Int32) : Int32 → (List Nat × HP) → Prop := fun _ u => u.1 = L ∧ u.2 = f
set_option maxHeartbeats 4000000 in
set_option maxRecDepth 100000 in
theorem s_X11_trueOf (l : Launch) (g : GG) (ad : Nat → Nat) (th : Nat → Int) (L : List Nat) (f : HP) (sz : Nat) (z1 : Int32) (z2 : Int32) (z3 : Int32) (hst : ST ad L) (hT : TI g ad th f) (hz1 : In z1 0 5) (hz2 : In z2 0 7) : MtI l g yX11_trueOf cX11_trueOf 6 (some .int) rm_X11_trueOf [.ref (ad 255), .int z1, .int z2, .int z3] L f sz (po_X11_trueOf g ad th L f z1 z2 z3) := by
  refine MtI.of (by decide +kernel) (Nat.le_of_ble_eq_true rfl) ?_
  intro p e s m below meth c A hEn hP hD hS ls hl
  obtain ⟨hx, hb, hr, hml, hown, hlocks, hts, hG, hA, hE, hnm⟩ := hEn
  have hown : s.vm.findClass "RulerWordModel" = some m.cls := hown
  have hl : lv_has ls 6 [(0, .ref (ad 255)), (1, .int z1), (2, .int z2), (3, .int z3)] := hl
  refine lv_iconst (v := 0) hx hb dX11_trueOf_0 (by decide) ?_
  refine lv_istore (lv' := [(4, .int 0), (0, .ref (ad 255)), (1, .int z1), (2, .int z2), (3, .int z3)]) hx hb dX11_trueOf_1 hl (by decide) rfl (fun ls hl => ?_)
  refine lv_iconst (v := 0) hx hb dX11_trueOf_3 (by decide) ?_
  refine lv_istore (lv' := [(5, .int 0), (4, .int 0), (0, .ref (ad 255)), (1, .int z1), (2, .int z2), (3, .int z3)]) hx hb dX11_trueOf_4 hl (by decide) rfl (fun ls hl => ?_)
  have hJ6 : ∀ (k6 : Nat) (y6_l4 : Int32) (y6_l5 : Int32) (H : Heap) (locs : List Loc) (ls : Array Slot), In y6_l4 (-2147483648) 2147483647 → In y6_l5 0 9 → va_P g.1 vwCl (va_pl L f) H → va_D A (va_pl L f) → va_S A s.heap H locs → lv_has ls 6 [(0, .ref (ad 255)), (1, .int z1), (2, .int z2), (3, .int z3), (4, .int y6_l4), (5, .int y6_l5)] → 9 - y6_l5.toInt < ((k6 : Nat) : Int) → W p l e rm_X11_trueOf s m [.ref (ad 255), .int z1, .int z2, .int z3].toArray below meth c H locs 0 0 (MQ below (va_Qi (po_X11_trueOf g ad th L f z1 z2 z3) (PstB g A) A) [.ref (ad 255), .int z1, .int z2, .int z3].toArray s rm_X11_trueOf.cells rm_X11_trueOf.slots A) (F0 m 6 ls []) := by
    intro k6
    induction k6 with
    | zero =>
      intro y6_l4 y6_l5 H locs ls hy6_l4 hy6_l5 hP hD hS hl hmz6
      exact ms0 hy6_l5 hmz6
    | succ k6 ih6 =>
      intro y6_l4 y6_l5 H locs ls hy6_l4 hy6_l5 hP hD hS hl hmz6
      refine lv_iload hx hb dX11_trueOf_6 (lv_at hl 5 rfl) ?_
      refine lv_aload_n hx hb dX11_trueOf_8 rfl (lv_at hl 0 rfl) ?_
      refine M0e hT (fun v0_1 v2_1 v3_1 v4_1 v5_1 v6_1 v8_1 v9_1 v12_1 v13_1 v14_1 v15_1 v16_1 v17_1 v18_1 v19_1 v20_1 v21_1 v22_1 v23_1 v25_1 v36_1 v37_1 v38_1 v39_1 v40_1 v45_1 v46_1 v47_1 v48_1 v50_1 v51_1 v53_1 v55_1 hf2 hv0_1 hv2_1 hg2_1 hv3_1 hg3_1 hv4_1 hg4_1 hv5_1 hg5_1 hv6_1 hg6_1 hv8_1 hg8_1 hv9_1 hg9_1 hv12_1 hv13_1 hg13_1 hv14_1 hg14_1 hv15_1 hg15_1 hv17_1 hg17_1 hv20_1 hg20_1 hv23_1 hg23_1 hv25_1 hg25_1 hv36_1 hg36_1 hv47_1 hg47_1 hv48_1 hg48_1 hv53_1 hg53_1 hv55_1 hg55_1 hrel0_1 => ?_)
      have hg15_1 : v15_1.toInt = th 11 := hg15_1
      have hg17_1 : v17_1.toInt = th 12 := hg17_1
      have hg20_1 : v20_1.toInt = th 14 := hg20_1
      refine pl_get (v := .int v15_1) hx hb hts (fun w h => mT (inX11 w h)) hown hG.1 hP (hst.1 255 (by decide)) hf2 rfl 15 (by decide) (hts _ (mT wg_1351)) (fun _ h => h) rfl dX11_trueOf_9 ?_
      refine lv_icmp_ge (tgt := 57) hx hb dX11_trueOf_12 (by decide) (fun c3 => ?_) (fun c3 => ?_)
      ·
        refine lv_iload hx hb dX11_trueOf_57 (lv_at hl 4 rfl) ?_
        exact ret_i (ty := .int) hx hb hr hlocks (rfl) hP hD hS (Nat.le_of_ble_eq_true rfl) (Nat.le_of_ble_eq_true rfl) (⟨rfl, rfl⟩) dX11_trueOf_59
      ·
        have cc4 : y6_l5.toInt < v15_1.toInt := i32_nle c3
        have hb5 : In y6_l5 0 8 := In.lt1 hy6_l5 hv15_1 cc4 (by omega) (by omega)
        have hb6 : In v15_1 1 9 := In.lt2 hy6_l5 hv15_1 cc4 (by omega) (by omega)
        refine lv_iload hx hb dX11_trueOf_15 (lv_at hl 4 rfl) ?_
        refine lv_aload_n hx hb dX11_trueOf_17 rfl (lv_at hl 0 rfl) ?_
        refine lv_iload hx hb dX11_trueOf_18 (lv_at hl 5 rfl) ?_
        refine call_i (run_V (rm := rm_X11_isTrue) hx hb hml hown hts (s_X11_isTrue l g ad th _ _ _ y6_l5 hst hT ) cV_X11_isTrue wg_1782 ⟨Nat.le_of_ble_eq_true rfl, Nat.le_of_ble_eq_true rfl⟩ hG hE hA hP hD hS (hst.1 255 (by decide)) hf2 rfl rfl hl.1 (As := [.int y6_l5]) (rest := [.int y6_l4]) rfl (Nat.le_of_ble_eq_true rfl) dX11_trueOf_20 ⟨Nat.le_of_ble_eq_true rfl, Nat.le_of_ble_eq_true rfl⟩) hA hD hS (fun r7 L8 f9 H locs hp10 hP hD hS => ?_)
        obtain ⟨eL11L, eL11T, eL11R⟩ := hp10
        have eL11L : L8 = L := eL11L
        have eL11T : f9 = f := eL11T
        rw [eL11L, eL11T] at hP hD
        have eL11R : In r7 0 1 := eL11R
        have hJ48 : ∀ (y48_s0 : Int32) (H : Heap) (locs : List Loc) (ls : Array Slot), In y48_s0 0 1 → va_P g.1 vwCl (va_pl L f) H → va_D A (va_pl L f) → va_S A s.heap H locs → lv_has ls 6 [(0, .ref (ad 255)), (1, .int z1), (2, .int z2), (3, .int z3), (4, .int y6_l4), (5, .int y6_l5)] → W p l e rm_X11_trueOf s m [.ref (ad 255), .int z1, .int z2, .int z3].toArray below meth c H locs 0 0 (MQ below (va_Qi (po_X11_trueOf g ad th L f z1 z2 z3) (PstB g A) A) [.ref (ad 255), .int z1, .int z2, .int z3].toArray s rm_X11_trueOf.cells rm_X11_trueOf.slots A) (F0 m 48 ls [.int y48_s0, .int y6_l4]) := by
          intro y48_s0 H locs ls hy48_s0 hP hD hS hl
          refine lv_iadd hx hb dX11_trueOf_48 ?_
          refine lv_topi (fun x12 ex12 => ?_)
          refine lv_istore (lv' := [(4, .int x12), (0, .ref (ad 255)), (1, .int z1), (2, .int z2), (3, .int z3), (5, .int y6_l5)]) hx hb dX11_trueOf_49 hl (by decide) rfl (fun ls hl => ?_)
          obtain ⟨x13, ex13⟩ : ∃ y : Int32, y = y6_l5 + 1 := ⟨_, rfl⟩
          have hb14 : In x13 1 9 := ex13 ▸ In.add hb5 (⟨by decide, by decide⟩ : In 1 1 1) (by decide) (by decide) (by decide) (by decide)
          have et15 : x13.toInt = y6_l5.toInt + 1 := In.adde ex13 hb5 (k := 1) (by decide) (by decide) (by decide)
          refine lv_iinc (v := x13) (lv' := [(5, .int x13), (4, .int x12), (0, .ref (ad 255)), (1, .int z1), (2, .int z2), (3, .int z3)]) hx hb dX11_trueOf_51 hl (k := 5) rfl (by rw [ex13]; rfl) (by decide) rfl (fun ls hl => ?_)
          refine lv_goto (tgt := 6) hx hb dX11_trueOf_54 (by decide) ?_
          exact ih6 x12 x13 _ _ _ (In.full x12) (In.mono hb14 (by decide) (by decide)) hP hD hS (lv_sub hl [2, 3, 4, 5, 1, 0] rfl) (msu et15 (by decide) hmz6)
        have hJ47 : ∀ (H : Heap) (locs : List Loc) (ls : Array Slot), va_P g.1 vwCl (va_pl L f) H → va_D A (va_pl L f) → va_S A s.heap H locs → lv_has ls 6 [(0, .ref (ad 255)), (1, .int z1), (2, .int z2), (3, .int z3), (4, .int y6_l4), (5, .int y6_l5)] → W p l e rm_X11_trueOf s m [.ref (ad 255), .int z1, .int z2, .int z3].toArray below meth c H locs 0 0 (MQ below (va_Qi (po_X11_trueOf g ad th L f z1 z2 z3) (PstB g A) A) [.ref (ad 255), .int z1, .int z2, .int z3].toArray s rm_X11_trueOf.cells rm_X11_trueOf.slots A) (F0 m 47 ls [.int y6_l4]) := by
          intro H locs ls hP hD hS hl
          refine lv_iconst (v := 0) hx hb dX11_trueOf_47 (by decide) ?_
          exact hJ48 0 _ _ _ (⟨by decide, by decide⟩ : In 0 0 1) hP hD hS (lv_sub hl [0, 1, 2, 3, 4, 5] rfl)
        refine lv_if_eq (tgt := 47) hx hb dX11_trueOf_23 (by decide) (fun c16 => ?_) (fun c16 => ?_)
        ·
          have cc17 : r7.toInt = (0 : Int32).toInt := congrArg Int32.toInt c16
          have hb18 : In r7 0 0 := In.eq1 eL11R (⟨by decide, by decide⟩ : In 0 0 0) cc17 (by omega) (by omega)
          exact hJ47 _ _ _ hP hD hS (lv_sub hl [0, 1, 2, 3, 4, 5] rfl)
        ·
          have cc19 : r7.toInt ≠ (0 : Int32).toInt := i32_ne c16
          have hb20 : In r7 1 1 := In.ne1 eL11R (⟨by decide, by decide⟩ : In 0 0 0) cc19 (by omega) (by omega)
          refine lv_aload_n hx hb dX11_trueOf_26 rfl (lv_at hl 0 rfl) ?_
          refine pl_get (v := .ref (ad 271)) hx hb hts (fun w h => mT (inX11 w h)) hown hG.1 hP (hst.1 255 (by decide)) hf2 rfl 41 (by decide) (hts _ (mT wg_1377)) (fun _ h => h) rfl dX11_trueOf_27 ?_
          refine lv_iload_n hx hb dX11_trueOf_30 rfl (lv_at hl 1 rfl) ?_
          refine lv_iload hx hb dX11_trueOf_31 (lv_at hl 5 rfl) ?_
          refine call_i (run_S (rm := rm_X11_toldAt) hx hb hml hown hts (s_X11_toldAt l g ad th _ _ _ z1 y6_l5 hst hT hz1 hb5) cS_X11_toldAt wg_1699 ⟨Nat.le_of_ble_eq_true rfl, Nat.le_of_ble_eq_true rfl⟩ hG hE hA hP hD hS rfl hl.1 (As := [.int z1, .int y6_l5]) (rest := [.ref (ad 271), .int y6_l4]) rfl (Nat.le_of_ble_eq_true rfl) dX11_trueOf_33 ⟨Nat.le_of_ble_eq_true rfl, Nat.le_of_ble_eq_true rfl⟩) hA hD hS (fun r21 L22 f23 H locs hp24 hP hD hS => ?_)
          obtain ⟨eL25L, eL25T, eL25R⟩ := hp24
          have eL25L : L22 = L := eL25L
          have eL25T : f23 = f := eL25T
          rw [eL25L, eL25T] at hP hD
          have eL25R : In r21 1538 1962 := eL25R
          refine lv_iload_n hx hb dX11_trueOf_36 rfl (lv_at hl 2 rfl) ?_
          refine lv_iadd hx hb dX11_trueOf_37 ?_
          refine lv_topi (fun x26 ex26 => ?_)
          have hb27 : In x26 1538 1969 := ex26 ▸ In.add eL25R hz2 (by decide) (by decide) (by decide) (by decide)
          have et28 : x26.toInt = r21.toInt + z2.toInt := In.add2e ex26 eL25R hz2 (by decide) (by decide)
          obtain ⟨rw29, hf30, hpi32, hc31⟩ := hT.2.2 16 (by decide)
          have hc31 : PRW 2126 (th 22) (th 20) (th 21) rw29 := hc31
          have hpi32 : ((72 : Int) < (th 22) → (rw29 72).toInt = th 19) := hpi32
          have hin33 : vp_in x26 2126 := In.inb hb27 (by decide) (by decide)
          refine pl_iald hx hb hG.1 hP (hst.1 271 (by decide)) 0 hf30 rfl hin33 dX11_trueOf_38 ?_
          refine lv_topi (fun x34 ex34 => ?_)
          refine lv_iload_n hx hb dX11_trueOf_39 rfl (lv_at hl 3 rfl) ?_
          refine lv_icmp_ne (tgt := 47) hx hb dX11_trueOf_40 (by decide) (fun c35 => ?_) (fun c35 => ?_)
          ·
            exact hJ47 _ _ _ hP hD hS (lv_sub hl [0, 1, 2, 3, 4, 5] rfl)
          ·
            refine lv_iconst (v := 1) hx hb dX11_trueOf_43 (by decide) ?_
            refine lv_goto (tgt := 48) hx hb dX11_trueOf_44 (by decide) ?_
            exact hJ48 1 _ _ _ (⟨by decide, by decide⟩ : In 1 0 1) hP hD hS (lv_sub hl [0, 1, 2, 3, 4, 5] rfl)
  exact hJ6 ((9 - (0 : Int32).toInt).toNat + 1) 0 0 _ _ _ (⟨by decide, by decide⟩ : In 0 (-2147483648) 2147483647) (⟨by decide, by decide⟩ : In 0 0 9) hP hD hS (lv_sub hl [2, 3, 4, 5, 1, 0] rfl) (msI _)

abbrev rm_X11_changes : Room := { frames := 2, cells := 0, slots := 0, locals := 43 }
abbrev po_X11_changes (g : GG) (ad : Nat → Nat) (th : Nat → Int) (L : List Nat) (f : HP)  : Int32 → (List Nat × HP) → Prop := fun _ u => u.1 = L ∧ u.2 = f
set_option maxHeartbeats 4000000 in
set_option maxRecDepth 100000 in
theorem s_X11_changes (l : Launch) (g : GG) (ad : Nat → Nat) (th : Nat → Int) (L : List Nat) (f : HP) (sz : Nat)  (hst : ST ad L) (hT : TI g ad th f) (hM : MI th) : MtI l g yX11_changes cX11_changes 4 (some .int) rm_X11_changes [.ref (ad 255)] L f sz (po_X11_changes g ad th L f ) := by
  refine MtI.of (by decide +kernel) (Nat.le_of_ble_eq_true rfl) ?_
  intro p e s m below meth c A hEn hP hD hS ls hl
  obtain ⟨hx, hb, hr, hml, hown, hlocks, hts, hG, hA, hE, hnm⟩ := hEn
  have hown : s.vm.findClass "RulerWordModel" = some m.cls := hown
  have hl : lv_has ls 4 [(0, .ref (ad 255))] := hl
  have hM0 := hM
  obtain ⟨m1, m2, m3, m4, m5, m6, m7, m8, m9, m10⟩ := hM0
  have m20 := mi20 m2 m3
  refine lv_iconst (v := 0) hx hb dX11_changes_0 (by decide) ?_
  refine lv_istore_n (lv' := [(1, .int 0), (0, .ref (ad 255))]) hx hb dX11_changes_1 rfl hl (by decide) rfl (fun ls hl => ?_)
  refine lv_iconst (v := 0) hx hb dX11_changes_2 (by decide) ?_
  refine lv_istore_n (lv' := [(2, .int 0), (1, .int 0), (0, .ref (ad 255))]) hx hb dX11_changes_3 rfl hl (by decide) rfl (fun ls hl => ?_)
  have hJ4 : ∀ (k4 : Nat) (y4_l1 : Int32) (y4_l2 : Int32) (H : Heap) (locs : List Loc) (ls : Array Slot), In y4_l1 (-2147483648) 2147483647 → In y4_l2 0 6 → va_P g.1 vwCl (va_pl L f) H → va_D A (va_pl L f) → va_S A s.heap H locs → lv_has ls 4 [(0, .ref (ad 255)), (1, .int y4_l1), (2, .int y4_l2)] → 6 - y4_l2.toInt < ((k4 : Nat) : Int) → W p l e rm_X11_changes s m [.ref (ad 255)].toArray below meth c H locs 0 0 (MQ below (va_Qi (po_X11_changes g ad th L f ) (PstB g A) A) [.ref (ad 255)].toArray s rm_X11_changes.cells rm_X11_changes.slots A) (F0 m 4 ls []) := by
    intro k4
    induction k4 with
    | zero =>
      intro y4_l1 y4_l2 H locs ls hy4_l1 hy4_l2 hP hD hS hl hmz4
      exact ms0 hy4_l2 hmz4
    | succ k4 ih4 =>
      intro y4_l1 y4_l2 H locs ls hy4_l1 hy4_l2 hP hD hS hl hmz4
      refine lv_iload_n hx hb dX11_changes_4 rfl (lv_at hl 2 rfl) ?_
      refine lv_aload_n hx hb dX11_changes_5 rfl (lv_at hl 0 rfl) ?_
      refine M0e hT (fun v0_1 v2_1 v3_1 v4_1 v5_1 v6_1 v8_1 v9_1 v12_1 v13_1 v14_1 v15_1 v16_1 v17_1 v18_1 v19_1 v20_1 v21_1 v22_1 v23_1 v25_1 v36_1 v37_1 v38_1 v39_1 v40_1 v45_1 v46_1 v47_1 v48_1 v50_1 v51_1 v53_1 v55_1 hf2 hv0_1 hv2_1 hg2_1 hv3_1 hg3_1 hv4_1 hg4_1 hv5_1 hg5_1 hv6_1 hg6_1 hv8_1 hg8_1 hv9_1 hg9_1 hv12_1 hv13_1 hg13_1 hv14_1 hg14_1 hv15_1 hg15_1 hv17_1 hg17_1 hv20_1 hg20_1 hv23_1 hg23_1 hv25_1 hg25_1 hv36_1 hg36_1 hv47_1 hg47_1 hv48_1 hg48_1 hv53_1 hg53_1 hv55_1 hg55_1 hrel0_1 => ?_)
      have hg15_1 : v15_1.toInt = th 11 := hg15_1
      have hg17_1 : v17_1.toInt = th 12 := hg17_1
      have hg20_1 : v20_1.toInt = th 14 := hg20_1
      refine call_i (run_V (rm := rm_X11_over) hx hb hml hown hts (s_X11_over l g ad th _ _ _  hst hT (show MI th from hM)) cV_X11_over wg_1769 ⟨Nat.le_of_ble_eq_true rfl, Nat.le_of_ble_eq_true rfl⟩ hG hE hA hP hD hS (hst.1 255 (by decide)) hf2 rfl rfl hl.1 (As := []) (rest := [.int y4_l2]) rfl (Nat.le_of_ble_eq_true rfl) dX11_changes_6 ⟨Nat.le_of_ble_eq_true rfl, Nat.le_of_ble_eq_true rfl⟩) hA hD hS (fun r3 L4 f5 H locs hp6 hP hD hS => ?_)
      obtain ⟨eL7L, eL7T, eL7R, eL7X0⟩ := hp6
      have eL7L : L4 = L := eL7L
      have eL7T : f5 = f := eL7T
      rw [eL7L, eL7T] at hP hD
      have eL7R : In r3 0 6 := eL7R
      have hcl8 : r3.toInt = 0 ∨ th 15 = 1 := eL7X0
      refine lv_icmp_ge (tgt := 67) hx hb dX11_changes_9 (by decide) (fun c9 => ?_) (fun c9 => ?_)
      ·
        have cc10 : r3.toInt ≤ y4_l2.toInt := i32_le.mp c9
        refine lv_iload_n hx hb dX11_changes_67 rfl (lv_at hl 1 rfl) ?_
        exact ret_i (ty := .int) hx hb hr hlocks (rfl) hP hD hS (Nat.le_of_ble_eq_true rfl) (Nat.le_of_ble_eq_true rfl) (⟨rfl, rfl⟩) dX11_changes_68
      ·
        have cc11 : y4_l2.toInt < r3.toInt := i32_nle c9
        have hb12 : In y4_l2 0 5 := In.lt1 hy4_l2 eL7R cc11 (by decide) (by decide)
        have hb13 : In r3 1 6 := In.lt2 hy4_l2 eL7R cc11 (by decide) (by decide)
        refine lv_iconst (v := 0) hx hb dX11_changes_12 (by decide) ?_
        refine lv_istore_n (lv' := [(3, .int 0), (0, .ref (ad 255)), (1, .int y4_l1), (2, .int y4_l2)]) hx hb dX11_changes_13 rfl hl (by decide) rfl (fun ls hl => ?_)
        have hJ14 : ∀ (k14 : Nat) (y14_l1 : Int32) (y14_l3 : Int32) (H : Heap) (locs : List Loc) (ls : Array Slot), In y14_l1 (-2147483648) 2147483647 → In y14_l3 0 9 → va_P g.1 vwCl (va_pl L f) H → va_D A (va_pl L f) → va_S A s.heap H locs → lv_has ls 4 [(0, .ref (ad 255)), (1, .int y14_l1), (2, .int y4_l2), (3, .int y14_l3)] → 9 - y14_l3.toInt < ((k14 : Nat) : Int) → W p l e rm_X11_changes s m [.ref (ad 255)].toArray below meth c H locs 0 0 (MQ below (va_Qi (po_X11_changes g ad th L f ) (PstB g A) A) [.ref (ad 255)].toArray s rm_X11_changes.cells rm_X11_changes.slots A) (F0 m 14 ls []) := by
          intro k14
          induction k14 with
          | zero =>
            intro y14_l1 y14_l3 H locs ls hy14_l1 hy14_l3 hP hD hS hl hmz14
            exact ms0 hy14_l3 hmz14
          | succ k14 ih14 =>
            intro y14_l1 y14_l3 H locs ls hy14_l1 hy14_l3 hP hD hS hl hmz14
            refine lv_iload_n hx hb dX11_changes_14 rfl (lv_at hl 3 rfl) ?_
            refine lv_aload_n hx hb dX11_changes_15 rfl (lv_at hl 0 rfl) ?_
            refine pl_get (v := .int v15_1) hx hb hts (fun w h => mT (inX11 w h)) hown hG.1 hP (hst.1 255 (by decide)) hf2 rfl 15 (by decide) (hts _ (mT wg_1351)) (fun _ h => h) rfl dX11_changes_16 ?_
            refine lv_icmp_ge (tgt := 61) hx hb dX11_changes_19 (by decide) (fun c14 => ?_) (fun c14 => ?_)
            ·
              have cc15 : v15_1.toInt ≤ y14_l3.toInt := i32_le.mp c14
              obtain ⟨x16, ex16⟩ : ∃ y : Int32, y = y4_l2 + 1 := ⟨_, rfl⟩
              have hb17 : In x16 1 6 := ex16 ▸ In.add hb12 (⟨by decide, by decide⟩ : In 1 1 1) (by decide) (by decide) (by decide) (by decide)
              have et18 : x16.toInt = y4_l2.toInt + 1 := In.adde ex16 hb12 (k := 1) (by decide) (by decide) (by decide)
              refine lv_iinc (v := x16) (lv' := [(2, .int x16), (0, .ref (ad 255)), (1, .int y14_l1), (3, .int y14_l3)]) hx hb dX11_changes_61 hl (k := 2) rfl (by rw [ex16]; rfl) (by decide) rfl (fun ls hl => ?_)
              refine lv_goto (tgt := 4) hx hb dX11_changes_64 (by decide) ?_
              exact ih4 y14_l1 x16 _ _ _ hy14_l1 (In.mono hb17 (by decide) (by decide)) hP hD hS (lv_sub hl [1, 2, 0] rfl) (msu et18 (by decide) hmz4)
            ·
              have cc19 : y14_l3.toInt < v15_1.toInt := i32_nle c14
              have hb20 : In y14_l3 0 8 := In.lt1 hy14_l3 hv15_1 cc19 (by decide) (by decide)
              have hb21 : In v15_1 1 9 := In.lt2 hy14_l3 hv15_1 cc19 (by decide) (by decide)
              refine lv_iload_n hx hb dX11_changes_22 rfl (lv_at hl 1 rfl) ?_
              refine lv_aload_n hx hb dX11_changes_23 rfl (lv_at hl 0 rfl) ?_
              refine lv_iload_n hx hb dX11_changes_24 rfl (lv_at hl 3 rfl) ?_
              refine call_i (run_V (rm := rm_X11_isTrue) hx hb hml hown hts (s_X11_isTrue l g ad th _ _ _ y14_l3 hst hT ) cV_X11_isTrue wg_1782 ⟨Nat.le_of_ble_eq_true rfl, Nat.le_of_ble_eq_true rfl⟩ hG hE hA hP hD hS (hst.1 255 (by decide)) hf2 rfl rfl hl.1 (As := [.int y14_l3]) (rest := [.int y14_l1]) rfl (Nat.le_of_ble_eq_true rfl) dX11_changes_25 ⟨Nat.le_of_ble_eq_true rfl, Nat.le_of_ble_eq_true rfl⟩) hA hD hS (fun r22 L23 f24 H locs hp25 hP hD hS => ?_)
              obtain ⟨eL26L, eL26T, eL26R⟩ := hp25
              have eL26L : L23 = L := eL26L
              have eL26T : f24 = f := eL26T
              rw [eL26L, eL26T] at hP hD
              have eL26R : In r22 0 1 := eL26R
              have hJ53 : ∀ (y53_s0 : Int32) (H : Heap) (locs : List Loc) (ls : Array Slot), In y53_s0 0 1 → va_P g.1 vwCl (va_pl L f) H → va_D A (va_pl L f) → va_S A s.heap H locs → lv_has ls 4 [(0, .ref (ad 255)), (1, .int y14_l1), (2, .int y4_l2), (3, .int y14_l3)] → W p l e rm_X11_changes s m [.ref (ad 255)].toArray below meth c H locs 0 0 (MQ below (va_Qi (po_X11_changes g ad th L f ) (PstB g A) A) [.ref (ad 255)].toArray s rm_X11_changes.cells rm_X11_changes.slots A) (F0 m 53 ls [.int y53_s0, .int y14_l1]) := by
                intro y53_s0 H locs ls hy53_s0 hP hD hS hl
                refine lv_iadd hx hb dX11_changes_53 ?_
                refine lv_topi (fun x27 ex27 => ?_)
                refine lv_istore_n (lv' := [(1, .int x27), (0, .ref (ad 255)), (2, .int y4_l2), (3, .int y14_l3)]) hx hb dX11_changes_54 rfl hl (by decide) rfl (fun ls hl => ?_)
                obtain ⟨x28, ex28⟩ : ∃ y : Int32, y = y14_l3 + 1 := ⟨_, rfl⟩
                have hb29 : In x28 1 9 := ex28 ▸ In.add hb20 (⟨by decide, by decide⟩ : In 1 1 1) (by decide) (by decide) (by decide) (by decide)
                have et30 : x28.toInt = y14_l3.toInt + 1 := In.adde ex28 hb20 (k := 1) (by decide) (by decide) (by decide)
                refine lv_iinc (v := x28) (lv' := [(3, .int x28), (1, .int x27), (0, .ref (ad 255)), (2, .int y4_l2)]) hx hb dX11_changes_55 hl (k := 3) rfl (by rw [ex28]; rfl) (by decide) rfl (fun ls hl => ?_)
                refine lv_goto (tgt := 14) hx hb dX11_changes_58 (by decide) ?_
                exact ih14 x27 x28 _ _ _ (In.full x27) (In.mono hb29 (by decide) (by decide)) hP hD hS (lv_sub hl [2, 1, 3, 0] rfl) (msu et30 (by decide) hmz14)
              have hJ52 : ∀ (H : Heap) (locs : List Loc) (ls : Array Slot), va_P g.1 vwCl (va_pl L f) H → va_D A (va_pl L f) → va_S A s.heap H locs → lv_has ls 4 [(0, .ref (ad 255)), (1, .int y14_l1), (2, .int y4_l2), (3, .int y14_l3)] → W p l e rm_X11_changes s m [.ref (ad 255)].toArray below meth c H locs 0 0 (MQ below (va_Qi (po_X11_changes g ad th L f ) (PstB g A) A) [.ref (ad 255)].toArray s rm_X11_changes.cells rm_X11_changes.slots A) (F0 m 52 ls [.int y14_l1]) := by
                intro H locs ls hP hD hS hl
                refine lv_iconst (v := 0) hx hb dX11_changes_52 (by decide) ?_
                exact hJ53 0 _ _ _ (⟨by decide, by decide⟩ : In 0 0 1) hP hD hS (lv_sub hl [0, 1, 2, 3] rfl)
              refine lv_if_eq (tgt := 52) hx hb dX11_changes_28 (by decide) (fun c31 => ?_) (fun c31 => ?_)
              ·
                have oc0 : (0 : Int32).toInt = 0 := by decide
                have cc32 : r22.toInt = (0 : Int32).toInt := congrArg Int32.toInt c31
                have hb33 : In r22 0 0 := In.eq1 eL26R (⟨by decide, by decide⟩ : In 0 0 0) cc32 (by decide) (by decide)
                exact hJ52 _ _ _ hP hD hS (lv_sub hl [0, 1, 2, 3] rfl)
              ·
                have oc0 : (0 : Int32).toInt = 0 := by decide
                have cc34 : r22.toInt ≠ (0 : Int32).toInt := i32_ne c31
                have hb35 : In r22 1 1 := In.ne1 eL26R (⟨by decide, by decide⟩ : In 0 0 0) cc34 (by decide) (by decide)
                refine lv_aload_n hx hb dX11_changes_31 rfl (lv_at hl 0 rfl) ?_
                refine lv_iload_n hx hb dX11_changes_32 rfl (lv_at hl 2 rfl) ?_
                refine lv_iload_n hx hb dX11_changes_33 rfl (lv_at hl 3 rfl) ?_
                refine call_i (run_V (rm := rm_X11_heldBehind) hx hb hml hown hts (s_X11_heldBehind l g ad th _ _ _ y4_l2 y14_l3 hst hT (In.mono hb12 (by decide) (by decide)) hb20) cV_X11_heldBehind wg_1786 ⟨Nat.le_of_ble_eq_true rfl, Nat.le_of_ble_eq_true rfl⟩ hG hE hA hP hD hS (hst.1 255 (by decide)) hf2 rfl rfl hl.1 (As := [.int y4_l2, .int y14_l3]) (rest := [.int y14_l1]) rfl (Nat.le_of_ble_eq_true rfl) dX11_changes_34 ⟨Nat.le_of_ble_eq_true rfl, Nat.le_of_ble_eq_true rfl⟩) hA hD hS (fun r36 L37 f38 H locs hp39 hP hD hS => ?_)
                obtain ⟨eL40L, eL40T⟩ := hp39
                have eL40L : L37 = L := eL40L
                have eL40T : f38 = f := eL40T
                rw [eL40L, eL40T] at hP hD
                refine lv_aload_n hx hb dX11_changes_37 rfl (lv_at hl 0 rfl) ?_
                refine lv_iload_n hx hb dX11_changes_38 rfl (lv_at hl 2 rfl) ?_
                refine lv_iconst (v := 1) hx hb dX11_changes_39 (by decide) ?_
                refine lv_isub hx hb dX11_changes_40 ?_
                refine lv_topi (fun x41 ex41 => ?_)
                have hb42 : In x41 (-1) 4 := ex41 ▸ In.sub hb12 (⟨by decide, by decide⟩ : In 1 1 1) (by decide) (by decide) (by decide) (by decide)
                have et43 : x41.toInt = y4_l2.toInt + (-1) := In.sube ex41 hb12 (k := 1) (by decide) (by decide) (by decide)
                refine lv_iload_n hx hb dX11_changes_41 rfl (lv_at hl 3 rfl) ?_
                refine call_i (run_V (rm := rm_X11_heldBehind) hx hb hml hown hts (s_X11_heldBehind l g ad th _ _ _ x41 y14_l3 hst hT (In.mono hb42 (by decide) (by decide)) hb20) cV_X11_heldBehind wg_1786 ⟨Nat.le_of_ble_eq_true rfl, Nat.le_of_ble_eq_true rfl⟩ hG hE hA hP hD hS (hst.1 255 (by decide)) hf2 rfl rfl hl.1 (As := [.int x41, .int y14_l3]) (rest := [.int r36, .int y14_l1]) rfl (Nat.le_of_ble_eq_true rfl) dX11_changes_42 ⟨Nat.le_of_ble_eq_true rfl, Nat.le_of_ble_eq_true rfl⟩) hA hD hS (fun r44 L45 f46 H locs hp47 hP hD hS => ?_)
                obtain ⟨eL48L, eL48T⟩ := hp47
                have eL48L : L45 = L := eL48L
                have eL48T : f46 = f := eL48T
                rw [eL48L, eL48T] at hP hD
                refine lv_icmp_eq (tgt := 52) hx hb dX11_changes_45 (by decide) (fun c49 => ?_) (fun c49 => ?_)
                ·
                  have cc50 : r36.toInt = r44.toInt := congrArg Int32.toInt c49
                  exact hJ52 _ _ _ hP hD hS (lv_sub hl [0, 1, 2, 3] rfl)
                ·
                  have cc51 : r36.toInt ≠ r44.toInt := i32_ne c49
                  refine lv_iconst (v := 1) hx hb dX11_changes_48 (by decide) ?_
                  refine lv_goto (tgt := 53) hx hb dX11_changes_49 (by decide) ?_
                  exact hJ53 1 _ _ _ (⟨by decide, by decide⟩ : In 1 0 1) hP hD hS (lv_sub hl [0, 1, 2, 3] rfl)
        exact hJ14 ((9 - (0 : Int32).toInt).toNat + 1) y4_l1 0 _ _ _ hy4_l1 (⟨by decide, by decide⟩ : In 0 0 9) hP hD hS (lv_sub hl [1, 2, 3, 0] rfl) (msI _)
  exact hJ4 ((6 - (0 : Int32).toInt).toNat + 1) 0 0 _ _ _ (⟨by decide, by decide⟩ : In 0 (-2147483648) 2147483647) (⟨by decide, by decide⟩ : In 0 0 6) hP hD hS (lv_sub hl [2, 1, 0] rfl) (msI _)

abbrev rm_X11_most : Room := { frames := 3, cells := 0, slots := 0, locals := 67 }
abbrev po_X11_most (g : GG) (ad : Nat → Nat) (th : Nat → Int) (L : List Nat) (f : HP) (z1 : Int32) : Int32 → (List Nat × HP) → Prop := fun r u => u.1 = L ∧ TI g ad th u.2 ∧ (∀ b, b ≠ (ad 255) → u.2 b = f b)
set_option maxHeartbeats 4000000 in
set_option maxRecDepth 100000 in
theorem s_X11_most (l : Launch) (g : GG) (ad : Nat → Nat) (th : Nat → Int) (L : List Nat) (f : HP) (sz : Nat) (z1 : Int32) (hst : ST ad L) (hT : TI g ad th f) (hM : MI th) : MtI l g yX11_most cX11_most 5 (some .int) rm_X11_most [.ref (ad 255), .int z1] L f sz (po_X11_most g ad th L f z1) := by
  refine MtI.of (by decide +kernel) (Nat.le_of_ble_eq_true rfl) ?_
  intro p e s m below meth c A hEn hP hD hS ls hl
  obtain ⟨hx, hb, hr, hml, hown, hlocks, hts, hG, hA, hE, hnm⟩ := hEn
  have hown : s.vm.findClass "RulerWordModel" = some m.cls := hown
  have hl : lv_has ls 5 [(0, .ref (ad 255)), (1, .int z1)] := hl
  have hfr : (∀ b, b ≠ (ad 255) → f b = f b) := fun b z0_ => rfl
  have hM0 := hM
  obtain ⟨m1, m2, m3, m4, m5, m6, m7, m8, m9, m10⟩ := hM0
  have m20 := mi20 m2 m3
  refine lv_aload_n hx hb dX11_most_0 rfl (lv_at hl 0 rfl) ?_
  refine lv_iconst (v := 0) hx hb dX11_most_1 (by decide) ?_
  refine M0e hT (fun v0_1 v2_1 v3_1 v4_1 v5_1 v6_1 v8_1 v9_1 v12_1 v13_1 v14_1 v15_1 v16_1 v17_1 v18_1 v19_1 v20_1 v21_1 v22_1 v23_1 v25_1 v36_1 v37_1 v38_1 v39_1 v40_1 v45_1 v46_1 v47_1 v48_1 v50_1 v51_1 v53_1 v55_1 hf2 hv0_1 hv2_1 hg2_1 hv3_1 hg3_1 hv4_1 hg4_1 hv5_1 hg5_1 hv6_1 hg6_1 hv8_1 hg8_1 hv9_1 hg9_1 hv12_1 hv13_1 hg13_1 hv14_1 hg14_1 hv15_1 hg15_1 hv17_1 hg17_1 hv20_1 hg20_1 hv23_1 hg23_1 hv25_1 hg25_1 hv36_1 hg36_1 hv47_1 hg47_1 hv48_1 hg48_1 hv53_1 hg53_1 hv55_1 hg55_1 hrel0_1 => ?_)
  have hg15_1 : v15_1.toInt = th 11 := hg15_1
  have hg17_1 : v17_1.toInt = th 12 := hg17_1
  have hg20_1 : v20_1.toInt = th 14 := hg20_1
  refine pl_put (ty := .int) (v := .int 0) (fs' := [.int 0, .ref (ad 256), .int v2_1, .int v3_1, .int v4_1, .int v5_1, .int v6_1, .ref (ad 257), .int v8_1, .int v9_1, .ref (ad 258), .ref (ad 259), .int v12_1, .int v13_1, .int v14_1, .int v15_1, .int v16_1, .int v17_1, .int v18_1, .int v19_1, .int v20_1, .long v21_1, .long v22_1, .int v23_1, .ref (ad 260), .int v25_1, .ref (ad 261), .ref (ad 262), .ref (ad 263), .ref (ad 264), .ref (ad 265), .ref (ad 266), .ref (ad 267), .ref (ad 268), .ref (ad 269), .ref (ad 270), .int v36_1, .int v37_1, .int v38_1, .int v39_1, .int v40_1, .ref (ad 271), .ref (ad 272), .ref (ad 273), .ref (ad 274), .long v45_1, .long v46_1, .int v47_1, .int v48_1, .ref (ad 275), .int v50_1, .int v51_1, .ref (ad 276), .int v53_1, .ref (ad 277), .int v55_1]) hx hb hts (fun w h => mT (inX11 w h)) tyX11 tyX11_ok nmX11 hown hG.1 hP hD hS (hst.1 255 (by decide)) hf2 rfl 0 (by decide) (hts _ (mT wg_1336)) (fun _ h => h) rfl (by decide +kernel) (rfl) (rfl) (Nat.le_of_ble_eq_true rfl) rfl dX11_most_2 (fun H locs f3 hf4 ho5 hP hD hS => ?_)
  have hfr : (∀ b, b ≠ (ad 255) → f3 b = f b) := fun b z0_ => (ho5 b z0_).trans (hfr b z0_)
  refine lv_aload_n hx hb dX11_most_5 rfl (lv_at hl 0 rfl) ?_
  refine pl_get (v := .int v23_1) hx hb hts (fun w h => mT (inX11 w h)) hown hG.1 hP (hst.1 255 (by decide)) hf4 rfl 23 (by decide) (hts _ (mT wg_1359)) (fun _ h => h) rfl dX11_most_6 ?_
  have hg23_1 : v23_1.toInt = th 15 := hg23_1
  have hT := TI.updM hT hst (k := 0) (by decide) hf4 ho5 ⟨0, v2_1, v3_1, v4_1, v5_1, v6_1, v8_1, v9_1, v12_1, v13_1, v14_1, v15_1, v16_1, v17_1, v18_1, v19_1, v20_1, v21_1, v22_1, v23_1, v25_1, v36_1, v37_1, v38_1, v39_1, v40_1, v45_1, v46_1, v47_1, v48_1, v50_1, v51_1, v53_1, v55_1, rfl, (⟨by decide, by decide⟩ : In 0 0 1), hv2_1, hg2_1, hv3_1, hg3_1, hv4_1, hg4_1, hv5_1, hg5_1, hv6_1, hg6_1, hv8_1, hg8_1, hv9_1, hg9_1, hv12_1, hv13_1, hg13_1, hv14_1, hg14_1, hv15_1, hg15_1, hv17_1, hg17_1, hv20_1, hg20_1, hv23_1, hg23_1, hv25_1, hg25_1, hv36_1, hg36_1, hv47_1, hg47_1, hv48_1, hg48_1, hv53_1, hg53_1, hv55_1, hg55_1, hrel0_1⟩
  refine lv_if_eq (tgt := 24) hx hb dX11_most_9 (by decide) (fun c6 => ?_) (fun c6 => ?_)
  ·
    have oc0 : (0 : Int32).toInt = 0 := by decide
    have cc7 : v23_1.toInt = (0 : Int32).toInt := congrArg Int32.toInt c6
    have hb8 : In v23_1 0 0 := In.eq1 hv23_1 (⟨by decide, by decide⟩ : In 0 0 0) cc7 (by decide) (by decide)
    refine lv_iconst (v := (-1)) hx hb dX11_most_24 (by decide) ?_
    exact ret_i (ty := .int) hx hb hr hlocks (rfl) hP hD hS (Nat.le_of_ble_eq_true rfl) (Nat.le_of_ble_eq_true rfl) (⟨rfl, hT, hfr⟩) dX11_most_25
  ·
    have oc0 : (0 : Int32).toInt = 0 := by decide
    have cc9 : v23_1.toInt ≠ (0 : Int32).toInt := i32_ne c6
    have hb10 : In v23_1 1 1 := In.ne1 hv23_1 (⟨by decide, by decide⟩ : In 0 0 0) cc9 (by decide) (by decide)
    refine lv_iload_n hx hb dX11_most_12 rfl (lv_at hl 1 rfl) ?_
    refine lv_i2l hx hb dX11_most_13 rfl ?_
    refine lv_lconst (v := 0) hx hb dX11_most_14 (by decide) ?_
    refine lv_ldc2 hx hb hown (hts _ (mT wg_1747)) dX11_most_15 ?_
    refine call_i (run_S (rm := rm_X11_isIn) hx hb hml hown hts (s_X11_isIn l g ad th _ _ _ (z1.toInt64) 0 4 hst hT ) cS_X11_isIn wg_1581 ⟨Nat.le_of_ble_eq_true rfl, Nat.le_of_ble_eq_true rfl⟩ hG hE hA hP hD hS rfl hl.1 (As := [.long (z1.toInt64), .long 0, .long 4]) (rest := []) rfl (Nat.le_of_ble_eq_true rfl) dX11_most_18 ⟨Nat.le_of_ble_eq_true rfl, Nat.le_of_ble_eq_true rfl⟩) hA hD hS (fun r11 L12 f13 H locs hp14 hP hD hS => ?_)
    obtain ⟨eL15L, eL15T, eL15R, eL15X0, eL15X1⟩ := hp14
    have eL15L : L12 = L := eL15L
    have eL15T : f13 = f3 := eL15T
    rw [eL15L, eL15T] at hP hD
    have eL15R : In r11 0 1 := eL15R
    have hii16 : r11.toInt = 0 ∨ (0 ≤ z1.toInt ∧ z1.toInt ≤ 4) := by have z := eL15X0; rw [i2l_t z1, (by decide : (0 : Int64).toInt = 0), (by decide : (4 : Int64).toInt = 4)] at z; exact z
    have hii16w : ¬ r11 = 0 → In z1 0 4 := fun c => by have c2 := i32_ne c; have e0 : (0 : Int32).toInt = 0 := (by decide); exact ⟨by omega, by omega⟩
    refine lv_if_ne (tgt := 26) hx hb dX11_most_21 (by decide) (fun c17 => ?_) (fun c17 => ?_)
    ·
      have oc0 : (0 : Int32).toInt = 0 := by decide
      have cc18 : r11.toInt ≠ (0 : Int32).toInt := i32_ne c17
      have hb19 : In r11 1 1 := In.ne1 eL15R (⟨by decide, by decide⟩ : In 0 0 0) cc18 (by decide) (by decide)
      have hb20 : In z1 0 4 := In.both (hii16w c17) (In.full z1) (by decide) (by decide)
      refine lv_iload_n hx hb dX11_most_26 rfl (lv_at hl 1 rfl) ?_
      refine lv_iconst (v := 2) hx hb dX11_most_27 (by decide) ?_
      refine lv_icmp_ge (tgt := 46) hx hb dX11_most_28 (by decide) (fun c21 => ?_) (fun c21 => ?_)
      ·
        have oc2 : (2 : Int32).toInt = 2 := by decide
        have cc22 : (2 : Int32).toInt ≤ z1.toInt := i32_le.mp c21
        have hb23 : In z1 2 4 := In.ge1 hb20 (⟨by decide, by decide⟩ : In 2 2 2) cc22 (by decide) (by decide)
        refine lv_iload_n hx hb dX11_most_46 rfl (lv_at hl 1 rfl) ?_
        refine lv_iconst (v := 3) hx hb dX11_most_47 (by decide) ?_
        refine lv_icmp_ne (tgt := 56) hx hb dX11_most_48 (by decide) (fun c24 => ?_) (fun c24 => ?_)
        ·
          have oc3 : (3 : Int32).toInt = 3 := by decide
          have cc25 : z1.toInt ≠ (3 : Int32).toInt := i32_ne c24
          refine lv_iconst (v := 0) hx hb dX11_most_56 (by decide) ?_
          refine lv_istore_n (lv' := [(2, .int 0), (0, .ref (ad 255)), (1, .int z1)]) hx hb dX11_most_57 rfl hl (by decide) rfl (fun ls hl => ?_)
          refine lv_iconst (v := (-1)) hx hb dX11_most_58 (by decide) ?_
          refine lv_istore_n (lv' := [(3, .int (-1)), (2, .int 0), (0, .ref (ad 255)), (1, .int z1)]) hx hb dX11_most_59 rfl hl (by decide) rfl (fun ls hl => ?_)
          refine lv_iconst (v := 0) hx hb dX11_most_60 (by decide) ?_
          refine lv_istore (lv' := [(4, .int 0), (3, .int (-1)), (2, .int 0), (0, .ref (ad 255)), (1, .int z1)]) hx hb dX11_most_61 hl (by decide) rfl (fun ls hl => ?_)
          have hJ63 : ∀ (k63 : Nat) (y63_l2 : Int32) (y63_l3 : Int32) (y63_l4 : Int32) (H : Heap) (locs : List Loc) (ls : Array Slot), In y63_l2 (-2147483648) 2147483647 → In y63_l3 (-1) 5 → In y63_l4 0 6 → va_P g.1 vwCl (va_pl L f3) H → va_D A (va_pl L f3) → va_S A s.heap H locs → lv_has ls 5 [(0, .ref (ad 255)), (1, .int z1), (2, .int y63_l2), (3, .int y63_l3), (4, .int y63_l4)] → 6 - y63_l4.toInt < ((k63 : Nat) : Int) → W p l e rm_X11_most s m [.ref (ad 255), .int z1].toArray below meth c H locs 0 0 (MQ below (va_Qi (po_X11_most g ad th L f z1) (PstB g A) A) [.ref (ad 255), .int z1].toArray s rm_X11_most.cells rm_X11_most.slots A) (F0 m 63 ls []) := by
            intro k63
            induction k63 with
            | zero =>
              intro y63_l2 y63_l3 y63_l4 H locs ls hy63_l2 hy63_l3 hy63_l4 hP hD hS hl hmz63
              exact ms0 hy63_l4 hmz63
            | succ k63 ih63 =>
              intro y63_l2 y63_l3 y63_l4 H locs ls hy63_l2 hy63_l3 hy63_l4 hP hD hS hl hmz63
              refine lv_iload hx hb dX11_most_63 (lv_at hl 4 rfl) ?_
              refine lv_aload_n hx hb dX11_most_65 rfl (lv_at hl 0 rfl) ?_
              refine call_i (run_V (rm := rm_X11_over) hx hb hml hown hts (s_X11_over l g ad th _ _ _  hst hT (show MI th from hM)) cV_X11_over wg_1769 ⟨Nat.le_of_ble_eq_true rfl, Nat.le_of_ble_eq_true rfl⟩ hG hE hA hP hD hS (hst.1 255 (by decide)) hf4 rfl rfl hl.1 (As := []) (rest := [.int y63_l4]) rfl (Nat.le_of_ble_eq_true rfl) dX11_most_66 ⟨Nat.le_of_ble_eq_true rfl, Nat.le_of_ble_eq_true rfl⟩) hA hD hS (fun r26 L27 f28 H locs hp29 hP hD hS => ?_)
              obtain ⟨eL30L, eL30T, eL30R, eL30X0⟩ := hp29
              have eL30L : L27 = L := eL30L
              have eL30T : f28 = f3 := eL30T
              rw [eL30L, eL30T] at hP hD
              have eL30R : In r26 0 6 := eL30R
              have hcl31 : r26.toInt = 0 ∨ th 15 = 1 := eL30X0
              refine lv_icmp_ge (tgt := 129) hx hb dX11_most_69 (by decide) (fun c32 => ?_) (fun c32 => ?_)
              ·
                have cc33 : r26.toInt ≤ y63_l4.toInt := i32_le.mp c32
                refine lv_iload_n hx hb dX11_most_129 rfl (lv_at hl 1 rfl) ?_
                refine lv_iconst (v := 2) hx hb dX11_most_130 (by decide) ?_
                refine lv_icmp_ne (tgt := 138) hx hb dX11_most_131 (by decide) (fun c34 => ?_) (fun c34 => ?_)
                ·
                  have oc2 : (2 : Int32).toInt = 2 := by decide
                  have cc35 : z1.toInt ≠ (2 : Int32).toInt := i32_ne c34
                  have hb36 : In z1 3 4 := In.ne1 hb23 (⟨by decide, by decide⟩ : In 2 2 2) cc35 (by decide) (by decide)
                  refine lv_iload_n hx hb dX11_most_138 rfl (lv_at hl 3 rfl) ?_
                  exact ret_i (ty := .int) hx hb hr hlocks (rfl) hP hD hS (Nat.le_of_ble_eq_true rfl) (Nat.le_of_ble_eq_true rfl) (⟨rfl, hT, hfr⟩) dX11_most_139
                ·
                  have oc2 : (2 : Int32).toInt = 2 := by decide
                  have cc37 : z1.toInt = (2 : Int32).toInt := congrArg Int32.toInt c34
                  have hb38 : In z1 2 2 := In.eq1 hb23 (⟨by decide, by decide⟩ : In 2 2 2) cc37 (by decide) (by decide)
                  refine lv_iload_n hx hb dX11_most_134 rfl (lv_at hl 2 rfl) ?_
                  refine lv_goto (tgt := 139) hx hb dX11_most_135 (by decide) ?_
                  exact ret_i (ty := .int) hx hb hr hlocks (rfl) hP hD hS (Nat.le_of_ble_eq_true rfl) (Nat.le_of_ble_eq_true rfl) (⟨rfl, hT, hfr⟩) dX11_most_139
              ·
                have cc39 : y63_l4.toInt < r26.toInt := i32_nle c32
                have hb40 : In y63_l4 0 5 := In.lt1 hy63_l4 eL30R cc39 (by decide) (by decide)
                have hb41 : In r26 1 6 := In.lt2 hy63_l4 eL30R cc39 (by decide) (by decide)
                refine lv_iload_n hx hb dX11_most_72 rfl (lv_at hl 2 rfl) ?_
                refine lv_aload_n hx hb dX11_most_73 rfl (lv_at hl 0 rfl) ?_
                refine lv_iload hx hb dX11_most_74 (lv_at hl 4 rfl) ?_
                refine lv_iconst (v := 1) hx hb dX11_most_76 (by decide) ?_
                refine lv_iconst (v := 0) hx hb dX11_most_77 (by decide) ?_
                refine call_i (run_V (rm := rm_X11_trueOf) hx hb hml hown hts (s_X11_trueOf l g ad th _ _ _ y63_l4 1 0 hst hT hb40 (⟨by decide, by decide⟩ : In 1 0 7)) cV_X11_trueOf wg_1896 ⟨Nat.le_of_ble_eq_true rfl, Nat.le_of_ble_eq_true rfl⟩ hG hE hA hP hD hS (hst.1 255 (by decide)) hf4 rfl rfl hl.1 (As := [.int y63_l4, .int 1, .int 0]) (rest := [.int y63_l2]) rfl (Nat.le_of_ble_eq_true rfl) dX11_most_78 ⟨Nat.le_of_ble_eq_true rfl, Nat.le_of_ble_eq_true rfl⟩) hA hD hS (fun r42 L43 f44 H locs hp45 hP hD hS => ?_)
                obtain ⟨eL46L, eL46T⟩ := hp45
                have eL46L : L43 = L := eL46L
                have eL46T : f44 = f3 := eL46T
                rw [eL46L, eL46T] at hP hD
                have hJ89 : ∀ (y89_s0 : Int32) (H : Heap) (locs : List Loc) (ls : Array Slot), In y89_s0 0 1 → va_P g.1 vwCl (va_pl L f3) H → va_D A (va_pl L f3) → va_S A s.heap H locs → lv_has ls 5 [(0, .ref (ad 255)), (1, .int z1), (2, .int y63_l2), (3, .int y63_l3), (4, .int y63_l4)] → W p l e rm_X11_most s m [.ref (ad 255), .int z1].toArray below meth c H locs 0 0 (MQ below (va_Qi (po_X11_most g ad th L f z1) (PstB g A) A) [.ref (ad 255), .int z1].toArray s rm_X11_most.cells rm_X11_most.slots A) (F0 m 89 ls [.int y89_s0, .int y63_l2]) := by
                  intro y89_s0 H locs ls hy89_s0 hP hD hS hl
                  refine lv_iadd hx hb dX11_most_89 ?_
                  refine lv_topi (fun x47 ex47 => ?_)
                  refine lv_istore_n (lv' := [(2, .int x47), (0, .ref (ad 255)), (1, .int z1), (3, .int y63_l3), (4, .int y63_l4)]) hx hb dX11_most_90 rfl hl (by decide) rfl (fun ls hl => ?_)
                  refine lv_iload_n hx hb dX11_most_91 rfl (lv_at hl 3 rfl) ?_
                  refine lv_iconst (v := (-1)) hx hb dX11_most_92 (by decide) ?_
                  have hJ122 : ∀ (y122_s0 : Int32) (H : Heap) (locs : List Loc) (ls : Array Slot), In y122_s0 0 5 → va_P g.1 vwCl (va_pl L f3) H → va_D A (va_pl L f3) → va_S A s.heap H locs → lv_has ls 5 [(0, .ref (ad 255)), (1, .int z1), (2, .int x47), (3, .int y63_l3), (4, .int y63_l4)] → W p l e rm_X11_most s m [.ref (ad 255), .int z1].toArray below meth c H locs 0 0 (MQ below (va_Qi (po_X11_most g ad th L f z1) (PstB g A) A) [.ref (ad 255), .int z1].toArray s rm_X11_most.cells rm_X11_most.slots A) (F0 m 122 ls [.int y122_s0]) := by
                    intro y122_s0 H locs ls hy122_s0 hP hD hS hl
                    refine lv_istore_n (lv' := [(3, .int y122_s0), (0, .ref (ad 255)), (1, .int z1), (2, .int x47), (4, .int y63_l4)]) hx hb dX11_most_122 rfl hl (by decide) rfl (fun ls hl => ?_)
                    obtain ⟨x48, ex48⟩ : ∃ y : Int32, y = y63_l4 + 1 := ⟨_, rfl⟩
                    have hb49 : In x48 1 6 := ex48 ▸ In.add hb40 (⟨by decide, by decide⟩ : In 1 1 1) (by decide) (by decide) (by decide) (by decide)
                    have et50 : x48.toInt = y63_l4.toInt + 1 := In.adde ex48 hb40 (k := 1) (by decide) (by decide) (by decide)
                    refine lv_iinc (v := x48) (lv' := [(4, .int x48), (3, .int y122_s0), (0, .ref (ad 255)), (1, .int z1), (2, .int x47)]) hx hb dX11_most_123 hl (k := 4) rfl (by rw [ex48]; rfl) (by decide) rfl (fun ls hl => ?_)
                    refine lv_goto (tgt := 63) hx hb dX11_most_126 (by decide) ?_
                    exact ih63 x47 y122_s0 x48 _ _ _ (In.full x47) (In.mono hy122_s0 (by decide) (by decide)) (In.mono hb49 (by decide) (by decide)) hP hD hS (lv_sub hl [2, 3, 4, 1, 0] rfl) (msu et50 (by decide) hmz63)
                  have hJ116 : ∀ (H : Heap) (locs : List Loc) (ls : Array Slot), va_P g.1 vwCl (va_pl L f3) H → va_D A (va_pl L f3) → va_S A s.heap H locs → lv_has ls 5 [(0, .ref (ad 255)), (1, .int z1), (2, .int x47), (3, .int y63_l3), (4, .int y63_l4)] → W p l e rm_X11_most s m [.ref (ad 255), .int z1].toArray below meth c H locs 0 0 (MQ below (va_Qi (po_X11_most g ad th L f z1) (PstB g A) A) [.ref (ad 255), .int z1].toArray s rm_X11_most.cells rm_X11_most.slots A) (F0 m 116 ls []) := by
                    intro H locs ls hP hD hS hl
                    refine lv_iload hx hb dX11_most_116 (lv_at hl 4 rfl) ?_
                    refine lv_goto (tgt := 122) hx hb dX11_most_118 (by decide) ?_
                    exact hJ122 y63_l4 _ _ _ hb40 hP hD hS (lv_sub hl [0, 1, 2, 3, 4] rfl)
                  refine lv_icmp_eq (tgt := 116) hx hb dX11_most_93 (by decide) (fun c51 => ?_) (fun c51 => ?_)
                  ·
                    have ocm1 : ((-1) : Int32).toInt = (-1) := by decide
                    have cc52 : y63_l3.toInt = ((-1) : Int32).toInt := congrArg Int32.toInt c51
                    have hb53 : In y63_l3 (-1) (-1) := In.eq1 hy63_l3 (⟨by decide, by decide⟩ : In (-1) (-1) (-1)) cc52 (by decide) (by decide)
                    exact hJ116 _ _ _ hP hD hS (lv_sub hl [1, 2, 0, 3, 4] rfl)
                  ·
                    have ocm1 : ((-1) : Int32).toInt = (-1) := by decide
                    have cc54 : y63_l3.toInt ≠ ((-1) : Int32).toInt := i32_ne c51
                    have hb55 : In y63_l3 0 5 := In.ne1 hy63_l3 (⟨by decide, by decide⟩ : In (-1) (-1) (-1)) cc54 (by decide) (by decide)
                    refine lv_aload_n hx hb dX11_most_96 rfl (lv_at hl 1 rfl) ?_
                    refine lv_iload hx hb dX11_most_97 (lv_at hl 4 rfl) ?_
                    refine lv_bipush (v := 7) hx hb dX11_most_99 (by decide) ?_
                    refine lv_iconst (v := 1) hx hb dX11_most_101 (by decide) ?_
                    refine call_i (run_V (rm := rm_X11_trueOf) hx hb hml hown hts (s_X11_trueOf l g ad th _ _ _ y63_l4 7 1 hst hT hb40 (⟨by decide, by decide⟩ : In 7 0 7)) cV_X11_trueOf wg_1896 ⟨Nat.le_of_ble_eq_true rfl, Nat.le_of_ble_eq_true rfl⟩ hG hE hA hP hD hS (hst.1 255 (by decide)) hf4 rfl rfl hl.1 (As := [.int y63_l4, .int 7, .int 1]) (rest := []) rfl (Nat.le_of_ble_eq_true rfl) dX11_most_102 ⟨Nat.le_of_ble_eq_true rfl, Nat.le_of_ble_eq_true rfl⟩) hA hD hS (fun r56 L57 f58 H locs hp59 hP hD hS => ?_)
                    obtain ⟨eL60L, eL60T⟩ := hp59
                    have eL60L : L57 = L := eL60L
                    have eL60T : f58 = f3 := eL60T
                    rw [eL60L, eL60T] at hP hD
                    refine lv_aload_n hx hb dX11_most_105 rfl (lv_at hl 1 rfl) ?_
                    refine lv_iload_n hx hb dX11_most_106 rfl (lv_at hl 3 rfl) ?_
                    refine lv_bipush (v := 7) hx hb dX11_most_107 (by decide) ?_
                    refine lv_iconst (v := 1) hx hb dX11_most_109 (by decide) ?_
                    refine call_i (run_V (rm := rm_X11_trueOf) hx hb hml hown hts (s_X11_trueOf l g ad th _ _ _ y63_l3 7 1 hst hT hb55 (⟨by decide, by decide⟩ : In 7 0 7)) cV_X11_trueOf wg_1896 ⟨Nat.le_of_ble_eq_true rfl, Nat.le_of_ble_eq_true rfl⟩ hG hE hA hP hD hS (hst.1 255 (by decide)) hf4 rfl rfl hl.1 (As := [.int y63_l3, .int 7, .int 1]) (rest := [.int r56]) rfl (Nat.le_of_ble_eq_true rfl) dX11_most_110 ⟨Nat.le_of_ble_eq_true rfl, Nat.le_of_ble_eq_true rfl⟩) hA hD hS (fun r61 L62 f63 H locs hp64 hP hD hS => ?_)
                    obtain ⟨eL65L, eL65T⟩ := hp64
                    have eL65L : L62 = L := eL65L
                    have eL65T : f63 = f3 := eL65T
                    rw [eL65L, eL65T] at hP hD
                    refine lv_icmp_le (tgt := 121) hx hb dX11_most_113 (by decide) (fun c66 => ?_) (fun c66 => ?_)
                    ·
                      have cc67 : r56.toInt ≤ r61.toInt := i32_le.mp c66
                      refine lv_iload_n hx hb dX11_most_121 rfl (lv_at hl 3 rfl) ?_
                      exact hJ122 y63_l3 _ _ _ hb55 hP hD hS (lv_sub hl [1, 2, 0, 3, 4] rfl)
                    ·
                      have cc68 : r61.toInt < r56.toInt := i32_nle c66
                      have hb69 : In r56 (-2147483647) 2147483647 := In.gt1 (In.full r56) (In.full r61) cc68 (by decide) (by decide)
                      have hb70 : In r61 (-2147483648) 2147483646 := In.gt2 (In.full r56) (In.full r61) cc68 (by decide) (by decide)
                      exact hJ116 _ _ _ hP hD hS (lv_sub hl [1, 2, 0, 3, 4] rfl)
                refine lv_if_le (tgt := 88) hx hb dX11_most_81 (by decide) (fun c71 => ?_) (fun c71 => ?_)
                ·
                  have oc0 : (0 : Int32).toInt = 0 := by decide
                  have cc72 : r42.toInt ≤ (0 : Int32).toInt := i32_le.mp c71
                  have hb73 : In r42 (-2147483648) 0 := In.le1 (In.full r42) (⟨by decide, by decide⟩ : In 0 0 0) cc72 (by decide) (by decide)
                  refine lv_iconst (v := 0) hx hb dX11_most_88 (by decide) ?_
                  exact hJ89 0 _ _ _ (⟨by decide, by decide⟩ : In 0 0 1) hP hD hS (lv_sub hl [0, 1, 2, 3, 4] rfl)
                ·
                  have oc0 : (0 : Int32).toInt = 0 := by decide
                  have cc74 : (0 : Int32).toInt < r42.toInt := i32_nle c71
                  have hb75 : In r42 1 2147483647 := In.gt1 (In.full r42) (⟨by decide, by decide⟩ : In 0 0 0) cc74 (by decide) (by decide)
                  refine lv_iconst (v := 1) hx hb dX11_most_84 (by decide) ?_
                  refine lv_goto (tgt := 89) hx hb dX11_most_85 (by decide) ?_
                  exact hJ89 1 _ _ _ (⟨by decide, by decide⟩ : In 1 0 1) hP hD hS (lv_sub hl [0, 1, 2, 3, 4] rfl)
          exact hJ63 ((6 - (0 : Int32).toInt).toNat + 1) 0 (-1) 0 _ _ _ (⟨by decide, by decide⟩ : In 0 (-2147483648) 2147483647) (⟨by decide, by decide⟩ : In (-1) (-1) 5) (⟨by decide, by decide⟩ : In 0 0 6) hP hD hS (lv_sub hl [3, 4, 2, 1, 0] rfl) (msI _)
        ·
          have oc3 : (3 : Int32).toInt = 3 := by decide
          have cc76 : z1.toInt = (3 : Int32).toInt := congrArg Int32.toInt c24
          have hb77 : In z1 3 3 := In.eq1 hb23 (⟨by decide, by decide⟩ : In 3 3 3) cc76 (by decide) (by decide)
          refine lv_aload_n hx hb dX11_most_51 rfl (lv_at hl 0 rfl) ?_
          refine call_i (run_V (rm := rm_X11_changes) hx hb hml hown hts (s_X11_changes l g ad th _ _ _  hst hT (show MI th from hM)) cV_X11_changes wg_1943 ⟨Nat.le_of_ble_eq_true rfl, Nat.le_of_ble_eq_true rfl⟩ hG hE hA hP hD hS (hst.1 255 (by decide)) hf4 rfl rfl hl.1 (As := []) (rest := []) rfl (Nat.le_of_ble_eq_true rfl) dX11_most_52 ⟨Nat.le_of_ble_eq_true rfl, Nat.le_of_ble_eq_true rfl⟩) hA hD hS (fun r78 L79 f80 H locs hp81 hP hD hS => ?_)
          obtain ⟨eL82L, eL82T⟩ := hp81
          have eL82L : L79 = L := eL82L
          have eL82T : f80 = f3 := eL82T
          rw [eL82L, eL82T] at hP hD
          exact ret_i (ty := .int) hx hb hr hlocks (rfl) hP hD hS (Nat.le_of_ble_eq_true rfl) (Nat.le_of_ble_eq_true rfl) (⟨rfl, hT, hfr⟩) dX11_most_55
      ·
        have oc2 : (2 : Int32).toInt = 2 := by decide
        have cc83 : z1.toInt < (2 : Int32).toInt := i32_nle c21
        have hb84 : In z1 0 1 := In.lt1 hb20 (⟨by decide, by decide⟩ : In 2 2 2) cc83 (by decide) (by decide)
        refine lv_aload_n hx hb dX11_most_31 rfl (lv_at hl 0 rfl) ?_
        refine lv_iload_n hx hb dX11_most_32 rfl (lv_at hl 1 rfl) ?_
        refine lv_iconst (v := 1) hx hb dX11_most_33 (by decide) ?_
        have hJ42 : ∀ (y42_s0 : Int32) (H : Heap) (locs : List Loc) (ls : Array Slot), In y42_s0 0 1 → va_P g.1 vwCl (va_pl L f3) H → va_D A (va_pl L f3) → va_S A s.heap H locs → lv_has ls 5 [(0, .ref (ad 255)), (1, .int z1)] → W p l e rm_X11_most s m [.ref (ad 255), .int z1].toArray below meth c H locs 0 0 (MQ below (va_Qi (po_X11_most g ad th L f z1) (PstB g A) A) [.ref (ad 255), .int z1].toArray s rm_X11_most.cells rm_X11_most.slots A) (F0 m 42 ls [.int y42_s0, .ref (ad 255)]) := by
          intro y42_s0 H locs ls hy42_s0 hP hD hS hl
          refine call_i (run_V (rm := rm_X11_mostSuspecting) hx hb hml hown hts (s_X11_mostSuspecting l g ad th _ _ _ y42_s0 hst hT hy42_s0) cV_X11_mostSuspecting wg_1939 ⟨Nat.le_of_ble_eq_true rfl, Nat.le_of_ble_eq_true rfl⟩ hG hE hA hP hD hS (hst.1 255 (by decide)) hf4 rfl rfl hl.1 (As := [.int y42_s0]) (rest := []) rfl (Nat.le_of_ble_eq_true rfl) dX11_most_42 ⟨Nat.le_of_ble_eq_true rfl, Nat.le_of_ble_eq_true rfl⟩) hA hD hS (fun r85 L86 f87 H locs hp88 hP hD hS => ?_)
          obtain ⟨eL89L, eL89T⟩ := hp88
          have eL89L : L86 = L := eL89L
          have eL89T : f87 = f3 := eL89T
          rw [eL89L, eL89T] at hP hD
          exact ret_i (ty := .int) hx hb hr hlocks (rfl) hP hD hS (Nat.le_of_ble_eq_true rfl) (Nat.le_of_ble_eq_true rfl) (⟨rfl, hT, hfr⟩) dX11_most_45
        refine lv_icmp_ne (tgt := 41) hx hb dX11_most_34 (by decide) (fun c90 => ?_) (fun c90 => ?_)
        ·
          have oc1 : (1 : Int32).toInt = 1 := by decide
          have cc91 : z1.toInt ≠ (1 : Int32).toInt := i32_ne c90
          have hb92 : In z1 0 0 := In.ne1 hb84 (⟨by decide, by decide⟩ : In 1 1 1) cc91 (by decide) (by decide)
          refine lv_iconst (v := 0) hx hb dX11_most_41 (by decide) ?_
          exact hJ42 0 _ _ _ (⟨by decide, by decide⟩ : In 0 0 1) hP hD hS (lv_sub hl [0, 1] rfl)
        ·
          have oc1 : (1 : Int32).toInt = 1 := by decide
          have cc93 : z1.toInt = (1 : Int32).toInt := congrArg Int32.toInt c90
          have hb94 : In z1 1 1 := In.eq1 hb84 (⟨by decide, by decide⟩ : In 1 1 1) cc93 (by decide) (by decide)
          refine lv_iconst (v := 1) hx hb dX11_most_37 (by decide) ?_
          refine lv_goto (tgt := 42) hx hb dX11_most_38 (by decide) ?_
          exact hJ42 1 _ _ _ (⟨by decide, by decide⟩ : In 1 0 1) hP hD hS (lv_sub hl [0, 1] rfl)
    ·
      have oc0 : (0 : Int32).toInt = 0 := by decide
      have cc95 : r11.toInt = (0 : Int32).toInt := congrArg Int32.toInt c17
      have hb96 : In r11 0 0 := In.eq1 eL15R (⟨by decide, by decide⟩ : In 0 0 0) cc95 (by decide) (by decide)
      refine lv_iconst (v := (-1)) hx hb dX11_most_24 (by decide) ?_
      exact ret_i (ty := .int) hx hb hr hlocks (rfl) hP hD hS (Nat.le_of_ble_eq_true rfl) (Nat.le_of_ble_eq_true rfl) (⟨rfl, hT, hfr⟩) dX11_most_25

abbrev rm_X11_ruled : Room := { frames := 3, cells := 0, slots := 0, locals := 67 }
abbrev po_X11_ruled (g : GG) (ad : Nat → Nat) (th : Nat → Int) (L : List Nat) (f : HP) (z1 : Int32) (z2 : Int32) : Int32 → (List Nat × HP) → Prop := fun r u => u.1 = L ∧ TI g ad th u.2 ∧ (∀ b, b ≠ (ad 255) → u.2 b = f b)
set_option maxHeartbeats 4000000 in
set_option maxRecDepth 100000 in
theorem s_X11_ruled (l : Launch) (g : GG) (ad : Nat → Nat) (th : Nat → Int) (L : List Nat) (f : HP) (sz : Nat) (z1 : Int32) (z2 : Int32) (hst : ST ad L) (hT : TI g ad th f) (hM : MI th) : MtI l g yX11_ruled cX11_ruled 8 (some .int) rm_X11_ruled [.ref (ad 255), .int z1, .int z2] L f sz (po_X11_ruled g ad th L f z1 z2) := by
  refine MtI.of (by decide +kernel) (Nat.le_of_ble_eq_true rfl) ?_
  intro p e s m below meth c A hEn hP hD hS ls hl
  obtain ⟨hx, hb, hr, hml, hown, hlocks, hts, hG, hA, hE, hnm⟩ := hEn
  have hown : s.vm.findClass "RulerWordModel" = some m.cls := hown
  have hl : lv_has ls 8 [(0, .ref (ad 255)), (1, .int z1), (2, .int z2)] := hl
  have hfr : (∀ b, b ≠ (ad 255) → f b = f b) := fun b z0_ => rfl
  have hM0 := hM
  obtain ⟨m1, m2, m3, m4, m5, m6, m7, m8, m9, m10⟩ := hM0
  have m20 := mi20 m2 m3
  refine lv_aload_n hx hb dX11_ruled_0 rfl (lv_at hl 0 rfl) ?_
  refine lv_iconst (v := 0) hx hb dX11_ruled_1 (by decide) ?_
  refine M0e hT (fun v0_1 v2_1 v3_1 v4_1 v5_1 v6_1 v8_1 v9_1 v12_1 v13_1 v14_1 v15_1 v16_1 v17_1 v18_1 v19_1 v20_1 v21_1 v22_1 v23_1 v25_1 v36_1 v37_1 v38_1 v39_1 v40_1 v45_1 v46_1 v47_1 v48_1 v50_1 v51_1 v53_1 v55_1 hf2 hv0_1 hv2_1 hg2_1 hv3_1 hg3_1 hv4_1 hg4_1 hv5_1 hg5_1 hv6_1 hg6_1 hv8_1 hg8_1 hv9_1 hg9_1 hv12_1 hv13_1 hg13_1 hv14_1 hg14_1 hv15_1 hg15_1 hv17_1 hg17_1 hv20_1 hg20_1 hv23_1 hg23_1 hv25_1 hg25_1 hv36_1 hg36_1 hv47_1 hg47_1 hv48_1 hg48_1 hv53_1 hg53_1 hv55_1 hg55_1 hrel0_1 => ?_)
  have hg15_1 : v15_1.toInt = th 11 := hg15_1
  have hg17_1 : v17_1.toInt = th 12 := hg17_1
  have hg20_1 : v20_1.toInt = th 14 := hg20_1
  refine pl_put (ty := .int) (v := .int 0) (fs' := [.int 0, .ref (ad 256), .int v2_1, .int v3_1, .int v4_1, .int v5_1, .int v6_1, .ref (ad 257), .int v8_1, .int v9_1, .ref (ad 258), .ref (ad 259), .int v12_1, .int v13_1, .int v14_1, .int v15_1, .int v16_1, .int v17_1, .int v18_1, .int v19_1, .int v20_1, .long v21_1, .long v22_1, .int v23_1, .ref (ad 260), .int v25_1, .ref (ad 261), .ref (ad 262), .ref (ad 263), .ref (ad 264), .ref (ad 265), .ref (ad 266), .ref (ad 267), .ref (ad 268), .ref (ad 269), .ref (ad 270), .int v36_1, .int v37_1, .int v38_1, .int v39_1, .int v40_1, .ref (ad 271), .ref (ad 272), .ref (ad 273), .ref (ad 274), .long v45_1, .long v46_1, .int v47_1, .int v48_1, .ref (ad 275), .int v50_1, .int v51_1, .ref (ad 276), .int v53_1, .ref (ad 277), .int v55_1]) hx hb hts (fun w h => mT (inX11 w h)) tyX11 tyX11_ok nmX11 hown hG.1 hP hD hS (hst.1 255 (by decide)) hf2 rfl 0 (by decide) (hts _ (mT wg_1336)) (fun _ h => h) rfl (by decide +kernel) (rfl) (rfl) (Nat.le_of_ble_eq_true rfl) rfl dX11_ruled_2 (fun H locs f3 hf4 ho5 hP hD hS => ?_)
  have hfr : (∀ b, b ≠ (ad 255) → f3 b = f b) := fun b z0_ => (ho5 b z0_).trans (hfr b z0_)
  refine lv_aload_n hx hb dX11_ruled_5 rfl (lv_at hl 0 rfl) ?_
  refine lv_iload_n hx hb dX11_ruled_6 rfl (lv_at hl 1 rfl) ?_
  have hT := TI.updM hT hst (k := 0) (by decide) hf4 ho5 ⟨0, v2_1, v3_1, v4_1, v5_1, v6_1, v8_1, v9_1, v12_1, v13_1, v14_1, v15_1, v16_1, v17_1, v18_1, v19_1, v20_1, v21_1, v22_1, v23_1, v25_1, v36_1, v37_1, v38_1, v39_1, v40_1, v45_1, v46_1, v47_1, v48_1, v50_1, v51_1, v53_1, v55_1, rfl, (⟨by decide, by decide⟩ : In 0 0 1), hv2_1, hg2_1, hv3_1, hg3_1, hv4_1, hg4_1, hv5_1, hg5_1, hv6_1, hg6_1, hv8_1, hg8_1, hv9_1, hg9_1, hv12_1, hv13_1, hg13_1, hv14_1, hg14_1, hv15_1, hg15_1, hv17_1, hg17_1, hv20_1, hg20_1, hv23_1, hg23_1, hv25_1, hg25_1, hv36_1, hg36_1, hv47_1, hg47_1, hv48_1, hg48_1, hv53_1, hg53_1, hv55_1, hg55_1, hrel0_1⟩
  refine call_i (run_V (rm := rm_X11_isPeer) hx hb hml hown hts (s_X11_isPeer l g ad th _ _ _ z1 hst hT ) cV_X11_isPeer wg_1718 ⟨Nat.le_of_ble_eq_true rfl, Nat.le_of_ble_eq_true rfl⟩ hG hE hA hP hD hS (hst.1 255 (by decide)) hf4 rfl rfl hl.1 (As := [.int z1]) (rest := []) rfl (Nat.le_of_ble_eq_true rfl) dX11_ruled_7 ⟨Nat.le_of_ble_eq_true rfl, Nat.le_of_ble_eq_true rfl⟩) hA hD hS (fun r6 L7 f8 H locs hp9 hP hD hS => ?_)
  obtain ⟨eL10L, eL10T, eL10R, eL10W0, eL10X0⟩ := hp9
  have eL10L : L7 = L := eL10L
  have eL10T : f8 = f3 := eL10T
  rw [eL10L, eL10T] at hP hD
  have eL10R : In r6 0 1 := eL10R
  have hcl11 : r6.toInt = 0 ∨ th 15 = 1 := eL10X0
  refine lv_if_eq (tgt := 25) hx hb dX11_ruled_10 (by decide) (fun c12 => ?_) (fun c12 => ?_)
  ·
    have oc0 : (0 : Int32).toInt = 0 := by decide
    have cc13 : r6.toInt = (0 : Int32).toInt := congrArg Int32.toInt c12
    have hb14 : In r6 0 0 := In.eq1 eL10R (⟨by decide, by decide⟩ : In 0 0 0) cc13 (by decide) (by decide)
    refine lv_iconst (v := (-1)) hx hb dX11_ruled_25 (by decide) ?_
    exact ret_i (ty := .int) hx hb hr hlocks (rfl) hP hD hS (Nat.le_of_ble_eq_true rfl) (Nat.le_of_ble_eq_true rfl) (⟨rfl, hT, hfr⟩) dX11_ruled_26
  ·
    have oc0 : (0 : Int32).toInt = 0 := by decide
    have cc15 : r6.toInt ≠ (0 : Int32).toInt := i32_ne c12
    have hb16 : In r6 1 1 := In.ne1 eL10R (⟨by decide, by decide⟩ : In 0 0 0) cc15 (by decide) (by decide)
    have hb17 : In z1 0 8 := In.both (eL10W0 c12) (In.full z1) (by decide) (by decide)
    refine lv_iload_n hx hb dX11_ruled_13 rfl (lv_at hl 2 rfl) ?_
    refine lv_i2l hx hb dX11_ruled_14 rfl ?_
    refine lv_lconst (v := 0) hx hb dX11_ruled_15 (by decide) ?_
    refine lv_ldc2 hx hb hown (hts _ (mT wg_1681)) dX11_ruled_16 ?_
    refine call_i (run_S (rm := rm_X11_isIn) hx hb hml hown hts (s_X11_isIn l g ad th _ _ _ (z2.toInt64) 0 3 hst hT ) cS_X11_isIn wg_1581 ⟨Nat.le_of_ble_eq_true rfl, Nat.le_of_ble_eq_true rfl⟩ hG hE hA hP hD hS rfl hl.1 (As := [.long (z2.toInt64), .long 0, .long 3]) (rest := []) rfl (Nat.le_of_ble_eq_true rfl) dX11_ruled_19 ⟨Nat.le_of_ble_eq_true rfl, Nat.le_of_ble_eq_true rfl⟩) hA hD hS (fun r18 L19 f20 H locs hp21 hP hD hS => ?_)
    obtain ⟨eL22L, eL22T, eL22R, eL22X0, eL22X1⟩ := hp21
    have eL22L : L19 = L := eL22L
    have eL22T : f20 = f3 := eL22T
    rw [eL22L, eL22T] at hP hD
    have eL22R : In r18 0 1 := eL22R
    have hii23 : r18.toInt = 0 ∨ (0 ≤ z2.toInt ∧ z2.toInt ≤ 3) := by have z := eL22X0; rw [i2l_t z2, (by decide : (0 : Int64).toInt = 0), (by decide : (3 : Int64).toInt = 3)] at z; exact z
    have hii23w : ¬ r18 = 0 → In z2 0 3 := fun c => by have c2 := i32_ne c; have e0 : (0 : Int32).toInt = 0 := (by decide); exact ⟨by omega, by omega⟩
    refine lv_if_ne (tgt := 27) hx hb dX11_ruled_22 (by decide) (fun c24 => ?_) (fun c24 => ?_)
    ·
      have oc0 : (0 : Int32).toInt = 0 := by decide
      have cc25 : r18.toInt ≠ (0 : Int32).toInt := i32_ne c24
      have hb26 : In r18 1 1 := In.ne1 eL22R (⟨by decide, by decide⟩ : In 0 0 0) cc25 (by decide) (by decide)
      have hb27 : In z2 0 3 := In.both (hii23w c24) (In.full z2) (by decide) (by decide)
      refine lv_iconst (v := 0) hx hb dX11_ruled_27 (by decide) ?_
      refine lv_istore_n (lv' := [(3, .int 0), (0, .ref (ad 255)), (1, .int z1), (2, .int z2)]) hx hb dX11_ruled_28 rfl hl (by decide) rfl (fun ls hl => ?_)
      refine lv_iconst (v := 0) hx hb dX11_ruled_29 (by decide) ?_
      refine lv_istore (lv' := [(4, .int 0), (3, .int 0), (0, .ref (ad 255)), (1, .int z1), (2, .int z2)]) hx hb dX11_ruled_30 hl (by decide) rfl (fun ls hl => ?_)
      have hJ32 : ∀ (k32 : Nat) (y32_l3 : Int32) (y32_l4 : Int32) (H : Heap) (locs : List Loc) (ls : Array Slot), In y32_l3 (-2147483648) 2147483647 → In y32_l4 0 6 → va_P g.1 vwCl (va_pl L f3) H → va_D A (va_pl L f3) → va_S A s.heap H locs → lv_has ls 8 [(0, .ref (ad 255)), (1, .int z1), (2, .int z2), (3, .int y32_l3), (4, .int y32_l4)] → 6 - y32_l4.toInt < ((k32 : Nat) : Int) → W p l e rm_X11_ruled s m [.ref (ad 255), .int z1, .int z2].toArray below meth c H locs 0 0 (MQ below (va_Qi (po_X11_ruled g ad th L f z1 z2) (PstB g A) A) [.ref (ad 255), .int z1, .int z2].toArray s rm_X11_ruled.cells rm_X11_ruled.slots A) (F0 m 32 ls []) := by
        intro k32
        induction k32 with
        | zero =>
          intro y32_l3 y32_l4 H locs ls hy32_l3 hy32_l4 hP hD hS hl hmz32
          exact ms0 hy32_l4 hmz32
        | succ k32 ih32 =>
          intro y32_l3 y32_l4 H locs ls hy32_l3 hy32_l4 hP hD hS hl hmz32
          refine lv_iload hx hb dX11_ruled_32 (lv_at hl 4 rfl) ?_
          refine lv_aload_n hx hb dX11_ruled_34 rfl (lv_at hl 0 rfl) ?_
          refine call_i (run_V (rm := rm_X11_over) hx hb hml hown hts (s_X11_over l g ad th _ _ _  hst hT (show MI th from hM)) cV_X11_over wg_1769 ⟨Nat.le_of_ble_eq_true rfl, Nat.le_of_ble_eq_true rfl⟩ hG hE hA hP hD hS (hst.1 255 (by decide)) hf4 rfl rfl hl.1 (As := []) (rest := [.int y32_l4]) rfl (Nat.le_of_ble_eq_true rfl) dX11_ruled_35 ⟨Nat.le_of_ble_eq_true rfl, Nat.le_of_ble_eq_true rfl⟩) hA hD hS (fun r28 L29 f30 H locs hp31 hP hD hS => ?_)
          obtain ⟨eL32L, eL32T, eL32R, eL32X0⟩ := hp31
          have eL32L : L29 = L := eL32L
          have eL32T : f30 = f3 := eL32T
          rw [eL32L, eL32T] at hP hD
          have eL32R : In r28 0 6 := eL32R
          have hcl33 : r28.toInt = 0 ∨ th 15 = 1 := eL32X0
          refine lv_icmp_ge (tgt := 223) hx hb dX11_ruled_38 (by decide) (fun c34 => ?_) (fun c34 => ?_)
          ·
            have cc35 : r28.toInt ≤ y32_l4.toInt := i32_le.mp c34
            refine lv_iload_n hx hb dX11_ruled_223 rfl (lv_at hl 3 rfl) ?_
            exact ret_i (ty := .int) hx hb hr hlocks (rfl) hP hD hS (Nat.le_of_ble_eq_true rfl) (Nat.le_of_ble_eq_true rfl) (⟨rfl, hT, hfr⟩) dX11_ruled_224
          ·
            have cc36 : y32_l4.toInt < r28.toInt := i32_nle c34
            have hb37 : In y32_l4 0 5 := In.lt1 hy32_l4 eL32R cc36 (by decide) (by decide)
            have hb38 : In r28 1 6 := In.lt2 hy32_l4 eL32R cc36 (by decide) (by decide)
            refine lv_iload hx hb dX11_ruled_41 (lv_at hl 4 rfl) ?_
            refine lv_aload_n hx hb dX11_ruled_43 rfl (lv_at hl 0 rfl) ?_
            refine pl_get (v := .int v15_1) hx hb hts (fun w h => mT (inX11 w h)) hown hG.1 hP (hst.1 255 (by decide)) hf4 rfl 15 (by decide) (hts _ (mT wg_1351)) (fun _ h => h) rfl dX11_ruled_44 ?_
            have hb39 : In v15_1 1 9 := In.mk (by have ob10 : (0 : Int) ≤ (th 10) ∧ (th 10) ≤ 1 := (b0_10 hT :); have ob11 : (0 : Int) ≤ (th 11) ∧ (th 11) ≤ 9 := (b0_11 hT :); have ob12 : (0 : Int) ≤ (th 12) ∧ (th 12) ≤ 6 := (b0_12 hT :); have ob14 : (0 : Int) ≤ (th 14) ∧ (th 14) ≤ 511 := (b0_14 hT :); have ob15 : (0 : Int) ≤ (th 15) ∧ (th 15) ≤ 1 := (b0_15 hT :); have ob16 : (0 : Int) ≤ (th 16) ∧ (th 16) ≤ 20 := (b0_16 hT :); have ob17 : (0 : Int) ≤ (th 17) ∧ (th 17) ≤ 1 := (b0_17 hT :); have ob18 : (0 : Int) ≤ (th 18) ∧ (th 18) ≤ 18 := (b0_18 hT :); have ob38 : (0 : Int) ≤ (th 38) ∧ (th 38) ≤ 400 := (b0_38 hT :); have ob39 : (0 : Int) ≤ (th 39) ∧ (th 39) ≤ 200 := (b0_39 hT :); have ob44 : (0 : Int) ≤ (th 44) ∧ (th 44) ≤ 30 := (b0_44 hT :); have orn := rnd_b (th 10); obtain ⟨o0a, o0b⟩ := (hv15_1 : In _ _ _); obtain ⟨o1a, o1b⟩ := (hv14_1 : In _ _ _); obtain ⟨o2a, o2b⟩ := (hv17_1 : In _ _ _); obtain ⟨o3a, o3b⟩ := (hv20_1 : In _ _ _); obtain ⟨o4a, o4b⟩ := (hv23_1 : In _ _ _); obtain ⟨o5a, o5b⟩ := (hv25_1 : In _ _ _); obtain ⟨o6a, o6b⟩ := (hv36_1 : In _ _ _); obtain ⟨o7a, o7b⟩ := (hv47_1 : In _ _ _); obtain ⟨o8a, o8b⟩ := (hv48_1 : In _ _ _); obtain ⟨o9a, o9b⟩ := (hv53_1 : In _ _ _); obtain ⟨o10a, o10b⟩ := (hv55_1 : In _ _ _); omega) (by have ob10 : (0 : Int) ≤ (th 10) ∧ (th 10) ≤ 1 := (b0_10 hT :); have ob11 : (0 : Int) ≤ (th 11) ∧ (th 11) ≤ 9 := (b0_11 hT :); have ob12 : (0 : Int) ≤ (th 12) ∧ (th 12) ≤ 6 := (b0_12 hT :); have ob14 : (0 : Int) ≤ (th 14) ∧ (th 14) ≤ 511 := (b0_14 hT :); have ob15 : (0 : Int) ≤ (th 15) ∧ (th 15) ≤ 1 := (b0_15 hT :); have ob16 : (0 : Int) ≤ (th 16) ∧ (th 16) ≤ 20 := (b0_16 hT :); have ob17 : (0 : Int) ≤ (th 17) ∧ (th 17) ≤ 1 := (b0_17 hT :); have ob18 : (0 : Int) ≤ (th 18) ∧ (th 18) ≤ 18 := (b0_18 hT :); have ob38 : (0 : Int) ≤ (th 38) ∧ (th 38) ≤ 400 := (b0_38 hT :); have ob39 : (0 : Int) ≤ (th 39) ∧ (th 39) ≤ 200 := (b0_39 hT :); have ob44 : (0 : Int) ≤ (th 44) ∧ (th 44) ≤ 30 := (b0_44 hT :); have orn := rnd_b (th 10); obtain ⟨o0a, o0b⟩ := (hv15_1 : In _ _ _); obtain ⟨o1a, o1b⟩ := (hv14_1 : In _ _ _); obtain ⟨o2a, o2b⟩ := (hv17_1 : In _ _ _); obtain ⟨o3a, o3b⟩ := (hv20_1 : In _ _ _); obtain ⟨o4a, o4b⟩ := (hv23_1 : In _ _ _); obtain ⟨o5a, o5b⟩ := (hv25_1 : In _ _ _); obtain ⟨o6a, o6b⟩ := (hv36_1 : In _ _ _); obtain ⟨o7a, o7b⟩ := (hv47_1 : In _ _ _); obtain ⟨o8a, o8b⟩ := (hv48_1 : In _ _ _); obtain ⟨o9a, o9b⟩ := (hv53_1 : In _ _ _); obtain ⟨o10a, o10b⟩ := (hv55_1 : In _ _ _); omega)
            refine lv_irem hx hb dX11_ruled_47 (In.ne0 hb39 (by decide)) ?_
            refine lv_topi (fun x40 ex40 => ?_)
            have hb41 : In x40 0 5 := ex40 ▸ In.rem hb37 hb39 (by decide) (by decide) (by decide)
            refine lv_iload_n hx hb dX11_ruled_48 rfl (lv_at hl 1 rfl) ?_
            have hJ217 : ∀ (y217_l3 : Int32) (H : Heap) (locs : List Loc) (ls : Array Slot), In y217_l3 (-2147483648) 2147483647 → va_P g.1 vwCl (va_pl L f3) H → va_D A (va_pl L f3) → va_S A s.heap H locs → lv_has ls 8 [(0, .ref (ad 255)), (1, .int z1), (2, .int z2), (3, .int y217_l3), (4, .int y32_l4)] → W p l e rm_X11_ruled s m [.ref (ad 255), .int z1, .int z2].toArray below meth c H locs 0 0 (MQ below (va_Qi (po_X11_ruled g ad th L f z1 z2) (PstB g A) A) [.ref (ad 255), .int z1, .int z2].toArray s rm_X11_ruled.cells rm_X11_ruled.slots A) (F0 m 217 ls []) := by
              intro y217_l3 H locs ls hy217_l3 hP hD hS hl
              obtain ⟨x42, ex42⟩ : ∃ y : Int32, y = y32_l4 + 1 := ⟨_, rfl⟩
              have hb43 : In x42 1 6 := ex42 ▸ In.add hb37 (⟨by decide, by decide⟩ : In 1 1 1) (by decide) (by decide) (by decide) (by decide)
              have et44 : x42.toInt = y32_l4.toInt + 1 := In.adde ex42 hb37 (k := 1) (by decide) (by decide) (by decide)
              refine lv_iinc (v := x42) (lv' := [(4, .int x42), (0, .ref (ad 255)), (1, .int z1), (2, .int z2), (3, .int y217_l3)]) hx hb dX11_ruled_217 hl (k := 4) rfl (by rw [ex42]; rfl) (by decide) rfl (fun ls hl => ?_)
              refine lv_goto (tgt := 32) hx hb dX11_ruled_220 (by decide) ?_
              exact ih32 y217_l3 x42 _ _ _ hy217_l3 (In.mono hb43 (by decide) (by decide)) hP hD hS (lv_sub hl [1, 2, 3, 4, 0] rfl) (msu et44 (by decide) hmz32)
            refine lv_icmp_eq (tgt := 55) hx hb dX11_ruled_49 (by decide) (fun c45 => ?_) (fun c45 => ?_)
            ·
              have cc46 : x40.toInt = z1.toInt := congrArg Int32.toInt c45
              have hb47 : In z1 0 5 := In.eq2 hb41 hb17 cc46 (by decide) (by decide)
              refine lv_iload_n hx hb dX11_ruled_55 rfl (lv_at hl 2 rfl) ?_
              have hJ62 : ∀ (y62_l3 : Int32) (H : Heap) (locs : List Loc) (ls : Array Slot), In y62_l3 (-2147483648) 2147483647 → va_P g.1 vwCl (va_pl L f3) H → va_D A (va_pl L f3) → va_S A s.heap H locs → lv_has ls 8 [(0, .ref (ad 255)), (1, .int z1), (2, .int z2), (3, .int y62_l3), (4, .int y32_l4)] → W p l e rm_X11_ruled s m [.ref (ad 255), .int z1, .int z2].toArray below meth c H locs 0 0 (MQ below (va_Qi (po_X11_ruled g ad th L f z1 z2) (PstB g A) A) [.ref (ad 255), .int z1, .int z2].toArray s rm_X11_ruled.cells rm_X11_ruled.slots A) (F0 m 62 ls []) := by
                intro y62_l3 H locs ls hy62_l3 hP hD hS hl
                refine lv_iload_n hx hb dX11_ruled_62 rfl (lv_at hl 2 rfl) ?_
                refine lv_iconst (v := 1) hx hb dX11_ruled_63 (by decide) ?_
                have hJ79 : ∀ (y79_l3 : Int32) (H : Heap) (locs : List Loc) (ls : Array Slot), In y79_l3 (-2147483648) 2147483647 → va_P g.1 vwCl (va_pl L f3) H → va_D A (va_pl L f3) → va_S A s.heap H locs → lv_has ls 8 [(0, .ref (ad 255)), (1, .int z1), (2, .int z2), (3, .int y79_l3), (4, .int y32_l4)] → W p l e rm_X11_ruled s m [.ref (ad 255), .int z1, .int z2].toArray below meth c H locs 0 0 (MQ below (va_Qi (po_X11_ruled g ad th L f z1 z2) (PstB g A) A) [.ref (ad 255), .int z1, .int z2].toArray s rm_X11_ruled.cells rm_X11_ruled.slots A) (F0 m 79 ls []) := by
                  intro y79_l3 H locs ls hy79_l3 hP hD hS hl
                  refine lv_iconst (v := 0) hx hb dX11_ruled_79 (by decide) ?_
                  refine lv_istore (lv' := [(5, .int 0), (0, .ref (ad 255)), (1, .int z1), (2, .int z2), (3, .int y79_l3), (4, .int y32_l4)]) hx hb dX11_ruled_80 hl (by decide) rfl (fun ls hl => ?_)
                  have hJ82 : ∀ (k82 : Nat) (y82_l3 : Int32) (y82_l5 : Int32) (H : Heap) (locs : List Loc) (ls : Array Slot), In y82_l3 (-2147483648) 2147483647 → In y82_l5 0 9 → va_P g.1 vwCl (va_pl L f3) H → va_D A (va_pl L f3) → va_S A s.heap H locs → lv_has ls 8 [(0, .ref (ad 255)), (1, .int z1), (2, .int z2), (3, .int y82_l3), (4, .int y32_l4), (5, .int y82_l5)] → 9 - y82_l5.toInt < ((k82 : Nat) : Int) → W p l e rm_X11_ruled s m [.ref (ad 255), .int z1, .int z2].toArray below meth c H locs 0 0 (MQ below (va_Qi (po_X11_ruled g ad th L f z1 z2) (PstB g A) A) [.ref (ad 255), .int z1, .int z2].toArray s rm_X11_ruled.cells rm_X11_ruled.slots A) (F0 m 82 ls []) := by
                    intro k82
                    induction k82 with
                    | zero =>
                      intro y82_l3 y82_l5 H locs ls hy82_l3 hy82_l5 hP hD hS hl hmz82
                      exact ms0 hy82_l5 hmz82
                    | succ k82 ih82 =>
                      intro y82_l3 y82_l5 H locs ls hy82_l3 hy82_l5 hP hD hS hl hmz82
                      refine lv_iload hx hb dX11_ruled_82 (lv_at hl 5 rfl) ?_
                      refine lv_aload_n hx hb dX11_ruled_84 rfl (lv_at hl 0 rfl) ?_
                      refine pl_get (v := .int v15_1) hx hb hts (fun w h => mT (inX11 w h)) hown hG.1 hP (hst.1 255 (by decide)) hf4 rfl 15 (by decide) (hts _ (mT wg_1351)) (fun _ h => h) rfl dX11_ruled_85 ?_
                      refine lv_icmp_ge (tgt := 217) hx hb dX11_ruled_88 (by decide) (fun c48 => ?_) (fun c48 => ?_)
                      ·
                        have cc49 : v15_1.toInt ≤ y82_l5.toInt := i32_le.mp c48
                        have hb50 : In y82_l5 1 9 := In.ge1 hy82_l5 hb39 cc49 (by decide) (by decide)
                        exact hJ217 y82_l3 _ _ _ hy82_l3 hP hD hS (lv_sub hl [0, 1, 2, 3, 4] rfl)
                      ·
                        have cc51 : y82_l5.toInt < v15_1.toInt := i32_nle c48
                        have hb52 : In y82_l5 0 8 := In.lt1 hy82_l5 hb39 cc51 (by decide) (by decide)
                        refine lv_iload_n hx hb dX11_ruled_91 rfl (lv_at hl 2 rfl) ?_
                        refine lv_iconst (v := 1) hx hb dX11_ruled_92 (by decide) ?_
                        refine lv_icmp_le (tgt := 217) hx hb dX11_ruled_93 (by decide) (fun c53 => ?_) (fun c53 => ?_)
                        ·
                          have oc1 : (1 : Int32).toInt = 1 := by decide
                          have cc54 : z2.toInt ≤ (1 : Int32).toInt := i32_le.mp c53
                          have hb55 : In z2 0 1 := In.le1 hb27 (⟨by decide, by decide⟩ : In 1 1 1) cc54 (by decide) (by decide)
                          exact hJ217 y82_l3 _ _ _ hy82_l3 hP hD hS (lv_sub hl [0, 1, 2, 3, 4] rfl)
                        ·
                          have oc1 : (1 : Int32).toInt = 1 := by decide
                          have cc56 : (1 : Int32).toInt < z2.toInt := i32_nle c53
                          have hb57 : In z2 2 3 := In.gt1 hb27 (⟨by decide, by decide⟩ : In 1 1 1) cc56 (by decide) (by decide)
                          refine lv_aload_n hx hb dX11_ruled_96 rfl (lv_at hl 0 rfl) ?_
                          refine pl_get (v := .ref (ad 271)) hx hb hts (fun w h => mT (inX11 w h)) hown hG.1 hP (hst.1 255 (by decide)) hf4 rfl 41 (by decide) (hts _ (mT wg_1377)) (fun _ h => h) rfl dX11_ruled_97 ?_
                          refine lv_bipush (v := 80) hx hb dX11_ruled_100 (by decide) ?_
                          refine lv_bipush (v := 81) hx hb dX11_ruled_102 (by decide) ?_
                          refine lv_iconst (v := 3) hx hb dX11_ruled_104 (by decide) ?_
                          refine lv_iload hx hb dX11_ruled_105 (lv_at hl 4 rfl) ?_
                          refine lv_imul hx hb dX11_ruled_107 ?_
                          refine lv_topi (fun x58 ex58 => ?_)
                          have hb59 : In x58 0 15 := ex58 ▸ In.mul (⟨by decide, by decide⟩ : In 3 3 3) hb37 (by decide) (by decide) (by decide) (by decide) (by decide)
                          have et60 : x58.toInt = 3 * y32_l4.toInt := In.mule ex58 (⟨by decide, by decide⟩ : In 3 3 3) hb37 (by decide) (by decide) (by decide) (by decide) rfl
                          refine lv_aload_n hx hb dX11_ruled_108 rfl (lv_at hl 0 rfl) ?_
                          refine call_i (run_V (rm := rm_X11_each) hx hb hml hown hts (s_X11_each l g ad th _ _ _  hst hT ) cV_X11_each wg_1636 ⟨Nat.le_of_ble_eq_true rfl, Nat.le_of_ble_eq_true rfl⟩ hG hE hA hP hD hS (hst.1 255 (by decide)) hf4 rfl rfl hl.1 (As := []) (rest := [.int x58, .int 81, .int 80, .ref (ad 271)]) rfl (Nat.le_of_ble_eq_true rfl) dX11_ruled_109 ⟨Nat.le_of_ble_eq_true rfl, Nat.le_of_ble_eq_true rfl⟩) hA hD hS (fun r61 L62 f63 H locs hp64 hP hD hS => ?_)
                          obtain ⟨eL65L, eL65T, eL65R, eL65X0⟩ := hp64
                          have eL65L : L62 = L := eL65L
                          have eL65T : f63 = f3 := eL65T
                          rw [eL65L, eL65T] at hP hD
                          have eL65R : In r61 2 3 := eL65R
                          have hrn66 : r61.toInt = rnd (th 10) := eL65X0
                          refine lv_iadd hx hb dX11_ruled_112 ?_
                          refine lv_topi (fun x67 ex67 => ?_)
                          have hb68 : In x67 2 18 := ex67 ▸ In.add hb59 eL65R (by decide) (by decide) (by decide) (by decide)
                          have et69 : x67.toInt = x58.toInt + r61.toInt := In.add2e ex67 hb59 eL65R (by decide) (by decide)
                          refine lv_iconst (v := 1) hx hb dX11_ruled_113 (by decide) ?_
                          refine lv_isub hx hb dX11_ruled_114 ?_
                          refine lv_topi (fun x70 ex70 => ?_)
                          have hb71 : In x70 1 17 := ex70 ▸ In.sub hb68 (⟨by decide, by decide⟩ : In 1 1 1) (by decide) (by decide) (by decide) (by decide)
                          have et72 : x70.toInt = x67.toInt + (-1) := In.sube ex70 hb68 (k := 1) (by decide) (by decide) (by decide)
                          refine lv_imul hx hb dX11_ruled_115 ?_
                          refine lv_topi (fun x73 ex73 => ?_)
                          have hb74 : In x73 81 1377 := ex73 ▸ In.mul (⟨by decide, by decide⟩ : In 81 81 81) hb71 (by decide) (by decide) (by decide) (by decide) (by decide)
                          have et75 : x73.toInt = 81 * x70.toInt := In.mule ex73 (⟨by decide, by decide⟩ : In 81 81 81) hb71 (by decide) (by decide) (by decide) (by decide) rfl
                          refine lv_iadd hx hb dX11_ruled_116 ?_
                          refine lv_topi (fun x76 ex76 => ?_)
                          have hb77 : In x76 161 1457 := ex76 ▸ In.add (⟨by decide, by decide⟩ : In 80 80 80) hb74 (by decide) (by decide) (by decide) (by decide)
                          have et78 : x76.toInt = (80 : Int32).toInt + x73.toInt := In.add2e ex76 (⟨by decide, by decide⟩ : In 80 80 80) hb74 (by decide) (by decide)
                          refine lv_bipush (v := 9) hx hb dX11_ruled_117 (by decide) ?_
                          refine lv_iload_n hx hb dX11_ruled_119 rfl (lv_at hl 1 rfl) ?_
                          refine lv_imul hx hb dX11_ruled_120 ?_
                          refine lv_topi (fun x79 ex79 => ?_)
                          have hb80 : In x79 0 45 := ex79 ▸ In.mul (⟨by decide, by decide⟩ : In 9 9 9) hb47 (by decide) (by decide) (by decide) (by decide) (by decide)
                          have et81 : x79.toInt = 9 * z1.toInt := In.mule ex79 (⟨by decide, by decide⟩ : In 9 9 9) hb47 (by decide) (by decide) (by decide) (by decide) rfl
                          refine lv_iadd hx hb dX11_ruled_121 ?_
                          refine lv_topi (fun x82 ex82 => ?_)
                          have hb83 : In x82 161 1502 := ex82 ▸ In.add hb77 hb80 (by decide) (by decide) (by decide) (by decide)
                          have et84 : x82.toInt = x76.toInt + x79.toInt := In.add2e ex82 hb77 hb80 (by decide) (by decide)
                          refine lv_iload hx hb dX11_ruled_122 (lv_at hl 5 rfl) ?_
                          refine lv_iadd hx hb dX11_ruled_124 ?_
                          refine lv_topi (fun x85 ex85 => ?_)
                          have hb86 : In x85 161 1510 := ex85 ▸ In.add hb83 hb52 (by decide) (by decide) (by decide) (by decide)
                          have et87 : x85.toInt = x82.toInt + y82_l5.toInt := In.add2e ex85 hb83 hb52 (by decide) (by decide)
                          obtain ⟨rw88, hf89, hpi91, hc90⟩ := hT.2.2 16 (by decide)
                          have hc90 : PRW 2126 (th 22) (th 20) (th 21) rw88 := hc90
                          have hpi91 : ((72 : Int) < (th 22) → (rw88 72).toInt = th 19) := hpi91
                          have hin92 : vp_in x85 2126 := In.inb hb86 (by decide) (by decide)
                          refine pl_iald hx hb hG.1 hP (hst.1 271 (by decide)) 0 hf89 rfl hin92 dX11_ruled_125 ?_
                          refine lv_topi (fun x93 ex93 => ?_)
                          refine lv_istore (lv' := [(6, .int x93), (0, .ref (ad 255)), (1, .int z1), (2, .int z2), (3, .int y82_l3), (4, .int y32_l4), (5, .int y82_l5)]) hx hb dX11_ruled_126 hl (by decide) rfl (fun ls hl => ?_)
                          refine lv_iload hx hb dX11_ruled_128 (lv_at hl 6 rfl) ?_
                          refine lv_iload_n hx hb dX11_ruled_130 rfl (lv_at hl 2 rfl) ?_
                          have hJ211 : ∀ (y211_l3 : Int32) (H : Heap) (locs : List Loc) (ls : Array Slot), In y211_l3 (-2147483648) 2147483647 → va_P g.1 vwCl (va_pl L f3) H → va_D A (va_pl L f3) → va_S A s.heap H locs → lv_has ls 8 [(0, .ref (ad 255)), (1, .int z1), (2, .int z2), (3, .int y211_l3), (4, .int y32_l4), (5, .int y82_l5), (6, .int x93)] → W p l e rm_X11_ruled s m [.ref (ad 255), .int z1, .int z2].toArray below meth c H locs 0 0 (MQ below (va_Qi (po_X11_ruled g ad th L f z1 z2) (PstB g A) A) [.ref (ad 255), .int z1, .int z2].toArray s rm_X11_ruled.cells rm_X11_ruled.slots A) (F0 m 211 ls []) := by
                            intro y211_l3 H locs ls hy211_l3 hP hD hS hl
                            obtain ⟨x94, ex94⟩ : ∃ y : Int32, y = y82_l5 + 1 := ⟨_, rfl⟩
                            have hb95 : In x94 1 9 := ex94 ▸ In.add hb52 (⟨by decide, by decide⟩ : In 1 1 1) (by decide) (by decide) (by decide) (by decide)
                            have et96 : x94.toInt = y82_l5.toInt + 1 := In.adde ex94 hb52 (k := 1) (by decide) (by decide) (by decide)
                            refine lv_iinc (v := x94) (lv' := [(5, .int x94), (0, .ref (ad 255)), (1, .int z1), (2, .int z2), (3, .int y211_l3), (4, .int y32_l4), (6, .int x93)]) hx hb dX11_ruled_211 hl (k := 5) rfl (by rw [ex94]; rfl) (by decide) rfl (fun ls hl => ?_)
                            refine lv_goto (tgt := 82) hx hb dX11_ruled_214 (by decide) ?_
                            exact ih82 y211_l3 x94 _ _ _ hy211_l3 (In.mono hb95 (by decide) (by decide)) hP hD hS (lv_sub hl [1, 2, 3, 4, 5, 0] rfl) (msu et96 (by decide) hmz82)
                          refine lv_icmp_ne (tgt := 137) hx hb dX11_ruled_131 (by decide) (fun c97 => ?_) (fun c97 => ?_)
                          ·
                            have cc98 : y82_l5.toInt ≠ z1.toInt := i32_ne c97
                            refine lv_iload_n hx hb dX11_ruled_137 rfl (lv_at hl 3 rfl) ?_
                            refine lv_iconst (v := 3) hx hb dX11_ruled_138 (by decide) ?_
                            have hJ196 : ∀ (y196_s0 : Int32) (H : Heap) (locs : List Loc) (ls : Array Slot), In y196_s0 0 1 → va_P g.1 vwCl (va_pl L f3) H → va_D A (va_pl L f3) → va_S A s.heap H locs → lv_has ls 8 [(0, .ref (ad 255)), (1, .int z1), (2, .int z2), (3, .int y82_l3), (4, .int y32_l4), (5, .int y82_l5), (6, .int x93)] → W p l e rm_X11_ruled s m [.ref (ad 255), .int z1, .int z2].toArray below meth c H locs 0 0 (MQ below (va_Qi (po_X11_ruled g ad th L f z1 z2) (PstB g A) A) [.ref (ad 255), .int z1, .int z2].toArray s rm_X11_ruled.cells rm_X11_ruled.slots A) (F0 m 196 ls [.int y196_s0]) := by
                              intro y196_s0 H locs ls hy196_s0 hP hD hS hl
                              refine lv_istore (lv' := [(7, .int y196_s0), (0, .ref (ad 255)), (1, .int z1), (2, .int z2), (3, .int y82_l3), (4, .int y32_l4), (5, .int y82_l5), (6, .int x93)]) hx hb dX11_ruled_196 hl (by decide) rfl (fun ls hl => ?_)
                              refine lv_iload_n hx hb dX11_ruled_198 rfl (lv_at hl 4 rfl) ?_
                              refine lv_iload hx hb dX11_ruled_199 (lv_at hl 0 rfl) ?_
                              have hJ209 : ∀ (y209_s0 : Int32) (H : Heap) (locs : List Loc) (ls : Array Slot), In y209_s0 0 1 → va_P g.1 vwCl (va_pl L f3) H → va_D A (va_pl L f3) → va_S A s.heap H locs → lv_has ls 8 [(0, .ref (ad 255)), (1, .int z1), (2, .int z2), (3, .int y82_l3), (4, .int y32_l4), (5, .int y82_l5), (6, .int x93), (7, .int y196_s0)] → W p l e rm_X11_ruled s m [.ref (ad 255), .int z1, .int z2].toArray below meth c H locs 0 0 (MQ below (va_Qi (po_X11_ruled g ad th L f z1 z2) (PstB g A) A) [.ref (ad 255), .int z1, .int z2].toArray s rm_X11_ruled.cells rm_X11_ruled.slots A) (F0 m 209 ls [.int y209_s0, .int y82_l3]) := by
                                intro y209_s0 H locs ls hy209_s0 hP hD hS hl
                                refine lv_iadd hx hb dX11_ruled_209 ?_
                                refine lv_topi (fun x99 ex99 => ?_)
                                refine lv_istore_n (lv' := [(3, .int x99), (0, .ref (ad 255)), (1, .int z1), (2, .int z2), (4, .int y32_l4), (5, .int y82_l5), (6, .int x93), (7, .int y196_s0)]) hx hb dX11_ruled_210 rfl hl (by decide) rfl (fun ls hl => ?_)
                                exact hJ211 x99 _ _ _ (In.full x99) hP hD hS (lv_sub hl [1, 2, 3, 0, 4, 5, 6] rfl)
                              refine lv_if_eq (tgt := 208) hx hb dX11_ruled_201 (by decide) (fun c100 => ?_) (fun c100 => ?_)
                              ·
                                have oc0 : (0 : Int32).toInt = 0 := by decide
                                have cc101 : y196_s0.toInt = (0 : Int32).toInt := congrArg Int32.toInt c100
                                have hb102 : In y196_s0 0 0 := In.eq1 hy196_s0 (⟨by decide, by decide⟩ : In 0 0 0) cc101 (by decide) (by decide)
                                refine lv_iconst (v := 0) hx hb dX11_ruled_208 (by decide) ?_
                                exact hJ209 0 _ _ _ (⟨by decide, by decide⟩ : In 0 0 1) hP hD hS (lv_sub hl [1, 2, 3, 4, 5, 6, 7, 0] rfl)
                              ·
                                have oc0 : (0 : Int32).toInt = 0 := by decide
                                have cc103 : y196_s0.toInt ≠ (0 : Int32).toInt := i32_ne c100
                                have hb104 : In y196_s0 1 1 := In.ne1 hy196_s0 (⟨by decide, by decide⟩ : In 0 0 0) cc103 (by decide) (by decide)
                                refine lv_iconst (v := 1) hx hb dX11_ruled_204 (by decide) ?_
                                refine lv_goto (tgt := 209) hx hb dX11_ruled_205 (by decide) ?_
                                exact hJ209 1 _ _ _ (⟨by decide, by decide⟩ : In 1 0 1) hP hD hS (lv_sub hl [1, 2, 3, 4, 5, 6, 7, 0] rfl)
                            refine lv_icmp_ne (tgt := 156) hx hb dX11_ruled_139 (by decide) (fun c105 => ?_) (fun c105 => ?_)
                            ·
                              have oc3 : (3 : Int32).toInt = 3 := by decide
                              have cc106 : z2.toInt ≠ (3 : Int32).toInt := i32_ne c105
                              have hb107 : In z2 2 2 := In.ne1 hb57 (⟨by decide, by decide⟩ : In 3 3 3) cc106 (by decide) (by decide)
                              refine lv_aload_n hx hb dX11_ruled_156 rfl (lv_at hl 1 rfl) ?_
                              refine pl_get (v := .ref (ad 271)) hx hb hts (fun w h => mT (inX11 w h)) hown hG.1 hP (hst.1 255 (by decide)) hf4 rfl 41 (by decide) (hts _ (mT wg_1377)) (fun _ h => h) rfl dX11_ruled_157 ?_
                              refine lv_iload hx hb dX11_ruled_160 (lv_at hl 5 rfl) ?_
                              refine lv_iload hx hb dX11_ruled_162 (lv_at hl 6 rfl) ?_
                              refine call_i (run_S (rm := rm_X11_toldAt) hx hb hml hown hts (s_X11_toldAt l g ad th _ _ _ y32_l4 y82_l5 hst hT hb37 hb52) cS_X11_toldAt wg_1699 ⟨Nat.le_of_ble_eq_true rfl, Nat.le_of_ble_eq_true rfl⟩ hG hE hA hP hD hS rfl hl.1 (As := [.int y32_l4, .int y82_l5]) (rest := [.ref (ad 271)]) rfl (Nat.le_of_ble_eq_true rfl) dX11_ruled_164 ⟨Nat.le_of_ble_eq_true rfl, Nat.le_of_ble_eq_true rfl⟩) hA hD hS (fun r108 L109 f110 H locs hp111 hP hD hS => ?_)
                              obtain ⟨eL112L, eL112T, eL112R⟩ := hp111
                              have eL112L : L109 = L := eL112L
                              have eL112T : f110 = f3 := eL112T
                              rw [eL112L, eL112T] at hP hD
                              have eL112R : In r108 1538 1962 := eL112R
                              refine lv_iconst (v := 1) hx hb dX11_ruled_167 (by decide) ?_
                              refine lv_iadd hx hb dX11_ruled_168 ?_
                              refine lv_topi (fun x113 ex113 => ?_)
                              have hb114 : In x113 1539 1963 := ex113 ▸ In.add eL112R (⟨by decide, by decide⟩ : In 1 1 1) (by decide) (by decide) (by decide) (by decide)
                              have et115 : x113.toInt = r108.toInt + 1 := In.adde ex113 eL112R (k := 1) (by decide) (by decide) (by decide)
                              have hin116 : vp_in x113 2126 := In.inb hb114 (by decide) (by decide)
                              refine pl_iald hx hb hG.1 hP (hst.1 271 (by decide)) 0 hf89 rfl hin116 dX11_ruled_169 ?_
                              refine lv_topi (fun x117 ex117 => ?_)
                              refine lv_iconst (v := 1) hx hb dX11_ruled_170 (by decide) ?_
                              have hJ195 : ∀ (H : Heap) (locs : List Loc) (ls : Array Slot), va_P g.1 vwCl (va_pl L f3) H → va_D A (va_pl L f3) → va_S A s.heap H locs → lv_has ls 8 [(0, .ref (ad 255)), (1, .int z1), (2, .int z2), (3, .int y82_l3), (4, .int y32_l4), (5, .int y82_l5), (6, .int x93)] → W p l e rm_X11_ruled s m [.ref (ad 255), .int z1, .int z2].toArray below meth c H locs 0 0 (MQ below (va_Qi (po_X11_ruled g ad th L f z1 z2) (PstB g A) A) [.ref (ad 255), .int z1, .int z2].toArray s rm_X11_ruled.cells rm_X11_ruled.slots A) (F0 m 195 ls []) := by
                                intro H locs ls hP hD hS hl
                                refine lv_iconst (v := 0) hx hb dX11_ruled_195 (by decide) ?_
                                exact hJ196 0 _ _ _ (⟨by decide, by decide⟩ : In 0 0 1) hP hD hS (lv_sub hl [0, 1, 2, 3, 4, 5, 6] rfl)
                              refine lv_icmp_ne (tgt := 195) hx hb dX11_ruled_171 (by decide) (fun c118 => ?_) (fun c118 => ?_)
                              ·
                                have oc1 : (1 : Int32).toInt = 1 := by decide
                                have cc119 : x117.toInt ≠ (1 : Int32).toInt := i32_ne c118
                                exact hJ195 _ _ _ hP hD hS (lv_sub hl [1, 2, 3, 4, 5, 6, 0] rfl)
                              ·
                                have oc1 : (1 : Int32).toInt = 1 := by decide
                                have cc120 : x117.toInt = (1 : Int32).toInt := congrArg Int32.toInt c118
                                have hb121 : In x117 1 1 := In.eq1 (In.full x117) (⟨by decide, by decide⟩ : In 1 1 1) cc120 (by decide) (by decide)
                                refine lv_iload hx hb dX11_ruled_174 (lv_at hl 0 rfl) ?_
                                refine lv_aload_n hx hb dX11_ruled_176 rfl (lv_at hl 1 rfl) ?_
                                refine pl_get (v := .ref (ad 271)) hx hb hts (fun w h => mT (inX11 w h)) hown hG.1 hP (hst.1 255 (by decide)) hf4 rfl 41 (by decide) (hts _ (mT wg_1377)) (fun _ h => h) rfl dX11_ruled_177 ?_
                                refine lv_iload hx hb dX11_ruled_180 (lv_at hl 5 rfl) ?_
                                refine lv_iload hx hb dX11_ruled_182 (lv_at hl 6 rfl) ?_
                                refine call_i (run_S (rm := rm_X11_toldAt) hx hb hml hown hts (s_X11_toldAt l g ad th _ _ _ y32_l4 y82_l5 hst hT hb37 hb52) cS_X11_toldAt wg_1699 ⟨Nat.le_of_ble_eq_true rfl, Nat.le_of_ble_eq_true rfl⟩ hG hE hA hP hD hS rfl hl.1 (As := [.int y32_l4, .int y82_l5]) (rest := [.ref (ad 271), .int x93]) rfl (Nat.le_of_ble_eq_true rfl) dX11_ruled_184 ⟨Nat.le_of_ble_eq_true rfl, Nat.le_of_ble_eq_true rfl⟩) hA hD hS (fun r122 L123 f124 H locs hp125 hP hD hS => ?_)
                                obtain ⟨eL126L, eL126T, eL126R⟩ := hp125
                                have eL126L : L123 = L := eL126L
                                have eL126T : f124 = f3 := eL126T
                                rw [eL126L, eL126T] at hP hD
                                have eL126R : In r122 1538 1962 := eL126R
                                have hin127 : vp_in r122 2126 := In.inb eL126R (by decide) (by decide)
                                refine pl_iald hx hb hG.1 hP (hst.1 271 (by decide)) 0 hf89 rfl hin127 dX11_ruled_187 ?_
                                refine lv_topi (fun x128 ex128 => ?_)
                                refine lv_icmp_eq (tgt := 195) hx hb dX11_ruled_188 (by decide) (fun c129 => ?_) (fun c129 => ?_)
                                ·
                                  have cc130 : x93.toInt = x128.toInt := congrArg Int32.toInt c129
                                  exact hJ195 _ _ _ hP hD hS (lv_sub hl [1, 2, 3, 4, 5, 6, 0] rfl)
                                ·
                                  have cc131 : x93.toInt ≠ x128.toInt := i32_ne c129
                                  refine lv_iconst (v := 1) hx hb dX11_ruled_191 (by decide) ?_
                                  refine lv_goto (tgt := 196) hx hb dX11_ruled_192 (by decide) ?_
                                  exact hJ196 1 _ _ _ (⟨by decide, by decide⟩ : In 1 0 1) hP hD hS (lv_sub hl [1, 2, 3, 4, 5, 6, 0] rfl)
                            ·
                              have oc3 : (3 : Int32).toInt = 3 := by decide
                              have cc132 : z2.toInt = (3 : Int32).toInt := congrArg Int32.toInt c105
                              have hb133 : In z2 3 3 := In.eq1 hb57 (⟨by decide, by decide⟩ : In 3 3 3) cc132 (by decide) (by decide)
                              refine lv_iload hx hb dX11_ruled_142 (lv_at hl 0 rfl) ?_
                              refine lv_iconst (v := 2) hx hb dX11_ruled_144 (by decide) ?_
                              refine lv_icmp_eq (tgt := 152) hx hb dX11_ruled_145 (by decide) (fun c134 => ?_) (fun c134 => ?_)
                              ·
                                have oc2 : (2 : Int32).toInt = 2 := by decide
                                have cc135 : x93.toInt = (2 : Int32).toInt := congrArg Int32.toInt c134
                                have hb136 : In x93 2 2 := In.eq1 (In.full x93) (⟨by decide, by decide⟩ : In 2 2 2) cc135 (by decide) (by decide)
                                refine lv_iconst (v := 0) hx hb dX11_ruled_152 (by decide) ?_
                                refine lv_goto (tgt := 196) hx hb dX11_ruled_153 (by decide) ?_
                                exact hJ196 0 _ _ _ (⟨by decide, by decide⟩ : In 0 0 1) hP hD hS (lv_sub hl [1, 2, 3, 4, 5, 6, 0] rfl)
                              ·
                                have oc2 : (2 : Int32).toInt = 2 := by decide
                                have cc137 : x93.toInt ≠ (2 : Int32).toInt := i32_ne c134
                                refine lv_iconst (v := 1) hx hb dX11_ruled_148 (by decide) ?_
                                refine lv_goto (tgt := 196) hx hb dX11_ruled_149 (by decide) ?_
                                exact hJ196 1 _ _ _ (⟨by decide, by decide⟩ : In 1 0 1) hP hD hS (lv_sub hl [1, 2, 3, 4, 5, 6, 0] rfl)
                          ·
                            have cc138 : y82_l5.toInt = z1.toInt := congrArg Int32.toInt c97
                            have hb139 : In y82_l5 0 5 := In.eq1 hb52 hb47 cc138 (by decide) (by decide)
                            refine lv_goto (tgt := 211) hx hb dX11_ruled_134 (by decide) ?_
                            exact hJ211 y82_l3 _ _ _ hy82_l3 hP hD hS (lv_sub hl [1, 2, 3, 4, 5, 6, 0] rfl)
                  exact hJ82 ((9 - (0 : Int32).toInt).toNat + 1) y79_l3 0 _ _ _ hy79_l3 (⟨by decide, by decide⟩ : In 0 0 9) hP hD hS (lv_sub hl [1, 2, 3, 4, 5, 0] rfl) (msI _)
                refine lv_icmp_ne (tgt := 79) hx hb dX11_ruled_64 (by decide) (fun c140 => ?_) (fun c140 => ?_)
                ·
                  have oc1 : (1 : Int32).toInt = 1 := by decide
                  have cc141 : z2.toInt ≠ (1 : Int32).toInt := i32_ne c140
                  exact hJ79 y62_l3 _ _ _ hy62_l3 hP hD hS (lv_sub hl [0, 1, 2, 3, 4] rfl)
                ·
                  have oc1 : (1 : Int32).toInt = 1 := by decide
                  have cc142 : z2.toInt = (1 : Int32).toInt := congrArg Int32.toInt c140
                  have hb143 : In z2 1 1 := In.eq1 hb27 (⟨by decide, by decide⟩ : In 1 1 1) cc142 (by decide) (by decide)
                  refine lv_iload_n hx hb dX11_ruled_67 rfl (lv_at hl 3 rfl) ?_
                  refine lv_aload_n hx hb dX11_ruled_68 rfl (lv_at hl 0 rfl) ?_
                  refine lv_iload hx hb dX11_ruled_69 (lv_at hl 4 rfl) ?_
                  refine lv_bipush (v := 7) hx hb dX11_ruled_71 (by decide) ?_
                  refine lv_iconst (v := 1) hx hb dX11_ruled_73 (by decide) ?_
                  refine call_i (run_V (rm := rm_X11_trueOf) hx hb hml hown hts (s_X11_trueOf l g ad th _ _ _ y32_l4 7 1 hst hT hb37 (⟨by decide, by decide⟩ : In 7 0 7)) cV_X11_trueOf wg_1896 ⟨Nat.le_of_ble_eq_true rfl, Nat.le_of_ble_eq_true rfl⟩ hG hE hA hP hD hS (hst.1 255 (by decide)) hf4 rfl rfl hl.1 (As := [.int y32_l4, .int 7, .int 1]) (rest := [.int y62_l3]) rfl (Nat.le_of_ble_eq_true rfl) dX11_ruled_74 ⟨Nat.le_of_ble_eq_true rfl, Nat.le_of_ble_eq_true rfl⟩) hA hD hS (fun r144 L145 f146 H locs hp147 hP hD hS => ?_)
                  obtain ⟨eL148L, eL148T⟩ := hp147
                  have eL148L : L145 = L := eL148L
                  have eL148T : f146 = f3 := eL148T
                  rw [eL148L, eL148T] at hP hD
                  refine lv_iadd hx hb dX11_ruled_77 ?_
                  refine lv_topi (fun x149 ex149 => ?_)
                  refine lv_istore_n (lv' := [(3, .int x149), (0, .ref (ad 255)), (1, .int z1), (2, .int z2), (4, .int y32_l4)]) hx hb dX11_ruled_78 rfl hl (by decide) rfl (fun ls hl => ?_)
                  exact hJ79 x149 _ _ _ (In.full x149) hP hD hS (lv_sub hl [1, 2, 3, 0, 4] rfl)
              refine lv_if_ne (tgt := 62) hx hb dX11_ruled_56 (by decide) (fun c150 => ?_) (fun c150 => ?_)
              ·
                have oc0 : (0 : Int32).toInt = 0 := by decide
                have cc151 : z2.toInt ≠ (0 : Int32).toInt := i32_ne c150
                have hb152 : In z2 1 3 := In.ne1 hb27 (⟨by decide, by decide⟩ : In 0 0 0) cc151 (by decide) (by decide)
                exact hJ62 y32_l3 _ _ _ hy32_l3 hP hD hS (lv_sub hl [0, 1, 2, 3, 4] rfl)
              ·
                have oc0 : (0 : Int32).toInt = 0 := by decide
                have cc153 : z2.toInt = (0 : Int32).toInt := congrArg Int32.toInt c150
                have hb154 : In z2 0 0 := In.eq1 hb27 (⟨by decide, by decide⟩ : In 0 0 0) cc153 (by decide) (by decide)
                obtain ⟨x155, ex155⟩ : ∃ y : Int32, y = y32_l3 + 1 := ⟨_, rfl⟩
                refine lv_iinc (v := x155) (lv' := [(3, .int x155), (0, .ref (ad 255)), (1, .int z1), (2, .int z2), (4, .int y32_l4)]) hx hb dX11_ruled_59 hl (k := 3) rfl (by rw [ex155]; rfl) (by decide) rfl (fun ls hl => ?_)
                exact hJ62 x155 _ _ _ (In.full x155) hP hD hS (lv_sub hl [1, 2, 3, 0, 4] rfl)
            ·
              have cc156 : x40.toInt ≠ z1.toInt := i32_ne c45
              refine lv_goto (tgt := 217) hx hb dX11_ruled_52 (by decide) ?_
              exact hJ217 y32_l3 _ _ _ hy32_l3 hP hD hS (lv_sub hl [0, 1, 2, 3, 4] rfl)
      exact hJ32 ((6 - (0 : Int32).toInt).toNat + 1) 0 0 _ _ _ (⟨by decide, by decide⟩ : In 0 (-2147483648) 2147483647) (⟨by decide, by decide⟩ : In 0 0 6) hP hD hS (lv_sub hl [2, 3, 4, 1, 0] rfl) (msI _)
    ·
      have oc0 : (0 : Int32).toInt = 0 := by decide
      have cc157 : r18.toInt = (0 : Int32).toInt := congrArg Int32.toInt c24
      have hb158 : In r18 0 0 := In.eq1 eL22R (⟨by decide, by decide⟩ : In 0 0 0) cc157 (by decide) (by decide)
      refine lv_iconst (v := (-1)) hx hb dX11_ruled_25 (by decide) ?_
      exact ret_i (ty := .int) hx hb hr hlocks (rfl) hP hD hS (Nat.le_of_ble_eq_true rfl) (Nat.le_of_ble_eq_true rfl) (⟨rfl, hT, hfr⟩) dX11_ruled_26

abbrev rm_X11_fault : Room := { frames := 8, cells := 0, slots := 0, locals := 172 }
abbrev po_X11_fault (g : GG) (ad : Nat → Nat) (th : Nat → Int) (L : List Nat) (f : HP) (z1 : Int32) : Int32 → (List Nat × HP) → Prop := fun r u => u.1 = L ∧ (∃ th' : Nat → Int, (MI th' ∧ SBM th th') ∧ TI g ad th' u.2) ∧ (∀ b, b ≠ (ad 255) → b ≠ (ad 257) → b ≠ (ad 259) → u.2 b = f b)
set_option maxHeartbeats 4000000 in
set_option maxRecDepth 100000 in
theorem s_X11_fault (l : Launch) (g : GG) (ad : Nat → Nat) (th : Nat → Int) (L : List Nat) (f : HP) (sz : Nat) (z1 : Int32) (hst : ST ad L) (hT : TI g ad th f) (hM : MI th) : MtI l g yX11_fault cX11_fault 2 (some .int) rm_X11_fault [.ref (ad 255), .int z1] L f sz (po_X11_fault g ad th L f z1) := by
  refine MtI.of (by decide +kernel) (Nat.le_of_ble_eq_true rfl) ?_
  intro p e s m below meth c A hEn hP hD hS ls hl
  obtain ⟨hx, hb, hr, hml, hown, hlocks, hts, hG, hA, hE, hnm⟩ := hEn
  have hown : s.vm.findClass "RulerWordModel" = some m.cls := hown
  have hl : lv_has ls 2 [(0, .ref (ad 255)), (1, .int z1)] := hl
  have hfr : (∀ b, b ≠ (ad 255) → b ≠ (ad 257) → b ≠ (ad 259) → f b = f b) := fun b z0_ z1_ z2_ => rfl
  have hM0 := hM
  obtain ⟨m1, m2, m3, m4, m5, m6, m7, m8, m9, m10⟩ := hM0
  have m20 := mi20 m2 m3
  refine lv_aload_n hx hb dX11_fault_0 rfl (lv_at hl 0 rfl) ?_
  refine lv_iconst (v := 0) hx hb dX11_fault_1 (by decide) ?_
  refine M0e hT (fun v0_1 v2_1 v3_1 v4_1 v5_1 v6_1 v8_1 v9_1 v12_1 v13_1 v14_1 v15_1 v16_1 v17_1 v18_1 v19_1 v20_1 v21_1 v22_1 v23_1 v25_1 v36_1 v37_1 v38_1 v39_1 v40_1 v45_1 v46_1 v47_1 v48_1 v50_1 v51_1 v53_1 v55_1 hf2 hv0_1 hv2_1 hg2_1 hv3_1 hg3_1 hv4_1 hg4_1 hv5_1 hg5_1 hv6_1 hg6_1 hv8_1 hg8_1 hv9_1 hg9_1 hv12_1 hv13_1 hg13_1 hv14_1 hg14_1 hv15_1 hg15_1 hv17_1 hg17_1 hv20_1 hg20_1 hv23_1 hg23_1 hv25_1 hg25_1 hv36_1 hg36_1 hv47_1 hg47_1 hv48_1 hg48_1 hv53_1 hg53_1 hv55_1 hg55_1 hrel0_1 => ?_)
  have hg15_1 : v15_1.toInt = th 11 := hg15_1
  have hg17_1 : v17_1.toInt = th 12 := hg17_1
  have hg20_1 : v20_1.toInt = th 14 := hg20_1
  refine pl_put (ty := .int) (v := .int 0) (fs' := [.int 0, .ref (ad 256), .int v2_1, .int v3_1, .int v4_1, .int v5_1, .int v6_1, .ref (ad 257), .int v8_1, .int v9_1, .ref (ad 258), .ref (ad 259), .int v12_1, .int v13_1, .int v14_1, .int v15_1, .int v16_1, .int v17_1, .int v18_1, .int v19_1, .int v20_1, .long v21_1, .long v22_1, .int v23_1, .ref (ad 260), .int v25_1, .ref (ad 261), .ref (ad 262), .ref (ad 263), .ref (ad 264), .ref (ad 265), .ref (ad 266), .ref (ad 267), .ref (ad 268), .ref (ad 269), .ref (ad 270), .int v36_1, .int v37_1, .int v38_1, .int v39_1, .int v40_1, .ref (ad 271), .ref (ad 272), .ref (ad 273), .ref (ad 274), .long v45_1, .long v46_1, .int v47_1, .int v48_1, .ref (ad 275), .int v50_1, .int v51_1, .ref (ad 276), .int v53_1, .ref (ad 277), .int v55_1]) hx hb hts (fun w h => mT (inX11 w h)) tyX11 tyX11_ok nmX11 hown hG.1 hP hD hS (hst.1 255 (by decide)) hf2 rfl 0 (by decide) (hts _ (mT wg_1336)) (fun _ h => h) rfl (by decide +kernel) (rfl) (rfl) (Nat.le_of_ble_eq_true rfl) rfl dX11_fault_2 (fun H locs f3 hf4 ho5 hP hD hS => ?_)
  have hfr : (∀ b, b ≠ (ad 255) → b ≠ (ad 257) → b ≠ (ad 259) → f3 b = f b) := fun b z0_ z1_ z2_ => (ho5 b z0_).trans (hfr b z0_ z1_ z2_)
  refine lv_iload_n hx hb dX11_fault_5 rfl (lv_at hl 1 rfl) ?_
  have hT := TI.updM hT hst (k := 0) (by decide) hf4 ho5 ⟨0, v2_1, v3_1, v4_1, v5_1, v6_1, v8_1, v9_1, v12_1, v13_1, v14_1, v15_1, v16_1, v17_1, v18_1, v19_1, v20_1, v21_1, v22_1, v23_1, v25_1, v36_1, v37_1, v38_1, v39_1, v40_1, v45_1, v46_1, v47_1, v48_1, v50_1, v51_1, v53_1, v55_1, rfl, (⟨by decide, by decide⟩ : In 0 0 1), hv2_1, hg2_1, hv3_1, hg3_1, hv4_1, hg4_1, hv5_1, hg5_1, hv6_1, hg6_1, hv8_1, hg8_1, hv9_1, hg9_1, hv12_1, hv13_1, hg13_1, hv14_1, hg14_1, hv15_1, hg15_1, hv17_1, hg17_1, hv20_1, hg20_1, hv23_1, hg23_1, hv25_1, hg25_1, hv36_1, hg36_1, hv47_1, hg47_1, hv48_1, hg48_1, hv53_1, hg53_1, hv55_1, hg55_1, hrel0_1⟩
  refine lv_if_ne (tgt := 16) hx hb dX11_fault_6 (by decide) (fun c6 => ?_) (fun c6 => ?_)
  ·
    have oc0 : (0 : Int32).toInt = 0 := by decide
    have cc7 : z1.toInt ≠ (0 : Int32).toInt := i32_ne c6
    refine lv_iload_n hx hb dX11_fault_16 rfl (lv_at hl 1 rfl) ?_
    refine lv_iconst (v := 1) hx hb dX11_fault_17 (by decide) ?_
    refine lv_icmp_ne (tgt := 28) hx hb dX11_fault_18 (by decide) (fun c8 => ?_) (fun c8 => ?_)
    ·
      have oc1 : (1 : Int32).toInt = 1 := by decide
      have cc9 : z1.toInt ≠ (1 : Int32).toInt := i32_ne c8
      refine lv_bipush (v := (-2)) hx hb dX11_fault_28 (by decide) ?_
      exact ret_i (ty := .int) hx hb hr hlocks (rfl) hP hD hS (Nat.le_of_ble_eq_true rfl) (Nat.le_of_ble_eq_true rfl) (⟨rfl, ⟨th, ⟨(show MI th from hM), (SBM.rf th)⟩, hT⟩, hfr⟩) dX11_fault_30
    ·
      have oc1 : (1 : Int32).toInt = 1 := by decide
      have cc10 : z1.toInt = (1 : Int32).toInt := congrArg Int32.toInt c8
      have hb11 : In z1 1 1 := In.eq1 (In.full z1) (⟨by decide, by decide⟩ : In 1 1 1) cc10 (by decide) (by decide)
      refine lv_aload_n hx hb dX11_fault_21 rfl (lv_at hl 0 rfl) ?_
      refine call_i (run_V (rm := rm_X11_readsPlan) hx hb hml hown hts (s_X11_readsPlan l g ad th _ _ _  hst hT ) cV_X11_readsPlan wg_1592 ⟨Nat.le_of_ble_eq_true rfl, Nat.le_of_ble_eq_true rfl⟩ hG hE hA hP hD hS (hst.1 255 (by decide)) hf4 rfl rfl hl.1 (As := []) (rest := []) rfl (Nat.le_of_ble_eq_true rfl) dX11_fault_22 ⟨Nat.le_of_ble_eq_true rfl, Nat.le_of_ble_eq_true rfl⟩) hA hD hS (fun r12 L13 f14 H locs hp15 hP hD hS => ?_)
      obtain ⟨eL16L, eL16T, eL16F, eL16R⟩ := hp15
      have eL16L : L13 = L := eL16L
      rw [eL16L] at hP hD
      obtain ⟨zz17, zz18, zz19, zz20, zz21, hzz17, eL16T⟩ := eL16T
      have hzz17 : True := hzz17
      have hT : TI g ad (gset (gset (gset (gset (gset th 37 zz17) 40 zz18) 41 zz19) 42 zz20) 36 zz21) f14 := eL16T
      have eL16F : ∀ b, b ≠ (ad 255) → b ≠ (ad 259) → f14 b = f3 b := eL16F
      have hfr : (∀ b, b ≠ (ad 255) → b ≠ (ad 257) → b ≠ (ad 259) → f14 b = f b) := fun b z0_ z1_ z2_ => (eL16F b z0_ z2_).trans (hfr b z0_ z1_ z2_)
      have eL16R : In r12 (-1) 500 := eL16R
      refine lv_goto (tgt := 30) hx hb dX11_fault_25 (by decide) ?_
      exact ret_i (ty := .int) hx hb hr hlocks (rfl) hP hD hS (Nat.le_of_ble_eq_true rfl) (Nat.le_of_ble_eq_true rfl) (⟨rfl, ⟨(gset (gset (gset (gset (gset th 37 zz17) 40 zz18) 41 zz19) 42 zz20) 36 zz21), ⟨(show MI (gset (gset (gset (gset (gset th 37 zz17) 40 zz18) 41 zz19) 42 zz20) 36 zz21) from ⟨m1, m2, (show th 20 = (th 12) * rnd (th 10) from m3), m4, m5, m6, m7, m8, m9, m10⟩), (SBM.set (k := 36) (SBM.set (k := 42) (SBM.set (k := 41) (SBM.set (k := 40) (SBM.set (k := 37) (SBM.rf th) (by decide)) (by decide)) (by decide)) (by decide)) (by decide))⟩, hT⟩, hfr⟩) dX11_fault_30
  ·
    have oc0 : (0 : Int32).toInt = 0 := by decide
    have cc22 : z1.toInt = (0 : Int32).toInt := congrArg Int32.toInt c6
    have hb23 : In z1 0 0 := In.eq1 (In.full z1) (⟨by decide, by decide⟩ : In 0 0 0) cc22 (by decide) (by decide)
    refine lv_aload_n hx hb dX11_fault_9 rfl (lv_at hl 0 rfl) ?_
    refine call_i (run_V (rm := rm_X11_readsCouncil) hx hb hml hown hts (s_X11_readsCouncil l g ad th _ _ _  hst hT ) cV_X11_readsCouncil wg_1525 ⟨Nat.le_of_ble_eq_true rfl, Nat.le_of_ble_eq_true rfl⟩ hG hE hA hP hD hS (hst.1 255 (by decide)) hf4 rfl rfl hl.1 (As := []) (rest := []) rfl (Nat.le_of_ble_eq_true rfl) dX11_fault_10 ⟨Nat.le_of_ble_eq_true rfl, Nat.le_of_ble_eq_true rfl⟩) hA hD hS (fun r24 L25 f26 H locs hp27 hP hD hS => ?_)
    obtain ⟨eL28L, eL28T, eL28F, eL28R⟩ := hp27
    have eL28L : L25 = L := eL28L
    rw [eL28L] at hP hD
    obtain ⟨zz29, zz30, zz31, zz32, zz33, zz34, zz35, zz36, hzz29, eL28T⟩ := eL28T
    have hT : TI g ad (gset (gset (gset (gset (gset (gset (gset (gset th 37 zz29) 40 zz30) 41 zz31) 42 zz32) 35 zz33) 30 zz34) 34 zz35) 43 zz36) f26 := eL28T
    have eL28F : ∀ b, b ≠ (ad 255) → b ≠ (ad 257) → f26 b = f3 b := eL28F
    have hfr : (∀ b, b ≠ (ad 255) → b ≠ (ad 257) → b ≠ (ad 259) → f26 b = f b) := fun b z0_ z1_ z2_ => (eL28F b z0_ z1_).trans (hfr b z0_ z1_ z2_)
    have eL28R : In r24 (-1) 500 := eL28R
    refine lv_goto (tgt := 30) hx hb dX11_fault_13 (by decide) ?_
    exact ret_i (ty := .int) hx hb hr hlocks (rfl) hP hD hS (Nat.le_of_ble_eq_true rfl) (Nat.le_of_ble_eq_true rfl) (⟨rfl, ⟨(gset (gset (gset (gset (gset (gset (gset (gset th 37 zz29) 40 zz30) 41 zz31) 42 zz32) 35 zz33) 30 zz34) 34 zz35) 43 zz36), ⟨(show MI (gset (gset (gset (gset (gset (gset (gset (gset th 37 zz29) 40 zz30) 41 zz31) 42 zz32) 35 zz33) 30 zz34) 34 zz35) 43 zz36) from ⟨m1, m2, (show th 20 = (th 12) * rnd (th 10) from m3), m4, m5, m6, m7, m8, m9, m10⟩), (SBM.set (k := 43) (SBM.set (k := 34) (SBM.set (k := 30) (SBM.set (k := 35) (SBM.set (k := 42) (SBM.set (k := 41) (SBM.set (k := 40) (SBM.set (k := 37) (SBM.rf th) (by decide)) (by decide)) (by decide)) (by decide)) (by decide)) (by decide)) (by decide)) (by decide))⟩, hT⟩, hfr⟩) dX11_fault_30

abbrev rm_X11_plan : Room := { frames := 7, cells := 0, slots := 0, locals := 150 }
abbrev po_X11_plan (g : GG) (ad : Nat → Nat) (th : Nat → Int) (L : List Nat) (f : HP)  : Int32 → (List Nat × HP) → Prop := fun r u => u.1 = L ∧ (∃ th' : Nat → Int, (MI th' ∧ SBM th th') ∧ TI g ad th' u.2) ∧ (∀ b, b ≠ (ad 255) → b ≠ (ad 258) → b ≠ (ad 259) → u.2 b = f b)
set_option maxHeartbeats 4000000 in
set_option maxRecDepth 100000 in
theorem s_X11_plan (l : Launch) (g : GG) (ad : Nat → Nat) (th : Nat → Int) (L : List Nat) (f : HP) (sz : Nat)  (hst : ST ad L) (hT : TI g ad th f) (hM : MI th) : MtI l g yX11_plan cX11_plan 2 (some .int) rm_X11_plan [.ref (ad 255)] L f sz (po_X11_plan g ad th L f ) := by
  refine MtI.of (by decide +kernel) (Nat.le_of_ble_eq_true rfl) ?_
  intro p e s m below meth c A hEn hP hD hS ls hl
  obtain ⟨hx, hb, hr, hml, hown, hlocks, hts, hG, hA, hE, hnm⟩ := hEn
  have hown : s.vm.findClass "RulerWordModel" = some m.cls := hown
  have hl : lv_has ls 2 [(0, .ref (ad 255))] := hl
  have hfr : (∀ b, b ≠ (ad 255) → b ≠ (ad 258) → b ≠ (ad 259) → f b = f b) := fun b z0_ z1_ z2_ => rfl
  have hM0 := hM
  obtain ⟨m1, m2, m3, m4, m5, m6, m7, m8, m9, m10⟩ := hM0
  have m20 := mi20 m2 m3
  refine lv_aload_n hx hb dX11_plan_0 rfl (lv_at hl 0 rfl) ?_
  refine lv_iconst (v := 0) hx hb dX11_plan_1 (by decide) ?_
  refine M0e hT (fun v0_1 v2_1 v3_1 v4_1 v5_1 v6_1 v8_1 v9_1 v12_1 v13_1 v14_1 v15_1 v16_1 v17_1 v18_1 v19_1 v20_1 v21_1 v22_1 v23_1 v25_1 v36_1 v37_1 v38_1 v39_1 v40_1 v45_1 v46_1 v47_1 v48_1 v50_1 v51_1 v53_1 v55_1 hf2 hv0_1 hv2_1 hg2_1 hv3_1 hg3_1 hv4_1 hg4_1 hv5_1 hg5_1 hv6_1 hg6_1 hv8_1 hg8_1 hv9_1 hg9_1 hv12_1 hv13_1 hg13_1 hv14_1 hg14_1 hv15_1 hg15_1 hv17_1 hg17_1 hv20_1 hg20_1 hv23_1 hg23_1 hv25_1 hg25_1 hv36_1 hg36_1 hv47_1 hg47_1 hv48_1 hg48_1 hv53_1 hg53_1 hv55_1 hg55_1 hrel0_1 => ?_)
  have hg15_1 : v15_1.toInt = th 11 := hg15_1
  have hg17_1 : v17_1.toInt = th 12 := hg17_1
  have hg20_1 : v20_1.toInt = th 14 := hg20_1
  refine pl_put (ty := .int) (v := .int 0) (fs' := [.int 0, .ref (ad 256), .int v2_1, .int v3_1, .int v4_1, .int v5_1, .int v6_1, .ref (ad 257), .int v8_1, .int v9_1, .ref (ad 258), .ref (ad 259), .int v12_1, .int v13_1, .int v14_1, .int v15_1, .int v16_1, .int v17_1, .int v18_1, .int v19_1, .int v20_1, .long v21_1, .long v22_1, .int v23_1, .ref (ad 260), .int v25_1, .ref (ad 261), .ref (ad 262), .ref (ad 263), .ref (ad 264), .ref (ad 265), .ref (ad 266), .ref (ad 267), .ref (ad 268), .ref (ad 269), .ref (ad 270), .int v36_1, .int v37_1, .int v38_1, .int v39_1, .int v40_1, .ref (ad 271), .ref (ad 272), .ref (ad 273), .ref (ad 274), .long v45_1, .long v46_1, .int v47_1, .int v48_1, .ref (ad 275), .int v50_1, .int v51_1, .ref (ad 276), .int v53_1, .ref (ad 277), .int v55_1]) hx hb hts (fun w h => mT (inX11 w h)) tyX11 tyX11_ok nmX11 hown hG.1 hP hD hS (hst.1 255 (by decide)) hf2 rfl 0 (by decide) (hts _ (mT wg_1336)) (fun _ h => h) rfl (by decide +kernel) (rfl) (rfl) (Nat.le_of_ble_eq_true rfl) rfl dX11_plan_2 (fun H locs f3 hf4 ho5 hP hD hS => ?_)
  have hfr : (∀ b, b ≠ (ad 255) → b ≠ (ad 258) → b ≠ (ad 259) → f3 b = f b) := fun b z0_ z1_ z2_ => (ho5 b z0_).trans (hfr b z0_ z1_ z2_)
  refine lv_aload_n hx hb dX11_plan_5 rfl (lv_at hl 0 rfl) ?_
  have hT := TI.updM hT hst (k := 0) (by decide) hf4 ho5 ⟨0, v2_1, v3_1, v4_1, v5_1, v6_1, v8_1, v9_1, v12_1, v13_1, v14_1, v15_1, v16_1, v17_1, v18_1, v19_1, v20_1, v21_1, v22_1, v23_1, v25_1, v36_1, v37_1, v38_1, v39_1, v40_1, v45_1, v46_1, v47_1, v48_1, v50_1, v51_1, v53_1, v55_1, rfl, (⟨by decide, by decide⟩ : In 0 0 1), hv2_1, hg2_1, hv3_1, hg3_1, hv4_1, hg4_1, hv5_1, hg5_1, hv6_1, hg6_1, hv8_1, hg8_1, hv9_1, hg9_1, hv12_1, hv13_1, hg13_1, hv14_1, hg14_1, hv15_1, hg15_1, hv17_1, hg17_1, hv20_1, hg20_1, hv23_1, hg23_1, hv25_1, hg25_1, hv36_1, hg36_1, hv47_1, hg47_1, hv48_1, hg48_1, hv53_1, hg53_1, hv55_1, hg55_1, hrel0_1⟩
  refine call_i (run_V (rm := rm_X11_readsPlan) hx hb hml hown hts (s_X11_readsPlan l g ad th _ _ _  hst hT ) cV_X11_readsPlan wg_1592 ⟨Nat.le_of_ble_eq_true rfl, Nat.le_of_ble_eq_true rfl⟩ hG hE hA hP hD hS (hst.1 255 (by decide)) hf4 rfl rfl hl.1 (As := []) (rest := []) rfl (Nat.le_of_ble_eq_true rfl) dX11_plan_6 ⟨Nat.le_of_ble_eq_true rfl, Nat.le_of_ble_eq_true rfl⟩) hA hD hS (fun r6 L7 f8 H locs hp9 hP hD hS => ?_)
  obtain ⟨eL10L, eL10T, eL10F, eL10R⟩ := hp9
  have eL10L : L7 = L := eL10L
  rw [eL10L] at hP hD
  obtain ⟨zz11, zz12, zz13, zz14, zz15, hzz11, eL10T⟩ := eL10T
  have hzz11 : True := hzz11
  have hT : TI g ad (gset (gset (gset (gset (gset th 37 zz11) 40 zz12) 41 zz13) 42 zz14) 36 zz15) f8 := eL10T
  have eL10F : ∀ b, b ≠ (ad 255) → b ≠ (ad 259) → f8 b = f3 b := eL10F
  have hfr : (∀ b, b ≠ (ad 255) → b ≠ (ad 258) → b ≠ (ad 259) → f8 b = f b) := fun b z0_ z1_ z2_ => (eL10F b z0_ z2_).trans (hfr b z0_ z1_ z2_)
  have eL10R : In r6 (-1) 500 := eL10R
  refine lv_iconst (v := (-1)) hx hb dX11_plan_9 (by decide) ?_
  refine lv_icmp_eq (tgt := 15) hx hb dX11_plan_10 (by decide) (fun c16 => ?_) (fun c16 => ?_)
  ·
    have ocm1 : ((-1) : Int32).toInt = (-1) := by decide
    have cc17 : r6.toInt = ((-1) : Int32).toInt := congrArg Int32.toInt c16
    have hb18 : In r6 (-1) (-1) := In.eq1 eL10R (⟨by decide, by decide⟩ : In (-1) (-1) (-1)) cc17 (by decide) (by decide)
    refine lv_aload_n hx hb dX11_plan_15 rfl (lv_at hl 0 rfl) ?_
    refine lv_iconst (v := 0) hx hb dX11_plan_16 (by decide) ?_
    refine M0e hT (fun v0_19 v2_19 v3_19 v4_19 v5_19 v6_19 v8_19 v9_19 v12_19 v13_19 v14_19 v15_19 v16_19 v17_19 v18_19 v19_19 v20_19 v21_19 v22_19 v23_19 v25_19 v36_19 v37_19 v38_19 v39_19 v40_19 v45_19 v46_19 v47_19 v48_19 v50_19 v51_19 v53_19 v55_19 hf20 hv0_19 hv2_19 hg2_19 hv3_19 hg3_19 hv4_19 hg4_19 hv5_19 hg5_19 hv6_19 hg6_19 hv8_19 hg8_19 hv9_19 hg9_19 hv12_19 hv13_19 hg13_19 hv14_19 hg14_19 hv15_19 hg15_19 hv17_19 hg17_19 hv20_19 hg20_19 hv23_19 hg23_19 hv25_19 hg25_19 hv36_19 hg36_19 hv47_19 hg47_19 hv48_19 hg48_19 hv53_19 hg53_19 hv55_19 hg55_19 hrel0_19 => ?_)
    have hg15_19 : v15_19.toInt = th 11 := hg15_19
    have hg17_19 : v17_19.toInt = th 12 := hg17_19
    have hg20_19 : v20_19.toInt = th 14 := hg20_19
    refine pl_put (ty := .int) (v := .int 0) (fs' := [.int v0_19, .ref (ad 256), .int 0, .int v3_19, .int v4_19, .int v5_19, .int v6_19, .ref (ad 257), .int v8_19, .int v9_19, .ref (ad 258), .ref (ad 259), .int v12_19, .int v13_19, .int v14_19, .int v15_19, .int v16_19, .int v17_19, .int v18_19, .int v19_19, .int v20_19, .long v21_19, .long v22_19, .int v23_19, .ref (ad 260), .int v25_19, .ref (ad 261), .ref (ad 262), .ref (ad 263), .ref (ad 264), .ref (ad 265), .ref (ad 266), .ref (ad 267), .ref (ad 268), .ref (ad 269), .ref (ad 270), .int v36_19, .int v37_19, .int v38_19, .int v39_19, .int v40_19, .ref (ad 271), .ref (ad 272), .ref (ad 273), .ref (ad 274), .long v45_19, .long v46_19, .int v47_19, .int v48_19, .ref (ad 275), .int v50_19, .int v51_19, .ref (ad 276), .int v53_19, .ref (ad 277), .int v55_19]) hx hb hts (fun w h => mT (inX11 w h)) tyX11 tyX11_ok nmX11 hown hG.1 hP hD hS (hst.1 255 (by decide)) hf20 rfl 2 (by decide) (hts _ (mT wg_1338)) (fun _ h => h) rfl (by decide +kernel) (rfl) (rfl) (Nat.le_of_ble_eq_true rfl) rfl dX11_plan_17 (fun H locs f21 hf22 ho23 hP hD hS => ?_)
    have hfr : (∀ b, b ≠ (ad 255) → b ≠ (ad 258) → b ≠ (ad 259) → f21 b = f b) := fun b z0_ z1_ z2_ => (ho23 b z0_).trans (hfr b z0_ z1_ z2_)
    refine lv_iconst (v := 0) hx hb dX11_plan_20 (by decide) ?_
    refine lv_istore_n (lv' := [(1, .int 0), (0, .ref (ad 255))]) hx hb dX11_plan_21 rfl hl (by decide) rfl (fun ls hl => ?_)
    have hT := TI.updMG (th' := (gset (gset (gset (gset (gset (gset th 37 zz11) 40 zz12) 41 zz13) 42 zz14) 36 zz15) 13 (0))) hT hst (k := 0) (by decide) hf22 ho23 ⟨v0_19, 0, v3_19, v4_19, v5_19, v6_19, v8_19, v9_19, v12_19, v13_19, v14_19, v15_19, v16_19, v17_19, v18_19, v19_19, v20_19, v21_19, v22_19, v23_19, v25_19, v36_19, v37_19, v38_19, v39_19, v40_19, v45_19, v46_19, v47_19, v48_19, v50_19, v51_19, v53_19, v55_19, rfl, hv0_19, (⟨by decide, by decide⟩ : In 0 0 500), (show (0 : Int32).toInt = 0 by decide), hv3_19, hg3_19, hv4_19, hg4_19, hv5_19, hg5_19, hv6_19, hg6_19, hv8_19, hg8_19, hv9_19, hg9_19, hv12_19, hv13_19, hg13_19, hv14_19, hg14_19, hv15_19, hg15_19, hv17_19, hg17_19, hv20_19, hg20_19, hv23_19, hg23_19, hv25_19, hg25_19, hv36_19, hg36_19, hv47_19, hg47_19, hv48_19, hg48_19, hv53_19, hg53_19, hv55_19, hg55_19, hrel0_19⟩ (fun q hq => ((gset_ne (fun e => hq (by subst e; decide))).trans rfl))
    have hT : TI g ad (gset (gset (gset (gset (gset (gset th 37 zz11) 40 zz12) 41 zz13) 42 zz14) 36 zz15) 13 0) f21 := TI.cast hT (by funext q; by_cases hq0 : q = 13; (subst hq0; rfl); by_cases hq1 : q = 36; (subst hq1; rfl); by_cases hq2 : q = 42; (subst hq2; rfl); by_cases hq3 : q = 41; (subst hq3; rfl); by_cases hq4 : q = 40; (subst hq4; rfl); by_cases hq5 : q = 37; (subst hq5; rfl); simp only [gset, if_neg hq0, if_neg hq1, if_neg hq2, if_neg hq3, if_neg hq4, if_neg hq5])
    have hJ22 : ∀ (k22 : Nat) (y22_l1 : Int32) (f_22 : HP) (H : Heap) (locs : List Loc) (ls : Array Slot), In y22_l1 0 100 → va_P g.1 vwCl (va_pl L f_22) H → va_D A (va_pl L f_22) → va_S A s.heap H locs → TI g ad (gset (gset (gset (gset (gset (gset th 37 zz11) 40 zz12) 41 zz13) 42 zz14) 36 zz15) 13 0) f_22 → (∀ b, b ≠ (ad 255) → b ≠ (ad 258) → b ≠ (ad 259) → f_22 b = f b) → lv_has ls 2 [(0, .ref (ad 255)), (1, .int y22_l1)] → 100 - y22_l1.toInt < ((k22 : Nat) : Int) → W p l e rm_X11_plan s m [.ref (ad 255)].toArray below meth c H locs 0 0 (MQ below (va_Qi (po_X11_plan g ad th L f ) (PstB g A) A) [.ref (ad 255)].toArray s rm_X11_plan.cells rm_X11_plan.slots A) (F0 m 22 ls []) := by
      intro k22
      induction k22 with
      | zero =>
        intro y22_l1 f_22 H locs ls hy22_l1 hP hD hS hT hfr hl hmz22
        exact ms0 hy22_l1 hmz22
      | succ k22 ih22 =>
        intro y22_l1 f_22 H locs ls hy22_l1 hP hD hS hT hfr hl hmz22
        refine lv_iload_n hx hb dX11_plan_22 rfl (lv_at hl 1 rfl) ?_
        refine lv_aload_n hx hb dX11_plan_23 rfl (lv_at hl 0 rfl) ?_
        refine M0e hT (fun v0_24 v2_24 v3_24 v4_24 v5_24 v6_24 v8_24 v9_24 v12_24 v13_24 v14_24 v15_24 v16_24 v17_24 v18_24 v19_24 v20_24 v21_24 v22_24 v23_24 v25_24 v36_24 v37_24 v38_24 v39_24 v40_24 v45_24 v46_24 v47_24 v48_24 v50_24 v51_24 v53_24 v55_24 hf25 hv0_24 hv2_24 hg2_24 hv3_24 hg3_24 hv4_24 hg4_24 hv5_24 hg5_24 hv6_24 hg6_24 hv8_24 hg8_24 hv9_24 hg9_24 hv12_24 hv13_24 hg13_24 hv14_24 hg14_24 hv15_24 hg15_24 hv17_24 hg17_24 hv20_24 hg20_24 hv23_24 hg23_24 hv25_24 hg25_24 hv36_24 hg36_24 hv47_24 hg47_24 hv48_24 hg48_24 hv53_24 hg53_24 hv55_24 hg55_24 hrel0_24 => ?_)
        have hg15_24 : v15_24.toInt = th 11 := hg15_24
        have hg17_24 : v17_24.toInt = th 12 := hg17_24
        have hg20_24 : v20_24.toInt = th 14 := hg20_24
        refine pl_get (v := .ref (ad 258)) hx hb hts (fun w h => mT (inX11 w h)) hown hG.1 hP (hst.1 255 (by decide)) hf25 rfl 10 (by decide) (hts _ (mT wg_1346)) (fun _ h => h) rfl dX11_plan_24 ?_
        obtain ⟨rw26, hf27⟩ := hT.2.2 3 (by decide)
        refine pl_alen (v := 100) hx hb hG.1 hP (hst.1 258 (by decide)) 0 hf27 rfl (rfl) dX11_plan_27 ?_
        refine lv_icmp_ge (tgt := 49) hx hb dX11_plan_28 (by decide) (fun c28 => ?_) (fun c28 => ?_)
        ·
          have oc100 : (100 : Int32).toInt = 100 := by decide
          have cc29 : (100 : Int32).toInt ≤ y22_l1.toInt := i32_le.mp c28
          have hb30 : In y22_l1 100 100 := In.ge1 hy22_l1 (⟨by decide, by decide⟩ : In 100 100 100) cc29 (by decide) (by decide)
          refine lv_aload_n hx hb dX11_plan_49 rfl (lv_at hl 0 rfl) ?_
          refine lv_aload_n hx hb dX11_plan_50 rfl (lv_at hl 0 rfl) ?_
          refine pl_get (v := .int v13_24) hx hb hts (fun w h => mT (inX11 w h)) hown hG.1 hP (hst.1 255 (by decide)) hf25 rfl 13 (by decide) (hts _ (mT wg_1349)) (fun _ h => h) rfl dX11_plan_51 ?_
          have hg13_24 : v13_24.toInt = zz15 := hg13_24
          refine pl_put (ty := .int) (v := .int v13_24) (fs' := [.int v0_24, .ref (ad 256), .int v2_24, .int v3_24, .int v4_24, .int v5_24, .int v6_24, .ref (ad 257), .int v8_24, .int v9_24, .ref (ad 258), .ref (ad 259), .int v13_24, .int v13_24, .int v14_24, .int v15_24, .int v16_24, .int v17_24, .int v18_24, .int v19_24, .int v20_24, .long v21_24, .long v22_24, .int v23_24, .ref (ad 260), .int v25_24, .ref (ad 261), .ref (ad 262), .ref (ad 263), .ref (ad 264), .ref (ad 265), .ref (ad 266), .ref (ad 267), .ref (ad 268), .ref (ad 269), .ref (ad 270), .int v36_24, .int v37_24, .int v38_24, .int v39_24, .int v40_24, .ref (ad 271), .ref (ad 272), .ref (ad 273), .ref (ad 274), .long v45_24, .long v46_24, .int v47_24, .int v48_24, .ref (ad 275), .int v50_24, .int v51_24, .ref (ad 276), .int v53_24, .ref (ad 277), .int v55_24]) hx hb hts (fun w h => mT (inX11 w h)) tyX11 tyX11_ok nmX11 hown hG.1 hP hD hS (hst.1 255 (by decide)) hf25 rfl 12 (by decide) (hts _ (mT wg_1348)) (fun _ h => h) rfl (by decide +kernel) (rfl) (rfl) (Nat.le_of_ble_eq_true rfl) rfl dX11_plan_54 (fun H locs f31 hf32 ho33 hP hD hS => ?_)
          have hf34 := (ho33 (ad 258) (hst.ne (by decide) (by decide) (by decide))).trans hf27
          have hfr : (∀ b, b ≠ (ad 255) → b ≠ (ad 258) → b ≠ (ad 259) → f31 b = f b) := fun b z0_ z1_ z2_ => (ho33 b z0_).trans (hfr b z0_ z1_ z2_)
          refine lv_aload_n hx hb dX11_plan_57 rfl (lv_at hl 0 rfl) ?_
          refine pl_get (v := .int v13_24) hx hb hts (fun w h => mT (inX11 w h)) hown hG.1 hP (hst.1 255 (by decide)) hf32 rfl 12 (by decide) (hts _ (mT wg_1348)) (fun _ h => h) rfl dX11_plan_58 ?_
          have hT := TI.updM hT hst (k := 0) (by decide) hf32 ho33 ⟨v0_24, v2_24, v3_24, v4_24, v5_24, v6_24, v8_24, v9_24, v13_24, v13_24, v14_24, v15_24, v16_24, v17_24, v18_24, v19_24, v20_24, v21_24, v22_24, v23_24, v25_24, v36_24, v37_24, v38_24, v39_24, v40_24, v45_24, v46_24, v47_24, v48_24, v50_24, v51_24, v53_24, v55_24, rfl, hv0_24, hv2_24, hg2_24, hv3_24, hg3_24, hv4_24, hg4_24, hv5_24, hg5_24, hv6_24, hg6_24, hv8_24, hg8_24, hv9_24, hg9_24, hv13_24, hv13_24, hg13_24, hv14_24, hg14_24, hv15_24, hg15_24, hv17_24, hg17_24, hv20_24, hg20_24, hv23_24, hg23_24, hv25_24, hg25_24, hv36_24, hg36_24, hv47_24, hg47_24, hv48_24, hg48_24, hv53_24, hg53_24, hv55_24, hg55_24, hrel0_24⟩
          exact ret_i (ty := .int) hx hb hr hlocks (rfl) hP hD hS (Nat.le_of_ble_eq_true rfl) (Nat.le_of_ble_eq_true rfl) (⟨rfl, ⟨(gset (gset (gset (gset (gset (gset th 37 zz11) 40 zz12) 41 zz13) 42 zz14) 36 zz15) 13 0), ⟨(show MI (gset (gset (gset (gset (gset (gset th 37 zz11) 40 zz12) 41 zz13) 42 zz14) 36 zz15) 13 0) from ⟨m1, m2, (show th 20 = (th 12) * rnd (th 10) from m3), m4, m5, m6, m7, m8, m9, m10⟩), (SBM.set (k := 13) (SBM.set (k := 36) (SBM.set (k := 42) (SBM.set (k := 41) (SBM.set (k := 40) (SBM.set (k := 37) (SBM.rf th) (by decide)) (by decide)) (by decide)) (by decide)) (by decide)) (by decide))⟩, hT⟩, hfr⟩) dX11_plan_61
        ·
          have oc100 : (100 : Int32).toInt = 100 := by decide
          have cc35 : y22_l1.toInt < (100 : Int32).toInt := i32_nle c28
          have hb36 : In y22_l1 0 99 := In.lt1 hy22_l1 (⟨by decide, by decide⟩ : In 100 100 100) cc35 (by decide) (by decide)
          refine lv_aload_n hx hb dX11_plan_31 rfl (lv_at hl 0 rfl) ?_
          refine pl_get (v := .ref (ad 258)) hx hb hts (fun w h => mT (inX11 w h)) hown hG.1 hP (hst.1 255 (by decide)) hf25 rfl 10 (by decide) (hts _ (mT wg_1346)) (fun _ h => h) rfl dX11_plan_32 ?_
          refine lv_iload_n hx hb dX11_plan_35 rfl (lv_at hl 1 rfl) ?_
          refine lv_aload_n hx hb dX11_plan_36 rfl (lv_at hl 0 rfl) ?_
          refine pl_get (v := .ref (ad 259)) hx hb hts (fun w h => mT (inX11 w h)) hown hG.1 hP (hst.1 255 (by decide)) hf25 rfl 11 (by decide) (hts _ (mT wg_1347)) (fun _ h => h) rfl dX11_plan_37 ?_
          refine lv_iload_n hx hb dX11_plan_40 rfl (lv_at hl 1 rfl) ?_
          obtain ⟨rw37, hf38⟩ := hT.2.2 4 (by decide)
          have hin39 : vp_in y22_l1 100 := In.inb hb36 (by decide) (by decide)
          refine pl_iald hx hb hG.1 hP (hst.1 259 (by decide)) 0 hf38 rfl hin39 dX11_plan_41 ?_
          refine lv_topi (fun x40 ex40 => ?_)
          refine pl_iastE hx hb hG.1 hP hD hS (hst.1 258 (by decide)) 0 hf27 rfl (In.inb hb36 (by decide) (by decide)) dX11_plan_42 (fun H locs f41 r44 er44 hf42 ho43 hP hD hS => ?_)
          have hf45 := (ho43 (ad 255) (hst.ne (by decide) (by decide) (by decide))).trans hf25
          have hf46 := (ho43 (ad 259) (hst.ne (by decide) (by decide) (by decide))).trans hf38
          have hfr : (∀ b, b ≠ (ad 255) → b ≠ (ad 258) → b ≠ (ad 259) → f41 b = f b) := fun b z0_ z1_ z2_ => (ho43 b z1_).trans (hfr b z0_ z1_ z2_)
          obtain ⟨x47, ex47⟩ : ∃ y : Int32, y = y22_l1 + 1 := ⟨_, rfl⟩
          have hb48 : In x47 1 100 := ex47 ▸ In.add hb36 (⟨by decide, by decide⟩ : In 1 1 1) (by decide) (by decide) (by decide) (by decide)
          have et49 : x47.toInt = y22_l1.toInt + 1 := In.adde ex47 hb36 (k := 1) (by decide) (by decide) (by decide)
          refine lv_iinc (v := x47) (lv' := [(1, .int x47), (0, .ref (ad 255))]) hx hb dX11_plan_43 hl (k := 1) rfl (by rw [ex47]; rfl) (by decide) rfl (fun ls hl => ?_)
          have hT := TI.updM hT hst (k := 3) (by decide) hf42 ho43 ⟨r44, rfl⟩
          refine lv_goto (tgt := 22) hx hb dX11_plan_46 (by decide) ?_
          exact ih22 x47 _ _ _ _ (In.mono hb48 (by decide) (by decide)) hP hD hS (TI.cast hT (by funext q; by_cases hq0 : q = 13; (subst hq0; rfl); by_cases hq1 : q = 36; (subst hq1; rfl); by_cases hq2 : q = 42; (subst hq2; rfl); by_cases hq3 : q = 41; (subst hq3; rfl); by_cases hq4 : q = 40; (subst hq4; rfl); by_cases hq5 : q = 37; (subst hq5; rfl); simp only [gset, if_neg hq0, if_neg hq1, if_neg hq2, if_neg hq3, if_neg hq4, if_neg hq5])) hfr (lv_sub hl [1, 0] rfl) (msu et49 (by decide) hmz22)
    exact hJ22 ((100 - (0 : Int32).toInt).toNat + 1) 0 _ _ _ _ (⟨by decide, by decide⟩ : In 0 0 100) hP hD hS (TI.cast hT (by funext q; by_cases hq0 : q = 13; (subst hq0; rfl); by_cases hq1 : q = 36; (subst hq1; rfl); by_cases hq2 : q = 42; (subst hq2; rfl); by_cases hq3 : q = 41; (subst hq3; rfl); by_cases hq4 : q = 40; (subst hq4; rfl); by_cases hq5 : q = 37; (subst hq5; rfl); simp only [gset, if_neg hq0, if_neg hq1, if_neg hq2, if_neg hq3, if_neg hq4, if_neg hq5])) hfr (lv_sub hl [1, 0] rfl) (msI _)
  ·
    have ocm1 : ((-1) : Int32).toInt = (-1) := by decide
    have cc50 : r6.toInt ≠ ((-1) : Int32).toInt := i32_ne c16
    have hb51 : In r6 0 500 := In.ne1 eL10R (⟨by decide, by decide⟩ : In (-1) (-1) (-1)) cc50 (by decide) (by decide)
    refine lv_iconst (v := (-1)) hx hb dX11_plan_13 (by decide) ?_
    exact ret_i (ty := .int) hx hb hr hlocks (rfl) hP hD hS (Nat.le_of_ble_eq_true rfl) (Nat.le_of_ble_eq_true rfl) (⟨rfl, ⟨(gset (gset (gset (gset (gset th 37 zz11) 40 zz12) 41 zz13) 42 zz14) 36 zz15), ⟨(show MI (gset (gset (gset (gset (gset th 37 zz11) 40 zz12) 41 zz13) 42 zz14) 36 zz15) from ⟨m1, m2, (show th 20 = (th 12) * rnd (th 10) from m3), m4, m5, m6, m7, m8, m9, m10⟩), (SBM.set (k := 36) (SBM.set (k := 42) (SBM.set (k := 41) (SBM.set (k := 40) (SBM.set (k := 37) (SBM.rf th) (by decide)) (by decide)) (by decide)) (by decide)) (by decide))⟩, hT⟩, hfr⟩) dX11_plan_14

abbrev rm_X11_council : Room := { frames := 8, cells := 0, slots := 0, locals := 172 }
abbrev po_X11_council (g : GG) (ad : Nat → Nat) (th : Nat → Int) (L : List Nat) (f : HP) (z1 : Int64) : Int32 → (List Nat × HP) → Prop := fun r u => u.1 = L ∧ (∃ th' : Nat → Int, (MI th' ∧ SBM th th') ∧ TI g ad th' u.2) ∧ (∀ b, b ≠ (ad 255) → b ≠ (ad 271) → b ≠ (ad 257) → b ≠ (ad 261) → b ≠ (ad 262) → u.2 b = f b)
set_option maxHeartbeats 4000000 in
set_option maxRecDepth 100000 in
theorem s_X11_council (l : Launch) (g : GG) (ad : Nat → Nat) (th : Nat → Int) (L : List Nat) (f : HP) (sz : Nat) (z1 : Int64) (hst : ST ad L) (hT : TI g ad th f) (hM : MI th) : MtI l g yX11_council cX11_council 3 (some .int) rm_X11_council [.ref (ad 255), .long z1] L f sz (po_X11_council g ad th L f z1) := by
  refine MtI.of (by decide +kernel) (Nat.le_of_ble_eq_true rfl) ?_
  intro p e s m below meth c A hEn hP hD hS ls hl
  obtain ⟨hx, hb, hr, hml, hown, hlocks, hts, hG, hA, hE, hnm⟩ := hEn
  have hown : s.vm.findClass "RulerWordModel" = some m.cls := hown
  have hl : lv_has ls 3 [(0, .ref (ad 255)), (1, .long z1)] := hl
  have hfr : (∀ b, b ≠ (ad 255) → b ≠ (ad 271) → b ≠ (ad 257) → b ≠ (ad 261) → b ≠ (ad 262) → f b = f b) := fun b z0_ z1_ z2_ z3_ z4_ => rfl
  have hM0 := hM
  obtain ⟨m1, m2, m3, m4, m5, m6, m7, m8, m9, m10⟩ := hM0
  have m20 := mi20 m2 m3
  refine lv_aload_n hx hb dX11_council_0 rfl (lv_at hl 0 rfl) ?_
  refine lv_iconst (v := 0) hx hb dX11_council_1 (by decide) ?_
  refine M0e hT (fun v0_1 v2_1 v3_1 v4_1 v5_1 v6_1 v8_1 v9_1 v12_1 v13_1 v14_1 v15_1 v16_1 v17_1 v18_1 v19_1 v20_1 v21_1 v22_1 v23_1 v25_1 v36_1 v37_1 v38_1 v39_1 v40_1 v45_1 v46_1 v47_1 v48_1 v50_1 v51_1 v53_1 v55_1 hf2 hv0_1 hv2_1 hg2_1 hv3_1 hg3_1 hv4_1 hg4_1 hv5_1 hg5_1 hv6_1 hg6_1 hv8_1 hg8_1 hv9_1 hg9_1 hv12_1 hv13_1 hg13_1 hv14_1 hg14_1 hv15_1 hg15_1 hv17_1 hg17_1 hv20_1 hg20_1 hv23_1 hg23_1 hv25_1 hg25_1 hv36_1 hg36_1 hv47_1 hg47_1 hv48_1 hg48_1 hv53_1 hg53_1 hv55_1 hg55_1 hrel0_1 => ?_)
  have hg15_1 : v15_1.toInt = th 11 := hg15_1
  have hg17_1 : v17_1.toInt = th 12 := hg17_1
  have hg20_1 : v20_1.toInt = th 14 := hg20_1
  refine pl_put (ty := .int) (v := .int 0) (fs' := [.int 0, .ref (ad 256), .int v2_1, .int v3_1, .int v4_1, .int v5_1, .int v6_1, .ref (ad 257), .int v8_1, .int v9_1, .ref (ad 258), .ref (ad 259), .int v12_1, .int v13_1, .int v14_1, .int v15_1, .int v16_1, .int v17_1, .int v18_1, .int v19_1, .int v20_1, .long v21_1, .long v22_1, .int v23_1, .ref (ad 260), .int v25_1, .ref (ad 261), .ref (ad 262), .ref (ad 263), .ref (ad 264), .ref (ad 265), .ref (ad 266), .ref (ad 267), .ref (ad 268), .ref (ad 269), .ref (ad 270), .int v36_1, .int v37_1, .int v38_1, .int v39_1, .int v40_1, .ref (ad 271), .ref (ad 272), .ref (ad 273), .ref (ad 274), .long v45_1, .long v46_1, .int v47_1, .int v48_1, .ref (ad 275), .int v50_1, .int v51_1, .ref (ad 276), .int v53_1, .ref (ad 277), .int v55_1]) hx hb hts (fun w h => mT (inX11 w h)) tyX11 tyX11_ok nmX11 hown hG.1 hP hD hS (hst.1 255 (by decide)) hf2 rfl 0 (by decide) (hts _ (mT wg_1336)) (fun _ h => h) rfl (by decide +kernel) (rfl) (rfl) (Nat.le_of_ble_eq_true rfl) rfl dX11_council_2 (fun H locs f3 hf4 ho5 hP hD hS => ?_)
  have hfr : (∀ b, b ≠ (ad 255) → b ≠ (ad 271) → b ≠ (ad 257) → b ≠ (ad 261) → b ≠ (ad 262) → f3 b = f b) := fun b z0_ z1_ z2_ z3_ z4_ => (ho5 b z0_).trans (hfr b z0_ z1_ z2_ z3_ z4_)
  refine lv_aload_n hx hb dX11_council_5 rfl (lv_at hl 0 rfl) ?_
  have hT := TI.updM hT hst (k := 0) (by decide) hf4 ho5 ⟨0, v2_1, v3_1, v4_1, v5_1, v6_1, v8_1, v9_1, v12_1, v13_1, v14_1, v15_1, v16_1, v17_1, v18_1, v19_1, v20_1, v21_1, v22_1, v23_1, v25_1, v36_1, v37_1, v38_1, v39_1, v40_1, v45_1, v46_1, v47_1, v48_1, v50_1, v51_1, v53_1, v55_1, rfl, (⟨by decide, by decide⟩ : In 0 0 1), hv2_1, hg2_1, hv3_1, hg3_1, hv4_1, hg4_1, hv5_1, hg5_1, hv6_1, hg6_1, hv8_1, hg8_1, hv9_1, hg9_1, hv12_1, hv13_1, hg13_1, hv14_1, hg14_1, hv15_1, hg15_1, hv17_1, hg17_1, hv20_1, hg20_1, hv23_1, hg23_1, hv25_1, hg25_1, hv36_1, hg36_1, hv47_1, hg47_1, hv48_1, hg48_1, hv53_1, hg53_1, hv55_1, hg55_1, hrel0_1⟩
  refine call_i (run_V (rm := rm_X11_readsCouncil) hx hb hml hown hts (s_X11_readsCouncil l g ad th _ _ _  hst hT ) cV_X11_readsCouncil wg_1525 ⟨Nat.le_of_ble_eq_true rfl, Nat.le_of_ble_eq_true rfl⟩ hG hE hA hP hD hS (hst.1 255 (by decide)) hf4 rfl rfl hl.1 (As := []) (rest := []) rfl (Nat.le_of_ble_eq_true rfl) dX11_council_6 ⟨Nat.le_of_ble_eq_true rfl, Nat.le_of_ble_eq_true rfl⟩) hA hD hS (fun r6 L7 f8 H locs hp9 hP hD hS => ?_)
  obtain ⟨eL10L, eL10T, eL10F, eL10R⟩ := hp9
  have eL10L : L7 = L := eL10L
  rw [eL10L] at hP hD
  obtain ⟨zz11, zz12, zz13, zz14, zz15, zz16, zz17, zz18, hzz11, eL10T⟩ := eL10T
  have hT : TI g ad (gset (gset (gset (gset (gset (gset (gset (gset th 37 zz11) 40 zz12) 41 zz13) 42 zz14) 35 zz15) 30 zz16) 34 zz17) 43 zz18) f8 := eL10T
  have eL10F : ∀ b, b ≠ (ad 255) → b ≠ (ad 257) → f8 b = f3 b := eL10F
  have hfr : (∀ b, b ≠ (ad 255) → b ≠ (ad 271) → b ≠ (ad 257) → b ≠ (ad 261) → b ≠ (ad 262) → f8 b = f b) := fun b z0_ z1_ z2_ z3_ z4_ => (eL10F b z0_ z2_).trans (hfr b z0_ z1_ z2_ z3_ z4_)
  have eL10R : In r6 (-1) 500 := eL10R
  refine lv_iconst (v := (-1)) hx hb dX11_council_9 (by decide) ?_
  refine lv_icmp_eq (tgt := 15) hx hb dX11_council_10 (by decide) (fun c19 => ?_) (fun c19 => ?_)
  ·
    have ocm1 : ((-1) : Int32).toInt = (-1) := by decide
    have cc20 : r6.toInt = ((-1) : Int32).toInt := congrArg Int32.toInt c19
    have hb21 : In r6 (-1) (-1) := In.eq1 eL10R (⟨by decide, by decide⟩ : In (-1) (-1) (-1)) cc20 (by decide) (by decide)
    have hdip := (hzz11.resolve_left (by omega))
    have hdi2 := hdip.2.2.1 hdip.1.1
    refine lv_aload_n hx hb dX11_council_15 rfl (lv_at hl 0 rfl) ?_
    refine lv_iconst (v := 0) hx hb dX11_council_16 (by decide) ?_
    refine M0e hT (fun v0_22 v2_22 v3_22 v4_22 v5_22 v6_22 v8_22 v9_22 v12_22 v13_22 v14_22 v15_22 v16_22 v17_22 v18_22 v19_22 v20_22 v21_22 v22_22 v23_22 v25_22 v36_22 v37_22 v38_22 v39_22 v40_22 v45_22 v46_22 v47_22 v48_22 v50_22 v51_22 v53_22 v55_22 hf23 hv0_22 hv2_22 hg2_22 hv3_22 hg3_22 hv4_22 hg4_22 hv5_22 hg5_22 hv6_22 hg6_22 hv8_22 hg8_22 hv9_22 hg9_22 hv12_22 hv13_22 hg13_22 hv14_22 hg14_22 hv15_22 hg15_22 hv17_22 hg17_22 hv20_22 hg20_22 hv23_22 hg23_22 hv25_22 hg25_22 hv36_22 hg36_22 hv47_22 hg47_22 hv48_22 hg48_22 hv53_22 hg53_22 hv55_22 hg55_22 hrel0_22 => ?_)
    have hg15_22 : v15_22.toInt = th 11 := hg15_22
    have hg17_22 : v17_22.toInt = th 12 := hg17_22
    have hg20_22 : v20_22.toInt = th 14 := hg20_22
    refine pl_put (ty := .int) (v := .int 0) (fs' := [.int v0_22, .ref (ad 256), .int 0, .int v3_22, .int v4_22, .int v5_22, .int v6_22, .ref (ad 257), .int v8_22, .int v9_22, .ref (ad 258), .ref (ad 259), .int v12_22, .int v13_22, .int v14_22, .int v15_22, .int v16_22, .int v17_22, .int v18_22, .int v19_22, .int v20_22, .long v21_22, .long v22_22, .int v23_22, .ref (ad 260), .int v25_22, .ref (ad 261), .ref (ad 262), .ref (ad 263), .ref (ad 264), .ref (ad 265), .ref (ad 266), .ref (ad 267), .ref (ad 268), .ref (ad 269), .ref (ad 270), .int v36_22, .int v37_22, .int v38_22, .int v39_22, .int v40_22, .ref (ad 271), .ref (ad 272), .ref (ad 273), .ref (ad 274), .long v45_22, .long v46_22, .int v47_22, .int v48_22, .ref (ad 275), .int v50_22, .int v51_22, .ref (ad 276), .int v53_22, .ref (ad 277), .int v55_22]) hx hb hts (fun w h => mT (inX11 w h)) tyX11 tyX11_ok nmX11 hown hG.1 hP hD hS (hst.1 255 (by decide)) hf23 rfl 2 (by decide) (hts _ (mT wg_1338)) (fun _ h => h) rfl (by decide +kernel) (rfl) (rfl) (Nat.le_of_ble_eq_true rfl) rfl dX11_council_17 (fun H locs f24 hf25 ho26 hP hD hS => ?_)
    have hfr : (∀ b, b ≠ (ad 255) → b ≠ (ad 271) → b ≠ (ad 257) → b ≠ (ad 261) → b ≠ (ad 262) → f24 b = f b) := fun b z0_ z1_ z2_ z3_ z4_ => (ho26 b z0_).trans (hfr b z0_ z1_ z2_ z3_ z4_)
    refine lv_aload_n hx hb dX11_council_20 rfl (lv_at hl 0 rfl) ?_
    refine lv_aload_n hx hb dX11_council_21 rfl (lv_at hl 0 rfl) ?_
    refine pl_get (v := .int v8_22) hx hb hts (fun w h => mT (inX11 w h)) hown hG.1 hP (hst.1 255 (by decide)) hf25 rfl 8 (by decide) (hts _ (mT wg_1344)) (fun _ h => h) rfl dX11_council_22 ?_
    have hg8_22 : v8_22.toInt = zz18 := hg8_22
    refine pl_put (ty := .int) (v := .int v8_22) (fs' := [.int v0_22, .ref (ad 256), .int 0, .int v3_22, .int v4_22, .int v5_22, .int v6_22, .ref (ad 257), .int v8_22, .int v9_22, .ref (ad 258), .ref (ad 259), .int v12_22, .int v13_22, .int v8_22, .int v15_22, .int v16_22, .int v17_22, .int v18_22, .int v19_22, .int v20_22, .long v21_22, .long v22_22, .int v23_22, .ref (ad 260), .int v25_22, .ref (ad 261), .ref (ad 262), .ref (ad 263), .ref (ad 264), .ref (ad 265), .ref (ad 266), .ref (ad 267), .ref (ad 268), .ref (ad 269), .ref (ad 270), .int v36_22, .int v37_22, .int v38_22, .int v39_22, .int v40_22, .ref (ad 271), .ref (ad 272), .ref (ad 273), .ref (ad 274), .long v45_22, .long v46_22, .int v47_22, .int v48_22, .ref (ad 275), .int v50_22, .int v51_22, .ref (ad 276), .int v53_22, .ref (ad 277), .int v55_22]) hx hb hts (fun w h => mT (inX11 w h)) tyX11 tyX11_ok nmX11 hown hG.1 hP hD hS (hst.1 255 (by decide)) hf25 rfl 14 (by decide) (hts _ (mT wg_1350)) (fun _ h => h) rfl (by decide +kernel) (rfl) (rfl) (Nat.le_of_ble_eq_true rfl) rfl dX11_council_25 (fun H locs f27 hf28 ho29 hP hD hS => ?_)
    have ho30 : ∀ b, b ≠ (ad 255) → f27 b = _ := fun b hb => (ho29 b hb).trans (ho26 b hb)
    have hfr : (∀ b, b ≠ (ad 255) → b ≠ (ad 271) → b ≠ (ad 257) → b ≠ (ad 261) → b ≠ (ad 262) → f27 b = f b) := fun b z0_ z1_ z2_ z3_ z4_ => (ho29 b z0_).trans (hfr b z0_ z1_ z2_ z3_ z4_)
    refine lv_aload_n hx hb dX11_council_28 rfl (lv_at hl 0 rfl) ?_
    refine lv_aload_n hx hb dX11_council_29 rfl (lv_at hl 0 rfl) ?_
    refine pl_get (v := .ref (ad 257)) hx hb hts (fun w h => mT (inX11 w h)) hown hG.1 hP (hst.1 255 (by decide)) hf28 rfl 7 (by decide) (hts _ (mT wg_1343)) (fun _ h => h) rfl dX11_council_30 ?_
    refine lv_iconst (v := 0) hx hb dX11_council_33 (by decide) ?_
    have hT := TI.updMG (th' := (gset (gset (gset (gset (gset (gset (gset (gset (gset (gset th 37 zz11) 40 zz12) 41 zz13) 42 zz14) 35 zz15) 30 zz16) 34 zz17) 43 zz18) 13 (0)) 10 (v8_22.toInt))) hT hst (k := 0) (by decide) hf28 ho30 ⟨v0_22, 0, v3_22, v4_22, v5_22, v6_22, v8_22, v9_22, v12_22, v13_22, v8_22, v15_22, v16_22, v17_22, v18_22, v19_22, v20_22, v21_22, v22_22, v23_22, v25_22, v36_22, v37_22, v38_22, v39_22, v40_22, v45_22, v46_22, v47_22, v48_22, v50_22, v51_22, v53_22, v55_22, rfl, hv0_22, (⟨by decide, by decide⟩ : In 0 0 500), (show (0 : Int32).toInt = 0 by decide), hv3_22, hg3_22, hv4_22, hg4_22, hv5_22, hg5_22, hv6_22, hg6_22, hv8_22, hg8_22, hv9_22, hg9_22, hv12_22, hv13_22, hg13_22, (In.mk (by have ob10 : (0 : Int) ≤ (th 10) ∧ (th 10) ≤ 1 := (b0_10 hT :); have ob11 : (0 : Int) ≤ (th 11) ∧ (th 11) ≤ 9 := (b0_11 hT :); have ob12 : (0 : Int) ≤ (th 12) ∧ (th 12) ≤ 6 := (b0_12 hT :); have ob14 : (0 : Int) ≤ (th 14) ∧ (th 14) ≤ 511 := (b0_14 hT :); have ob15 : (0 : Int) ≤ (th 15) ∧ (th 15) ≤ 1 := (b0_15 hT :); have ob16 : (0 : Int) ≤ (th 16) ∧ (th 16) ≤ 20 := (b0_16 hT :); have ob17 : (0 : Int) ≤ (th 17) ∧ (th 17) ≤ 1 := (b0_17 hT :); have ob18 : (0 : Int) ≤ (th 18) ∧ (th 18) ≤ 18 := (b0_18 hT :); have ob38 : (0 : Int) ≤ (th 38) ∧ (th 38) ≤ 400 := (b0_38 hT :); have ob39 : (0 : Int) ≤ (th 39) ∧ (th 39) ≤ 200 := (b0_39 hT :); have ob44 : (0 : Int) ≤ (th 44) ∧ (th 44) ≤ 30 := (b0_44 hT :); have orn := rnd_b (th 10); obtain ⟨o0a, o0b⟩ := (hv8_22 : In _ _ _); obtain ⟨o1a, o1b⟩ := (hv15_22 : In _ _ _); obtain ⟨o2a, o2b⟩ := (hv17_22 : In _ _ _); obtain ⟨o3a, o3b⟩ := (hv20_22 : In _ _ _); obtain ⟨o4a, o4b⟩ := (hv23_22 : In _ _ _); obtain ⟨o5a, o5b⟩ := (hv25_22 : In _ _ _); obtain ⟨o6a, o6b⟩ := (hv36_22 : In _ _ _); obtain ⟨o7a, o7b⟩ := (hv47_22 : In _ _ _); obtain ⟨o8a, o8b⟩ := (hv48_22 : In _ _ _); obtain ⟨o9a, o9b⟩ := (hv53_22 : In _ _ _); obtain ⟨o10a, o10b⟩ := (hv55_22 : In _ _ _); omega) (by have ob10 : (0 : Int) ≤ (th 10) ∧ (th 10) ≤ 1 := (b0_10 hT :); have ob11 : (0 : Int) ≤ (th 11) ∧ (th 11) ≤ 9 := (b0_11 hT :); have ob12 : (0 : Int) ≤ (th 12) ∧ (th 12) ≤ 6 := (b0_12 hT :); have ob14 : (0 : Int) ≤ (th 14) ∧ (th 14) ≤ 511 := (b0_14 hT :); have ob15 : (0 : Int) ≤ (th 15) ∧ (th 15) ≤ 1 := (b0_15 hT :); have ob16 : (0 : Int) ≤ (th 16) ∧ (th 16) ≤ 20 := (b0_16 hT :); have ob17 : (0 : Int) ≤ (th 17) ∧ (th 17) ≤ 1 := (b0_17 hT :); have ob18 : (0 : Int) ≤ (th 18) ∧ (th 18) ≤ 18 := (b0_18 hT :); have ob38 : (0 : Int) ≤ (th 38) ∧ (th 38) ≤ 400 := (b0_38 hT :); have ob39 : (0 : Int) ≤ (th 39) ∧ (th 39) ≤ 200 := (b0_39 hT :); have ob44 : (0 : Int) ≤ (th 44) ∧ (th 44) ≤ 30 := (b0_44 hT :); have orn := rnd_b (th 10); obtain ⟨o0a, o0b⟩ := (hv8_22 : In _ _ _); obtain ⟨o1a, o1b⟩ := (hv15_22 : In _ _ _); obtain ⟨o2a, o2b⟩ := (hv17_22 : In _ _ _); obtain ⟨o3a, o3b⟩ := (hv20_22 : In _ _ _); obtain ⟨o4a, o4b⟩ := (hv23_22 : In _ _ _); obtain ⟨o5a, o5b⟩ := (hv25_22 : In _ _ _); obtain ⟨o6a, o6b⟩ := (hv36_22 : In _ _ _); obtain ⟨o7a, o7b⟩ := (hv47_22 : In _ _ _); obtain ⟨o8a, o8b⟩ := (hv48_22 : In _ _ _); obtain ⟨o9a, o9b⟩ := (hv53_22 : In _ _ _); obtain ⟨o10a, o10b⟩ := (hv55_22 : In _ _ _); omega)), rfl, hv15_22, hg15_22, hv17_22, hg17_22, hv20_22, hg20_22, hv23_22, hg23_22, hv25_22, hg25_22, hv36_22, hg36_22, hv47_22, hg47_22, hv48_22, hg48_22, hv53_22, hg53_22, hv55_22, hg55_22, hrel0_22⟩ (fun q hq => ((gset_ne (fun e => hq (by subst e; decide))).trans ((gset_ne (fun e => hq (by subst e; decide))).trans rfl)))
    have hT : TI g ad (gset (gset (gset (gset (gset (gset (gset (gset (gset (gset th 37 zz11) 40 zz12) 41 zz13) 42 zz14) 35 zz15) 30 zz16) 34 zz17) 43 zz18) 13 0) 10 v8_22.toInt) f27 := TI.cast hT (by funext q; by_cases hq0 : q = 10; (subst hq0; simp [gset]); by_cases hq1 : q = 13; (subst hq1; simp [gset]); by_cases hq2 : q = 43; (subst hq2; simp [gset]); by_cases hq3 : q = 34; (subst hq3; simp [gset]); by_cases hq4 : q = 30; (subst hq4; simp [gset]); by_cases hq5 : q = 35; (subst hq5; simp [gset]); by_cases hq6 : q = 42; (subst hq6; simp [gset]); by_cases hq7 : q = 41; (subst hq7; simp [gset]); by_cases hq8 : q = 40; (subst hq8; simp [gset]); by_cases hq9 : q = 37; (subst hq9; simp [gset]); simp only [gset, if_neg hq0, if_neg hq1, if_neg hq2, if_neg hq3, if_neg hq4, if_neg hq5, if_neg hq6, if_neg hq7, if_neg hq8, if_neg hq9])
    obtain ⟨rw31, hf32, hpn33, hpg34, hpn35, hpn36, hpn37, hpg38⟩ := hT.2.2 2 (by decide)
    have hin39 : vp_in 0 6 := In.inb (⟨by decide, by decide⟩ : In 0 0 0) (by decide) (by decide)
    refine pl_iald hx hb hG.1 hP (hst.1 257 (by decide)) 0 hf32 rfl hin39 dX11_council_34 ?_
    refine lv_topi (fun x40 ex40 => ?_)
    have hb41 : In x40 0 9 := by rw [ex40]; exact pinI (k := 0) (by decide) hpn33
    have hgl42 : x40.toInt = zz16 := by rw [ex40]; exact pinE (k := 0) (by decide) hpg34
    refine M0e hT (fun v0_43 v2_43 v3_43 v4_43 v5_43 v6_43 v8_43 v9_43 v12_43 v13_43 v14_43 v15_43 v16_43 v17_43 v18_43 v19_43 v20_43 v21_43 v22_43 v23_43 v25_43 v36_43 v37_43 v38_43 v39_43 v40_43 v45_43 v46_43 v47_43 v48_43 v50_43 v51_43 v53_43 v55_43 hf44 hv0_43 hv2_43 hg2_43 hv3_43 hg3_43 hv4_43 hg4_43 hv5_43 hg5_43 hv6_43 hg6_43 hv8_43 hg8_43 hv9_43 hg9_43 hv12_43 hv13_43 hg13_43 hv14_43 hg14_43 hv15_43 hg15_43 hv17_43 hg17_43 hv20_43 hg20_43 hv23_43 hg23_43 hv25_43 hg25_43 hv36_43 hg36_43 hv47_43 hg47_43 hv48_43 hg48_43 hv53_43 hg53_43 hv55_43 hg55_43 hrel0_43 => ?_)
    have hg15_43 : v15_43.toInt = th 11 := hg15_43
    have hg17_43 : v17_43.toInt = th 12 := hg17_43
    have hg20_43 : v20_43.toInt = th 14 := hg20_43
    refine pl_put (ty := .int) (v := .int x40) (fs' := [.int v0_43, .ref (ad 256), .int v2_43, .int v3_43, .int v4_43, .int v5_43, .int v6_43, .ref (ad 257), .int v8_43, .int v9_43, .ref (ad 258), .ref (ad 259), .int v12_43, .int v13_43, .int v14_43, .int x40, .int v16_43, .int v17_43, .int v18_43, .int v19_43, .int v20_43, .long v21_43, .long v22_43, .int v23_43, .ref (ad 260), .int v25_43, .ref (ad 261), .ref (ad 262), .ref (ad 263), .ref (ad 264), .ref (ad 265), .ref (ad 266), .ref (ad 267), .ref (ad 268), .ref (ad 269), .ref (ad 270), .int v36_43, .int v37_43, .int v38_43, .int v39_43, .int v40_43, .ref (ad 271), .ref (ad 272), .ref (ad 273), .ref (ad 274), .long v45_43, .long v46_43, .int v47_43, .int v48_43, .ref (ad 275), .int v50_43, .int v51_43, .ref (ad 276), .int v53_43, .ref (ad 277), .int v55_43]) hx hb hts (fun w h => mT (inX11 w h)) tyX11 tyX11_ok nmX11 hown hG.1 hP hD hS (hst.1 255 (by decide)) hf44 rfl 15 (by decide) (hts _ (mT wg_1351)) (fun _ h => h) rfl (by decide +kernel) (rfl) (rfl) (Nat.le_of_ble_eq_true rfl) rfl dX11_council_35 (fun H locs f45 hf46 ho47 hP hD hS => ?_)
    have hf48 := (ho47 (ad 257) (hst.ne (by decide) (by decide) (by decide))).trans hf32
    have hfr : (∀ b, b ≠ (ad 255) → b ≠ (ad 271) → b ≠ (ad 257) → b ≠ (ad 261) → b ≠ (ad 262) → f45 b = f b) := fun b z0_ z1_ z2_ z3_ z4_ => (ho47 b z0_).trans (hfr b z0_ z1_ z2_ z3_ z4_)
    refine lv_aload_n hx hb dX11_council_38 rfl (lv_at hl 0 rfl) ?_
    refine lv_aload_n hx hb dX11_council_39 rfl (lv_at hl 0 rfl) ?_
    refine pl_get (v := .ref (ad 257)) hx hb hts (fun w h => mT (inX11 w h)) hown hG.1 hP (hst.1 255 (by decide)) hf46 rfl 7 (by decide) (hts _ (mT wg_1343)) (fun _ h => h) rfl dX11_council_40 ?_
    refine lv_iconst (v := 1) hx hb dX11_council_43 (by decide) ?_
    have hin49 : vp_in 1 6 := In.inb (⟨by decide, by decide⟩ : In 1 1 1) (by decide) (by decide)
    refine pl_iald hx hb hG.1 hP (hst.1 257 (by decide)) 0 hf48 rfl hin49 dX11_council_44 ?_
    refine lv_topi (fun x50 ex50 => ?_)
    have hb51 : In x50 0 4 := by rw [ex50]; exact pinI (k := 1) (by decide) hpn35
    refine pl_put (ty := .int) (v := .int x50) (fs' := [.int v0_43, .ref (ad 256), .int v2_43, .int v3_43, .int v4_43, .int v5_43, .int v6_43, .ref (ad 257), .int v8_43, .int v9_43, .ref (ad 258), .ref (ad 259), .int v12_43, .int v13_43, .int v14_43, .int x40, .int x50, .int v17_43, .int v18_43, .int v19_43, .int v20_43, .long v21_43, .long v22_43, .int v23_43, .ref (ad 260), .int v25_43, .ref (ad 261), .ref (ad 262), .ref (ad 263), .ref (ad 264), .ref (ad 265), .ref (ad 266), .ref (ad 267), .ref (ad 268), .ref (ad 269), .ref (ad 270), .int v36_43, .int v37_43, .int v38_43, .int v39_43, .int v40_43, .ref (ad 271), .ref (ad 272), .ref (ad 273), .ref (ad 274), .long v45_43, .long v46_43, .int v47_43, .int v48_43, .ref (ad 275), .int v50_43, .int v51_43, .ref (ad 276), .int v53_43, .ref (ad 277), .int v55_43]) hx hb hts (fun w h => mT (inX11 w h)) tyX11 tyX11_ok nmX11 hown hG.1 hP hD hS (hst.1 255 (by decide)) hf46 rfl 16 (by decide) (hts _ (mT wg_1352)) (fun _ h => h) rfl (by decide +kernel) (rfl) (rfl) (Nat.le_of_ble_eq_true rfl) rfl dX11_council_45 (fun H locs f52 hf53 ho54 hP hD hS => ?_)
    have hf55 := (ho54 (ad 257) (hst.ne (by decide) (by decide) (by decide))).trans hf48
    have ho56 : ∀ b, b ≠ (ad 255) → f52 b = _ := fun b hb => (ho54 b hb).trans (ho47 b hb)
    have hfr : (∀ b, b ≠ (ad 255) → b ≠ (ad 271) → b ≠ (ad 257) → b ≠ (ad 261) → b ≠ (ad 262) → f52 b = f b) := fun b z0_ z1_ z2_ z3_ z4_ => (ho54 b z0_).trans (hfr b z0_ z1_ z2_ z3_ z4_)
    refine lv_aload_n hx hb dX11_council_48 rfl (lv_at hl 0 rfl) ?_
    refine lv_aload_n hx hb dX11_council_49 rfl (lv_at hl 0 rfl) ?_
    refine pl_get (v := .ref (ad 257)) hx hb hts (fun w h => mT (inX11 w h)) hown hG.1 hP (hst.1 255 (by decide)) hf53 rfl 7 (by decide) (hts _ (mT wg_1343)) (fun _ h => h) rfl dX11_council_50 ?_
    refine lv_iconst (v := 2) hx hb dX11_council_53 (by decide) ?_
    have hin57 : vp_in 2 6 := In.inb (⟨by decide, by decide⟩ : In 2 2 2) (by decide) (by decide)
    refine pl_iald hx hb hG.1 hP (hst.1 257 (by decide)) 0 hf55 rfl hin57 dX11_council_54 ?_
    refine lv_topi (fun x58 ex58 => ?_)
    have hb59 : In x58 0 6 := by rw [ex58]; exact pinI (k := 2) (by decide) hpn36
    refine pl_put (ty := .int) (v := .int x58) (fs' := [.int v0_43, .ref (ad 256), .int v2_43, .int v3_43, .int v4_43, .int v5_43, .int v6_43, .ref (ad 257), .int v8_43, .int v9_43, .ref (ad 258), .ref (ad 259), .int v12_43, .int v13_43, .int v14_43, .int x40, .int x50, .int x58, .int v18_43, .int v19_43, .int v20_43, .long v21_43, .long v22_43, .int v23_43, .ref (ad 260), .int v25_43, .ref (ad 261), .ref (ad 262), .ref (ad 263), .ref (ad 264), .ref (ad 265), .ref (ad 266), .ref (ad 267), .ref (ad 268), .ref (ad 269), .ref (ad 270), .int v36_43, .int v37_43, .int v38_43, .int v39_43, .int v40_43, .ref (ad 271), .ref (ad 272), .ref (ad 273), .ref (ad 274), .long v45_43, .long v46_43, .int v47_43, .int v48_43, .ref (ad 275), .int v50_43, .int v51_43, .ref (ad 276), .int v53_43, .ref (ad 277), .int v55_43]) hx hb hts (fun w h => mT (inX11 w h)) tyX11 tyX11_ok nmX11 hown hG.1 hP hD hS (hst.1 255 (by decide)) hf53 rfl 17 (by decide) (hts _ (mT wg_1353)) (fun _ h => h) rfl (by decide +kernel) (rfl) (rfl) (Nat.le_of_ble_eq_true rfl) rfl dX11_council_55 (fun H locs f60 hf61 ho62 hP hD hS => ?_)
    have hf63 := (ho62 (ad 257) (hst.ne (by decide) (by decide) (by decide))).trans hf55
    have ho64 : ∀ b, b ≠ (ad 255) → f60 b = _ := fun b hb => (ho62 b hb).trans (ho56 b hb)
    have hfr : (∀ b, b ≠ (ad 255) → b ≠ (ad 271) → b ≠ (ad 257) → b ≠ (ad 261) → b ≠ (ad 262) → f60 b = f b) := fun b z0_ z1_ z2_ z3_ z4_ => (ho62 b z0_).trans (hfr b z0_ z1_ z2_ z3_ z4_)
    refine lv_aload_n hx hb dX11_council_58 rfl (lv_at hl 0 rfl) ?_
    refine lv_aload_n hx hb dX11_council_59 rfl (lv_at hl 0 rfl) ?_
    refine pl_get (v := .ref (ad 257)) hx hb hts (fun w h => mT (inX11 w h)) hown hG.1 hP (hst.1 255 (by decide)) hf61 rfl 7 (by decide) (hts _ (mT wg_1343)) (fun _ h => h) rfl dX11_council_60 ?_
    refine lv_iconst (v := 5) hx hb dX11_council_63 (by decide) ?_
    have hin65 : vp_in 5 6 := In.inb (⟨by decide, by decide⟩ : In 5 5 5) (by decide) (by decide)
    refine pl_iald hx hb hG.1 hP (hst.1 257 (by decide)) 0 hf63 rfl hin65 dX11_council_64 ?_
    refine lv_topi (fun x66 ex66 => ?_)
    refine pl_put (ty := .int) (v := .int x66) (fs' := [.int v0_43, .ref (ad 256), .int v2_43, .int v3_43, .int v4_43, .int v5_43, .int v6_43, .ref (ad 257), .int v8_43, .int v9_43, .ref (ad 258), .ref (ad 259), .int v12_43, .int v13_43, .int v14_43, .int x40, .int x50, .int x58, .int x66, .int v19_43, .int v20_43, .long v21_43, .long v22_43, .int v23_43, .ref (ad 260), .int v25_43, .ref (ad 261), .ref (ad 262), .ref (ad 263), .ref (ad 264), .ref (ad 265), .ref (ad 266), .ref (ad 267), .ref (ad 268), .ref (ad 269), .ref (ad 270), .int v36_43, .int v37_43, .int v38_43, .int v39_43, .int v40_43, .ref (ad 271), .ref (ad 272), .ref (ad 273), .ref (ad 274), .long v45_43, .long v46_43, .int v47_43, .int v48_43, .ref (ad 275), .int v50_43, .int v51_43, .ref (ad 276), .int v53_43, .ref (ad 277), .int v55_43]) hx hb hts (fun w h => mT (inX11 w h)) tyX11 tyX11_ok nmX11 hown hG.1 hP hD hS (hst.1 255 (by decide)) hf61 rfl 18 (by decide) (hts _ (mT wg_1354)) (fun _ h => h) rfl (by decide +kernel) (rfl) (rfl) (Nat.le_of_ble_eq_true rfl) rfl dX11_council_65 (fun H locs f67 hf68 ho69 hP hD hS => ?_)
    have hf70 := (ho69 (ad 257) (hst.ne (by decide) (by decide) (by decide))).trans hf63
    have ho71 : ∀ b, b ≠ (ad 255) → f67 b = _ := fun b hb => (ho69 b hb).trans (ho64 b hb)
    have hfr : (∀ b, b ≠ (ad 255) → b ≠ (ad 271) → b ≠ (ad 257) → b ≠ (ad 261) → b ≠ (ad 262) → f67 b = f b) := fun b z0_ z1_ z2_ z3_ z4_ => (ho69 b z0_).trans (hfr b z0_ z1_ z2_ z3_ z4_)
    refine lv_aload_n hx hb dX11_council_68 rfl (lv_at hl 0 rfl) ?_
    refine lv_aload_n hx hb dX11_council_69 rfl (lv_at hl 0 rfl) ?_
    refine pl_get (v := .ref (ad 257)) hx hb hts (fun w h => mT (inX11 w h)) hown hG.1 hP (hst.1 255 (by decide)) hf68 rfl 7 (by decide) (hts _ (mT wg_1343)) (fun _ h => h) rfl dX11_council_70 ?_
    refine lv_iconst (v := 3) hx hb dX11_council_73 (by decide) ?_
    have hin72 : vp_in 3 6 := In.inb (⟨by decide, by decide⟩ : In 3 3 3) (by decide) (by decide)
    refine pl_iald hx hb hG.1 hP (hst.1 257 (by decide)) 0 hf70 rfl hin72 dX11_council_74 ?_
    refine lv_topi (fun x73 ex73 => ?_)
    refine pl_put (ty := .int) (v := .int x73) (fs' := [.int v0_43, .ref (ad 256), .int v2_43, .int v3_43, .int v4_43, .int v5_43, .int v6_43, .ref (ad 257), .int v8_43, .int v9_43, .ref (ad 258), .ref (ad 259), .int v12_43, .int v13_43, .int v14_43, .int x40, .int x50, .int x58, .int x66, .int x73, .int v20_43, .long v21_43, .long v22_43, .int v23_43, .ref (ad 260), .int v25_43, .ref (ad 261), .ref (ad 262), .ref (ad 263), .ref (ad 264), .ref (ad 265), .ref (ad 266), .ref (ad 267), .ref (ad 268), .ref (ad 269), .ref (ad 270), .int v36_43, .int v37_43, .int v38_43, .int v39_43, .int v40_43, .ref (ad 271), .ref (ad 272), .ref (ad 273), .ref (ad 274), .long v45_43, .long v46_43, .int v47_43, .int v48_43, .ref (ad 275), .int v50_43, .int v51_43, .ref (ad 276), .int v53_43, .ref (ad 277), .int v55_43]) hx hb hts (fun w h => mT (inX11 w h)) tyX11 tyX11_ok nmX11 hown hG.1 hP hD hS (hst.1 255 (by decide)) hf68 rfl 19 (by decide) (hts _ (mT wg_1355)) (fun _ h => h) rfl (by decide +kernel) (rfl) (rfl) (Nat.le_of_ble_eq_true rfl) rfl dX11_council_75 (fun H locs f74 hf75 ho76 hP hD hS => ?_)
    have hf77 := (ho76 (ad 257) (hst.ne (by decide) (by decide) (by decide))).trans hf70
    have ho78 : ∀ b, b ≠ (ad 255) → f74 b = _ := fun b hb => (ho76 b hb).trans (ho71 b hb)
    have hfr : (∀ b, b ≠ (ad 255) → b ≠ (ad 271) → b ≠ (ad 257) → b ≠ (ad 261) → b ≠ (ad 262) → f74 b = f b) := fun b z0_ z1_ z2_ z3_ z4_ => (ho76 b z0_).trans (hfr b z0_ z1_ z2_ z3_ z4_)
    refine lv_aload_n hx hb dX11_council_78 rfl (lv_at hl 0 rfl) ?_
    refine lv_aload_n hx hb dX11_council_79 rfl (lv_at hl 0 rfl) ?_
    refine pl_get (v := .ref (ad 257)) hx hb hts (fun w h => mT (inX11 w h)) hown hG.1 hP (hst.1 255 (by decide)) hf75 rfl 7 (by decide) (hts _ (mT wg_1343)) (fun _ h => h) rfl dX11_council_80 ?_
    refine lv_iconst (v := 4) hx hb dX11_council_83 (by decide) ?_
    have hin79 : vp_in 4 6 := In.inb (⟨by decide, by decide⟩ : In 4 4 4) (by decide) (by decide)
    refine pl_iald hx hb hG.1 hP (hst.1 257 (by decide)) 0 hf77 rfl hin79 dX11_council_84 ?_
    refine lv_topi (fun x80 ex80 => ?_)
    have hb81 : In x80 0 511 := by rw [ex80]; exact pinI (k := 4) (by decide) hpn37
    have hgl82 : x80.toInt = zz17 := by rw [ex80]; exact pinE (k := 4) (by decide) hpg38
    refine pl_put (ty := .int) (v := .int x80) (fs' := [.int v0_43, .ref (ad 256), .int v2_43, .int v3_43, .int v4_43, .int v5_43, .int v6_43, .ref (ad 257), .int v8_43, .int v9_43, .ref (ad 258), .ref (ad 259), .int v12_43, .int v13_43, .int v14_43, .int x40, .int x50, .int x58, .int x66, .int x73, .int x80, .long v21_43, .long v22_43, .int v23_43, .ref (ad 260), .int v25_43, .ref (ad 261), .ref (ad 262), .ref (ad 263), .ref (ad 264), .ref (ad 265), .ref (ad 266), .ref (ad 267), .ref (ad 268), .ref (ad 269), .ref (ad 270), .int v36_43, .int v37_43, .int v38_43, .int v39_43, .int v40_43, .ref (ad 271), .ref (ad 272), .ref (ad 273), .ref (ad 274), .long v45_43, .long v46_43, .int v47_43, .int v48_43, .ref (ad 275), .int v50_43, .int v51_43, .ref (ad 276), .int v53_43, .ref (ad 277), .int v55_43]) hx hb hts (fun w h => mT (inX11 w h)) tyX11 tyX11_ok nmX11 hown hG.1 hP hD hS (hst.1 255 (by decide)) hf75 rfl 20 (by decide) (hts _ (mT wg_1356)) (fun _ h => h) rfl (by decide +kernel) (rfl) (rfl) (Nat.le_of_ble_eq_true rfl) rfl dX11_council_85 (fun H locs f83 hf84 ho85 hP hD hS => ?_)
    have hf86 := (ho85 (ad 257) (hst.ne (by decide) (by decide) (by decide))).trans hf77
    have ho87 : ∀ b, b ≠ (ad 255) → f83 b = _ := fun b hb => (ho85 b hb).trans (ho78 b hb)
    have hfr : (∀ b, b ≠ (ad 255) → b ≠ (ad 271) → b ≠ (ad 257) → b ≠ (ad 261) → b ≠ (ad 262) → f83 b = f b) := fun b z0_ z1_ z2_ z3_ z4_ => (ho85 b z0_).trans (hfr b z0_ z1_ z2_ z3_ z4_)
    refine lv_aload_n hx hb dX11_council_88 rfl (lv_at hl 0 rfl) ?_
    refine lv_lload_n hx hb dX11_council_89 rfl (lv_at hl 1 rfl) ?_
    refine pl_put (ty := .long) (v := .long z1) (fs' := [.int v0_43, .ref (ad 256), .int v2_43, .int v3_43, .int v4_43, .int v5_43, .int v6_43, .ref (ad 257), .int v8_43, .int v9_43, .ref (ad 258), .ref (ad 259), .int v12_43, .int v13_43, .int v14_43, .int x40, .int x50, .int x58, .int x66, .int x73, .int x80, .long z1, .long v22_43, .int v23_43, .ref (ad 260), .int v25_43, .ref (ad 261), .ref (ad 262), .ref (ad 263), .ref (ad 264), .ref (ad 265), .ref (ad 266), .ref (ad 267), .ref (ad 268), .ref (ad 269), .ref (ad 270), .int v36_43, .int v37_43, .int v38_43, .int v39_43, .int v40_43, .ref (ad 271), .ref (ad 272), .ref (ad 273), .ref (ad 274), .long v45_43, .long v46_43, .int v47_43, .int v48_43, .ref (ad 275), .int v50_43, .int v51_43, .ref (ad 276), .int v53_43, .ref (ad 277), .int v55_43]) hx hb hts (fun w h => mT (inX11 w h)) tyX11 tyX11_ok nmX11 hown hG.1 hP hD hS (hst.1 255 (by decide)) hf84 rfl 21 (by decide) (hts _ (mT wg_1357)) (fun _ h => h) rfl (by decide +kernel) (rfl) (rfl) (Nat.le_of_ble_eq_true rfl) rfl dX11_council_90 (fun H locs f88 hf89 ho90 hP hD hS => ?_)
    have hf91 := (ho90 (ad 257) (hst.ne (by decide) (by decide) (by decide))).trans hf86
    have ho92 : ∀ b, b ≠ (ad 255) → f88 b = _ := fun b hb => (ho90 b hb).trans (ho87 b hb)
    have hfr : (∀ b, b ≠ (ad 255) → b ≠ (ad 271) → b ≠ (ad 257) → b ≠ (ad 261) → b ≠ (ad 262) → f88 b = f b) := fun b z0_ z1_ z2_ z3_ z4_ => (ho90 b z0_).trans (hfr b z0_ z1_ z2_ z3_ z4_)
    refine lv_aload_n hx hb dX11_council_93 rfl (lv_at hl 0 rfl) ?_
    refine lv_iconst (v := 1) hx hb dX11_council_94 (by decide) ?_
    refine pl_put (ty := .boolean) (v := .int 1) (fs' := [.int v0_43, .ref (ad 256), .int v2_43, .int v3_43, .int v4_43, .int v5_43, .int v6_43, .ref (ad 257), .int v8_43, .int v9_43, .ref (ad 258), .ref (ad 259), .int v12_43, .int v13_43, .int v14_43, .int x40, .int x50, .int x58, .int x66, .int x73, .int x80, .long z1, .long v22_43, .int 1, .ref (ad 260), .int v25_43, .ref (ad 261), .ref (ad 262), .ref (ad 263), .ref (ad 264), .ref (ad 265), .ref (ad 266), .ref (ad 267), .ref (ad 268), .ref (ad 269), .ref (ad 270), .int v36_43, .int v37_43, .int v38_43, .int v39_43, .int v40_43, .ref (ad 271), .ref (ad 272), .ref (ad 273), .ref (ad 274), .long v45_43, .long v46_43, .int v47_43, .int v48_43, .ref (ad 275), .int v50_43, .int v51_43, .ref (ad 276), .int v53_43, .ref (ad 277), .int v55_43]) hx hb hts (fun w h => mT (inX11 w h)) tyX11 tyX11_ok nmX11 hown hG.1 hP hD hS (hst.1 255 (by decide)) hf89 rfl 23 (by decide) (hts _ (mT wg_1359)) (fun _ h => h) rfl (by decide +kernel) (rfl) (rfl) (Nat.le_of_ble_eq_true rfl) rfl dX11_council_95 (fun H locs f93 hf94 ho95 hP hD hS => ?_)
    have hf96 := (ho95 (ad 257) (hst.ne (by decide) (by decide) (by decide))).trans hf91
    have ho97 : ∀ b, b ≠ (ad 255) → f93 b = _ := fun b hb => (ho95 b hb).trans (ho92 b hb)
    have hfr : (∀ b, b ≠ (ad 255) → b ≠ (ad 271) → b ≠ (ad 257) → b ≠ (ad 261) → b ≠ (ad 262) → f93 b = f b) := fun b z0_ z1_ z2_ z3_ z4_ => (ho95 b z0_).trans (hfr b z0_ z1_ z2_ z3_ z4_)
    refine lv_aload_n hx hb dX11_council_98 rfl (lv_at hl 0 rfl) ?_
    refine lv_iconst (v := 0) hx hb dX11_council_99 (by decide) ?_
    refine pl_put (ty := .int) (v := .int 0) (fs' := [.int v0_43, .ref (ad 256), .int v2_43, .int v3_43, .int v4_43, .int v5_43, .int v6_43, .ref (ad 257), .int v8_43, .int v9_43, .ref (ad 258), .ref (ad 259), .int v12_43, .int v13_43, .int v14_43, .int x40, .int x50, .int x58, .int x66, .int x73, .int x80, .long z1, .long v22_43, .int 1, .ref (ad 260), .int 0, .ref (ad 261), .ref (ad 262), .ref (ad 263), .ref (ad 264), .ref (ad 265), .ref (ad 266), .ref (ad 267), .ref (ad 268), .ref (ad 269), .ref (ad 270), .int v36_43, .int v37_43, .int v38_43, .int v39_43, .int v40_43, .ref (ad 271), .ref (ad 272), .ref (ad 273), .ref (ad 274), .long v45_43, .long v46_43, .int v47_43, .int v48_43, .ref (ad 275), .int v50_43, .int v51_43, .ref (ad 276), .int v53_43, .ref (ad 277), .int v55_43]) hx hb hts (fun w h => mT (inX11 w h)) tyX11 tyX11_ok nmX11 hown hG.1 hP hD hS (hst.1 255 (by decide)) hf94 rfl 25 (by decide) (hts _ (mT wg_1361)) (fun _ h => h) rfl (by decide +kernel) (rfl) (rfl) (Nat.le_of_ble_eq_true rfl) rfl dX11_council_100 (fun H locs f98 hf99 ho100 hP hD hS => ?_)
    have hf101 := (ho100 (ad 257) (hst.ne (by decide) (by decide) (by decide))).trans hf96
    have ho102 : ∀ b, b ≠ (ad 255) → f98 b = _ := fun b hb => (ho100 b hb).trans (ho97 b hb)
    have hfr : (∀ b, b ≠ (ad 255) → b ≠ (ad 271) → b ≠ (ad 257) → b ≠ (ad 261) → b ≠ (ad 262) → f98 b = f b) := fun b z0_ z1_ z2_ z3_ z4_ => (ho100 b z0_).trans (hfr b z0_ z1_ z2_ z3_ z4_)
    refine lv_aload_n hx hb dX11_council_103 rfl (lv_at hl 0 rfl) ?_
    refine lv_iconst (v := 0) hx hb dX11_council_104 (by decide) ?_
    refine pl_put (ty := .int) (v := .int 0) (fs' := [.int v0_43, .ref (ad 256), .int v2_43, .int v3_43, .int v4_43, .int v5_43, .int v6_43, .ref (ad 257), .int v8_43, .int v9_43, .ref (ad 258), .ref (ad 259), .int v12_43, .int v13_43, .int v14_43, .int x40, .int x50, .int x58, .int x66, .int x73, .int x80, .long z1, .long v22_43, .int 1, .ref (ad 260), .int 0, .ref (ad 261), .ref (ad 262), .ref (ad 263), .ref (ad 264), .ref (ad 265), .ref (ad 266), .ref (ad 267), .ref (ad 268), .ref (ad 269), .ref (ad 270), .int v36_43, .int v37_43, .int v38_43, .int v39_43, .int v40_43, .ref (ad 271), .ref (ad 272), .ref (ad 273), .ref (ad 274), .long v45_43, .long v46_43, .int 0, .int v48_43, .ref (ad 275), .int v50_43, .int v51_43, .ref (ad 276), .int v53_43, .ref (ad 277), .int v55_43]) hx hb hts (fun w h => mT (inX11 w h)) tyX11 tyX11_ok nmX11 hown hG.1 hP hD hS (hst.1 255 (by decide)) hf99 rfl 47 (by decide) (hts _ (mT wg_1383)) (fun _ h => h) rfl (by decide +kernel) (rfl) (rfl) (Nat.le_of_ble_eq_true rfl) rfl dX11_council_105 (fun H locs f103 hf104 ho105 hP hD hS => ?_)
    have hf106 := (ho105 (ad 257) (hst.ne (by decide) (by decide) (by decide))).trans hf101
    have ho107 : ∀ b, b ≠ (ad 255) → f103 b = _ := fun b hb => (ho105 b hb).trans (ho102 b hb)
    have hfr : (∀ b, b ≠ (ad 255) → b ≠ (ad 271) → b ≠ (ad 257) → b ≠ (ad 261) → b ≠ (ad 262) → f103 b = f b) := fun b z0_ z1_ z2_ z3_ z4_ => (ho105 b z0_).trans (hfr b z0_ z1_ z2_ z3_ z4_)
    refine lv_aload_n hx hb dX11_council_108 rfl (lv_at hl 0 rfl) ?_
    refine lv_iconst (v := 0) hx hb dX11_council_109 (by decide) ?_
    refine pl_put (ty := .boolean) (v := .int 0) (fs' := [.int v0_43, .ref (ad 256), .int v2_43, .int v3_43, .int v4_43, .int v5_43, .int v6_43, .ref (ad 257), .int v8_43, .int v9_43, .ref (ad 258), .ref (ad 259), .int v12_43, .int v13_43, .int v14_43, .int x40, .int x50, .int x58, .int x66, .int x73, .int x80, .long z1, .long v22_43, .int 1, .ref (ad 260), .int 0, .ref (ad 261), .ref (ad 262), .ref (ad 263), .ref (ad 264), .ref (ad 265), .ref (ad 266), .ref (ad 267), .ref (ad 268), .ref (ad 269), .ref (ad 270), .int v36_43, .int v37_43, .int v38_43, .int v39_43, .int v40_43, .ref (ad 271), .ref (ad 272), .ref (ad 273), .ref (ad 274), .long v45_43, .long v46_43, .int 0, .int 0, .ref (ad 275), .int v50_43, .int v51_43, .ref (ad 276), .int v53_43, .ref (ad 277), .int v55_43]) hx hb hts (fun w h => mT (inX11 w h)) tyX11 tyX11_ok nmX11 hown hG.1 hP hD hS (hst.1 255 (by decide)) hf104 rfl 48 (by decide) (hts _ (mT wg_1384)) (fun _ h => h) rfl (by decide +kernel) (rfl) (rfl) (Nat.le_of_ble_eq_true rfl) rfl dX11_council_110 (fun H locs f108 hf109 ho110 hP hD hS => ?_)
    have hf111 := (ho110 (ad 257) (hst.ne (by decide) (by decide) (by decide))).trans hf106
    have ho112 : ∀ b, b ≠ (ad 255) → f108 b = _ := fun b hb => (ho110 b hb).trans (ho107 b hb)
    have hfr : (∀ b, b ≠ (ad 255) → b ≠ (ad 271) → b ≠ (ad 257) → b ≠ (ad 261) → b ≠ (ad 262) → f108 b = f b) := fun b z0_ z1_ z2_ z3_ z4_ => (ho110 b z0_).trans (hfr b z0_ z1_ z2_ z3_ z4_)
    refine lv_aload_n hx hb dX11_council_113 rfl (lv_at hl 0 rfl) ?_
    have hT := TI.updMG (th' := (gset (gset (gset (gset (gset (gset (gset (gset (gset (gset (gset (gset (gset (gset (gset (gset (gset th 37 zz11) 40 zz12) 41 zz13) 42 zz14) 35 zz15) 30 zz16) 34 zz17) 43 zz18) 13 0) 10 v8_22.toInt) 11 (x40.toInt)) 12 (x58.toInt)) 14 (x80.toInt)) 15 (1)) 44 (0)) 16 (0)) 17 (0))) hT hst (k := 0) (by decide) hf109 ho112 ⟨v0_43, v2_43, v3_43, v4_43, v5_43, v6_43, v8_43, v9_43, v12_43, v13_43, v14_43, x40, x50, x58, x66, x73, x80, z1, v22_43, 1, 0, v36_43, v37_43, v38_43, v39_43, v40_43, v45_43, v46_43, 0, 0, v50_43, v51_43, v53_43, v55_43, rfl, hv0_43, hv2_43, hg2_43, hv3_43, hg3_43, hv4_43, hg4_43, hv5_43, hg5_43, hv6_43, hg6_43, hv8_43, hg8_43, hv9_43, hg9_43, hv12_43, hv13_43, hg13_43, hv14_43, hg14_43, hb41, rfl, hb59, rfl, hb81, rfl, (⟨by decide, by decide⟩ : In 1 0 1), (show (1 : Int32).toInt = 1 by decide), (⟨by decide, by decide⟩ : In 0 0 30), (show (0 : Int32).toInt = 0 by decide), hv36_43, hg36_43, (⟨by decide, by decide⟩ : In 0 0 20), (show (0 : Int32).toInt = 0 by decide), (⟨by decide, by decide⟩ : In 0 0 1), (show (0 : Int32).toInt = 0 by decide), hv53_43, hg53_43, hv55_43, hg55_43, (by rw [hgl82, hgl42]; exact hdip.2.2.2.2.1)⟩ (fun q hq => ((gset_ne (fun e => hq (by subst e; decide))).trans ((gset_ne (fun e => hq (by subst e; decide))).trans ((gset_ne (fun e => hq (by subst e; decide))).trans ((gset_ne (fun e => hq (by subst e; decide))).trans ((gset_ne (fun e => hq (by subst e; decide))).trans ((gset_ne (fun e => hq (by subst e; decide))).trans ((gset_ne (fun e => hq (by subst e; decide))).trans rfl))))))))
    have hT : TI g ad (gset (gset (gset (gset (gset (gset (gset (gset (gset (gset (gset (gset (gset (gset (gset (gset (gset th 37 zz11) 40 zz12) 41 zz13) 42 zz14) 35 zz15) 30 zz16) 34 zz17) 43 zz18) 13 0) 10 v8_22.toInt) 11 x40.toInt) 12 x58.toInt) 14 x80.toInt) 15 1) 44 0) 16 0) 17 0) f108 := TI.cast hT (by funext q; by_cases hq0 : q = 17; (subst hq0; simp [gset]); by_cases hq1 : q = 16; (subst hq1; simp [gset]); by_cases hq2 : q = 44; (subst hq2; simp [gset]); by_cases hq3 : q = 15; (subst hq3; simp [gset]); by_cases hq4 : q = 14; (subst hq4; simp [gset]); by_cases hq5 : q = 12; (subst hq5; simp [gset]); by_cases hq6 : q = 11; (subst hq6; simp [gset]); by_cases hq7 : q = 10; (subst hq7; simp [gset]); by_cases hq8 : q = 13; (subst hq8; simp [gset]); by_cases hq9 : q = 43; (subst hq9; simp [gset]); by_cases hq10 : q = 34; (subst hq10; simp [gset]); by_cases hq11 : q = 30; (subst hq11; simp [gset]); by_cases hq12 : q = 35; (subst hq12; simp [gset]); by_cases hq13 : q = 42; (subst hq13; simp [gset]); by_cases hq14 : q = 41; (subst hq14; simp [gset]); by_cases hq15 : q = 40; (subst hq15; simp [gset]); by_cases hq16 : q = 37; (subst hq16; simp [gset]); simp only [gset, if_neg hq0, if_neg hq1, if_neg hq2, if_neg hq3, if_neg hq4, if_neg hq5, if_neg hq6, if_neg hq7, if_neg hq8, if_neg hq9, if_neg hq10, if_neg hq11, if_neg hq12, if_neg hq13, if_neg hq14, if_neg hq15, if_neg hq16])
    have hT := TI.w24 (z := 0) (TI.w23 (TI.w22 hT)) (show (0 : Int) ≤ th 24 by omega)
    have hT := TI.n2021 (a := (x58.toInt * rnd (v8_22.toInt))) (b := x40.toInt) hT (show (0 : Int) ≤ 0 by decide) (show (0 : Int) ≤ 0 by decide) (show (0 : Int) ≤ 0 by decide)
    have hc20 : 0 ≤ x58.toInt * rnd (v8_22.toInt) := cn20 (Int.le_trans (by decide) hb59.1)
    refine M0e hT (fun v0_113 v2_113 v3_113 v4_113 v5_113 v6_113 v8_113 v9_113 v12_113 v13_113 v14_113 v15_113 v16_113 v17_113 v18_113 v19_113 v20_113 v21_113 v22_113 v23_113 v25_113 v36_113 v37_113 v38_113 v39_113 v40_113 v45_113 v46_113 v47_113 v48_113 v50_113 v51_113 v53_113 v55_113 hf114 hv0_113 hv2_113 hg2_113 hv3_113 hg3_113 hv4_113 hg4_113 hv5_113 hg5_113 hv6_113 hg6_113 hv8_113 hg8_113 hv9_113 hg9_113 hv12_113 hv13_113 hg13_113 hv14_113 hg14_113 hv15_113 hg15_113 hv17_113 hg17_113 hv20_113 hg20_113 hv23_113 hg23_113 hv25_113 hg25_113 hv36_113 hg36_113 hv47_113 hg47_113 hv48_113 hg48_113 hv53_113 hg53_113 hv55_113 hg55_113 hrel0_113 => ?_)
    have hg15_113 : v15_113.toInt = x40.toInt := hg15_113
    have hg17_113 : v17_113.toInt = x58.toInt := hg17_113
    have hg20_113 : v20_113.toInt = x80.toInt := hg20_113
    refine call_v (run_V (rm := rm_X11_begins) hx hb hml hown hts (s_X11_begins l g ad (gset (gset (gset (gset (gset (gset (gset (gset (gset (gset (gset (gset (gset (gset (gset (gset (gset (gset (gset (gset (gset (gset th 37 zz11) 40 zz12) 41 zz13) 42 zz14) 35 zz15) 30 zz16) 34 zz17) 43 zz18) 13 0) 10 v8_22.toInt) 11 x40.toInt) 12 x58.toInt) 14 x80.toInt) 15 1) 44 0) 16 0) 17 0) 22 0) 23 0) 24 0) 20 (x58.toInt * rnd (v8_22.toInt))) 21 x40.toInt) _ _ _  hst hT (show 0 ≤ (x58.toInt * rnd (v8_22.toInt)) from (by have ob10 : (0 : Int) ≤ v8_22.toInt ∧ v8_22.toInt ≤ 1 := (b0_10 hT :); have ob11 : (0 : Int) ≤ x40.toInt ∧ x40.toInt ≤ 9 := (b0_11 hT :); have ob12 : (0 : Int) ≤ x58.toInt ∧ x58.toInt ≤ 6 := (b0_12 hT :); have ob14 : (0 : Int) ≤ x80.toInt ∧ x80.toInt ≤ 511 := (b0_14 hT :); have ob15 : (0 : Int) ≤ (1 : Int) ∧ (1 : Int) ≤ 1 := (b0_15 hT :); have ob16 : (0 : Int) ≤ (0 : Int) ∧ (0 : Int) ≤ 20 := (b0_16 hT :); have ob17 : (0 : Int) ≤ (0 : Int) ∧ (0 : Int) ≤ 1 := (b0_17 hT :); have ob18 : (0 : Int) ≤ (th 18) ∧ (th 18) ≤ 18 := (b0_18 hT :); have ob38 : (0 : Int) ≤ (th 38) ∧ (th 38) ≤ 400 := (b0_38 hT :); have ob39 : (0 : Int) ≤ (th 39) ∧ (th 39) ≤ 200 := (b0_39 hT :); have ob44 : (0 : Int) ≤ (0 : Int) ∧ (0 : Int) ≤ 30 := (b0_44 hT :); have orn := rnd_b v8_22.toInt; obtain ⟨o0a, o0b⟩ := (hv14_113 : In _ _ _); obtain ⟨o1a, o1b⟩ := (hv15_113 : In _ _ _); obtain ⟨o2a, o2b⟩ := (hv17_113 : In _ _ _); obtain ⟨o3a, o3b⟩ := (hv20_113 : In _ _ _); obtain ⟨o4a, o4b⟩ := (hv23_113 : In _ _ _); obtain ⟨o5a, o5b⟩ := (hv25_113 : In _ _ _); obtain ⟨o6a, o6b⟩ := (hv36_113 : In _ _ _); obtain ⟨o7a, o7b⟩ := (hv47_113 : In _ _ _); obtain ⟨o8a, o8b⟩ := (hv48_113 : In _ _ _); obtain ⟨o9a, o9b⟩ := (hv53_113 : In _ _ _); obtain ⟨o10a, o10b⟩ := (hv55_113 : In _ _ _); omega)) (show x40.toInt = x40.toInt from (by have ob10 : (0 : Int) ≤ v8_22.toInt ∧ v8_22.toInt ≤ 1 := (b0_10 hT :); have ob11 : (0 : Int) ≤ x40.toInt ∧ x40.toInt ≤ 9 := (b0_11 hT :); have ob12 : (0 : Int) ≤ x58.toInt ∧ x58.toInt ≤ 6 := (b0_12 hT :); have ob14 : (0 : Int) ≤ x80.toInt ∧ x80.toInt ≤ 511 := (b0_14 hT :); have ob15 : (0 : Int) ≤ (1 : Int) ∧ (1 : Int) ≤ 1 := (b0_15 hT :); have ob16 : (0 : Int) ≤ (0 : Int) ∧ (0 : Int) ≤ 20 := (b0_16 hT :); have ob17 : (0 : Int) ≤ (0 : Int) ∧ (0 : Int) ≤ 1 := (b0_17 hT :); have ob18 : (0 : Int) ≤ (th 18) ∧ (th 18) ≤ 18 := (b0_18 hT :); have ob38 : (0 : Int) ≤ (th 38) ∧ (th 38) ≤ 400 := (b0_38 hT :); have ob39 : (0 : Int) ≤ (th 39) ∧ (th 39) ≤ 200 := (b0_39 hT :); have ob44 : (0 : Int) ≤ (0 : Int) ∧ (0 : Int) ≤ 30 := (b0_44 hT :); have orn := rnd_b v8_22.toInt; obtain ⟨o0a, o0b⟩ := (hv14_113 : In _ _ _); obtain ⟨o1a, o1b⟩ := (hv15_113 : In _ _ _); obtain ⟨o2a, o2b⟩ := (hv17_113 : In _ _ _); obtain ⟨o3a, o3b⟩ := (hv20_113 : In _ _ _); obtain ⟨o4a, o4b⟩ := (hv23_113 : In _ _ _); obtain ⟨o5a, o5b⟩ := (hv25_113 : In _ _ _); obtain ⟨o6a, o6b⟩ := (hv36_113 : In _ _ _); obtain ⟨o7a, o7b⟩ := (hv47_113 : In _ _ _); obtain ⟨o8a, o8b⟩ := (hv48_113 : In _ _ _); obtain ⟨o9a, o9b⟩ := (hv53_113 : In _ _ _); obtain ⟨o10a, o10b⟩ := (hv55_113 : In _ _ _); omega))) cV_X11_begins wg_1612 ⟨Nat.le_of_ble_eq_true rfl, Nat.le_of_ble_eq_true rfl⟩ hG hE hA hP hD hS (hst.1 255 (by decide)) hf114 rfl rfl hl.1 (As := []) (rest := []) rfl (Nat.le_of_ble_eq_true rfl) dX11_council_114 ⟨Nat.le_of_ble_eq_true rfl, Nat.le_of_ble_eq_true rfl⟩) hA hD hS (fun L116 f117 H locs hp118 hP hD hS => ?_)
    obtain ⟨eL119L, eL119T, eL119F⟩ := hp118
    have eL119L : L116 = L := eL119L
    rw [eL119L] at hP hD
    obtain ⟨zz120, zz121, zz122, hzz120, eL119T⟩ := eL119T
    have hzz120 : zz120 = 0 ∧ zz121 = 0 ∧ zz122 = 2126 := hzz120
    have hT : TI g ad (gset (gset (gset (gset (gset (gset (gset (gset (gset (gset (gset (gset (gset (gset (gset (gset (gset (gset (gset (gset (gset (gset (gset (gset (gset th 37 zz11) 40 zz12) 41 zz13) 42 zz14) 35 zz15) 30 zz16) 34 zz17) 43 zz18) 13 0) 10 v8_22.toInt) 11 x40.toInt) 12 x58.toInt) 14 x80.toInt) 15 1) 44 0) 16 0) 17 0) 22 0) 23 0) 24 0) 20 (x58.toInt * rnd (v8_22.toInt))) 21 x40.toInt) 18 zz120) 19 zz121) 22 zz122) f117 := eL119T
    have hT : TI g ad (gset (gset (gset (gset (gset (gset (gset (gset (gset (gset (gset (gset (gset (gset (gset (gset (gset (gset (gset (gset (gset (gset (gset (gset th 37 zz11) 40 zz12) 41 zz13) 42 zz14) 35 zz15) 30 zz16) 34 zz17) 43 zz18) 13 0) 10 v8_22.toInt) 11 x40.toInt) 12 x58.toInt) 14 x80.toInt) 15 1) 44 0) 16 0) 17 0) 23 0) 24 0) 20 (x58.toInt * rnd (v8_22.toInt))) 21 x40.toInt) 18 zz120) 19 zz121) 22 zz122) f117 := TI.cast hT (by funext q; by_cases hq0 : q = 22; (subst hq0; simp [gset]); by_cases hq1 : q = 19; (subst hq1; simp [gset]); by_cases hq2 : q = 18; (subst hq2; simp [gset]); by_cases hq3 : q = 21; (subst hq3; simp [gset]); by_cases hq4 : q = 20; (subst hq4; simp [gset]); by_cases hq5 : q = 24; (subst hq5; simp [gset]); by_cases hq6 : q = 23; (subst hq6; simp [gset]); by_cases hq7 : q = 17; (subst hq7; simp [gset]); by_cases hq8 : q = 16; (subst hq8; simp [gset]); by_cases hq9 : q = 44; (subst hq9; simp [gset]); by_cases hq10 : q = 15; (subst hq10; simp [gset]); by_cases hq11 : q = 14; (subst hq11; simp [gset]); by_cases hq12 : q = 12; (subst hq12; simp [gset]); by_cases hq13 : q = 11; (subst hq13; simp [gset]); by_cases hq14 : q = 10; (subst hq14; simp [gset]); by_cases hq15 : q = 13; (subst hq15; simp [gset]); by_cases hq16 : q = 43; (subst hq16; simp [gset]); by_cases hq17 : q = 34; (subst hq17; simp [gset]); by_cases hq18 : q = 30; (subst hq18; simp [gset]); by_cases hq19 : q = 35; (subst hq19; simp [gset]); by_cases hq20 : q = 42; (subst hq20; simp [gset]); by_cases hq21 : q = 41; (subst hq21; simp [gset]); by_cases hq22 : q = 40; (subst hq22; simp [gset]); by_cases hq23 : q = 37; (subst hq23; simp [gset]); simp only [gset, if_neg hq0, if_neg hq1, if_neg hq2, if_neg hq3, if_neg hq4, if_neg hq5, if_neg hq6, if_neg hq7, if_neg hq8, if_neg hq9, if_neg hq10, if_neg hq11, if_neg hq12, if_neg hq13, if_neg hq14, if_neg hq15, if_neg hq16, if_neg hq17, if_neg hq18, if_neg hq19, if_neg hq20, if_neg hq21, if_neg hq22, if_neg hq23])
    have eL119F : ∀ b, b ≠ (ad 255) → b ≠ (ad 271) → b ≠ (ad 261) → b ≠ (ad 262) → f117 b = f108 b := eL119F
    have hfr : (∀ b, b ≠ (ad 255) → b ≠ (ad 271) → b ≠ (ad 257) → b ≠ (ad 261) → b ≠ (ad 262) → f117 b = f b) := fun b z0_ z1_ z2_ z3_ z4_ => (eL119F b z0_ z1_ z3_ z4_).trans (hfr b z0_ z1_ z2_ z3_ z4_)
    refine lv_aload_n hx hb dX11_council_117 rfl (lv_at hl 0 rfl) ?_
    refine M0e hT (fun v0_123 v2_123 v3_123 v4_123 v5_123 v6_123 v8_123 v9_123 v12_123 v13_123 v14_123 v15_123 v16_123 v17_123 v18_123 v19_123 v20_123 v21_123 v22_123 v23_123 v25_123 v36_123 v37_123 v38_123 v39_123 v40_123 v45_123 v46_123 v47_123 v48_123 v50_123 v51_123 v53_123 v55_123 hf124 hv0_123 hv2_123 hg2_123 hv3_123 hg3_123 hv4_123 hg4_123 hv5_123 hg5_123 hv6_123 hg6_123 hv8_123 hg8_123 hv9_123 hg9_123 hv12_123 hv13_123 hg13_123 hv14_123 hg14_123 hv15_123 hg15_123 hv17_123 hg17_123 hv20_123 hg20_123 hv23_123 hg23_123 hv25_123 hg25_123 hv36_123 hg36_123 hv47_123 hg47_123 hv48_123 hg48_123 hv53_123 hg53_123 hv55_123 hg55_123 hrel0_123 => ?_)
    have hg15_123 : v15_123.toInt = x40.toInt := hg15_123
    have hg17_123 : v17_123.toInt = x58.toInt := hg17_123
    have hg20_123 : v20_123.toInt = x80.toInt := hg20_123
    refine pl_get (v := .int v15_123) hx hb hts (fun w h => mT (inX11 w h)) hown hG.1 hP (hst.1 255 (by decide)) hf124 rfl 15 (by decide) (hts _ (mT wg_1351)) (fun _ h => h) rfl dX11_council_118 ?_
    exact ret_i (ty := .int) hx hb hr hlocks (rfl) hP hD hS (Nat.le_of_ble_eq_true rfl) (Nat.le_of_ble_eq_true rfl) (⟨rfl, ⟨(gset (gset (gset (gset (gset (gset (gset (gset (gset (gset (gset (gset (gset (gset (gset (gset (gset (gset (gset (gset (gset (gset (gset (gset th 37 zz11) 40 zz12) 41 zz13) 42 zz14) 35 zz15) 30 zz16) 34 zz17) 43 zz18) 13 0) 10 v8_22.toInt) 11 x40.toInt) 12 x58.toInt) 14 x80.toInt) 15 1) 44 0) 16 0) 17 0) 23 0) 24 0) 20 (x58.toInt * rnd (v8_22.toInt))) 21 x40.toInt) 18 zz120) 19 zz121) 22 zz122), ⟨(show MI (gset (gset (gset (gset (gset (gset (gset (gset (gset (gset (gset (gset (gset (gset (gset (gset (gset (gset (gset (gset (gset (gset (gset (gset th 37 zz11) 40 zz12) 41 zz13) 42 zz14) 35 zz15) 30 zz16) 34 zz17) 43 zz18) 13 0) 10 v8_22.toInt) 11 x40.toInt) 12 x58.toInt) 14 x80.toInt) 15 1) 44 0) 16 0) 17 0) 23 0) 24 0) 20 (x58.toInt * rnd (v8_22.toInt))) 21 x40.toInt) 18 zz120) 19 zz121) 22 zz122) from ⟨(show (1 : Int) = 0 ∨ 3 ≤ x40.toInt from (by have ob10 : (0 : Int) ≤ v8_22.toInt ∧ v8_22.toInt ≤ 1 := (b0_10 hT :); have ob11 : (0 : Int) ≤ x40.toInt ∧ x40.toInt ≤ 9 := (b0_11 hT :); have ob12 : (0 : Int) ≤ x58.toInt ∧ x58.toInt ≤ 6 := (b0_12 hT :); have ob14 : (0 : Int) ≤ x80.toInt ∧ x80.toInt ≤ 511 := (b0_14 hT :); have ob15 : (0 : Int) ≤ (1 : Int) ∧ (1 : Int) ≤ 1 := (b0_15 hT :); have ob16 : (0 : Int) ≤ (0 : Int) ∧ (0 : Int) ≤ 20 := (b0_16 hT :); have ob17 : (0 : Int) ≤ (0 : Int) ∧ (0 : Int) ≤ 1 := (b0_17 hT :); have ob18 : (0 : Int) ≤ zz120 ∧ zz120 ≤ 18 := (b0_18 hT :); have ob38 : (0 : Int) ≤ (th 38) ∧ (th 38) ≤ 400 := (b0_38 hT :); have ob39 : (0 : Int) ≤ (th 39) ∧ (th 39) ≤ 200 := (b0_39 hT :); have ob44 : (0 : Int) ≤ (0 : Int) ∧ (0 : Int) ≤ 30 := (b0_44 hT :); have orn := rnd_b v8_22.toInt; obtain ⟨o0a, o0b⟩ := (hv14_123 : In _ _ _); obtain ⟨o1a, o1b⟩ := (hv15_123 : In _ _ _); obtain ⟨o2a, o2b⟩ := (hv17_123 : In _ _ _); obtain ⟨o3a, o3b⟩ := (hv20_123 : In _ _ _); obtain ⟨o4a, o4b⟩ := (hv23_123 : In _ _ _); obtain ⟨o5a, o5b⟩ := (hv25_123 : In _ _ _); obtain ⟨o6a, o6b⟩ := (hv36_123 : In _ _ _); obtain ⟨o7a, o7b⟩ := (hv47_123 : In _ _ _); obtain ⟨o8a, o8b⟩ := (hv48_123 : In _ _ _); obtain ⟨o9a, o9b⟩ := (hv53_123 : In _ _ _); obtain ⟨o10a, o10b⟩ := (hv55_123 : In _ _ _); omega)), (show 0 ≤ x58.toInt ∧ x58.toInt ≤ 6 from (by have ob10 : (0 : Int) ≤ v8_22.toInt ∧ v8_22.toInt ≤ 1 := (b0_10 hT :); have ob11 : (0 : Int) ≤ x40.toInt ∧ x40.toInt ≤ 9 := (b0_11 hT :); have ob12 : (0 : Int) ≤ x58.toInt ∧ x58.toInt ≤ 6 := (b0_12 hT :); have ob14 : (0 : Int) ≤ x80.toInt ∧ x80.toInt ≤ 511 := (b0_14 hT :); have ob15 : (0 : Int) ≤ (1 : Int) ∧ (1 : Int) ≤ 1 := (b0_15 hT :); have ob16 : (0 : Int) ≤ (0 : Int) ∧ (0 : Int) ≤ 20 := (b0_16 hT :); have ob17 : (0 : Int) ≤ (0 : Int) ∧ (0 : Int) ≤ 1 := (b0_17 hT :); have ob18 : (0 : Int) ≤ zz120 ∧ zz120 ≤ 18 := (b0_18 hT :); have ob38 : (0 : Int) ≤ (th 38) ∧ (th 38) ≤ 400 := (b0_38 hT :); have ob39 : (0 : Int) ≤ (th 39) ∧ (th 39) ≤ 200 := (b0_39 hT :); have ob44 : (0 : Int) ≤ (0 : Int) ∧ (0 : Int) ≤ 30 := (b0_44 hT :); have orn := rnd_b v8_22.toInt; obtain ⟨o0a, o0b⟩ := (hv14_123 : In _ _ _); obtain ⟨o1a, o1b⟩ := (hv15_123 : In _ _ _); obtain ⟨o2a, o2b⟩ := (hv17_123 : In _ _ _); obtain ⟨o3a, o3b⟩ := (hv20_123 : In _ _ _); obtain ⟨o4a, o4b⟩ := (hv23_123 : In _ _ _); obtain ⟨o5a, o5b⟩ := (hv25_123 : In _ _ _); obtain ⟨o6a, o6b⟩ := (hv36_123 : In _ _ _); obtain ⟨o7a, o7b⟩ := (hv47_123 : In _ _ _); obtain ⟨o8a, o8b⟩ := (hv48_123 : In _ _ _); obtain ⟨o9a, o9b⟩ := (hv53_123 : In _ _ _); obtain ⟨o10a, o10b⟩ := (hv55_123 : In _ _ _); omega)), (show x58.toInt * rnd (v8_22.toInt) = x58.toInt * rnd (v8_22.toInt) from rfl), (show x40.toInt = x40.toInt from (by have ob10 : (0 : Int) ≤ v8_22.toInt ∧ v8_22.toInt ≤ 1 := (b0_10 hT :); have ob11 : (0 : Int) ≤ x40.toInt ∧ x40.toInt ≤ 9 := (b0_11 hT :); have ob12 : (0 : Int) ≤ x58.toInt ∧ x58.toInt ≤ 6 := (b0_12 hT :); have ob14 : (0 : Int) ≤ x80.toInt ∧ x80.toInt ≤ 511 := (b0_14 hT :); have ob15 : (0 : Int) ≤ (1 : Int) ∧ (1 : Int) ≤ 1 := (b0_15 hT :); have ob16 : (0 : Int) ≤ (0 : Int) ∧ (0 : Int) ≤ 20 := (b0_16 hT :); have ob17 : (0 : Int) ≤ (0 : Int) ∧ (0 : Int) ≤ 1 := (b0_17 hT :); have ob18 : (0 : Int) ≤ zz120 ∧ zz120 ≤ 18 := (b0_18 hT :); have ob38 : (0 : Int) ≤ (th 38) ∧ (th 38) ≤ 400 := (b0_38 hT :); have ob39 : (0 : Int) ≤ (th 39) ∧ (th 39) ≤ 200 := (b0_39 hT :); have ob44 : (0 : Int) ≤ (0 : Int) ∧ (0 : Int) ≤ 30 := (b0_44 hT :); have orn := rnd_b v8_22.toInt; obtain ⟨o0a, o0b⟩ := (hv14_123 : In _ _ _); obtain ⟨o1a, o1b⟩ := (hv15_123 : In _ _ _); obtain ⟨o2a, o2b⟩ := (hv17_123 : In _ _ _); obtain ⟨o3a, o3b⟩ := (hv20_123 : In _ _ _); obtain ⟨o4a, o4b⟩ := (hv23_123 : In _ _ _); obtain ⟨o5a, o5b⟩ := (hv25_123 : In _ _ _); obtain ⟨o6a, o6b⟩ := (hv36_123 : In _ _ _); obtain ⟨o7a, o7b⟩ := (hv47_123 : In _ _ _); obtain ⟨o8a, o8b⟩ := (hv48_123 : In _ _ _); obtain ⟨o9a, o9b⟩ := (hv53_123 : In _ _ _); obtain ⟨o10a, o10b⟩ := (hv55_123 : In _ _ _); omega)), (show zz122 = 2126 from (by have ob10 : (0 : Int) ≤ v8_22.toInt ∧ v8_22.toInt ≤ 1 := (b0_10 hT :); have ob11 : (0 : Int) ≤ x40.toInt ∧ x40.toInt ≤ 9 := (b0_11 hT :); have ob12 : (0 : Int) ≤ x58.toInt ∧ x58.toInt ≤ 6 := (b0_12 hT :); have ob14 : (0 : Int) ≤ x80.toInt ∧ x80.toInt ≤ 511 := (b0_14 hT :); have ob15 : (0 : Int) ≤ (1 : Int) ∧ (1 : Int) ≤ 1 := (b0_15 hT :); have ob16 : (0 : Int) ≤ (0 : Int) ∧ (0 : Int) ≤ 20 := (b0_16 hT :); have ob17 : (0 : Int) ≤ (0 : Int) ∧ (0 : Int) ≤ 1 := (b0_17 hT :); have ob18 : (0 : Int) ≤ zz120 ∧ zz120 ≤ 18 := (b0_18 hT :); have ob38 : (0 : Int) ≤ (th 38) ∧ (th 38) ≤ 400 := (b0_38 hT :); have ob39 : (0 : Int) ≤ (th 39) ∧ (th 39) ≤ 200 := (b0_39 hT :); have ob44 : (0 : Int) ≤ (0 : Int) ∧ (0 : Int) ≤ 30 := (b0_44 hT :); have orn := rnd_b v8_22.toInt; obtain ⟨o0a, o0b⟩ := (hv14_123 : In _ _ _); obtain ⟨o1a, o1b⟩ := (hv15_123 : In _ _ _); obtain ⟨o2a, o2b⟩ := (hv17_123 : In _ _ _); obtain ⟨o3a, o3b⟩ := (hv20_123 : In _ _ _); obtain ⟨o4a, o4b⟩ := (hv23_123 : In _ _ _); obtain ⟨o5a, o5b⟩ := (hv25_123 : In _ _ _); obtain ⟨o6a, o6b⟩ := (hv36_123 : In _ _ _); obtain ⟨o7a, o7b⟩ := (hv47_123 : In _ _ _); obtain ⟨o8a, o8b⟩ := (hv48_123 : In _ _ _); obtain ⟨o9a, o9b⟩ := (hv53_123 : In _ _ _); obtain ⟨o10a, o10b⟩ := (hv55_123 : In _ _ _); omega)), (show (0 : Int) = 0 ∨ (0 : Int) = 2126 from (by have ob10 : (0 : Int) ≤ v8_22.toInt ∧ v8_22.toInt ≤ 1 := (b0_10 hT :); have ob11 : (0 : Int) ≤ x40.toInt ∧ x40.toInt ≤ 9 := (b0_11 hT :); have ob12 : (0 : Int) ≤ x58.toInt ∧ x58.toInt ≤ 6 := (b0_12 hT :); have ob14 : (0 : Int) ≤ x80.toInt ∧ x80.toInt ≤ 511 := (b0_14 hT :); have ob15 : (0 : Int) ≤ (1 : Int) ∧ (1 : Int) ≤ 1 := (b0_15 hT :); have ob16 : (0 : Int) ≤ (0 : Int) ∧ (0 : Int) ≤ 20 := (b0_16 hT :); have ob17 : (0 : Int) ≤ (0 : Int) ∧ (0 : Int) ≤ 1 := (b0_17 hT :); have ob18 : (0 : Int) ≤ zz120 ∧ zz120 ≤ 18 := (b0_18 hT :); have ob38 : (0 : Int) ≤ (th 38) ∧ (th 38) ≤ 400 := (b0_38 hT :); have ob39 : (0 : Int) ≤ (th 39) ∧ (th 39) ≤ 200 := (b0_39 hT :); have ob44 : (0 : Int) ≤ (0 : Int) ∧ (0 : Int) ≤ 30 := (b0_44 hT :); have orn := rnd_b v8_22.toInt; obtain ⟨o0a, o0b⟩ := (hv14_123 : In _ _ _); obtain ⟨o1a, o1b⟩ := (hv15_123 : In _ _ _); obtain ⟨o2a, o2b⟩ := (hv17_123 : In _ _ _); obtain ⟨o3a, o3b⟩ := (hv20_123 : In _ _ _); obtain ⟨o4a, o4b⟩ := (hv23_123 : In _ _ _); obtain ⟨o5a, o5b⟩ := (hv25_123 : In _ _ _); obtain ⟨o6a, o6b⟩ := (hv36_123 : In _ _ _); obtain ⟨o7a, o7b⟩ := (hv47_123 : In _ _ _); obtain ⟨o8a, o8b⟩ := (hv48_123 : In _ _ _); obtain ⟨o9a, o9b⟩ := (hv53_123 : In _ _ _); obtain ⟨o10a, o10b⟩ := (hv55_123 : In _ _ _); omega)), (show (0 : Int) = 2126 * (0 : Int) from (by have ob10 : (0 : Int) ≤ v8_22.toInt ∧ v8_22.toInt ≤ 1 := (b0_10 hT :); have ob11 : (0 : Int) ≤ x40.toInt ∧ x40.toInt ≤ 9 := (b0_11 hT :); have ob12 : (0 : Int) ≤ x58.toInt ∧ x58.toInt ≤ 6 := (b0_12 hT :); have ob14 : (0 : Int) ≤ x80.toInt ∧ x80.toInt ≤ 511 := (b0_14 hT :); have ob15 : (0 : Int) ≤ (1 : Int) ∧ (1 : Int) ≤ 1 := (b0_15 hT :); have ob16 : (0 : Int) ≤ (0 : Int) ∧ (0 : Int) ≤ 20 := (b0_16 hT :); have ob17 : (0 : Int) ≤ (0 : Int) ∧ (0 : Int) ≤ 1 := (b0_17 hT :); have ob18 : (0 : Int) ≤ zz120 ∧ zz120 ≤ 18 := (b0_18 hT :); have ob38 : (0 : Int) ≤ (th 38) ∧ (th 38) ≤ 400 := (b0_38 hT :); have ob39 : (0 : Int) ≤ (th 39) ∧ (th 39) ≤ 200 := (b0_39 hT :); have ob44 : (0 : Int) ≤ (0 : Int) ∧ (0 : Int) ≤ 30 := (b0_44 hT :); have orn := rnd_b v8_22.toInt; obtain ⟨o0a, o0b⟩ := (hv14_123 : In _ _ _); obtain ⟨o1a, o1b⟩ := (hv15_123 : In _ _ _); obtain ⟨o2a, o2b⟩ := (hv17_123 : In _ _ _); obtain ⟨o3a, o3b⟩ := (hv20_123 : In _ _ _); obtain ⟨o4a, o4b⟩ := (hv23_123 : In _ _ _); obtain ⟨o5a, o5b⟩ := (hv25_123 : In _ _ _); obtain ⟨o6a, o6b⟩ := (hv36_123 : In _ _ _); obtain ⟨o7a, o7b⟩ := (hv47_123 : In _ _ _); obtain ⟨o8a, o8b⟩ := (hv48_123 : In _ _ _); obtain ⟨o9a, o9b⟩ := (hv53_123 : In _ _ _); obtain ⟨o10a, o10b⟩ := (hv55_123 : In _ _ _); omega)), (show 0 ≤ (0 : Int) ∧ (0 : Int) ≤ 20 from (by have ob10 : (0 : Int) ≤ v8_22.toInt ∧ v8_22.toInt ≤ 1 := (b0_10 hT :); have ob11 : (0 : Int) ≤ x40.toInt ∧ x40.toInt ≤ 9 := (b0_11 hT :); have ob12 : (0 : Int) ≤ x58.toInt ∧ x58.toInt ≤ 6 := (b0_12 hT :); have ob14 : (0 : Int) ≤ x80.toInt ∧ x80.toInt ≤ 511 := (b0_14 hT :); have ob15 : (0 : Int) ≤ (1 : Int) ∧ (1 : Int) ≤ 1 := (b0_15 hT :); have ob16 : (0 : Int) ≤ (0 : Int) ∧ (0 : Int) ≤ 20 := (b0_16 hT :); have ob17 : (0 : Int) ≤ (0 : Int) ∧ (0 : Int) ≤ 1 := (b0_17 hT :); have ob18 : (0 : Int) ≤ zz120 ∧ zz120 ≤ 18 := (b0_18 hT :); have ob38 : (0 : Int) ≤ (th 38) ∧ (th 38) ≤ 400 := (b0_38 hT :); have ob39 : (0 : Int) ≤ (th 39) ∧ (th 39) ≤ 200 := (b0_39 hT :); have ob44 : (0 : Int) ≤ (0 : Int) ∧ (0 : Int) ≤ 30 := (b0_44 hT :); have orn := rnd_b v8_22.toInt; obtain ⟨o0a, o0b⟩ := (hv14_123 : In _ _ _); obtain ⟨o1a, o1b⟩ := (hv15_123 : In _ _ _); obtain ⟨o2a, o2b⟩ := (hv17_123 : In _ _ _); obtain ⟨o3a, o3b⟩ := (hv20_123 : In _ _ _); obtain ⟨o4a, o4b⟩ := (hv23_123 : In _ _ _); obtain ⟨o5a, o5b⟩ := (hv25_123 : In _ _ _); obtain ⟨o6a, o6b⟩ := (hv36_123 : In _ _ _); obtain ⟨o7a, o7b⟩ := (hv47_123 : In _ _ _); obtain ⟨o8a, o8b⟩ := (hv48_123 : In _ _ _); obtain ⟨o9a, o9b⟩ := (hv53_123 : In _ _ _); obtain ⟨o10a, o10b⟩ := (hv55_123 : In _ _ _); omega)), (show 0 ≤ zz121 ∧ zz121 ≤ x58.toInt * rnd (v8_22.toInt) from (by have ob10 : (0 : Int) ≤ v8_22.toInt ∧ v8_22.toInt ≤ 1 := (b0_10 hT :); have ob11 : (0 : Int) ≤ x40.toInt ∧ x40.toInt ≤ 9 := (b0_11 hT :); have ob12 : (0 : Int) ≤ x58.toInt ∧ x58.toInt ≤ 6 := (b0_12 hT :); have ob14 : (0 : Int) ≤ x80.toInt ∧ x80.toInt ≤ 511 := (b0_14 hT :); have ob15 : (0 : Int) ≤ (1 : Int) ∧ (1 : Int) ≤ 1 := (b0_15 hT :); have ob16 : (0 : Int) ≤ (0 : Int) ∧ (0 : Int) ≤ 20 := (b0_16 hT :); have ob17 : (0 : Int) ≤ (0 : Int) ∧ (0 : Int) ≤ 1 := (b0_17 hT :); have ob18 : (0 : Int) ≤ zz120 ∧ zz120 ≤ 18 := (b0_18 hT :); have ob38 : (0 : Int) ≤ (th 38) ∧ (th 38) ≤ 400 := (b0_38 hT :); have ob39 : (0 : Int) ≤ (th 39) ∧ (th 39) ≤ 200 := (b0_39 hT :); have ob44 : (0 : Int) ≤ (0 : Int) ∧ (0 : Int) ≤ 30 := (b0_44 hT :); have orn := rnd_b v8_22.toInt; obtain ⟨o0a, o0b⟩ := (hv14_123 : In _ _ _); obtain ⟨o1a, o1b⟩ := (hv15_123 : In _ _ _); obtain ⟨o2a, o2b⟩ := (hv17_123 : In _ _ _); obtain ⟨o3a, o3b⟩ := (hv20_123 : In _ _ _); obtain ⟨o4a, o4b⟩ := (hv23_123 : In _ _ _); obtain ⟨o5a, o5b⟩ := (hv25_123 : In _ _ _); obtain ⟨o6a, o6b⟩ := (hv36_123 : In _ _ _); obtain ⟨o7a, o7b⟩ := (hv47_123 : In _ _ _); obtain ⟨o8a, o8b⟩ := (hv48_123 : In _ _ _); obtain ⟨o9a, o9b⟩ := (hv53_123 : In _ _ _); obtain ⟨o10a, o10b⟩ := (hv55_123 : In _ _ _); omega)), (show 0 ≤ x40.toInt ∧ x40.toInt ≤ 9 from (by have ob10 : (0 : Int) ≤ v8_22.toInt ∧ v8_22.toInt ≤ 1 := (b0_10 hT :); have ob11 : (0 : Int) ≤ x40.toInt ∧ x40.toInt ≤ 9 := (b0_11 hT :); have ob12 : (0 : Int) ≤ x58.toInt ∧ x58.toInt ≤ 6 := (b0_12 hT :); have ob14 : (0 : Int) ≤ x80.toInt ∧ x80.toInt ≤ 511 := (b0_14 hT :); have ob15 : (0 : Int) ≤ (1 : Int) ∧ (1 : Int) ≤ 1 := (b0_15 hT :); have ob16 : (0 : Int) ≤ (0 : Int) ∧ (0 : Int) ≤ 20 := (b0_16 hT :); have ob17 : (0 : Int) ≤ (0 : Int) ∧ (0 : Int) ≤ 1 := (b0_17 hT :); have ob18 : (0 : Int) ≤ zz120 ∧ zz120 ≤ 18 := (b0_18 hT :); have ob38 : (0 : Int) ≤ (th 38) ∧ (th 38) ≤ 400 := (b0_38 hT :); have ob39 : (0 : Int) ≤ (th 39) ∧ (th 39) ≤ 200 := (b0_39 hT :); have ob44 : (0 : Int) ≤ (0 : Int) ∧ (0 : Int) ≤ 30 := (b0_44 hT :); have orn := rnd_b v8_22.toInt; obtain ⟨o0a, o0b⟩ := (hv14_123 : In _ _ _); obtain ⟨o1a, o1b⟩ := (hv15_123 : In _ _ _); obtain ⟨o2a, o2b⟩ := (hv17_123 : In _ _ _); obtain ⟨o3a, o3b⟩ := (hv20_123 : In _ _ _); obtain ⟨o4a, o4b⟩ := (hv23_123 : In _ _ _); obtain ⟨o5a, o5b⟩ := (hv25_123 : In _ _ _); obtain ⟨o6a, o6b⟩ := (hv36_123 : In _ _ _); obtain ⟨o7a, o7b⟩ := (hv47_123 : In _ _ _); obtain ⟨o8a, o8b⟩ := (hv48_123 : In _ _ _); obtain ⟨o9a, o9b⟩ := (hv53_123 : In _ _ _); obtain ⟨o10a, o10b⟩ := (hv55_123 : In _ _ _); omega))⟩), (SBM.set (k := 22) (SBM.set (k := 19) (SBM.set (k := 18) (SBM.set (k := 21) (SBM.set (k := 20) (SBM.set (k := 24) (SBM.set (k := 23) (SBM.set (k := 17) (SBM.set (k := 16) (SBM.set (k := 44) (SBM.set (k := 15) (SBM.set (k := 14) (SBM.set (k := 12) (SBM.set (k := 11) (SBM.set (k := 10) (SBM.set (k := 13) (SBM.set (k := 43) (SBM.set (k := 34) (SBM.set (k := 30) (SBM.set (k := 35) (SBM.set (k := 42) (SBM.set (k := 41) (SBM.set (k := 40) (SBM.set (k := 37) (SBM.rf th) (by decide)) (by decide)) (by decide)) (by decide)) (by decide)) (by decide)) (by decide)) (by decide)) (by decide)) (by decide)) (by decide)) (by decide)) (by decide)) (by decide)) (by decide)) (by decide)) (by decide)) (by decide)) (by decide)) (by decide)) (by decide)) (by decide)) (by decide)) (by decide))⟩, hT⟩, hfr⟩) dX11_council_121
  ·
    have ocm1 : ((-1) : Int32).toInt = (-1) := by decide
    have cc125 : r6.toInt ≠ ((-1) : Int32).toInt := i32_ne c19
    have hb126 : In r6 0 500 := In.ne1 eL10R (⟨by decide, by decide⟩ : In (-1) (-1) (-1)) cc125 (by decide) (by decide)
    refine lv_iconst (v := (-1)) hx hb dX11_council_13 (by decide) ?_
    exact ret_i (ty := .int) hx hb hr hlocks (rfl) hP hD hS (Nat.le_of_ble_eq_true rfl) (Nat.le_of_ble_eq_true rfl) (⟨rfl, ⟨(gset (gset (gset (gset (gset (gset (gset (gset th 37 zz11) 40 zz12) 41 zz13) 42 zz14) 35 zz15) 30 zz16) 34 zz17) 43 zz18), ⟨(show MI (gset (gset (gset (gset (gset (gset (gset (gset th 37 zz11) 40 zz12) 41 zz13) 42 zz14) 35 zz15) 30 zz16) 34 zz17) 43 zz18) from ⟨m1, m2, (show th 20 = (th 12) * rnd (th 10) from m3), m4, m5, m6, m7, m8, m9, m10⟩), (SBM.set (k := 43) (SBM.set (k := 34) (SBM.set (k := 30) (SBM.set (k := 35) (SBM.set (k := 42) (SBM.set (k := 41) (SBM.set (k := 40) (SBM.set (k := 37) (SBM.rf th) (by decide)) (by decide)) (by decide)) (by decide)) (by decide)) (by decide)) (by decide)) (by decide))⟩, hT⟩, hfr⟩) dX11_council_14
