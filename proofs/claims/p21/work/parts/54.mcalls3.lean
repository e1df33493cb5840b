abbrev rm_X11_shows : Room := { frames := 0, cells := 0, slots := 0, locals := 0 }
abbrev po_X11_shows (g : GG) (ad : Nat → Nat) (th : Nat → Int) (L : List Nat) (f : HP) (z1 : Int32) : (List Nat × HP) → Prop := fun u => u.1 = L ∧ (∃ zs : Int, (zs = th 39 + 1) ∧ TI g ad (gset th 39 zs) u.2) ∧ (∀ b, b ≠ (ad 255) → b ≠ (ad 277) → u.2 b = f b)
set_option maxHeartbeats 4000000 in
set_option maxRecDepth 100000 in
theorem s_X11_shows (l : Launch) (g : GG) (ad : Nat → Nat) (th : Nat → Int) (L : List Nat) (f : HP) (sz : Nat) (z1 : Int32) (hst : ST ad L) (hT : TI g ad th f) (hlen : th 39 < 200) : MtV l g yX11_shows cX11_shows 2 rm_X11_shows [.ref (ad 255), .int z1] L f sz (po_X11_shows g ad th L f z1) := by
  refine MtV.of (by decide +kernel) (Nat.le_of_ble_eq_true rfl) ?_
  intro p e s m below meth c A hEn hP hD hS ls hl
  obtain ⟨hx, hb, hr, hml, hown, hlocks, hts, hG, hA, hE, hnm⟩ := hEn
  have hown : s.vm.findClass "RulerWordModel" = some m.cls := hown
  have hl : lv_has ls 2 [(0, .ref (ad 255)), (1, .int z1)] := hl
  have hfr : (∀ b, b ≠ (ad 255) → b ≠ (ad 277) → f b = f b) := fun b z0_ z1_ => rfl
  refine lv_aload_n hx hb dX11_shows_0 rfl (lv_at hl 0 rfl) ?_
  refine M0e hT (fun v0_1 v2_1 v3_1 v4_1 v5_1 v6_1 v8_1 v9_1 v12_1 v13_1 v14_1 v15_1 v16_1 v17_1 v18_1 v19_1 v20_1 v21_1 v22_1 v23_1 v25_1 v36_1 v37_1 v38_1 v39_1 v40_1 v45_1 v46_1 v47_1 v48_1 v50_1 v51_1 v53_1 v55_1 hf2 hv0_1 hv2_1 hg2_1 hv3_1 hg3_1 hv4_1 hg4_1 hv5_1 hg5_1 hv6_1 hg6_1 hv8_1 hg8_1 hv9_1 hg9_1 hv12_1 hv13_1 hg13_1 hv14_1 hg14_1 hv15_1 hg15_1 hv17_1 hg17_1 hv20_1 hg20_1 hv23_1 hg23_1 hv25_1 hg25_1 hv36_1 hg36_1 hv47_1 hg47_1 hv48_1 hg48_1 hv53_1 hg53_1 hv55_1 hg55_1 hrel0_1 => ?_)
  have hg15_1 : v15_1.toInt = th 11 := hg15_1
  have hg20_1 : v20_1.toInt = th 14 := hg20_1
  refine pl_get (v := .ref (ad 277)) hx hb hts (fun w h => mT (inX11 w h)) hown hG.1 hP (hst.1 255 (by decide)) hf2 rfl 54 (by decide) (hts _ (mT wg_1390)) (fun _ h => h) rfl dX11_shows_1 ?_
  refine lv_aload_n hx hb dX11_shows_4 rfl (lv_at hl 0 rfl) ?_
  refine pl_get (v := .int v55_1) hx hb hts (fun w h => mT (inX11 w h)) hown hG.1 hP (hst.1 255 (by decide)) hf2 rfl 55 (by decide) (hts _ (mT wg_1391)) (fun _ h => h) rfl dX11_shows_5 ?_
  have hg55_1 : v55_1.toInt = th 39 := hg55_1
  refine lv_iload_n hx hb dX11_shows_8 rfl (lv_at hl 1 rfl) ?_
  obtain ⟨rw3, hf4⟩ := hT.2.2 22 (by decide)
  refine pl_iastE hx hb hG.1 hP hD hS (hst.1 277 (by decide)) 0 hf4 rfl (vp_of (by have ob10 : (0 : Int) ≤ (th 10) ∧ (th 10) ≤ 1 := (b0_10 hT :); have ob11 : (0 : Int) ≤ (th 11) ∧ (th 11) ≤ 9 := (b0_11 hT :); have ob12 : (0 : Int) ≤ (th 12) ∧ (th 12) ≤ 6 := (b0_12 hT :); have ob14 : (0 : Int) ≤ (th 14) ∧ (th 14) ≤ 511 := (b0_14 hT :); have ob15 : (0 : Int) ≤ (th 15) ∧ (th 15) ≤ 1 := (b0_15 hT :); have ob16 : (0 : Int) ≤ (th 16) ∧ (th 16) ≤ 20 := (b0_16 hT :); have ob17 : (0 : Int) ≤ (th 17) ∧ (th 17) ≤ 1 := (b0_17 hT :); have ob18 : (0 : Int) ≤ (th 18) ∧ (th 18) ≤ 18 := (b0_18 hT :); have ob38 : (0 : Int) ≤ (th 38) ∧ (th 38) ≤ 400 := (b0_38 hT :); have ob39 : (0 : Int) ≤ (th 39) ∧ (th 39) ≤ 200 := (b0_39 hT :); have ob44 : (0 : Int) ≤ (th 44) ∧ (th 44) ≤ 30 := (b0_44 hT :); have orn := rnd_b (th 10); obtain ⟨o0a, o0b⟩ := (hv55_1 : In _ _ _); obtain ⟨o1a, o1b⟩ := (hv14_1 : In _ _ _); obtain ⟨o2a, o2b⟩ := (hv15_1 : In _ _ _); obtain ⟨o3a, o3b⟩ := (hv17_1 : In _ _ _); obtain ⟨o4a, o4b⟩ := (hv20_1 : In _ _ _); obtain ⟨o5a, o5b⟩ := (hv23_1 : In _ _ _); obtain ⟨o6a, o6b⟩ := (hv25_1 : In _ _ _); obtain ⟨o7a, o7b⟩ := (hv36_1 : In _ _ _); obtain ⟨o8a, o8b⟩ := (hv47_1 : In _ _ _); obtain ⟨o9a, o9b⟩ := (hv48_1 : In _ _ _); obtain ⟨o10a, o10b⟩ := (hv53_1 : In _ _ _); omega) (by have ob10 : (0 : Int) ≤ (th 10) ∧ (th 10) ≤ 1 := (b0_10 hT :); have ob11 : (0 : Int) ≤ (th 11) ∧ (th 11) ≤ 9 := (b0_11 hT :); have ob12 : (0 : Int) ≤ (th 12) ∧ (th 12) ≤ 6 := (b0_12 hT :); have ob14 : (0 : Int) ≤ (th 14) ∧ (th 14) ≤ 511 := (b0_14 hT :); have ob15 : (0 : Int) ≤ (th 15) ∧ (th 15) ≤ 1 := (b0_15 hT :); have ob16 : (0 : Int) ≤ (th 16) ∧ (th 16) ≤ 20 := (b0_16 hT :); have ob17 : (0 : Int) ≤ (th 17) ∧ (th 17) ≤ 1 := (b0_17 hT :); have ob18 : (0 : Int) ≤ (th 18) ∧ (th 18) ≤ 18 := (b0_18 hT :); have ob38 : (0 : Int) ≤ (th 38) ∧ (th 38) ≤ 400 := (b0_38 hT :); have ob39 : (0 : Int) ≤ (th 39) ∧ (th 39) ≤ 200 := (b0_39 hT :); have ob44 : (0 : Int) ≤ (th 44) ∧ (th 44) ≤ 30 := (b0_44 hT :); have orn := rnd_b (th 10); obtain ⟨o0a, o0b⟩ := (hv55_1 : In _ _ _); obtain ⟨o1a, o1b⟩ := (hv14_1 : In _ _ _); obtain ⟨o2a, o2b⟩ := (hv15_1 : In _ _ _); obtain ⟨o3a, o3b⟩ := (hv17_1 : In _ _ _); obtain ⟨o4a, o4b⟩ := (hv20_1 : In _ _ _); obtain ⟨o5a, o5b⟩ := (hv23_1 : In _ _ _); obtain ⟨o6a, o6b⟩ := (hv25_1 : In _ _ _); obtain ⟨o7a, o7b⟩ := (hv36_1 : In _ _ _); obtain ⟨o8a, o8b⟩ := (hv47_1 : In _ _ _); obtain ⟨o9a, o9b⟩ := (hv48_1 : In _ _ _); obtain ⟨o10a, o10b⟩ := (hv53_1 : In _ _ _); omega)) dX11_shows_9 (fun H locs f5 r8 er8 hf6 ho7 hP hD hS => ?_)
  have hf9 := (ho7 (ad 255) (hst.ne (by decide) (by decide) (by decide))).trans hf2
  have hfr : (∀ b, b ≠ (ad 255) → b ≠ (ad 277) → f5 b = f b) := fun b z0_ z1_ => (ho7 b z1_).trans (hfr b z0_ z1_)
  refine lv_aload_n hx hb dX11_shows_10 rfl (lv_at hl 0 rfl) ?_
  refine lv_dup hx hb dX11_shows_11 rfl ?_
  refine pl_get (v := .int v55_1) hx hb hts (fun w h => mT (inX11 w h)) hown hG.1 hP (hst.1 255 (by decide)) hf9 rfl 55 (by decide) (hts _ (mT wg_1391)) (fun _ h => h) rfl dX11_shows_12 ?_
  refine lv_iconst (v := 1) hx hb dX11_shows_15 (by decide) ?_
  refine lv_iadd hx hb dX11_shows_16 ?_
  refine lv_topi (fun x10 ex10 => ?_)
  have hb11 : In x10 1 201 := ex10 ▸ In.add hv55_1 (⟨by decide, by decide⟩ : In 1 1 1) (by decide) (by decide) (by decide) (by decide)
  have et12 : x10.toInt = v55_1.toInt + 1 := In.adde ex10 hv55_1 (k := 1) (by decide) (by decide) (by decide)
  have hT := TI.updM hT hst (k := 22) (by decide) hf6 ho7 ⟨r8, rfl⟩
  refine pl_put (ty := .int) (v := .int x10) (fs' := [.int v0_1, .ref (ad 256), .int v2_1, .int v3_1, .int v4_1, .int v5_1, .int v6_1, .ref (ad 257), .int v8_1, .int v9_1, .ref (ad 258), .ref (ad 259), .int v12_1, .int v13_1, .int v14_1, .int v15_1, .int v16_1, .int v17_1, .int v18_1, .int v19_1, .int v20_1, .long v21_1, .long v22_1, .int v23_1, .ref (ad 260), .int v25_1, .ref (ad 261), .ref (ad 262), .ref (ad 263), .ref (ad 264), .ref (ad 265), .ref (ad 266), .ref (ad 267), .ref (ad 268), .ref (ad 269), .ref (ad 270), .int v36_1, .int v37_1, .int v38_1, .int v39_1, .int v40_1, .ref (ad 271), .ref (ad 272), .ref (ad 273), .ref (ad 274), .long v45_1, .long v46_1, .int v47_1, .int v48_1, .ref (ad 275), .int v50_1, .int v51_1, .ref (ad 276), .int v53_1, .ref (ad 277), .int x10]) hx hb hts (fun w h => mT (inX11 w h)) tyX11 tyX11_ok nmX11 hown hG.1 hP hD hS (hst.1 255 (by decide)) hf9 rfl 55 (by decide) (hts _ (mT wg_1391)) (fun _ h => h) rfl (by decide +kernel) (rfl) (rfl) (Nat.le_of_ble_eq_true rfl) rfl dX11_shows_17 (fun H locs f13 hf14 ho15 hP hD hS => ?_)
  have hf16 := (ho15 (ad 277) (hst.ne (by decide) (by decide) (by decide))).trans hf6
  have hfr : (∀ b, b ≠ (ad 255) → b ≠ (ad 277) → f13 b = f b) := fun b z0_ z1_ => (ho15 b z0_).trans (hfr b z0_ z1_)
  have hT := TI.updMG (th' := (gset th 39 (x10.toInt))) hT hst (k := 0) (by decide) hf14 ho15 ⟨v0_1, v2_1, v3_1, v4_1, v5_1, v6_1, v8_1, v9_1, v12_1, v13_1, v14_1, v15_1, v16_1, v17_1, v18_1, v19_1, v20_1, v21_1, v22_1, v23_1, v25_1, v36_1, v37_1, v38_1, v39_1, v40_1, v45_1, v46_1, v47_1, v48_1, v50_1, v51_1, v53_1, x10, rfl, hv0_1, hv2_1, hg2_1, hv3_1, hg3_1, hv4_1, hg4_1, hv5_1, hg5_1, hv6_1, hg6_1, hv8_1, hg8_1, hv9_1, hg9_1, hv12_1, hv13_1, hg13_1, hv14_1, hg14_1, hv15_1, hg15_1, hv17_1, hg17_1, hv20_1, hg20_1, hv23_1, hg23_1, hv25_1, hg25_1, hv36_1, hg36_1, hv47_1, hg47_1, hv48_1, hg48_1, hv53_1, hg53_1, (In.mk (by have ob10 : (0 : Int) ≤ (th 10) ∧ (th 10) ≤ 1 := (b0_10 hT :); have ob11 : (0 : Int) ≤ (th 11) ∧ (th 11) ≤ 9 := (b0_11 hT :); have ob12 : (0 : Int) ≤ (th 12) ∧ (th 12) ≤ 6 := (b0_12 hT :); have ob14 : (0 : Int) ≤ (th 14) ∧ (th 14) ≤ 511 := (b0_14 hT :); have ob15 : (0 : Int) ≤ (th 15) ∧ (th 15) ≤ 1 := (b0_15 hT :); have ob16 : (0 : Int) ≤ (th 16) ∧ (th 16) ≤ 20 := (b0_16 hT :); have ob17 : (0 : Int) ≤ (th 17) ∧ (th 17) ≤ 1 := (b0_17 hT :); have ob18 : (0 : Int) ≤ (th 18) ∧ (th 18) ≤ 18 := (b0_18 hT :); have ob38 : (0 : Int) ≤ (th 38) ∧ (th 38) ≤ 400 := (b0_38 hT :); have ob39 : (0 : Int) ≤ (th 39) ∧ (th 39) ≤ 200 := (b0_39 hT :); have ob44 : (0 : Int) ≤ (th 44) ∧ (th 44) ≤ 30 := (b0_44 hT :); have orn := rnd_b (th 10); obtain ⟨o0a, o0b⟩ := (hb11 : In _ _ _); obtain ⟨o1a, o1b⟩ := (hv14_1 : In _ _ _); obtain ⟨o2a, o2b⟩ := (hv15_1 : In _ _ _); obtain ⟨o3a, o3b⟩ := (hv17_1 : In _ _ _); obtain ⟨o4a, o4b⟩ := (hv20_1 : In _ _ _); obtain ⟨o5a, o5b⟩ := (hv23_1 : In _ _ _); obtain ⟨o6a, o6b⟩ := (hv25_1 : In _ _ _); obtain ⟨o7a, o7b⟩ := (hv36_1 : In _ _ _); obtain ⟨o8a, o8b⟩ := (hv47_1 : In _ _ _); obtain ⟨o9a, o9b⟩ := (hv48_1 : In _ _ _); obtain ⟨o10a, o10b⟩ := (hv53_1 : In _ _ _); obtain ⟨o11a, o11b⟩ := (hv55_1 : In _ _ _); omega) (by have ob10 : (0 : Int) ≤ (th 10) ∧ (th 10) ≤ 1 := (b0_10 hT :); have ob11 : (0 : Int) ≤ (th 11) ∧ (th 11) ≤ 9 := (b0_11 hT :); have ob12 : (0 : Int) ≤ (th 12) ∧ (th 12) ≤ 6 := (b0_12 hT :); have ob14 : (0 : Int) ≤ (th 14) ∧ (th 14) ≤ 511 := (b0_14 hT :); have ob15 : (0 : Int) ≤ (th 15) ∧ (th 15) ≤ 1 := (b0_15 hT :); have ob16 : (0 : Int) ≤ (th 16) ∧ (th 16) ≤ 20 := (b0_16 hT :); have ob17 : (0 : Int) ≤ (th 17) ∧ (th 17) ≤ 1 := (b0_17 hT :); have ob18 : (0 : Int) ≤ (th 18) ∧ (th 18) ≤ 18 := (b0_18 hT :); have ob38 : (0 : Int) ≤ (th 38) ∧ (th 38) ≤ 400 := (b0_38 hT :); have ob39 : (0 : Int) ≤ (th 39) ∧ (th 39) ≤ 200 := (b0_39 hT :); have ob44 : (0 : Int) ≤ (th 44) ∧ (th 44) ≤ 30 := (b0_44 hT :); have orn := rnd_b (th 10); obtain ⟨o0a, o0b⟩ := (hb11 : In _ _ _); obtain ⟨o1a, o1b⟩ := (hv14_1 : In _ _ _); obtain ⟨o2a, o2b⟩ := (hv15_1 : In _ _ _); obtain ⟨o3a, o3b⟩ := (hv17_1 : In _ _ _); obtain ⟨o4a, o4b⟩ := (hv20_1 : In _ _ _); obtain ⟨o5a, o5b⟩ := (hv23_1 : In _ _ _); obtain ⟨o6a, o6b⟩ := (hv25_1 : In _ _ _); obtain ⟨o7a, o7b⟩ := (hv36_1 : In _ _ _); obtain ⟨o8a, o8b⟩ := (hv47_1 : In _ _ _); obtain ⟨o9a, o9b⟩ := (hv48_1 : In _ _ _); obtain ⟨o10a, o10b⟩ := (hv53_1 : In _ _ _); obtain ⟨o11a, o11b⟩ := (hv55_1 : In _ _ _); omega)), rfl, hrel0_1⟩ (fun q hq => ((gset_ne (fun e => hq (by subst e; decide))).trans rfl))
  have hT : TI g ad (gset th 39 x10.toInt) f13 := TI.cast hT (by funext q; by_cases hq0 : q = 39; (subst hq0; rfl); simp only [gset, if_neg hq0])
  exact ret_v hx hb hr hlocks hP hD hS (Nat.le_of_ble_eq_true rfl) (Nat.le_of_ble_eq_true rfl) (⟨rfl, ⟨x10.toInt, (show x10.toInt = th 39 + 1 from (by have ob10 : (0 : Int) ≤ (th 10) ∧ (th 10) ≤ 1 := (b0_10 hT :); have ob11 : (0 : Int) ≤ (th 11) ∧ (th 11) ≤ 9 := (b0_11 hT :); have ob12 : (0 : Int) ≤ (th 12) ∧ (th 12) ≤ 6 := (b0_12 hT :); have ob14 : (0 : Int) ≤ (th 14) ∧ (th 14) ≤ 511 := (b0_14 hT :); have ob15 : (0 : Int) ≤ (th 15) ∧ (th 15) ≤ 1 := (b0_15 hT :); have ob16 : (0 : Int) ≤ (th 16) ∧ (th 16) ≤ 20 := (b0_16 hT :); have ob17 : (0 : Int) ≤ (th 17) ∧ (th 17) ≤ 1 := (b0_17 hT :); have ob18 : (0 : Int) ≤ (th 18) ∧ (th 18) ≤ 18 := (b0_18 hT :); have ob38 : (0 : Int) ≤ (th 38) ∧ (th 38) ≤ 400 := (b0_38 hT :); have ob39 : (0 : Int) ≤ x10.toInt ∧ x10.toInt ≤ 200 := (b0_39 hT :); have ob44 : (0 : Int) ≤ (th 44) ∧ (th 44) ≤ 30 := (b0_44 hT :); have orn := rnd_b (th 10); omega)), TI.cast hT (by funext q; by_cases hq0 : q = 39; (subst hq0; rfl); simp only [gset, if_neg hq0])⟩, hfr⟩) dX11_shows_20

abbrev rm_X11_writesDigit : Room := { frames := 0, cells := 0, slots := 0, locals := 0 }
abbrev po_X11_writesDigit (g : GG) (ad : Nat → Nat) (th : Nat → Int) (L : List Nat) (f : HP) (z1 : Int32) : (List Nat × HP) → Prop := fun u => u.1 = L ∧ (∃ zs : Int, (zs = th 38 + 1) ∧ TI g ad (gset th 38 zs) u.2) ∧ (∀ b, b ≠ (ad 255) → b ≠ (ad 276) → u.2 b = f b)
set_option maxHeartbeats 4000000 in
set_option maxRecDepth 100000 in
theorem s_X11_writesDigit (l : Launch) (g : GG) (ad : Nat → Nat) (th : Nat → Int) (L : List Nat) (f : HP) (sz : Nat) (z1 : Int32) (hst : ST ad L) (hT : TI g ad th f) (hlen : th 38 < 400) : MtV l g yX11_writesDigit cX11_writesDigit 2 rm_X11_writesDigit [.ref (ad 255), .int z1] L f sz (po_X11_writesDigit g ad th L f z1) := by
  refine MtV.of (by decide +kernel) (Nat.le_of_ble_eq_true rfl) ?_
  intro p e s m below meth c A hEn hP hD hS ls hl
  obtain ⟨hx, hb, hr, hml, hown, hlocks, hts, hG, hA, hE, hnm⟩ := hEn
  have hown : s.vm.findClass "RulerWordModel" = some m.cls := hown
  have hl : lv_has ls 2 [(0, .ref (ad 255)), (1, .int z1)] := hl
  have hfr : (∀ b, b ≠ (ad 255) → b ≠ (ad 276) → f b = f b) := fun b z0_ z1_ => rfl
  refine lv_aload_n hx hb dX11_writesDigit_0 rfl (lv_at hl 0 rfl) ?_
  refine M0e hT (fun v0_1 v2_1 v3_1 v4_1 v5_1 v6_1 v8_1 v9_1 v12_1 v13_1 v14_1 v15_1 v16_1 v17_1 v18_1 v19_1 v20_1 v21_1 v22_1 v23_1 v25_1 v36_1 v37_1 v38_1 v39_1 v40_1 v45_1 v46_1 v47_1 v48_1 v50_1 v51_1 v53_1 v55_1 hf2 hv0_1 hv2_1 hg2_1 hv3_1 hg3_1 hv4_1 hg4_1 hv5_1 hg5_1 hv6_1 hg6_1 hv8_1 hg8_1 hv9_1 hg9_1 hv12_1 hv13_1 hg13_1 hv14_1 hg14_1 hv15_1 hg15_1 hv17_1 hg17_1 hv20_1 hg20_1 hv23_1 hg23_1 hv25_1 hg25_1 hv36_1 hg36_1 hv47_1 hg47_1 hv48_1 hg48_1 hv53_1 hg53_1 hv55_1 hg55_1 hrel0_1 => ?_)
  have hg15_1 : v15_1.toInt = th 11 := hg15_1
  have hg20_1 : v20_1.toInt = th 14 := hg20_1
  refine pl_get (v := .ref (ad 276)) hx hb hts (fun w h => mT (inX11 w h)) hown hG.1 hP (hst.1 255 (by decide)) hf2 rfl 52 (by decide) (hts _ (mT wg_1388)) (fun _ h => h) rfl dX11_writesDigit_1 ?_
  refine lv_aload_n hx hb dX11_writesDigit_4 rfl (lv_at hl 0 rfl) ?_
  refine pl_get (v := .int v53_1) hx hb hts (fun w h => mT (inX11 w h)) hown hG.1 hP (hst.1 255 (by decide)) hf2 rfl 53 (by decide) (hts _ (mT wg_1389)) (fun _ h => h) rfl dX11_writesDigit_5 ?_
  have hg53_1 : v53_1.toInt = th 38 := hg53_1
  refine lv_bipush (v := 48) hx hb dX11_writesDigit_8 (by decide) ?_
  refine lv_iload_n hx hb dX11_writesDigit_10 rfl (lv_at hl 1 rfl) ?_
  refine lv_iadd hx hb dX11_writesDigit_11 ?_
  refine lv_topi (fun x3 ex3 => ?_)
  obtain ⟨rw4, hf5⟩ := hT.2.2 21 (by decide)
  refine pl_iastE hx hb hG.1 hP hD hS (hst.1 276 (by decide)) 0 hf5 rfl (vp_of (by have ob10 : (0 : Int) ≤ (th 10) ∧ (th 10) ≤ 1 := (b0_10 hT :); have ob11 : (0 : Int) ≤ (th 11) ∧ (th 11) ≤ 9 := (b0_11 hT :); have ob12 : (0 : Int) ≤ (th 12) ∧ (th 12) ≤ 6 := (b0_12 hT :); have ob14 : (0 : Int) ≤ (th 14) ∧ (th 14) ≤ 511 := (b0_14 hT :); have ob15 : (0 : Int) ≤ (th 15) ∧ (th 15) ≤ 1 := (b0_15 hT :); have ob16 : (0 : Int) ≤ (th 16) ∧ (th 16) ≤ 20 := (b0_16 hT :); have ob17 : (0 : Int) ≤ (th 17) ∧ (th 17) ≤ 1 := (b0_17 hT :); have ob18 : (0 : Int) ≤ (th 18) ∧ (th 18) ≤ 18 := (b0_18 hT :); have ob38 : (0 : Int) ≤ (th 38) ∧ (th 38) ≤ 400 := (b0_38 hT :); have ob39 : (0 : Int) ≤ (th 39) ∧ (th 39) ≤ 200 := (b0_39 hT :); have ob44 : (0 : Int) ≤ (th 44) ∧ (th 44) ≤ 30 := (b0_44 hT :); have orn := rnd_b (th 10); obtain ⟨o0a, o0b⟩ := (hv53_1 : In _ _ _); obtain ⟨o1a, o1b⟩ := (hv14_1 : In _ _ _); obtain ⟨o2a, o2b⟩ := (hv15_1 : In _ _ _); obtain ⟨o3a, o3b⟩ := (hv17_1 : In _ _ _); obtain ⟨o4a, o4b⟩ := (hv20_1 : In _ _ _); obtain ⟨o5a, o5b⟩ := (hv23_1 : In _ _ _); obtain ⟨o6a, o6b⟩ := (hv25_1 : In _ _ _); obtain ⟨o7a, o7b⟩ := (hv36_1 : In _ _ _); obtain ⟨o8a, o8b⟩ := (hv47_1 : In _ _ _); obtain ⟨o9a, o9b⟩ := (hv48_1 : In _ _ _); obtain ⟨o10a, o10b⟩ := (hv55_1 : In _ _ _); omega) (by have ob10 : (0 : Int) ≤ (th 10) ∧ (th 10) ≤ 1 := (b0_10 hT :); have ob11 : (0 : Int) ≤ (th 11) ∧ (th 11) ≤ 9 := (b0_11 hT :); have ob12 : (0 : Int) ≤ (th 12) ∧ (th 12) ≤ 6 := (b0_12 hT :); have ob14 : (0 : Int) ≤ (th 14) ∧ (th 14) ≤ 511 := (b0_14 hT :); have ob15 : (0 : Int) ≤ (th 15) ∧ (th 15) ≤ 1 := (b0_15 hT :); have ob16 : (0 : Int) ≤ (th 16) ∧ (th 16) ≤ 20 := (b0_16 hT :); have ob17 : (0 : Int) ≤ (th 17) ∧ (th 17) ≤ 1 := (b0_17 hT :); have ob18 : (0 : Int) ≤ (th 18) ∧ (th 18) ≤ 18 := (b0_18 hT :); have ob38 : (0 : Int) ≤ (th 38) ∧ (th 38) ≤ 400 := (b0_38 hT :); have ob39 : (0 : Int) ≤ (th 39) ∧ (th 39) ≤ 200 := (b0_39 hT :); have ob44 : (0 : Int) ≤ (th 44) ∧ (th 44) ≤ 30 := (b0_44 hT :); have orn := rnd_b (th 10); obtain ⟨o0a, o0b⟩ := (hv53_1 : In _ _ _); obtain ⟨o1a, o1b⟩ := (hv14_1 : In _ _ _); obtain ⟨o2a, o2b⟩ := (hv15_1 : In _ _ _); obtain ⟨o3a, o3b⟩ := (hv17_1 : In _ _ _); obtain ⟨o4a, o4b⟩ := (hv20_1 : In _ _ _); obtain ⟨o5a, o5b⟩ := (hv23_1 : In _ _ _); obtain ⟨o6a, o6b⟩ := (hv25_1 : In _ _ _); obtain ⟨o7a, o7b⟩ := (hv36_1 : In _ _ _); obtain ⟨o8a, o8b⟩ := (hv47_1 : In _ _ _); obtain ⟨o9a, o9b⟩ := (hv48_1 : In _ _ _); obtain ⟨o10a, o10b⟩ := (hv55_1 : In _ _ _); omega)) dX11_writesDigit_12 (fun H locs f6 r9 er9 hf7 ho8 hP hD hS => ?_)
  have hf10 := (ho8 (ad 255) (hst.ne (by decide) (by decide) (by decide))).trans hf2
  have hfr : (∀ b, b ≠ (ad 255) → b ≠ (ad 276) → f6 b = f b) := fun b z0_ z1_ => (ho8 b z1_).trans (hfr b z0_ z1_)
  refine lv_aload_n hx hb dX11_writesDigit_13 rfl (lv_at hl 0 rfl) ?_
  refine lv_dup hx hb dX11_writesDigit_14 rfl ?_
  refine pl_get (v := .int v53_1) hx hb hts (fun w h => mT (inX11 w h)) hown hG.1 hP (hst.1 255 (by decide)) hf10 rfl 53 (by decide) (hts _ (mT wg_1389)) (fun _ h => h) rfl dX11_writesDigit_15 ?_
  refine lv_iconst (v := 1) hx hb dX11_writesDigit_18 (by decide) ?_
  refine lv_iadd hx hb dX11_writesDigit_19 ?_
  refine lv_topi (fun x11 ex11 => ?_)
  have hb12 : In x11 1 401 := ex11 ▸ In.add hv53_1 (⟨by decide, by decide⟩ : In 1 1 1) (by decide) (by decide) (by decide) (by decide)
  have et13 : x11.toInt = v53_1.toInt + 1 := In.adde ex11 hv53_1 (k := 1) (by decide) (by decide) (by decide)
  have hT := TI.updM hT hst (k := 21) (by decide) hf7 ho8 ⟨r9, rfl⟩
  refine pl_put (ty := .int) (v := .int x11) (fs' := [.int v0_1, .ref (ad 256), .int v2_1, .int v3_1, .int v4_1, .int v5_1, .int v6_1, .ref (ad 257), .int v8_1, .int v9_1, .ref (ad 258), .ref (ad 259), .int v12_1, .int v13_1, .int v14_1, .int v15_1, .int v16_1, .int v17_1, .int v18_1, .int v19_1, .int v20_1, .long v21_1, .long v22_1, .int v23_1, .ref (ad 260), .int v25_1, .ref (ad 261), .ref (ad 262), .ref (ad 263), .ref (ad 264), .ref (ad 265), .ref (ad 266), .ref (ad 267), .ref (ad 268), .ref (ad 269), .ref (ad 270), .int v36_1, .int v37_1, .int v38_1, .int v39_1, .int v40_1, .ref (ad 271), .ref (ad 272), .ref (ad 273), .ref (ad 274), .long v45_1, .long v46_1, .int v47_1, .int v48_1, .ref (ad 275), .int v50_1, .int v51_1, .ref (ad 276), .int x11, .ref (ad 277), .int v55_1]) hx hb hts (fun w h => mT (inX11 w h)) tyX11 tyX11_ok nmX11 hown hG.1 hP hD hS (hst.1 255 (by decide)) hf10 rfl 53 (by decide) (hts _ (mT wg_1389)) (fun _ h => h) rfl (by decide +kernel) (rfl) (rfl) (Nat.le_of_ble_eq_true rfl) rfl dX11_writesDigit_20 (fun H locs f14 hf15 ho16 hP hD hS => ?_)
  have hf17 := (ho16 (ad 276) (hst.ne (by decide) (by decide) (by decide))).trans hf7
  have hfr : (∀ b, b ≠ (ad 255) → b ≠ (ad 276) → f14 b = f b) := fun b z0_ z1_ => (ho16 b z0_).trans (hfr b z0_ z1_)
  have hT := TI.updMG (th' := (gset th 38 (x11.toInt))) hT hst (k := 0) (by decide) hf15 ho16 ⟨v0_1, v2_1, v3_1, v4_1, v5_1, v6_1, v8_1, v9_1, v12_1, v13_1, v14_1, v15_1, v16_1, v17_1, v18_1, v19_1, v20_1, v21_1, v22_1, v23_1, v25_1, v36_1, v37_1, v38_1, v39_1, v40_1, v45_1, v46_1, v47_1, v48_1, v50_1, v51_1, x11, v55_1, rfl, hv0_1, hv2_1, hg2_1, hv3_1, hg3_1, hv4_1, hg4_1, hv5_1, hg5_1, hv6_1, hg6_1, hv8_1, hg8_1, hv9_1, hg9_1, hv12_1, hv13_1, hg13_1, hv14_1, hg14_1, hv15_1, hg15_1, hv17_1, hg17_1, hv20_1, hg20_1, hv23_1, hg23_1, hv25_1, hg25_1, hv36_1, hg36_1, hv47_1, hg47_1, hv48_1, hg48_1, (In.mk (by have ob10 : (0 : Int) ≤ (th 10) ∧ (th 10) ≤ 1 := (b0_10 hT :); have ob11 : (0 : Int) ≤ (th 11) ∧ (th 11) ≤ 9 := (b0_11 hT :); have ob12 : (0 : Int) ≤ (th 12) ∧ (th 12) ≤ 6 := (b0_12 hT :); have ob14 : (0 : Int) ≤ (th 14) ∧ (th 14) ≤ 511 := (b0_14 hT :); have ob15 : (0 : Int) ≤ (th 15) ∧ (th 15) ≤ 1 := (b0_15 hT :); have ob16 : (0 : Int) ≤ (th 16) ∧ (th 16) ≤ 20 := (b0_16 hT :); have ob17 : (0 : Int) ≤ (th 17) ∧ (th 17) ≤ 1 := (b0_17 hT :); have ob18 : (0 : Int) ≤ (th 18) ∧ (th 18) ≤ 18 := (b0_18 hT :); have ob38 : (0 : Int) ≤ (th 38) ∧ (th 38) ≤ 400 := (b0_38 hT :); have ob39 : (0 : Int) ≤ (th 39) ∧ (th 39) ≤ 200 := (b0_39 hT :); have ob44 : (0 : Int) ≤ (th 44) ∧ (th 44) ≤ 30 := (b0_44 hT :); have orn := rnd_b (th 10); obtain ⟨o0a, o0b⟩ := (hb12 : In _ _ _); obtain ⟨o1a, o1b⟩ := (hv14_1 : In _ _ _); obtain ⟨o2a, o2b⟩ := (hv15_1 : In _ _ _); obtain ⟨o3a, o3b⟩ := (hv17_1 : In _ _ _); obtain ⟨o4a, o4b⟩ := (hv20_1 : In _ _ _); obtain ⟨o5a, o5b⟩ := (hv23_1 : In _ _ _); obtain ⟨o6a, o6b⟩ := (hv25_1 : In _ _ _); obtain ⟨o7a, o7b⟩ := (hv36_1 : In _ _ _); obtain ⟨o8a, o8b⟩ := (hv47_1 : In _ _ _); obtain ⟨o9a, o9b⟩ := (hv48_1 : In _ _ _); obtain ⟨o10a, o10b⟩ := (hv55_1 : In _ _ _); obtain ⟨o11a, o11b⟩ := (hv53_1 : In _ _ _); omega) (by have ob10 : (0 : Int) ≤ (th 10) ∧ (th 10) ≤ 1 := (b0_10 hT :); have ob11 : (0 : Int) ≤ (th 11) ∧ (th 11) ≤ 9 := (b0_11 hT :); have ob12 : (0 : Int) ≤ (th 12) ∧ (th 12) ≤ 6 := (b0_12 hT :); have ob14 : (0 : Int) ≤ (th 14) ∧ (th 14) ≤ 511 := (b0_14 hT :); have ob15 : (0 : Int) ≤ (th 15) ∧ (th 15) ≤ 1 := (b0_15 hT :); have ob16 : (0 : Int) ≤ (th 16) ∧ (th 16) ≤ 20 := (b0_16 hT :); have ob17 : (0 : Int) ≤ (th 17) ∧ (th 17) ≤ 1 := (b0_17 hT :); have ob18 : (0 : Int) ≤ (th 18) ∧ (th 18) ≤ 18 := (b0_18 hT :); have ob38 : (0 : Int) ≤ (th 38) ∧ (th 38) ≤ 400 := (b0_38 hT :); have ob39 : (0 : Int) ≤ (th 39) ∧ (th 39) ≤ 200 := (b0_39 hT :); have ob44 : (0 : Int) ≤ (th 44) ∧ (th 44) ≤ 30 := (b0_44 hT :); have orn := rnd_b (th 10); obtain ⟨o0a, o0b⟩ := (hb12 : In _ _ _); obtain ⟨o1a, o1b⟩ := (hv14_1 : In _ _ _); obtain ⟨o2a, o2b⟩ := (hv15_1 : In _ _ _); obtain ⟨o3a, o3b⟩ := (hv17_1 : In _ _ _); obtain ⟨o4a, o4b⟩ := (hv20_1 : In _ _ _); obtain ⟨o5a, o5b⟩ := (hv23_1 : In _ _ _); obtain ⟨o6a, o6b⟩ := (hv25_1 : In _ _ _); obtain ⟨o7a, o7b⟩ := (hv36_1 : In _ _ _); obtain ⟨o8a, o8b⟩ := (hv47_1 : In _ _ _); obtain ⟨o9a, o9b⟩ := (hv48_1 : In _ _ _); obtain ⟨o10a, o10b⟩ := (hv55_1 : In _ _ _); obtain ⟨o11a, o11b⟩ := (hv53_1 : In _ _ _); omega)), rfl, hv55_1, hg55_1, hrel0_1⟩ (fun q hq => ((gset_ne (fun e => hq (by subst e; decide))).trans rfl))
  have hT : TI g ad (gset th 38 x11.toInt) f14 := TI.cast hT (by funext q; by_cases hq0 : q = 38; (subst hq0; rfl); simp only [gset, if_neg hq0])
  exact ret_v hx hb hr hlocks hP hD hS (Nat.le_of_ble_eq_true rfl) (Nat.le_of_ble_eq_true rfl) (⟨rfl, ⟨x11.toInt, (show x11.toInt = th 38 + 1 from (by have ob10 : (0 : Int) ≤ (th 10) ∧ (th 10) ≤ 1 := (b0_10 hT :); have ob11 : (0 : Int) ≤ (th 11) ∧ (th 11) ≤ 9 := (b0_11 hT :); have ob12 : (0 : Int) ≤ (th 12) ∧ (th 12) ≤ 6 := (b0_12 hT :); have ob14 : (0 : Int) ≤ (th 14) ∧ (th 14) ≤ 511 := (b0_14 hT :); have ob15 : (0 : Int) ≤ (th 15) ∧ (th 15) ≤ 1 := (b0_15 hT :); have ob16 : (0 : Int) ≤ (th 16) ∧ (th 16) ≤ 20 := (b0_16 hT :); have ob17 : (0 : Int) ≤ (th 17) ∧ (th 17) ≤ 1 := (b0_17 hT :); have ob18 : (0 : Int) ≤ (th 18) ∧ (th 18) ≤ 18 := (b0_18 hT :); have ob38 : (0 : Int) ≤ x11.toInt ∧ x11.toInt ≤ 400 := (b0_38 hT :); have ob39 : (0 : Int) ≤ (th 39) ∧ (th 39) ≤ 200 := (b0_39 hT :); have ob44 : (0 : Int) ≤ (th 44) ∧ (th 44) ≤ 30 := (b0_44 hT :); have orn := rnd_b (th 10); omega)), TI.cast hT (by funext q; by_cases hq0 : q = 38; (subst hq0; rfl); simp only [gset, if_neg hq0])⟩, hfr⟩) dX11_writesDigit_23

abbrev rm_X11_showsWord : Room := { frames := 4, cells := 0, slots := 0, locals := 85 }
abbrev po_X11_showsWord (g : GG) (ad : Nat → Nat) (th : Nat → Int) (L : List Nat) (f : HP) (z1 : Nat) : (List Nat × HP) → Prop := fun u => u.1 = L ∧ (∃ zs : Int, (zs = th 39 + ((lenS.getD z1 0 : Nat) : Int)) ∧ TI g ad (gset th 39 zs) u.2) ∧ (∀ b, b ≠ (ad 255) → b ≠ (ad 277) → u.2 b = f b)
set_option maxHeartbeats 4000000 in
set_option maxRecDepth 100000 in
theorem s_X11_showsWord (l : Launch) (g : GG) (ad : Nat → Nat) (th : Nat → Int) (L : List Nat) (f : HP) (sz : Nat) (z1 : Nat) (hst : ST ad L) (hT : TI g ad th f) (hi_z1 : z1 < nS) (hlen : th 39 + ((lenS.getD z1 0 : Nat) : Int) ≤ 200) : MtV l g yX11_showsWord cX11_showsWord 3 rm_X11_showsWord [.ref (ad 255), .ref (g.2.2.1 z1)] L f sz (po_X11_showsWord g ad th L f z1) := by
  refine MtV.of (by decide +kernel) (Nat.le_of_ble_eq_true rfl) ?_
  intro p e s m below meth c A hEn hP hD hS ls hl
  obtain ⟨hx, hb, hr, hml, hown, hlocks, hts, hG, hA, hE, hnm⟩ := hEn
  have hown : s.vm.findClass "RulerWordModel" = some m.cls := hown
  have hl : lv_has ls 3 [(0, .ref (ad 255)), (1, .ref (g.2.2.1 z1))] := hl
  have hfr : (∀ b, b ≠ (ad 255) → b ≠ (ad 277) → f b = f b) := fun b z0_ z1_ => rfl
  refine lv_iconst (v := 0) hx hb dX11_showsWord_0 (by decide) ?_
  refine lv_istore_n (lv' := [(2, .int 0), (0, .ref (ad 255)), (1, .ref (g.2.2.1 z1))]) hx hb dX11_showsWord_1 rfl hl (by decide) rfl (fun ls hl => ?_)
  have hJ2 : ∀ (k2 : Nat) (zg2_zs : Int) (y2_l2 : Int32) (f_2 : HP) (H : Heap) (locs : List Loc) (ls : Array Slot), (zg2_zs = th 39 + y2_l2.toInt ∧ y2_l2.toInt ≤ ((lenS.getD z1 0 : Nat) : Int)) → In y2_l2 0 7 → va_P g.1 vwCl (va_pl L f_2) H → va_D A (va_pl L f_2) → va_S A s.heap H locs → TI g ad (gset th 39 zg2_zs) f_2 → (∀ b, b ≠ (ad 255) → b ≠ (ad 277) → f_2 b = f b) → lv_has ls 3 [(0, .ref (ad 255)), (1, .ref (g.2.2.1 z1)), (2, .int y2_l2)] → 7 - y2_l2.toInt < ((k2 : Nat) : Int) → W p l e rm_X11_showsWord s m [.ref (ad 255), .ref (g.2.2.1 z1)].toArray below meth c H locs 0 0 (MQ below (va_Qv (po_X11_showsWord g ad th L f z1) (PstB g A) A) [.ref (ad 255), .ref (g.2.2.1 z1)].toArray s rm_X11_showsWord.cells rm_X11_showsWord.slots A) (F0 m 2 ls []) := by
    intro k2
    induction k2 with
    | zero =>
      intro zg2_zs y2_l2 f_2 H locs ls hzg2 hy2_l2 hP hD hS hT hfr hl hmz2
      exact ms0 hy2_l2 hmz2
    | succ k2 ih2 =>
      intro zg2_zs y2_l2 f_2 H locs ls hzg2 hy2_l2 hP hD hS hT hfr hl hmz2
      refine lv_iload_n hx hb dX11_showsWord_2 rfl (lv_at hl 2 rfl) ?_
      refine lv_aload_n hx hb dX11_showsWord_3 rfl (lv_at hl 1 rfl) ?_
      refine call_i (run_VJ (rm := rm_J0_length) hx hb hml hown hts (i := z1) (hi_z1) (s_J0_length l g _ _ _ z1  hi_z1) cV_J0_length_8abf5 wg_1542 rfl ⟨Nat.le_of_ble_eq_true rfl, Nat.le_of_ble_eq_true rfl⟩ hG hE hA hP hD hS rfl hl.1 (As := []) (rest := [.int y2_l2]) rfl (Nat.le_of_ble_eq_true rfl) dX11_showsWord_4 ⟨Nat.le_of_ble_eq_true rfl, Nat.le_of_ble_eq_true rfl⟩) hA hD hS (fun r1 L2 f3 H locs hp4 hP hD hS => ?_)
      have eL5 : L2 = L := hp4.1
      have eL5f : f3 = f_2 := hp4.2.1
      rw [eL5, eL5f] at hP hD
      have hb6 : In r1 0 7 := hp4.2.2.1
      have hle7 : r1.toInt = ((lenS.getD z1 0 : Nat) : Int) := hp4.2.2.2
      refine lv_icmp_ge (tgt := 25) hx hb dX11_showsWord_7 (by decide) (fun c8 => ?_) (fun c8 => ?_)
      ·
        have cc9 : r1.toInt ≤ y2_l2.toInt := i32_le.mp c8
        exact ret_v hx hb hr hlocks hP hD hS (Nat.le_of_ble_eq_true rfl) (Nat.le_of_ble_eq_true rfl) (⟨rfl, ⟨zg2_zs, (show zg2_zs = th 39 + ((lenS.getD z1 0 : Nat) : Int) from (by have ob10 : (0 : Int) ≤ (th 10) ∧ (th 10) ≤ 1 := (b0_10 hT :); have ob11 : (0 : Int) ≤ (th 11) ∧ (th 11) ≤ 9 := (b0_11 hT :); have ob12 : (0 : Int) ≤ (th 12) ∧ (th 12) ≤ 6 := (b0_12 hT :); have ob14 : (0 : Int) ≤ (th 14) ∧ (th 14) ≤ 511 := (b0_14 hT :); have ob15 : (0 : Int) ≤ (th 15) ∧ (th 15) ≤ 1 := (b0_15 hT :); have ob16 : (0 : Int) ≤ (th 16) ∧ (th 16) ≤ 20 := (b0_16 hT :); have ob17 : (0 : Int) ≤ (th 17) ∧ (th 17) ≤ 1 := (b0_17 hT :); have ob18 : (0 : Int) ≤ (th 18) ∧ (th 18) ≤ 18 := (b0_18 hT :); have ob38 : (0 : Int) ≤ (th 38) ∧ (th 38) ≤ 400 := (b0_38 hT :); have ob39 : (0 : Int) ≤ zg2_zs ∧ zg2_zs ≤ 200 := (b0_39 hT :); have ob44 : (0 : Int) ≤ (th 44) ∧ (th 44) ≤ 30 := (b0_44 hT :); have orn := rnd_b (th 10); obtain ⟨o0a, o0b⟩ := (hy2_l2 : In _ _ _); obtain ⟨o1a, o1b⟩ := (hb6 : In _ _ _); omega)), TI.cast hT (by funext q; by_cases hq0 : q = 39; (subst hq0; rfl); simp only [gset, if_neg hq0])⟩, hfr⟩) dX11_showsWord_25
      ·
        have cc10 : y2_l2.toInt < r1.toInt := i32_nle c8
        have hb11 : In y2_l2 0 6 := In.lt1 hy2_l2 hb6 cc10 (by decide) (by decide)
        have hb12 : In r1 1 7 := In.lt2 hy2_l2 hb6 cc10 (by decide) (by decide)
        refine lv_aload_n hx hb dX11_showsWord_10 rfl (lv_at hl 0 rfl) ?_
        refine lv_aload_n hx hb dX11_showsWord_11 rfl (lv_at hl 1 rfl) ?_
        refine lv_iload_n hx hb dX11_showsWord_12 rfl (lv_at hl 2 rfl) ?_
        refine call_i (run_VJ (rm := rm_J0_charAt) hx hb hml hown hts (i := z1) (hi_z1) (s_J0_charAt l g _ _ _ z1 y2_l2 hi_z1 (Int.le_trans (by decide) hb11.1) (by have q1 := cc10; have q2 := hle7; omega)) cV_J0_charAt_5068e wg_1543 rfl ⟨Nat.le_of_ble_eq_true rfl, Nat.le_of_ble_eq_true rfl⟩ hG hE hA hP hD hS rfl hl.1 (As := [.int y2_l2]) (rest := [.ref (ad 255)]) rfl (Nat.le_of_ble_eq_true rfl) dX11_showsWord_13 ⟨Nat.le_of_ble_eq_true rfl, Nat.le_of_ble_eq_true rfl⟩) hA hD hS (fun r13 L14 f15 H locs hp16 hP hD hS => ?_)
        have eL17 : L14 = L := hp16.1
        have eL17f : f15 = f_2 := hp16.2.1
        rw [eL17, eL17f] at hP hD
        have hb18 : In r13 0 65535 := hp16.2.2
        refine M0e hT (fun v0_19 v2_19 v3_19 v4_19 v5_19 v6_19 v8_19 v9_19 v12_19 v13_19 v14_19 v15_19 v16_19 v17_19 v18_19 v19_19 v20_19 v21_19 v22_19 v23_19 v25_19 v36_19 v37_19 v38_19 v39_19 v40_19 v45_19 v46_19 v47_19 v48_19 v50_19 v51_19 v53_19 v55_19 hf20 hv0_19 hv2_19 hg2_19 hv3_19 hg3_19 hv4_19 hg4_19 hv5_19 hg5_19 hv6_19 hg6_19 hv8_19 hg8_19 hv9_19 hg9_19 hv12_19 hv13_19 hg13_19 hv14_19 hg14_19 hv15_19 hg15_19 hv17_19 hg17_19 hv20_19 hg20_19 hv23_19 hg23_19 hv25_19 hg25_19 hv36_19 hg36_19 hv47_19 hg47_19 hv48_19 hg48_19 hv53_19 hg53_19 hv55_19 hg55_19 hrel0_19 => ?_)
        have hg15_19 : v15_19.toInt = th 11 := hg15_19
        have hg20_19 : v20_19.toInt = th 14 := hg20_19
        refine call_v (run_V (rm := rm_X11_shows) hx hb hml hown hts (s_X11_shows l g ad (gset th 39 zg2_zs) _ _ _ r13 hst hT (show zg2_zs < 200 from (by have ob10 : (0 : Int) ≤ (th 10) ∧ (th 10) ≤ 1 := (b0_10 hT :); have ob11 : (0 : Int) ≤ (th 11) ∧ (th 11) ≤ 9 := (b0_11 hT :); have ob12 : (0 : Int) ≤ (th 12) ∧ (th 12) ≤ 6 := (b0_12 hT :); have ob14 : (0 : Int) ≤ (th 14) ∧ (th 14) ≤ 511 := (b0_14 hT :); have ob15 : (0 : Int) ≤ (th 15) ∧ (th 15) ≤ 1 := (b0_15 hT :); have ob16 : (0 : Int) ≤ (th 16) ∧ (th 16) ≤ 20 := (b0_16 hT :); have ob17 : (0 : Int) ≤ (th 17) ∧ (th 17) ≤ 1 := (b0_17 hT :); have ob18 : (0 : Int) ≤ (th 18) ∧ (th 18) ≤ 18 := (b0_18 hT :); have ob38 : (0 : Int) ≤ (th 38) ∧ (th 38) ≤ 400 := (b0_38 hT :); have ob39 : (0 : Int) ≤ zg2_zs ∧ zg2_zs ≤ 200 := (b0_39 hT :); have ob44 : (0 : Int) ≤ (th 44) ∧ (th 44) ≤ 30 := (b0_44 hT :); have orn := rnd_b (th 10); obtain ⟨o0a, o0b⟩ := (hv14_19 : In _ _ _); obtain ⟨o1a, o1b⟩ := (hv15_19 : In _ _ _); obtain ⟨o2a, o2b⟩ := (hv17_19 : In _ _ _); obtain ⟨o3a, o3b⟩ := (hv20_19 : In _ _ _); obtain ⟨o4a, o4b⟩ := (hv23_19 : In _ _ _); obtain ⟨o5a, o5b⟩ := (hv25_19 : In _ _ _); obtain ⟨o6a, o6b⟩ := (hv36_19 : In _ _ _); obtain ⟨o7a, o7b⟩ := (hv47_19 : In _ _ _); obtain ⟨o8a, o8b⟩ := (hv48_19 : In _ _ _); obtain ⟨o9a, o9b⟩ := (hv53_19 : In _ _ _); obtain ⟨o10a, o10b⟩ := (hv55_19 : In _ _ _); omega))) cV_X11_shows wg_1929 ⟨Nat.le_of_ble_eq_true rfl, Nat.le_of_ble_eq_true rfl⟩ hG hE hA hP hD hS (hst.1 255 (by decide)) hf20 rfl rfl hl.1 (As := [.int r13]) (rest := []) rfl (Nat.le_of_ble_eq_true rfl) dX11_showsWord_16 ⟨Nat.le_of_ble_eq_true rfl, Nat.le_of_ble_eq_true rfl⟩) hA hD hS (fun L22 f23 H locs hp24 hP hD hS => ?_)
        obtain ⟨eL25L, eL25T, eL25F⟩ := hp24
        have eL25L : L22 = L := eL25L
        rw [eL25L] at hP hD
        obtain ⟨zz26, hzz26, eL25T⟩ := eL25T
        have hzz26 : zz26 = zg2_zs + 1 := hzz26
        have hT : TI g ad (gset (gset th 39 zg2_zs) 39 zz26) f23 := eL25T
        have hT : TI g ad (gset th 39 zz26) f23 := TI.cast hT (by funext q; by_cases hq0 : q = 39; (subst hq0; rfl); simp only [gset, if_neg hq0])
        have eL25F : ∀ b, b ≠ (ad 255) → b ≠ (ad 277) → f23 b = f_2 b := eL25F
        have hfr : (∀ b, b ≠ (ad 255) → b ≠ (ad 277) → f23 b = f b) := fun b z0_ z1_ => (eL25F b z0_ z1_).trans (hfr b z0_ z1_)
        obtain ⟨x27, ex27⟩ : ∃ y : Int32, y = y2_l2 + 1 := ⟨_, rfl⟩
        have hb28 : In x27 1 7 := ex27 ▸ In.add hb11 (⟨by decide, by decide⟩ : In 1 1 1) (by decide) (by decide) (by decide) (by decide)
        have et29 : x27.toInt = y2_l2.toInt + 1 := In.adde ex27 hb11 (k := 1) (by decide) (by decide) (by decide)
        refine lv_iinc (v := x27) (lv' := [(2, .int x27), (0, .ref (ad 255)), (1, .ref (g.2.2.1 z1))]) hx hb dX11_showsWord_19 hl (k := 2) rfl (by rw [ex27]; rfl) (by decide) rfl (fun ls hl => ?_)
        refine lv_goto (tgt := 2) hx hb dX11_showsWord_22 (by decide) ?_
        exact ih2 zz26 x27 _ _ _ _ (show _ from (by have ql := Int.natCast_nonneg (lenS.getD z1 0); have ob10 : (0 : Int) ≤ (th 10) ∧ (th 10) ≤ 1 := (b0_10 hT :); have ob11 : (0 : Int) ≤ (th 11) ∧ (th 11) ≤ 9 := (b0_11 hT :); have ob12 : (0 : Int) ≤ (th 12) ∧ (th 12) ≤ 6 := (b0_12 hT :); have ob14 : (0 : Int) ≤ (th 14) ∧ (th 14) ≤ 511 := (b0_14 hT :); have ob15 : (0 : Int) ≤ (th 15) ∧ (th 15) ≤ 1 := (b0_15 hT :); have ob16 : (0 : Int) ≤ (th 16) ∧ (th 16) ≤ 20 := (b0_16 hT :); have ob17 : (0 : Int) ≤ (th 17) ∧ (th 17) ≤ 1 := (b0_17 hT :); have ob18 : (0 : Int) ≤ (th 18) ∧ (th 18) ≤ 18 := (b0_18 hT :); have ob38 : (0 : Int) ≤ (th 38) ∧ (th 38) ≤ 400 := (b0_38 hT :); have ob39 : (0 : Int) ≤ zz26 ∧ zz26 ≤ 200 := (b0_39 hT :); have ob44 : (0 : Int) ≤ (th 44) ∧ (th 44) ≤ 30 := (b0_44 hT :); have orn := rnd_b (th 10); obtain ⟨o0a, o0b⟩ := (hb28 : In _ _ _); obtain ⟨o1a, o1b⟩ := (hb11 : In _ _ _); obtain ⟨o2a, o2b⟩ := (hb12 : In _ _ _); omega)) (In.mono hb28 (by decide) (by decide)) hP hD hS (TI.cast hT (by funext q; by_cases hq0 : q = 39; (subst hq0; rfl); simp only [gset, if_neg hq0])) hfr (lv_sub hl [1, 2, 0] rfl) (msu et29 (by decide) hmz2)
  exact hJ2 ((7 - (0 : Int32).toInt).toNat + 1) (th 39) 0 _ _ _ _ (show _ from (by have ql := Int.natCast_nonneg (lenS.getD z1 0); have ob10 : (0 : Int) ≤ (th 10) ∧ (th 10) ≤ 1 := (b0_10 hT :); have ob11 : (0 : Int) ≤ (th 11) ∧ (th 11) ≤ 9 := (b0_11 hT :); have ob12 : (0 : Int) ≤ (th 12) ∧ (th 12) ≤ 6 := (b0_12 hT :); have ob14 : (0 : Int) ≤ (th 14) ∧ (th 14) ≤ 511 := (b0_14 hT :); have ob15 : (0 : Int) ≤ (th 15) ∧ (th 15) ≤ 1 := (b0_15 hT :); have ob16 : (0 : Int) ≤ (th 16) ∧ (th 16) ≤ 20 := (b0_16 hT :); have ob17 : (0 : Int) ≤ (th 17) ∧ (th 17) ≤ 1 := (b0_17 hT :); have ob18 : (0 : Int) ≤ (th 18) ∧ (th 18) ≤ 18 := (b0_18 hT :); have ob38 : (0 : Int) ≤ (th 38) ∧ (th 38) ≤ 400 := (b0_38 hT :); have ob39 : (0 : Int) ≤ (th 39) ∧ (th 39) ≤ 200 := (b0_39 hT :); have ob44 : (0 : Int) ≤ (th 44) ∧ (th 44) ≤ 30 := (b0_44 hT :); have orn := rnd_b (th 10); have oc0 : (0 : Int32).toInt = 0 := (by decide); omega)) (⟨by decide, by decide⟩ : In 0 0 7) hP hD hS (TI.cast hT (by funext q; by_cases hq0 : q = 39; (subst hq0; rfl); simp only [gset, if_neg hq0])) hfr (lv_sub hl [1, 2, 0] rfl) (msI _)

abbrev rm_X11_writesWord : Room := { frames := 4, cells := 0, slots := 0, locals := 85 }
abbrev po_X11_writesWord (g : GG) (ad : Nat → Nat) (th : Nat → Int) (L : List Nat) (f : HP) (z1 : Nat) : (List Nat × HP) → Prop := fun u => u.1 = L ∧ (∃ zs : Int, (zs = th 38 + ((lenS.getD z1 0 : Nat) : Int)) ∧ TI g ad (gset th 38 zs) u.2) ∧ (∀ b, b ≠ (ad 255) → b ≠ (ad 276) → u.2 b = f b)
set_option maxHeartbeats 4000000 in
set_option maxRecDepth 100000 in
theorem s_X11_writesWord (l : Launch) (g : GG) (ad : Nat → Nat) (th : Nat → Int) (L : List Nat) (f : HP) (sz : Nat) (z1 : Nat) (hst : ST ad L) (hT : TI g ad th f) (hi_z1 : z1 < nS) (hlen : th 38 + ((lenS.getD z1 0 : Nat) : Int) ≤ 400) : MtV l g yX11_writesWord cX11_writesWord 3 rm_X11_writesWord [.ref (ad 255), .ref (g.2.2.1 z1)] L f sz (po_X11_writesWord g ad th L f z1) := by
  refine MtV.of (by decide +kernel) (Nat.le_of_ble_eq_true rfl) ?_
  intro p e s m below meth c A hEn hP hD hS ls hl
  obtain ⟨hx, hb, hr, hml, hown, hlocks, hts, hG, hA, hE, hnm⟩ := hEn
  have hown : s.vm.findClass "RulerWordModel" = some m.cls := hown
  have hl : lv_has ls 3 [(0, .ref (ad 255)), (1, .ref (g.2.2.1 z1))] := hl
  have hfr : (∀ b, b ≠ (ad 255) → b ≠ (ad 276) → f b = f b) := fun b z0_ z1_ => rfl
  refine lv_iconst (v := 0) hx hb dX11_writesWord_0 (by decide) ?_
  refine lv_istore_n (lv' := [(2, .int 0), (0, .ref (ad 255)), (1, .ref (g.2.2.1 z1))]) hx hb dX11_writesWord_1 rfl hl (by decide) rfl (fun ls hl => ?_)
  have hJ2 : ∀ (k2 : Nat) (zg2_zs : Int) (y2_l2 : Int32) (f_2 : HP) (H : Heap) (locs : List Loc) (ls : Array Slot), (zg2_zs = th 38 + y2_l2.toInt ∧ y2_l2.toInt ≤ ((lenS.getD z1 0 : Nat) : Int)) → In y2_l2 0 7 → va_P g.1 vwCl (va_pl L f_2) H → va_D A (va_pl L f_2) → va_S A s.heap H locs → TI g ad (gset th 38 zg2_zs) f_2 → (∀ b, b ≠ (ad 255) → b ≠ (ad 276) → f_2 b = f b) → lv_has ls 3 [(0, .ref (ad 255)), (1, .ref (g.2.2.1 z1)), (2, .int y2_l2)] → 7 - y2_l2.toInt < ((k2 : Nat) : Int) → W p l e rm_X11_writesWord s m [.ref (ad 255), .ref (g.2.2.1 z1)].toArray below meth c H locs 0 0 (MQ below (va_Qv (po_X11_writesWord g ad th L f z1) (PstB g A) A) [.ref (ad 255), .ref (g.2.2.1 z1)].toArray s rm_X11_writesWord.cells rm_X11_writesWord.slots A) (F0 m 2 ls []) := by
    intro k2
    induction k2 with
    | zero =>
      intro zg2_zs y2_l2 f_2 H locs ls hzg2 hy2_l2 hP hD hS hT hfr hl hmz2
      exact ms0 hy2_l2 hmz2
    | succ k2 ih2 =>
      intro zg2_zs y2_l2 f_2 H locs ls hzg2 hy2_l2 hP hD hS hT hfr hl hmz2
      refine lv_iload_n hx hb dX11_writesWord_2 rfl (lv_at hl 2 rfl) ?_
      refine lv_aload_n hx hb dX11_writesWord_3 rfl (lv_at hl 1 rfl) ?_
      refine call_i (run_VJ (rm := rm_J0_length) hx hb hml hown hts (i := z1) (hi_z1) (s_J0_length l g _ _ _ z1  hi_z1) cV_J0_length_8abf5 wg_1542 rfl ⟨Nat.le_of_ble_eq_true rfl, Nat.le_of_ble_eq_true rfl⟩ hG hE hA hP hD hS rfl hl.1 (As := []) (rest := [.int y2_l2]) rfl (Nat.le_of_ble_eq_true rfl) dX11_writesWord_4 ⟨Nat.le_of_ble_eq_true rfl, Nat.le_of_ble_eq_true rfl⟩) hA hD hS (fun r1 L2 f3 H locs hp4 hP hD hS => ?_)
      have eL5 : L2 = L := hp4.1
      have eL5f : f3 = f_2 := hp4.2.1
      rw [eL5, eL5f] at hP hD
      have hb6 : In r1 0 7 := hp4.2.2.1
      have hle7 : r1.toInt = ((lenS.getD z1 0 : Nat) : Int) := hp4.2.2.2
      refine lv_icmp_ge (tgt := 40) hx hb dX11_writesWord_7 (by decide) (fun c8 => ?_) (fun c8 => ?_)
      ·
        have cc9 : r1.toInt ≤ y2_l2.toInt := i32_le.mp c8
        exact ret_v hx hb hr hlocks hP hD hS (Nat.le_of_ble_eq_true rfl) (Nat.le_of_ble_eq_true rfl) (⟨rfl, ⟨zg2_zs, (show zg2_zs = th 38 + ((lenS.getD z1 0 : Nat) : Int) from (by have ob10 : (0 : Int) ≤ (th 10) ∧ (th 10) ≤ 1 := (b0_10 hT :); have ob11 : (0 : Int) ≤ (th 11) ∧ (th 11) ≤ 9 := (b0_11 hT :); have ob12 : (0 : Int) ≤ (th 12) ∧ (th 12) ≤ 6 := (b0_12 hT :); have ob14 : (0 : Int) ≤ (th 14) ∧ (th 14) ≤ 511 := (b0_14 hT :); have ob15 : (0 : Int) ≤ (th 15) ∧ (th 15) ≤ 1 := (b0_15 hT :); have ob16 : (0 : Int) ≤ (th 16) ∧ (th 16) ≤ 20 := (b0_16 hT :); have ob17 : (0 : Int) ≤ (th 17) ∧ (th 17) ≤ 1 := (b0_17 hT :); have ob18 : (0 : Int) ≤ (th 18) ∧ (th 18) ≤ 18 := (b0_18 hT :); have ob38 : (0 : Int) ≤ zg2_zs ∧ zg2_zs ≤ 400 := (b0_38 hT :); have ob39 : (0 : Int) ≤ (th 39) ∧ (th 39) ≤ 200 := (b0_39 hT :); have ob44 : (0 : Int) ≤ (th 44) ∧ (th 44) ≤ 30 := (b0_44 hT :); have orn := rnd_b (th 10); obtain ⟨o0a, o0b⟩ := (hy2_l2 : In _ _ _); obtain ⟨o1a, o1b⟩ := (hb6 : In _ _ _); omega)), TI.cast hT (by funext q; by_cases hq0 : q = 38; (subst hq0; rfl); simp only [gset, if_neg hq0])⟩, hfr⟩) dX11_writesWord_40
      ·
        have cc10 : y2_l2.toInt < r1.toInt := i32_nle c8
        have hb11 : In y2_l2 0 6 := In.lt1 hy2_l2 hb6 cc10 (by decide) (by decide)
        have hb12 : In r1 1 7 := In.lt2 hy2_l2 hb6 cc10 (by decide) (by decide)
        refine lv_aload_n hx hb dX11_writesWord_10 rfl (lv_at hl 0 rfl) ?_
        refine M0e hT (fun v0_13 v2_13 v3_13 v4_13 v5_13 v6_13 v8_13 v9_13 v12_13 v13_13 v14_13 v15_13 v16_13 v17_13 v18_13 v19_13 v20_13 v21_13 v22_13 v23_13 v25_13 v36_13 v37_13 v38_13 v39_13 v40_13 v45_13 v46_13 v47_13 v48_13 v50_13 v51_13 v53_13 v55_13 hf14 hv0_13 hv2_13 hg2_13 hv3_13 hg3_13 hv4_13 hg4_13 hv5_13 hg5_13 hv6_13 hg6_13 hv8_13 hg8_13 hv9_13 hg9_13 hv12_13 hv13_13 hg13_13 hv14_13 hg14_13 hv15_13 hg15_13 hv17_13 hg17_13 hv20_13 hg20_13 hv23_13 hg23_13 hv25_13 hg25_13 hv36_13 hg36_13 hv47_13 hg47_13 hv48_13 hg48_13 hv53_13 hg53_13 hv55_13 hg55_13 hrel0_13 => ?_)
        have hg15_13 : v15_13.toInt = th 11 := hg15_13
        have hg20_13 : v20_13.toInt = th 14 := hg20_13
        refine pl_get (v := .ref (ad 276)) hx hb hts (fun w h => mT (inX11 w h)) hown hG.1 hP (hst.1 255 (by decide)) hf14 rfl 52 (by decide) (hts _ (mT wg_1388)) (fun _ h => h) rfl dX11_writesWord_11 ?_
        refine lv_aload_n hx hb dX11_writesWord_14 rfl (lv_at hl 0 rfl) ?_
        refine pl_get (v := .int v53_13) hx hb hts (fun w h => mT (inX11 w h)) hown hG.1 hP (hst.1 255 (by decide)) hf14 rfl 53 (by decide) (hts _ (mT wg_1389)) (fun _ h => h) rfl dX11_writesWord_15 ?_
        have hg53_13 : v53_13.toInt = zg2_zs := hg53_13
        refine lv_aload_n hx hb dX11_writesWord_18 rfl (lv_at hl 1 rfl) ?_
        refine lv_iload_n hx hb dX11_writesWord_19 rfl (lv_at hl 2 rfl) ?_
        refine call_i (run_VJ (rm := rm_J0_charAt) hx hb hml hown hts (i := z1) (hi_z1) (s_J0_charAt l g _ _ _ z1 y2_l2 hi_z1 (Int.le_trans (by decide) hb11.1) (by have q1 := cc10; have q2 := hle7; omega)) cV_J0_charAt_5068e wg_1543 rfl ⟨Nat.le_of_ble_eq_true rfl, Nat.le_of_ble_eq_true rfl⟩ hG hE hA hP hD hS rfl hl.1 (As := [.int y2_l2]) (rest := [.int v53_13, .ref (ad 276)]) rfl (Nat.le_of_ble_eq_true rfl) dX11_writesWord_20 ⟨Nat.le_of_ble_eq_true rfl, Nat.le_of_ble_eq_true rfl⟩) hA hD hS (fun r15 L16 f17 H locs hp18 hP hD hS => ?_)
        have eL19 : L16 = L := hp18.1
        have eL19f : f17 = f_2 := hp18.2.1
        rw [eL19, eL19f] at hP hD
        have hb20 : In r15 0 65535 := hp18.2.2
        obtain ⟨rw21, hf22⟩ := hT.2.2 21 (by decide)
        refine pl_iastE hx hb hG.1 hP hD hS (hst.1 276 (by decide)) 0 hf22 rfl (vp_of (by have ob10 : (0 : Int) ≤ (th 10) ∧ (th 10) ≤ 1 := (b0_10 hT :); have ob11 : (0 : Int) ≤ (th 11) ∧ (th 11) ≤ 9 := (b0_11 hT :); have ob12 : (0 : Int) ≤ (th 12) ∧ (th 12) ≤ 6 := (b0_12 hT :); have ob14 : (0 : Int) ≤ (th 14) ∧ (th 14) ≤ 511 := (b0_14 hT :); have ob15 : (0 : Int) ≤ (th 15) ∧ (th 15) ≤ 1 := (b0_15 hT :); have ob16 : (0 : Int) ≤ (th 16) ∧ (th 16) ≤ 20 := (b0_16 hT :); have ob17 : (0 : Int) ≤ (th 17) ∧ (th 17) ≤ 1 := (b0_17 hT :); have ob18 : (0 : Int) ≤ (th 18) ∧ (th 18) ≤ 18 := (b0_18 hT :); have ob38 : (0 : Int) ≤ zg2_zs ∧ zg2_zs ≤ 400 := (b0_38 hT :); have ob39 : (0 : Int) ≤ (th 39) ∧ (th 39) ≤ 200 := (b0_39 hT :); have ob44 : (0 : Int) ≤ (th 44) ∧ (th 44) ≤ 30 := (b0_44 hT :); have orn := rnd_b (th 10); obtain ⟨o0a, o0b⟩ := (hv53_13 : In _ _ _); obtain ⟨o1a, o1b⟩ := (hv14_13 : In _ _ _); obtain ⟨o2a, o2b⟩ := (hv15_13 : In _ _ _); obtain ⟨o3a, o3b⟩ := (hv17_13 : In _ _ _); obtain ⟨o4a, o4b⟩ := (hv20_13 : In _ _ _); obtain ⟨o5a, o5b⟩ := (hv23_13 : In _ _ _); obtain ⟨o6a, o6b⟩ := (hv25_13 : In _ _ _); obtain ⟨o7a, o7b⟩ := (hv36_13 : In _ _ _); obtain ⟨o8a, o8b⟩ := (hv47_13 : In _ _ _); obtain ⟨o9a, o9b⟩ := (hv48_13 : In _ _ _); obtain ⟨o10a, o10b⟩ := (hv55_13 : In _ _ _); omega) (by have ob10 : (0 : Int) ≤ (th 10) ∧ (th 10) ≤ 1 := (b0_10 hT :); have ob11 : (0 : Int) ≤ (th 11) ∧ (th 11) ≤ 9 := (b0_11 hT :); have ob12 : (0 : Int) ≤ (th 12) ∧ (th 12) ≤ 6 := (b0_12 hT :); have ob14 : (0 : Int) ≤ (th 14) ∧ (th 14) ≤ 511 := (b0_14 hT :); have ob15 : (0 : Int) ≤ (th 15) ∧ (th 15) ≤ 1 := (b0_15 hT :); have ob16 : (0 : Int) ≤ (th 16) ∧ (th 16) ≤ 20 := (b0_16 hT :); have ob17 : (0 : Int) ≤ (th 17) ∧ (th 17) ≤ 1 := (b0_17 hT :); have ob18 : (0 : Int) ≤ (th 18) ∧ (th 18) ≤ 18 := (b0_18 hT :); have ob38 : (0 : Int) ≤ zg2_zs ∧ zg2_zs ≤ 400 := (b0_38 hT :); have ob39 : (0 : Int) ≤ (th 39) ∧ (th 39) ≤ 200 := (b0_39 hT :); have ob44 : (0 : Int) ≤ (th 44) ∧ (th 44) ≤ 30 := (b0_44 hT :); have orn := rnd_b (th 10); obtain ⟨o0a, o0b⟩ := (hv53_13 : In _ _ _); obtain ⟨o1a, o1b⟩ := (hv14_13 : In _ _ _); obtain ⟨o2a, o2b⟩ := (hv15_13 : In _ _ _); obtain ⟨o3a, o3b⟩ := (hv17_13 : In _ _ _); obtain ⟨o4a, o4b⟩ := (hv20_13 : In _ _ _); obtain ⟨o5a, o5b⟩ := (hv23_13 : In _ _ _); obtain ⟨o6a, o6b⟩ := (hv25_13 : In _ _ _); obtain ⟨o7a, o7b⟩ := (hv36_13 : In _ _ _); obtain ⟨o8a, o8b⟩ := (hv47_13 : In _ _ _); obtain ⟨o9a, o9b⟩ := (hv48_13 : In _ _ _); obtain ⟨o10a, o10b⟩ := (hv55_13 : In _ _ _); omega)) dX11_writesWord_23 (fun H locs f23 r26 er26 hf24 ho25 hP hD hS => ?_)
        have hf27 := (ho25 (ad 255) (hst.ne (by decide) (by decide) (by decide))).trans hf14
        have hfr : (∀ b, b ≠ (ad 255) → b ≠ (ad 276) → f23 b = f b) := fun b z0_ z1_ => (ho25 b z1_).trans (hfr b z0_ z1_)
        refine lv_aload_n hx hb dX11_writesWord_24 rfl (lv_at hl 0 rfl) ?_
        refine lv_dup hx hb dX11_writesWord_25 rfl ?_
        refine pl_get (v := .int v53_13) hx hb hts (fun w h => mT (inX11 w h)) hown hG.1 hP (hst.1 255 (by decide)) hf27 rfl 53 (by decide) (hts _ (mT wg_1389)) (fun _ h => h) rfl dX11_writesWord_26 ?_
        refine lv_iconst (v := 1) hx hb dX11_writesWord_29 (by decide) ?_
        refine lv_iadd hx hb dX11_writesWord_30 ?_
        refine lv_topi (fun x28 ex28 => ?_)
        have hb29 : In x28 1 401 := ex28 ▸ In.add hv53_13 (⟨by decide, by decide⟩ : In 1 1 1) (by decide) (by decide) (by decide) (by decide)
        have et30 : x28.toInt = v53_13.toInt + 1 := In.adde ex28 hv53_13 (k := 1) (by decide) (by decide) (by decide)
        have hT := TI.updM hT hst (k := 21) (by decide) hf24 ho25 ⟨r26, rfl⟩
        refine pl_put (ty := .int) (v := .int x28) (fs' := [.int v0_13, .ref (ad 256), .int v2_13, .int v3_13, .int v4_13, .int v5_13, .int v6_13, .ref (ad 257), .int v8_13, .int v9_13, .ref (ad 258), .ref (ad 259), .int v12_13, .int v13_13, .int v14_13, .int v15_13, .int v16_13, .int v17_13, .int v18_13, .int v19_13, .int v20_13, .long v21_13, .long v22_13, .int v23_13, .ref (ad 260), .int v25_13, .ref (ad 261), .ref (ad 262), .ref (ad 263), .ref (ad 264), .ref (ad 265), .ref (ad 266), .ref (ad 267), .ref (ad 268), .ref (ad 269), .ref (ad 270), .int v36_13, .int v37_13, .int v38_13, .int v39_13, .int v40_13, .ref (ad 271), .ref (ad 272), .ref (ad 273), .ref (ad 274), .long v45_13, .long v46_13, .int v47_13, .int v48_13, .ref (ad 275), .int v50_13, .int v51_13, .ref (ad 276), .int x28, .ref (ad 277), .int v55_13]) hx hb hts (fun w h => mT (inX11 w h)) tyX11 tyX11_ok nmX11 hown hG.1 hP hD hS (hst.1 255 (by decide)) hf27 rfl 53 (by decide) (hts _ (mT wg_1389)) (fun _ h => h) rfl (by decide +kernel) (rfl) (rfl) (Nat.le_of_ble_eq_true rfl) rfl dX11_writesWord_31 (fun H locs f31 hf32 ho33 hP hD hS => ?_)
        have hf34 := (ho33 (ad 276) (hst.ne (by decide) (by decide) (by decide))).trans hf24
        have hfr : (∀ b, b ≠ (ad 255) → b ≠ (ad 276) → f31 b = f b) := fun b z0_ z1_ => (ho33 b z0_).trans (hfr b z0_ z1_)
        obtain ⟨x35, ex35⟩ : ∃ y : Int32, y = y2_l2 + 1 := ⟨_, rfl⟩
        have hb36 : In x35 1 7 := ex35 ▸ In.add hb11 (⟨by decide, by decide⟩ : In 1 1 1) (by decide) (by decide) (by decide) (by decide)
        have et37 : x35.toInt = y2_l2.toInt + 1 := In.adde ex35 hb11 (k := 1) (by decide) (by decide) (by decide)
        refine lv_iinc (v := x35) (lv' := [(2, .int x35), (0, .ref (ad 255)), (1, .ref (g.2.2.1 z1))]) hx hb dX11_writesWord_34 hl (k := 2) rfl (by rw [ex35]; rfl) (by decide) rfl (fun ls hl => ?_)
        have hT := TI.updMG (th' := (gset (gset th 38 zg2_zs) 38 (x28.toInt))) hT hst (k := 0) (by decide) hf32 ho33 ⟨v0_13, v2_13, v3_13, v4_13, v5_13, v6_13, v8_13, v9_13, v12_13, v13_13, v14_13, v15_13, v16_13, v17_13, v18_13, v19_13, v20_13, v21_13, v22_13, v23_13, v25_13, v36_13, v37_13, v38_13, v39_13, v40_13, v45_13, v46_13, v47_13, v48_13, v50_13, v51_13, x28, v55_13, rfl, hv0_13, hv2_13, hg2_13, hv3_13, hg3_13, hv4_13, hg4_13, hv5_13, hg5_13, hv6_13, hg6_13, hv8_13, hg8_13, hv9_13, hg9_13, hv12_13, hv13_13, hg13_13, hv14_13, hg14_13, hv15_13, hg15_13, hv17_13, hg17_13, hv20_13, hg20_13, hv23_13, hg23_13, hv25_13, hg25_13, hv36_13, hg36_13, hv47_13, hg47_13, hv48_13, hg48_13, (In.mk (by have ob10 : (0 : Int) ≤ (th 10) ∧ (th 10) ≤ 1 := (b0_10 hT :); have ob11 : (0 : Int) ≤ (th 11) ∧ (th 11) ≤ 9 := (b0_11 hT :); have ob12 : (0 : Int) ≤ (th 12) ∧ (th 12) ≤ 6 := (b0_12 hT :); have ob14 : (0 : Int) ≤ (th 14) ∧ (th 14) ≤ 511 := (b0_14 hT :); have ob15 : (0 : Int) ≤ (th 15) ∧ (th 15) ≤ 1 := (b0_15 hT :); have ob16 : (0 : Int) ≤ (th 16) ∧ (th 16) ≤ 20 := (b0_16 hT :); have ob17 : (0 : Int) ≤ (th 17) ∧ (th 17) ≤ 1 := (b0_17 hT :); have ob18 : (0 : Int) ≤ (th 18) ∧ (th 18) ≤ 18 := (b0_18 hT :); have ob38 : (0 : Int) ≤ zg2_zs ∧ zg2_zs ≤ 400 := (b0_38 hT :); have ob39 : (0 : Int) ≤ (th 39) ∧ (th 39) ≤ 200 := (b0_39 hT :); have ob44 : (0 : Int) ≤ (th 44) ∧ (th 44) ≤ 30 := (b0_44 hT :); have orn := rnd_b (th 10); obtain ⟨o0a, o0b⟩ := (hb29 : In _ _ _); obtain ⟨o1a, o1b⟩ := (hv14_13 : In _ _ _); obtain ⟨o2a, o2b⟩ := (hv15_13 : In _ _ _); obtain ⟨o3a, o3b⟩ := (hv17_13 : In _ _ _); obtain ⟨o4a, o4b⟩ := (hv20_13 : In _ _ _); obtain ⟨o5a, o5b⟩ := (hv23_13 : In _ _ _); obtain ⟨o6a, o6b⟩ := (hv25_13 : In _ _ _); obtain ⟨o7a, o7b⟩ := (hv36_13 : In _ _ _); obtain ⟨o8a, o8b⟩ := (hv47_13 : In _ _ _); obtain ⟨o9a, o9b⟩ := (hv48_13 : In _ _ _); obtain ⟨o10a, o10b⟩ := (hv55_13 : In _ _ _); obtain ⟨o11a, o11b⟩ := (hv53_13 : In _ _ _); omega) (by have ob10 : (0 : Int) ≤ (th 10) ∧ (th 10) ≤ 1 := (b0_10 hT :); have ob11 : (0 : Int) ≤ (th 11) ∧ (th 11) ≤ 9 := (b0_11 hT :); have ob12 : (0 : Int) ≤ (th 12) ∧ (th 12) ≤ 6 := (b0_12 hT :); have ob14 : (0 : Int) ≤ (th 14) ∧ (th 14) ≤ 511 := (b0_14 hT :); have ob15 : (0 : Int) ≤ (th 15) ∧ (th 15) ≤ 1 := (b0_15 hT :); have ob16 : (0 : Int) ≤ (th 16) ∧ (th 16) ≤ 20 := (b0_16 hT :); have ob17 : (0 : Int) ≤ (th 17) ∧ (th 17) ≤ 1 := (b0_17 hT :); have ob18 : (0 : Int) ≤ (th 18) ∧ (th 18) ≤ 18 := (b0_18 hT :); have ob38 : (0 : Int) ≤ zg2_zs ∧ zg2_zs ≤ 400 := (b0_38 hT :); have ob39 : (0 : Int) ≤ (th 39) ∧ (th 39) ≤ 200 := (b0_39 hT :); have ob44 : (0 : Int) ≤ (th 44) ∧ (th 44) ≤ 30 := (b0_44 hT :); have orn := rnd_b (th 10); obtain ⟨o0a, o0b⟩ := (hb29 : In _ _ _); obtain ⟨o1a, o1b⟩ := (hv14_13 : In _ _ _); obtain ⟨o2a, o2b⟩ := (hv15_13 : In _ _ _); obtain ⟨o3a, o3b⟩ := (hv17_13 : In _ _ _); obtain ⟨o4a, o4b⟩ := (hv20_13 : In _ _ _); obtain ⟨o5a, o5b⟩ := (hv23_13 : In _ _ _); obtain ⟨o6a, o6b⟩ := (hv25_13 : In _ _ _); obtain ⟨o7a, o7b⟩ := (hv36_13 : In _ _ _); obtain ⟨o8a, o8b⟩ := (hv47_13 : In _ _ _); obtain ⟨o9a, o9b⟩ := (hv48_13 : In _ _ _); obtain ⟨o10a, o10b⟩ := (hv55_13 : In _ _ _); obtain ⟨o11a, o11b⟩ := (hv53_13 : In _ _ _); omega)), rfl, hv55_13, hg55_13, hrel0_13⟩ (fun q hq => ((gset_ne (fun e => hq (by subst e; decide))).trans rfl))
        have hT : TI g ad (gset th 38 x28.toInt) f31 := TI.cast hT (by funext q; by_cases hq0 : q = 38; (subst hq0; rfl); simp only [gset, if_neg hq0])
        refine lv_goto (tgt := 2) hx hb dX11_writesWord_37 (by decide) ?_
        exact ih2 x28.toInt x35 _ _ _ _ (show _ from (by have ql := Int.natCast_nonneg (lenS.getD z1 0); have ob10 : (0 : Int) ≤ (th 10) ∧ (th 10) ≤ 1 := (b0_10 hT :); have ob11 : (0 : Int) ≤ (th 11) ∧ (th 11) ≤ 9 := (b0_11 hT :); have ob12 : (0 : Int) ≤ (th 12) ∧ (th 12) ≤ 6 := (b0_12 hT :); have ob14 : (0 : Int) ≤ (th 14) ∧ (th 14) ≤ 511 := (b0_14 hT :); have ob15 : (0 : Int) ≤ (th 15) ∧ (th 15) ≤ 1 := (b0_15 hT :); have ob16 : (0 : Int) ≤ (th 16) ∧ (th 16) ≤ 20 := (b0_16 hT :); have ob17 : (0 : Int) ≤ (th 17) ∧ (th 17) ≤ 1 := (b0_17 hT :); have ob18 : (0 : Int) ≤ (th 18) ∧ (th 18) ≤ 18 := (b0_18 hT :); have ob38 : (0 : Int) ≤ x28.toInt ∧ x28.toInt ≤ 400 := (b0_38 hT :); have ob39 : (0 : Int) ≤ (th 39) ∧ (th 39) ≤ 200 := (b0_39 hT :); have ob44 : (0 : Int) ≤ (th 44) ∧ (th 44) ≤ 30 := (b0_44 hT :); have orn := rnd_b (th 10); obtain ⟨o0a, o0b⟩ := (hb36 : In _ _ _); obtain ⟨o1a, o1b⟩ := (hb11 : In _ _ _); obtain ⟨o2a, o2b⟩ := (hb12 : In _ _ _); omega)) (In.mono hb36 (by decide) (by decide)) hP hD hS (TI.cast hT (by funext q; by_cases hq0 : q = 38; (subst hq0; rfl); simp only [gset, if_neg hq0])) hfr (lv_sub hl [1, 2, 0] rfl) (msu et37 (by decide) hmz2)
  exact hJ2 ((7 - (0 : Int32).toInt).toNat + 1) (th 38) 0 _ _ _ _ (show _ from (by have ql := Int.natCast_nonneg (lenS.getD z1 0); have ob10 : (0 : Int) ≤ (th 10) ∧ (th 10) ≤ 1 := (b0_10 hT :); have ob11 : (0 : Int) ≤ (th 11) ∧ (th 11) ≤ 9 := (b0_11 hT :); have ob12 : (0 : Int) ≤ (th 12) ∧ (th 12) ≤ 6 := (b0_12 hT :); have ob14 : (0 : Int) ≤ (th 14) ∧ (th 14) ≤ 511 := (b0_14 hT :); have ob15 : (0 : Int) ≤ (th 15) ∧ (th 15) ≤ 1 := (b0_15 hT :); have ob16 : (0 : Int) ≤ (th 16) ∧ (th 16) ≤ 20 := (b0_16 hT :); have ob17 : (0 : Int) ≤ (th 17) ∧ (th 17) ≤ 1 := (b0_17 hT :); have ob18 : (0 : Int) ≤ (th 18) ∧ (th 18) ≤ 18 := (b0_18 hT :); have ob38 : (0 : Int) ≤ (th 38) ∧ (th 38) ≤ 400 := (b0_38 hT :); have ob39 : (0 : Int) ≤ (th 39) ∧ (th 39) ≤ 200 := (b0_39 hT :); have ob44 : (0 : Int) ≤ (th 44) ∧ (th 44) ≤ 30 := (b0_44 hT :); have orn := rnd_b (th 10); have oc0 : (0 : Int32).toInt = 0 := (by decide); omega)) (⟨by decide, by decide⟩ : In 0 0 7) hP hD hS (TI.cast hT (by funext q; by_cases hq0 : q = 38; (subst hq0; rfl); simp only [gset, if_neg hq0])) hfr (lv_sub hl [1, 2, 0] rfl) (msI _)

abbrev rm_X11_shown : Room := { frames := 5, cells := 0, slots := 0, locals := 107 }
abbrev po_X11_shown (g : GG) (ad : Nat → Nat) (th : Nat → Int) (L : List Nat) (f : HP) (z1 : Int32) (z2 : Int32) : Int32 → (List Nat × HP) → Prop := fun r u => u.1 = L ∧ (∃ th' : Nat → Int, (MI th' ∧ SBM th th') ∧ TI g ad th' u.2) ∧ (∀ b, b ≠ (ad 255) → b ≠ (ad 277) → u.2 b = f b)
set_option maxHeartbeats 4000000 in
set_option maxRecDepth 100000 in
theorem s_X11_shown (l : Launch) (g : GG) (ad : Nat → Nat) (th : Nat → Int) (L : List Nat) (f : HP) (sz : Nat) (z1 : Int32) (z2 : Int32) (hst : ST ad L) (hT : TI g ad th f) (hM : MI th) : MtI l g yX11_shown cX11_shown 6 (some .int) rm_X11_shown [.ref (ad 255), .int z1, .int z2] L f sz (po_X11_shown g ad th L f z1 z2) := by
  refine MtI.of (by decide +kernel) (Nat.le_of_ble_eq_true rfl) ?_
  intro p e s m below meth c A hEn hP hD hS ls hl
  obtain ⟨hx, hb, hr, hml, hown, hlocks, hts, hG, hA, hE, hnm⟩ := hEn
  have hown : s.vm.findClass "RulerWordModel" = some m.cls := hown
  have hl : lv_has ls 6 [(0, .ref (ad 255)), (1, .int z1), (2, .int z2)] := hl
  have hfr : (∀ b, b ≠ (ad 255) → b ≠ (ad 277) → f b = f b) := fun b z0_ z1_ => rfl
  have hM0 := hM
  obtain ⟨m1, m2, m3, m4, m5, m6, m7, m8, m9, m10⟩ := hM0
  have m20 := mi20 m2 m3
  have ql16 : ((lenS.getD 16 0 : Nat) : Int) = 6 := by decide
  have ql22 : ((lenS.getD 22 0 : Nat) : Int) = 7 := by decide
  have ql24 : ((lenS.getD 24 0 : Nat) : Int) = 2 := by decide
  refine lv_aload_n hx hb dX11_shown_0 rfl (lv_at hl 0 rfl) ?_
  refine lv_iconst (v := 0) hx hb dX11_shown_1 (by decide) ?_
  refine M0e hT (fun v0_1 v2_1 v3_1 v4_1 v5_1 v6_1 v8_1 v9_1 v12_1 v13_1 v14_1 v15_1 v16_1 v17_1 v18_1 v19_1 v20_1 v21_1 v22_1 v23_1 v25_1 v36_1 v37_1 v38_1 v39_1 v40_1 v45_1 v46_1 v47_1 v48_1 v50_1 v51_1 v53_1 v55_1 hf2 hv0_1 hv2_1 hg2_1 hv3_1 hg3_1 hv4_1 hg4_1 hv5_1 hg5_1 hv6_1 hg6_1 hv8_1 hg8_1 hv9_1 hg9_1 hv12_1 hv13_1 hg13_1 hv14_1 hg14_1 hv15_1 hg15_1 hv17_1 hg17_1 hv20_1 hg20_1 hv23_1 hg23_1 hv25_1 hg25_1 hv36_1 hg36_1 hv47_1 hg47_1 hv48_1 hg48_1 hv53_1 hg53_1 hv55_1 hg55_1 hrel0_1 => ?_)
  have hg15_1 : v15_1.toInt = th 11 := hg15_1
  have hg20_1 : v20_1.toInt = th 14 := hg20_1
  refine pl_put (ty := .int) (v := .int 0) (fs' := [.int 0, .ref (ad 256), .int v2_1, .int v3_1, .int v4_1, .int v5_1, .int v6_1, .ref (ad 257), .int v8_1, .int v9_1, .ref (ad 258), .ref (ad 259), .int v12_1, .int v13_1, .int v14_1, .int v15_1, .int v16_1, .int v17_1, .int v18_1, .int v19_1, .int v20_1, .long v21_1, .long v22_1, .int v23_1, .ref (ad 260), .int v25_1, .ref (ad 261), .ref (ad 262), .ref (ad 263), .ref (ad 264), .ref (ad 265), .ref (ad 266), .ref (ad 267), .ref (ad 268), .ref (ad 269), .ref (ad 270), .int v36_1, .int v37_1, .int v38_1, .int v39_1, .int v40_1, .ref (ad 271), .ref (ad 272), .ref (ad 273), .ref (ad 274), .long v45_1, .long v46_1, .int v47_1, .int v48_1, .ref (ad 275), .int v50_1, .int v51_1, .ref (ad 276), .int v53_1, .ref (ad 277), .int v55_1]) hx hb hts (fun w h => mT (inX11 w h)) tyX11 tyX11_ok nmX11 hown hG.1 hP hD hS (hst.1 255 (by decide)) hf2 rfl 0 (by decide) (hts _ (mT wg_1336)) (fun _ h => h) rfl (by decide +kernel) (rfl) (rfl) (Nat.le_of_ble_eq_true rfl) rfl dX11_shown_2 (fun H locs f3 hf4 ho5 hP hD hS => ?_)
  have hfr : (∀ b, b ≠ (ad 255) → b ≠ (ad 277) → f3 b = f b) := fun b z0_ z1_ => (ho5 b z0_).trans (hfr b z0_ z1_)
  refine lv_iload_n hx hb dX11_shown_5 rfl (lv_at hl 1 rfl) ?_
  refine lv_i2l hx hb dX11_shown_6 rfl ?_
  refine lv_lconst (v := 0) hx hb dX11_shown_7 (by decide) ?_
  refine lv_aload_n hx hb dX11_shown_8 rfl (lv_at hl 0 rfl) ?_
  have hT := TI.updM hT hst (k := 0) (by decide) hf4 ho5 ⟨0, v2_1, v3_1, v4_1, v5_1, v6_1, v8_1, v9_1, v12_1, v13_1, v14_1, v15_1, v16_1, v17_1, v18_1, v19_1, v20_1, v21_1, v22_1, v23_1, v25_1, v36_1, v37_1, v38_1, v39_1, v40_1, v45_1, v46_1, v47_1, v48_1, v50_1, v51_1, v53_1, v55_1, rfl, (⟨by decide, by decide⟩ : In 0 0 1), hv2_1, hg2_1, hv3_1, hg3_1, hv4_1, hg4_1, hv5_1, hg5_1, hv6_1, hg6_1, hv8_1, hg8_1, hv9_1, hg9_1, hv12_1, hv13_1, hg13_1, hv14_1, hg14_1, hv15_1, hg15_1, hv17_1, hg17_1, hv20_1, hg20_1, hv23_1, hg23_1, hv25_1, hg25_1, hv36_1, hg36_1, hv47_1, hg47_1, hv48_1, hg48_1, hv53_1, hg53_1, hv55_1, hg55_1, hrel0_1⟩
  refine call_i (run_V (rm := rm_X11_over) hx hb hml hown hts (s_X11_over l g ad th _ _ _  hst hT (show MI th from hM)) cV_X11_over wg_1769 ⟨Nat.le_of_ble_eq_true rfl, Nat.le_of_ble_eq_true rfl⟩ hG hE hA hP hD hS (hst.1 255 (by decide)) hf4 rfl rfl hl.1 (As := []) (rest := [.long 0, .long (z1.toInt64)]) rfl (Nat.le_of_ble_eq_true rfl) dX11_shown_9 ⟨Nat.le_of_ble_eq_true rfl, Nat.le_of_ble_eq_true rfl⟩) hA hD hS (fun r6 L7 f8 H locs hp9 hP hD hS => ?_)
  obtain ⟨eL10L, eL10T, eL10R, eL10X0⟩ := hp9
  have eL10L : L7 = L := eL10L
  have eL10T : f8 = f3 := eL10T
  rw [eL10L, eL10T] at hP hD
  have eL10R : In r6 0 6 := eL10R
  have hcl11 : r6.toInt = 0 ∨ th 15 = 1 := eL10X0
  refine lv_iconst (v := 1) hx hb dX11_shown_12 (by decide) ?_
  refine lv_isub hx hb dX11_shown_13 ?_
  refine lv_topi (fun x12 ex12 => ?_)
  have hb13 : In x12 (-1) 5 := ex12 ▸ In.sub eL10R (⟨by decide, by decide⟩ : In 1 1 1) (by decide) (by decide) (by decide) (by decide)
  have et14 : x12.toInt = r6.toInt + (-1) := In.sube ex12 eL10R (k := 1) (by decide) (by decide) (by decide)
  refine lv_i2l hx hb dX11_shown_14 rfl ?_
  refine call_i (run_S (rm := rm_X11_isIn) hx hb hml hown hts (s_X11_isIn l g ad th _ _ _ (z1.toInt64) 0 (x12.toInt64) hst hT ) cS_X11_isIn wg_1581 ⟨Nat.le_of_ble_eq_true rfl, Nat.le_of_ble_eq_true rfl⟩ hG hE hA hP hD hS rfl hl.1 (As := [.long (z1.toInt64), .long 0, .long (x12.toInt64)]) (rest := []) rfl (Nat.le_of_ble_eq_true rfl) dX11_shown_15 ⟨Nat.le_of_ble_eq_true rfl, Nat.le_of_ble_eq_true rfl⟩) hA hD hS (fun r15 L16 f17 H locs hp18 hP hD hS => ?_)
  obtain ⟨eL19L, eL19T, eL19R, eL19X0, eL19X1⟩ := hp18
  have eL19L : L16 = L := eL19L
  have eL19T : f17 = f3 := eL19T
  rw [eL19L, eL19T] at hP hD
  have eL19R : In r15 0 1 := eL19R
  have hii20 : r15.toInt = 0 ∨ (0 ≤ z1.toInt ∧ z1.toInt ≤ x12.toInt) := by have z := eL19X0; rw [i2l_t z1, (by decide : (0 : Int64).toInt = 0), i2l_t x12] at z; exact z
  have hii20w : ¬ r15 = 0 → In z1 0 5 := fun c => by have c2 := i32_ne c; have e0 : (0 : Int32).toInt = 0 := (by decide); obtain ⟨o1, p1⟩ := (hb13 : In _ _ _); exact ⟨by omega, by omega⟩
  refine lv_if_ne (tgt := 23) hx hb dX11_shown_18 (by decide) (fun c21 => ?_) (fun c21 => ?_)
  ·
    have oc0 : (0 : Int32).toInt = 0 := by decide
    have cc22 : r15.toInt ≠ (0 : Int32).toInt := i32_ne c21
    have hb23 : In r15 1 1 := In.ne1 eL19R (⟨by decide, by decide⟩ : In 0 0 0) cc22 (by decide) (by decide)
    have hb24 : In z1 0 5 := In.both (hii20w c21) (In.full z1) (by decide) (by decide)
    refine lv_iload_n hx hb dX11_shown_23 rfl (lv_at hl 1 rfl) ?_
    refine lv_aload_n hx hb dX11_shown_24 rfl (lv_at hl 0 rfl) ?_
    refine pl_get (v := .int v15_1) hx hb hts (fun w h => mT (inX11 w h)) hown hG.1 hP (hst.1 255 (by decide)) hf4 rfl 15 (by decide) (hts _ (mT wg_1351)) (fun _ h => h) rfl dX11_shown_25 ?_
    have hb25 : In v15_1 1 9 := In.mk (by have ob10 : (0 : Int) ≤ (th 10) ∧ (th 10) ≤ 1 := (b0_10 hT :); have ob11 : (0 : Int) ≤ (th 11) ∧ (th 11) ≤ 9 := (b0_11 hT :); have ob12 : (0 : Int) ≤ (th 12) ∧ (th 12) ≤ 6 := (b0_12 hT :); have ob14 : (0 : Int) ≤ (th 14) ∧ (th 14) ≤ 511 := (b0_14 hT :); have ob15 : (0 : Int) ≤ (th 15) ∧ (th 15) ≤ 1 := (b0_15 hT :); have ob16 : (0 : Int) ≤ (th 16) ∧ (th 16) ≤ 20 := (b0_16 hT :); have ob17 : (0 : Int) ≤ (th 17) ∧ (th 17) ≤ 1 := (b0_17 hT :); have ob18 : (0 : Int) ≤ (th 18) ∧ (th 18) ≤ 18 := (b0_18 hT :); have ob38 : (0 : Int) ≤ (th 38) ∧ (th 38) ≤ 400 := (b0_38 hT :); have ob39 : (0 : Int) ≤ (th 39) ∧ (th 39) ≤ 200 := (b0_39 hT :); have ob44 : (0 : Int) ≤ (th 44) ∧ (th 44) ≤ 30 := (b0_44 hT :); have orn := rnd_b (th 10); obtain ⟨o0a, o0b⟩ := (hv15_1 : In _ _ _); obtain ⟨o1a, o1b⟩ := (hv14_1 : In _ _ _); obtain ⟨o2a, o2b⟩ := (hv17_1 : In _ _ _); obtain ⟨o3a, o3b⟩ := (hv20_1 : In _ _ _); obtain ⟨o4a, o4b⟩ := (hv23_1 : In _ _ _); obtain ⟨o5a, o5b⟩ := (hv25_1 : In _ _ _); obtain ⟨o6a, o6b⟩ := (hv36_1 : In _ _ _); obtain ⟨o7a, o7b⟩ := (hv47_1 : In _ _ _); obtain ⟨o8a, o8b⟩ := (hv48_1 : In _ _ _); obtain ⟨o9a, o9b⟩ := (hv53_1 : In _ _ _); obtain ⟨o10a, o10b⟩ := (hv55_1 : In _ _ _); omega) (by have ob10 : (0 : Int) ≤ (th 10) ∧ (th 10) ≤ 1 := (b0_10 hT :); have ob11 : (0 : Int) ≤ (th 11) ∧ (th 11) ≤ 9 := (b0_11 hT :); have ob12 : (0 : Int) ≤ (th 12) ∧ (th 12) ≤ 6 := (b0_12 hT :); have ob14 : (0 : Int) ≤ (th 14) ∧ (th 14) ≤ 511 := (b0_14 hT :); have ob15 : (0 : Int) ≤ (th 15) ∧ (th 15) ≤ 1 := (b0_15 hT :); have ob16 : (0 : Int) ≤ (th 16) ∧ (th 16) ≤ 20 := (b0_16 hT :); have ob17 : (0 : Int) ≤ (th 17) ∧ (th 17) ≤ 1 := (b0_17 hT :); have ob18 : (0 : Int) ≤ (th 18) ∧ (th 18) ≤ 18 := (b0_18 hT :); have ob38 : (0 : Int) ≤ (th 38) ∧ (th 38) ≤ 400 := (b0_38 hT :); have ob39 : (0 : Int) ≤ (th 39) ∧ (th 39) ≤ 200 := (b0_39 hT :); have ob44 : (0 : Int) ≤ (th 44) ∧ (th 44) ≤ 30 := (b0_44 hT :); have orn := rnd_b (th 10); obtain ⟨o0a, o0b⟩ := (hv15_1 : In _ _ _); obtain ⟨o1a, o1b⟩ := (hv14_1 : In _ _ _); obtain ⟨o2a, o2b⟩ := (hv17_1 : In _ _ _); obtain ⟨o3a, o3b⟩ := (hv20_1 : In _ _ _); obtain ⟨o4a, o4b⟩ := (hv23_1 : In _ _ _); obtain ⟨o5a, o5b⟩ := (hv25_1 : In _ _ _); obtain ⟨o6a, o6b⟩ := (hv36_1 : In _ _ _); obtain ⟨o7a, o7b⟩ := (hv47_1 : In _ _ _); obtain ⟨o8a, o8b⟩ := (hv48_1 : In _ _ _); obtain ⟨o9a, o9b⟩ := (hv53_1 : In _ _ _); obtain ⟨o10a, o10b⟩ := (hv55_1 : In _ _ _); omega)
    refine lv_irem hx hb dX11_shown_28 (In.ne0 hb25 (by decide)) ?_
    refine lv_topi (fun x26 ex26 => ?_)
    have hb27 : In x26 0 5 := ex26 ▸ In.rem hb24 hb25 (by decide) (by decide) (by decide)
    refine lv_istore_n (lv' := [(3, .int x26), (0, .ref (ad 255)), (1, .int z1), (2, .int z2)]) hx hb dX11_shown_29 rfl hl (by decide) rfl (fun ls hl => ?_)
    refine lv_aload_n hx hb dX11_shown_30 rfl (lv_at hl 1 rfl) ?_
    refine lv_iconst (v := 0) hx hb dX11_shown_31 (by decide) ?_
    refine pl_put (ty := .int) (v := .int 0) (fs' := [.int 0, .ref (ad 256), .int v2_1, .int v3_1, .int v4_1, .int v5_1, .int v6_1, .ref (ad 257), .int v8_1, .int v9_1, .ref (ad 258), .ref (ad 259), .int v12_1, .int v13_1, .int v14_1, .int v15_1, .int v16_1, .int v17_1, .int v18_1, .int v19_1, .int v20_1, .long v21_1, .long v22_1, .int v23_1, .ref (ad 260), .int v25_1, .ref (ad 261), .ref (ad 262), .ref (ad 263), .ref (ad 264), .ref (ad 265), .ref (ad 266), .ref (ad 267), .ref (ad 268), .ref (ad 269), .ref (ad 270), .int v36_1, .int v37_1, .int v38_1, .int v39_1, .int v40_1, .ref (ad 271), .ref (ad 272), .ref (ad 273), .ref (ad 274), .long v45_1, .long v46_1, .int v47_1, .int v48_1, .ref (ad 275), .int v50_1, .int v51_1, .ref (ad 276), .int v53_1, .ref (ad 277), .int 0]) hx hb hts (fun w h => mT (inX11 w h)) tyX11 tyX11_ok nmX11 hown hG.1 hP hD hS (hst.1 255 (by decide)) hf4 rfl 55 (by decide) (hts _ (mT wg_1391)) (fun _ h => h) rfl (by decide +kernel) (rfl) (rfl) (Nat.le_of_ble_eq_true rfl) rfl dX11_shown_32 (fun H locs f28 hf29 ho30 hP hD hS => ?_)
    have hfr : (∀ b, b ≠ (ad 255) → b ≠ (ad 277) → f28 b = f b) := fun b z0_ z1_ => (ho30 b z0_).trans (hfr b z0_ z1_)
    refine lv_aload_n hx hb dX11_shown_35 rfl (lv_at hl 1 rfl) ?_
    refine va_ldcSw hx hb hown (hG.2.2.1 ("RulerWordModel", 423, "phase ", 16) (by decide +kernel)) dX11_shown_36 ?_
    have hT := TI.updMG (th' := (gset th 39 (0))) hT hst (k := 0) (by decide) hf29 ho30 ⟨0, v2_1, v3_1, v4_1, v5_1, v6_1, v8_1, v9_1, v12_1, v13_1, v14_1, v15_1, v16_1, v17_1, v18_1, v19_1, v20_1, v21_1, v22_1, v23_1, v25_1, v36_1, v37_1, v38_1, v39_1, v40_1, v45_1, v46_1, v47_1, v48_1, v50_1, v51_1, v53_1, 0, rfl, (⟨by decide, by decide⟩ : In 0 0 1), hv2_1, hg2_1, hv3_1, hg3_1, hv4_1, hg4_1, hv5_1, hg5_1, hv6_1, hg6_1, hv8_1, hg8_1, hv9_1, hg9_1, hv12_1, hv13_1, hg13_1, hv14_1, hg14_1, (In.mono hb25 (by decide) (by decide)), hg15_1, hv17_1, hg17_1, hv20_1, hg20_1, hv23_1, hg23_1, hv25_1, hg25_1, hv36_1, hg36_1, hv47_1, hg47_1, hv48_1, hg48_1, hv53_1, hg53_1, (⟨by decide, by decide⟩ : In 0 0 200), (show (0 : Int32).toInt = 0 by decide), hrel0_1⟩ (fun q hq => ((gset_ne (fun e => hq (by subst e; decide))).trans rfl))
    have hT : TI g ad (gset th 39 0) f28 := TI.cast hT (by funext q; by_cases hq0 : q = 39; (subst hq0; rfl); simp only [gset, if_neg hq0])
    refine M0e hT (fun v0_31 v2_31 v3_31 v4_31 v5_31 v6_31 v8_31 v9_31 v12_31 v13_31 v14_31 v15_31 v16_31 v17_31 v18_31 v19_31 v20_31 v21_31 v22_31 v23_31 v25_31 v36_31 v37_31 v38_31 v39_31 v40_31 v45_31 v46_31 v47_31 v48_31 v50_31 v51_31 v53_31 v55_31 hf32 hv0_31 hv2_31 hg2_31 hv3_31 hg3_31 hv4_31 hg4_31 hv5_31 hg5_31 hv6_31 hg6_31 hv8_31 hg8_31 hv9_31 hg9_31 hv12_31 hv13_31 hg13_31 hv14_31 hg14_31 hv15_31 hg15_31 hv17_31 hg17_31 hv20_31 hg20_31 hv23_31 hg23_31 hv25_31 hg25_31 hv36_31 hg36_31 hv47_31 hg47_31 hv48_31 hg48_31 hv53_31 hg53_31 hv55_31 hg55_31 hrel0_31 => ?_)
    have hg15_31 : v15_31.toInt = th 11 := hg15_31
    have hg20_31 : v20_31.toInt = th 14 := hg20_31
    refine call_v (run_V (rm := rm_X11_showsWord) hx hb hml hown hts (s_X11_showsWord l g ad (gset th 39 0) _ _ _ 16 hst hT (by decide) (show 0 + ((lenS.getD 16 0 : Nat) : Int) ≤ 200 by have ql : (lenS.getD 16 0 : Nat) = 6 := (by decide); omega)) cV_X11_showsWord wg_1925 ⟨Nat.le_of_ble_eq_true rfl, Nat.le_of_ble_eq_true rfl⟩ hG hE hA hP hD hS (hst.1 255 (by decide)) hf32 rfl rfl hl.1 (As := [.ref (g.2.2.1 16)]) (rest := []) rfl (Nat.le_of_ble_eq_true rfl) dX11_shown_39 ⟨Nat.le_of_ble_eq_true rfl, Nat.le_of_ble_eq_true rfl⟩) hA hD hS (fun L34 f35 H locs hp36 hP hD hS => ?_)
    obtain ⟨eL37L, eL37T, eL37F⟩ := hp36
    have eL37L : L34 = L := eL37L
    rw [eL37L] at hP hD
    obtain ⟨zz38, hzz38, eL37T⟩ := eL37T
    have hT : TI g ad (gset (gset th 39 0) 39 zz38) f35 := eL37T
    have hT : TI g ad (gset th 39 zz38) f35 := TI.cast hT (by funext q; by_cases hq0 : q = 39; (subst hq0; rfl); simp only [gset, if_neg hq0])
    have eL37F : ∀ b, b ≠ (ad 255) → b ≠ (ad 277) → f35 b = f28 b := eL37F
    have hfr : (∀ b, b ≠ (ad 255) → b ≠ (ad 277) → f35 b = f b) := fun b z0_ z1_ => (eL37F b z0_ z1_).trans (hfr b z0_ z1_)
    refine lv_aload_n hx hb dX11_shown_42 rfl (lv_at hl 1 rfl) ?_
    refine lv_bipush (v := 48) hx hb dX11_shown_43 (by decide) ?_
    refine lv_iload_n hx hb dX11_shown_45 rfl (lv_at hl 2 rfl) ?_
    refine lv_iadd hx hb dX11_shown_46 ?_
    refine lv_topi (fun x39 ex39 => ?_)
    have hb40 : In x39 48 53 := ex39 ▸ In.add (⟨by decide, by decide⟩ : In 48 48 48) hb24 (by decide) (by decide) (by decide) (by decide)
    have et41 : x39.toInt = (48 : Int32).toInt + z1.toInt := In.add2e ex39 (⟨by decide, by decide⟩ : In 48 48 48) hb24 (by decide) (by decide)
    refine M0e hT (fun v0_42 v2_42 v3_42 v4_42 v5_42 v6_42 v8_42 v9_42 v12_42 v13_42 v14_42 v15_42 v16_42 v17_42 v18_42 v19_42 v20_42 v21_42 v22_42 v23_42 v25_42 v36_42 v37_42 v38_42 v39_42 v40_42 v45_42 v46_42 v47_42 v48_42 v50_42 v51_42 v53_42 v55_42 hf43 hv0_42 hv2_42 hg2_42 hv3_42 hg3_42 hv4_42 hg4_42 hv5_42 hg5_42 hv6_42 hg6_42 hv8_42 hg8_42 hv9_42 hg9_42 hv12_42 hv13_42 hg13_42 hv14_42 hg14_42 hv15_42 hg15_42 hv17_42 hg17_42 hv20_42 hg20_42 hv23_42 hg23_42 hv25_42 hg25_42 hv36_42 hg36_42 hv47_42 hg47_42 hv48_42 hg48_42 hv53_42 hg53_42 hv55_42 hg55_42 hrel0_42 => ?_)
    have hg15_42 : v15_42.toInt = th 11 := hg15_42
    have hg20_42 : v20_42.toInt = th 14 := hg20_42
    refine call_v (run_V (rm := rm_X11_shows) hx hb hml hown hts (s_X11_shows l g ad (gset th 39 zz38) _ _ _ x39 hst hT (show zz38 < 200 from (by have ob10 : (0 : Int) ≤ (th 10) ∧ (th 10) ≤ 1 := (b0_10 hT :); have ob11 : (0 : Int) ≤ (th 11) ∧ (th 11) ≤ 9 := (b0_11 hT :); have ob12 : (0 : Int) ≤ (th 12) ∧ (th 12) ≤ 6 := (b0_12 hT :); have ob14 : (0 : Int) ≤ (th 14) ∧ (th 14) ≤ 511 := (b0_14 hT :); have ob15 : (0 : Int) ≤ (th 15) ∧ (th 15) ≤ 1 := (b0_15 hT :); have ob16 : (0 : Int) ≤ (th 16) ∧ (th 16) ≤ 20 := (b0_16 hT :); have ob17 : (0 : Int) ≤ (th 17) ∧ (th 17) ≤ 1 := (b0_17 hT :); have ob18 : (0 : Int) ≤ (th 18) ∧ (th 18) ≤ 18 := (b0_18 hT :); have ob38 : (0 : Int) ≤ (th 38) ∧ (th 38) ≤ 400 := (b0_38 hT :); have ob39 : (0 : Int) ≤ zz38 ∧ zz38 ≤ 200 := (b0_39 hT :); have ob44 : (0 : Int) ≤ (th 44) ∧ (th 44) ≤ 30 := (b0_44 hT :); have orn := rnd_b (th 10); obtain ⟨o0a, o0b⟩ := (hv14_42 : In _ _ _); obtain ⟨o1a, o1b⟩ := (hv15_42 : In _ _ _); obtain ⟨o2a, o2b⟩ := (hv17_42 : In _ _ _); obtain ⟨o3a, o3b⟩ := (hv20_42 : In _ _ _); obtain ⟨o4a, o4b⟩ := (hv23_42 : In _ _ _); obtain ⟨o5a, o5b⟩ := (hv25_42 : In _ _ _); obtain ⟨o6a, o6b⟩ := (hv36_42 : In _ _ _); obtain ⟨o7a, o7b⟩ := (hv47_42 : In _ _ _); obtain ⟨o8a, o8b⟩ := (hv48_42 : In _ _ _); obtain ⟨o9a, o9b⟩ := (hv53_42 : In _ _ _); obtain ⟨o10a, o10b⟩ := (hv55_42 : In _ _ _); omega))) cV_X11_shows wg_1929 ⟨Nat.le_of_ble_eq_true rfl, Nat.le_of_ble_eq_true rfl⟩ hG hE hA hP hD hS (hst.1 255 (by decide)) hf43 rfl rfl hl.1 (As := [.int x39]) (rest := []) rfl (Nat.le_of_ble_eq_true rfl) dX11_shown_47 ⟨Nat.le_of_ble_eq_true rfl, Nat.le_of_ble_eq_true rfl⟩) hA hD hS (fun L45 f46 H locs hp47 hP hD hS => ?_)
    obtain ⟨eL48L, eL48T, eL48F⟩ := hp47
    have eL48L : L45 = L := eL48L
    rw [eL48L] at hP hD
    obtain ⟨zz49, hzz49, eL48T⟩ := eL48T
    have hzz49 : zz49 = zz38 + 1 := hzz49
    have hT : TI g ad (gset (gset th 39 zz38) 39 zz49) f46 := eL48T
    have hT : TI g ad (gset th 39 zz49) f46 := TI.cast hT (by funext q; by_cases hq0 : q = 39; (subst hq0; rfl); simp only [gset, if_neg hq0])
    have eL48F : ∀ b, b ≠ (ad 255) → b ≠ (ad 277) → f46 b = f35 b := eL48F
    have hfr : (∀ b, b ≠ (ad 255) → b ≠ (ad 277) → f46 b = f b) := fun b z0_ z1_ => (eL48F b z0_ z1_).trans (hfr b z0_ z1_)
    refine lv_aload_n hx hb dX11_shown_50 rfl (lv_at hl 1 rfl) ?_
    refine va_ldcSw hx hb hown (hG.2.2.1 ("RulerWordModel", 456, " ruler ", 22) (by decide +kernel)) dX11_shown_51 ?_
    refine M0e hT (fun v0_50 v2_50 v3_50 v4_50 v5_50 v6_50 v8_50 v9_50 v12_50 v13_50 v14_50 v15_50 v16_50 v17_50 v18_50 v19_50 v20_50 v21_50 v22_50 v23_50 v25_50 v36_50 v37_50 v38_50 v39_50 v40_50 v45_50 v46_50 v47_50 v48_50 v50_50 v51_50 v53_50 v55_50 hf51 hv0_50 hv2_50 hg2_50 hv3_50 hg3_50 hv4_50 hg4_50 hv5_50 hg5_50 hv6_50 hg6_50 hv8_50 hg8_50 hv9_50 hg9_50 hv12_50 hv13_50 hg13_50 hv14_50 hg14_50 hv15_50 hg15_50 hv17_50 hg17_50 hv20_50 hg20_50 hv23_50 hg23_50 hv25_50 hg25_50 hv36_50 hg36_50 hv47_50 hg47_50 hv48_50 hg48_50 hv53_50 hg53_50 hv55_50 hg55_50 hrel0_50 => ?_)
    have hg15_50 : v15_50.toInt = th 11 := hg15_50
    have hg20_50 : v20_50.toInt = th 14 := hg20_50
    refine call_v (run_V (rm := rm_X11_showsWord) hx hb hml hown hts (s_X11_showsWord l g ad (gset th 39 zz49) _ _ _ 22 hst hT (by decide) (show zz49 + ((lenS.getD 22 0 : Nat) : Int) ≤ 200 by have ql : (lenS.getD 22 0 : Nat) = 7 := (by decide); omega)) cV_X11_showsWord wg_1925 ⟨Nat.le_of_ble_eq_true rfl, Nat.le_of_ble_eq_true rfl⟩ hG hE hA hP hD hS (hst.1 255 (by decide)) hf51 rfl rfl hl.1 (As := [.ref (g.2.2.1 22)]) (rest := []) rfl (Nat.le_of_ble_eq_true rfl) dX11_shown_54 ⟨Nat.le_of_ble_eq_true rfl, Nat.le_of_ble_eq_true rfl⟩) hA hD hS (fun L53 f54 H locs hp55 hP hD hS => ?_)
    obtain ⟨eL56L, eL56T, eL56F⟩ := hp55
    have eL56L : L53 = L := eL56L
    rw [eL56L] at hP hD
    obtain ⟨zz57, hzz57, eL56T⟩ := eL56T
    have hT : TI g ad (gset (gset th 39 zz49) 39 zz57) f54 := eL56T
    have hT : TI g ad (gset th 39 zz57) f54 := TI.cast hT (by funext q; by_cases hq0 : q = 39; (subst hq0; rfl); simp only [gset, if_neg hq0])
    have eL56F : ∀ b, b ≠ (ad 255) → b ≠ (ad 277) → f54 b = f46 b := eL56F
    have hfr : (∀ b, b ≠ (ad 255) → b ≠ (ad 277) → f54 b = f b) := fun b z0_ z1_ => (eL56F b z0_ z1_).trans (hfr b z0_ z1_)
    refine lv_aload_n hx hb dX11_shown_57 rfl (lv_at hl 1 rfl) ?_
    refine lv_bipush (v := 48) hx hb dX11_shown_58 (by decide) ?_
    refine lv_iload_n hx hb dX11_shown_60 rfl (lv_at hl 0 rfl) ?_
    refine lv_iadd hx hb dX11_shown_61 ?_
    refine lv_topi (fun x58 ex58 => ?_)
    have hb59 : In x58 48 53 := ex58 ▸ In.add (⟨by decide, by decide⟩ : In 48 48 48) hb27 (by decide) (by decide) (by decide) (by decide)
    have et60 : x58.toInt = (48 : Int32).toInt + x26.toInt := In.add2e ex58 (⟨by decide, by decide⟩ : In 48 48 48) hb27 (by decide) (by decide)
    refine M0e hT (fun v0_61 v2_61 v3_61 v4_61 v5_61 v6_61 v8_61 v9_61 v12_61 v13_61 v14_61 v15_61 v16_61 v17_61 v18_61 v19_61 v20_61 v21_61 v22_61 v23_61 v25_61 v36_61 v37_61 v38_61 v39_61 v40_61 v45_61 v46_61 v47_61 v48_61 v50_61 v51_61 v53_61 v55_61 hf62 hv0_61 hv2_61 hg2_61 hv3_61 hg3_61 hv4_61 hg4_61 hv5_61 hg5_61 hv6_61 hg6_61 hv8_61 hg8_61 hv9_61 hg9_61 hv12_61 hv13_61 hg13_61 hv14_61 hg14_61 hv15_61 hg15_61 hv17_61 hg17_61 hv20_61 hg20_61 hv23_61 hg23_61 hv25_61 hg25_61 hv36_61 hg36_61 hv47_61 hg47_61 hv48_61 hg48_61 hv53_61 hg53_61 hv55_61 hg55_61 hrel0_61 => ?_)
    have hg15_61 : v15_61.toInt = th 11 := hg15_61
    have hg20_61 : v20_61.toInt = th 14 := hg20_61
    refine call_v (run_V (rm := rm_X11_shows) hx hb hml hown hts (s_X11_shows l g ad (gset th 39 zz57) _ _ _ x58 hst hT (show zz57 < 200 from (by have ob10 : (0 : Int) ≤ (th 10) ∧ (th 10) ≤ 1 := (b0_10 hT :); have ob11 : (0 : Int) ≤ (th 11) ∧ (th 11) ≤ 9 := (b0_11 hT :); have ob12 : (0 : Int) ≤ (th 12) ∧ (th 12) ≤ 6 := (b0_12 hT :); have ob14 : (0 : Int) ≤ (th 14) ∧ (th 14) ≤ 511 := (b0_14 hT :); have ob15 : (0 : Int) ≤ (th 15) ∧ (th 15) ≤ 1 := (b0_15 hT :); have ob16 : (0 : Int) ≤ (th 16) ∧ (th 16) ≤ 20 := (b0_16 hT :); have ob17 : (0 : Int) ≤ (th 17) ∧ (th 17) ≤ 1 := (b0_17 hT :); have ob18 : (0 : Int) ≤ (th 18) ∧ (th 18) ≤ 18 := (b0_18 hT :); have ob38 : (0 : Int) ≤ (th 38) ∧ (th 38) ≤ 400 := (b0_38 hT :); have ob39 : (0 : Int) ≤ zz57 ∧ zz57 ≤ 200 := (b0_39 hT :); have ob44 : (0 : Int) ≤ (th 44) ∧ (th 44) ≤ 30 := (b0_44 hT :); have orn := rnd_b (th 10); obtain ⟨o0a, o0b⟩ := (hv14_61 : In _ _ _); obtain ⟨o1a, o1b⟩ := (hv15_61 : In _ _ _); obtain ⟨o2a, o2b⟩ := (hv17_61 : In _ _ _); obtain ⟨o3a, o3b⟩ := (hv20_61 : In _ _ _); obtain ⟨o4a, o4b⟩ := (hv23_61 : In _ _ _); obtain ⟨o5a, o5b⟩ := (hv25_61 : In _ _ _); obtain ⟨o6a, o6b⟩ := (hv36_61 : In _ _ _); obtain ⟨o7a, o7b⟩ := (hv47_61 : In _ _ _); obtain ⟨o8a, o8b⟩ := (hv48_61 : In _ _ _); obtain ⟨o9a, o9b⟩ := (hv53_61 : In _ _ _); obtain ⟨o10a, o10b⟩ := (hv55_61 : In _ _ _); omega))) cV_X11_shows wg_1929 ⟨Nat.le_of_ble_eq_true rfl, Nat.le_of_ble_eq_true rfl⟩ hG hE hA hP hD hS (hst.1 255 (by decide)) hf62 rfl rfl hl.1 (As := [.int x58]) (rest := []) rfl (Nat.le_of_ble_eq_true rfl) dX11_shown_62 ⟨Nat.le_of_ble_eq_true rfl, Nat.le_of_ble_eq_true rfl⟩) hA hD hS (fun L64 f65 H locs hp66 hP hD hS => ?_)
    obtain ⟨eL67L, eL67T, eL67F⟩ := hp66
    have eL67L : L64 = L := eL67L
    rw [eL67L] at hP hD
    obtain ⟨zz68, hzz68, eL67T⟩ := eL67T
    have hzz68 : zz68 = zz57 + 1 := hzz68
    have hT : TI g ad (gset (gset th 39 zz57) 39 zz68) f65 := eL67T
    have hT : TI g ad (gset th 39 zz68) f65 := TI.cast hT (by funext q; by_cases hq0 : q = 39; (subst hq0; rfl); simp only [gset, if_neg hq0])
    have eL67F : ∀ b, b ≠ (ad 255) → b ≠ (ad 277) → f65 b = f54 b := eL67F
    have hfr : (∀ b, b ≠ (ad 255) → b ≠ (ad 277) → f65 b = f b) := fun b z0_ z1_ => (eL67F b z0_ z1_).trans (hfr b z0_ z1_)
    refine lv_iconst (v := 0) hx hb dX11_shown_65 (by decide) ?_
    refine lv_istore (lv' := [(4, .int 0), (3, .int x26), (0, .ref (ad 255)), (1, .int z1), (2, .int z2)]) hx hb dX11_shown_66 hl (by decide) rfl (fun ls hl => ?_)
    have hJ68 : ∀ (k68 : Nat) (zg68_zs : Int) (y68_l4 : Int32) (f_68 : HP) (H : Heap) (locs : List Loc) (ls : Array Slot), (0 ≤ zg68_zs ∧ zg68_zs ≤ 15 + 9 * y68_l4.toInt + 0) → In y68_l4 0 9 → va_P g.1 vwCl (va_pl L f_68) H → va_D A (va_pl L f_68) → va_S A s.heap H locs → TI g ad (gset th 39 zg68_zs) f_68 → (∀ b, b ≠ (ad 255) → b ≠ (ad 277) → f_68 b = f b) → lv_has ls 6 [(0, .ref (ad 255)), (1, .int z1), (2, .int z2), (3, .int x26), (4, .int y68_l4)] → 9 - y68_l4.toInt < ((k68 : Nat) : Int) → W p l e rm_X11_shown s m [.ref (ad 255), .int z1, .int z2].toArray below meth c H locs 0 0 (MQ below (va_Qi (po_X11_shown g ad th L f z1 z2) (PstB g A) A) [.ref (ad 255), .int z1, .int z2].toArray s rm_X11_shown.cells rm_X11_shown.slots A) (F0 m 68 ls []) := by
      intro k68
      induction k68 with
      | zero =>
        intro zg68_zs y68_l4 f_68 H locs ls hzg68 hy68_l4 hP hD hS hT hfr hl hmz68
        exact ms0 hy68_l4 hmz68
      | succ k68 ih68 =>
        intro zg68_zs y68_l4 f_68 H locs ls hzg68 hy68_l4 hP hD hS hT hfr hl hmz68
        refine lv_iload hx hb dX11_shown_68 (lv_at hl 4 rfl) ?_
        refine lv_aload_n hx hb dX11_shown_70 rfl (lv_at hl 0 rfl) ?_
        refine M0e hT (fun v0_69 v2_69 v3_69 v4_69 v5_69 v6_69 v8_69 v9_69 v12_69 v13_69 v14_69 v15_69 v16_69 v17_69 v18_69 v19_69 v20_69 v21_69 v22_69 v23_69 v25_69 v36_69 v37_69 v38_69 v39_69 v40_69 v45_69 v46_69 v47_69 v48_69 v50_69 v51_69 v53_69 v55_69 hf70 hv0_69 hv2_69 hg2_69 hv3_69 hg3_69 hv4_69 hg4_69 hv5_69 hg5_69 hv6_69 hg6_69 hv8_69 hg8_69 hv9_69 hg9_69 hv12_69 hv13_69 hg13_69 hv14_69 hg14_69 hv15_69 hg15_69 hv17_69 hg17_69 hv20_69 hg20_69 hv23_69 hg23_69 hv25_69 hg25_69 hv36_69 hg36_69 hv47_69 hg47_69 hv48_69 hg48_69 hv53_69 hg53_69 hv55_69 hg55_69 hrel0_69 => ?_)
        have hg15_69 : v15_69.toInt = th 11 := hg15_69
        have hg20_69 : v20_69.toInt = th 14 := hg20_69
        refine pl_get (v := .int v15_69) hx hb hts (fun w h => mT (inX11 w h)) hown hG.1 hP (hst.1 255 (by decide)) hf70 rfl 15 (by decide) (hts _ (mT wg_1351)) (fun _ h => h) rfl dX11_shown_71 ?_
        refine lv_icmp_ge (tgt := 204) hx hb dX11_shown_74 (by decide) (fun c71 => ?_) (fun c71 => ?_)
        ·
          have cc72 : v15_69.toInt ≤ y68_l4.toInt := i32_le.mp c71
          refine lv_iload_n hx hb dX11_shown_204 rfl (lv_at hl 2 rfl) ?_
          refine lv_iconst (v := (-1)) hx hb dX11_shown_205 (by decide) ?_
          refine lv_icmp_ne (tgt := 216) hx hb dX11_shown_206 (by decide) (fun c73 => ?_) (fun c73 => ?_)
          ·
            have ocm1 : ((-1) : Int32).toInt = (-1) := by decide
            have cc74 : z2.toInt ≠ ((-1) : Int32).toInt := i32_ne c73
            refine lv_iload_n hx hb dX11_shown_216 rfl (lv_at hl 2 rfl) ?_
            refine lv_i2l hx hb dX11_shown_217 rfl ?_
            refine lv_lconst (v := 0) hx hb dX11_shown_218 (by decide) ?_
            refine lv_aload_n hx hb dX11_shown_219 rfl (lv_at hl 0 rfl) ?_
            refine pl_get (v := .int v55_69) hx hb hts (fun w h => mT (inX11 w h)) hown hG.1 hP (hst.1 255 (by decide)) hf70 rfl 55 (by decide) (hts _ (mT wg_1391)) (fun _ h => h) rfl dX11_shown_220 ?_
            have hg55_69 : v55_69.toInt = zg68_zs := hg55_69
            refine lv_iconst (v := 1) hx hb dX11_shown_223 (by decide) ?_
            refine lv_isub hx hb dX11_shown_224 ?_
            refine lv_topi (fun x75 ex75 => ?_)
            have hb76 : In x75 (-1) 199 := ex75 ▸ In.sub hv55_69 (⟨by decide, by decide⟩ : In 1 1 1) (by decide) (by decide) (by decide) (by decide)
            have et77 : x75.toInt = v55_69.toInt + (-1) := In.sube ex75 hv55_69 (k := 1) (by decide) (by decide) (by decide)
            refine lv_i2l hx hb dX11_shown_225 rfl ?_
            refine call_i (run_S (rm := rm_X11_isIn) hx hb hml hown hts (s_X11_isIn l g ad (gset th 39 zg68_zs) _ _ _ (z2.toInt64) 0 (x75.toInt64) hst hT ) cS_X11_isIn wg_1581 ⟨Nat.le_of_ble_eq_true rfl, Nat.le_of_ble_eq_true rfl⟩ hG hE hA hP hD hS rfl hl.1 (As := [.long (z2.toInt64), .long 0, .long (x75.toInt64)]) (rest := []) rfl (Nat.le_of_ble_eq_true rfl) dX11_shown_226 ⟨Nat.le_of_ble_eq_true rfl, Nat.le_of_ble_eq_true rfl⟩) hA hD hS (fun r78 L79 f80 H locs hp81 hP hD hS => ?_)
            obtain ⟨eL82L, eL82T, eL82R, eL82X0, eL82X1⟩ := hp81
            have eL82L : L79 = L := eL82L
            have eL82T : f80 = f_68 := eL82T
            rw [eL82L, eL82T] at hP hD
            have eL82R : In r78 0 1 := eL82R
            have hii83 : r78.toInt = 0 ∨ (0 ≤ z2.toInt ∧ z2.toInt ≤ x75.toInt) := by have z := eL82X0; rw [i2l_t z2, (by decide : (0 : Int64).toInt = 0), i2l_t x75] at z; exact z
            have hii83w : ¬ r78 = 0 → In z2 0 199 := fun c => by have c2 := i32_ne c; have e0 : (0 : Int32).toInt = 0 := (by decide); obtain ⟨o1, p1⟩ := (hb76 : In _ _ _); exact ⟨by omega, by omega⟩
            refine lv_if_eq (tgt := 241) hx hb dX11_shown_229 (by decide) (fun c84 => ?_) (fun c84 => ?_)
            ·
              have oc0 : (0 : Int32).toInt = 0 := by decide
              have cc85 : r78.toInt = (0 : Int32).toInt := congrArg Int32.toInt c84
              have hb86 : In r78 0 0 := In.eq1 eL82R (⟨by decide, by decide⟩ : In 0 0 0) cc85 (by decide) (by decide)
              refine lv_iconst (v := (-1)) hx hb dX11_shown_241 (by decide) ?_
              exact ret_i (ty := .int) hx hb hr hlocks (rfl) hP hD hS (Nat.le_of_ble_eq_true rfl) (Nat.le_of_ble_eq_true rfl) (⟨rfl, ⟨(gset th 39 zg68_zs), ⟨(show MI (gset th 39 zg68_zs) from ⟨m1, m2, (show th 20 = (th 12) * rnd (th 10) from m3), m4, m5, m6, m7, m8, m9, m10⟩), (SBM.set (k := 39) (SBM.rf th) (by decide))⟩, hT⟩, hfr⟩) dX11_shown_242
            ·
              have oc0 : (0 : Int32).toInt = 0 := by decide
              have cc87 : r78.toInt ≠ (0 : Int32).toInt := i32_ne c84
              have hb88 : In r78 1 1 := In.ne1 eL82R (⟨by decide, by decide⟩ : In 0 0 0) cc87 (by decide) (by decide)
              have hb89 : In z2 0 199 := In.both (hii83w c84) (In.full z2) (by decide) (by decide)
              refine lv_aload_n hx hb dX11_shown_232 rfl (lv_at hl 0 rfl) ?_
              refine pl_get (v := .ref (ad 277)) hx hb hts (fun w h => mT (inX11 w h)) hown hG.1 hP (hst.1 255 (by decide)) hf70 rfl 54 (by decide) (hts _ (mT wg_1390)) (fun _ h => h) rfl dX11_shown_233 ?_
              refine lv_iload_n hx hb dX11_shown_236 rfl (lv_at hl 2 rfl) ?_
              obtain ⟨rw90, hf91⟩ := hT.2.2 22 (by decide)
              have hin92 : vp_in z2 200 := In.inb hb89 (by decide) (by decide)
              refine pl_iald hx hb hG.1 hP (hst.1 277 (by decide)) 0 hf91 rfl hin92 dX11_shown_237 ?_
              refine lv_topi (fun x93 ex93 => ?_)
              refine lv_goto (tgt := 242) hx hb dX11_shown_238 (by decide) ?_
              exact ret_i (ty := .int) hx hb hr hlocks (rfl) hP hD hS (Nat.le_of_ble_eq_true rfl) (Nat.le_of_ble_eq_true rfl) (⟨rfl, ⟨(gset th 39 zg68_zs), ⟨(show MI (gset th 39 zg68_zs) from ⟨m1, m2, (show th 20 = (th 12) * rnd (th 10) from m3), m4, m5, m6, m7, m8, m9, m10⟩), (SBM.set (k := 39) (SBM.rf th) (by decide))⟩, hT⟩, hfr⟩) dX11_shown_242
          ·
            have ocm1 : ((-1) : Int32).toInt = (-1) := by decide
            have cc94 : z2.toInt = ((-1) : Int32).toInt := congrArg Int32.toInt c73
            have hb95 : In z2 (-1) (-1) := In.eq1 (In.full z2) (⟨by decide, by decide⟩ : In (-1) (-1) (-1)) cc94 (by decide) (by decide)
            refine lv_aload_n hx hb dX11_shown_209 rfl (lv_at hl 0 rfl) ?_
            refine pl_get (v := .int v55_69) hx hb hts (fun w h => mT (inX11 w h)) hown hG.1 hP (hst.1 255 (by decide)) hf70 rfl 55 (by decide) (hts _ (mT wg_1391)) (fun _ h => h) rfl dX11_shown_210 ?_
            have hg55_69 : v55_69.toInt = zg68_zs := hg55_69
            refine lv_goto (tgt := 242) hx hb dX11_shown_213 (by decide) ?_
            exact ret_i (ty := .int) hx hb hr hlocks (rfl) hP hD hS (Nat.le_of_ble_eq_true rfl) (Nat.le_of_ble_eq_true rfl) (⟨rfl, ⟨(gset th 39 zg68_zs), ⟨(show MI (gset th 39 zg68_zs) from ⟨m1, m2, (show th 20 = (th 12) * rnd (th 10) from m3), m4, m5, m6, m7, m8, m9, m10⟩), (SBM.set (k := 39) (SBM.rf th) (by decide))⟩, hT⟩, hfr⟩) dX11_shown_242
        ·
          have cc96 : y68_l4.toInt < v15_69.toInt := i32_nle c71
          have hb97 : In y68_l4 0 8 := In.lt1 hy68_l4 hv15_69 cc96 (by decide) (by decide)
          have hb98 : In v15_69 1 9 := In.lt2 hy68_l4 hv15_69 cc96 (by decide) (by decide)
          refine lv_iload_n hx hb dX11_shown_77 rfl (lv_at hl 1 rfl) ?_
          refine lv_iload hx hb dX11_shown_78 (lv_at hl 4 rfl) ?_
          refine call_i (run_S (rm := rm_X11_toldAt) hx hb hml hown hts (s_X11_toldAt l g ad (gset th 39 zg68_zs) _ _ _ z1 y68_l4 hst hT hb24 hb97) cS_X11_toldAt wg_1699 ⟨Nat.le_of_ble_eq_true rfl, Nat.le_of_ble_eq_true rfl⟩ hG hE hA hP hD hS rfl hl.1 (As := [.int z1, .int y68_l4]) (rest := []) rfl (Nat.le_of_ble_eq_true rfl) dX11_shown_80 ⟨Nat.le_of_ble_eq_true rfl, Nat.le_of_ble_eq_true rfl⟩) hA hD hS (fun r99 L100 f101 H locs hp102 hP hD hS => ?_)
          obtain ⟨eL103L, eL103T, eL103R⟩ := hp102
          have eL103L : L100 = L := eL103L
          have eL103T : f101 = f_68 := eL103T
          rw [eL103L, eL103T] at hP hD
          have eL103R : In r99 1538 1962 := eL103R
          refine lv_istore (lv' := [(5, .int r99), (0, .ref (ad 255)), (1, .int z1), (2, .int z2), (3, .int x26), (4, .int y68_l4)]) hx hb dX11_shown_83 hl (by decide) rfl (fun ls hl => ?_)
          refine lv_aload_n hx hb dX11_shown_85 rfl (lv_at hl 1 rfl) ?_
          refine va_ldcSw hx hb hown (hG.2.2.1 ("RulerWordModel", 458, ", ", 24) (by decide +kernel)) dX11_shown_86 ?_
          refine call_v (run_V (rm := rm_X11_showsWord) hx hb hml hown hts (s_X11_showsWord l g ad (gset th 39 zg68_zs) _ _ _ 24 hst hT (by decide) (show zg68_zs + ((lenS.getD 24 0 : Nat) : Int) ≤ 200 by have ql : (lenS.getD 24 0 : Nat) = 2 := (by decide); omega)) cV_X11_showsWord wg_1925 ⟨Nat.le_of_ble_eq_true rfl, Nat.le_of_ble_eq_true rfl⟩ hG hE hA hP hD hS (hst.1 255 (by decide)) hf70 rfl rfl hl.1 (As := [.ref (g.2.2.1 24)]) (rest := []) rfl (Nat.le_of_ble_eq_true rfl) dX11_shown_89 ⟨Nat.le_of_ble_eq_true rfl, Nat.le_of_ble_eq_true rfl⟩) hA hD hS (fun L105 f106 H locs hp107 hP hD hS => ?_)
          obtain ⟨eL108L, eL108T, eL108F⟩ := hp107
          have eL108L : L105 = L := eL108L
          rw [eL108L] at hP hD
          obtain ⟨zz109, hzz109, eL108T⟩ := eL108T
          have hT : TI g ad (gset (gset th 39 zg68_zs) 39 zz109) f106 := eL108T
          have hT : TI g ad (gset th 39 zz109) f106 := TI.cast hT (by funext q; by_cases hq0 : q = 39; (subst hq0; rfl); simp only [gset, if_neg hq0])
          have eL108F : ∀ b, b ≠ (ad 255) → b ≠ (ad 277) → f106 b = f_68 b := eL108F
          have hfr : (∀ b, b ≠ (ad 255) → b ≠ (ad 277) → f106 b = f b) := fun b z0_ z1_ => (eL108F b z0_ z1_).trans (hfr b z0_ z1_)
          refine lv_aload_n hx hb dX11_shown_92 rfl (lv_at hl 1 rfl) ?_
          refine lv_iload hx hb dX11_shown_93 (lv_at hl 5 rfl) ?_
          refine M0e hT (fun v0_110 v2_110 v3_110 v4_110 v5_110 v6_110 v8_110 v9_110 v12_110 v13_110 v14_110 v15_110 v16_110 v17_110 v18_110 v19_110 v20_110 v21_110 v22_110 v23_110 v25_110 v36_110 v37_110 v38_110 v39_110 v40_110 v45_110 v46_110 v47_110 v48_110 v50_110 v51_110 v53_110 v55_110 hf111 hv0_110 hv2_110 hg2_110 hv3_110 hg3_110 hv4_110 hg4_110 hv5_110 hg5_110 hv6_110 hg6_110 hv8_110 hg8_110 hv9_110 hg9_110 hv12_110 hv13_110 hg13_110 hv14_110 hg14_110 hv15_110 hg15_110 hv17_110 hg17_110 hv20_110 hg20_110 hv23_110 hg23_110 hv25_110 hg25_110 hv36_110 hg36_110 hv47_110 hg47_110 hv48_110 hg48_110 hv53_110 hg53_110 hv55_110 hg55_110 hrel0_110 => ?_)
          have hg15_110 : v15_110.toInt = th 11 := hg15_110
          have hg20_110 : v20_110.toInt = th 14 := hg20_110
          refine call_i (run_V (rm := rm_X11_isTrue) hx hb hml hown hts (s_X11_isTrue l g ad (gset th 39 zz109) _ _ _ y68_l4 hst hT ) cV_X11_isTrue wg_1782 ⟨Nat.le_of_ble_eq_true rfl, Nat.le_of_ble_eq_true rfl⟩ hG hE hA hP hD hS (hst.1 255 (by decide)) hf111 rfl rfl hl.1 (As := [.int y68_l4]) (rest := []) rfl (Nat.le_of_ble_eq_true rfl) dX11_shown_95 ⟨Nat.le_of_ble_eq_true rfl, Nat.le_of_ble_eq_true rfl⟩) hA hD hS (fun r112 L113 f114 H locs hp115 hP hD hS => ?_)
          obtain ⟨eL116L, eL116T, eL116R⟩ := hp115
          have eL116L : L113 = L := eL116L
          have eL116T : f114 = f106 := eL116T
          rw [eL116L, eL116T] at hP hD
          have eL116R : In r112 0 1 := eL116R
          have hJ107 : ∀ (zg107_zs : Int) (f_107 : HP) (H : Heap) (locs : List Loc) (ls : Array Slot), (0 ≤ zg107_zs ∧ zg107_zs ≤ 15 + 9 * y68_l4.toInt + 3) → va_P g.1 vwCl (va_pl L f_107) H → va_D A (va_pl L f_107) → va_S A s.heap H locs → TI g ad (gset th 39 zg107_zs) f_107 → (∀ b, b ≠ (ad 255) → b ≠ (ad 277) → f_107 b = f b) → lv_has ls 6 [(0, .ref (ad 255)), (1, .int z1), (2, .int z2), (3, .int x26), (4, .int y68_l4), (5, .int r99)] → W p l e rm_X11_shown s m [.ref (ad 255), .int z1, .int z2].toArray below meth c H locs 0 0 (MQ below (va_Qi (po_X11_shown g ad th L f z1 z2) (PstB g A) A) [.ref (ad 255), .int z1, .int z2].toArray s rm_X11_shown.cells rm_X11_shown.slots A) (F0 m 107 ls []) := by
            intro zg107_zs f_107 H locs ls hzg107 hP hD hS hT hfr hl
            refine lv_aload_n hx hb dX11_shown_107 rfl (lv_at hl 0 rfl) ?_
            refine lv_bipush (v := 48) hx hb dX11_shown_108 (by decide) ?_
            refine lv_iload hx hb dX11_shown_110 (lv_at hl 4 rfl) ?_
            refine lv_iadd hx hb dX11_shown_112 ?_
            refine lv_topi (fun x117 ex117 => ?_)
            have hb118 : In x117 48 56 := ex117 ▸ In.add (⟨by decide, by decide⟩ : In 48 48 48) hb97 (by decide) (by decide) (by decide) (by decide)
            have et119 : x117.toInt = (48 : Int32).toInt + y68_l4.toInt := In.add2e ex117 (⟨by decide, by decide⟩ : In 48 48 48) hb97 (by decide) (by decide)
            refine M0e hT (fun v0_120 v2_120 v3_120 v4_120 v5_120 v6_120 v8_120 v9_120 v12_120 v13_120 v14_120 v15_120 v16_120 v17_120 v18_120 v19_120 v20_120 v21_120 v22_120 v23_120 v25_120 v36_120 v37_120 v38_120 v39_120 v40_120 v45_120 v46_120 v47_120 v48_120 v50_120 v51_120 v53_120 v55_120 hf121 hv0_120 hv2_120 hg2_120 hv3_120 hg3_120 hv4_120 hg4_120 hv5_120 hg5_120 hv6_120 hg6_120 hv8_120 hg8_120 hv9_120 hg9_120 hv12_120 hv13_120 hg13_120 hv14_120 hg14_120 hv15_120 hg15_120 hv17_120 hg17_120 hv20_120 hg20_120 hv23_120 hg23_120 hv25_120 hg25_120 hv36_120 hg36_120 hv47_120 hg47_120 hv48_120 hg48_120 hv53_120 hg53_120 hv55_120 hg55_120 hrel0_120 => ?_)
            have hg15_120 : v15_120.toInt = th 11 := hg15_120
            have hg20_120 : v20_120.toInt = th 14 := hg20_120
            refine call_v (run_V (rm := rm_X11_shows) hx hb hml hown hts (s_X11_shows l g ad (gset th 39 zg107_zs) _ _ _ x117 hst hT (show zg107_zs < 200 from (by have ob10 : (0 : Int) ≤ (th 10) ∧ (th 10) ≤ 1 := (b0_10 hT :); have ob11 : (0 : Int) ≤ (th 11) ∧ (th 11) ≤ 9 := (b0_11 hT :); have ob12 : (0 : Int) ≤ (th 12) ∧ (th 12) ≤ 6 := (b0_12 hT :); have ob14 : (0 : Int) ≤ (th 14) ∧ (th 14) ≤ 511 := (b0_14 hT :); have ob15 : (0 : Int) ≤ (th 15) ∧ (th 15) ≤ 1 := (b0_15 hT :); have ob16 : (0 : Int) ≤ (th 16) ∧ (th 16) ≤ 20 := (b0_16 hT :); have ob17 : (0 : Int) ≤ (th 17) ∧ (th 17) ≤ 1 := (b0_17 hT :); have ob18 : (0 : Int) ≤ (th 18) ∧ (th 18) ≤ 18 := (b0_18 hT :); have ob38 : (0 : Int) ≤ (th 38) ∧ (th 38) ≤ 400 := (b0_38 hT :); have ob39 : (0 : Int) ≤ zg107_zs ∧ zg107_zs ≤ 200 := (b0_39 hT :); have ob44 : (0 : Int) ≤ (th 44) ∧ (th 44) ≤ 30 := (b0_44 hT :); have orn := rnd_b (th 10); obtain ⟨o0a, o0b⟩ := (hv14_120 : In _ _ _); obtain ⟨o1a, o1b⟩ := (hv15_120 : In _ _ _); obtain ⟨o2a, o2b⟩ := (hv17_120 : In _ _ _); obtain ⟨o3a, o3b⟩ := (hv20_120 : In _ _ _); obtain ⟨o4a, o4b⟩ := (hv23_120 : In _ _ _); obtain ⟨o5a, o5b⟩ := (hv25_120 : In _ _ _); obtain ⟨o6a, o6b⟩ := (hv36_120 : In _ _ _); obtain ⟨o7a, o7b⟩ := (hv47_120 : In _ _ _); obtain ⟨o8a, o8b⟩ := (hv48_120 : In _ _ _); obtain ⟨o9a, o9b⟩ := (hv53_120 : In _ _ _); obtain ⟨o10a, o10b⟩ := (hv55_120 : In _ _ _); omega))) cV_X11_shows wg_1929 ⟨Nat.le_of_ble_eq_true rfl, Nat.le_of_ble_eq_true rfl⟩ hG hE hA hP hD hS (hst.1 255 (by decide)) hf121 rfl rfl hl.1 (As := [.int x117]) (rest := []) rfl (Nat.le_of_ble_eq_true rfl) dX11_shown_113 ⟨Nat.le_of_ble_eq_true rfl, Nat.le_of_ble_eq_true rfl⟩) hA hD hS (fun L123 f124 H locs hp125 hP hD hS => ?_)
            obtain ⟨eL126L, eL126T, eL126F⟩ := hp125
            have eL126L : L123 = L := eL126L
            rw [eL126L] at hP hD
            obtain ⟨zz127, hzz127, eL126T⟩ := eL126T
            have hzz127 : zz127 = zg107_zs + 1 := hzz127
            have hT : TI g ad (gset (gset th 39 zg107_zs) 39 zz127) f124 := eL126T
            have hT : TI g ad (gset th 39 zz127) f124 := TI.cast hT (by funext q; by_cases hq0 : q = 39; (subst hq0; rfl); simp only [gset, if_neg hq0])
            have eL126F : ∀ b, b ≠ (ad 255) → b ≠ (ad 277) → f124 b = f_107 b := eL126F
            have hfr : (∀ b, b ≠ (ad 255) → b ≠ (ad 277) → f124 b = f b) := fun b z0_ z1_ => (eL126F b z0_ z1_).trans (hfr b z0_ z1_)
            refine lv_aload_n hx hb dX11_shown_116 rfl (lv_at hl 0 rfl) ?_
            refine lv_bipush (v := 61) hx hb dX11_shown_117 (by decide) ?_
            refine M0e hT (fun v0_128 v2_128 v3_128 v4_128 v5_128 v6_128 v8_128 v9_128 v12_128 v13_128 v14_128 v15_128 v16_128 v17_128 v18_128 v19_128 v20_128 v21_128 v22_128 v23_128 v25_128 v36_128 v37_128 v38_128 v39_128 v40_128 v45_128 v46_128 v47_128 v48_128 v50_128 v51_128 v53_128 v55_128 hf129 hv0_128 hv2_128 hg2_128 hv3_128 hg3_128 hv4_128 hg4_128 hv5_128 hg5_128 hv6_128 hg6_128 hv8_128 hg8_128 hv9_128 hg9_128 hv12_128 hv13_128 hg13_128 hv14_128 hg14_128 hv15_128 hg15_128 hv17_128 hg17_128 hv20_128 hg20_128 hv23_128 hg23_128 hv25_128 hg25_128 hv36_128 hg36_128 hv47_128 hg47_128 hv48_128 hg48_128 hv53_128 hg53_128 hv55_128 hg55_128 hrel0_128 => ?_)
            have hg15_128 : v15_128.toInt = th 11 := hg15_128
            have hg20_128 : v20_128.toInt = th 14 := hg20_128
            refine call_v (run_V (rm := rm_X11_shows) hx hb hml hown hts (s_X11_shows l g ad (gset th 39 zz127) _ _ _ 61 hst hT (show zz127 < 200 from (by have ob10 : (0 : Int) ≤ (th 10) ∧ (th 10) ≤ 1 := (b0_10 hT :); have ob11 : (0 : Int) ≤ (th 11) ∧ (th 11) ≤ 9 := (b0_11 hT :); have ob12 : (0 : Int) ≤ (th 12) ∧ (th 12) ≤ 6 := (b0_12 hT :); have ob14 : (0 : Int) ≤ (th 14) ∧ (th 14) ≤ 511 := (b0_14 hT :); have ob15 : (0 : Int) ≤ (th 15) ∧ (th 15) ≤ 1 := (b0_15 hT :); have ob16 : (0 : Int) ≤ (th 16) ∧ (th 16) ≤ 20 := (b0_16 hT :); have ob17 : (0 : Int) ≤ (th 17) ∧ (th 17) ≤ 1 := (b0_17 hT :); have ob18 : (0 : Int) ≤ (th 18) ∧ (th 18) ≤ 18 := (b0_18 hT :); have ob38 : (0 : Int) ≤ (th 38) ∧ (th 38) ≤ 400 := (b0_38 hT :); have ob39 : (0 : Int) ≤ zz127 ∧ zz127 ≤ 200 := (b0_39 hT :); have ob44 : (0 : Int) ≤ (th 44) ∧ (th 44) ≤ 30 := (b0_44 hT :); have orn := rnd_b (th 10); obtain ⟨o0a, o0b⟩ := (hv14_128 : In _ _ _); obtain ⟨o1a, o1b⟩ := (hv15_128 : In _ _ _); obtain ⟨o2a, o2b⟩ := (hv17_128 : In _ _ _); obtain ⟨o3a, o3b⟩ := (hv20_128 : In _ _ _); obtain ⟨o4a, o4b⟩ := (hv23_128 : In _ _ _); obtain ⟨o5a, o5b⟩ := (hv25_128 : In _ _ _); obtain ⟨o6a, o6b⟩ := (hv36_128 : In _ _ _); obtain ⟨o7a, o7b⟩ := (hv47_128 : In _ _ _); obtain ⟨o8a, o8b⟩ := (hv48_128 : In _ _ _); obtain ⟨o9a, o9b⟩ := (hv53_128 : In _ _ _); obtain ⟨o10a, o10b⟩ := (hv55_128 : In _ _ _); omega))) cV_X11_shows wg_1929 ⟨Nat.le_of_ble_eq_true rfl, Nat.le_of_ble_eq_true rfl⟩ hG hE hA hP hD hS (hst.1 255 (by decide)) hf129 rfl rfl hl.1 (As := [.int 61]) (rest := []) rfl (Nat.le_of_ble_eq_true rfl) dX11_shown_119 ⟨Nat.le_of_ble_eq_true rfl, Nat.le_of_ble_eq_true rfl⟩) hA hD hS (fun L131 f132 H locs hp133 hP hD hS => ?_)
            obtain ⟨eL134L, eL134T, eL134F⟩ := hp133
            have eL134L : L131 = L := eL134L
            rw [eL134L] at hP hD
            obtain ⟨zz135, hzz135, eL134T⟩ := eL134T
            have hzz135 : zz135 = zz127 + 1 := hzz135
            have hT : TI g ad (gset (gset th 39 zz127) 39 zz135) f132 := eL134T
            have hT : TI g ad (gset th 39 zz135) f132 := TI.cast hT (by funext q; by_cases hq0 : q = 39; (subst hq0; rfl); simp only [gset, if_neg hq0])
            have eL134F : ∀ b, b ≠ (ad 255) → b ≠ (ad 277) → f132 b = f124 b := eL134F
            have hfr : (∀ b, b ≠ (ad 255) → b ≠ (ad 277) → f132 b = f b) := fun b z0_ z1_ => (eL134F b z0_ z1_).trans (hfr b z0_ z1_)
            refine lv_aload_n hx hb dX11_shown_122 rfl (lv_at hl 0 rfl) ?_
            refine lv_bipush (v := 48) hx hb dX11_shown_123 (by decide) ?_
            refine lv_aload_n hx hb dX11_shown_125 rfl (lv_at hl 0 rfl) ?_
            refine M0e hT (fun v0_136 v2_136 v3_136 v4_136 v5_136 v6_136 v8_136 v9_136 v12_136 v13_136 v14_136 v15_136 v16_136 v17_136 v18_136 v19_136 v20_136 v21_136 v22_136 v23_136 v25_136 v36_136 v37_136 v38_136 v39_136 v40_136 v45_136 v46_136 v47_136 v48_136 v50_136 v51_136 v53_136 v55_136 hf137 hv0_136 hv2_136 hg2_136 hv3_136 hg3_136 hv4_136 hg4_136 hv5_136 hg5_136 hv6_136 hg6_136 hv8_136 hg8_136 hv9_136 hg9_136 hv12_136 hv13_136 hg13_136 hv14_136 hg14_136 hv15_136 hg15_136 hv17_136 hg17_136 hv20_136 hg20_136 hv23_136 hg23_136 hv25_136 hg25_136 hv36_136 hg36_136 hv47_136 hg47_136 hv48_136 hg48_136 hv53_136 hg53_136 hv55_136 hg55_136 hrel0_136 => ?_)
            have hg15_136 : v15_136.toInt = th 11 := hg15_136
            have hg20_136 : v20_136.toInt = th 14 := hg20_136
            refine pl_get (v := .ref (ad 271)) hx hb hts (fun w h => mT (inX11 w h)) hown hG.1 hP (hst.1 255 (by decide)) hf137 rfl 41 (by decide) (hts _ (mT wg_1377)) (fun _ h => h) rfl dX11_shown_126 ?_
            refine lv_iload hx hb dX11_shown_129 (lv_at hl 5 rfl) ?_
            obtain ⟨rw138, hf139, hpi141, hc140⟩ := hT.2.2 16 (by decide)
            have hc140 : PRW 2126 (th 22) (th 20) (th 21) rw138 := hc140
            have hpi141 : ((72 : Int) < (th 22) → (rw138 72).toInt = th 19) := hpi141
            have hin142 : vp_in r99 2126 := In.inb eL103R (by decide) (by decide)
            refine pl_iald hx hb hG.1 hP (hst.1 271 (by decide)) 0 hf139 rfl hin142 dX11_shown_131 ?_
            refine lv_topi (fun x143 ex143 => ?_)
            refine lv_iadd hx hb dX11_shown_132 ?_
            refine lv_topi (fun x144 ex144 => ?_)
            refine call_v (run_V (rm := rm_X11_shows) hx hb hml hown hts (s_X11_shows l g ad (gset th 39 zz135) _ _ _ x144 hst hT (show zz135 < 200 from (by have ob10 : (0 : Int) ≤ (th 10) ∧ (th 10) ≤ 1 := (b0_10 hT :); have ob11 : (0 : Int) ≤ (th 11) ∧ (th 11) ≤ 9 := (b0_11 hT :); have ob12 : (0 : Int) ≤ (th 12) ∧ (th 12) ≤ 6 := (b0_12 hT :); have ob14 : (0 : Int) ≤ (th 14) ∧ (th 14) ≤ 511 := (b0_14 hT :); have ob15 : (0 : Int) ≤ (th 15) ∧ (th 15) ≤ 1 := (b0_15 hT :); have ob16 : (0 : Int) ≤ (th 16) ∧ (th 16) ≤ 20 := (b0_16 hT :); have ob17 : (0 : Int) ≤ (th 17) ∧ (th 17) ≤ 1 := (b0_17 hT :); have ob18 : (0 : Int) ≤ (th 18) ∧ (th 18) ≤ 18 := (b0_18 hT :); have ob38 : (0 : Int) ≤ (th 38) ∧ (th 38) ≤ 400 := (b0_38 hT :); have ob39 : (0 : Int) ≤ zz135 ∧ zz135 ≤ 200 := (b0_39 hT :); have ob44 : (0 : Int) ≤ (th 44) ∧ (th 44) ≤ 30 := (b0_44 hT :); have orn := rnd_b (th 10); obtain ⟨o0a, o0b⟩ := (hv14_136 : In _ _ _); obtain ⟨o1a, o1b⟩ := (hv15_136 : In _ _ _); obtain ⟨o2a, o2b⟩ := (hv17_136 : In _ _ _); obtain ⟨o3a, o3b⟩ := (hv20_136 : In _ _ _); obtain ⟨o4a, o4b⟩ := (hv23_136 : In _ _ _); obtain ⟨o5a, o5b⟩ := (hv25_136 : In _ _ _); obtain ⟨o6a, o6b⟩ := (hv36_136 : In _ _ _); obtain ⟨o7a, o7b⟩ := (hv47_136 : In _ _ _); obtain ⟨o8a, o8b⟩ := (hv48_136 : In _ _ _); obtain ⟨o9a, o9b⟩ := (hv53_136 : In _ _ _); obtain ⟨o10a, o10b⟩ := (hv55_136 : In _ _ _); omega))) cV_X11_shows wg_1929 ⟨Nat.le_of_ble_eq_true rfl, Nat.le_of_ble_eq_true rfl⟩ hG hE hA hP hD hS (hst.1 255 (by decide)) hf137 rfl rfl hl.1 (As := [.int x144]) (rest := []) rfl (Nat.le_of_ble_eq_true rfl) dX11_shown_133 ⟨Nat.le_of_ble_eq_true rfl, Nat.le_of_ble_eq_true rfl⟩) hA hD hS (fun L146 f147 H locs hp148 hP hD hS => ?_)
            obtain ⟨eL149L, eL149T, eL149F⟩ := hp148
            have eL149L : L146 = L := eL149L
            rw [eL149L] at hP hD
            obtain ⟨zz150, hzz150, eL149T⟩ := eL149T
            have hzz150 : zz150 = zz135 + 1 := hzz150
            have hT : TI g ad (gset (gset th 39 zz135) 39 zz150) f147 := eL149T
            have hT : TI g ad (gset th 39 zz150) f147 := TI.cast hT (by funext q; by_cases hq0 : q = 39; (subst hq0; rfl); simp only [gset, if_neg hq0])
            have eL149F : ∀ b, b ≠ (ad 255) → b ≠ (ad 277) → f147 b = f132 b := eL149F
            have hfr : (∀ b, b ≠ (ad 255) → b ≠ (ad 277) → f147 b = f b) := fun b z0_ z1_ => (eL149F b z0_ z1_).trans (hfr b z0_ z1_)
            refine lv_aload_n hx hb dX11_shown_136 rfl (lv_at hl 0 rfl) ?_
            refine M0e hT (fun v0_151 v2_151 v3_151 v4_151 v5_151 v6_151 v8_151 v9_151 v12_151 v13_151 v14_151 v15_151 v16_151 v17_151 v18_151 v19_151 v20_151 v21_151 v22_151 v23_151 v25_151 v36_151 v37_151 v38_151 v39_151 v40_151 v45_151 v46_151 v47_151 v48_151 v50_151 v51_151 v53_151 v55_151 hf152 hv0_151 hv2_151 hg2_151 hv3_151 hg3_151 hv4_151 hg4_151 hv5_151 hg5_151 hv6_151 hg6_151 hv8_151 hg8_151 hv9_151 hg9_151 hv12_151 hv13_151 hg13_151 hv14_151 hg14_151 hv15_151 hg15_151 hv17_151 hg17_151 hv20_151 hg20_151 hv23_151 hg23_151 hv25_151 hg25_151 hv36_151 hg36_151 hv47_151 hg47_151 hv48_151 hg48_151 hv53_151 hg53_151 hv55_151 hg55_151 hrel0_151 => ?_)
            have hg15_151 : v15_151.toInt = th 11 := hg15_151
            have hg20_151 : v20_151.toInt = th 14 := hg20_151
            refine pl_get (v := .ref (ad 271)) hx hb hts (fun w h => mT (inX11 w h)) hown hG.1 hP (hst.1 255 (by decide)) hf152 rfl 41 (by decide) (hts _ (mT wg_1377)) (fun _ h => h) rfl dX11_shown_137 ?_
            refine lv_iload hx hb dX11_shown_140 (lv_at hl 5 rfl) ?_
            refine lv_iconst (v := 1) hx hb dX11_shown_142 (by decide) ?_
            refine lv_iadd hx hb dX11_shown_143 ?_
            refine lv_topi (fun x153 ex153 => ?_)
            have hb154 : In x153 1539 1963 := ex153 ▸ In.add eL103R (⟨by decide, by decide⟩ : In 1 1 1) (by decide) (by decide) (by decide) (by decide)
            have et155 : x153.toInt = r99.toInt + 1 := In.adde ex153 eL103R (k := 1) (by decide) (by decide) (by decide)
            obtain ⟨rw156, hf157, hpi159, hc158⟩ := hT.2.2 16 (by decide)
            have hc158 : PRW 2126 (th 22) (th 20) (th 21) rw156 := hc158
            have hpi159 : ((72 : Int) < (th 22) → (rw156 72).toInt = th 19) := hpi159
            have hin160 : vp_in x153 2126 := In.inb hb154 (by decide) (by decide)
            refine pl_iald hx hb hG.1 hP (hst.1 271 (by decide)) 0 hf157 rfl hin160 dX11_shown_144 ?_
            refine lv_topi (fun x161 ex161 => ?_)
            refine lv_iconst (v := 1) hx hb dX11_shown_145 (by decide) ?_
            have hJ155 : ∀ (zg155_zs : Int) (f_155 : HP) (H : Heap) (locs : List Loc) (ls : Array Slot), (0 ≤ zg155_zs ∧ zg155_zs ≤ 15 + 9 * y68_l4.toInt + 7) → va_P g.1 vwCl (va_pl L f_155) H → va_D A (va_pl L f_155) → va_S A s.heap H locs → TI g ad (gset th 39 zg155_zs) f_155 → (∀ b, b ≠ (ad 255) → b ≠ (ad 277) → f_155 b = f b) → lv_has ls 6 [(0, .ref (ad 255)), (1, .int z1), (2, .int z2), (3, .int x26), (4, .int y68_l4), (5, .int r99)] → W p l e rm_X11_shown s m [.ref (ad 255), .int z1, .int z2].toArray below meth c H locs 0 0 (MQ below (va_Qi (po_X11_shown g ad th L f z1 z2) (PstB g A) A) [.ref (ad 255), .int z1, .int z2].toArray s rm_X11_shown.cells rm_X11_shown.slots A) (F0 m 155 ls []) := by
              intro zg155_zs f_155 H locs ls hzg155 hP hD hS hT hfr hl
              refine lv_aload_n hx hb dX11_shown_155 rfl (lv_at hl 0 rfl) ?_
              refine M0e hT (fun v0_162 v2_162 v3_162 v4_162 v5_162 v6_162 v8_162 v9_162 v12_162 v13_162 v14_162 v15_162 v16_162 v17_162 v18_162 v19_162 v20_162 v21_162 v22_162 v23_162 v25_162 v36_162 v37_162 v38_162 v39_162 v40_162 v45_162 v46_162 v47_162 v48_162 v50_162 v51_162 v53_162 v55_162 hf163 hv0_162 hv2_162 hg2_162 hv3_162 hg3_162 hv4_162 hg4_162 hv5_162 hg5_162 hv6_162 hg6_162 hv8_162 hg8_162 hv9_162 hg9_162 hv12_162 hv13_162 hg13_162 hv14_162 hg14_162 hv15_162 hg15_162 hv17_162 hg17_162 hv20_162 hg20_162 hv23_162 hg23_162 hv25_162 hg25_162 hv36_162 hg36_162 hv47_162 hg47_162 hv48_162 hg48_162 hv53_162 hg53_162 hv55_162 hg55_162 hrel0_162 => ?_)
              have hg15_162 : v15_162.toInt = th 11 := hg15_162
              have hg20_162 : v20_162.toInt = th 14 := hg20_162
              refine pl_get (v := .ref (ad 271)) hx hb hts (fun w h => mT (inX11 w h)) hown hG.1 hP (hst.1 255 (by decide)) hf163 rfl 41 (by decide) (hts _ (mT wg_1377)) (fun _ h => h) rfl dX11_shown_156 ?_
              refine lv_iload hx hb dX11_shown_159 (lv_at hl 5 rfl) ?_
              refine lv_bipush (v := 7) hx hb dX11_shown_161 (by decide) ?_
              refine lv_iadd hx hb dX11_shown_163 ?_
              refine lv_topi (fun x164 ex164 => ?_)
              have hb165 : In x164 1545 1969 := ex164 ▸ In.add eL103R (⟨by decide, by decide⟩ : In 7 7 7) (by decide) (by decide) (by decide) (by decide)
              have et166 : x164.toInt = r99.toInt + 7 := In.adde ex164 eL103R (k := 7) (by decide) (by decide) (by decide)
              obtain ⟨rw167, hf168, hpi170, hc169⟩ := hT.2.2 16 (by decide)
              have hc169 : PRW 2126 (th 22) (th 20) (th 21) rw167 := hc169
              have hpi170 : ((72 : Int) < (th 22) → (rw167 72).toInt = th 19) := hpi170
              have hin171 : vp_in x164 2126 := In.inb hb165 (by decide) (by decide)
              refine pl_iald hx hb hG.1 hP (hst.1 271 (by decide)) 0 hf168 rfl hin171 dX11_shown_164 ?_
              refine lv_topi (fun x172 ex172 => ?_)
              refine lv_iconst (v := 1) hx hb dX11_shown_165 (by decide) ?_
              have hJ175 : ∀ (zg175_zs : Int) (f_175 : HP) (H : Heap) (locs : List Loc) (ls : Array Slot), (0 ≤ zg175_zs ∧ zg175_zs ≤ 15 + 9 * y68_l4.toInt + 8) → va_P g.1 vwCl (va_pl L f_175) H → va_D A (va_pl L f_175) → va_S A s.heap H locs → TI g ad (gset th 39 zg175_zs) f_175 → (∀ b, b ≠ (ad 255) → b ≠ (ad 277) → f_175 b = f b) → lv_has ls 6 [(0, .ref (ad 255)), (1, .int z1), (2, .int z2), (3, .int x26), (4, .int y68_l4), (5, .int r99)] → W p l e rm_X11_shown s m [.ref (ad 255), .int z1, .int z2].toArray below meth c H locs 0 0 (MQ below (va_Qi (po_X11_shown g ad th L f z1 z2) (PstB g A) A) [.ref (ad 255), .int z1, .int z2].toArray s rm_X11_shown.cells rm_X11_shown.slots A) (F0 m 175 ls []) := by
                intro zg175_zs f_175 H locs ls hzg175 hP hD hS hT hfr hl
                refine lv_aload_n hx hb dX11_shown_175 rfl (lv_at hl 0 rfl) ?_
                refine M0e hT (fun v0_173 v2_173 v3_173 v4_173 v5_173 v6_173 v8_173 v9_173 v12_173 v13_173 v14_173 v15_173 v16_173 v17_173 v18_173 v19_173 v20_173 v21_173 v22_173 v23_173 v25_173 v36_173 v37_173 v38_173 v39_173 v40_173 v45_173 v46_173 v47_173 v48_173 v50_173 v51_173 v53_173 v55_173 hf174 hv0_173 hv2_173 hg2_173 hv3_173 hg3_173 hv4_173 hg4_173 hv5_173 hg5_173 hv6_173 hg6_173 hv8_173 hg8_173 hv9_173 hg9_173 hv12_173 hv13_173 hg13_173 hv14_173 hg14_173 hv15_173 hg15_173 hv17_173 hg17_173 hv20_173 hg20_173 hv23_173 hg23_173 hv25_173 hg25_173 hv36_173 hg36_173 hv47_173 hg47_173 hv48_173 hg48_173 hv53_173 hg53_173 hv55_173 hg55_173 hrel0_173 => ?_)
                have hg15_173 : v15_173.toInt = th 11 := hg15_173
                have hg20_173 : v20_173.toInt = th 14 := hg20_173
                refine pl_get (v := .ref (ad 271)) hx hb hts (fun w h => mT (inX11 w h)) hown hG.1 hP (hst.1 255 (by decide)) hf174 rfl 41 (by decide) (hts _ (mT wg_1377)) (fun _ h => h) rfl dX11_shown_176 ?_
                refine lv_bipush (v := 9) hx hb dX11_shown_179 (by decide) ?_
                refine lv_iload hx hb dX11_shown_181 (lv_at hl 4 rfl) ?_
                refine lv_iadd hx hb dX11_shown_183 ?_
                refine lv_topi (fun x175 ex175 => ?_)
                have hb176 : In x175 9 17 := ex175 ▸ In.add (⟨by decide, by decide⟩ : In 9 9 9) hb97 (by decide) (by decide) (by decide) (by decide)
                have et177 : x175.toInt = (9 : Int32).toInt + y68_l4.toInt := In.add2e ex175 (⟨by decide, by decide⟩ : In 9 9 9) hb97 (by decide) (by decide)
                obtain ⟨rw178, hf179, hpi181, hc180⟩ := hT.2.2 16 (by decide)
                have hc180 : PRW 2126 (th 22) (th 20) (th 21) rw178 := hc180
                have hpi181 : ((72 : Int) < (th 22) → (rw178 72).toInt = th 19) := hpi181
                have hin182 : vp_in x175 2126 := In.inb hb176 (by decide) (by decide)
                refine pl_iald hx hb hG.1 hP (hst.1 271 (by decide)) 0 hf179 rfl hin182 dX11_shown_184 ?_
                refine lv_topi (fun x183 ex183 => ?_)
                refine lv_iload_n hx hb dX11_shown_185 rfl (lv_at hl 3 rfl) ?_
                refine call_i (run_S (rm := rm_X11_has) hx hb hml hown hts (s_X11_has l g ad (gset th 39 zg175_zs) _ _ _ x183 x26 hst hT ) cS_X11_has wg_1563 ⟨Nat.le_of_ble_eq_true rfl, Nat.le_of_ble_eq_true rfl⟩ hG hE hA hP hD hS rfl hl.1 (As := [.int x183, .int x26]) (rest := []) rfl (Nat.le_of_ble_eq_true rfl) dX11_shown_186 ⟨Nat.le_of_ble_eq_true rfl, Nat.le_of_ble_eq_true rfl⟩) hA hD hS (fun r184 L185 f186 H locs hp187 hP hD hS => ?_)
                obtain ⟨eL188L, eL188T, eL188R, eL188X0⟩ := hp187
                have eL188L : L185 = L := eL188L
                have eL188T : f186 = f_175 := eL188T
                rw [eL188L, eL188T] at hP hD
                have eL188R : In r184 0 1 := eL188R
                have hJ198 : ∀ (zg198_zs : Int) (f_198 : HP) (H : Heap) (locs : List Loc) (ls : Array Slot), (0 ≤ zg198_zs ∧ zg198_zs ≤ 15 + 9 * y68_l4.toInt + 9) → va_P g.1 vwCl (va_pl L f_198) H → va_D A (va_pl L f_198) → va_S A s.heap H locs → TI g ad (gset th 39 zg198_zs) f_198 → (∀ b, b ≠ (ad 255) → b ≠ (ad 277) → f_198 b = f b) → lv_has ls 6 [(0, .ref (ad 255)), (1, .int z1), (2, .int z2), (3, .int x26), (4, .int y68_l4), (5, .int r99)] → W p l e rm_X11_shown s m [.ref (ad 255), .int z1, .int z2].toArray below meth c H locs 0 0 (MQ below (va_Qi (po_X11_shown g ad th L f z1 z2) (PstB g A) A) [.ref (ad 255), .int z1, .int z2].toArray s rm_X11_shown.cells rm_X11_shown.slots A) (F0 m 198 ls []) := by
                  intro zg198_zs f_198 H locs ls hzg198 hP hD hS hT hfr hl
                  obtain ⟨x189, ex189⟩ : ∃ y : Int32, y = y68_l4 + 1 := ⟨_, rfl⟩
                  have hb190 : In x189 1 9 := ex189 ▸ In.add hb97 (⟨by decide, by decide⟩ : In 1 1 1) (by decide) (by decide) (by decide) (by decide)
                  have et191 : x189.toInt = y68_l4.toInt + 1 := In.adde ex189 hb97 (k := 1) (by decide) (by decide) (by decide)
                  refine lv_iinc (v := x189) (lv' := [(4, .int x189), (0, .ref (ad 255)), (1, .int z1), (2, .int z2), (3, .int x26), (5, .int r99)]) hx hb dX11_shown_198 hl (k := 4) rfl (by rw [ex189]; rfl) (by decide) rfl (fun ls hl => ?_)
                  refine lv_goto (tgt := 68) hx hb dX11_shown_201 (by decide) ?_
                  exact ih68 zg198_zs x189 _ _ _ _ (show (0 ≤ zg198_zs ∧ zg198_zs ≤ 15 + 9 * x189.toInt + 0) from (by have ob10 : (0 : Int) ≤ (th 10) ∧ (th 10) ≤ 1 := (b0_10 hT :); have ob11 : (0 : Int) ≤ (th 11) ∧ (th 11) ≤ 9 := (b0_11 hT :); have ob12 : (0 : Int) ≤ (th 12) ∧ (th 12) ≤ 6 := (b0_12 hT :); have ob14 : (0 : Int) ≤ (th 14) ∧ (th 14) ≤ 511 := (b0_14 hT :); have ob15 : (0 : Int) ≤ (th 15) ∧ (th 15) ≤ 1 := (b0_15 hT :); have ob16 : (0 : Int) ≤ (th 16) ∧ (th 16) ≤ 20 := (b0_16 hT :); have ob17 : (0 : Int) ≤ (th 17) ∧ (th 17) ≤ 1 := (b0_17 hT :); have ob18 : (0 : Int) ≤ (th 18) ∧ (th 18) ≤ 18 := (b0_18 hT :); have ob38 : (0 : Int) ≤ (th 38) ∧ (th 38) ≤ 400 := (b0_38 hT :); have ob39 : (0 : Int) ≤ zg198_zs ∧ zg198_zs ≤ 200 := (b0_39 hT :); have ob44 : (0 : Int) ≤ (th 44) ∧ (th 44) ≤ 30 := (b0_44 hT :); have orn := rnd_b (th 10); obtain ⟨o0a, o0b⟩ := (hb190 : In _ _ _); obtain ⟨o1a, o1b⟩ := (hb24 : In _ _ _); obtain ⟨o3a, o3b⟩ := (hb27 : In _ _ _); obtain ⟨o4a, o4b⟩ := (eL103R : In _ _ _); obtain ⟨o5a, o5b⟩ := (hb97 : In _ _ _); obtain ⟨o6a, o6b⟩ := (hb98 : In _ _ _); omega)) (In.mono hb190 (by decide) (by decide)) hP hD hS (TI.cast hT (by funext q; by_cases hq0 : q = 39; (subst hq0; rfl); simp only [gset, if_neg hq0])) hfr (lv_sub hl [1, 2, 3, 4, 0] rfl) (msu et191 (by decide) hmz68)
                refine lv_if_eq (tgt := 198) hx hb dX11_shown_189 (by decide) (fun c192 => ?_) (fun c192 => ?_)
                ·
                  have oc0 : (0 : Int32).toInt = 0 := by decide
                  have cc193 : r184.toInt = (0 : Int32).toInt := congrArg Int32.toInt c192
                  have hb194 : In r184 0 0 := In.eq1 eL188R (⟨by decide, by decide⟩ : In 0 0 0) cc193 (by decide) (by decide)
                  exact hJ198 zg175_zs _ _ _ _ (show (0 ≤ zg175_zs ∧ zg175_zs ≤ 15 + 9 * y68_l4.toInt + 9) from (by have ob10 : (0 : Int) ≤ (th 10) ∧ (th 10) ≤ 1 := (b0_10 hT :); have ob11 : (0 : Int) ≤ (th 11) ∧ (th 11) ≤ 9 := (b0_11 hT :); have ob12 : (0 : Int) ≤ (th 12) ∧ (th 12) ≤ 6 := (b0_12 hT :); have ob14 : (0 : Int) ≤ (th 14) ∧ (th 14) ≤ 511 := (b0_14 hT :); have ob15 : (0 : Int) ≤ (th 15) ∧ (th 15) ≤ 1 := (b0_15 hT :); have ob16 : (0 : Int) ≤ (th 16) ∧ (th 16) ≤ 20 := (b0_16 hT :); have ob17 : (0 : Int) ≤ (th 17) ∧ (th 17) ≤ 1 := (b0_17 hT :); have ob18 : (0 : Int) ≤ (th 18) ∧ (th 18) ≤ 18 := (b0_18 hT :); have ob38 : (0 : Int) ≤ (th 38) ∧ (th 38) ≤ 400 := (b0_38 hT :); have ob39 : (0 : Int) ≤ zg175_zs ∧ zg175_zs ≤ 200 := (b0_39 hT :); have ob44 : (0 : Int) ≤ (th 44) ∧ (th 44) ≤ 30 := (b0_44 hT :); have orn := rnd_b (th 10); obtain ⟨o0a, o0b⟩ := (hb97 : In _ _ _); obtain ⟨o1a, o1b⟩ := (hb24 : In _ _ _); obtain ⟨o3a, o3b⟩ := (hb27 : In _ _ _); obtain ⟨o4a, o4b⟩ := (eL103R : In _ _ _); obtain ⟨o5a, o5b⟩ := (hv14_173 : In _ _ _); obtain ⟨o6a, o6b⟩ := (hv15_173 : In _ _ _); obtain ⟨o7a, o7b⟩ := (hv17_173 : In _ _ _); obtain ⟨o8a, o8b⟩ := (hv20_173 : In _ _ _); obtain ⟨o9a, o9b⟩ := (hv23_173 : In _ _ _); obtain ⟨o10a, o10b⟩ := (hv25_173 : In _ _ _); obtain ⟨o11a, o11b⟩ := (hv36_173 : In _ _ _); obtain ⟨o12a, o12b⟩ := (hv47_173 : In _ _ _); obtain ⟨o13a, o13b⟩ := (hv48_173 : In _ _ _); obtain ⟨o14a, o14b⟩ := (hv53_173 : In _ _ _); obtain ⟨o15a, o15b⟩ := (hv55_173 : In _ _ _); obtain ⟨o16a, o16b⟩ := (hb98 : In _ _ _); omega)) hP hD hS (TI.cast hT (by funext q; by_cases hq0 : q = 39; (subst hq0; rfl); simp only [gset, if_neg hq0])) hfr (lv_sub hl [0, 1, 2, 3, 4, 5] rfl)
                ·
                  have oc0 : (0 : Int32).toInt = 0 := by decide
                  have cc195 : r184.toInt ≠ (0 : Int32).toInt := i32_ne c192
                  have hb196 : In r184 1 1 := In.ne1 eL188R (⟨by decide, by decide⟩ : In 0 0 0) cc195 (by decide) (by decide)
                  refine lv_aload_n hx hb dX11_shown_192 rfl (lv_at hl 0 rfl) ?_
                  refine lv_bipush (v := 63) hx hb dX11_shown_193 (by decide) ?_
                  refine call_v (run_V (rm := rm_X11_shows) hx hb hml hown hts (s_X11_shows l g ad (gset th 39 zg175_zs) _ _ _ 63 hst hT (show zg175_zs < 200 from (by have ob10 : (0 : Int) ≤ (th 10) ∧ (th 10) ≤ 1 := (b0_10 hT :); have ob11 : (0 : Int) ≤ (th 11) ∧ (th 11) ≤ 9 := (b0_11 hT :); have ob12 : (0 : Int) ≤ (th 12) ∧ (th 12) ≤ 6 := (b0_12 hT :); have ob14 : (0 : Int) ≤ (th 14) ∧ (th 14) ≤ 511 := (b0_14 hT :); have ob15 : (0 : Int) ≤ (th 15) ∧ (th 15) ≤ 1 := (b0_15 hT :); have ob16 : (0 : Int) ≤ (th 16) ∧ (th 16) ≤ 20 := (b0_16 hT :); have ob17 : (0 : Int) ≤ (th 17) ∧ (th 17) ≤ 1 := (b0_17 hT :); have ob18 : (0 : Int) ≤ (th 18) ∧ (th 18) ≤ 18 := (b0_18 hT :); have ob38 : (0 : Int) ≤ (th 38) ∧ (th 38) ≤ 400 := (b0_38 hT :); have ob39 : (0 : Int) ≤ zg175_zs ∧ zg175_zs ≤ 200 := (b0_39 hT :); have ob44 : (0 : Int) ≤ (th 44) ∧ (th 44) ≤ 30 := (b0_44 hT :); have orn := rnd_b (th 10); obtain ⟨o0a, o0b⟩ := (hv14_173 : In _ _ _); obtain ⟨o1a, o1b⟩ := (hv15_173 : In _ _ _); obtain ⟨o2a, o2b⟩ := (hv17_173 : In _ _ _); obtain ⟨o3a, o3b⟩ := (hv20_173 : In _ _ _); obtain ⟨o4a, o4b⟩ := (hv23_173 : In _ _ _); obtain ⟨o5a, o5b⟩ := (hv25_173 : In _ _ _); obtain ⟨o6a, o6b⟩ := (hv36_173 : In _ _ _); obtain ⟨o7a, o7b⟩ := (hv47_173 : In _ _ _); obtain ⟨o8a, o8b⟩ := (hv48_173 : In _ _ _); obtain ⟨o9a, o9b⟩ := (hv53_173 : In _ _ _); obtain ⟨o10a, o10b⟩ := (hv55_173 : In _ _ _); omega))) cV_X11_shows wg_1929 ⟨Nat.le_of_ble_eq_true rfl, Nat.le_of_ble_eq_true rfl⟩ hG hE hA hP hD hS (hst.1 255 (by decide)) hf174 rfl rfl hl.1 (As := [.int 63]) (rest := []) rfl (Nat.le_of_ble_eq_true rfl) dX11_shown_195 ⟨Nat.le_of_ble_eq_true rfl, Nat.le_of_ble_eq_true rfl⟩) hA hD hS (fun L198 f199 H locs hp200 hP hD hS => ?_)
                  obtain ⟨eL201L, eL201T, eL201F⟩ := hp200
                  have eL201L : L198 = L := eL201L
                  rw [eL201L] at hP hD
                  obtain ⟨zz202, hzz202, eL201T⟩ := eL201T
                  have hzz202 : zz202 = zg175_zs + 1 := hzz202
                  have hT : TI g ad (gset (gset th 39 zg175_zs) 39 zz202) f199 := eL201T
                  have hT : TI g ad (gset th 39 zz202) f199 := TI.cast hT (by funext q; by_cases hq0 : q = 39; (subst hq0; rfl); simp only [gset, if_neg hq0])
                  have eL201F : ∀ b, b ≠ (ad 255) → b ≠ (ad 277) → f199 b = f_175 b := eL201F
                  have hfr : (∀ b, b ≠ (ad 255) → b ≠ (ad 277) → f199 b = f b) := fun b z0_ z1_ => (eL201F b z0_ z1_).trans (hfr b z0_ z1_)
                  exact hJ198 zz202 _ _ _ _ (show (0 ≤ zz202 ∧ zz202 ≤ 15 + 9 * y68_l4.toInt + 9) from (by have ob10 : (0 : Int) ≤ (th 10) ∧ (th 10) ≤ 1 := (b0_10 hT :); have ob11 : (0 : Int) ≤ (th 11) ∧ (th 11) ≤ 9 := (b0_11 hT :); have ob12 : (0 : Int) ≤ (th 12) ∧ (th 12) ≤ 6 := (b0_12 hT :); have ob14 : (0 : Int) ≤ (th 14) ∧ (th 14) ≤ 511 := (b0_14 hT :); have ob15 : (0 : Int) ≤ (th 15) ∧ (th 15) ≤ 1 := (b0_15 hT :); have ob16 : (0 : Int) ≤ (th 16) ∧ (th 16) ≤ 20 := (b0_16 hT :); have ob17 : (0 : Int) ≤ (th 17) ∧ (th 17) ≤ 1 := (b0_17 hT :); have ob18 : (0 : Int) ≤ (th 18) ∧ (th 18) ≤ 18 := (b0_18 hT :); have ob38 : (0 : Int) ≤ (th 38) ∧ (th 38) ≤ 400 := (b0_38 hT :); have ob39 : (0 : Int) ≤ zz202 ∧ zz202 ≤ 200 := (b0_39 hT :); have ob44 : (0 : Int) ≤ (th 44) ∧ (th 44) ≤ 30 := (b0_44 hT :); have orn := rnd_b (th 10); obtain ⟨o0a, o0b⟩ := (hb97 : In _ _ _); obtain ⟨o1a, o1b⟩ := (hb24 : In _ _ _); obtain ⟨o3a, o3b⟩ := (hb27 : In _ _ _); obtain ⟨o4a, o4b⟩ := (eL103R : In _ _ _); obtain ⟨o5a, o5b⟩ := (hb98 : In _ _ _); omega)) hP hD hS (TI.cast hT (by funext q; by_cases hq0 : q = 39; (subst hq0; rfl); simp only [gset, if_neg hq0])) hfr (lv_sub hl [0, 1, 2, 3, 4, 5] rfl)
              refine lv_icmp_ne (tgt := 175) hx hb dX11_shown_166 (by decide) (fun c203 => ?_) (fun c203 => ?_)
              ·
                have oc1 : (1 : Int32).toInt = 1 := by decide
                have cc204 : x172.toInt ≠ (1 : Int32).toInt := i32_ne c203
                exact hJ175 zg155_zs _ _ _ _ (show (0 ≤ zg155_zs ∧ zg155_zs ≤ 15 + 9 * y68_l4.toInt + 8) from (by have ob10 : (0 : Int) ≤ (th 10) ∧ (th 10) ≤ 1 := (b0_10 hT :); have ob11 : (0 : Int) ≤ (th 11) ∧ (th 11) ≤ 9 := (b0_11 hT :); have ob12 : (0 : Int) ≤ (th 12) ∧ (th 12) ≤ 6 := (b0_12 hT :); have ob14 : (0 : Int) ≤ (th 14) ∧ (th 14) ≤ 511 := (b0_14 hT :); have ob15 : (0 : Int) ≤ (th 15) ∧ (th 15) ≤ 1 := (b0_15 hT :); have ob16 : (0 : Int) ≤ (th 16) ∧ (th 16) ≤ 20 := (b0_16 hT :); have ob17 : (0 : Int) ≤ (th 17) ∧ (th 17) ≤ 1 := (b0_17 hT :); have ob18 : (0 : Int) ≤ (th 18) ∧ (th 18) ≤ 18 := (b0_18 hT :); have ob38 : (0 : Int) ≤ (th 38) ∧ (th 38) ≤ 400 := (b0_38 hT :); have ob39 : (0 : Int) ≤ zg155_zs ∧ zg155_zs ≤ 200 := (b0_39 hT :); have ob44 : (0 : Int) ≤ (th 44) ∧ (th 44) ≤ 30 := (b0_44 hT :); have orn := rnd_b (th 10); obtain ⟨o0a, o0b⟩ := (hb97 : In _ _ _); obtain ⟨o1a, o1b⟩ := (hb24 : In _ _ _); obtain ⟨o3a, o3b⟩ := (hb27 : In _ _ _); obtain ⟨o4a, o4b⟩ := (eL103R : In _ _ _); obtain ⟨o5a, o5b⟩ := (hv14_162 : In _ _ _); obtain ⟨o6a, o6b⟩ := (hv15_162 : In _ _ _); obtain ⟨o7a, o7b⟩ := (hv17_162 : In _ _ _); obtain ⟨o8a, o8b⟩ := (hv20_162 : In _ _ _); obtain ⟨o9a, o9b⟩ := (hv23_162 : In _ _ _); obtain ⟨o10a, o10b⟩ := (hv25_162 : In _ _ _); obtain ⟨o11a, o11b⟩ := (hv36_162 : In _ _ _); obtain ⟨o12a, o12b⟩ := (hv47_162 : In _ _ _); obtain ⟨o13a, o13b⟩ := (hv48_162 : In _ _ _); obtain ⟨o14a, o14b⟩ := (hv53_162 : In _ _ _); obtain ⟨o15a, o15b⟩ := (hv55_162 : In _ _ _); obtain ⟨o16a, o16b⟩ := (hb98 : In _ _ _); omega)) hP hD hS (TI.cast hT (by funext q; by_cases hq0 : q = 39; (subst hq0; rfl); simp only [gset, if_neg hq0])) hfr (lv_sub hl [0, 1, 2, 3, 4, 5] rfl)
              ·
                have oc1 : (1 : Int32).toInt = 1 := by decide
                have cc205 : x172.toInt = (1 : Int32).toInt := congrArg Int32.toInt c203
                have hb206 : In x172 1 1 := In.eq1 (In.full x172) (⟨by decide, by decide⟩ : In 1 1 1) cc205 (by decide) (by decide)
                refine lv_aload_n hx hb dX11_shown_169 rfl (lv_at hl 0 rfl) ?_
                refine lv_bipush (v := 60) hx hb dX11_shown_170 (by decide) ?_
                refine call_v (run_V (rm := rm_X11_shows) hx hb hml hown hts (s_X11_shows l g ad (gset th 39 zg155_zs) _ _ _ 60 hst hT (show zg155_zs < 200 from (by have ob10 : (0 : Int) ≤ (th 10) ∧ (th 10) ≤ 1 := (b0_10 hT :); have ob11 : (0 : Int) ≤ (th 11) ∧ (th 11) ≤ 9 := (b0_11 hT :); have ob12 : (0 : Int) ≤ (th 12) ∧ (th 12) ≤ 6 := (b0_12 hT :); have ob14 : (0 : Int) ≤ (th 14) ∧ (th 14) ≤ 511 := (b0_14 hT :); have ob15 : (0 : Int) ≤ (th 15) ∧ (th 15) ≤ 1 := (b0_15 hT :); have ob16 : (0 : Int) ≤ (th 16) ∧ (th 16) ≤ 20 := (b0_16 hT :); have ob17 : (0 : Int) ≤ (th 17) ∧ (th 17) ≤ 1 := (b0_17 hT :); have ob18 : (0 : Int) ≤ (th 18) ∧ (th 18) ≤ 18 := (b0_18 hT :); have ob38 : (0 : Int) ≤ (th 38) ∧ (th 38) ≤ 400 := (b0_38 hT :); have ob39 : (0 : Int) ≤ zg155_zs ∧ zg155_zs ≤ 200 := (b0_39 hT :); have ob44 : (0 : Int) ≤ (th 44) ∧ (th 44) ≤ 30 := (b0_44 hT :); have orn := rnd_b (th 10); obtain ⟨o0a, o0b⟩ := (hv14_162 : In _ _ _); obtain ⟨o1a, o1b⟩ := (hv15_162 : In _ _ _); obtain ⟨o2a, o2b⟩ := (hv17_162 : In _ _ _); obtain ⟨o3a, o3b⟩ := (hv20_162 : In _ _ _); obtain ⟨o4a, o4b⟩ := (hv23_162 : In _ _ _); obtain ⟨o5a, o5b⟩ := (hv25_162 : In _ _ _); obtain ⟨o6a, o6b⟩ := (hv36_162 : In _ _ _); obtain ⟨o7a, o7b⟩ := (hv47_162 : In _ _ _); obtain ⟨o8a, o8b⟩ := (hv48_162 : In _ _ _); obtain ⟨o9a, o9b⟩ := (hv53_162 : In _ _ _); obtain ⟨o10a, o10b⟩ := (hv55_162 : In _ _ _); omega))) cV_X11_shows wg_1929 ⟨Nat.le_of_ble_eq_true rfl, Nat.le_of_ble_eq_true rfl⟩ hG hE hA hP hD hS (hst.1 255 (by decide)) hf163 rfl rfl hl.1 (As := [.int 60]) (rest := []) rfl (Nat.le_of_ble_eq_true rfl) dX11_shown_172 ⟨Nat.le_of_ble_eq_true rfl, Nat.le_of_ble_eq_true rfl⟩) hA hD hS (fun L208 f209 H locs hp210 hP hD hS => ?_)
                obtain ⟨eL211L, eL211T, eL211F⟩ := hp210
                have eL211L : L208 = L := eL211L
                rw [eL211L] at hP hD
                obtain ⟨zz212, hzz212, eL211T⟩ := eL211T
                have hzz212 : zz212 = zg155_zs + 1 := hzz212
                have hT : TI g ad (gset (gset th 39 zg155_zs) 39 zz212) f209 := eL211T
                have hT : TI g ad (gset th 39 zz212) f209 := TI.cast hT (by funext q; by_cases hq0 : q = 39; (subst hq0; rfl); simp only [gset, if_neg hq0])
                have eL211F : ∀ b, b ≠ (ad 255) → b ≠ (ad 277) → f209 b = f_155 b := eL211F
                have hfr : (∀ b, b ≠ (ad 255) → b ≠ (ad 277) → f209 b = f b) := fun b z0_ z1_ => (eL211F b z0_ z1_).trans (hfr b z0_ z1_)
                exact hJ175 zz212 _ _ _ _ (show (0 ≤ zz212 ∧ zz212 ≤ 15 + 9 * y68_l4.toInt + 8) from (by have ob10 : (0 : Int) ≤ (th 10) ∧ (th 10) ≤ 1 := (b0_10 hT :); have ob11 : (0 : Int) ≤ (th 11) ∧ (th 11) ≤ 9 := (b0_11 hT :); have ob12 : (0 : Int) ≤ (th 12) ∧ (th 12) ≤ 6 := (b0_12 hT :); have ob14 : (0 : Int) ≤ (th 14) ∧ (th 14) ≤ 511 := (b0_14 hT :); have ob15 : (0 : Int) ≤ (th 15) ∧ (th 15) ≤ 1 := (b0_15 hT :); have ob16 : (0 : Int) ≤ (th 16) ∧ (th 16) ≤ 20 := (b0_16 hT :); have ob17 : (0 : Int) ≤ (th 17) ∧ (th 17) ≤ 1 := (b0_17 hT :); have ob18 : (0 : Int) ≤ (th 18) ∧ (th 18) ≤ 18 := (b0_18 hT :); have ob38 : (0 : Int) ≤ (th 38) ∧ (th 38) ≤ 400 := (b0_38 hT :); have ob39 : (0 : Int) ≤ zz212 ∧ zz212 ≤ 200 := (b0_39 hT :); have ob44 : (0 : Int) ≤ (th 44) ∧ (th 44) ≤ 30 := (b0_44 hT :); have orn := rnd_b (th 10); obtain ⟨o0a, o0b⟩ := (hb97 : In _ _ _); obtain ⟨o1a, o1b⟩ := (hb24 : In _ _ _); obtain ⟨o3a, o3b⟩ := (hb27 : In _ _ _); obtain ⟨o4a, o4b⟩ := (eL103R : In _ _ _); obtain ⟨o5a, o5b⟩ := (hb98 : In _ _ _); omega)) hP hD hS (TI.cast hT (by funext q; by_cases hq0 : q = 39; (subst hq0; rfl); simp only [gset, if_neg hq0])) hfr (lv_sub hl [0, 1, 2, 3, 4, 5] rfl)
            refine lv_icmp_ne (tgt := 155) hx hb dX11_shown_146 (by decide) (fun c213 => ?_) (fun c213 => ?_)
            ·
              have oc1 : (1 : Int32).toInt = 1 := by decide
              have cc214 : x161.toInt ≠ (1 : Int32).toInt := i32_ne c213
              exact hJ155 zz150 _ _ _ _ (show (0 ≤ zz150 ∧ zz150 ≤ 15 + 9 * y68_l4.toInt + 7) from (by have ob10 : (0 : Int) ≤ (th 10) ∧ (th 10) ≤ 1 := (b0_10 hT :); have ob11 : (0 : Int) ≤ (th 11) ∧ (th 11) ≤ 9 := (b0_11 hT :); have ob12 : (0 : Int) ≤ (th 12) ∧ (th 12) ≤ 6 := (b0_12 hT :); have ob14 : (0 : Int) ≤ (th 14) ∧ (th 14) ≤ 511 := (b0_14 hT :); have ob15 : (0 : Int) ≤ (th 15) ∧ (th 15) ≤ 1 := (b0_15 hT :); have ob16 : (0 : Int) ≤ (th 16) ∧ (th 16) ≤ 20 := (b0_16 hT :); have ob17 : (0 : Int) ≤ (th 17) ∧ (th 17) ≤ 1 := (b0_17 hT :); have ob18 : (0 : Int) ≤ (th 18) ∧ (th 18) ≤ 18 := (b0_18 hT :); have ob38 : (0 : Int) ≤ (th 38) ∧ (th 38) ≤ 400 := (b0_38 hT :); have ob39 : (0 : Int) ≤ zz150 ∧ zz150 ≤ 200 := (b0_39 hT :); have ob44 : (0 : Int) ≤ (th 44) ∧ (th 44) ≤ 30 := (b0_44 hT :); have orn := rnd_b (th 10); obtain ⟨o0a, o0b⟩ := (hb97 : In _ _ _); obtain ⟨o1a, o1b⟩ := (hb24 : In _ _ _); obtain ⟨o3a, o3b⟩ := (hb27 : In _ _ _); obtain ⟨o4a, o4b⟩ := (eL103R : In _ _ _); obtain ⟨o5a, o5b⟩ := (hv14_151 : In _ _ _); obtain ⟨o6a, o6b⟩ := (hv15_151 : In _ _ _); obtain ⟨o7a, o7b⟩ := (hv17_151 : In _ _ _); obtain ⟨o8a, o8b⟩ := (hv20_151 : In _ _ _); obtain ⟨o9a, o9b⟩ := (hv23_151 : In _ _ _); obtain ⟨o10a, o10b⟩ := (hv25_151 : In _ _ _); obtain ⟨o11a, o11b⟩ := (hv36_151 : In _ _ _); obtain ⟨o12a, o12b⟩ := (hv47_151 : In _ _ _); obtain ⟨o13a, o13b⟩ := (hv48_151 : In _ _ _); obtain ⟨o14a, o14b⟩ := (hv53_151 : In _ _ _); obtain ⟨o15a, o15b⟩ := (hv55_151 : In _ _ _); obtain ⟨o16a, o16b⟩ := (hb98 : In _ _ _); omega)) hP hD hS (TI.cast hT (by funext q; by_cases hq0 : q = 39; (subst hq0; rfl); simp only [gset, if_neg hq0])) hfr (lv_sub hl [0, 1, 2, 3, 4, 5] rfl)
            ·
              have oc1 : (1 : Int32).toInt = 1 := by decide
              have cc215 : x161.toInt = (1 : Int32).toInt := congrArg Int32.toInt c213
              have hb216 : In x161 1 1 := In.eq1 (In.full x161) (⟨by decide, by decide⟩ : In 1 1 1) cc215 (by decide) (by decide)
              refine lv_aload_n hx hb dX11_shown_149 rfl (lv_at hl 0 rfl) ?_
              refine lv_bipush (v := 33) hx hb dX11_shown_150 (by decide) ?_
              refine call_v (run_V (rm := rm_X11_shows) hx hb hml hown hts (s_X11_shows l g ad (gset th 39 zz150) _ _ _ 33 hst hT (show zz150 < 200 from (by have ob10 : (0 : Int) ≤ (th 10) ∧ (th 10) ≤ 1 := (b0_10 hT :); have ob11 : (0 : Int) ≤ (th 11) ∧ (th 11) ≤ 9 := (b0_11 hT :); have ob12 : (0 : Int) ≤ (th 12) ∧ (th 12) ≤ 6 := (b0_12 hT :); have ob14 : (0 : Int) ≤ (th 14) ∧ (th 14) ≤ 511 := (b0_14 hT :); have ob15 : (0 : Int) ≤ (th 15) ∧ (th 15) ≤ 1 := (b0_15 hT :); have ob16 : (0 : Int) ≤ (th 16) ∧ (th 16) ≤ 20 := (b0_16 hT :); have ob17 : (0 : Int) ≤ (th 17) ∧ (th 17) ≤ 1 := (b0_17 hT :); have ob18 : (0 : Int) ≤ (th 18) ∧ (th 18) ≤ 18 := (b0_18 hT :); have ob38 : (0 : Int) ≤ (th 38) ∧ (th 38) ≤ 400 := (b0_38 hT :); have ob39 : (0 : Int) ≤ zz150 ∧ zz150 ≤ 200 := (b0_39 hT :); have ob44 : (0 : Int) ≤ (th 44) ∧ (th 44) ≤ 30 := (b0_44 hT :); have orn := rnd_b (th 10); obtain ⟨o0a, o0b⟩ := (hv14_151 : In _ _ _); obtain ⟨o1a, o1b⟩ := (hv15_151 : In _ _ _); obtain ⟨o2a, o2b⟩ := (hv17_151 : In _ _ _); obtain ⟨o3a, o3b⟩ := (hv20_151 : In _ _ _); obtain ⟨o4a, o4b⟩ := (hv23_151 : In _ _ _); obtain ⟨o5a, o5b⟩ := (hv25_151 : In _ _ _); obtain ⟨o6a, o6b⟩ := (hv36_151 : In _ _ _); obtain ⟨o7a, o7b⟩ := (hv47_151 : In _ _ _); obtain ⟨o8a, o8b⟩ := (hv48_151 : In _ _ _); obtain ⟨o9a, o9b⟩ := (hv53_151 : In _ _ _); obtain ⟨o10a, o10b⟩ := (hv55_151 : In _ _ _); omega))) cV_X11_shows wg_1929 ⟨Nat.le_of_ble_eq_true rfl, Nat.le_of_ble_eq_true rfl⟩ hG hE hA hP hD hS (hst.1 255 (by decide)) hf152 rfl rfl hl.1 (As := [.int 33]) (rest := []) rfl (Nat.le_of_ble_eq_true rfl) dX11_shown_152 ⟨Nat.le_of_ble_eq_true rfl, Nat.le_of_ble_eq_true rfl⟩) hA hD hS (fun L218 f219 H locs hp220 hP hD hS => ?_)
              obtain ⟨eL221L, eL221T, eL221F⟩ := hp220
              have eL221L : L218 = L := eL221L
              rw [eL221L] at hP hD
              obtain ⟨zz222, hzz222, eL221T⟩ := eL221T
              have hzz222 : zz222 = zz150 + 1 := hzz222
              have hT : TI g ad (gset (gset th 39 zz150) 39 zz222) f219 := eL221T
              have hT : TI g ad (gset th 39 zz222) f219 := TI.cast hT (by funext q; by_cases hq0 : q = 39; (subst hq0; rfl); simp only [gset, if_neg hq0])
              have eL221F : ∀ b, b ≠ (ad 255) → b ≠ (ad 277) → f219 b = f147 b := eL221F
              have hfr : (∀ b, b ≠ (ad 255) → b ≠ (ad 277) → f219 b = f b) := fun b z0_ z1_ => (eL221F b z0_ z1_).trans (hfr b z0_ z1_)
              exact hJ155 zz222 _ _ _ _ (show (0 ≤ zz222 ∧ zz222 ≤ 15 + 9 * y68_l4.toInt + 7) from (by have ob10 : (0 : Int) ≤ (th 10) ∧ (th 10) ≤ 1 := (b0_10 hT :); have ob11 : (0 : Int) ≤ (th 11) ∧ (th 11) ≤ 9 := (b0_11 hT :); have ob12 : (0 : Int) ≤ (th 12) ∧ (th 12) ≤ 6 := (b0_12 hT :); have ob14 : (0 : Int) ≤ (th 14) ∧ (th 14) ≤ 511 := (b0_14 hT :); have ob15 : (0 : Int) ≤ (th 15) ∧ (th 15) ≤ 1 := (b0_15 hT :); have ob16 : (0 : Int) ≤ (th 16) ∧ (th 16) ≤ 20 := (b0_16 hT :); have ob17 : (0 : Int) ≤ (th 17) ∧ (th 17) ≤ 1 := (b0_17 hT :); have ob18 : (0 : Int) ≤ (th 18) ∧ (th 18) ≤ 18 := (b0_18 hT :); have ob38 : (0 : Int) ≤ (th 38) ∧ (th 38) ≤ 400 := (b0_38 hT :); have ob39 : (0 : Int) ≤ zz222 ∧ zz222 ≤ 200 := (b0_39 hT :); have ob44 : (0 : Int) ≤ (th 44) ∧ (th 44) ≤ 30 := (b0_44 hT :); have orn := rnd_b (th 10); obtain ⟨o0a, o0b⟩ := (hb97 : In _ _ _); obtain ⟨o1a, o1b⟩ := (hb24 : In _ _ _); obtain ⟨o3a, o3b⟩ := (hb27 : In _ _ _); obtain ⟨o4a, o4b⟩ := (eL103R : In _ _ _); obtain ⟨o5a, o5b⟩ := (hb98 : In _ _ _); omega)) hP hD hS (TI.cast hT (by funext q; by_cases hq0 : q = 39; (subst hq0; rfl); simp only [gset, if_neg hq0])) hfr (lv_sub hl [0, 1, 2, 3, 4, 5] rfl)
          refine lv_if_ne (tgt := 107) hx hb dX11_shown_98 (by decide) (fun c223 => ?_) (fun c223 => ?_)
          ·
            have oc0 : (0 : Int32).toInt = 0 := by decide
            have cc224 : r112.toInt ≠ (0 : Int32).toInt := i32_ne c223
            have hb225 : In r112 1 1 := In.ne1 eL116R (⟨by decide, by decide⟩ : In 0 0 0) cc224 (by decide) (by decide)
            exact hJ107 zz109 _ _ _ _ (show (0 ≤ zz109 ∧ zz109 ≤ 15 + 9 * y68_l4.toInt + 3) from (by have ob10 : (0 : Int) ≤ (th 10) ∧ (th 10) ≤ 1 := (b0_10 hT :); have ob11 : (0 : Int) ≤ (th 11) ∧ (th 11) ≤ 9 := (b0_11 hT :); have ob12 : (0 : Int) ≤ (th 12) ∧ (th 12) ≤ 6 := (b0_12 hT :); have ob14 : (0 : Int) ≤ (th 14) ∧ (th 14) ≤ 511 := (b0_14 hT :); have ob15 : (0 : Int) ≤ (th 15) ∧ (th 15) ≤ 1 := (b0_15 hT :); have ob16 : (0 : Int) ≤ (th 16) ∧ (th 16) ≤ 20 := (b0_16 hT :); have ob17 : (0 : Int) ≤ (th 17) ∧ (th 17) ≤ 1 := (b0_17 hT :); have ob18 : (0 : Int) ≤ (th 18) ∧ (th 18) ≤ 18 := (b0_18 hT :); have ob38 : (0 : Int) ≤ (th 38) ∧ (th 38) ≤ 400 := (b0_38 hT :); have ob39 : (0 : Int) ≤ zz109 ∧ zz109 ≤ 200 := (b0_39 hT :); have ob44 : (0 : Int) ≤ (th 44) ∧ (th 44) ≤ 30 := (b0_44 hT :); have orn := rnd_b (th 10); obtain ⟨o0a, o0b⟩ := (hb97 : In _ _ _); obtain ⟨o1a, o1b⟩ := (hb24 : In _ _ _); obtain ⟨o3a, o3b⟩ := (hb27 : In _ _ _); obtain ⟨o4a, o4b⟩ := (eL103R : In _ _ _); obtain ⟨o5a, o5b⟩ := (hv14_110 : In _ _ _); obtain ⟨o6a, o6b⟩ := (hv15_110 : In _ _ _); obtain ⟨o7a, o7b⟩ := (hv17_110 : In _ _ _); obtain ⟨o8a, o8b⟩ := (hv20_110 : In _ _ _); obtain ⟨o9a, o9b⟩ := (hv23_110 : In _ _ _); obtain ⟨o10a, o10b⟩ := (hv25_110 : In _ _ _); obtain ⟨o11a, o11b⟩ := (hv36_110 : In _ _ _); obtain ⟨o12a, o12b⟩ := (hv47_110 : In _ _ _); obtain ⟨o13a, o13b⟩ := (hv48_110 : In _ _ _); obtain ⟨o14a, o14b⟩ := (hv53_110 : In _ _ _); obtain ⟨o15a, o15b⟩ := (hv55_110 : In _ _ _); obtain ⟨o16a, o16b⟩ := (hb98 : In _ _ _); omega)) hP hD hS (TI.cast hT (by funext q; by_cases hq0 : q = 39; (subst hq0; rfl); simp only [gset, if_neg hq0])) hfr (lv_sub hl [1, 2, 3, 4, 5, 0] rfl)
          ·
            have oc0 : (0 : Int32).toInt = 0 := by decide
            have cc226 : r112.toInt = (0 : Int32).toInt := congrArg Int32.toInt c223
            have hb227 : In r112 0 0 := In.eq1 eL116R (⟨by decide, by decide⟩ : In 0 0 0) cc226 (by decide) (by decide)
            refine lv_aload_n hx hb dX11_shown_101 rfl (lv_at hl 1 rfl) ?_
            refine lv_bipush (v := 120) hx hb dX11_shown_102 (by decide) ?_
            refine call_v (run_V (rm := rm_X11_shows) hx hb hml hown hts (s_X11_shows l g ad (gset th 39 zz109) _ _ _ 120 hst hT (show zz109 < 200 from (by have ob10 : (0 : Int) ≤ (th 10) ∧ (th 10) ≤ 1 := (b0_10 hT :); have ob11 : (0 : Int) ≤ (th 11) ∧ (th 11) ≤ 9 := (b0_11 hT :); have ob12 : (0 : Int) ≤ (th 12) ∧ (th 12) ≤ 6 := (b0_12 hT :); have ob14 : (0 : Int) ≤ (th 14) ∧ (th 14) ≤ 511 := (b0_14 hT :); have ob15 : (0 : Int) ≤ (th 15) ∧ (th 15) ≤ 1 := (b0_15 hT :); have ob16 : (0 : Int) ≤ (th 16) ∧ (th 16) ≤ 20 := (b0_16 hT :); have ob17 : (0 : Int) ≤ (th 17) ∧ (th 17) ≤ 1 := (b0_17 hT :); have ob18 : (0 : Int) ≤ (th 18) ∧ (th 18) ≤ 18 := (b0_18 hT :); have ob38 : (0 : Int) ≤ (th 38) ∧ (th 38) ≤ 400 := (b0_38 hT :); have ob39 : (0 : Int) ≤ zz109 ∧ zz109 ≤ 200 := (b0_39 hT :); have ob44 : (0 : Int) ≤ (th 44) ∧ (th 44) ≤ 30 := (b0_44 hT :); have orn := rnd_b (th 10); obtain ⟨o0a, o0b⟩ := (hv14_110 : In _ _ _); obtain ⟨o1a, o1b⟩ := (hv15_110 : In _ _ _); obtain ⟨o2a, o2b⟩ := (hv17_110 : In _ _ _); obtain ⟨o3a, o3b⟩ := (hv20_110 : In _ _ _); obtain ⟨o4a, o4b⟩ := (hv23_110 : In _ _ _); obtain ⟨o5a, o5b⟩ := (hv25_110 : In _ _ _); obtain ⟨o6a, o6b⟩ := (hv36_110 : In _ _ _); obtain ⟨o7a, o7b⟩ := (hv47_110 : In _ _ _); obtain ⟨o8a, o8b⟩ := (hv48_110 : In _ _ _); obtain ⟨o9a, o9b⟩ := (hv53_110 : In _ _ _); obtain ⟨o10a, o10b⟩ := (hv55_110 : In _ _ _); omega))) cV_X11_shows wg_1929 ⟨Nat.le_of_ble_eq_true rfl, Nat.le_of_ble_eq_true rfl⟩ hG hE hA hP hD hS (hst.1 255 (by decide)) hf111 rfl rfl hl.1 (As := [.int 120]) (rest := []) rfl (Nat.le_of_ble_eq_true rfl) dX11_shown_104 ⟨Nat.le_of_ble_eq_true rfl, Nat.le_of_ble_eq_true rfl⟩) hA hD hS (fun L229 f230 H locs hp231 hP hD hS => ?_)
            obtain ⟨eL232L, eL232T, eL232F⟩ := hp231
            have eL232L : L229 = L := eL232L
            rw [eL232L] at hP hD
            obtain ⟨zz233, hzz233, eL232T⟩ := eL232T
            have hzz233 : zz233 = zz109 + 1 := hzz233
            have hT : TI g ad (gset (gset th 39 zz109) 39 zz233) f230 := eL232T
            have hT : TI g ad (gset th 39 zz233) f230 := TI.cast hT (by funext q; by_cases hq0 : q = 39; (subst hq0; rfl); simp only [gset, if_neg hq0])
            have eL232F : ∀ b, b ≠ (ad 255) → b ≠ (ad 277) → f230 b = f106 b := eL232F
            have hfr : (∀ b, b ≠ (ad 255) → b ≠ (ad 277) → f230 b = f b) := fun b z0_ z1_ => (eL232F b z0_ z1_).trans (hfr b z0_ z1_)
            exact hJ107 zz233 _ _ _ _ (show (0 ≤ zz233 ∧ zz233 ≤ 15 + 9 * y68_l4.toInt + 3) from (by have ob10 : (0 : Int) ≤ (th 10) ∧ (th 10) ≤ 1 := (b0_10 hT :); have ob11 : (0 : Int) ≤ (th 11) ∧ (th 11) ≤ 9 := (b0_11 hT :); have ob12 : (0 : Int) ≤ (th 12) ∧ (th 12) ≤ 6 := (b0_12 hT :); have ob14 : (0 : Int) ≤ (th 14) ∧ (th 14) ≤ 511 := (b0_14 hT :); have ob15 : (0 : Int) ≤ (th 15) ∧ (th 15) ≤ 1 := (b0_15 hT :); have ob16 : (0 : Int) ≤ (th 16) ∧ (th 16) ≤ 20 := (b0_16 hT :); have ob17 : (0 : Int) ≤ (th 17) ∧ (th 17) ≤ 1 := (b0_17 hT :); have ob18 : (0 : Int) ≤ (th 18) ∧ (th 18) ≤ 18 := (b0_18 hT :); have ob38 : (0 : Int) ≤ (th 38) ∧ (th 38) ≤ 400 := (b0_38 hT :); have ob39 : (0 : Int) ≤ zz233 ∧ zz233 ≤ 200 := (b0_39 hT :); have ob44 : (0 : Int) ≤ (th 44) ∧ (th 44) ≤ 30 := (b0_44 hT :); have orn := rnd_b (th 10); obtain ⟨o0a, o0b⟩ := (hb97 : In _ _ _); obtain ⟨o1a, o1b⟩ := (hb24 : In _ _ _); obtain ⟨o3a, o3b⟩ := (hb27 : In _ _ _); obtain ⟨o4a, o4b⟩ := (eL103R : In _ _ _); obtain ⟨o5a, o5b⟩ := (hb98 : In _ _ _); omega)) hP hD hS (TI.cast hT (by funext q; by_cases hq0 : q = 39; (subst hq0; rfl); simp only [gset, if_neg hq0])) hfr (lv_sub hl [1, 2, 3, 4, 5, 0] rfl)
    exact hJ68 ((9 - (0 : Int32).toInt).toNat + 1) zz68 0 _ _ _ _ (show (0 ≤ zz68 ∧ zz68 ≤ 15 + 9 * (0 : Int32).toInt + 0) from (by have ob10 : (0 : Int) ≤ (th 10) ∧ (th 10) ≤ 1 := (b0_10 hT :); have ob11 : (0 : Int) ≤ (th 11) ∧ (th 11) ≤ 9 := (b0_11 hT :); have ob12 : (0 : Int) ≤ (th 12) ∧ (th 12) ≤ 6 := (b0_12 hT :); have ob14 : (0 : Int) ≤ (th 14) ∧ (th 14) ≤ 511 := (b0_14 hT :); have ob15 : (0 : Int) ≤ (th 15) ∧ (th 15) ≤ 1 := (b0_15 hT :); have ob16 : (0 : Int) ≤ (th 16) ∧ (th 16) ≤ 20 := (b0_16 hT :); have ob17 : (0 : Int) ≤ (th 17) ∧ (th 17) ≤ 1 := (b0_17 hT :); have ob18 : (0 : Int) ≤ (th 18) ∧ (th 18) ≤ 18 := (b0_18 hT :); have ob38 : (0 : Int) ≤ (th 38) ∧ (th 38) ≤ 400 := (b0_38 hT :); have ob39 : (0 : Int) ≤ zz68 ∧ zz68 ≤ 200 := (b0_39 hT :); have ob44 : (0 : Int) ≤ (th 44) ∧ (th 44) ≤ 30 := (b0_44 hT :); have orn := rnd_b (th 10); have oc0 : (0 : Int32).toInt = 0 := (by decide); obtain ⟨o0a, o0b⟩ := (hb24 : In _ _ _); obtain ⟨o2a, o2b⟩ := (hb27 : In _ _ _); omega)) (⟨by decide, by decide⟩ : In 0 0 9) hP hD hS (TI.cast hT (by funext q; by_cases hq0 : q = 39; (subst hq0; rfl); simp only [gset, if_neg hq0])) hfr (lv_sub hl [2, 3, 4, 1, 0] rfl) (msI _)
  ·
    have oc0 : (0 : Int32).toInt = 0 := by decide
    have cc234 : r15.toInt = (0 : Int32).toInt := congrArg Int32.toInt c21
    have hb235 : In r15 0 0 := In.eq1 eL19R (⟨by decide, by decide⟩ : In 0 0 0) cc234 (by decide) (by decide)
    refine lv_iconst (v := (-1)) hx hb dX11_shown_21 (by decide) ?_
    exact ret_i (ty := .int) hx hb hr hlocks (rfl) hP hD hS (Nat.le_of_ble_eq_true rfl) (Nat.le_of_ble_eq_true rfl) (⟨rfl, ⟨th, ⟨(show MI th from hM), (SBM.rf th)⟩, hT⟩, hfr⟩) dX11_shown_22

abbrev rm_X11_mostSuspecting : Room := { frames := 1, cells := 0, slots := 0, locals := 21 }
abbrev po_X11_mostSuspecting (g : GG) (ad : Nat → Nat) (th : Nat → Int) (L : List Nat) (f : HP) (z1 : Int32) : Int32 → (List Nat × HP) → Prop := fun _ u => u.1 = L ∧ u.2 = f
set_option maxHeartbeats 4000000 in
set_option maxRecDepth 100000 in
theorem s_X11_mostSuspecting (l : Launch) (g : GG) (ad : Nat → Nat) (th : Nat → Int) (L : List Nat) (f : HP) (sz : Nat) (z1 : Int32) (hst : ST ad L) (hT : TI g ad th f) (hz1 : In z1 0 1) : MtI l g yX11_mostSuspecting cX11_mostSuspecting 7 (some .int) rm_X11_mostSuspecting [.ref (ad 255), .int z1] L f sz (po_X11_mostSuspecting g ad th L f z1) := by
  refine MtI.of (by decide +kernel) (Nat.le_of_ble_eq_true rfl) ?_
  intro p e s m below meth c A hEn hP hD hS ls hl
  obtain ⟨hx, hb, hr, hml, hown, hlocks, hts, hG, hA, hE, hnm⟩ := hEn
  have hown : s.vm.findClass "RulerWordModel" = some m.cls := hown
  have hl : lv_has ls 7 [(0, .ref (ad 255)), (1, .int z1)] := hl
  refine lv_iconst (v := (-1)) hx hb dX11_mostSuspecting_0 (by decide) ?_
  refine lv_istore_n (lv' := [(2, .int (-1)), (0, .ref (ad 255)), (1, .int z1)]) hx hb dX11_mostSuspecting_1 rfl hl (by decide) rfl (fun ls hl => ?_)
  refine lv_iconst (v := 0) hx hb dX11_mostSuspecting_2 (by decide) ?_
  refine lv_istore_n (lv' := [(3, .int 0), (2, .int (-1)), (0, .ref (ad 255)), (1, .int z1)]) hx hb dX11_mostSuspecting_3 rfl hl (by decide) rfl (fun ls hl => ?_)
  refine lv_iconst (v := 0) hx hb dX11_mostSuspecting_4 (by decide) ?_
  refine lv_istore (lv' := [(4, .int 0), (3, .int 0), (2, .int (-1)), (0, .ref (ad 255)), (1, .int z1)]) hx hb dX11_mostSuspecting_5 hl (by decide) rfl (fun ls hl => ?_)
  have hJ7 : ∀ (k7 : Nat) (y7_l2 : Int32) (y7_l3 : Int32) (y7_l4 : Int32) (H : Heap) (locs : List Loc) (ls : Array Slot), In y7_l2 (-1) 8 → In y7_l3 0 2147483647 → In y7_l4 0 9 → va_P g.1 vwCl (va_pl L f) H → va_D A (va_pl L f) → va_S A s.heap H locs → lv_has ls 7 [(0, .ref (ad 255)), (1, .int z1), (2, .int y7_l2), (3, .int y7_l3), (4, .int y7_l4)] → 9 - y7_l4.toInt < ((k7 : Nat) : Int) → W p l e rm_X11_mostSuspecting s m [.ref (ad 255), .int z1].toArray below meth c H locs 0 0 (MQ below (va_Qi (po_X11_mostSuspecting g ad th L f z1) (PstB g A) A) [.ref (ad 255), .int z1].toArray s rm_X11_mostSuspecting.cells rm_X11_mostSuspecting.slots A) (F0 m 7 ls []) := by
    intro k7
    induction k7 with
    | zero =>
      intro y7_l2 y7_l3 y7_l4 H locs ls hy7_l2 hy7_l3 hy7_l4 hP hD hS hl hmz7
      exact ms0 hy7_l4 hmz7
    | succ k7 ih7 =>
      intro y7_l2 y7_l3 y7_l4 H locs ls hy7_l2 hy7_l3 hy7_l4 hP hD hS hl hmz7
      refine lv_iload hx hb dX11_mostSuspecting_7 (lv_at hl 4 rfl) ?_
      refine lv_aload_n hx hb dX11_mostSuspecting_9 rfl (lv_at hl 0 rfl) ?_
      refine M0e hT (fun v0_1 v2_1 v3_1 v4_1 v5_1 v6_1 v8_1 v9_1 v12_1 v13_1 v14_1 v15_1 v16_1 v17_1 v18_1 v19_1 v20_1 v21_1 v22_1 v23_1 v25_1 v36_1 v37_1 v38_1 v39_1 v40_1 v45_1 v46_1 v47_1 v48_1 v50_1 v51_1 v53_1 v55_1 hf2 hv0_1 hv2_1 hg2_1 hv3_1 hg3_1 hv4_1 hg4_1 hv5_1 hg5_1 hv6_1 hg6_1 hv8_1 hg8_1 hv9_1 hg9_1 hv12_1 hv13_1 hg13_1 hv14_1 hg14_1 hv15_1 hg15_1 hv17_1 hg17_1 hv20_1 hg20_1 hv23_1 hg23_1 hv25_1 hg25_1 hv36_1 hg36_1 hv47_1 hg47_1 hv48_1 hg48_1 hv53_1 hg53_1 hv55_1 hg55_1 hrel0_1 => ?_)
      have hg15_1 : v15_1.toInt = th 11 := hg15_1
      have hg20_1 : v20_1.toInt = th 14 := hg20_1
      refine pl_get (v := .int v15_1) hx hb hts (fun w h => mT (inX11 w h)) hown hG.1 hP (hst.1 255 (by decide)) hf2 rfl 15 (by decide) (hts _ (mT wg_1351)) (fun _ h => h) rfl dX11_mostSuspecting_10 ?_
      refine lv_icmp_ge (tgt := 104) hx hb dX11_mostSuspecting_13 (by decide) (fun c3 => ?_) (fun c3 => ?_)
      ·
        refine lv_iload_n hx hb dX11_mostSuspecting_104 rfl (lv_at hl 2 rfl) ?_
        exact ret_i (ty := .int) hx hb hr hlocks (rfl) hP hD hS (Nat.le_of_ble_eq_true rfl) (Nat.le_of_ble_eq_true rfl) (⟨rfl, rfl⟩) dX11_mostSuspecting_105
      ·
        have cc4 : y7_l4.toInt < v15_1.toInt := i32_nle c3
        have hb5 : In y7_l4 0 8 := In.lt1 hy7_l4 hv15_1 cc4 (by omega) (by omega)
        have hb6 : In v15_1 1 9 := In.lt2 hy7_l4 hv15_1 cc4 (by omega) (by omega)
        refine lv_iconst (v := 0) hx hb dX11_mostSuspecting_16 (by decide) ?_
        refine lv_istore (lv' := [(5, .int 0), (0, .ref (ad 255)), (1, .int z1), (2, .int y7_l2), (3, .int y7_l3), (4, .int y7_l4)]) hx hb dX11_mostSuspecting_17 hl (by decide) rfl (fun ls hl => ?_)
        refine lv_iconst (v := 0) hx hb dX11_mostSuspecting_19 (by decide) ?_
        refine lv_istore (lv' := [(6, .int 0), (5, .int 0), (0, .ref (ad 255)), (1, .int z1), (2, .int y7_l2), (3, .int y7_l3), (4, .int y7_l4)]) hx hb dX11_mostSuspecting_20 hl (by decide) rfl (fun ls hl => ?_)
        have hJ22 : ∀ (k22 : Nat) (y22_l5 : Int32) (y22_l6 : Int32) (H : Heap) (locs : List Loc) (ls : Array Slot), In y22_l5 (-2147483648) 2147483647 → In y22_l6 0 9 → va_P g.1 vwCl (va_pl L f) H → va_D A (va_pl L f) → va_S A s.heap H locs → lv_has ls 7 [(0, .ref (ad 255)), (1, .int z1), (2, .int y7_l2), (3, .int y7_l3), (4, .int y7_l4), (5, .int y22_l5), (6, .int y22_l6)] → 9 - y22_l6.toInt < ((k22 : Nat) : Int) → W p l e rm_X11_mostSuspecting s m [.ref (ad 255), .int z1].toArray below meth c H locs 0 0 (MQ below (va_Qi (po_X11_mostSuspecting g ad th L f z1) (PstB g A) A) [.ref (ad 255), .int z1].toArray s rm_X11_mostSuspecting.cells rm_X11_mostSuspecting.slots A) (F0 m 22 ls []) := by
          intro k22
          induction k22 with
          | zero =>
            intro y22_l5 y22_l6 H locs ls hy22_l5 hy22_l6 hP hD hS hl hmz22
            exact ms0 hy22_l6 hmz22
          | succ k22 ih22 =>
            intro y22_l5 y22_l6 H locs ls hy22_l5 hy22_l6 hP hD hS hl hmz22
            refine lv_iload hx hb dX11_mostSuspecting_22 (lv_at hl 6 rfl) ?_
            refine lv_aload_n hx hb dX11_mostSuspecting_24 rfl (lv_at hl 0 rfl) ?_
            refine pl_get (v := .int v15_1) hx hb hts (fun w h => mT (inX11 w h)) hown hG.1 hP (hst.1 255 (by decide)) hf2 rfl 15 (by decide) (hts _ (mT wg_1351)) (fun _ h => h) rfl dX11_mostSuspecting_25 ?_
            refine lv_icmp_ge (tgt := 83) hx hb dX11_mostSuspecting_28 (by decide) (fun c7 => ?_) (fun c7 => ?_)
            ·
              have cc8 : v15_1.toInt ≤ y22_l6.toInt := i32_le.mp c7
              have hb9 : In y22_l6 1 9 := In.ge1 hy22_l6 hb6 cc8 (by omega) (by omega)
              refine lv_iload hx hb dX11_mostSuspecting_83 (lv_at hl 5 rfl) ?_
              refine lv_iload_n hx hb dX11_mostSuspecting_85 rfl (lv_at hl 3 rfl) ?_
              have hJ98 : ∀ (y98_l2 : Int32) (y98_l3 : Int32) (H : Heap) (locs : List Loc) (ls : Array Slot), In y98_l2 (-1) 8 → In y98_l3 0 2147483647 → va_P g.1 vwCl (va_pl L f) H → va_D A (va_pl L f) → va_S A s.heap H locs → lv_has ls 7 [(0, .ref (ad 255)), (1, .int z1), (2, .int y98_l2), (3, .int y98_l3), (4, .int y7_l4), (5, .int y22_l5), (6, .int y22_l6)] → W p l e rm_X11_mostSuspecting s m [.ref (ad 255), .int z1].toArray below meth c H locs 0 0 (MQ below (va_Qi (po_X11_mostSuspecting g ad th L f z1) (PstB g A) A) [.ref (ad 255), .int z1].toArray s rm_X11_mostSuspecting.cells rm_X11_mostSuspecting.slots A) (F0 m 98 ls []) := by
                intro y98_l2 y98_l3 H locs ls hy98_l2 hy98_l3 hP hD hS hl
                obtain ⟨x10, ex10⟩ : ∃ y : Int32, y = y7_l4 + 1 := ⟨_, rfl⟩
                have hb11 : In x10 1 9 := ex10 ▸ In.add hb5 (⟨by decide, by decide⟩ : In 1 1 1) (by decide) (by decide) (by decide) (by decide)
                have et12 : x10.toInt = y7_l4.toInt + 1 := In.adde ex10 hb5 (k := 1) (by decide) (by decide) (by decide)
                refine lv_iinc (v := x10) (lv' := [(4, .int x10), (0, .ref (ad 255)), (1, .int z1), (2, .int y98_l2), (3, .int y98_l3), (5, .int y22_l5), (6, .int y22_l6)]) hx hb dX11_mostSuspecting_98 hl (k := 4) rfl (by rw [ex10]; rfl) (by decide) rfl (fun ls hl => ?_)
                refine lv_goto (tgt := 7) hx hb dX11_mostSuspecting_101 (by decide) ?_
                exact ih7 y98_l2 y98_l3 x10 _ _ _ hy98_l2 hy98_l3 (In.mono hb11 (by decide) (by decide)) hP hD hS (lv_sub hl [1, 2, 3, 4, 0] rfl) (msu et12 (by decide) hmz7)
              refine lv_icmp_gt (tgt := 92) hx hb dX11_mostSuspecting_86 (by decide) (fun c13 => ?_) (fun c13 => ?_)
              ·
                have cc14 : y7_l3.toInt < y22_l5.toInt := i32_lt.mp c13
                have hb15 : In y22_l5 1 2147483647 := In.gt1 hy22_l5 hy7_l3 cc14 (by omega) (by omega)
                have hb16 : In y7_l3 0 2147483646 := In.gt2 hy22_l5 hy7_l3 cc14 (by omega) (by omega)
                refine lv_iload hx hb dX11_mostSuspecting_92 (lv_at hl 5 rfl) ?_
                refine lv_istore_n (lv' := [(3, .int y22_l5), (0, .ref (ad 255)), (1, .int z1), (2, .int y7_l2), (4, .int y7_l4), (5, .int y22_l5), (6, .int y22_l6)]) hx hb dX11_mostSuspecting_94 rfl hl (by decide) rfl (fun ls hl => ?_)
                refine lv_iload hx hb dX11_mostSuspecting_95 (lv_at hl 4 rfl) ?_
                refine lv_istore_n (lv' := [(2, .int y7_l4), (3, .int y22_l5), (0, .ref (ad 255)), (1, .int z1), (4, .int y7_l4), (5, .int y22_l5), (6, .int y22_l6)]) hx hb dX11_mostSuspecting_97 rfl hl (by decide) rfl (fun ls hl => ?_)
                exact hJ98 y7_l4 y22_l5 _ _ _ (In.mono hb5 (by decide) (by decide)) (In.mono hb15 (by decide) (by decide)) hP hD hS (lv_sub hl [2, 3, 0, 1, 4, 5, 6] rfl)
              ·
                refine lv_goto (tgt := 98) hx hb dX11_mostSuspecting_89 (by decide) ?_
                exact hJ98 y7_l2 y7_l3 _ _ _ hy7_l2 hy7_l3 hP hD hS (lv_sub hl [0, 1, 2, 3, 4, 5, 6] rfl)
            ·
              have cc17 : y22_l6.toInt < v15_1.toInt := i32_nle c7
              have hb18 : In y22_l6 0 8 := In.lt1 hy22_l6 hb6 cc17 (by omega) (by omega)
              refine lv_iload hx hb dX11_mostSuspecting_31 (lv_at hl 5 rfl) ?_
              refine lv_aload_n hx hb dX11_mostSuspecting_33 rfl (lv_at hl 0 rfl) ?_
              refine pl_get (v := .ref (ad 271)) hx hb hts (fun w h => mT (inX11 w h)) hown hG.1 hP (hst.1 255 (by decide)) hf2 rfl 41 (by decide) (hts _ (mT wg_1377)) (fun _ h => h) rfl dX11_mostSuspecting_34 ?_
              refine lv_bipush (v := 9) hx hb dX11_mostSuspecting_37 (by decide) ?_
              refine lv_iload_n hx hb dX11_mostSuspecting_39 rfl (lv_at hl 1 rfl) ?_
              have hJ50 : ∀ (y50_s0 : Int32) (H : Heap) (locs : List Loc) (ls : Array Slot), In y50_s0 0 8 → va_P g.1 vwCl (va_pl L f) H → va_D A (va_pl L f) → va_S A s.heap H locs → lv_has ls 7 [(0, .ref (ad 255)), (1, .int z1), (2, .int y7_l2), (3, .int y7_l3), (4, .int y7_l4), (5, .int y22_l5), (6, .int y22_l6)] → W p l e rm_X11_mostSuspecting s m [.ref (ad 255), .int z1].toArray below meth c H locs 0 0 (MQ below (va_Qi (po_X11_mostSuspecting g ad th L f z1) (PstB g A) A) [.ref (ad 255), .int z1].toArray s rm_X11_mostSuspecting.cells rm_X11_mostSuspecting.slots A) (F0 m 50 ls [.int y50_s0, .int 9, .ref (ad 271), .int y22_l5]) := by
                intro y50_s0 H locs ls hy50_s0 hP hD hS hl
                refine lv_iadd hx hb dX11_mostSuspecting_50 ?_
                refine lv_topi (fun x19 ex19 => ?_)
                have hb20 : In x19 9 17 := ex19 ▸ In.add (⟨by decide, by decide⟩ : In 9 9 9) hy50_s0 (by decide) (by decide) (by decide) (by decide)
                have et21 : x19.toInt = (9 : Int32).toInt + y50_s0.toInt := In.add2e ex19 (⟨by decide, by decide⟩ : In 9 9 9) hy50_s0 (by decide) (by decide)
                obtain ⟨rw22, hf23, hpi25, hc24⟩ := hT.2.2 16 (by decide)
                have hc24 : PRW 2126 (th 22) (th 20) (th 21) rw22 := hc24
                have hpi25 : ((72 : Int) < (th 22) → (rw22 72).toInt = th 19) := hpi25
                have hin26 : vp_in x19 2126 := In.inb hb20 (by decide) (by decide)
                refine pl_iald hx hb hG.1 hP (hst.1 271 (by decide)) 0 hf23 rfl hin26 dX11_mostSuspecting_51 ?_
                refine lv_topi (fun x27 ex27 => ?_)
                refine lv_iload_n hx hb dX11_mostSuspecting_52 rfl (lv_at hl 1 rfl) ?_
                have hJ63 : ∀ (y63_s0 : Int32) (H : Heap) (locs : List Loc) (ls : Array Slot), In y63_s0 0 8 → va_P g.1 vwCl (va_pl L f) H → va_D A (va_pl L f) → va_S A s.heap H locs → lv_has ls 7 [(0, .ref (ad 255)), (1, .int z1), (2, .int y7_l2), (3, .int y7_l3), (4, .int y7_l4), (5, .int y22_l5), (6, .int y22_l6)] → W p l e rm_X11_mostSuspecting s m [.ref (ad 255), .int z1].toArray below meth c H locs 0 0 (MQ below (va_Qi (po_X11_mostSuspecting g ad th L f z1) (PstB g A) A) [.ref (ad 255), .int z1].toArray s rm_X11_mostSuspecting.cells rm_X11_mostSuspecting.slots A) (F0 m 63 ls [.int y63_s0, .int x27, .int y22_l5]) := by
                  intro y63_s0 H locs ls hy63_s0 hP hD hS hl
                  refine call_i (run_S (rm := rm_X11_has) hx hb hml hown hts (s_X11_has l g ad th _ _ _ x27 y63_s0 hst hT ) cS_X11_has wg_1563 ⟨Nat.le_of_ble_eq_true rfl, Nat.le_of_ble_eq_true rfl⟩ hG hE hA hP hD hS rfl hl.1 (As := [.int x27, .int y63_s0]) (rest := [.int y22_l5]) rfl (Nat.le_of_ble_eq_true rfl) dX11_mostSuspecting_63 ⟨Nat.le_of_ble_eq_true rfl, Nat.le_of_ble_eq_true rfl⟩) hA hD hS (fun r28 L29 f30 H locs hp31 hP hD hS => ?_)
                  obtain ⟨eL32L, eL32T, eL32R, eL32X0⟩ := hp31
                  have eL32L : L29 = L := eL32L
                  have eL32T : f30 = f := eL32T
                  rw [eL32L, eL32T] at hP hD
                  have eL32R : In r28 0 1 := eL32R
                  have hJ74 : ∀ (y74_s0 : Int32) (H : Heap) (locs : List Loc) (ls : Array Slot), In y74_s0 0 1 → va_P g.1 vwCl (va_pl L f) H → va_D A (va_pl L f) → va_S A s.heap H locs → lv_has ls 7 [(0, .ref (ad 255)), (1, .int z1), (2, .int y7_l2), (3, .int y7_l3), (4, .int y7_l4), (5, .int y22_l5), (6, .int y22_l6)] → W p l e rm_X11_mostSuspecting s m [.ref (ad 255), .int z1].toArray below meth c H locs 0 0 (MQ below (va_Qi (po_X11_mostSuspecting g ad th L f z1) (PstB g A) A) [.ref (ad 255), .int z1].toArray s rm_X11_mostSuspecting.cells rm_X11_mostSuspecting.slots A) (F0 m 74 ls [.int y74_s0, .int y22_l5]) := by
                    intro y74_s0 H locs ls hy74_s0 hP hD hS hl
                    refine lv_iadd hx hb dX11_mostSuspecting_74 ?_
                    refine lv_topi (fun x33 ex33 => ?_)
                    refine lv_istore (lv' := [(5, .int x33), (0, .ref (ad 255)), (1, .int z1), (2, .int y7_l2), (3, .int y7_l3), (4, .int y7_l4), (6, .int y22_l6)]) hx hb dX11_mostSuspecting_75 hl (by decide) rfl (fun ls hl => ?_)
                    obtain ⟨x34, ex34⟩ : ∃ y : Int32, y = y22_l6 + 1 := ⟨_, rfl⟩
                    have hb35 : In x34 1 9 := ex34 ▸ In.add hb18 (⟨by decide, by decide⟩ : In 1 1 1) (by decide) (by decide) (by decide) (by decide)
                    have et36 : x34.toInt = y22_l6.toInt + 1 := In.adde ex34 hb18 (k := 1) (by decide) (by decide) (by decide)
                    refine lv_iinc (v := x34) (lv' := [(6, .int x34), (5, .int x33), (0, .ref (ad 255)), (1, .int z1), (2, .int y7_l2), (3, .int y7_l3), (4, .int y7_l4)]) hx hb dX11_mostSuspecting_77 hl (k := 6) rfl (by rw [ex34]; rfl) (by decide) rfl (fun ls hl => ?_)
                    refine lv_goto (tgt := 22) hx hb dX11_mostSuspecting_80 (by decide) ?_
                    exact ih22 x33 x34 _ _ _ (In.full x33) (In.mono hb35 (by decide) (by decide)) hP hD hS (lv_sub hl [2, 3, 4, 5, 6, 1, 0] rfl) (msu et36 (by decide) hmz22)
                  refine lv_if_eq (tgt := 73) hx hb dX11_mostSuspecting_66 (by decide) (fun c37 => ?_) (fun c37 => ?_)
                  ·
                    have cc38 : r28.toInt = (0 : Int32).toInt := congrArg Int32.toInt c37
                    have hb39 : In r28 0 0 := In.eq1 eL32R (⟨by decide, by decide⟩ : In 0 0 0) cc38 (by omega) (by omega)
                    refine lv_iconst (v := 0) hx hb dX11_mostSuspecting_73 (by decide) ?_
                    exact hJ74 0 _ _ _ (⟨by decide, by decide⟩ : In 0 0 1) hP hD hS (lv_sub hl [0, 1, 2, 3, 4, 5, 6] rfl)
                  ·
                    have cc40 : r28.toInt ≠ (0 : Int32).toInt := i32_ne c37
                    have hb41 : In r28 1 1 := In.ne1 eL32R (⟨by decide, by decide⟩ : In 0 0 0) cc40 (by omega) (by omega)
                    refine lv_iconst (v := 1) hx hb dX11_mostSuspecting_69 (by decide) ?_
                    refine lv_goto (tgt := 74) hx hb dX11_mostSuspecting_70 (by decide) ?_
                    exact hJ74 1 _ _ _ (⟨by decide, by decide⟩ : In 1 0 1) hP hD hS (lv_sub hl [0, 1, 2, 3, 4, 5, 6] rfl)
                refine lv_if_eq (tgt := 61) hx hb dX11_mostSuspecting_53 (by decide) (fun c42 => ?_) (fun c42 => ?_)
                ·
                  have cc43 : z1.toInt = (0 : Int32).toInt := congrArg Int32.toInt c42
                  have hb44 : In z1 0 0 := In.eq1 hz1 (⟨by decide, by decide⟩ : In 0 0 0) cc43 (by omega) (by omega)
                  refine lv_iload hx hb dX11_mostSuspecting_61 (lv_at hl 6 rfl) ?_
                  exact hJ63 y22_l6 _ _ _ hb18 hP hD hS (lv_sub hl [0, 1, 2, 3, 4, 5, 6] rfl)
                ·
                  have cc45 : z1.toInt ≠ (0 : Int32).toInt := i32_ne c42
                  have hb46 : In z1 1 1 := In.ne1 hz1 (⟨by decide, by decide⟩ : In 0 0 0) cc45 (by omega) (by omega)
                  refine lv_iload hx hb dX11_mostSuspecting_56 (lv_at hl 4 rfl) ?_
                  refine lv_goto (tgt := 63) hx hb dX11_mostSuspecting_58 (by decide) ?_
                  exact hJ63 y7_l4 _ _ _ hb5 hP hD hS (lv_sub hl [0, 1, 2, 3, 4, 5, 6] rfl)
              refine lv_if_eq (tgt := 48) hx hb dX11_mostSuspecting_40 (by decide) (fun c47 => ?_) (fun c47 => ?_)
              ·
                have cc48 : z1.toInt = (0 : Int32).toInt := congrArg Int32.toInt c47
                have hb49 : In z1 0 0 := In.eq1 hz1 (⟨by decide, by decide⟩ : In 0 0 0) cc48 (by omega) (by omega)
                refine lv_iload hx hb dX11_mostSuspecting_48 (lv_at hl 4 rfl) ?_
                exact hJ50 y7_l4 _ _ _ hb5 hP hD hS (lv_sub hl [0, 1, 2, 3, 4, 5, 6] rfl)
              ·
                have cc50 : z1.toInt ≠ (0 : Int32).toInt := i32_ne c47
                have hb51 : In z1 1 1 := In.ne1 hz1 (⟨by decide, by decide⟩ : In 0 0 0) cc50 (by omega) (by omega)
                refine lv_iload hx hb dX11_mostSuspecting_43 (lv_at hl 6 rfl) ?_
                refine lv_goto (tgt := 50) hx hb dX11_mostSuspecting_45 (by decide) ?_
                exact hJ50 y22_l6 _ _ _ hb18 hP hD hS (lv_sub hl [0, 1, 2, 3, 4, 5, 6] rfl)
        exact hJ22 ((9 - (0 : Int32).toInt).toNat + 1) 0 0 _ _ _ (⟨by decide, by decide⟩ : In 0 (-2147483648) 2147483647) (⟨by decide, by decide⟩ : In 0 0 9) hP hD hS (lv_sub hl [2, 3, 4, 5, 6, 1, 0] rfl) (msI _)
  exact hJ7 ((9 - (0 : Int32).toInt).toNat + 1) (-1) 0 0 _ _ _ (⟨by decide, by decide⟩ : In (-1) (-1) 8) (⟨by decide, by decide⟩ : In 0 0 2147483647) (⟨by decide, by decide⟩ : In 0 0 9) hP hD hS (lv_sub hl [3, 4, 2, 1, 0] rfl) (msI _)

abbrev rm_X11_trueOf : Room := { frames := 2, cells := 0, slots := 0, locals := 42 }
abbrev po_X11_trueOf (g : GG) (ad : Nat → Nat) (th : Nat → Int) (L : List Nat) (f : HP) (z1 : Int32) (z2 : Int32) (z3 : Int32) : Int32 → (List Nat × HP) → Prop := fun _ u => u.1 = L ∧ u.2 = f
set_option maxHeartbeats 4000000 in
set_option maxRecDepth 100000 in
theorem s_X11_trueOf (l : Launch) (g : GG) (ad : Nat → Nat) (th : Nat → Int) (L : List Nat) (f : HP) (sz : Nat) (z1 : Int32) (z2 : Int32) (z3 : Int32) (hst : ST ad L) (hT : TI g ad th f) (hz1 : In z1 0 5) (hz2 : In z2 0 7) : MtI l g yX11_trueOf cX11_trueOf 6 (some .int) rm_X11_trueOf [.ref (ad 255), .int z1, .int z2, .int z3] L f sz (po_X11_trueOf g ad th L f z1 z2 z3) := by
  refine MtI.of (by decide +kernel) (Nat.le_of_ble_eq_true rfl) ?_
  intro p e s m below meth c A hEn hP hD hS ls hl
  obtain ⟨hx, hb, hr, hml, hown, hlocks, hts, hG, hA, hE, hnm⟩ := hEn
  have hown : s.vm.findClass "RulerWordModel" = some m.cls := hown
  have hl : lv_has ls 6 [(0, .ref (ad 255)), (1, .int z1), (2, .int z2), (3, .int z3)] := hl
  refine lv_iconst (v := 0) hx hb dX11_trueOf_0 (by decide) ?_
  refine lv_istore (lv' := [(4, .int 0), (0, .ref (ad 255)), (1, .int z1), (2, .int z2), (3, .int z3)]) hx hb dX11_trueOf_1 hl (by decide) rfl (fun ls hl => ?_)
  refine lv_iconst (v := 0) hx hb dX11_trueOf_3 (by decide) ?_
  refine lv_istore (lv' := [(5, .int 0), (4, .int 0), (0, .ref (ad 255)), (1, .int z1), (2, .int z2), (3, .int z3)]) hx hb dX11_trueOf_4 hl (by decide) rfl (fun ls hl => ?_)
  have hJ6 : ∀ (k6 : Nat) (y6_l4 : Int32) (y6_l5 : Int32) (H : Heap) (locs : List Loc) (ls : Array Slot), In y6_l4 (-2147483648) 2147483647 → In y6_l5 0 9 → va_P g.1 vwCl (va_pl L f) H → va_D A (va_pl L f) → va_S A s.heap H locs → lv_has ls 6 [(0, .ref (ad 255)), (1, .int z1), (2, .int z2), (3, .int z3), (4, .int y6_l4), (5, .int y6_l5)] → 9 - y6_l5.toInt < ((k6 : Nat) : Int) → W p l e rm_X11_trueOf s m [.ref (ad 255), .int z1, .int z2, .int z3].toArray below meth c H locs 0 0 (MQ below (va_Qi (po_X11_trueOf g ad th L f z1 z2 z3) (PstB g A) A) [.ref (ad 255), .int z1, .int z2, .int z3].toArray s rm_X11_trueOf.cells rm_X11_trueOf.slots A) (F0 m 6 ls []) := by
    intro k6
    induction k6 with
    | zero =>
      intro y6_l4 y6_l5 H locs ls hy6_l4 hy6_l5 hP hD hS hl hmz6
      exact ms0 hy6_l5 hmz6
    | succ k6 ih6 =>
      intro y6_l4 y6_l5 H locs ls hy6_l4 hy6_l5 hP hD hS hl hmz6
      refine lv_iload hx hb dX11_trueOf_6 (lv_at hl 5 rfl) ?_
      refine lv_aload_n hx hb dX11_trueOf_8 rfl (lv_at hl 0 rfl) ?_
      refine M0e hT (fun v0_1 v2_1 v3_1 v4_1 v5_1 v6_1 v8_1 v9_1 v12_1 v13_1 v14_1 v15_1 v16_1 v17_1 v18_1 v19_1 v20_1 v21_1 v22_1 v23_1 v25_1 v36_1 v37_1 v38_1 v39_1 v40_1 v45_1 v46_1 v47_1 v48_1 v50_1 v51_1 v53_1 v55_1 hf2 hv0_1 hv2_1 hg2_1 hv3_1 hg3_1 hv4_1 hg4_1 hv5_1 hg5_1 hv6_1 hg6_1 hv8_1 hg8_1 hv9_1 hg9_1 hv12_1 hv13_1 hg13_1 hv14_1 hg14_1 hv15_1 hg15_1 hv17_1 hg17_1 hv20_1 hg20_1 hv23_1 hg23_1 hv25_1 hg25_1 hv36_1 hg36_1 hv47_1 hg47_1 hv48_1 hg48_1 hv53_1 hg53_1 hv55_1 hg55_1 hrel0_1 => ?_)
      have hg15_1 : v15_1.toInt = th 11 := hg15_1
      have hg20_1 : v20_1.toInt = th 14 := hg20_1
      refine pl_get (v := .int v15_1) hx hb hts (fun w h => mT (inX11 w h)) hown hG.1 hP (hst.1 255 (by decide)) hf2 rfl 15 (by decide) (hts _ (mT wg_1351)) (fun _ h => h) rfl dX11_trueOf_9 ?_
      refine lv_icmp_ge (tgt := 57) hx hb dX11_trueOf_12 (by decide) (fun c3 => ?_) (fun c3 => ?_)
      ·
        refine lv_iload hx hb dX11_trueOf_57 (lv_at hl 4 rfl) ?_
        exact ret_i (ty := .int) hx hb hr hlocks (rfl) hP hD hS (Nat.le_of_ble_eq_true rfl) (Nat.le_of_ble_eq_true rfl) (⟨rfl, rfl⟩) dX11_trueOf_59
      ·
        have cc4 : y6_l5.toInt < v15_1.toInt := i32_nle c3
        have hb5 : In y6_l5 0 8 := In.lt1 hy6_l5 hv15_1 cc4 (by omega) (by omega)
        have hb6 : In v15_1 1 9 := In.lt2 hy6_l5 hv15_1 cc4 (by omega) (by omega)
        refine lv_iload hx hb dX11_trueOf_15 (lv_at hl 4 rfl) ?_
        refine lv_aload_n hx hb dX11_trueOf_17 rfl (lv_at hl 0 rfl) ?_
        refine lv_iload hx hb dX11_trueOf_18 (lv_at hl 5 rfl) ?_
        refine call_i (run_V (rm := rm_X11_isTrue) hx hb hml hown hts (s_X11_isTrue l g ad th _ _ _ y6_l5 hst hT ) cV_X11_isTrue wg_1782 ⟨Nat.le_of_ble_eq_true rfl, Nat.le_of_ble_eq_true rfl⟩ hG hE hA hP hD hS (hst.1 255 (by decide)) hf2 rfl rfl hl.1 (As := [.int y6_l5]) (rest := [.int y6_l4]) rfl (Nat.le_of_ble_eq_true rfl) dX11_trueOf_20 ⟨Nat.le_of_ble_eq_true rfl, Nat.le_of_ble_eq_true rfl⟩) hA hD hS (fun r7 L8 f9 H locs hp10 hP hD hS => ?_)
        obtain ⟨eL11L, eL11T, eL11R⟩ := hp10
        have eL11L : L8 = L := eL11L
        have eL11T : f9 = f := eL11T
        rw [eL11L, eL11T] at hP hD
        have eL11R : In r7 0 1 := eL11R
        have hJ48 : ∀ (y48_s0 : Int32) (H : Heap) (locs : List Loc) (ls : Array Slot), In y48_s0 0 1 → va_P g.1 vwCl (va_pl L f) H → va_D A (va_pl L f) → va_S A s.heap H locs → lv_has ls 6 [(0, .ref (ad 255)), (1, .int z1), (2, .int z2), (3, .int z3), (4, .int y6_l4), (5, .int y6_l5)] → W p l e rm_X11_trueOf s m [.ref (ad 255), .int z1, .int z2, .int z3].toArray below meth c H locs 0 0 (MQ below (va_Qi (po_X11_trueOf g ad th L f z1 z2 z3) (PstB g A) A) [.ref (ad 255), .int z1, .int z2, .int z3].toArray s rm_X11_trueOf.cells rm_X11_trueOf.slots A) (F0 m 48 ls [.int y48_s0, .int y6_l4]) := by
          intro y48_s0 H locs ls hy48_s0 hP hD hS hl
          refine lv_iadd hx hb dX11_trueOf_48 ?_
          refine lv_topi (fun x12 ex12 => ?_)
          refine lv_istore (lv' := [(4, .int x12), (0, .ref (ad 255)), (1, .int z1), (2, .int z2), (3, .int z3), (5, .int y6_l5)]) hx hb dX11_trueOf_49 hl (by decide) rfl (fun ls hl => ?_)
          obtain ⟨x13, ex13⟩ : ∃ y : Int32, y = y6_l5 + 1 := ⟨_, rfl⟩
          have hb14 : In x13 1 9 := ex13 ▸ In.add hb5 (⟨by decide, by decide⟩ : In 1 1 1) (by decide) (by decide) (by decide) (by decide)
          have et15 : x13.toInt = y6_l5.toInt + 1 := In.adde ex13 hb5 (k := 1) (by decide) (by decide) (by decide)
          refine lv_iinc (v := x13) (lv' := [(5, .int x13), (4, .int x12), (0, .ref (ad 255)), (1, .int z1), (2, .int z2), (3, .int z3)]) hx hb dX11_trueOf_51 hl (k := 5) rfl (by rw [ex13]; rfl) (by decide) rfl (fun ls hl => ?_)
          refine lv_goto (tgt := 6) hx hb dX11_trueOf_54 (by decide) ?_
          exact ih6 x12 x13 _ _ _ (In.full x12) (In.mono hb14 (by decide) (by decide)) hP hD hS (lv_sub hl [2, 3, 4, 5, 1, 0] rfl) (msu et15 (by decide) hmz6)
        have hJ47 : ∀ (H : Heap) (locs : List Loc) (ls : Array Slot), va_P g.1 vwCl (va_pl L f) H → va_D A (va_pl L f) → va_S A s.heap H locs → lv_has ls 6 [(0, .ref (ad 255)), (1, .int z1), (2, .int z2), (3, .int z3), (4, .int y6_l4), (5, .int y6_l5)] → W p l e rm_X11_trueOf s m [.ref (ad 255), .int z1, .int z2, .int z3].toArray below meth c H locs 0 0 (MQ below (va_Qi (po_X11_trueOf g ad th L f z1 z2 z3) (PstB g A) A) [.ref (ad 255), .int z1, .int z2, .int z3].toArray s rm_X11_trueOf.cells rm_X11_trueOf.slots A) (F0 m 47 ls [.int y6_l4]) := by
          intro H locs ls hP hD hS hl
          refine lv_iconst (v := 0) hx hb dX11_trueOf_47 (by decide) ?_
          exact hJ48 0 _ _ _ (⟨by decide, by decide⟩ : In 0 0 1) hP hD hS (lv_sub hl [0, 1, 2, 3, 4, 5] rfl)
        refine lv_if_eq (tgt := 47) hx hb dX11_trueOf_23 (by decide) (fun c16 => ?_) (fun c16 => ?_)
        ·
          have cc17 : r7.toInt = (0 : Int32).toInt := congrArg Int32.toInt c16
          have hb18 : In r7 0 0 := In.eq1 eL11R (⟨by decide, by decide⟩ : In 0 0 0) cc17 (by omega) (by omega)
          exact hJ47 _ _ _ hP hD hS (lv_sub hl [0, 1, 2, 3, 4, 5] rfl)
        ·
          have cc19 : r7.toInt ≠ (0 : Int32).toInt := i32_ne c16
          have hb20 : In r7 1 1 := In.ne1 eL11R (⟨by decide, by decide⟩ : In 0 0 0) cc19 (by omega) (by omega)
          refine lv_aload_n hx hb dX11_trueOf_26 rfl (lv_at hl 0 rfl) ?_
          refine pl_get (v := .ref (ad 271)) hx hb hts (fun w h => mT (inX11 w h)) hown hG.1 hP (hst.1 255 (by decide)) hf2 rfl 41 (by decide) (hts _ (mT wg_1377)) (fun _ h => h) rfl dX11_trueOf_27 ?_
          refine lv_iload_n hx hb dX11_trueOf_30 rfl (lv_at hl 1 rfl) ?_
          refine lv_iload hx hb dX11_trueOf_31 (lv_at hl 5 rfl) ?_
          refine call_i (run_S (rm := rm_X11_toldAt) hx hb hml hown hts (s_X11_toldAt l g ad th _ _ _ z1 y6_l5 hst hT hz1 hb5) cS_X11_toldAt wg_1699 ⟨Nat.le_of_ble_eq_true rfl, Nat.le_of_ble_eq_true rfl⟩ hG hE hA hP hD hS rfl hl.1 (As := [.int z1, .int y6_l5]) (rest := [.ref (ad 271), .int y6_l4]) rfl (Nat.le_of_ble_eq_true rfl) dX11_trueOf_33 ⟨Nat.le_of_ble_eq_true rfl, Nat.le_of_ble_eq_true rfl⟩) hA hD hS (fun r21 L22 f23 H locs hp24 hP hD hS => ?_)
          obtain ⟨eL25L, eL25T, eL25R⟩ := hp24
          have eL25L : L22 = L := eL25L
          have eL25T : f23 = f := eL25T
          rw [eL25L, eL25T] at hP hD
          have eL25R : In r21 1538 1962 := eL25R
          refine lv_iload_n hx hb dX11_trueOf_36 rfl (lv_at hl 2 rfl) ?_
          refine lv_iadd hx hb dX11_trueOf_37 ?_
          refine lv_topi (fun x26 ex26 => ?_)
          have hb27 : In x26 1538 1969 := ex26 ▸ In.add eL25R hz2 (by decide) (by decide) (by decide) (by decide)
          have et28 : x26.toInt = r21.toInt + z2.toInt := In.add2e ex26 eL25R hz2 (by decide) (by decide)
          obtain ⟨rw29, hf30, hpi32, hc31⟩ := hT.2.2 16 (by decide)
          have hc31 : PRW 2126 (th 22) (th 20) (th 21) rw29 := hc31
          have hpi32 : ((72 : Int) < (th 22) → (rw29 72).toInt = th 19) := hpi32
          have hin33 : vp_in x26 2126 := In.inb hb27 (by decide) (by decide)
          refine pl_iald hx hb hG.1 hP (hst.1 271 (by decide)) 0 hf30 rfl hin33 dX11_trueOf_38 ?_
          refine lv_topi (fun x34 ex34 => ?_)
          refine lv_iload_n hx hb dX11_trueOf_39 rfl (lv_at hl 3 rfl) ?_
          refine lv_icmp_ne (tgt := 47) hx hb dX11_trueOf_40 (by decide) (fun c35 => ?_) (fun c35 => ?_)
          ·
            exact hJ47 _ _ _ hP hD hS (lv_sub hl [0, 1, 2, 3, 4, 5] rfl)
          ·
            refine lv_iconst (v := 1) hx hb dX11_trueOf_43 (by decide) ?_
            refine lv_goto (tgt := 48) hx hb dX11_trueOf_44 (by decide) ?_
            exact hJ48 1 _ _ _ (⟨by decide, by decide⟩ : In 1 0 1) hP hD hS (lv_sub hl [0, 1, 2, 3, 4, 5] rfl)
  exact hJ6 ((9 - (0 : Int32).toInt).toNat + 1) 0 0 _ _ _ (⟨by decide, by decide⟩ : In 0 (-2147483648) 2147483647) (⟨by decide, by decide⟩ : In 0 0 9) hP hD hS (lv_sub hl [2, 3, 4, 5, 1, 0] rfl) (msI _)

abbrev rm_X11_changes : Room := { frames := 2, cells := 0, slots := 0, locals := 43 }
abbrev po_X11_changes (g : GG) (ad : Nat → Nat) (th : Nat → Int) (L : List Nat) (f : HP)  : Int32 → (List Nat × HP) → Prop := fun _ u => u.1 = L ∧ u.2 = f
set_option maxHeartbeats 4000000 in
set_option maxRecDepth 100000 in
theorem s_X11_changes (l : Launch) (g : GG) (ad : Nat → Nat) (th : Nat → Int) (L : List Nat) (f : HP) (sz : Nat)  (hst : ST ad L) (hT : TI g ad th f) (hM : MI th) : MtI l g yX11_changes cX11_changes 4 (some .int) rm_X11_changes [.ref (ad 255)] L f sz (po_X11_changes g ad th L f ) := by
  refine MtI.of (by decide +kernel) (Nat.le_of_ble_eq_true rfl) ?_
  intro p e s m below meth c A hEn hP hD hS ls hl
  obtain ⟨hx, hb, hr, hml, hown, hlocks, hts, hG, hA, hE, hnm⟩ := hEn
  have hown : s.vm.findClass "RulerWordModel" = some m.cls := hown
  have hl : lv_has ls 4 [(0, .ref (ad 255))] := hl
  have hM0 := hM
  obtain ⟨m1, m2, m3, m4, m5, m6, m7, m8, m9, m10⟩ := hM0
  have m20 := mi20 m2 m3
  refine lv_iconst (v := 0) hx hb dX11_changes_0 (by decide) ?_
  refine lv_istore_n (lv' := [(1, .int 0), (0, .ref (ad 255))]) hx hb dX11_changes_1 rfl hl (by decide) rfl (fun ls hl => ?_)
  refine lv_iconst (v := 0) hx hb dX11_changes_2 (by decide) ?_
  refine lv_istore_n (lv' := [(2, .int 0), (1, .int 0), (0, .ref (ad 255))]) hx hb dX11_changes_3 rfl hl (by decide) rfl (fun ls hl => ?_)
  have hJ4 : ∀ (k4 : Nat) (y4_l1 : Int32) (y4_l2 : Int32) (H : Heap) (locs : List Loc) (ls : Array Slot), In y4_l1 (-2147483648) 2147483647 → In y4_l2 0 6 → va_P g.1 vwCl (va_pl L f) H → va_D A (va_pl L f) → va_S A s.heap H locs → lv_has ls 4 [(0, .ref (ad 255)), (1, .int y4_l1), (2, .int y4_l2)] → 6 - y4_l2.toInt < ((k4 : Nat) : Int) → W p l e rm_X11_changes s m [.ref (ad 255)].toArray below meth c H locs 0 0 (MQ below (va_Qi (po_X11_changes g ad th L f ) (PstB g A) A) [.ref (ad 255)].toArray s rm_X11_changes.cells rm_X11_changes.slots A) (F0 m 4 ls []) := by
    intro k4
    induction k4 with
    | zero =>
      intro y4_l1 y4_l2 H locs ls hy4_l1 hy4_l2 hP hD hS hl hmz4
      exact ms0 hy4_l2 hmz4
    | succ k4 ih4 =>
      intro y4_l1 y4_l2 H locs ls hy4_l1 hy4_l2 hP hD hS hl hmz4
      refine lv_iload_n hx hb dX11_changes_4 rfl (lv_at hl 2 rfl) ?_
      refine lv_aload_n hx hb dX11_changes_5 rfl (lv_at hl 0 rfl) ?_
      refine M0e hT (fun v0_1 v2_1 v3_1 v4_1 v5_1 v6_1 v8_1 v9_1 v12_1 v13_1 v14_1 v15_1 v16_1 v17_1 v18_1 v19_1 v20_1 v21_1 v22_1 v23_1 v25_1 v36_1 v37_1 v38_1 v39_1 v40_1 v45_1 v46_1 v47_1 v48_1 v50_1 v51_1 v53_1 v55_1 hf2 hv0_1 hv2_1 hg2_1 hv3_1 hg3_1 hv4_1 hg4_1 hv5_1 hg5_1 hv6_1 hg6_1 hv8_1 hg8_1 hv9_1 hg9_1 hv12_1 hv13_1 hg13_1 hv14_1 hg14_1 hv15_1 hg15_1 hv17_1 hg17_1 hv20_1 hg20_1 hv23_1 hg23_1 hv25_1 hg25_1 hv36_1 hg36_1 hv47_1 hg47_1 hv48_1 hg48_1 hv53_1 hg53_1 hv55_1 hg55_1 hrel0_1 => ?_)
      have hg15_1 : v15_1.toInt = th 11 := hg15_1
      have hg20_1 : v20_1.toInt = th 14 := hg20_1
      refine call_i (run_V (rm := rm_X11_over) hx hb hml hown hts (s_X11_over l g ad th _ _ _  hst hT (show MI th from hM)) cV_X11_over wg_1769 ⟨Nat.le_of_ble_eq_true rfl, Nat.le_of_ble_eq_true rfl⟩ hG hE hA hP hD hS (hst.1 255 (by decide)) hf2 rfl rfl hl.1 (As := []) (rest := [.int y4_l2]) rfl (Nat.le_of_ble_eq_true rfl) dX11_changes_6 ⟨Nat.le_of_ble_eq_true rfl, Nat.le_of_ble_eq_true rfl⟩) hA hD hS (fun r3 L4 f5 H locs hp6 hP hD hS => ?_)
      obtain ⟨eL7L, eL7T, eL7R, eL7X0⟩ := hp6
      have eL7L : L4 = L := eL7L
      have eL7T : f5 = f := eL7T
      rw [eL7L, eL7T] at hP hD
      have eL7R : In r3 0 6 := eL7R
      have hcl8 : r3.toInt = 0 ∨ th 15 = 1 := eL7X0
      refine lv_icmp_ge (tgt := 67) hx hb dX11_changes_9 (by decide) (fun c9 => ?_) (fun c9 => ?_)
      ·
        have cc10 : r3.toInt ≤ y4_l2.toInt := i32_le.mp c9
        refine lv_iload_n hx hb dX11_changes_67 rfl (lv_at hl 1 rfl) ?_
        exact ret_i (ty := .int) hx hb hr hlocks (rfl) hP hD hS (Nat.le_of_ble_eq_true rfl) (Nat.le_of_ble_eq_true rfl) (⟨rfl, rfl⟩) dX11_changes_68
      ·
        have cc11 : y4_l2.toInt < r3.toInt := i32_nle c9
        have hb12 : In y4_l2 0 5 := In.lt1 hy4_l2 eL7R cc11 (by decide) (by decide)
        have hb13 : In r3 1 6 := In.lt2 hy4_l2 eL7R cc11 (by decide) (by decide)
        refine lv_iconst (v := 0) hx hb dX11_changes_12 (by decide) ?_
        refine lv_istore_n (lv' := [(3, .int 0), (0, .ref (ad 255)), (1, .int y4_l1), (2, .int y4_l2)]) hx hb dX11_changes_13 rfl hl (by decide) rfl (fun ls hl => ?_)
        have hJ14 : ∀ (k14 : Nat) (y14_l1 : Int32) (y14_l3 : Int32) (H : Heap) (locs : List Loc) (ls : Array Slot), In y14_l1 (-2147483648) 2147483647 → In y14_l3 0 9 → va_P g.1 vwCl (va_pl L f) H → va_D A (va_pl L f) → va_S A s.heap H locs → lv_has ls 4 [(0, .ref (ad 255)), (1, .int y14_l1), (2, .int y4_l2), (3, .int y14_l3)] → 9 - y14_l3.toInt < ((k14 : Nat) : Int) → W p l e rm_X11_changes s m [.ref (ad 255)].toArray below meth c H locs 0 0 (MQ below (va_Qi (po_X11_changes g ad th L f ) (PstB g A) A) [.ref (ad 255)].toArray s rm_X11_changes.cells rm_X11_changes.slots A) (F0 m 14 ls []) := by
          intro k14
          induction k14 with
          | zero =>
            intro y14_l1 y14_l3 H locs ls hy14_l1 hy14_l3 hP hD hS hl hmz14
            exact ms0 hy14_l3 hmz14
          | succ k14 ih14 =>
            intro y14_l1 y14_l3 H locs ls hy14_l1 hy14_l3 hP hD hS hl hmz14
            refine lv_iload_n hx hb dX11_changes_14 rfl (lv_at hl 3 rfl) ?_
            refine lv_aload_n hx hb dX11_changes_15 rfl (lv_at hl 0 rfl) ?_
            refine pl_get (v := .int v15_1) hx hb hts (fun w h => mT (inX11 w h)) hown hG.1 hP (hst.1 255 (by decide)) hf2 rfl 15 (by decide) (hts _ (mT wg_1351)) (fun _ h => h) rfl dX11_changes_16 ?_
            refine lv_icmp_ge (tgt := 61) hx hb dX11_changes_19 (by decide) (fun c14 => ?_) (fun c14 => ?_)
            ·
              have cc15 : v15_1.toInt ≤ y14_l3.toInt := i32_le.mp c14
              obtain ⟨x16, ex16⟩ : ∃ y : Int32, y = y4_l2 + 1 := ⟨_, rfl⟩
              have hb17 : In x16 1 6 := ex16 ▸ In.add hb12 (⟨by decide, by decide⟩ : In 1 1 1) (by decide) (by decide) (by decide) (by decide)
              have et18 : x16.toInt = y4_l2.toInt + 1 := In.adde ex16 hb12 (k := 1) (by decide) (by decide) (by decide)
              refine lv_iinc (v := x16) (lv' := [(2, .int x16), (0, .ref (ad 255)), (1, .int y14_l1), (3, .int y14_l3)]) hx hb dX11_changes_61 hl (k := 2) rfl (by rw [ex16]; rfl) (by decide) rfl (fun ls hl => ?_)
              refine lv_goto (tgt := 4) hx hb dX11_changes_64 (by decide) ?_
              exact ih4 y14_l1 x16 _ _ _ hy14_l1 (In.mono hb17 (by decide) (by decide)) hP hD hS (lv_sub hl [1, 2, 0] rfl) (msu et18 (by decide) hmz4)
            ·
              have cc19 : y14_l3.toInt < v15_1.toInt := i32_nle c14
              have hb20 : In y14_l3 0 8 := In.lt1 hy14_l3 hv15_1 cc19 (by decide) (by decide)
              have hb21 : In v15_1 1 9 := In.lt2 hy14_l3 hv15_1 cc19 (by decide) (by decide)
              refine lv_iload_n hx hb dX11_changes_22 rfl (lv_at hl 1 rfl) ?_
              refine lv_aload_n hx hb dX11_changes_23 rfl (lv_at hl 0 rfl) ?_
              refine lv_iload_n hx hb dX11_changes_24 rfl (lv_at hl 3 rfl) ?_
              refine call_i (run_V (rm := rm_X11_isTrue) hx hb hml hown hts (s_X11_isTrue l g ad th _ _ _ y14_l3 hst hT ) cV_X11_isTrue wg_1782 ⟨Nat.le_of_ble_eq_true rfl, Nat.le_of_ble_eq_true rfl⟩ hG hE hA hP hD hS (hst.1 255 (by decide)) hf2 rfl rfl hl.1 (As := [.int y14_l3]) (rest := [.int y14_l1]) rfl (Nat.le_of_ble_eq_true rfl) dX11_changes_25 ⟨Nat.le_of_ble_eq_true rfl, Nat.le_of_ble_eq_true rfl⟩) hA hD hS (fun r22 L23 f24 H locs hp25 hP hD hS => ?_)
              obtain ⟨eL26L, eL26T, eL26R⟩ := hp25
              have eL26L : L23 = L := eL26L
              have eL26T : f24 = f := eL26T
              rw [eL26L, eL26T] at hP hD
              have eL26R : In r22 0 1 := eL26R
              have hJ53 : ∀ (y53_s0 : Int32) (H : Heap) (locs : List Loc) (ls : Array Slot), In y53_s0 0 1 → va_P g.1 vwCl (va_pl L f) H → va_D A (va_pl L f) → va_S A s.heap H locs → lv_has ls 4 [(0, .ref (ad 255)), (1, .int y14_l1), (2, .int y4_l2), (3, .int y14_l3)] → W p l e rm_X11_changes s m [.ref (ad 255)].toArray below meth c H locs 0 0 (MQ below (va_Qi (po_X11_changes g ad th L f ) (PstB g A) A) [.ref (ad 255)].toArray s rm_X11_changes.cells rm_X11_changes.slots A) (F0 m 53 ls [.int y53_s0, .int y14_l1]) := by
                intro y53_s0 H locs ls hy53_s0 hP hD hS hl
                refine lv_iadd hx hb dX11_changes_53 ?_
                refine lv_topi (fun x27 ex27 => ?_)
                refine lv_istore_n (lv' := [(1, .int x27), (0, .ref (ad 255)), (2, .int y4_l2), (3, .int y14_l3)]) hx hb dX11_changes_54 rfl hl (by decide) rfl (fun ls hl => ?_)
                obtain ⟨x28, ex28⟩ : ∃ y : Int32, y = y14_l3 + 1 := ⟨_, rfl⟩
                have hb29 : In x28 1 9 := ex28 ▸ In.add hb20 (⟨by decide, by decide⟩ : In 1 1 1) (by decide) (by decide) (by decide) (by decide)
                have et30 : x28.toInt = y14_l3.toInt + 1 := In.adde ex28 hb20 (k := 1) (by decide) (by decide) (by decide)
                refine lv_iinc (v := x28) (lv' := [(3, .int x28), (1, .int x27), (0, .ref (ad 255)), (2, .int y4_l2)]) hx hb dX11_changes_55 hl (k := 3) rfl (by rw [ex28]; rfl) (by decide) rfl (fun ls hl => ?_)
                refine lv_goto (tgt := 14) hx hb dX11_changes_58 (by decide) ?_
                exact ih14 x27 x28 _ _ _ (In.full x27) (In.mono hb29 (by decide) (by decide)) hP hD hS (lv_sub hl [2, 1, 3, 0] rfl) (msu et30 (by decide) hmz14)
              have hJ52 : ∀ (H : Heap) (locs : List Loc) (ls : Array Slot), va_P g.1 vwCl (va_pl L f) H → va_D A (va_pl L f) → va_S A s.heap H locs → lv_has ls 4 [(0, .ref (ad 255)), (1, .int y14_l1), (2, .int y4_l2), (3, .int y14_l3)] → W p l e rm_X11_changes s m [.ref (ad 255)].toArray below meth c H locs 0 0 (MQ below (va_Qi (po_X11_changes g ad th L f ) (PstB g A) A) [.ref (ad 255)].toArray s rm_X11_changes.cells rm_X11_changes.slots A) (F0 m 52 ls [.int y14_l1]) := by
                intro H locs ls hP hD hS hl
                refine lv_iconst (v := 0) hx hb dX11_changes_52 (by decide) ?_
                exact hJ53 0 _ _ _ (⟨by decide, by decide⟩ : In 0 0 1) hP hD hS (lv_sub hl [0, 1, 2, 3] rfl)
              refine lv_if_eq (tgt := 52) hx hb dX11_changes_28 (by decide) (fun c31 => ?_) (fun c31 => ?_)
              ·
                have oc0 : (0 : Int32).toInt = 0 := by decide
                have cc32 : r22.toInt = (0 : Int32).toInt := congrArg Int32.toInt c31
                have hb33 : In r22 0 0 := In.eq1 eL26R (⟨by decide, by decide⟩ : In 0 0 0) cc32 (by decide) (by decide)
                exact hJ52 _ _ _ hP hD hS (lv_sub hl [0, 1, 2, 3] rfl)
              ·
                have oc0 : (0 : Int32).toInt = 0 := by decide
                have cc34 : r22.toInt ≠ (0 : Int32).toInt := i32_ne c31
                have hb35 : In r22 1 1 := In.ne1 eL26R (⟨by decide, by decide⟩ : In 0 0 0) cc34 (by decide) (by decide)
                refine lv_aload_n hx hb dX11_changes_31 rfl (lv_at hl 0 rfl) ?_
                refine lv_iload_n hx hb dX11_changes_32 rfl (lv_at hl 2 rfl) ?_
                refine lv_iload_n hx hb dX11_changes_33 rfl (lv_at hl 3 rfl) ?_
                refine call_i (run_V (rm := rm_X11_heldBehind) hx hb hml hown hts (s_X11_heldBehind l g ad th _ _ _ y4_l2 y14_l3 hst hT (In.mono hb12 (by decide) (by decide)) hb20) cV_X11_heldBehind wg_1786 ⟨Nat.le_of_ble_eq_true rfl, Nat.le_of_ble_eq_true rfl⟩ hG hE hA hP hD hS (hst.1 255 (by decide)) hf2 rfl rfl hl.1 (As := [.int y4_l2, .int y14_l3]) (rest := [.int y14_l1]) rfl (Nat.le_of_ble_eq_true rfl) dX11_changes_34 ⟨Nat.le_of_ble_eq_true rfl, Nat.le_of_ble_eq_true rfl⟩) hA hD hS (fun r36 L37 f38 H locs hp39 hP hD hS => ?_)
                obtain ⟨eL40L, eL40T⟩ := hp39
                have eL40L : L37 = L := eL40L
                have eL40T : f38 = f := eL40T
                rw [eL40L, eL40T] at hP hD
                refine lv_aload_n hx hb dX11_changes_37 rfl (lv_at hl 0 rfl) ?_
                refine lv_iload_n hx hb dX11_changes_38 rfl (lv_at hl 2 rfl) ?_
                refine lv_iconst (v := 1) hx hb dX11_changes_39 (by decide) ?_
                refine lv_isub hx hb dX11_changes_40 ?_
                refine lv_topi (fun x41 ex41 => ?_)
                have hb42 : In x41 (-1) 4 := ex41 ▸ In.sub hb12 (⟨by decide, by decide⟩ : In 1 1 1) (by decide) (by decide) (by decide) (by decide)
                have et43 : x41.toInt = y4_l2.toInt + (-1) := In.sube ex41 hb12 (k := 1) (by decide) (by decide) (by decide)
                refine lv_iload_n hx hb dX11_changes_41 rfl (lv_at hl 3 rfl) ?_
                refine call_i (run_V (rm := rm_X11_heldBehind) hx hb hml hown hts (s_X11_heldBehind l g ad th _ _ _ x41 y14_l3 hst hT (In.mono hb42 (by decide) (by decide)) hb20) cV_X11_heldBehind wg_1786 ⟨Nat.le_of_ble_eq_true rfl, Nat.le_of_ble_eq_true rfl⟩ hG hE hA hP hD hS (hst.1 255 (by decide)) hf2 rfl rfl hl.1 (As := [.int x41, .int y14_l3]) (rest := [.int r36, .int y14_l1]) rfl (Nat.le_of_ble_eq_true rfl) dX11_changes_42 ⟨Nat.le_of_ble_eq_true rfl, Nat.le_of_ble_eq_true rfl⟩) hA hD hS (fun r44 L45 f46 H locs hp47 hP hD hS => ?_)
                obtain ⟨eL48L, eL48T⟩ := hp47
                have eL48L : L45 = L := eL48L
                have eL48T : f46 = f := eL48T
                rw [eL48L, eL48T] at hP hD
                refine lv_icmp_eq (tgt := 52) hx hb dX11_changes_45 (by decide) (fun c49 => ?_) (fun c49 => ?_)
                ·
                  have cc50 : r36.toInt = r44.toInt := congrArg Int32.toInt c49
                  exact hJ52 _ _ _ hP hD hS (lv_sub hl [0, 1, 2, 3] rfl)
                ·
                  have cc51 : r36.toInt ≠ r44.toInt := i32_ne c49
                  refine lv_iconst (v := 1) hx hb dX11_changes_48 (by decide) ?_
                  refine lv_goto (tgt := 53) hx hb dX11_changes_49 (by decide) ?_
                  exact hJ53 1 _ _ _ (⟨by decide, by decide⟩ : In 1 0 1) hP hD hS (lv_sub hl [0, 1, 2, 3] rfl)
        exact hJ14 ((9 - (0 : Int32).toInt).toNat + 1) y4_l1 0 _ _ _ hy4_l1 (⟨by decide, by decide⟩ : In 0 0 9) hP hD hS (lv_sub hl [1, 2, 3, 0] rfl) (msI _)
  exact hJ4 ((6 - (0 : Int32).toInt).toNat + 1) 0 0 _ _ _ (⟨by decide, by decide⟩ : In 0 (-2147483648) 2147483647) (⟨by decide, by decide⟩ : In 0 0 6) hP hD hS (lv_sub hl [2, 1, 0] rfl) (msI _)

abbrev rm_X11_most : Room := { frames := 3, cells := 0, slots := 0, locals := 67 }
abbrev po_X11_most (g : GG) (ad : Nat → Nat) (th : Nat → Int) (L : List Nat) (f : HP) (z1 : Int32) : Int32 → (List Nat × HP) → Prop := fun r u => u.1 = L ∧ TI g ad th u.2 ∧ (∀ b, b ≠ (ad 255) → u.2 b = f b)
set_option maxHeartbeats 4000000 in
set_option maxRecDepth 100000 in
theorem s_X11_most (l : Launch) (g : GG) (ad : Nat → Nat) (th : Nat → Int) (L : List Nat) (f : HP) (sz : Nat) (z1 : Int32) (hst : ST ad L) (hT : TI g ad th f) (hM : MI th) : MtI l g yX11_most cX11_most 5 (some .int) rm_X11_most [.ref (ad 255), .int z1] L f sz (po_X11_most g ad th L f z1) := by
  refine MtI.of (by decide +kernel) (Nat.le_of_ble_eq_true rfl) ?_
  intro p e s m below meth c A hEn hP hD hS ls hl
  obtain ⟨hx, hb, hr, hml, hown, hlocks, hts, hG, hA, hE, hnm⟩ := hEn
  have hown : s.vm.findClass "RulerWordModel" = some m.cls := hown
  have hl : lv_has ls 5 [(0, .ref (ad 255)), (1, .int z1)] := hl
  have hfr : (∀ b, b ≠ (ad 255) → f b = f b) := fun b z0_ => rfl
  have hM0 := hM
  obtain ⟨m1, m2, m3, m4, m5, m6, m7, m8, m9, m10⟩ := hM0
  have m20 := mi20 m2 m3
  refine lv_aload_n hx hb dX11_most_0 rfl (lv_at hl 0 rfl) ?_
  refine lv_iconst (v := 0) hx hb dX11_most_1 (by decide) ?_
  refine M0e hT (fun v0_1 v2_1 v3_1 v4_1 v5_1 v6_1 v8_1 v9_1 v12_1 v13_1 v14_1 v15_1 v16_1 v17_1 v18_1 v19_1 v20_1 v21_1 v22_1 v23_1 v25_1 v36_1 v37_1 v38_1 v39_1 v40_1 v45_1 v46_1 v47_1 v48_1 v50_1 v51_1 v53_1 v55_1 hf2 hv0_1 hv2_1 hg2_1 hv3_1 hg3_1 hv4_1 hg4_1 hv5_1 hg5_1 hv6_1 hg6_1 hv8_1 hg8_1 hv9_1 hg9_1 hv12_1 hv13_1 hg13_1 hv14_1 hg14_1 hv15_1 hg15_1 hv17_1 hg17_1 hv20_1 hg20_1 hv23_1 hg23_1 hv25_1 hg25_1 hv36_1 hg36_1 hv47_1 hg47_1 hv48_1 hg48_1 hv53_1 hg53_1 hv55_1 hg55_1 hrel0_1 => ?_)
  have hg15_1 : v15_1.toInt = th 11 := hg15_1
  have hg20_1 : v20_1.toInt = th 14 := hg20_1
  refine pl_put (ty := .int) (v := .int 0) (fs' := [.int 0, .ref (ad 256), .int v2_1, .int v3_1, .int v4_1, .int v5_1, .int v6_1, .ref (ad 257), .int v8_1, .int v9_1, .ref (ad 258), .ref (ad 259), .int v12_1, .int v13_1, .int v14_1, .int v15_1, .int v16_1, .int v17_1, .int v18_1, .int v19_1, .int v20_1, .long v21_1, .long v22_1, .int v23_1, .ref (ad 260), .int v25_1, .ref (ad 261), .ref (ad 262), .ref (ad 263), .ref (ad 264), .ref (ad 265), .ref (ad 266), .ref (ad 267), .ref (ad 268), .ref (ad 269), .ref (ad 270), .int v36_1, .int v37_1, .int v38_1, .int v39_1, .int v40_1, .ref (ad 271), .ref (ad 272), .ref (ad 273), .ref (ad 274), .long v45_1, .long v46_1, .int v47_1, .int v48_1, .ref (ad 275), .int v50_1, .int v51_1, .ref (ad 276), .int v53_1, .ref (ad 277), .int v55_1]) hx hb hts (fun w h => mT (inX11 w h)) tyX11 tyX11_ok nmX11 hown hG.1 hP hD hS (hst.1 255 (by decide)) hf2 rfl 0 (by decide) (hts _ (mT wg_1336)) (fun _ h => h) rfl (by decide +kernel) (rfl) (rfl) (Nat.le_of_ble_eq_true rfl) rfl dX11_most_2 (fun H locs f3 hf4 ho5 hP hD hS => ?_)
  have hfr : (∀ b, b ≠ (ad 255) → f3 b = f b) := fun b z0_ => (ho5 b z0_).trans (hfr b z0_)
  refine lv_aload_n hx hb dX11_most_5 rfl (lv_at hl 0 rfl) ?_
  refine pl_get (v := .int v23_1) hx hb hts (fun w h => mT (inX11 w h)) hown hG.1 hP (hst.1 255 (by decide)) hf4 rfl 23 (by decide) (hts _ (mT wg_1359)) (fun _ h => h) rfl dX11_most_6 ?_
  have hg23_1 : v23_1.toInt = th 15 := hg23_1
  have hT := TI.updM hT hst (k := 0) (by decide) hf4 ho5 ⟨0, v2_1, v3_1, v4_1, v5_1, v6_1, v8_1, v9_1, v12_1, v13_1, v14_1, v15_1, v16_1, v17_1, v18_1, v19_1, v20_1, v21_1, v22_1, v23_1, v25_1, v36_1, v37_1, v38_1, v39_1, v40_1, v45_1, v46_1, v47_1, v48_1, v50_1, v51_1, v53_1, v55_1, rfl, (⟨by decide, by decide⟩ : In 0 0 1), hv2_1, hg2_1, hv3_1, hg3_1, hv4_1, hg4_1, hv5_1, hg5_1, hv6_1, hg6_1, hv8_1, hg8_1, hv9_1, hg9_1, hv12_1, hv13_1, hg13_1, hv14_1, hg14_1, hv15_1, hg15_1, hv17_1, hg17_1, hv20_1, hg20_1, hv23_1, hg23_1, hv25_1, hg25_1, hv36_1, hg36_1, hv47_1, hg47_1, hv48_1, hg48_1, hv53_1, hg53_1, hv55_1, hg55_1, hrel0_1⟩
  refine lv_if_eq (tgt := 24) hx hb dX11_most_9 (by decide) (fun c6 => ?_) (fun c6 => ?_)
  ·
    have oc0 : (0 : Int32).toInt = 0 := by decide
    have cc7 : v23_1.toInt = (0 : Int32).toInt := congrArg Int32.toInt c6
    have hb8 : In v23_1 0 0 := In.eq1 hv23_1 (⟨by decide, by decide⟩ : In 0 0 0) cc7 (by decide) (by decide)
    refine lv_iconst (v := (-1)) hx hb dX11_most_24 (by decide) ?_
    exact ret_i (ty := .int) hx hb hr hlocks (rfl) hP hD hS (Nat.le_of_ble_eq_true rfl) (Nat.le_of_ble_eq_true rfl) (⟨rfl, hT, hfr⟩) dX11_most_25
  ·
    have oc0 : (0 : Int32).toInt = 0 := by decide
    have cc9 : v23_1.toInt ≠ (0 : Int32).toInt := i32_ne c6
    have hb10 : In v23_1 1 1 := In.ne1 hv23_1 (⟨by decide, by decide⟩ : In 0 0 0) cc9 (by decide) (by decide)
    refine lv_iload_n hx hb dX11_most_12 rfl (lv_at hl 1 rfl) ?_
    refine lv_i2l hx hb dX11_most_13 rfl ?_
    refine lv_lconst (v := 0) hx hb dX11_most_14 (by decide) ?_
    refine lv_ldc2 hx hb hown (hts _ (mT wg_1747)) dX11_most_15 ?_
    refine call_i (run_S (rm := rm_X11_isIn) hx hb hml hown hts (s_X11_isIn l g ad th _ _ _ (z1.toInt64) 0 4 hst hT ) cS_X11_isIn wg_1581 ⟨Nat.le_of_ble_eq_true rfl, Nat.le_of_ble_eq_true rfl⟩ hG hE hA hP hD hS rfl hl.1 (As := [.long (z1.toInt64), .long 0, .long 4]) (rest := []) rfl (Nat.le_of_ble_eq_true rfl) dX11_most_18 ⟨Nat.le_of_ble_eq_true rfl, Nat.le_of_ble_eq_true rfl⟩) hA hD hS (fun r11 L12 f13 H locs hp14 hP hD hS => ?_)
    obtain ⟨eL15L, eL15T, eL15R, eL15X0, eL15X1⟩ := hp14
    have eL15L : L12 = L := eL15L
    have eL15T : f13 = f3 := eL15T
    rw [eL15L, eL15T] at hP hD
    have eL15R : In r11 0 1 := eL15R
    have hii16 : r11.toInt = 0 ∨ (0 ≤ z1.toInt ∧ z1.toInt ≤ 4) := by have z := eL15X0; rw [i2l_t z1, (by decide : (0 : Int64).toInt = 0), (by decide : (4 : Int64).toInt = 4)] at z; exact z
    have hii16w : ¬ r11 = 0 → In z1 0 4 := fun c => by have c2 := i32_ne c; have e0 : (0 : Int32).toInt = 0 := (by decide); exact ⟨by omega, by omega⟩
    refine lv_if_ne (tgt := 26) hx hb dX11_most_21 (by decide) (fun c17 => ?_) (fun c17 => ?_)
    ·
      have oc0 : (0 : Int32).toInt = 0 := by decide
      have cc18 : r11.toInt ≠ (0 : Int32).toInt := i32_ne c17
      have hb19 : In r11 1 1 := In.ne1 eL15R (⟨by decide, by decide⟩ : In 0 0 0) cc18 (by decide) (by decide)
      have hb20 : In z1 0 4 := In.both (hii16w c17) (In.full z1) (by decide) (by decide)
      refine lv_iload_n hx hb dX11_most_26 rfl (lv_at hl 1 rfl) ?_
      refine lv_iconst (v := 2) hx hb dX11_most_27 (by decide) ?_
      refine lv_icmp_ge (tgt := 46) hx hb dX11_most_28 (by decide) (fun c21 => ?_) (fun c21 => ?_)
      ·
        have oc2 : (2 : Int32).toInt = 2 := by decide
        have cc22 : (2 : Int32).toInt ≤ z1.toInt := i32_le.mp c21
        have hb23 : In z1 2 4 := In.ge1 hb20 (⟨by decide, by decide⟩ : In 2 2 2) cc22 (by decide) (by decide)
        refine lv_iload_n hx hb dX11_most_46 rfl (lv_at hl 1 rfl) ?_
        refine lv_iconst (v := 3) hx hb dX11_most_47 (by decide) ?_
        refine lv_icmp_ne (tgt := 56) hx hb dX11_most_48 (by decide) (fun c24 => ?_) (fun c24 => ?_)
        ·
          have oc3 : (3 : Int32).toInt = 3 := by decide
          have cc25 : z1.toInt ≠ (3 : Int32).toInt := i32_ne c24
          refine lv_iconst (v := 0) hx hb dX11_most_56 (by decide) ?_
          refine lv_istore_n (lv' := [(2, .int 0), (0, .ref (ad 255)), (1, .int z1)]) hx hb dX11_most_57 rfl hl (by decide) rfl (fun ls hl => ?_)
          refine lv_iconst (v := (-1)) hx hb dX11_most_58 (by decide) ?_
          refine lv_istore_n (lv' := [(3, .int (-1)), (2, .int 0), (0, .ref (ad 255)), (1, .int z1)]) hx hb dX11_most_59 rfl hl (by decide) rfl (fun ls hl => ?_)
          refine lv_iconst (v := 0) hx hb dX11_most_60 (by decide) ?_
          refine lv_istore (lv' := [(4, .int 0), (3, .int (-1)), (2, .int 0), (0, .ref (ad 255)), (1, .int z1)]) hx hb dX11_most_61 hl (by decide) rfl (fun ls hl => ?_)
          have hJ63 : ∀ (k63 : Nat) (y63_l2 : Int32) (y63_l3 : Int32) (y63_l4 : Int32) (H : Heap) (locs : List Loc) (ls : Array Slot), In y63_l2 (-2147483648) 2147483647 → In y63_l3 (-1) 5 → In y63_l4 0 6 → va_P g.1 vwCl (va_pl L f3) H → va_D A (va_pl L f3) → va_S A s.heap H locs → lv_has ls 5 [(0, .ref (ad 255)), (1, .int z1), (2, .int y63_l2), (3, .int y63_l3), (4, .int y63_l4)] → 6 - y63_l4.toInt < ((k63 : Nat) : Int) → W p l e rm_X11_most s m [.ref (ad 255), .int z1].toArray below meth c H locs 0 0 (MQ below (va_Qi (po_X11_most g ad th L f z1) (PstB g A) A) [.ref (ad 255), .int z1].toArray s rm_X11_most.cells rm_X11_most.slots A) (F0 m 63 ls []) := by
            intro k63
            induction k63 with
            | zero =>
              intro y63_l2 y63_l3 y63_l4 H locs ls hy63_l2 hy63_l3 hy63_l4 hP hD hS hl hmz63
              exact ms0 hy63_l4 hmz63
            | succ k63 ih63 =>
              intro y63_l2 y63_l3 y63_l4 H locs ls hy63_l2 hy63_l3 hy63_l4 hP hD hS hl hmz63
              refine lv_iload hx hb dX11_most_63 (lv_at hl 4 rfl) ?_
              refine lv_aload_n hx hb dX11_most_65 rfl (lv_at hl 0 rfl) ?_
              refine call_i (run_V (rm := rm_X11_over) hx hb hml hown hts (s_X11_over l g ad th _ _ _  hst hT (show MI th from hM)) cV_X11_over wg_1769 ⟨Nat.le_of_ble_eq_true rfl, Nat.le_of_ble_eq_true rfl⟩ hG hE hA hP hD hS (hst.1 255 (by decide)) hf4 rfl rfl hl.1 (As := []) (rest := [.int y63_l4]) rfl (Nat.le_of_ble_eq_true rfl) dX11_most_66 ⟨Nat.le_of_ble_eq_true rfl, Nat.le_of_ble_eq_true rfl⟩) hA hD hS (fun r26 L27 f28 H locs hp29 hP hD hS => ?_)
              obtain ⟨eL30L, eL30T, eL30R, eL30X0⟩ := hp29
              have eL30L : L27 = L := eL30L
              have eL30T : f28 = f3 := eL30T
              rw [eL30L, eL30T] at hP hD
              have eL30R : In r26 0 6 := eL30R
              have hcl31 : r26.toInt = 0 ∨ th 15 = 1 := eL30X0
              refine lv_icmp_ge (tgt := 129) hx hb dX11_most_69 (by decide) (fun c32 => ?_) (fun c32 => ?_)
              ·
                have cc33 : r26.toInt ≤ y63_l4.toInt := i32_le.mp c32
                refine lv_iload_n hx hb dX11_most_129 rfl (lv_at hl 1 rfl) ?_
                refine lv_iconst (v := 2) hx hb dX11_most_130 (by decide) ?_
                refine lv_icmp_ne (tgt := 138) hx hb dX11_most_131 (by decide) (fun c34 => ?_) (fun c34 => ?_)
                ·
                  have oc2 : (2 : Int32).toInt = 2 := by decide
                  have cc35 : z1.toInt ≠ (2 : Int32).toInt := i32_ne c34
                  have hb36 : In z1 3 4 := In.ne1 hb23 (⟨by decide, by decide⟩ : In 2 2 2) cc35 (by decide) (by decide)
                  refine lv_iload_n hx hb dX11_most_138 rfl (lv_at hl 3 rfl) ?_
                  exact ret_i (ty := .int) hx hb hr hlocks (rfl) hP hD hS (Nat.le_of_ble_eq_true rfl) (Nat.le_of_ble_eq_true rfl) (⟨rfl, hT, hfr⟩) dX11_most_139
                ·
                  have oc2 : (2 : Int32).toInt = 2 := by decide
                  have cc37 : z1.toInt = (2 : Int32).toInt := congrArg Int32.toInt c34
                  have hb38 : In z1 2 2 := In.eq1 hb23 (⟨by decide, by decide⟩ : In 2 2 2) cc37 (by decide) (by decide)
                  refine lv_iload_n hx hb dX11_most_134 rfl (lv_at hl 2 rfl) ?_
                  refine lv_goto (tgt := 139) hx hb dX11_most_135 (by decide) ?_
                  exact ret_i (ty := .int) hx hb hr hlocks (rfl) hP hD hS (Nat.le_of_ble_eq_true rfl) (Nat.le_of_ble_eq_true rfl) (⟨rfl, hT, hfr⟩) dX11_most_139
              ·
                have cc39 : y63_l4.toInt < r26.toInt := i32_nle c32
                have hb40 : In y63_l4 0 5 := In.lt1 hy63_l4 eL30R cc39 (by decide) (by decide)
                have hb41 : In r26 1 6 := In.lt2 hy63_l4 eL30R cc39 (by decide) (by decide)
                refine lv_iload_n hx hb dX11_most_72 rfl (lv_at hl 2 rfl) ?_
                refine lv_aload_n hx hb dX11_most_73 rfl (lv_at hl 0 rfl) ?_
                refine lv_iload hx hb dX11_most_74 (lv_at hl 4 rfl) ?_
                refine lv_iconst (v := 1) hx hb dX11_most_76 (by decide) ?_
                refine lv_iconst (v := 0) hx hb dX11_most_77 (by decide) ?_
                refine call_i (run_V (rm := rm_X11_trueOf) hx hb hml hown hts (s_X11_trueOf l g ad th _ _ _ y63_l4 1 0 hst hT hb40 (⟨by decide, by decide⟩ : In 1 0 7)) cV_X11_trueOf wg_1896 ⟨Nat.le_of_ble_eq_true rfl, Nat.le_of_ble_eq_true rfl⟩ hG hE hA hP hD hS (hst.1 255 (by decide)) hf4 rfl rfl hl.1 (As := [.int y63_l4, .int 1, .int 0]) (rest := [.int y63_l2]) rfl (Nat.le_of_ble_eq_true rfl) dX11_most_78 ⟨Nat.le_of_ble_eq_true rfl, Nat.le_of_ble_eq_true rfl⟩) hA hD hS (fun r42 L43 f44 H locs hp45 hP hD hS => ?_)
                obtain ⟨eL46L, eL46T⟩ := hp45
                have eL46L : L43 = L := eL46L
                have eL46T : f44 = f3 := eL46T
                rw [eL46L, eL46T] at hP hD
                have hJ89 : ∀ (y89_s0 : Int32) (H : Heap) (locs : List Loc) (ls : Array Slot), In y89_s0 0 1 → va_P g.1 vwCl (va_pl L f3) H → va_D A (va_pl L f3) → va_S A s.heap H locs → lv_has ls 5 [(0, .ref (ad 255)), (1, .int z1), (2, .int y63_l2), (3, .int y63_l3), (4, .int y63_l4)] → W p l e rm_X11_most s m [.ref (ad 255), .int z1].toArray below meth c H locs 0 0 (MQ below (va_Qi (po_X11_most g ad th L f z1) (PstB g A) A) [.ref (ad 255), .int z1].toArray s rm_X11_most.cells rm_X11_most.slots A) (F0 m 89 ls [.int y89_s0, .int y63_l2]) := by
                  intro y89_s0 H locs ls hy89_s0 hP hD hS hl
                  refine lv_iadd hx hb dX11_most_89 ?_
                  refine lv_topi (fun x47 ex47 => ?_)
                  refine lv_istore_n (lv' := [(2, .int x47), (0, .ref (ad 255)), (1, .int z1), (3, .int y63_l3), (4, .int y63_l4)]) hx hb dX11_most_90 rfl hl (by decide) rfl (fun ls hl => ?_)
                  refine lv_iload_n hx hb dX11_most_91 rfl (lv_at hl 3 rfl) ?_
                  refine lv_iconst (v := (-1)) hx hb dX11_most_92 (by decide) ?_
                  have hJ122 : ∀ (y122_s0 : Int32) (H : Heap) (locs : List Loc) (ls : Array Slot), In y122_s0 0 5 → va_P g.1 vwCl (va_pl L f3) H → va_D A (va_pl L f3) → va_S A s.heap H locs → lv_has ls 5 [(0, .ref (ad 255)), (1, .int z1), (2, .int x47), (3, .int y63_l3), (4, .int y63_l4)] → W p l e rm_X11_most s m [.ref (ad 255), .int z1].toArray below meth c H locs 0 0 (MQ below (va_Qi (po_X11_most g ad th L f z1) (PstB g A) A) [.ref (ad 255), .int z1].toArray s rm_X11_most.cells rm_X11_most.slots A) (F0 m 122 ls [.int y122_s0]) := by
                    intro y122_s0 H locs ls hy122_s0 hP hD hS hl
                    refine lv_istore_n (lv' := [(3, .int y122_s0), (0, .ref (ad 255)), (1, .int z1), (2, .int x47), (4, .int y63_l4)]) hx hb dX11_most_122 rfl hl (by decide) rfl (fun ls hl => ?_)
                    obtain ⟨x48, ex48⟩ : ∃ y : Int32, y = y63_l4 + 1 := ⟨_, rfl⟩
                    have hb49 : In x48 1 6 := ex48 ▸ In.add hb40 (⟨by decide, by decide⟩ : In 1 1 1) (by decide) (by decide) (by decide) (by decide)
                    have et50 : x48.toInt = y63_l4.toInt + 1 := In.adde ex48 hb40 (k := 1) (by decide) (by decide) (by decide)
                    refine lv_iinc (v := x48) (lv' := [(4, .int x48), (3, .int y122_s0), (0, .ref (ad 255)), (1, .int z1), (2, .int x47)]) hx hb dX11_most_123 hl (k := 4) rfl (by rw [ex48]; rfl) (by decide) rfl (fun ls hl => ?_)
                    refine lv_goto (tgt := 63) hx hb dX11_most_126 (by decide) ?_
                    exact ih63 x47 y122_s0 x48 _ _ _ (In.full x47) (In.mono hy122_s0 (by decide) (by decide)) (In.mono hb49 (by decide) (by decide)) hP hD hS (lv_sub hl [2, 3, 4, 1, 0] rfl) (msu et50 (by decide) hmz63)
                  have hJ116 : ∀ (H : Heap) (locs : List Loc) (ls : Array Slot), va_P g.1 vwCl (va_pl L f3) H → va_D A (va_pl L f3) → va_S A s.heap H locs → lv_has ls 5 [(0, .ref (ad 255)), (1, .int z1), (2, .int x47), (3, .int y63_l3), (4, .int y63_l4)] → W p l e rm_X11_most s m [.ref (ad 255), .int z1].toArray below meth c H locs 0 0 (MQ below (va_Qi (po_X11_most g ad th L f z1) (PstB g A) A) [.ref (ad 255), .int z1].toArray s rm_X11_most.cells rm_X11_most.slots A) (F0 m 116 ls []) := by
                    intro H locs ls hP hD hS hl
                    refine lv_iload hx hb dX11_most_116 (lv_at hl 4 rfl) ?_
                    refine lv_goto (tgt := 122) hx hb dX11_most_118 (by decide) ?_
                    exact hJ122 y63_l4 _ _ _ hb40 hP hD hS (lv_sub hl [0, 1, 2, 3, 4] rfl)
                  refine lv_icmp_eq (tgt := 116) hx hb dX11_most_93 (by decide) (fun c51 => ?_) (fun c51 => ?_)
                  ·
                    have ocm1 : ((-1) : Int32).toInt = (-1) := by decide
                    have cc52 : y63_l3.toInt = ((-1) : Int32).toInt := congrArg Int32.toInt c51
                    have hb53 : In y63_l3 (-1) (-1) := In.eq1 hy63_l3 (⟨by decide, by decide⟩ : In (-1) (-1) (-1)) cc52 (by decide) (by decide)
                    exact hJ116 _ _ _ hP hD hS (lv_sub hl [1, 2, 0, 3, 4] rfl)
                  ·
                    have ocm1 : ((-1) : Int32).toInt = (-1) := by decide
                    have cc54 : y63_l3.toInt ≠ ((-1) : Int32).toInt := i32_ne c51
                    have hb55 : In y63_l3 0 5 := In.ne1 hy63_l3 (⟨by decide, by decide⟩ : In (-1) (-1) (-1)) cc54 (by decide) (by decide)
                    refine lv_aload_n hx hb dX11_most_96 rfl (lv_at hl 1 rfl) ?_
                    refine lv_iload hx hb dX11_most_97 (lv_at hl 4 rfl) ?_
                    refine lv_bipush (v := 7) hx hb dX11_most_99 (by decide) ?_
                    refine lv_iconst (v := 1) hx hb dX11_most_101 (by decide) ?_
                    refine call_i (run_V (rm := rm_X11_trueOf) hx hb hml hown hts (s_X11_trueOf l g ad th _ _ _ y63_l4 7 1 hst hT hb40 (⟨by decide, by decide⟩ : In 7 0 7)) cV_X11_trueOf wg_1896 ⟨Nat.le_of_ble_eq_true rfl, Nat.le_of_ble_eq_true rfl⟩ hG hE hA hP hD hS (hst.1 255 (by decide)) hf4 rfl rfl hl.1 (As := [.int y63_l4, .int 7, .int 1]) (rest := []) rfl (Nat.le_of_ble_eq_true rfl) dX11_most_102 ⟨Nat.le_of_ble_eq_true rfl, Nat.le_of_ble_eq_true rfl⟩) hA hD hS (fun r56 L57 f58 H locs hp59 hP hD hS => ?_)
                    obtain ⟨eL60L, eL60T⟩ := hp59
                    have eL60L : L57 = L := eL60L
                    have eL60T : f58 = f3 := eL60T
                    rw [eL60L, eL60T] at hP hD
                    refine lv_aload_n hx hb dX11_most_105 rfl (lv_at hl 1 rfl) ?_
                    refine lv_iload_n hx hb dX11_most_106 rfl (lv_at hl 3 rfl) ?_
                    refine lv_bipush (v := 7) hx hb dX11_most_107 (by decide) ?_
                    refine lv_iconst (v := 1) hx hb dX11_most_109 (by decide) ?_
                    refine call_i (run_V (rm := rm_X11_trueOf) hx hb hml hown hts (s_X11_trueOf l g ad th _ _ _ y63_l3 7 1 hst hT hb55 (⟨by decide, by decide⟩ : In 7 0 7)) cV_X11_trueOf wg_1896 ⟨Nat.le_of_ble_eq_true rfl, Nat.le_of_ble_eq_true rfl⟩ hG hE hA hP hD hS (hst.1 255 (by decide)) hf4 rfl rfl hl.1 (As := [.int y63_l3, .int 7, .int 1]) (rest := [.int r56]) rfl (Nat.le_of_ble_eq_true rfl) dX11_most_110 ⟨Nat.le_of_ble_eq_true rfl, Nat.le_of_ble_eq_true rfl⟩) hA hD hS (fun r61 L62 f63 H locs hp64 hP hD hS => ?_)
                    obtain ⟨eL65L, eL65T⟩ := hp64
                    have eL65L : L62 = L := eL65L
                    have eL65T : f63 = f3 := eL65T
                    rw [eL65L, eL65T] at hP hD
                    refine lv_icmp_le (tgt := 121) hx hb dX11_most_113 (by decide) (fun c66 => ?_) (fun c66 => ?_)
                    ·
                      have cc67 : r56.toInt ≤ r61.toInt := i32_le.mp c66
                      refine lv_iload_n hx hb dX11_most_121 rfl (lv_at hl 3 rfl) ?_
                      exact hJ122 y63_l3 _ _ _ hb55 hP hD hS (lv_sub hl [1, 2, 0, 3, 4] rfl)
                    ·
                      have cc68 : r61.toInt < r56.toInt := i32_nle c66
                      have hb69 : In r56 (-2147483647) 2147483647 := In.gt1 (In.full r56) (In.full r61) cc68 (by decide) (by decide)
                      have hb70 : In r61 (-2147483648) 2147483646 := In.gt2 (In.full r56) (In.full r61) cc68 (by decide) (by decide)
                      exact hJ116 _ _ _ hP hD hS (lv_sub hl [1, 2, 0, 3, 4] rfl)
                refine lv_if_le (tgt := 88) hx hb dX11_most_81 (by decide) (fun c71 => ?_) (fun c71 => ?_)
                ·
                  have oc0 : (0 : Int32).toInt = 0 := by decide
                  have cc72 : r42.toInt ≤ (0 : Int32).toInt := i32_le.mp c71
                  have hb73 : In r42 (-2147483648) 0 := In.le1 (In.full r42) (⟨by decide, by decide⟩ : In 0 0 0) cc72 (by decide) (by decide)
                  refine lv_iconst (v := 0) hx hb dX11_most_88 (by decide) ?_
                  exact hJ89 0 _ _ _ (⟨by decide, by decide⟩ : In 0 0 1) hP hD hS (lv_sub hl [0, 1, 2, 3, 4] rfl)
                ·
                  have oc0 : (0 : Int32).toInt = 0 := by decide
                  have cc74 : (0 : Int32).toInt < r42.toInt := i32_nle c71
                  have hb75 : In r42 1 2147483647 := In.gt1 (In.full r42) (⟨by decide, by decide⟩ : In 0 0 0) cc74 (by decide) (by decide)
                  refine lv_iconst (v := 1) hx hb dX11_most_84 (by decide) ?_
                  refine lv_goto (tgt := 89) hx hb dX11_most_85 (by decide) ?_
                  exact hJ89 1 _ _ _ (⟨by decide, by decide⟩ : In 1 0 1) hP hD hS (lv_sub hl [0, 1, 2, 3, 4] rfl)
          exact hJ63 ((6 - (0 : Int32).toInt).toNat + 1) 0 (-1) 0 _ _ _ (⟨by decide, by decide⟩ : In 0 (-2147483648) 2147483647) (⟨by decide, by decide⟩ : In (-1) (-1) 5) (⟨by decide, by decide⟩ : In 0 0 6) hP hD hS (lv_sub hl [3, 4, 2, 1, 0] rfl) (msI _)
        ·
          have oc3 : (3 : Int32).toInt = 3 := by decide
          have cc76 : z1.toInt = (3 : Int32).toInt := congrArg Int32.toInt c24
          have hb77 : In z1 3 3 := In.eq1 hb23 (⟨by decide, by decide⟩ : In 3 3 3) cc76 (by decide) (by decide)
          refine lv_aload_n hx hb dX11_most_51 rfl (lv_at hl 0 rfl) ?_
          refine call_i (run_V (rm := rm_X11_changes) hx hb hml hown hts (s_X11_changes l g ad th _ _ _  hst hT (show MI th from hM)) cV_X11_changes wg_1943 ⟨Nat.le_of_ble_eq_true rfl, Nat.le_of_ble_eq_true rfl⟩ hG hE hA hP hD hS (hst.1 255 (by decide)) hf4 rfl rfl hl.1 (As := []) (rest := []) rfl (Nat.le_of_ble_eq_true rfl) dX11_most_52 ⟨Nat.le_of_ble_eq_true rfl, Nat.le_of_ble_eq_true rfl⟩) hA hD hS (fun r78 L79 f80 H locs hp81 hP hD hS => ?_)
          obtain ⟨eL82L, eL82T⟩ := hp81
          have eL82L : L79 = L := eL82L
          have eL82T : f80 = f3 := eL82T
          rw [eL82L, eL82T] at hP hD
          exact ret_i (ty := .int) hx hb hr hlocks (rfl) hP hD hS (Nat.le_of_ble_eq_true rfl) (Nat.le_of_ble_eq_true rfl) (⟨rfl, hT, hfr⟩) dX11_most_55
      ·
        have oc2 : (2 : Int32).toInt = 2 := by decide
        have cc83 : z1.toInt < (2 : Int32).toInt := i32_nle c21
        have hb84 : In z1 0 1 := In.lt1 hb20 (⟨by decide, by decide⟩ : In 2 2 2) cc83 (by decide) (by decide)
        refine lv_aload_n hx hb dX11_most_31 rfl (lv_at hl 0 rfl) ?_
        refine lv_iload_n hx hb dX11_most_32 rfl (lv_at hl 1 rfl) ?_
        refine lv_iconst (v := 1) hx hb dX11_most_33 (by decide) ?_
        have hJ42 : ∀ (y42_s0 : Int32) (H : Heap) (locs : List Loc) (ls : Array Slot), In y42_s0 0 1 → va_P g.1 vwCl (va_pl L f3) H → va_D A (va_pl L f3) → va_S A s.heap H locs → lv_has ls 5 [(0, .ref (ad 255)), (1, .int z1)] → W p l e rm_X11_most s m [.ref (ad 255), .int z1].toArray below meth c H locs 0 0 (MQ below (va_Qi (po_X11_most g ad th L f z1) (PstB g A) A) [.ref (ad 255), .int z1].toArray s rm_X11_most.cells rm_X11_most.slots A) (F0 m 42 ls [.int y42_s0, .ref (ad 255)]) := by
          intro y42_s0 H locs ls hy42_s0 hP hD hS hl
          refine call_i (run_V (rm := rm_X11_mostSuspecting) hx hb hml hown hts (s_X11_mostSuspecting l g ad th _ _ _ y42_s0 hst hT hy42_s0) cV_X11_mostSuspecting wg_1939 ⟨Nat.le_of_ble_eq_true rfl, Nat.le_of_ble_eq_true rfl⟩ hG hE hA hP hD hS (hst.1 255 (by decide)) hf4 rfl rfl hl.1 (As := [.int y42_s0]) (rest := []) rfl (Nat.le_of_ble_eq_true rfl) dX11_most_42 ⟨Nat.le_of_ble_eq_true rfl, Nat.le_of_ble_eq_true rfl⟩) hA hD hS (fun r85 L86 f87 H locs hp88 hP hD hS => ?_)
          obtain ⟨eL89L, eL89T⟩ := hp88
          have eL89L : L86 = L := eL89L
          have eL89T : f87 = f3 := eL89T
          rw [eL89L, eL89T] at hP hD
          exact ret_i (ty := .int) hx hb hr hlocks (rfl) hP hD hS (Nat.le_of_ble_eq_true rfl) (Nat.le_of_ble_eq_true rfl) (⟨rfl, hT, hfr⟩) dX11_most_45
        refine lv_icmp_ne (tgt := 41) hx hb dX11_most_34 (by decide) (fun c90 => ?_) (fun c90 => ?_)
        ·
          have oc1 : (1 : Int32).toInt = 1 := by decide
          have cc91 : z1.toInt ≠ (1 : Int32).toInt := i32_ne c90
          have hb92 : In z1 0 0 := In.ne1 hb84 (⟨by decide, by decide⟩ : In 1 1 1) cc91 (by decide) (by decide)
          refine lv_iconst (v := 0) hx hb dX11_most_41 (by decide) ?_
          exact hJ42 0 _ _ _ (⟨by decide, by decide⟩ : In 0 0 1) hP hD hS (lv_sub hl [0, 1] rfl)
        ·
          have oc1 : (1 : Int32).toInt = 1 := by decide
          have cc93 : z1.toInt = (1 : Int32).toInt := congrArg Int32.toInt c90
          have hb94 : In z1 1 1 := In.eq1 hb84 (⟨by decide, by decide⟩ : In 1 1 1) cc93 (by decide) (by decide)
          refine lv_iconst (v := 1) hx hb dX11_most_37 (by decide) ?_
          refine lv_goto (tgt := 42) hx hb dX11_most_38 (by decide) ?_
          exact hJ42 1 _ _ _ (⟨by decide, by decide⟩ : In 1 0 1) hP hD hS (lv_sub hl [0, 1] rfl)
    ·
      have oc0 : (0 : Int32).toInt = 0 := by decide
      have cc95 : r11.toInt = (0 : Int32).toInt := congrArg Int32.toInt c17
      have hb96 : In r11 0 0 := In.eq1 eL15R (⟨by decide, by decide⟩ : In 0 0 0) cc95 (by decide) (by decide)
      refine lv_iconst (v := (-1)) hx hb dX11_most_24 (by decide) ?_
      exact ret_i (ty := .int) hx hb hr hlocks (rfl) hP hD hS (Nat.le_of_ble_eq_true rfl) (Nat.le_of_ble_eq_true rfl) (⟨rfl, hT, hfr⟩) dX11_most_25

abbrev rm_X11_ruled : Room := { frames := 3, cells := 0, slots := 0, locals := 67 }
abbrev po_X11_ruled (g : GG) (ad : Nat → Nat) (th : Nat → Int) (L : List Nat) (f : HP) (z1 : Int32) (z2 : Int32) : Int32 → (List Nat × HP) → Prop := fun r u => u.1 = L ∧ TI g ad th u.2 ∧ (∀ b, b ≠ (ad 255) → u.2 b = f b)
set_option maxHeartbeats 4000000 in
set_option maxRecDepth 100000 in
theorem s_X11_ruled (l : Launch) (g : GG) (ad : Nat → Nat) (th : Nat → Int) (L : List Nat) (f : HP) (sz : Nat) (z1 : Int32) (z2 : Int32) (hst : ST ad L) (hT : TI g ad th f) (hM : MI th) : MtI l g yX11_ruled cX11_ruled 8 (some .int) rm_X11_ruled [.ref (ad 255), .int z1, .int z2] L f sz (po_X11_ruled g ad th L f z1 z2) := by
  refine MtI.of (by decide +kernel) (Nat.le_of_ble_eq_true rfl) ?_
  intro p e s m below meth c A hEn hP hD hS ls hl
  obtain ⟨hx, hb, hr, hml, hown, hlocks, hts, hG, hA, hE, hnm⟩ := hEn
  have hown : s.vm.findClass "RulerWordModel" = some m.cls := hown
  have hl : lv_has ls 8 [(0, .ref (ad 255)), (1, .int z1), (2, .int z2)] := hl
  have hfr : (∀ b, b ≠ (ad 255) → f b = f b) := fun b z0_ => rfl
  have hM0 := hM
  obtain ⟨m1, m2, m3, m4, m5, m6, m7, m8, m9, m10⟩ := hM0
  have m20 := mi20 m2 m3
  refine lv_aload_n hx hb dX11_ruled_0 rfl (lv_at hl 0 rfl) ?_
  refine lv_iconst (v := 0) hx hb dX11_ruled_1 (by decide) ?_
  refine M0e hT (fun v0_1 v2_1 v3_1 v4_1 v5_1 v6_1 v8_1 v9_1 v12_1 v13_1 v14_1 v15_1 v16_1 v17_1 v18_1 v19_1 v20_1 v21_1 v22_1 v23_1 v25_1 v36_1 v37_1 v38_1 v39_1 v40_1 v45_1 v46_1 v47_1 v48_1 v50_1 v51_1 v53_1 v55_1 hf2 hv0_1 hv2_1 hg2_1 hv3_1 hg3_1 hv4_1 hg4_1 hv5_1 hg5_1 hv6_1 hg6_1 hv8_1 hg8_1 hv9_1 hg9_1 hv12_1 hv13_1 hg13_1 hv14_1 hg14_1 hv15_1 hg15_1 hv17_1 hg17_1 hv20_1 hg20_1 hv23_1 hg23_1 hv25_1 hg25_1 hv36_1 hg36_1 hv47_1 hg47_1 hv48_1 hg48_1 hv53_1 hg53_1 hv55_1 hg55_1 hrel0_1 => ?_)
  have hg15_1 : v15_1.toInt = th 11 := hg15_1
  have hg20_1 : v20_1.toInt = th 14 := hg20_1
  refine pl_put (ty := .int) (v := .int 0) (fs' := [.int 0, .ref (ad 256), .int v2_1, .int v3_1, .int v4_1, .int v5_1, .int v6_1, .ref (ad 257), .int v8_1, .int v9_1, .ref (ad 258), .ref (ad 259), .int v12_1, .int v13_1, .int v14_1, .int v15_1, .int v16_1, .int v17_1, .int v18_1, .int v19_1, .int v20_1, .long v21_1, .long v22_1, .int v23_1, .ref (ad 260), .int v25_1, .ref (ad 261), .ref (ad 262), .ref (ad 263), .ref (ad 264), .ref (ad 265), .ref (ad 266), .ref (ad 267), .ref (ad 268), .ref (ad 269), .ref (ad 270), .int v36_1, .int v37_1, .int v38_1, .int v39_1, .int v40_1, .ref (ad 271), .ref (ad 272), .ref (ad 273), .ref (ad 274), .long v45_1, .long v46_1, .int v47_1, .int v48_1, .ref (ad 275), .int v50_1, .int v51_1, .ref (ad 276), .int v53_1, .ref (ad 277), .int v55_1]) hx hb hts (fun w h => mT (inX11 w h)) tyX11 tyX11_ok nmX11 hown hG.1 hP hD hS (hst.1 255 (by decide)) hf2 rfl 0 (by decide) (hts _ (mT wg_1336)) (fun _ h => h) rfl (by decide +kernel) (rfl) (rfl) (Nat.le_of_ble_eq_true rfl) rfl dX11_ruled_2 (fun H locs f3 hf4 ho5 hP hD hS => ?_)
  have hfr : (∀ b, b ≠ (ad 255) → f3 b = f b) := fun b z0_ => (ho5 b z0_).trans (hfr b z0_)
  refine lv_aload_n hx hb dX11_ruled_5 rfl (lv_at hl 0 rfl) ?_
  refine lv_iload_n hx hb dX11_ruled_6 rfl (lv_at hl 1 rfl) ?_
  have hT := TI.updM hT hst (k := 0) (by decide) hf4 ho5 ⟨0, v2_1, v3_1, v4_1, v5_1, v6_1, v8_1, v9_1, v12_1, v13_1, v14_1, v15_1, v16_1, v17_1, v18_1, v19_1, v20_1, v21_1, v22_1, v23_1, v25_1, v36_1, v37_1, v38_1, v39_1, v40_1, v45_1, v46_1, v47_1, v48_1, v50_1, v51_1, v53_1, v55_1, rfl, (⟨by decide, by decide⟩ : In 0 0 1), hv2_1, hg2_1, hv3_1, hg3_1, hv4_1, hg4_1, hv5_1, hg5_1, hv6_1, hg6_1, hv8_1, hg8_1, hv9_1, hg9_1, hv12_1, hv13_1, hg13_1, hv14_1, hg14_1, hv15_1, hg15_1, hv17_1, hg17_1, hv20_1, hg20_1, hv23_1, hg23_1, hv25_1, hg25_1, hv36_1, hg36_1, hv47_1, hg47_1, hv48_1, hg48_1, hv53_1, hg53_1, hv55_1, hg55_1, hrel0_1⟩
  refine call_i (run_V (rm := rm_X11_isPeer) hx hb hml hown hts (s_X11_isPeer l g ad th _ _ _ z1 hst hT ) cV_X11_isPeer wg_1718 ⟨Nat.le_of_ble_eq_true rfl, Nat.le_of_ble_eq_true rfl⟩ hG hE hA hP hD hS (hst.1 255 (by decide)) hf4 rfl rfl hl.1 (As := [.int z1]) (rest := []) rfl (Nat.le_of_ble_eq_true rfl) dX11_ruled_7 ⟨Nat.le_of_ble_eq_true rfl, Nat.le_of_ble_eq_true rfl⟩) hA hD hS (fun r6 L7 f8 H locs hp9 hP hD hS => ?_)
  obtain ⟨eL10L, eL10T, eL10R, eL10W0, eL10X0⟩ := hp9
  have eL10L : L7 = L := eL10L
  have eL10T : f8 = f3 := eL10T
  rw [eL10L, eL10T] at hP hD
  have eL10R : In r6 0 1 := eL10R
  have hcl11 : r6.toInt = 0 ∨ th 15 = 1 := eL10X0
  refine lv_if_eq (tgt := 25) hx hb dX11_ruled_10 (by decide) (fun c12 => ?_) (fun c12 => ?_)
  ·
    have oc0 : (0 : Int32).toInt = 0 := by decide
    have cc13 : r6.toInt = (0 : Int32).toInt := congrArg Int32.toInt c12
    have hb14 : In r6 0 0 := In.eq1 eL10R (⟨by decide, by decide⟩ : In 0 0 0) cc13 (by decide) (by decide)
    refine lv_iconst (v := (-1)) hx hb dX11_ruled_25 (by decide) ?_
    exact ret_i (ty := .int) hx hb hr hlocks (rfl) hP hD hS (Nat.le_of_ble_eq_true rfl) (Nat.le_of_ble_eq_true rfl) (⟨rfl, hT, hfr⟩) dX11_ruled_26
  ·
    have oc0 : (0 : Int32).toInt = 0 := by decide
    have cc15 : r6.toInt ≠ (0 : Int32).toInt := i32_ne c12
    have hb16 : In r6 1 1 := In.ne1 eL10R (⟨by decide, by decide⟩ : In 0 0 0) cc15 (by decide) (by decide)
    have hb17 : In z1 0 8 := In.both (eL10W0 c12) (In.full z1) (by decide) (by decide)
    refine lv_iload_n hx hb dX11_ruled_13 rfl (lv_at hl 2 rfl) ?_
    refine lv_i2l hx hb dX11_ruled_14 rfl ?_
    refine lv_lconst (v := 0) hx hb dX11_ruled_15 (by decide) ?_
    refine lv_ldc2 hx hb hown (hts _ (mT wg_1681)) dX11_ruled_16 ?_
    refine call_i (run_S (rm := rm_X11_isIn) hx hb hml hown hts (s_X11_isIn l g ad th _ _ _ (z2.toInt64) 0 3 hst hT ) cS_X11_isIn wg_1581 ⟨Nat.le_of_ble_eq_true rfl, Nat.le_of_ble_eq_true rfl⟩ hG hE hA hP hD hS rfl hl.1 (As := [.long (z2.toInt64), .long 0, .long 3]) (rest := []) rfl (Nat.le_of_ble_eq_true rfl) dX11_ruled_19 ⟨Nat.le_of_ble_eq_true rfl, Nat.le_of_ble_eq_true rfl⟩) hA hD hS (fun r18 L19 f20 H locs hp21 hP hD hS => ?_)
    obtain ⟨eL22L, eL22T, eL22R, eL22X0, eL22X1⟩ := hp21
    have eL22L : L19 = L := eL22L
    have eL22T : f20 = f3 := eL22T
    rw [eL22L, eL22T] at hP hD
    have eL22R : In r18 0 1 := eL22R
    have hii23 : r18.toInt = 0 ∨ (0 ≤ z2.toInt ∧ z2.toInt ≤ 3) := by have z := eL22X0; rw [i2l_t z2, (by decide : (0 : Int64).toInt = 0), (by decide : (3 : Int64).toInt = 3)] at z; exact z
    have hii23w : ¬ r18 = 0 → In z2 0 3 := fun c => by have c2 := i32_ne c; have e0 : (0 : Int32).toInt = 0 := (by decide); exact ⟨by omega, by omega⟩
    refine lv_if_ne (tgt := 27) hx hb dX11_ruled_22 (by decide) (fun c24 => ?_) (fun c24 => ?_)
    ·
      have oc0 : (0 : Int32).toInt = 0 := by decide
      have cc25 : r18.toInt ≠ (0 : Int32).toInt := i32_ne c24
      have hb26 : In r18 1 1 := In.ne1 eL22R (⟨by decide, by decide⟩ : In 0 0 0) cc25 (by decide) (by decide)
      have hb27 : In z2 0 3 := In.both (hii23w c24) (In.full z2) (by decide) (by decide)
      refine lv_iconst (v := 0) hx hb dX11_ruled_27 (by decide) ?_
      refine lv_istore_n (lv' := [(3, .int 0), (0, .ref (ad 255)), (1, .int z1), (2, .int z2)]) hx hb dX11_ruled_28 rfl hl (by decide) rfl (fun ls hl => ?_)
      refine lv_iconst (v := 0) hx hb dX11_ruled_29 (by decide) ?_
      refine lv_istore (lv' := [(4, .int 0), (3, .int 0), (0, .ref (ad 255)), (1, .int z1), (2, .int z2)]) hx hb dX11_ruled_30 hl (by decide) rfl (fun ls hl => ?_)
      have hJ32 : ∀ (k32 : Nat) (y32_l3 : Int32) (y32_l4 : Int32) (H : Heap) (locs : List Loc) (ls : Array Slot), In y32_l3 (-2147483648) 2147483647 → In y32_l4 0 6 → va_P g.1 vwCl (va_pl L f3) H → va_D A (va_pl L f3) → va_S A s.heap H locs → lv_has ls 8 [(0, .ref (ad 255)), (1, .int z1), (2, .int z2), (3, .int y32_l3), (4, .int y32_l4)] → 6 - y32_l4.toInt < ((k32 : Nat) : Int) → W p l e rm_X11_ruled s m [.ref (ad 255), .int z1, .int z2].toArray below meth c H locs 0 0 (MQ below (va_Qi (po_X11_ruled g ad th L f z1 z2) (PstB g A) A) [.ref (ad 255), .int z1, .int z2].toArray s rm_X11_ruled.cells rm_X11_ruled.slots A) (F0 m 32 ls []) := by
        intro k32
        induction k32 with
        | zero =>
          intro y32_l3 y32_l4 H locs ls hy32_l3 hy32_l4 hP hD hS hl hmz32
          exact ms0 hy32_l4 hmz32
        | succ k32 ih32 =>
          intro y32_l3 y32_l4 H locs ls hy32_l3 hy32_l4 hP hD hS hl hmz32
          refine lv_iload hx hb dX11_ruled_32 (lv_at hl 4 rfl) ?_
          refine lv_aload_n hx hb dX11_ruled_34 rfl (lv_at hl 0 rfl) ?_
          refine call_i (run_V (rm := rm_X11_over) hx hb hml hown hts (s_X11_over l g ad th _ _ _  hst hT (show MI th from hM)) cV_X11_over wg_1769 ⟨Nat.le_of_ble_eq_true rfl, Nat.le_of_ble_eq_true rfl⟩ hG hE hA hP hD hS (hst.1 255 (by decide)) hf4 rfl rfl hl.1 (As := []) (rest := [.int y32_l4]) rfl (Nat.le_of_ble_eq_true rfl) dX11_ruled_35 ⟨Nat.le_of_ble_eq_true rfl, Nat.le_of_ble_eq_true rfl⟩) hA hD hS (fun r28 L29 f30 H locs hp31 hP hD hS => ?_)
          obtain ⟨eL32L, eL32T, eL32R, eL32X0⟩ := hp31
          have eL32L : L29 = L := eL32L
          have eL32T : f30 = f3 := eL32T
          rw [eL32L, eL32T] at hP hD
          have eL32R : In r28 0 6 := eL32R
          have hcl33 : r28.toInt = 0 ∨ th 15 = 1 := eL32X0
          refine lv_icmp_ge (tgt := 223) hx hb dX11_ruled_38 (by decide) (fun c34 => ?_) (fun c34 => ?_)
          ·
            have cc35 : r28.toInt ≤ y32_l4.toInt := i32_le.mp c34
            refine lv_iload_n hx hb dX11_ruled_223 rfl (lv_at hl 3 rfl) ?_
            exact ret_i (ty := .int) hx hb hr hlocks (rfl) hP hD hS (Nat.le_of_ble_eq_true rfl) (Nat.le_of_ble_eq_true rfl) (⟨rfl, hT, hfr⟩) dX11_ruled_224
          ·
            have cc36 : y32_l4.toInt < r28.toInt := i32_nle c34
            have hb37 : In y32_l4 0 5 := In.lt1 hy32_l4 eL32R cc36 (by decide) (by decide)
            have hb38 : In r28 1 6 := In.lt2 hy32_l4 eL32R cc36 (by decide) (by decide)
            refine lv_iload hx hb dX11_ruled_41 (lv_at hl 4 rfl) ?_
            refine lv_aload_n hx hb dX11_ruled_43 rfl (lv_at hl 0 rfl) ?_
            refine pl_get (v := .int v15_1) hx hb hts (fun w h => mT (inX11 w h)) hown hG.1 hP (hst.1 255 (by decide)) hf4 rfl 15 (by decide) (hts _ (mT wg_1351)) (fun _ h => h) rfl dX11_ruled_44 ?_
            have hb39 : In v15_1 1 9 := In.mk (by have ob10 : (0 : Int) ≤ (th 10) ∧ (th 10) ≤ 1 := (b0_10 hT :); have ob11 : (0 : Int) ≤ (th 11) ∧ (th 11) ≤ 9 := (b0_11 hT :); have ob12 : (0 : Int) ≤ (th 12) ∧ (th 12) ≤ 6 := (b0_12 hT :); have ob14 : (0 : Int) ≤ (th 14) ∧ (th 14) ≤ 511 := (b0_14 hT :); have ob15 : (0 : Int) ≤ (th 15) ∧ (th 15) ≤ 1 := (b0_15 hT :); have ob16 : (0 : Int) ≤ (th 16) ∧ (th 16) ≤ 20 := (b0_16 hT :); have ob17 : (0 : Int) ≤ (th 17) ∧ (th 17) ≤ 1 := (b0_17 hT :); have ob18 : (0 : Int) ≤ (th 18) ∧ (th 18) ≤ 18 := (b0_18 hT :); have ob38 : (0 : Int) ≤ (th 38) ∧ (th 38) ≤ 400 := (b0_38 hT :); have ob39 : (0 : Int) ≤ (th 39) ∧ (th 39) ≤ 200 := (b0_39 hT :); have ob44 : (0 : Int) ≤ (th 44) ∧ (th 44) ≤ 30 := (b0_44 hT :); have orn := rnd_b (th 10); obtain ⟨o0a, o0b⟩ := (hv15_1 : In _ _ _); obtain ⟨o1a, o1b⟩ := (hv14_1 : In _ _ _); obtain ⟨o2a, o2b⟩ := (hv17_1 : In _ _ _); obtain ⟨o3a, o3b⟩ := (hv20_1 : In _ _ _); obtain ⟨o4a, o4b⟩ := (hv23_1 : In _ _ _); obtain ⟨o5a, o5b⟩ := (hv25_1 : In _ _ _); obtain ⟨o6a, o6b⟩ := (hv36_1 : In _ _ _); obtain ⟨o7a, o7b⟩ := (hv47_1 : In _ _ _); obtain ⟨o8a, o8b⟩ := (hv48_1 : In _ _ _); obtain ⟨o9a, o9b⟩ := (hv53_1 : In _ _ _); obtain ⟨o10a, o10b⟩ := (hv55_1 : In _ _ _); omega) (by have ob10 : (0 : Int) ≤ (th 10) ∧ (th 10) ≤ 1 := (b0_10 hT :); have ob11 : (0 : Int) ≤ (th 11) ∧ (th 11) ≤ 9 := (b0_11 hT :); have ob12 : (0 : Int) ≤ (th 12) ∧ (th 12) ≤ 6 := (b0_12 hT :); have ob14 : (0 : Int) ≤ (th 14) ∧ (th 14) ≤ 511 := (b0_14 hT :); have ob15 : (0 : Int) ≤ (th 15) ∧ (th 15) ≤ 1 := (b0_15 hT :); have ob16 : (0 : Int) ≤ (th 16) ∧ (th 16) ≤ 20 := (b0_16 hT :); have ob17 : (0 : Int) ≤ (th 17) ∧ (th 17) ≤ 1 := (b0_17 hT :); have ob18 : (0 : Int) ≤ (th 18) ∧ (th 18) ≤ 18 := (b0_18 hT :); have ob38 : (0 : Int) ≤ (th 38) ∧ (th 38) ≤ 400 := (b0_38 hT :); have ob39 : (0 : Int) ≤ (th 39) ∧ (th 39) ≤ 200 := (b0_39 hT :); have ob44 : (0 : Int) ≤ (th 44) ∧ (th 44) ≤ 30 := (b0_44 hT :); have orn := rnd_b (th 10); obtain ⟨o0a, o0b⟩ := (hv15_1 : In _ _ _); obtain ⟨o1a, o1b⟩ := (hv14_1 : In _ _ _); obtain ⟨o2a, o2b⟩ := (hv17_1 : In _ _ _); obtain ⟨o3a, o3b⟩ := (hv20_1 : In _ _ _); obtain ⟨o4a, o4b⟩ := (hv23_1 : In _ _ _); obtain ⟨o5a, o5b⟩ := (hv25_1 : In _ _ _); obtain ⟨o6a, o6b⟩ := (hv36_1 : In _ _ _); obtain ⟨o7a, o7b⟩ := (hv47_1 : In _ _ _); obtain ⟨o8a, o8b⟩ := (hv48_1 : In _ _ _); obtain ⟨o9a, o9b⟩ := (hv53_1 : In _ _ _); obtain ⟨o10a, o10b⟩ := (hv55_1 : In _ _ _); omega)
            refine lv_irem hx hb dX11_ruled_47 (In.ne0 hb39 (by decide)) ?_
            refine lv_topi (fun x40 ex40 => ?_)
            have hb41 : In x40 0 5 := ex40 ▸ In.rem hb37 hb39 (by decide) (by decide) (by decide)
            refine lv_iload_n hx hb dX11_ruled_48 rfl (lv_at hl 1 rfl) ?_
            have hJ217 : ∀ (y217_l3 : Int32) (H : Heap) (locs : List Loc) (ls : Array Slot), In y217_l3 (-2147483648) 2147483647 → va_P g.1 vwCl (va_pl L f3) H → va_D A (va_pl L f3) → va_S A s.heap H locs → lv_has ls 8 [(0, .ref (ad 255)), (1, .int z1), (2, .int z2), (3, .int y217_l3), (4, .int y32_l4)] → W p l e rm_X11_ruled s m [.ref (ad 255), .int z1, .int z2].toArray below meth c H locs 0 0 (MQ below (va_Qi (po_X11_ruled g ad th L f z1 z2) (PstB g A) A) [.ref (ad 255), .int z1, .int z2].toArray s rm_X11_ruled.cells rm_X11_ruled.slots A) (F0 m 217 ls []) := by
              intro y217_l3 H locs ls hy217_l3 hP hD hS hl
              obtain ⟨x42, ex42⟩ : ∃ y : Int32, y = y32_l4 + 1 := ⟨_, rfl⟩
              have hb43 : In x42 1 6 := ex42 ▸ In.add hb37 (⟨by decide, by decide⟩ : In 1 1 1) (by decide) (by decide) (by decide) (by decide)
              have et44 : x42.toInt = y32_l4.toInt + 1 := In.adde ex42 hb37 (k := 1) (by decide) (by decide) (by decide)
              refine lv_iinc (v := x42) (lv' := [(4, .int x42), (0, .ref (ad 255)), (1, .int z1), (2, .int z2), (3, .int y217_l3)]) hx hb dX11_ruled_217 hl (k := 4) rfl (by rw [ex42]; rfl) (by decide) rfl (fun ls hl => ?_)
              refine lv_goto (tgt := 32) hx hb dX11_ruled_220 (by decide) ?_
              exact ih32 y217_l3 x42 _ _ _ hy217_l3 (In.mono hb43 (by decide) (by decide)) hP hD hS (lv_sub hl [1, 2, 3, 4, 0] rfl) (msu et44 (by decide) hmz32)
            refine lv_icmp_eq (tgt := 55) hx hb dX11_ruled_49 (by decide) (fun c45 => ?_) (fun c45 => ?_)
            ·
              have cc46 : x40.toInt = z1.toInt := congrArg Int32.toInt c45
              have hb47 : In z1 0 5 := In.eq2 hb41 hb17 cc46 (by decide) (by decide)
              refine lv_iload_n hx hb dX11_ruled_55 rfl (lv_at hl 2 rfl) ?_
              have hJ62 : ∀ (y62_l3 : Int32) (H : Heap) (locs : List Loc) (ls : Array Slot), In y62_l3 (-2147483648) 2147483647 → va_P g.1 vwCl (va_pl L f3) H → va_D A (va_pl L f3) → va_S A s.heap H locs → lv_has ls 8 [(0, .ref (ad 255)), (1, .int z1), (2, .int z2), (3, .int y62_l3), (4, .int y32_l4)] → W p l e rm_X11_ruled s m [.ref (ad 255), .int z1, .int z2].toArray below meth c H locs 0 0 (MQ below (va_Qi (po_X11_ruled g ad th L f z1 z2) (PstB g A) A) [.ref (ad 255), .int z1, .int z2].toArray s rm_X11_ruled.cells rm_X11_ruled.slots A) (F0 m 62 ls []) := by
                intro y62_l3 H locs ls hy62_l3 hP hD hS hl
                refine lv_iload_n hx hb dX11_ruled_62 rfl (lv_at hl 2 rfl) ?_
                refine lv_iconst (v := 1) hx hb dX11_ruled_63 (by decide) ?_
                have hJ79 : ∀ (y79_l3 : Int32) (H : Heap) (locs : List Loc) (ls : Array Slot), In y79_l3 (-2147483648) 2147483647 → va_P g.1 vwCl (va_pl L f3) H → va_D A (va_pl L f3) → va_S A s.heap H locs → lv_has ls 8 [(0, .ref (ad 255)), (1, .int z1), (2, .int z2), (3, .int y79_l3), (4, .int y32_l4)] → W p l e rm_X11_ruled s m [.ref (ad 255), .int z1, .int z2].toArray below meth c H locs 0 0 (MQ below (va_Qi (po_X11_ruled g ad th L f z1 z2) (PstB g A) A) [.ref (ad 255), .int z1, .int z2].toArray s rm_X11_ruled.cells rm_X11_ruled.slots A) (F0 m 79 ls []) := by
                  intro y79_l3 H locs ls hy79_l3 hP hD hS hl
                  refine lv_iconst (v := 0) hx hb dX11_ruled_79 (by decide) ?_
                  refine lv_istore (lv' := [(5, .int 0), (0, .ref (ad 255)), (1, .int z1), (2, .int z2), (3, .int y79_l3), (4, .int y32_l4)]) hx hb dX11_ruled_80 hl (by decide) rfl (fun ls hl => ?_)
                  have hJ82 : ∀ (k82 : Nat) (y82_l3 : Int32) (y82_l5 : Int32) (H : Heap) (locs : List Loc) (ls : Array Slot), In y82_l3 (-2147483648) 2147483647 → In y82_l5 0 9 → va_P g.1 vwCl (va_pl L f3) H → va_D A (va_pl L f3) → va_S A s.heap H locs → lv_has ls 8 [(0, .ref (ad 255)), (1, .int z1), (2, .int z2), (3, .int y82_l3), (4, .int y32_l4), (5, .int y82_l5)] → 9 - y82_l5.toInt < ((k82 : Nat) : Int) → W p l e rm_X11_ruled s m [.ref (ad 255), .int z1, .int z2].toArray below meth c H locs 0 0 (MQ below (va_Qi (po_X11_ruled g ad th L f z1 z2) (PstB g A) A) [.ref (ad 255), .int z1, .int z2].toArray s rm_X11_ruled.cells rm_X11_ruled.slots A) (F0 m 82 ls []) := by
                    intro k82
                    induction k82 with
                    | zero =>
                      intro y82_l3 y82_l5 H locs ls hy82_l3 hy82_l5 hP hD hS hl hmz82
                      exact ms0 hy82_l5 hmz82
                    | succ k82 ih82 =>
                      intro y82_l3 y82_l5 H locs ls hy82_l3 hy82_l5 hP hD hS hl hmz82
                      refine lv_iload hx hb dX11_ruled_82 (lv_at hl 5 rfl) ?_
                      refine lv_aload_n hx hb dX11_ruled_84 rfl (lv_at hl 0 rfl) ?_
                      refine pl_get (v := .int v15_1) hx hb hts (fun w h => mT (inX11 w h)) hown hG.1 hP (hst.1 255 (by decide)) hf4 rfl 15 (by decide) (hts _ (mT wg_1351)) (fun _ h => h) rfl dX11_ruled_85 ?_
                      refine lv_icmp_ge (tgt := 217) hx hb dX11_ruled_88 (by decide) (fun c48 => ?_) (fun c48 => ?_)
                      ·
                        have cc49 : v15_1.toInt ≤ y82_l5.toInt := i32_le.mp c48
                        have hb50 : In y82_l5 1 9 := In.ge1 hy82_l5 hb39 cc49 (by decide) (by decide)
                        exact hJ217 y82_l3 _ _ _ hy82_l3 hP hD hS (lv_sub hl [0, 1, 2, 3, 4] rfl)
                      ·
                        have cc51 : y82_l5.toInt < v15_1.toInt := i32_nle c48
                        have hb52 : In y82_l5 0 8 := In.lt1 hy82_l5 hb39 cc51 (by decide) (by decide)
                        refine lv_iload_n hx hb dX11_ruled_91 rfl (lv_at hl 2 rfl) ?_
                        refine lv_iconst (v := 1) hx hb dX11_ruled_92 (by decide) ?_
                        refine lv_icmp_le (tgt := 217) hx hb dX11_ruled_93 (by decide) (fun c53 => ?_) (fun c53 => ?_)
                        ·
                          have oc1 : (1 : Int32).toInt = 1 := by decide
                          have cc54 : z2.toInt ≤ (1 : Int32).toInt := i32_le.mp c53
                          have hb55 : In z2 0 1 := In.le1 hb27 (⟨by decide, by decide⟩ : In 1 1 1) cc54 (by decide) (by decide)
                          exact hJ217 y82_l3 _ _ _ hy82_l3 hP hD hS (lv_sub hl [0, 1, 2, 3, 4] rfl)
                        ·
                          have oc1 : (1 : Int32).toInt = 1 := by decide
                          have cc56 : (1 : Int32).toInt < z2.toInt := i32_nle c53
                          have hb57 : In z2 2 3 := In.gt1 hb27 (⟨by decide, by decide⟩ : In 1 1 1) cc56 (by decide) (by decide)
                          refine lv_aload_n hx hb dX11_ruled_96 rfl (lv_at hl 0 rfl) ?_
                          refine pl_get (v := .ref (ad 271)) hx hb hts (fun w h => mT (inX11 w h)) hown hG.1 hP (hst.1 255 (by decide)) hf4 rfl 41 (by decide) (hts _ (mT wg_1377)) (fun _ h => h) rfl dX11_ruled_97 ?_
                          refine lv_bipush (v := 80) hx hb dX11_ruled_100 (by decide) ?_
                          refine lv_bipush (v := 81) hx hb dX11_ruled_102 (by decide) ?_
                          refine lv_iconst (v := 3) hx hb dX11_ruled_104 (by decide) ?_
                          refine lv_iload hx hb dX11_ruled_105 (lv_at hl 4 rfl) ?_
                          refine lv_imul hx hb dX11_ruled_107 ?_
                          refine lv_topi (fun x58 ex58 => ?_)
                          have hb59 : In x58 0 15 := ex58 ▸ In.mul (⟨by decide, by decide⟩ : In 3 3 3) hb37 (by decide) (by decide) (by decide) (by decide) (by decide)
                          have et60 : x58.toInt = 3 * y32_l4.toInt := In.mule ex58 (⟨by decide, by decide⟩ : In 3 3 3) hb37 (by decide) (by decide) (by decide) (by decide) rfl
                          refine lv_aload_n hx hb dX11_ruled_108 rfl (lv_at hl 0 rfl) ?_
                          refine call_i (run_V (rm := rm_X11_each) hx hb hml hown hts (s_X11_each l g ad th _ _ _  hst hT ) cV_X11_each wg_1636 ⟨Nat.le_of_ble_eq_true rfl, Nat.le_of_ble_eq_true rfl⟩ hG hE hA hP hD hS (hst.1 255 (by decide)) hf4 rfl rfl hl.1 (As := []) (rest := [.int x58, .int 81, .int 80, .ref (ad 271)]) rfl (Nat.le_of_ble_eq_true rfl) dX11_ruled_109 ⟨Nat.le_of_ble_eq_true rfl, Nat.le_of_ble_eq_true rfl⟩) hA hD hS (fun r61 L62 f63 H locs hp64 hP hD hS => ?_)
                          obtain ⟨eL65L, eL65T, eL65R, eL65X0⟩ := hp64
                          have eL65L : L62 = L := eL65L
                          have eL65T : f63 = f3 := eL65T
                          rw [eL65L, eL65T] at hP hD
                          have eL65R : In r61 2 3 := eL65R
                          have hrn66 : r61.toInt = rnd (th 10) := eL65X0
                          refine lv_iadd hx hb dX11_ruled_112 ?_
                          refine lv_topi (fun x67 ex67 => ?_)
                          have hb68 : In x67 2 18 := ex67 ▸ In.add hb59 eL65R (by decide) (by decide) (by decide) (by decide)
                          have et69 : x67.toInt = x58.toInt + r61.toInt := In.add2e ex67 hb59 eL65R (by decide) (by decide)
                          refine lv_iconst (v := 1) hx hb dX11_ruled_113 (by decide) ?_
                          refine lv_isub hx hb dX11_ruled_114 ?_
                          refine lv_topi (fun x70 ex70 => ?_)
                          have hb71 : In x70 1 17 := ex70 ▸ In.sub hb68 (⟨by decide, by decide⟩ : In 1 1 1) (by decide) (by decide) (by decide) (by decide)
                          have et72 : x70.toInt = x67.toInt + (-1) := In.sube ex70 hb68 (k := 1) (by decide) (by decide) (by decide)
                          refine lv_imul hx hb dX11_ruled_115 ?_
                          refine lv_topi (fun x73 ex73 => ?_)
                          have hb74 : In x73 81 1377 := ex73 ▸ In.mul (⟨by decide, by decide⟩ : In 81 81 81) hb71 (by decide) (by decide) (by decide) (by decide) (by decide)
                          have et75 : x73.toInt = 81 * x70.toInt := In.mule ex73 (⟨by decide, by decide⟩ : In 81 81 81) hb71 (by decide) (by decide) (by decide) (by decide) rfl
                          refine lv_iadd hx hb dX11_ruled_116 ?_
                          refine lv_topi (fun x76 ex76 => ?_)
                          have hb77 : In x76 161 1457 := ex76 ▸ In.add (⟨by decide, by decide⟩ : In 80 80 80) hb74 (by decide) (by decide) (by decide) (by decide)
                          have et78 : x76.toInt = (80 : Int32).toInt + x73.toInt := In.add2e ex76 (⟨by decide, by decide⟩ : In 80 80 80) hb74 (by decide) (by decide)
                          refine lv_bipush (v := 9) hx hb dX11_ruled_117 (by decide) ?_
                          refine lv_iload_n hx hb dX11_ruled_119 rfl (lv_at hl 1 rfl) ?_
                          refine lv_imul hx hb dX11_ruled_120 ?_
                          refine lv_topi (fun x79 ex79 => ?_)
                          have hb80 : In x79 0 45 := ex79 ▸ In.mul (⟨by decide, by decide⟩ : In 9 9 9) hb47 (by decide) (by decide) (by decide) (by decide) (by decide)
                          have et81 : x79.toInt = 9 * z1.toInt := In.mule ex79 (⟨by decide, by decide⟩ : In 9 9 9) hb47 (by decide) (by decide) (by decide) (by decide) rfl
                          refine lv_iadd hx hb dX11_ruled_121 ?_
                          refine lv_topi (fun x82 ex82 => ?_)
                          have hb83 : In x82 161 1502 := ex82 ▸ In.add hb77 hb80 (by decide) (by decide) (by decide) (by decide)
                          have et84 : x82.toInt = x76.toInt + x79.toInt := In.add2e ex82 hb77 hb80 (by decide) (by decide)
                          refine lv_iload hx hb dX11_ruled_122 (lv_at hl 5 rfl) ?_
                          refine lv_iadd hx hb dX11_ruled_124 ?_
                          refine lv_topi (fun x85 ex85 => ?_)
                          have hb86 : In x85 161 1510 := ex85 ▸ In.add hb83 hb52 (by decide) (by decide) (by decide) (by decide)
                          have et87 : x85.toInt = x82.toInt + y82_l5.toInt := In.add2e ex85 hb83 hb52 (by decide) (by decide)
                          obtain ⟨rw88, hf89, hpi91, hc90⟩ := hT.2.2 16 (by decide)
                          have hc90 : PRW 2126 (th 22) (th 20) (th 21) rw88 := hc90
                          have hpi91 : ((72 : Int) < (th 22) → (rw88 72).toInt = th 19) := hpi91
                          have hin92 : vp_in x85 2126 := In.inb hb86 (by decide) (by decide)
                          refine pl_iald hx hb hG.1 hP (hst.1 271 (by decide)) 0 hf89 rfl hin92 dX11_ruled_125 ?_
                          refine lv_topi (fun x93 ex93 => ?_)
                          refine lv_istore (lv' := [(6, .int x93), (0, .ref (ad 255)), (1, .int z1), (2, .int z2), (3, .int y82_l3), (4, .int y32_l4), (5, .int y82_l5)]) hx hb dX11_ruled_126 hl (by decide) rfl (fun ls hl => ?_)
                          refine lv_iload hx hb dX11_ruled_128 (lv_at hl 6 rfl) ?_
                          refine lv_iload_n hx hb dX11_ruled_130 rfl (lv_at hl 2 rfl) ?_
                          have hJ211 : ∀ (y211_l3 : Int32) (H : Heap) (locs : List Loc) (ls : Array Slot), In y211_l3 (-2147483648) 2147483647 → va_P g.1 vwCl (va_pl L f3) H → va_D A (va_pl L f3) → va_S A s.heap H locs → lv_has ls 8 [(0, .ref (ad 255)), (1, .int z1), (2, .int z2), (3, .int y211_l3), (4, .int y32_l4), (5, .int y82_l5), (6, .int x93)] → W p l e rm_X11_ruled s m [.ref (ad 255), .int z1, .int z2].toArray below meth c H locs 0 0 (MQ below (va_Qi (po_X11_ruled g ad th L f z1 z2) (PstB g A) A) [.ref (ad 255), .int z1, .int z2].toArray s rm_X11_ruled.cells rm_X11_ruled.slots A) (F0 m 211 ls []) := by
                            intro y211_l3 H locs ls hy211_l3 hP hD hS hl
                            obtain ⟨x94, ex94⟩ : ∃ y : Int32, y = y82_l5 + 1 := ⟨_, rfl⟩
                            have hb95 : In x94 1 9 := ex94 ▸ In.add hb52 (⟨by decide, by decide⟩ : In 1 1 1) (by decide) (by decide) (by decide) (by decide)
                            have et96 : x94.toInt = y82_l5.toInt + 1 := In.adde ex94 hb52 (k := 1) (by decide) (by decide) (by decide)
                            refine lv_iinc (v := x94) (lv' := [(5, .int x94), (0, .ref (ad 255)), (1, .int z1), (2, .int z2), (3, .int y211_l3), (4, .int y32_l4), (6, .int x93)]) hx hb dX11_ruled_211 hl (k := 5) rfl (by rw [ex94]; rfl) (by decide) rfl (fun ls hl => ?_)
                            refine lv_goto (tgt := 82) hx hb dX11_ruled_214 (by decide) ?_
                            exact ih82 y211_l3 x94 _ _ _ hy211_l3 (In.mono hb95 (by decide) (by decide)) hP hD hS (lv_sub hl [1, 2, 3, 4, 5, 0] rfl) (msu et96 (by decide) hmz82)
                          refine lv_icmp_ne (tgt := 137) hx hb dX11_ruled_131 (by decide) (fun c97 => ?_) (fun c97 => ?_)
                          ·
                            have cc98 : y82_l5.toInt ≠ z1.toInt := i32_ne c97
                            refine lv_iload_n hx hb dX11_ruled_137 rfl (lv_at hl 3 rfl) ?_
                            refine lv_iconst (v := 3) hx hb dX11_ruled_138 (by decide) ?_
                            have hJ196 : ∀ (y196_s0 : Int32) (H : Heap) (locs : List Loc) (ls : Array Slot), In y196_s0 0 1 → va_P g.1 vwCl (va_pl L f3) H → va_D A (va_pl L f3) → va_S A s.heap H locs → lv_has ls 8 [(0, .ref (ad 255)), (1, .int z1), (2, .int z2), (3, .int y82_l3), (4, .int y32_l4), (5, .int y82_l5), (6, .int x93)] → W p l e rm_X11_ruled s m [.ref (ad 255), .int z1, .int z2].toArray below meth c H locs 0 0 (MQ below (va_Qi (po_X11_ruled g ad th L f z1 z2) (PstB g A) A) [.ref (ad 255), .int z1, .int z2].toArray s rm_X11_ruled.cells rm_X11_ruled.slots A) (F0 m 196 ls [.int y196_s0]) := by
                              intro y196_s0 H locs ls hy196_s0 hP hD hS hl
                              refine lv_istore (lv' := [(7, .int y196_s0), (0, .ref (ad 255)), (1, .int z1), (2, .int z2), (3, .int y82_l3), (4, .int y32_l4), (5, .int y82_l5), (6, .int x93)]) hx hb dX11_ruled_196 hl (by decide) rfl (fun ls hl => ?_)
                              refine lv_iload_n hx hb dX11_ruled_198 rfl (lv_at hl 4 rfl) ?_
                              refine lv_iload hx hb dX11_ruled_199 (lv_at hl 0 rfl) ?_
                              have hJ209 : ∀ (y209_s0 : Int32) (H : Heap) (locs : List Loc) (ls : Array Slot), In y209_s0 0 1 → va_P g.1 vwCl (va_pl L f3) H → va_D A (va_pl L f3) → va_S A s.heap H locs → lv_has ls 8 [(0, .ref (ad 255)), (1, .int z1), (2, .int z2), (3, .int y82_l3), (4, .int y32_l4), (5, .int y82_l5), (6, .int x93), (7, .int y196_s0)] → W p l e rm_X11_ruled s m [.ref (ad 255), .int z1, .int z2].toArray below meth c H locs 0 0 (MQ below (va_Qi (po_X11_ruled g ad th L f z1 z2) (PstB g A) A) [.ref (ad 255), .int z1, .int z2].toArray s rm_X11_ruled.cells rm_X11_ruled.slots A) (F0 m 209 ls [.int y209_s0, .int y82_l3]) := by
                                intro y209_s0 H locs ls hy209_s0 hP hD hS hl
                                refine lv_iadd hx hb dX11_ruled_209 ?_
                                refine lv_topi (fun x99 ex99 => ?_)
                                refine lv_istore_n (lv' := [(3, .int x99), (0, .ref (ad 255)), (1, .int z1), (2, .int z2), (4, .int y32_l4), (5, .int y82_l5), (6, .int x93), (7, .int y196_s0)]) hx hb dX11_ruled_210 rfl hl (by decide) rfl (fun ls hl => ?_)
                                exact hJ211 x99 _ _ _ (In.full x99) hP hD hS (lv_sub hl [1, 2, 3, 0, 4, 5, 6] rfl)
                              refine lv_if_eq (tgt := 208) hx hb dX11_ruled_201 (by decide) (fun c100 => ?_) (fun c100 => ?_)
                              ·
                                have oc0 : (0 : Int32).toInt = 0 := by decide
                                have cc101 : y196_s0.toInt = (0 : Int32).toInt := congrArg Int32.toInt c100
                                have hb102 : In y196_s0 0 0 := In.eq1 hy196_s0 (⟨by decide, by decide⟩ : In 0 0 0) cc101 (by decide) (by decide)
                                refine lv_iconst (v := 0) hx hb dX11_ruled_208 (by decide) ?_
                                exact hJ209 0 _ _ _ (⟨by decide, by decide⟩ : In 0 0 1) hP hD hS (lv_sub hl [1, 2, 3, 4, 5, 6, 7, 0] rfl)
                              ·
                                have oc0 : (0 : Int32).toInt = 0 := by decide
                                have cc103 : y196_s0.toInt ≠ (0 : Int32).toInt := i32_ne c100
                                have hb104 : In y196_s0 1 1 := In.ne1 hy196_s0 (⟨by decide, by decide⟩ : In 0 0 0) cc103 (by decide) (by decide)
                                refine lv_iconst (v := 1) hx hb dX11_ruled_204 (by decide) ?_
                                refine lv_goto (tgt := 209) hx hb dX11_ruled_205 (by decide) ?_
                                exact hJ209 1 _ _ _ (⟨by decide, by decide⟩ : In 1 0 1) hP hD hS (lv_sub hl [1, 2, 3, 4, 5, 6, 7, 0] rfl)
                            refine lv_icmp_ne (tgt := 156) hx hb dX11_ruled_139 (by decide) (fun c105 => ?_) (fun c105 => ?_)
                            ·
                              have oc3 : (3 : Int32).toInt = 3 := by decide
                              have cc106 : z2.toInt ≠ (3 : Int32).toInt := i32_ne c105
                              have hb107 : In z2 2 2 := In.ne1 hb57 (⟨by decide, by decide⟩ : In 3 3 3) cc106 (by decide) (by decide)
                              refine lv_aload_n hx hb dX11_ruled_156 rfl (lv_at hl 1 rfl) ?_
                              refine pl_get (v := .ref (ad 271)) hx hb hts (fun w h => mT (inX11 w h)) hown hG.1 hP (hst.1 255 (by decide)) hf4 rfl 41 (by decide) (hts _ (mT wg_1377)) (fun _ h => h) rfl dX11_ruled_157 ?_
                              refine lv_iload hx hb dX11_ruled_160 (lv_at hl 5 rfl) ?_
                              refine lv_iload hx hb dX11_ruled_162 (lv_at hl 6 rfl) ?_
                              refine call_i (run_S (rm := rm_X11_toldAt) hx hb hml hown hts (s_X11_toldAt l g ad th _ _ _ y32_l4 y82_l5 hst hT hb37 hb52) cS_X11_toldAt wg_1699 ⟨Nat.le_of_ble_eq_true rfl, Nat.le_of_ble_eq_true rfl⟩ hG hE hA hP hD hS rfl hl.1 (As := [.int y32_l4, .int y82_l5]) (rest := [.ref (ad 271)]) rfl (Nat.le_of_ble_eq_true rfl) dX11_ruled_164 ⟨Nat.le_of_ble_eq_true rfl, Nat.le_of_ble_eq_true rfl⟩) hA hD hS (fun r108 L109 f110 H locs hp111 hP hD hS => ?_)
                              obtain ⟨eL112L, eL112T, eL112R⟩ := hp111
                              have eL112L : L109 = L := eL112L
                              have eL112T : f110 = f3 := eL112T
                              rw [eL112L, eL112T] at hP hD
                              have eL112R : In r108 1538 1962 := eL112R
                              refine lv_iconst (v := 1) hx hb dX11_ruled_167 (by decide) ?_
                              refine lv_iadd hx hb dX11_ruled_168 ?_
                              refine lv_topi (fun x113 ex113 => ?_)
                              have hb114 : In x113 1539 1963 := ex113 ▸ In.add eL112R (⟨by decide, by decide⟩ : In 1 1 1) (by decide) (by decide) (by decide) (by decide)
                              have et115 : x113.toInt = r108.toInt + 1 := In.adde ex113 eL112R (k := 1) (by decide) (by decide) (by decide)
                              have hin116 : vp_in x113 2126 := In.inb hb114 (by decide) (by decide)
                              refine pl_iald hx hb hG.1 hP (hst.1 271 (by decide)) 0 hf89 rfl hin116 dX11_ruled_169 ?_
                              refine lv_topi (fun x117 ex117 => ?_)
                              refine lv_iconst (v := 1) hx hb dX11_ruled_170 (by decide) ?_
                              have hJ195 : ∀ (H : Heap) (locs : List Loc) (ls : Array Slot), va_P g.1 vwCl (va_pl L f3) H → va_D A (va_pl L f3) → va_S A s.heap H locs → lv_has ls 8 [(0, .ref (ad 255)), (1, .int z1), (2, .int z2), (3, .int y82_l3), (4, .int y32_l4), (5, .int y82_l5), (6, .int x93)] → W p l e rm_X11_ruled s m [.ref (ad 255), .int z1, .int z2].toArray below meth c H locs 0 0 (MQ below (va_Qi (po_X11_ruled g ad th L f z1 z2) (PstB g A) A) [.ref (ad 255), .int z1, .int z2].toArray s rm_X11_ruled.cells rm_X11_ruled.slots A) (F0 m 195 ls []) := by
                                intro H locs ls hP hD hS hl
                                refine lv_iconst (v := 0) hx hb dX11_ruled_195 (by decide) ?_
                                exact hJ196 0 _ _ _ (⟨by decide, by decide⟩ : In 0 0 1) hP hD hS (lv_sub hl [0, 1, 2, 3, 4, 5, 6] rfl)
                              refine lv_icmp_ne (tgt := 195) hx hb dX11_ruled_171 (by decide) (fun c118 => ?_) (fun c118 => ?_)
                              ·
                                have oc1 : (1 : Int32).toInt = 1 := by decide
                                have cc119 : x117.toInt ≠ (1 : Int32).toInt := i32_ne c118
                                exact hJ195 _ _ _ hP hD hS (lv_sub hl [1, 2, 3, 4, 5, 6, 0] rfl)
                              ·
                                have oc1 : (1 : Int32).toInt = 1 := by decide
                                have cc120 : x117.toInt = (1 : Int32).toInt := congrArg Int32.toInt c118
                                have hb121 : In x117 1 1 := In.eq1 (In.full x117) (⟨by decide, by decide⟩ : In 1 1 1) cc120 (by decide) (by decide)
                                refine lv_iload hx hb dX11_ruled_174 (lv_at hl 0 rfl) ?_
                                refine lv_aload_n hx hb dX11_ruled_176 rfl (lv_at hl 1 rfl) ?_
                                refine pl_get (v := .ref (ad 271)) hx hb hts (fun w h => mT (inX11 w h)) hown hG.1 hP (hst.1 255 (by decide)) hf4 rfl 41 (by decide) (hts _ (mT wg_1377)) (fun _ h => h) rfl dX11_ruled_177 ?_
                                refine lv_iload hx hb dX11_ruled_180 (lv_at hl 5 rfl) ?_
                                refine lv_iload hx hb dX11_ruled_182 (lv_at hl 6 rfl) ?_
                                refine call_i (run_S (rm := rm_X11_toldAt) hx hb hml hown hts (s_X11_toldAt l g ad th _ _ _ y32_l4 y82_l5 hst hT hb37 hb52) cS_X11_toldAt wg_1699 ⟨Nat.le_of_ble_eq_true rfl, Nat.le_of_ble_eq_true rfl⟩ hG hE hA hP hD hS rfl hl.1 (As := [.int y32_l4, .int y82_l5]) (rest := [.ref (ad 271), .int x93]) rfl (Nat.le_of_ble_eq_true rfl) dX11_ruled_184 ⟨Nat.le_of_ble_eq_true rfl, Nat.le_of_ble_eq_true rfl⟩) hA hD hS (fun r122 L123 f124 H locs hp125 hP hD hS => ?_)
                                obtain ⟨eL126L, eL126T, eL126R⟩ := hp125
                                have eL126L : L123 = L := eL126L
                                have eL126T : f124 = f3 := eL126T
                                rw [eL126L, eL126T] at hP hD
                                have eL126R : In r122 1538 1962 := eL126R
                                have hin127 : vp_in r122 2126 := In.inb eL126R (by decide) (by decide)
                                refine pl_iald hx hb hG.1 hP (hst.1 271 (by decide)) 0 hf89 rfl hin127 dX11_ruled_187 ?_
                                refine lv_topi (fun x128 ex128 => ?_)
                                refine lv_icmp_eq (tgt := 195) hx hb dX11_ruled_188 (by decide) (fun c129 => ?_) (fun c129 => ?_)
                                ·
                                  have cc130 : x93.toInt = x128.toInt := congrArg Int32.toInt c129
                                  exact hJ195 _ _ _ hP hD hS (lv_sub hl [1, 2, 3, 4, 5, 6, 0] rfl)
                                ·
                                  have cc131 : x93.toInt ≠ x128.toInt := i32_ne c129
                                  refine lv_iconst (v := 1) hx hb dX11_ruled_191 (by decide) ?_
                                  refine lv_goto (tgt := 196) hx hb dX11_ruled_192 (by decide) ?_
                                  exact hJ196 1 _ _ _ (⟨by decide, by decide⟩ : In 1 0 1) hP hD hS (lv_sub hl [1, 2, 3, 4, 5, 6, 0] rfl)
                            ·
                              have oc3 : (3 : Int32).toInt = 3 := by decide
                              have cc132 : z2.toInt = (3 : Int32).toInt := congrArg Int32.toInt c105
                              have hb133 : In z2 3 3 := In.eq1 hb57 (⟨by decide, by decide⟩ : In 3 3 3) cc132 (by decide) (by decide)
                              refine lv_iload hx hb dX11_ruled_142 (lv_at hl 0 rfl) ?_
                              refine lv_iconst (v := 2) hx hb dX11_ruled_144 (by decide) ?_
                              refine lv_icmp_eq (tgt := 152) hx hb dX11_ruled_145 (by decide) (fun c134 => ?_) (fun c134 => ?_)
                              ·
                                have oc2 : (2 : Int32).toInt = 2 := by decide
                                have cc135 : x93.toInt = (2 : Int32).toInt := congrArg Int32.toInt c134
                                have hb136 : In x93 2 2 := In.eq1 (In.full x93) (⟨by decide, by decide⟩ : In 2 2 2) cc135 (by decide) (by decide)
                                refine lv_iconst (v := 0) hx hb dX11_ruled_152 (by decide) ?_
                                refine lv_goto (tgt := 196) hx hb dX11_ruled_153 (by decide) ?_
                                exact hJ196 0 _ _ _ (⟨by decide, by decide⟩ : In 0 0 1) hP hD hS (lv_sub hl [1, 2, 3, 4, 5, 6, 0] rfl)
                              ·
                                have oc2 : (2 : Int32).toInt = 2 := by decide
                                have cc137 : x93.toInt ≠ (2 : Int32).toInt := i32_ne c134
                                refine lv_iconst (v := 1) hx hb dX11_ruled_148 (by decide) ?_
                                refine lv_goto (tgt := 196) hx hb dX11_ruled_149 (by decide) ?_
                                exact hJ196 1 _ _ _ (⟨by decide, by decide⟩ : In 1 0 1) hP hD hS (lv_sub hl [1, 2, 3, 4, 5, 6, 0] rfl)
                          ·
                            have cc138 : y82_l5.toInt = z1.toInt := congrArg Int32.toInt c97
                            have hb139 : In y82_l5 0 5 := In.eq1 hb52 hb47 cc138 (by decide) (by decide)
                            refine lv_goto (tgt := 211) hx hb dX11_ruled_134 (by decide) ?_
                            exact hJ211 y82_l3 _ _ _ hy82_l3 hP hD hS (lv_sub hl [1, 2, 3, 4, 5, 6, 0] rfl)
                  exact hJ82 ((9 - (0 : Int32).toInt).toNat + 1) y79_l3 0 _ _ _ hy79_l3 (⟨by decide, by decide⟩ : In 0 0 9) hP hD hS (lv_sub hl [1, 2, 3, 4, 5, 0] rfl) (msI _)
                refine lv_icmp_ne (tgt := 79) hx hb dX11_ruled_64 (by decide) (fun c140 => ?_) (fun c140 => ?_)
                ·
                  have oc1 : (1 : Int32).toInt = 1 := by decide
                  have cc141 : z2.toInt ≠ (1 : Int32).toInt := i32_ne c140
                  exact hJ79 y62_l3 _ _ _ hy62_l3 hP hD hS (lv_sub hl [0, 1, 2, 3, 4] rfl)
                ·
                  have oc1 : (1 : Int32).toInt = 1 := by decide
                  have cc142 : z2.toInt = (1 : Int32).toInt := congrArg Int32.toInt c140
                  have hb143 : In z2 1 1 := In.eq1 hb27 (⟨by decide, by decide⟩ : In 1 1 1) cc142 (by decide) (by decide)
                  refine lv_iload_n hx hb dX11_ruled_67 rfl (lv_at hl 3 rfl) ?_
                  refine lv_aload_n hx hb dX11_ruled_68 rfl (lv_at hl 0 rfl) ?_
                  refine lv_iload hx hb dX11_ruled_69 (lv_at hl 4 rfl) ?_
                  refine lv_bipush (v := 7) hx hb dX11_ruled_71 (by decide) ?_
                  refine lv_iconst (v := 1) hx hb dX11_ruled_73 (by decide) ?_
                  refine call_i (run_V (rm := rm_X11_trueOf) hx hb hml hown hts (s_X11_trueOf l g ad th _ _ _ y32_l4 7 1 hst hT hb37 (⟨by decide, by decide⟩ : In 7 0 7)) cV_X11_trueOf wg_1896 ⟨Nat.le_of_ble_eq_true rfl, Nat.le_of_ble_eq_true rfl⟩ hG hE hA hP hD hS (hst.1 255 (by decide)) hf4 rfl rfl hl.1 (As := [.int y32_l4, .int 7, .int 1]) (rest := [.int y62_l3]) rfl (Nat.le_of_ble_eq_true rfl) dX11_ruled_74 ⟨Nat.le_of_ble_eq_true rfl, Nat.le_of_ble_eq_true rfl⟩) hA hD hS (fun r144 L145 f146 H locs hp147 hP hD hS => ?_)
                  obtain ⟨eL148L, eL148T⟩ := hp147
                  have eL148L : L145 = L := eL148L
                  have eL148T : f146 = f3 := eL148T
                  rw [eL148L, eL148T] at hP hD
                  refine lv_iadd hx hb dX11_ruled_77 ?_
                  refine lv_topi (fun x149 ex149 => ?_)
                  refine lv_istore_n (lv' := [(3, .int x149), (0, .ref (ad 255)), (1, .int z1), (2, .int z2), (4, .int y32_l4)]) hx hb dX11_ruled_78 rfl hl (by decide) rfl (fun ls hl => ?_)
                  exact hJ79 x149 _ _ _ (In.full x149) hP hD hS (lv_sub hl [1, 2, 3, 0, 4] rfl)
              refine lv_if_ne (tgt := 62) hx hb dX11_ruled_56 (by decide) (fun c150 => ?_) (fun c150 => ?_)
              ·
                have oc0 : (0 : Int32).toInt = 0 := by decide
                have cc151 : z2.toInt ≠ (0 : Int32).toInt := i32_ne c150
                have hb152 : In z2 1 3 := In.ne1 hb27 (⟨by decide, by decide⟩ : In 0 0 0) cc151 (by decide) (by decide)
                exact hJ62 y32_l3 _ _ _ hy32_l3 hP hD hS (lv_sub hl [0, 1, 2, 3, 4] rfl)
              ·
                have oc0 : (0 : Int32).toInt = 0 := by decide
                have cc153 : z2.toInt = (0 : Int32).toInt := congrArg Int32.toInt c150
                have hb154 : In z2 0 0 := In.eq1 hb27 (⟨by decide, by decide⟩ : In 0 0 0) cc153 (by decide) (by decide)
                obtain ⟨x155, ex155⟩ : ∃ y : Int32, y = y32_l3 + 1 := ⟨_, rfl⟩
                refine lv_iinc (v := x155) (lv' := [(3, .int x155), (0, .ref (ad 255)), (1, .int z1), (2, .int z2), (4, .int y32_l4)]) hx hb dX11_ruled_59 hl (k := 3) rfl (by rw [ex155]; rfl) (by decide) rfl (fun ls hl => ?_)
                exact hJ62 x155 _ _ _ (In.full x155) hP hD hS (lv_sub hl [1, 2, 3, 0, 4] rfl)
            ·
              have cc156 : x40.toInt ≠ z1.toInt := i32_ne c45
              refine lv_goto (tgt := 217) hx hb dX11_ruled_52 (by decide) ?_
              exact hJ217 y32_l3 _ _ _ hy32_l3 hP hD hS (lv_sub hl [0, 1, 2, 3, 4] rfl)
      exact hJ32 ((6 - (0 : Int32).toInt).toNat + 1) 0 0 _ _ _ (⟨by decide, by decide⟩ : In 0 (-2147483648) 2147483647) (⟨by decide, by decide⟩ : In 0 0 6) hP hD hS (lv_sub hl [2, 3, 4, 1, 0] rfl) (msI _)
    ·
      have oc0 : (0 : Int32).toInt = 0 := by decide
      have cc157 : r18.toInt = (0 : Int32).toInt := congrArg Int32.toInt c24
      have hb158 : In r18 0 0 := In.eq1 eL22R (⟨by decide, by decide⟩ : In 0 0 0) cc157 (by decide) (by decide)
      refine lv_iconst (v := (-1)) hx hb dX11_ruled_25 (by decide) ?_
      exact ret_i (ty := .int) hx hb hr hlocks (rfl) hP hD hS (Nat.le_of_ble_eq_true rfl) (Nat.le_of_ble_eq_true rfl) (⟨rfl, hT, hfr⟩) dX11_ruled_26

abbrev rm_X11_fault : Room := { frames := 8, cells := 0, slots := 0, locals := 172 }
abbrev po_X11_fault (g : GG) (ad : Nat → Nat) (th : Nat → Int) (L : List Nat) (f : HP) (z1 : Int32) : Int32 → (List Nat × HP) → Prop := fun r u => u.1 = L ∧ (∃ th' : Nat → Int, (MI th' ∧ SBM th th') ∧ TI g ad th' u.2) ∧ (∀ b, b ≠ (ad 255) → b ≠ (ad 257) → b ≠ (ad 259) → u.2 b = f b)
set_option maxHeartbeats 4000000 in
set_option maxRecDepth 100000 in
theorem s_X11_fault (l : Launch) (g : GG) (ad : Nat → Nat) (th : Nat → Int) (L : List Nat) (f : HP) (sz : Nat) (z1 : Int32) (hst : ST ad L) (hT : TI g ad th f) (hM : MI th) : MtI l g yX11_fault cX11_fault 2 (some .int) rm_X11_fault [.ref (ad 255), .int z1] L f sz (po_X11_fault g ad th L f z1) := by
  refine MtI.of (by decide +kernel) (Nat.le_of_ble_eq_true rfl) ?_
  intro p e s m below meth c A hEn hP hD hS ls hl
  obtain ⟨hx, hb, hr, hml, hown, hlocks, hts, hG, hA, hE, hnm⟩ := hEn
  have hown : s.vm.findClass "RulerWordModel" = some m.cls := hown
  have hl : lv_has ls 2 [(0, .ref (ad 255)), (1, .int z1)] := hl
  have hfr : (∀ b, b ≠ (ad 255) → b ≠ (ad 257) → b ≠ (ad 259) → f b = f b) := fun b z0_ z1_ z2_ => rfl
  have hM0 := hM
  obtain ⟨m1, m2, m3, m4, m5, m6, m7, m8, m9, m10⟩ := hM0
  have m20 := mi20 m2 m3
  refine lv_aload_n hx hb dX11_fault_0 rfl (lv_at hl 0 rfl) ?_
  refine lv_iconst (v := 0) hx hb dX11_fault_1 (by decide) ?_
  refine M0e hT (fun v0_1 v2_1 v3_1 v4_1 v5_1 v6_1 v8_1 v9_1 v12_1 v13_1 v14_1 v15_1 v16_1 v17_1 v18_1 v19_1 v20_1 v21_1 v22_1 v23_1 v25_1 v36_1 v37_1 v38_1 v39_1 v40_1 v45_1 v46_1 v47_1 v48_1 v50_1 v51_1 v53_1 v55_1 hf2 hv0_1 hv2_1 hg2_1 hv3_1 hg3_1 hv4_1 hg4_1 hv5_1 hg5_1 hv6_1 hg6_1 hv8_1 hg8_1 hv9_1 hg9_1 hv12_1 hv13_1 hg13_1 hv14_1 hg14_1 hv15_1 hg15_1 hv17_1 hg17_1 hv20_1 hg20_1 hv23_1 hg23_1 hv25_1 hg25_1 hv36_1 hg36_1 hv47_1 hg47_1 hv48_1 hg48_1 hv53_1 hg53_1 hv55_1 hg55_1 hrel0_1 => ?_)
  have hg15_1 : v15_1.toInt = th 11 := hg15_1
  have hg20_1 : v20_1.toInt = th 14 := hg20_1
  refine pl_put (ty := .int) (v := .int 0) (fs' := [.int 0, .ref (ad 256), .int v2_1, .int v3_1, .int v4_1, .int v5_1, .int v6_1, .ref (ad 257), .int v8_1, .int v9_1, .ref (ad 258), .ref (ad 259), .int v12_1, .int v13_1, .int v14_1, .int v15_1, .int v16_1, .int v17_1, .int v18_1, .int v19_1, .int v20_1, .long v21_1, .long v22_1, .int v23_1, .ref (ad 260), .int v25_1, .ref (ad 261), .ref (ad 262), .ref (ad 263), .ref (ad 264), .ref (ad 265), .ref (ad 266), .ref (ad 267), .ref (ad 268), .ref (ad 269), .ref (ad 270), .int v36_1, .int v37_1, .int v38_1, .int v39_1, .int v40_1, .ref (ad 271), .ref (ad 272), .ref (ad 273), .ref (ad 274), .long v45_1, .long v46_1, .int v47_1, .int v48_1, .ref (ad 275), .int v50_1, .int v51_1, .ref (ad 276), .int v53_1, .ref (ad 277), .int v55_1]) hx hb hts (fun w h => mT (inX11 w h)) tyX11 tyX11_ok nmX11 hown hG.1 hP hD hS (hst.1 255 (by decide)) hf2 rfl 0 (by decide) (hts _ (mT wg_1336)) (fun _ h => h) rfl (by decide +kernel) (rfl) (rfl) (Nat.le_of_ble_eq_true rfl) rfl dX11_fault_2 (fun H locs f3 hf4 ho5 hP hD hS => ?_)
  have hfr : (∀ b, b ≠ (ad 255) → b ≠ (ad 257) → b ≠ (ad 259) → f3 b = f b) := fun b z0_ z1_ z2_ => (ho5 b z0_).trans (hfr b z0_ z1_ z2_)
  refine lv_iload_n hx hb dX11_fault_5 rfl (lv_at hl 1 rfl) ?_
  have hT := TI.updM hT hst (k := 0) (by decide) hf4 ho5 ⟨0, v2_1, v3_1, v4_1, v5_1, v6_1, v8_1, v9_1, v12_1, v13_1, v14_1, v15_1, v16_1, v17_1, v18_1, v19_1, v20_1, v21_1, v22_1, v23_1, v25_1, v36_1, v37_1, v38_1, v39_1, v40_1, v45_1, v46_1, v47_1, v48_1, v50_1, v51_1, v53_1, v55_1, rfl, (⟨by decide, by decide⟩ : In 0 0 1), hv2_1, hg2_1, hv3_1, hg3_1, hv4_1, hg4_1, hv5_1, hg5_1, hv6_1, hg6_1, hv8_1, hg8_1, hv9_1, hg9_1, hv12_1, hv13_1, hg13_1, hv14_1, hg14_1, hv15_1, hg15_1, hv17_1, hg17_1, hv20_1, hg20_1, hv23_1, hg23_1, hv25_1, hg25_1, hv36_1, hg36_1, hv47_1, hg47_1, hv48_1, hg48_1, hv53_1, hg53_1, hv55_1, hg55_1, hrel0_1⟩
  refine lv_if_ne (tgt := 16) hx hb dX11_fault_6 (by decide) (fun c6 => ?_) (fun c6 => ?_)
  ·
    have oc0 : (0 : Int32).toInt = 0 := by decide
    have cc7 : z1.toInt ≠ (0 : Int32).toInt := i32_ne c6
    refine lv_iload_n hx hb dX11_fault_16 rfl (lv_at hl 1 rfl) ?_
    refine lv_iconst (v := 1) hx hb dX11_fault_17 (by decide) ?_
    refine lv_icmp_ne (tgt := 28) hx hb dX11_fault_18 (by decide) (fun c8 => ?_) (fun c8 => ?_)
    ·
      have oc1 : (1 : Int32).toInt = 1 := by decide
      have cc9 : z1.toInt ≠ (1 : Int32).toInt := i32_ne c8
      refine lv_bipush (v := (-2)) hx hb dX11_fault_28 (by decide) ?_
      exact ret_i (ty := .int) hx hb hr hlocks (rfl) hP hD hS (Nat.le_of_ble_eq_true rfl) (Nat.le_of_ble_eq_true rfl) (⟨rfl, ⟨th, ⟨(show MI th from hM), (SBM.rf th)⟩, hT⟩, hfr⟩) dX11_fault_30
    ·
      have oc1 : (1 : Int32).toInt = 1 := by decide
      have cc10 : z1.toInt = (1 : Int32).toInt := congrArg Int32.toInt c8
      have hb11 : In z1 1 1 := In.eq1 (In.full z1) (⟨by decide, by decide⟩ : In 1 1 1) cc10 (by decide) (by decide)
      refine lv_aload_n hx hb dX11_fault_21 rfl (lv_at hl 0 rfl) ?_
      refine call_i (run_V (rm := rm_X11_readsPlan) hx hb hml hown hts (s_X11_readsPlan l g ad th _ _ _  hst hT ) cV_X11_readsPlan wg_1592 ⟨Nat.le_of_ble_eq_true rfl, Nat.le_of_ble_eq_true rfl⟩ hG hE hA hP hD hS (hst.1 255 (by decide)) hf4 rfl rfl hl.1 (As := []) (rest := []) rfl (Nat.le_of_ble_eq_true rfl) dX11_fault_22 ⟨Nat.le_of_ble_eq_true rfl, Nat.le_of_ble_eq_true rfl⟩) hA hD hS (fun r12 L13 f14 H locs hp15 hP hD hS => ?_)
      obtain ⟨eL16L, eL16T, eL16F, eL16R⟩ := hp15
      have eL16L : L13 = L := eL16L
      rw [eL16L] at hP hD
      obtain ⟨zz17, zz18, zz19, zz20, zz21, hzz17, eL16T⟩ := eL16T
      have hzz17 : True := hzz17
      have hT : TI g ad (gset (gset (gset (gset (gset th 37 zz17) 40 zz18) 41 zz19) 42 zz20) 36 zz21) f14 := eL16T
      have eL16F : ∀ b, b ≠ (ad 255) → b ≠ (ad 259) → f14 b = f3 b := eL16F
      have hfr : (∀ b, b ≠ (ad 255) → b ≠ (ad 257) → b ≠ (ad 259) → f14 b = f b) := fun b z0_ z1_ z2_ => (eL16F b z0_ z2_).trans (hfr b z0_ z1_ z2_)
      have eL16R : In r12 (-1) 500 := eL16R
      refine lv_goto (tgt := 30) hx hb dX11_fault_25 (by decide) ?_
      exact ret_i (ty := .int) hx hb hr hlocks (rfl) hP hD hS (Nat.le_of_ble_eq_true rfl) (Nat.le_of_ble_eq_true rfl) (⟨rfl, ⟨(gset (gset (gset (gset (gset th 37 zz17) 40 zz18) 41 zz19) 42 zz20) 36 zz21), ⟨(show MI (gset (gset (gset (gset (gset th 37 zz17) 40 zz18) 41 zz19) 42 zz20) 36 zz21) from ⟨m1, m2, (show th 20 = (th 12) * rnd (th 10) from m3), m4, m5, m6, m7, m8, m9, m10⟩), (SBM.set (k := 36) (SBM.set (k := 42) (SBM.set (k := 41) (SBM.set (k := 40) (SBM.set (k := 37) (SBM.rf th) (by decide)) (by decide)) (by decide)) (by decide)) (by decide))⟩, hT⟩, hfr⟩) dX11_fault_30
  ·
    have oc0 : (0 : Int32).toInt = 0 := by decide
    have cc22 : z1.toInt = (0 : Int32).toInt := congrArg Int32.toInt c6
    have hb23 : In z1 0 0 := In.eq1 (In.full z1) (⟨by decide, by decide⟩ : In 0 0 0) cc22 (by decide) (by decide)
    refine lv_aload_n hx hb dX11_fault_9 rfl (lv_at hl 0 rfl) ?_
    refine call_i (run_V (rm := rm_X11_readsCouncil) hx hb hml hown hts (s_X11_readsCouncil l g ad th _ _ _  hst hT ) cV_X11_readsCouncil wg_1525 ⟨Nat.le_of_ble_eq_true rfl, Nat.le_of_ble_eq_true rfl⟩ hG hE hA hP hD hS (hst.1 255 (by decide)) hf4 rfl rfl hl.1 (As := []) (rest := []) rfl (Nat.le_of_ble_eq_true rfl) dX11_fault_10 ⟨Nat.le_of_ble_eq_true rfl, Nat.le_of_ble_eq_true rfl⟩) hA hD hS (fun r24 L25 f26 H locs hp27 hP hD hS => ?_)
    obtain ⟨eL28L, eL28T, eL28F, eL28R⟩ := hp27
    have eL28L : L25 = L := eL28L
    rw [eL28L] at hP hD
    obtain ⟨zz29, zz30, zz31, zz32, zz33, zz34, zz35, zz36, hzz29, eL28T⟩ := eL28T
    have hT : TI g ad (gset (gset (gset (gset (gset (gset (gset (gset th 37 zz29) 40 zz30) 41 zz31) 42 zz32) 35 zz33) 30 zz34) 34 zz35) 43 zz36) f26 := eL28T
    have eL28F : ∀ b, b ≠ (ad 255) → b ≠ (ad 257) → f26 b = f3 b := eL28F
    have hfr : (∀ b, b ≠ (ad 255) → b ≠ (ad 257) → b ≠ (ad 259) → f26 b = f b) := fun b z0_ z1_ z2_ => (eL28F b z0_ z1_).trans (hfr b z0_ z1_ z2_)
    have eL28R : In r24 (-1) 500 := eL28R
    refine lv_goto (tgt := 30) hx hb dX11_fault_13 (by decide) ?_
    exact ret_i (ty := .int) hx hb hr hlocks (rfl) hP hD hS (Nat.le_of_ble_eq_true rfl) (Nat.le_of_ble_eq_true rfl) (⟨rfl, ⟨(gset (gset (gset (gset (gset (gset (gset (gset th 37 zz29) 40 zz30) 41 zz31) 42 zz32) 35 zz33) 30 zz34) 34 zz35) 43 zz36), ⟨(show MI (gset (gset (gset (gset (gset (gset (gset (gset th 37 zz29) 40 zz30) 41 zz31) 42 zz32) 35 zz33) 30 zz34) 34 zz35) 43 zz36) from ⟨m1, m2, (show th 20 = (th 12) * rnd (th 10) from m3), m4, m5, m6, m7, m8, m9, m10⟩), (SBM.set (k := 43) (SBM.set (k := 34) (SBM.set (k := 30) (SBM.set (k := 35) (SBM.set (k := 42) (SBM.set (k := 41) (SBM.set (k := 40) (SBM.set (k := 37) (SBM.rf th) (by decide)) (by decide)) (by decide)) (by decide)) (by decide)) (by decide)) (by decide)) (by decide))⟩, hT⟩, hfr⟩) dX11_fault_30

abbrev rm_X11_plan : Room := { frames := 7, cells := 0, slots := 0, locals := 150 }
abbrev po_X11_plan (g : GG) (ad : Nat → Nat) (th : Nat → Int) (L : List Nat) (f : HP)  : Int32 → (List Nat × HP) → Prop := fun r u => u.1 = L ∧ (∃ th' : Nat → Int, (MI th' ∧ SBM th th') ∧ TI g ad th' u.2) ∧ (∀ b, b ≠ (ad 255) → b ≠ (ad 258) → b ≠ (ad 259) → u.2 b = f b)
set_option maxHeartbeats 4000000 in
set_option maxRecDepth 100000 in
theorem s_X11_plan (l : Launch) (g : GG) (ad : Nat → Nat) (th : Nat → Int) (L : List Nat) (f : HP) (sz : Nat)  (hst : ST ad L) (hT : TI g ad th f) (hM : MI th) : MtI l g yX11_plan cX11_plan 2 (some .int) rm_X11_plan [.ref (ad 255)] L f sz (po_X11_plan g ad th L f ) := by
  refine MtI.of (by decide +kernel) (Nat.le_of_ble_eq_true rfl) ?_
  intro p e s m below meth c A hEn hP hD hS ls hl
  obtain ⟨hx, hb, hr, hml, hown, hlocks, hts, hG, hA, hE, hnm⟩ := hEn
  have hown : s.vm.findClass "RulerWordModel" = some m.cls := hown
  have hl : lv_has ls 2 [(0, .ref (ad 255))] := hl
  have hfr : (∀ b, b ≠ (ad 255) → b ≠ (ad 258) → b ≠ (ad 259) → f b = f b) := fun b z0_ z1_ z2_ => rfl
  have hM0 := hM
  obtain ⟨m1, m2, m3, m4, m5, m6, m7, m8, m9, m10⟩ := hM0
  have m20 := mi20 m2 m3
  refine lv_aload_n hx hb dX11_plan_0 rfl (lv_at hl 0 rfl) ?_
  refine lv_iconst (v := 0) hx hb dX11_plan_1 (by decide) ?_
  refine M0e hT (fun v0_1 v2_1 v3_1 v4_1 v5_1 v6_1 v8_1 v9_1 v12_1 v13_1 v14_1 v15_1 v16_1 v17_1 v18_1 v19_1 v20_1 v21_1 v22_1 v23_1 v25_1 v36_1 v37_1 v38_1 v39_1 v40_1 v45_1 v46_1 v47_1 v48_1 v50_1 v51_1 v53_1 v55_1 hf2 hv0_1 hv2_1 hg2_1 hv3_1 hg3_1 hv4_1 hg4_1 hv5_1 hg5_1 hv6_1 hg6_1 hv8_1 hg8_1 hv9_1 hg9_1 hv12_1 hv13_1 hg13_1 hv14_1 hg14_1 hv15_1 hg15_1 hv17_1 hg17_1 hv20_1 hg20_1 hv23_1 hg23_1 hv25_1 hg25_1 hv36_1 hg36_1 hv47_1 hg47_1 hv48_1 hg48_1 hv53_1 hg53_1 hv55_1 hg55_1 hrel0_1 => ?_)
  have hg15_1 : v15_1.toInt = th 11 := hg15_1
  have hg20_1 : v20_1.toInt = th 14 := hg20_1
  refine pl_put (ty := .int) (v := .int 0) (fs' := [.int 0, .ref (ad 256), .int v2_1, .int v3_1, .int v4_1, .int v5_1, .int v6_1, .ref (ad 257), .int v8_1, .int v9_1, .ref (ad 258), .ref (ad 259), .int v12_1, .int v13_1, .int v14_1, .int v15_1, .int v16_1, .int v17_1, .int v18_1, .int v19_1, .int v20_1, .long v21_1, .long v22_1, .int v23_1, .ref (ad 260), .int v25_1, .ref (ad 261), .ref (ad 262), .ref (ad 263), .ref (ad 264), .ref (ad 265), .ref (ad 266), .ref (ad 267), .ref (ad 268), .ref (ad 269), .ref (ad 270), .int v36_1, .int v37_1, .int v38_1, .int v39_1, .int v40_1, .ref (ad 271), .ref (ad 272), .ref (ad 273), .ref (ad 274), .long v45_1, .long v46_1, .int v47_1, .int v48_1, .ref (ad 275), .int v50_1, .int v51_1, .ref (ad 276), .int v53_1, .ref (ad 277), .int v55_1]) hx hb hts (fun w h => mT (inX11 w h)) tyX11 tyX11_ok nmX11 hown hG.1 hP hD hS (hst.1 255 (by decide)) hf2 rfl 0 (by decide) (hts _ (mT wg_1336)) (fun _ h => h) rfl (by decide +kernel) (rfl) (rfl) (Nat.le_of_ble_eq_true rfl) rfl dX11_plan_2 (fun H locs f3 hf4 ho5 hP hD hS => ?_)
  have hfr : (∀ b, b ≠ (ad 255) → b ≠ (ad 258) → b ≠ (ad 259) → f3 b = f b) := fun b z0_ z1_ z2_ => (ho5 b z0_).trans (hfr b z0_ z1_ z2_)
  refine lv_aload_n hx hb dX11_plan_5 rfl (lv_at hl 0 rfl) ?_
  have hT := TI.updM hT hst (k := 0) (by decide) hf4 ho5 ⟨0, v2_1, v3_1, v4_1, v5_1, v6_1, v8_1, v9_1, v12_1, v13_1, v14_1, v15_1, v16_1, v17_1, v18_1, v19_1, v20_1, v21_1, v22_1, v23_1, v25_1, v36_1, v37_1, v38_1, v39_1, v40_1, v45_1, v46_1, v47_1, v48_1, v50_1, v51_1, v53_1, v55_1, rfl, (⟨by decide, by decide⟩ : In 0 0 1), hv2_1, hg2_1, hv3_1, hg3_1, hv4_1, hg4_1, hv5_1, hg5_1, hv6_1, hg6_1, hv8_1, hg8_1, hv9_1, hg9_1, hv12_1, hv13_1, hg13_1, hv14_1, hg14_1, hv15_1, hg15_1, hv17_1, hg17_1, hv20_1, hg20_1, hv23_1, hg23_1, hv25_1, hg25_1, hv36_1, hg36_1, hv47_1, hg47_1, hv48_1, hg48_1, hv53_1, hg53_1, hv55_1, hg55_1, hrel0_1⟩
  refine call_i (run_V (rm := rm_X11_readsPlan) hx hb hml hown hts (s_X11_readsPlan l g ad th _ _ _  hst hT ) cV_X11_readsPlan wg_1592 ⟨Nat.le_of_ble_eq_true rfl, Nat.le_of_ble_eq_true rfl⟩ hG hE hA hP hD hS (hst.1 255 (by decide)) hf4 rfl rfl hl.1 (As := []) (rest := []) rfl (Nat.le_of_ble_eq_true rfl) dX11_plan_6 ⟨Nat.le_of_ble_eq_true rfl, Nat.le_of_ble_eq_true rfl⟩) hA hD hS (fun r6 L7 f8 H locs hp9 hP hD hS => ?_)
  obtain ⟨eL10L, eL10T, eL10F, eL10R⟩ := hp9
  have eL10L : L7 = L := eL10L
  rw [eL10L] at hP hD
  obtain ⟨zz11, zz12, zz13, zz14, zz15, hzz11, eL10T⟩ := eL10T
  have hzz11 : True := hzz11
  have hT : TI g ad (gset (gset (gset (gset (gset th 37 zz11) 40 zz12) 41 zz13) 42 zz14) 36 zz15) f8 := eL10T
  have eL10F : ∀ b, b ≠ (ad 255) → b ≠ (ad 259) → f8 b = f3 b := eL10F
  have hfr : (∀ b, b ≠ (ad 255) → b ≠ (ad 258) → b ≠ (ad 259) → f8 b = f b) := fun b z0_ z1_ z2_ => (eL10F b z0_ z2_).trans (hfr b z0_ z1_ z2_)
  have eL10R : In r6 (-1) 500 := eL10R
  refine lv_iconst (v := (-1)) hx hb dX11_plan_9 (by decide) ?_
  refine lv_icmp_eq (tgt := 15) hx hb dX11_plan_10 (by decide) (fun c16 => ?_) (fun c16 => ?_)
  ·
    have ocm1 : ((-1) : Int32).toInt = (-1) := by decide
    have cc17 : r6.toInt = ((-1) : Int32).toInt := congrArg Int32.toInt c16
    have hb18 : In r6 (-1) (-1) := In.eq1 eL10R (⟨by decide, by decide⟩ : In (-1) (-1) (-1)) cc17 (by decide) (by decide)
    refine lv_aload_n hx hb dX11_plan_15 rfl (lv_at hl 0 rfl) ?_
    refine lv_iconst (v := 0) hx hb dX11_plan_16 (by decide) ?_
    refine M0e hT (fun v0_19 v2_19 v3_19 v4_19 v5_19 v6_19 v8_19 v9_19 v12_19 v13_19 v14_19 v15_19 v16_19 v17_19 v18_19 v19_19 v20_19 v21_19 v22_19 v23_19 v25_19 v36_19 v37_19 v38_19 v39_19 v40_19 v45_19 v46_19 v47_19 v48_19 v50_19 v51_19 v53_19 v55_19 hf20 hv0_19 hv2_19 hg2_19 hv3_19 hg3_19 hv4_19 hg4_19 hv5_19 hg5_19 hv6_19 hg6_19 hv8_19 hg8_19 hv9_19 hg9_19 hv12_19 hv13_19 hg13_19 hv14_19 hg14_19 hv15_19 hg15_19 hv17_19 hg17_19 hv20_19 hg20_19 hv23_19 hg23_19 hv25_19 hg25_19 hv36_19 hg36_19 hv47_19 hg47_19 hv48_19 hg48_19 hv53_19 hg53_19 hv55_19 hg55_19 hrel0_19 => ?_)
    have hg15_19 : v15_19.toInt = th 11 := hg15_19
    have hg20_19 : v20_19.toInt = th 14 := hg20_19
    refine pl_put (ty := .int) (v := .int 0) (fs' := [.int v0_19, .ref (ad 256), .int 0, .int v3_19, .int v4_19, .int v5_19, .int v6_19, .ref (ad 257), .int v8_19, .int v9_19, .ref (ad 258), .ref (ad 259), .int v12_19, .int v13_19, .int v14_19, .int v15_19, .int v16_19, .int v17_19, .int v18_19, .int v19_19, .int v20_19, .long v21_19, .long v22_19, .int v23_19, .ref (ad 260), .int v25_19, .ref (ad 261), .ref (ad 262), .ref (ad 263), .ref (ad 264), .ref (ad 265), .ref (ad 266), .ref (ad 267), .ref (ad 268), .ref (ad 269), .ref (ad 270), .int v36_19, .int v37_19, .int v38_19, .int v39_19, .int v40_19, .ref (ad 271), .ref (ad 272), .ref (ad 273), .ref (ad 274), .long v45_19, .long v46_19, .int v47_19, .int v48_19, .ref (ad 275), .int v50_19, .int v51_19, .ref (ad 276), .int v53_19, .ref (ad 277), .int v55_19]) hx hb hts (fun w h => mT (inX11 w h)) tyX11 tyX11_ok nmX11 hown hG.1 hP hD hS (hst.1 255 (by decide)) hf20 rfl 2 (by decide) (hts _ (mT wg_1338)) (fun _ h => h) rfl (by decide +kernel) (rfl) (rfl) (Nat.le_of_ble_eq_true rfl) rfl dX11_plan_17 (fun H locs f21 hf22 ho23 hP hD hS => ?_)
    have hfr : (∀ b, b ≠ (ad 255) → b ≠ (ad 258) → b ≠ (ad 259) → f21 b = f b) := fun b z0_ z1_ z2_ => (ho23 b z0_).trans (hfr b z0_ z1_ z2_)
    refine lv_iconst (v := 0) hx hb dX11_plan_20 (by decide) ?_
    refine lv_istore_n (lv' := [(1, .int 0), (0, .ref (ad 255))]) hx hb dX11_plan_21 rfl hl (by decide) rfl (fun ls hl => ?_)
    have hT := TI.updMG (th' := (gset (gset (gset (gset (gset (gset th 37 zz11) 40 zz12) 41 zz13) 42 zz14) 36 zz15) 13 (0))) hT hst (k := 0) (by decide) hf22 ho23 ⟨v0_19, 0, v3_19, v4_19, v5_19, v6_19, v8_19, v9_19, v12_19, v13_19, v14_19, v15_19, v16_19, v17_19, v18_19, v19_19, v20_19, v21_19, v22_19, v23_19, v25_19, v36_19, v37_19, v38_19, v39_19, v40_19, v45_19, v46_19, v47_19, v48_19, v50_19, v51_19, v53_19, v55_19, rfl, hv0_19, (⟨by decide, by decide⟩ : In 0 0 500), (show (0 : Int32).toInt = 0 by decide), hv3_19, hg3_19, hv4_19, hg4_19, hv5_19, hg5_19, hv6_19, hg6_19, hv8_19, hg8_19, hv9_19, hg9_19, hv12_19, hv13_19, hg13_19, hv14_19, hg14_19, hv15_19, hg15_19, hv17_19, hg17_19, hv20_19, hg20_19, hv23_19, hg23_19, hv25_19, hg25_19, hv36_19, hg36_19, hv47_19, hg47_19, hv48_19, hg48_19, hv53_19, hg53_19, hv55_19, hg55_19, hrel0_19⟩ (fun q hq => ((gset_ne (fun e => hq (by subst e; decide))).trans rfl))
    have hT : TI g ad (gset (gset (gset (gset (gset (gset th 37 zz11) 40 zz12) 41 zz13) 42 zz14) 36 zz15) 13 0) f21 := TI.cast hT (by funext q; by_cases hq0 : q = 13; (subst hq0; rfl); by_cases hq1 : q = 36; (subst hq1; rfl); by_cases hq2 : q = 42; (subst hq2; rfl); by_cases hq3 : q = 41; (subst hq3; rfl); by_cases hq4 : q = 40; (subst hq4; rfl); by_cases hq5 : q = 37; (subst hq5; rfl); simp only [gset, if_neg hq0, if_neg hq1, if_neg hq2, if_neg hq3, if_neg hq4, if_neg hq5])
    have hJ22 : ∀ (k22 : Nat) (y22_l1 : Int32) (f_22 : HP) (H : Heap) (locs : List Loc) (ls : Array Slot), In y22_l1 0 100 → va_P g.1 vwCl (va_pl L f_22) H → va_D A (va_pl L f_22) → va_S A s.heap H locs → TI g ad (gset (gset (gset (gset (gset (gset th 37 zz11) 40 zz12) 41 zz13) 42 zz14) 36 zz15) 13 0) f_22 → (∀ b, b ≠ (ad 255) → b ≠ (ad 258) → b ≠ (ad 259) → f_22 b = f b) → lv_has ls 2 [(0, .ref (ad 255)), (1, .int y22_l1)] → 100 - y22_l1.toInt < ((k22 : Nat) : Int) → W p l e rm_X11_plan s m [.ref (ad 255)].toArray below meth c H locs 0 0 (MQ below (va_Qi (po_X11_plan g ad th L f ) (PstB g A) A) [.ref (ad 255)].toArray s rm_X11_plan.cells rm_X11_plan.slots A) (F0 m 22 ls []) := by
      intro k22
      induction k22 with
      | zero =>
        intro y22_l1 f_22 H locs ls hy22_l1 hP hD hS hT hfr hl hmz22
        exact ms0 hy22_l1 hmz22
      | succ k22 ih22 =>
        intro y22_l1 f_22 H locs ls hy22_l1 hP hD hS hT hfr hl hmz22
        refine lv_iload_n hx hb dX11_plan_22 rfl (lv_at hl 1 rfl) ?_
        refine lv_aload_n hx hb dX11_plan_23 rfl (lv_at hl 0 rfl) ?_
        refine M0e hT (fun v0_24 v2_24 v3_24 v4_24 v5_24 v6_24 v8_24 v9_24 v12_24 v13_24 v14_24 v15_24 v16_24 v17_24 v18_24 v19_24 v20_24 v21_24 v22_24 v23_24 v25_24 v36_24 v37_24 v38_24 v39_24 v40_24 v45_24 v46_24 v47_24 v48_24 v50_24 v51_24 v53_24 v55_24 hf25 hv0_24 hv2_24 hg2_24 hv3_24 hg3_24 hv4_24 hg4_24 hv5_24 hg5_24 hv6_24 hg6_24 hv8_24 hg8_24 hv9_24 hg9_24 hv12_24 hv13_24 hg13_24 hv14_24 hg14_24 hv15_24 hg15_24 hv17_24 hg17_24 hv20_24 hg20_24 hv23_24 hg23_24 hv25_24 hg25_24 hv36_24 hg36_24 hv47_24 hg47_24 hv48_24 hg48_24 hv53_24 hg53_24 hv55_24 hg55_24 hrel0_24 => ?_)
        have hg15_24 : v15_24.toInt = th 11 := hg15_24
        have hg20_24 : v20_24.toInt = th 14 := hg20_24
        refine pl_get (v := .ref (ad 258)) hx hb hts (fun w h => mT (inX11 w h)) hown hG.1 hP (hst.1 255 (by decide)) hf25 rfl 10 (by decide) (hts _ (mT wg_1346)) (fun _ h => h) rfl dX11_plan_24 ?_
        obtain ⟨rw26, hf27⟩ := hT.2.2 3 (by decide)
        refine pl_alen (v := 100) hx hb hG.1 hP (hst.1 258 (by decide)) 0 hf27 rfl (rfl) dX11_plan_27 ?_
        refine lv_icmp_ge (tgt := 49) hx hb dX11_plan_28 (by decide) (fun c28 => ?_) (fun c28 => ?_)
        ·
          have oc100 : (100 : Int32).toInt = 100 := by decide
          have cc29 : (100 : Int32).toInt ≤ y22_l1.toInt := i32_le.mp c28
          have hb30 : In y22_l1 100 100 := In.ge1 hy22_l1 (⟨by decide, by decide⟩ : In 100 100 100) cc29 (by decide) (by decide)
          refine lv_aload_n hx hb dX11_plan_49 rfl (lv_at hl 0 rfl) ?_
          refine lv_aload_n hx hb dX11_plan_50 rfl (lv_at hl 0 rfl) ?_
          refine pl_get (v := .int v13_24) hx hb hts (fun w h => mT (inX11 w h)) hown hG.1 hP (hst.1 255 (by decide)) hf25 rfl 13 (by decide) (hts _ (mT wg_1349)) (fun _ h => h) rfl dX11_plan_51 ?_
          have hg13_24 : v13_24.toInt = zz15 := hg13_24
          refine pl_put (ty := .int) (v := .int v13_24) (fs' := [.int v0_24, .ref (ad 256), .int v2_24, .int v3_24, .int v4_24, .int v5_24, .int v6_24, .ref (ad 257), .int v8_24, .int v9_24, .ref (ad 258), .ref (ad 259), .int v13_24, .int v13_24, .int v14_24, .int v15_24, .int v16_24, .int v17_24, .int v18_24, .int v19_24, .int v20_24, .long v21_24, .long v22_24, .int v23_24, .ref (ad 260), .int v25_24, .ref (ad 261), .ref (ad 262), .ref (ad 263), .ref (ad 264), .ref (ad 265), .ref (ad 266), .ref (ad 267), .ref (ad 268), .ref (ad 269), .ref (ad 270), .int v36_24, .int v37_24, .int v38_24, .int v39_24, .int v40_24, .ref (ad 271), .ref (ad 272), .ref (ad 273), .ref (ad 274), .long v45_24, .long v46_24, .int v47_24, .int v48_24, .ref (ad 275), .int v50_24, .int v51_24, .ref (ad 276), .int v53_24, .ref (ad 277), .int v55_24]) hx hb hts (fun w h => mT (inX11 w h)) tyX11 tyX11_ok nmX11 hown hG.1 hP hD hS (hst.1 255 (by decide)) hf25 rfl 12 (by decide) (hts _ (mT wg_1348)) (fun _ h => h) rfl (by decide +kernel) (rfl) (rfl) (Nat.le_of_ble_eq_true rfl) rfl dX11_plan_54 (fun H locs f31 hf32 ho33 hP hD hS => ?_)
          have hf34 := (ho33 (ad 258) (hst.ne (by decide) (by decide) (by decide))).trans hf27
          have hfr : (∀ b, b ≠ (ad 255) → b ≠ (ad 258) → b ≠ (ad 259) → f31 b = f b) := fun b z0_ z1_ z2_ => (ho33 b z0_).trans (hfr b z0_ z1_ z2_)
          refine lv_aload_n hx hb dX11_plan_57 rfl (lv_at hl 0 rfl) ?_
          refine pl_get (v := .int v13_24) hx hb hts (fun w h => mT (inX11 w h)) hown hG.1 hP (hst.1 255 (by decide)) hf32 rfl 12 (by decide) (hts _ (mT wg_1348)) (fun _ h => h) rfl dX11_plan_58 ?_
          have hT := TI.updM hT hst (k := 0) (by decide) hf32 ho33 ⟨v0_24, v2_24, v3_24, v4_24, v5_24, v6_24, v8_24, v9_24, v13_24, v13_24, v14_24, v15_24, v16_24, v17_24, v18_24, v19_24, v20_24, v21_24, v22_24, v23_24, v25_24, v36_24, v37_24, v38_24, v39_24, v40_24, v45_24, v46_24, v47_24, v48_24, v50_24, v51_24, v53_24, v55_24, rfl, hv0_24, hv2_24, hg2_24, hv3_24, hg3_24, hv4_24, hg4_24, hv5_24, hg5_24, hv6_24, hg6_24, hv8_24, hg8_24, hv9_24, hg9_24, hv13_24, hv13_24, hg13_24, hv14_24, hg14_24, hv15_24, hg15_24, hv17_24, hg17_24, hv20_24, hg20_24, hv23_24, hg23_24, hv25_24, hg25_24, hv36_24, hg36_24, hv47_24, hg47_24, hv48_24, hg48_24, hv53_24, hg53_24, hv55_24, hg55_24, hrel0_24⟩
          exact ret_i (ty := .int) hx hb hr hlocks (rfl) hP hD hS (Nat.le_of_ble_eq_true rfl) (Nat.le_of_ble_eq_true rfl) (⟨rfl, ⟨(gset (gset (gset (gset (gset (gset th 37 zz11) 40 zz12) 41 zz13) 42 zz14) 36 zz15) 13 0), ⟨(show MI (gset (gset (gset (gset (gset (gset th 37 zz11) 40 zz12) 41 zz13) 42 zz14) 36 zz15) 13 0) from ⟨m1, m2, (show th 20 = (th 12) * rnd (th 10) from m3), m4, m5, m6, m7, m8, m9, m10⟩), (SBM.set (k := 13) (SBM.set (k := 36) (SBM.set (k := 42) (SBM.set (k := 41) (SBM.set (k := 40) (SBM.set (k := 37) (SBM.rf th) (by decide)) (by decide)) (by decide)) (by decide)) (by decide)) (by decide))⟩, hT⟩, hfr⟩) dX11_plan_61
        ·
          have oc100 : (100 : Int32).toInt = 100 := by decide
          have cc35 : y22_l1.toInt < (100 : Int32).toInt := i32_nle c28
          have hb36 : In y22_l1 0 99 := In.lt1 hy22_l1 (⟨by decide, by decide⟩ : In 100 100 100) cc35 (by decide) (by decide)
          refine lv_aload_n hx hb dX11_plan_31 rfl (lv_at hl 0 rfl) ?_
          refine pl_get (v := .ref (ad 258)) hx hb hts (fun w h => mT (inX11 w h)) hown hG.1 hP (hst.1 255 (by decide)) hf25 rfl 10 (by decide) (hts _ (mT wg_1346)) (fun _ h => h) rfl dX11_plan_32 ?_
          refine lv_iload_n hx hb dX11_plan_35 rfl (lv_at hl 1 rfl) ?_
          refine lv_aload_n hx hb dX11_plan_36 rfl (lv_at hl 0 rfl) ?_
          refine pl_get (v := .ref (ad 259)) hx hb hts (fun w h => mT (inX11 w h)) hown hG.1 hP (hst.1 255 (by decide)) hf25 rfl 11 (by decide) (hts _ (mT wg_1347)) (fun _ h => h) rfl dX11_plan_37 ?_
          refine lv_iload_n hx hb dX11_plan_40 rfl (lv_at hl 1 rfl) ?_
          obtain ⟨rw37, hf38⟩ := hT.2.2 4 (by decide)
          have hin39 : vp_in y22_l1 100 := In.inb hb36 (by decide) (by decide)
          refine pl_iald hx hb hG.1 hP (hst.1 259 (by decide)) 0 hf38 rfl hin39 dX11_plan_41 ?_
          refine lv_topi (fun x40 ex40 => ?_)
          refine pl_iastE hx hb hG.1 hP hD hS (hst.1 258 (by decide)) 0 hf27 rfl (In.inb hb36 (by decide) (by decide)) dX11_plan_42 (fun H locs f41 r44 er44 hf42 ho43 hP hD hS => ?_)
          have hf45 := (ho43 (ad 255) (hst.ne (by decide) (by decide) (by decide))).trans hf25
          have hf46 := (ho43 (ad 259) (hst.ne (by decide) (by decide) (by decide))).trans hf38
          have hfr : (∀ b, b ≠ (ad 255) → b ≠ (ad 258) → b ≠ (ad 259) → f41 b = f b) := fun b z0_ z1_ z2_ => (ho43 b z1_).trans (hfr b z0_ z1_ z2_)
          obtain ⟨x47, ex47⟩ : ∃ y : Int32, y = y22_l1 + 1 := ⟨_, rfl⟩
          have hb48 : In x47 1 100 := ex47 ▸ In.add hb36 (⟨by decide, by decide⟩ : In 1 1 1) (by decide) (by decide) (by decide) (by decide)
          have et49 : x47.toInt = y22_l1.toInt + 1 := In.adde ex47 hb36 (k := 1) (by decide) (by decide) (by decide)
          refine lv_iinc (v := x47) (lv' := [(1, .int x47), (0, .ref (ad 255))]) hx hb dX11_plan_43 hl (k := 1) rfl (by rw [ex47]; rfl) (by decide) rfl (fun ls hl => ?_)
          have hT := TI.updM hT hst (k := 3) (by decide) hf42 ho43 ⟨r44, rfl⟩
          refine lv_goto (tgt := 22) hx hb dX11_plan_46 (by decide) ?_
          exact ih22 x47 _ _ _ _ (In.mono hb48 (by decide) (by decide)) hP hD hS (TI.cast hT (by funext q; by_cases hq0 : q = 13; (subst hq0; rfl); by_cases hq1 : q = 36; (subst hq1; rfl); by_cases hq2 : q = 42; (subst hq2; rfl); by_cases hq3 : q = 41; (subst hq3; rfl); by_cases hq4 : q = 40; (subst hq4; rfl); by_cases hq5 : q = 37; (subst hq5; rfl); simp only [gset, if_neg hq0, if_neg hq1, if_neg hq2, if_neg hq3, if_neg hq4, if_neg hq5])) hfr (lv_sub hl [1, 0] rfl) (msu et49 (by decide) hmz22)
    exact hJ22 ((100 - (0 : Int32).toInt).toNat + 1) 0 _ _ _ _ (⟨by decide, by decide⟩ : In 0 0 100) hP hD hS (TI.cast hT (by funext q; by_cases hq0 : q = 13; (subst hq0; rfl); by_cases hq1 : q = 36; (subst hq1; rfl); by_cases hq2 : q = 42; (subst hq2; rfl); by_cases hq3 : q = 41; (subst hq3; rfl); by_cases hq4 : q = 40; (subst hq4; rfl); by_cases hq5 : q = 37; (subst hq5; rfl); simp only [gset, if_neg hq0, if_neg hq1, if_neg hq2, if_neg hq3, if_neg hq4, if_neg hq5])) hfr (lv_sub hl [1, 0] rfl) (msI _)
  ·
    have ocm1 : ((-1) : Int32).toInt = (-1) := by decide
    have cc50 : r6.toInt ≠ ((-1) : Int32).toInt := i32_ne c16
    have hb51 : In r6 0 500 := In.ne1 eL10R (⟨by decide, by decide⟩ : In (-1) (-1) (-1)) cc50 (by decide) (by decide)
    refine lv_iconst (v := (-1)) hx hb dX11_plan_13 (by decide) ?_
    exact ret_i (ty := .int) hx hb hr hlocks (rfl) hP hD hS (Nat.le_of_ble_eq_true rfl) (Nat.le_of_ble_eq_true rfl) (⟨rfl, ⟨(gset (gset (gset (gset (gset th 37 zz11) 40 zz12) 41 zz13) 42 zz14) 36 zz15), ⟨(show MI (gset (gset (gset (gset (gset th 37 zz11) 40 zz12) 41 zz13) 42 zz14) 36 zz15) from ⟨m1, m2, (show th 20 = (th 12) * rnd (th 10) from m3), m4, m5, m6, m7, m8, m9, m10⟩), (SBM.set (k := 36) (SBM.set (k := 42) (SBM.set (k := 41) (SBM.set (k := 40) (SBM.set (k := 37) (SBM.rf th) (by decide)) (by decide)) (by decide)) (by decide)) (by decide))⟩, hT⟩, hfr⟩) dX11_plan_14

abbrev rm_X11_council : Room := { frames := 8, cells := 0, slots := 0, locals := 172 }
abbrev po_X11_council (g : GG) (ad : Nat → Nat) (th : Nat → Int) (L : List Nat) (f : HP) (z1 : Int64) : Int32 → (List Nat × HP) → Prop := fun r u => u.1 = L ∧ (∃ th' : Nat → Int, (MI th' ∧ SBM th th') ∧ TI g ad th' u.2) ∧ (∀ b, b ≠ (ad 255) → b ≠ (ad 271) → b ≠ (ad 257) → b ≠ (ad 261) → b ≠ (ad 262) → u.2 b = f b)
set_option maxHeartbeats 4000000 in
set_option maxRecDepth 100000 in
theorem s_X11_council (l : Launch) (g : GG) (ad : Nat → Nat) (th : Nat → Int) (L : List Nat) (f : HP) (sz : Nat) (z1 : Int64) (hst : ST ad L) (hT : TI g ad th f) (hM : MI th) : MtI l g yX11_council cX11_council 3 (some .int) rm_X11_council [.ref (ad 255), .long z1] L f sz (po_X11_council g ad th L f z1) := by
  refine MtI.of (by decide +kernel) (Nat.le_of_ble_eq_true rfl) ?_
  intro p e s m below meth c A hEn hP hD hS ls hl
  obtain ⟨hx, hb, hr, hml, hown, hlocks, hts, hG, hA, hE, hnm⟩ := hEn
  have hown : s.vm.findClass "RulerWordModel" = some m.cls := hown
  have hl : lv_has ls 3 [(0, .ref (ad 255)), (1, .long z1)] := hl
  have hfr : (∀ b, b ≠ (ad 255) → b ≠ (ad 271) → b ≠ (ad 257) → b ≠ (ad 261) → b ≠ (ad 262) → f b = f b) := fun b z0_ z1_ z2_ z3_ z4_ => rfl
  have hM0 := hM
  obtain ⟨m1, m2, m3, m4, m5, m6, m7, m8, m9, m10⟩ := hM0
  have m20 := mi20 m2 m3
  refine lv_aload_n hx hb dX11_council_0 rfl (lv_at hl 0 rfl) ?_
  refine lv_iconst (v := 0) hx hb dX11_council_1 (by decide) ?_
  refine M0e hT (fun v0_1 v2_1 v3_1 v4_1 v5_1 v6_1 v8_1 v9_1 v12_1 v13_1 v14_1 v15_1 v16_1 v17_1 v18_1 v19_1 v20_1 v21_1 v22_1 v23_1 v25_1 v36_1 v37_1 v38_1 v39_1 v40_1 v45_1 v46_1 v47_1 v48_1 v50_1 v51_1 v53_1 v55_1 hf2 hv0_1 hv2_1 hg2_1 hv3_1 hg3_1 hv4_1 hg4_1 hv5_1 hg5_1 hv6_1 hg6_1 hv8_1 hg8_1 hv9_1 hg9_1 hv12_1 hv13_1 hg13_1 hv14_1 hg14_1 hv15_1 hg15_1 hv17_1 hg17_1 hv20_1 hg20_1 hv23_1 hg23_1 hv25_1 hg25_1 hv36_1 hg36_1 hv47_1 hg47_1 hv48_1 hg48_1 hv53_1 hg53_1 hv55_1 hg55_1 hrel0_1 => ?_)
  have hg15_1 : v15_1.toInt = th 11 := hg15_1
  have hg20_1 : v20_1.toInt = th 14 := hg20_1
  refine pl_put (ty := .int) (v := .int 0) (fs' := [.int 0, .ref (ad 256), .int v2_1, .int v3_1, .int v4_1, .int v5_1, .int v6_1, .ref (ad 257), .int v8_1, .int v9_1, .ref (ad 258), .ref (ad 259), .int v12_1, .int v13_1, .int v14_1, .int v15_1, .int v16_1, .int v17_1, .int v18_1, .int v19_1, .int v20_1, .long v21_1, .long v22_1, .int v23_1, .ref (ad 260), .int v25_1, .ref (ad 261), .ref (ad 262), .ref (ad 263), .ref (ad 264), .ref (ad 265), .ref (ad 266), .ref (ad 267), .ref (ad 268), .ref (ad 269), .ref (ad 270), .int v36_1, .int v37_1, .int v38_1, .int v39_1, .int v40_1, .ref (ad 271), .ref (ad 272), .ref (ad 273), .ref (ad 274), .long v45_1, .long v46_1, .int v47_1, .int v48_1, .ref (ad 275), .int v50_1, .int v51_1, .ref (ad 276), .int v53_1, .ref (ad 277), .int v55_1]) hx hb hts (fun w h => mT (inX11 w h)) tyX11 tyX11_ok nmX11 hown hG.1 hP hD hS (hst.1 255 (by decide)) hf2 rfl 0 (by decide) (hts _ (mT wg_1336)) (fun _ h => h) rfl (by decide +kernel) (rfl) (rfl) (Nat.le_of_ble_eq_true rfl) rfl dX11_council_2 (fun H locs f3 hf4 ho5 hP hD hS => ?_)
  have hfr : (∀ b, b ≠ (ad 255) → b ≠ (ad 271) → b ≠ (ad 257) → b ≠ (ad 261) → b ≠ (ad 262) → f3 b = f b) := fun b z0_ z1_ z2_ z3_ z4_ => (ho5 b z0_).trans (hfr b z0_ z1_ z2_ z3_ z4_)
  refine lv_aload_n hx hb dX11_council_5 rfl (lv_at hl 0 rfl) ?_
  have hT := TI.updM hT hst (k := 0) (by decide) hf4 ho5 ⟨0, v2_1, v3_1, v4_1, v5_1, v6_1, v8_1, v9_1, v12_1, v13_1, v14_1, v15_1, v16_1, v17_1, v18_1, v19_1, v20_1, v21_1, v22_1, v23_1, v25_1, v36_1, v37_1, v38_1, v39_1, v40_1, v45_1, v46_1, v47_1, v48_1, v50_1, v51_1, v53_1, v55_1, rfl, (⟨by decide, by decide⟩ : In 0 0 1), hv2_1, hg2_1, hv3_1, hg3_1, hv4_1, hg4_1, hv5_1, hg5_1, hv6_1, hg6_1, hv8_1, hg8_1, hv9_1, hg9_1, hv12_1, hv13_1, hg13_1, hv14_1, hg14_1, hv15_1, hg15_1, hv17_1, hg17_1, hv20_1, hg20_1, hv23_1, hg23_1, hv25_1, hg25_1, hv36_1, hg36_1, hv47_1, hg47_1, hv48_1, hg48_1, hv53_1, hg53_1, hv55_1, hg55_1, hrel0_1⟩
  refine call_i (run_V (rm := rm_X11_readsCouncil) hx hb hml hown hts (s_X11_readsCouncil l g ad th _ _ _  hst hT ) cV_X11_readsCouncil wg_1525 ⟨Nat.le_of_ble_eq_true rfl, Nat.le_of_ble_eq_true rfl⟩ hG hE hA hP hD hS (hst.1 255 (by decide)) hf4 rfl rfl hl.1 (As := []) (rest := []) rfl (Nat.le_of_ble_eq_true rfl) dX11_council_6 ⟨Nat.le_of_ble_eq_true rfl, Nat.le_of_ble_eq_true rfl⟩) hA hD hS (fun r6 L7 f8 H locs hp9 hP hD hS => ?_)
  obtain ⟨eL10L, eL10T, eL10F, eL10R⟩ := hp9
  have eL10L : L7 = L := eL10L
  rw [eL10L] at hP hD
  obtain ⟨zz11, zz12, zz13, zz14, zz15, zz16, zz17, zz18, hzz11, eL10T⟩ := eL10T
  have hT : TI g ad (gset (gset (gset (gset (gset (gset (gset (gset th 37 zz11) 40 zz12) 41 zz13) 42 zz14) 35 zz15) 30 zz16) 34 zz17) 43 zz18) f8 := eL10T
  have eL10F : ∀ b, b ≠ (ad 255) → b ≠ (ad 257) → f8 b = f3 b := eL10F
  have hfr : (∀ b, b ≠ (ad 255) → b ≠ (ad 271) → b ≠ (ad 257) → b ≠ (ad 261) → b ≠ (ad 262) → f8 b = f b) := fun b z0_ z1_ z2_ z3_ z4_ => (eL10F b z0_ z2_).trans (hfr b z0_ z1_ z2_ z3_ z4_)
  have eL10R : In r6 (-1) 500 := eL10R
  refine lv_iconst (v := (-1)) hx hb dX11_council_9 (by decide) ?_
  refine lv_icmp_eq (tgt := 15) hx hb dX11_council_10 (by decide) (fun c19 => ?_) (fun c19 => ?_)
  ·
    have ocm1 : ((-1) : Int32).toInt = (-1) := by decide
    have cc20 : r6.toInt = ((-1) : Int32).toInt := congrArg Int32.toInt c19
    have hb21 : In r6 (-1) (-1) := In.eq1 eL10R (⟨by decide, by decide⟩ : In (-1) (-1) (-1)) cc20 (by decide) (by decide)
    have hdip := (hzz11.resolve_left (by omega))
    have hdi2 := hdip.2.2.1 hdip.1.1
    refine lv_aload_n hx hb dX11_council_15 rfl (lv_at hl 0 rfl) ?_
    refine lv_iconst (v := 0) hx hb dX11_council_16 (by decide) ?_
    refine M0e hT (fun v0_22 v2_22 v3_22 v4_22 v5_22 v6_22 v8_22 v9_22 v12_22 v13_22 v14_22 v15_22 v16_22 v17_22 v18_22 v19_22 v20_22 v21_22 v22_22 v23_22 v25_22 v36_22 v37_22 v38_22 v39_22 v40_22 v45_22 v46_22 v47_22 v48_22 v50_22 v51_22 v53_22 v55_22 hf23 hv0_22 hv2_22 hg2_22 hv3_22 hg3_22 hv4_22 hg4_22 hv5_22 hg5_22 hv6_22 hg6_22 hv8_22 hg8_22 hv9_22 hg9_22 hv12_22 hv13_22 hg13_22 hv14_22 hg14_22 hv15_22 hg15_22 hv17_22 hg17_22 hv20_22 hg20_22 hv23_22 hg23_22 hv25_22 hg25_22 hv36_22 hg36_22 hv47_22 hg47_22 hv48_22 hg48_22 hv53_22 hg53_22 hv55_22 hg55_22 hrel0_22 => ?_)
    have hg15_22 : v15_22.toInt = th 11 := hg15_22
    have hg20_22 : v20_22.toInt = th 14 := hg20_22
    refine pl_put (ty := .int) (v := .int 0) (fs' := [.int v0_22, .ref (ad 256), .int 0, .int v3_22, .int v4_22, .int v5_22, .int v6_22, .ref (ad 257), .int v8_22, .int v9_22, .ref (ad 258), .ref (ad 259), .int v12_22, .int v13_22, .int v14_22, .int v15_22, .int v16_22, .int v17_22, .int v18_22, .int v19_22, .int v20_22, .long v21_22, .long v22_22, .int v23_22, .ref (ad 260), .int v25_22, .ref (ad 261), .ref (ad 262), .ref (ad 263), .ref (ad 264), .ref (ad 265), .ref (ad 266), .ref (ad 267), .ref (ad 268), .ref (ad 269), .ref (ad 270), .int v36_22, .int v37_22, .int v38_22, .int v39_22, .int v40_22, .ref (ad 271), .ref (ad 272), .ref (ad 273), .ref (ad 274), .long v45_22, .long v46_22, .int v47_22, .int v48_22, .ref (ad 275), .int v50_22, .int v51_22, .ref (ad 276), .int v53_22, .ref (ad 277), .int v55_22]) hx hb hts (fun w h => mT (inX11 w h)) tyX11 tyX11_ok nmX11 hown hG.1 hP hD hS (hst.1 255 (by decide)) hf23 rfl 2 (by decide) (hts _ (mT wg_1338)) (fun _ h => h) rfl (by decide +kernel) (rfl) (rfl) (Nat.le_of_ble_eq_true rfl) rfl dX11_council_17 (fun H locs f24 hf25 ho26 hP hD hS => ?_)
    have hfr : (∀ b, b ≠ (ad 255) → b ≠ (ad 271) → b ≠ (ad 257) → b ≠ (ad 261) → b ≠ (ad 262) → f24 b = f b) := fun b z0_ z1_ z2_ z3_ z4_ => (ho26 b z0_).trans (hfr b z0_ z1_ z2_ z3_ z4_)
    refine lv_aload_n hx hb dX11_council_20 rfl (lv_at hl 0 rfl) ?_
    refine lv_aload_n hx hb dX11_council_21 rfl (lv_at hl 0 rfl) ?_
    refine pl_get (v := .int v8_22) hx hb hts (fun w h => mT (inX11 w h)) hown hG.1 hP (hst.1 255 (by decide)) hf25 rfl 8 (by decide) (hts _ (mT wg_1344)) (fun _ h => h) rfl dX11_council_22 ?_
    have hg8_22 : v8_22.toInt = zz18 := hg8_22
    refine pl_put (ty := .int) (v := .int v8_22) (fs' := [.int v0_22, .ref (ad 256), .int 0, .int v3_22, .int v4_22, .int v5_22, .int v6_22, .ref (ad 257), .int v8_22, .int v9_22, .ref (ad 258), .ref (ad 259), .int v12_22, .int v13_22, .int v8_22, .int v15_22, .int v16_22, .int v17_22, .int v18_22, .int v19_22, .int v20_22, .long v21_22, .long v22_22, .int v23_22, .ref (ad 260), .int v25_22, .ref (ad 261), .ref (ad 262), .ref (ad 263), .ref (ad 264), .ref (ad 265), .ref (ad 266), .ref (ad 267), .ref (ad 268), .ref (ad 269), .ref (ad 270), .int v36_22, .int v37_22, .int v38_22, .int v39_22, .int v40_22, .ref (ad 271), .ref (ad 272), .ref (ad 273), .ref (ad 274), .long v45_22, .long v46_22, .int v47_22, .int v48_22, .ref (ad 275), .int v50_22, .int v51_22, .ref (ad 276), .int v53_22, .ref (ad 277), .int v55_22]) hx hb hts (fun w h => mT (inX11 w h)) tyX11 tyX11_ok nmX11 hown hG.1 hP hD hS (hst.1 255 (by decide)) hf25 rfl 14 (by decide) (hts _ (mT wg_1350)) (fun _ h => h) rfl (by decide +kernel) (rfl) (rfl) (Nat.le_of_ble_eq_true rfl) rfl dX11_council_25 (fun H locs f27 hf28 ho29 hP hD hS => ?_)
    have ho30 : ∀ b, b ≠ (ad 255) → f27 b = _ := fun b hb => (ho29 b hb).trans (ho26 b hb)
    have hfr : (∀ b, b ≠ (ad 255) → b ≠ (ad 271) → b ≠ (ad 257) → b ≠ (ad 261) → b ≠ (ad 262) → f27 b = f b) := fun b z0_ z1_ z2_ z3_ z4_ => (ho29 b z0_).trans (hfr b z0_ z1_ z2_ z3_ z4_)
    refine lv_aload_n hx hb dX11_council_28 rfl (lv_at hl 0 rfl) ?_
    refine lv_aload_n hx hb dX11_council_29 rfl (lv_at hl 0 rfl) ?_
    refine pl_get (v := .ref (ad 257)) hx hb hts (fun w h => mT (inX11 w h)) hown hG.1 hP (hst.1 255 (by decide)) hf28 rfl 7 (by decide) (hts _ (mT wg_1343)) (fun _ h => h) rfl dX11_council_30 ?_
    refine lv_iconst (v := 0) hx hb dX11_council_33 (by decide) ?_
    have hT := TI.updMG (th' := (gset (gset (gset (gset (gset (gset (gset (gset (gset (gset th 37 zz11) 40 zz12) 41 zz13) 42 zz14) 35 zz15) 30 zz16) 34 zz17) 43 zz18) 13 (0)) 10 (v8_22.toInt))) hT hst (k := 0) (by decide) hf28 ho30 ⟨v0_22, 0, v3_22, v4_22, v5_22, v6_22, v8_22, v9_22, v12_22, v13_22, v8_22, v15_22, v16_22, v17_22, v18_22, v19_22, v20_22, v21_22, v22_22, v23_22, v25_22, v36_22, v37_22, v38_22, v39_22, v40_22, v45_22, v46_22, v47_22, v48_22, v50_22, v51_22, v53_22, v55_22, rfl, hv0_22, (⟨by decide, by decide⟩ : In 0 0 500), (show (0 : Int32).toInt = 0 by decide), hv3_22, hg3_22, hv4_22, hg4_22, hv5_22, hg5_22, hv6_22, hg6_22, hv8_22, hg8_22, hv9_22, hg9_22, hv12_22, hv13_22, hg13_22, (In.mk (by have ob10 : (0 : Int) ≤ (th 10) ∧ (th 10) ≤ 1 := (b0_10 hT :); have ob11 : (0 : Int) ≤ (th 11) ∧ (th 11) ≤ 9 := (b0_11 hT :); have ob12 : (0 : Int) ≤ (th 12) ∧ (th 12) ≤ 6 := (b0_12 hT :); have ob14 : (0 : Int) ≤ (th 14) ∧ (th 14) ≤ 511 := (b0_14 hT :); have ob15 : (0 : Int) ≤ (th 15) ∧ (th 15) ≤ 1 := (b0_15 hT :); have ob16 : (0 : Int) ≤ (th 16) ∧ (th 16) ≤ 20 := (b0_16 hT :); have ob17 : (0 : Int) ≤ (th 17) ∧ (th 17) ≤ 1 := (b0_17 hT :); have ob18 : (0 : Int) ≤ (th 18) ∧ (th 18) ≤ 18 := (b0_18 hT :); have ob38 : (0 : Int) ≤ (th 38) ∧ (th 38) ≤ 400 := (b0_38 hT :); have ob39 : (0 : Int) ≤ (th 39) ∧ (th 39) ≤ 200 := (b0_39 hT :); have ob44 : (0 : Int) ≤ (th 44) ∧ (th 44) ≤ 30 := (b0_44 hT :); have orn := rnd_b (th 10); obtain ⟨o0a, o0b⟩ := (hv8_22 : In _ _ _); obtain ⟨o1a, o1b⟩ := (hv15_22 : In _ _ _); obtain ⟨o2a, o2b⟩ := (hv17_22 : In _ _ _); obtain ⟨o3a, o3b⟩ := (hv20_22 : In _ _ _); obtain ⟨o4a, o4b⟩ := (hv23_22 : In _ _ _); obtain ⟨o5a, o5b⟩ := (hv25_22 : In _ _ _); obtain ⟨o6a, o6b⟩ := (hv36_22 : In _ _ _); obtain ⟨o7a, o7b⟩ := (hv47_22 : In _ _ _); obtain ⟨o8a, o8b⟩ := (hv48_22 : In _ _ _); obtain ⟨o9a, o9b⟩ := (hv53_22 : In _ _ _); obtain ⟨o10a, o10b⟩ := (hv55_22 : In _ _ _); omega) (by have ob10 : (0 : Int) ≤ (th 10) ∧ (th 10) ≤ 1 := (b0_10 hT :); have ob11 : (0 : Int) ≤ (th 11) ∧ (th 11) ≤ 9 := (b0_11 hT :); have ob12 : (0 : Int) ≤ (th 12) ∧ (th 12) ≤ 6 := (b0_12 hT :); have ob14 : (0 : Int) ≤ (th 14) ∧ (th 14) ≤ 511 := (b0_14 hT :); have ob15 : (0 : Int) ≤ (th 15) ∧ (th 15) ≤ 1 := (b0_15 hT :); have ob16 : (0 : Int) ≤ (th 16) ∧ (th 16) ≤ 20 := (b0_16 hT :); have ob17 : (0 : Int) ≤ (th 17) ∧ (th 17) ≤ 1 := (b0_17 hT :); have ob18 : (0 : Int) ≤ (th 18) ∧ (th 18) ≤ 18 := (b0_18 hT :); have ob38 : (0 : Int) ≤ (th 38) ∧ (th 38) ≤ 400 := (b0_38 hT :); have ob39 : (0 : Int) ≤ (th 39) ∧ (th 39) ≤ 200 := (b0_39 hT :); have ob44 : (0 : Int) ≤ (th 44) ∧ (th 44) ≤ 30 := (b0_44 hT :); have orn := rnd_b (th 10); obtain ⟨o0a, o0b⟩ := (hv8_22 : In _ _ _); obtain ⟨o1a, o1b⟩ := (hv15_22 : In _ _ _); obtain ⟨o2a, o2b⟩ := (hv17_22 : In _ _ _); obtain ⟨o3a, o3b⟩ := (hv20_22 : In _ _ _); obtain ⟨o4a, o4b⟩ := (hv23_22 : In _ _ _); obtain ⟨o5a, o5b⟩ := (hv25_22 : In _ _ _); obtain ⟨o6a, o6b⟩ := (hv36_22 : In _ _ _); obtain ⟨o7a, o7b⟩ := (hv47_22 : In _ _ _); obtain ⟨o8a, o8b⟩ := (hv48_22 : In _ _ _); obtain ⟨o9a, o9b⟩ := (hv53_22 : In _ _ _); obtain ⟨o10a, o10b⟩ := (hv55_22 : In _ _ _); omega)), rfl, hv15_22, hg15_22, hv17_22, hg17_22, hv20_22, hg20_22, hv23_22, hg23_22, hv25_22, hg25_22, hv36_22, hg36_22, hv47_22, hg47_22, hv48_22, hg48_22, hv53_22, hg53_22, hv55_22, hg55_22, hrel0_22⟩ (fun q hq => ((gset_ne (fun e => hq (by subst e; decide))).trans ((gset_ne (fun e => hq (by subst e; decide))).trans rfl)))
    have hT : TI g ad (gset (gset (gset (gset (gset (gset (gset (gset (gset (gset th 37 zz11) 40 zz12) 41 zz13) 42 zz14) 35 zz15) 30 zz16) 34 zz17) 43 zz18) 13 0) 10 v8_22.toInt) f27 := TI.cast hT (by funext q; by_cases hq0 : q = 10; (subst hq0; rfl); by_cases hq1 : q = 13; (subst hq1; rfl); by_cases hq2 : q = 43; (subst hq2; rfl); by_cases hq3 : q = 34; (subst hq3; rfl); by_cases hq4 : q = 30; (subst hq4; rfl); by_cases hq5 : q = 35; (subst hq5; rfl); by_cases hq6 : q = 42; (subst hq6; rfl); by_cases hq7 : q = 41; (subst hq7; rfl); by_cases hq8 : q = 40; (subst hq8; rfl); by_cases hq9 : q = 37; (subst hq9; rfl); simp only [gset, if_neg hq0, if_neg hq1, if_neg hq2, if_neg hq3, if_neg hq4, if_neg hq5, if_neg hq6, if_neg hq7, if_neg hq8, if_neg hq9])
    obtain ⟨rw31, hf32, hpn33, hpg34, hpn35, hpn36, hpn37, hpg38⟩ := hT.2.2 2 (by decide)
    have hin39 : vp_in 0 6 := In.inb (⟨by decide, by decide⟩ : In 0 0 0) (by decide) (by decide)
    refine pl_iald hx hb hG.1 hP (hst.1 257 (by decide)) 0 hf32 rfl hin39 dX11_council_34 ?_
    refine lv_topi (fun x40 ex40 => ?_)
    have hb41 : In x40 0 9 := by rw [ex40]; exact pinI (k := 0) (by decide) hpn33
    have hgl42 : x40.toInt = zz16 := by rw [ex40]; exact pinE (k := 0) (by decide) hpg34
    refine M0e hT (fun v0_43 v2_43 v3_43 v4_43 v5_43 v6_43 v8_43 v9_43 v12_43 v13_43 v14_43 v15_43 v16_43 v17_43 v18_43 v19_43 v20_43 v21_43 v22_43 v23_43 v25_43 v36_43 v37_43 v38_43 v39_43 v40_43 v45_43 v46_43 v47_43 v48_43 v50_43 v51_43 v53_43 v55_43 hf44 hv0_43 hv2_43 hg2_43 hv3_43 hg3_43 hv4_43 hg4_43 hv5_43 hg5_43 hv6_43 hg6_43 hv8_43 hg8_43 hv9_43 hg9_43 hv12_43 hv13_43 hg13_43 hv14_43 hg14_43 hv15_43 hg15_43 hv17_43 hg17_43 hv20_43 hg20_43 hv23_43 hg23_43 hv25_43 hg25_43 hv36_43 hg36_43 hv47_43 hg47_43 hv48_43 hg48_43 hv53_43 hg53_43 hv55_43 hg55_43 hrel0_43 => ?_)
    have hg15_43 : v15_43.toInt = th 11 := hg15_43
    have hg20_43 : v20_43.toInt = th 14 := hg20_43
    refine pl_put (ty := .int) (v := .int x40) (fs' := [.int v0_43, .ref (ad 256), .int v2_43, .int v3_43, .int v4_43, .int v5_43, .int v6_43, .ref (ad 257), .int v8_43, .int v9_43, .ref (ad 258), .ref (ad 259), .int v12_43, .int v13_43, .int v14_43, .int x40, .int v16_43, .int v17_43, .int v18_43, .int v19_43, .int v20_43, .long v21_43, .long v22_43, .int v23_43, .ref (ad 260), .int v25_43, .ref (ad 261), .ref (ad 262), .ref (ad 263), .ref (ad 264), .ref (ad 265), .ref (ad 266), .ref (ad 267), .ref (ad 268), .ref (ad 269), .ref (ad 270), .int v36_43, .int v37_43, .int v38_43, .int v39_43, .int v40_43, .ref (ad 271), .ref (ad 272), .ref (ad 273), .ref (ad 274), .long v45_43, .long v46_43, .int v47_43, .int v48_43, .ref (ad 275), .int v50_43, .int v51_43, .ref (ad 276), .int v53_43, .ref (ad 277), .int v55_43]) hx hb hts (fun w h => mT (inX11 w h)) tyX11 tyX11_ok nmX11 hown hG.1 hP hD hS (hst.1 255 (by decide)) hf44 rfl 15 (by decide) (hts _ (mT wg_1351)) (fun _ h => h) rfl (by decide +kernel) (rfl) (rfl) (Nat.le_of_ble_eq_true rfl) rfl dX11_council_35 (fun H locs f45 hf46 ho47 hP hD hS => ?_)
    have hf48 := (ho47 (ad 257) (hst.ne (by decide) (by decide) (by decide))).trans hf32
    have hfr : (∀ b, b ≠ (ad 255) → b ≠ (ad 271) → b ≠ (ad 257) → b ≠ (ad 261) → b ≠ (ad 262) → f45 b = f b) := fun b z0_ z1_ z2_ z3_ z4_ => (ho47 b z0_).trans (hfr b z0_ z1_ z2_ z3_ z4_)
    refine lv_aload_n hx hb dX11_council_38 rfl (lv_at hl 0 rfl) ?_
    refine lv_aload_n hx hb dX11_council_39 rfl (lv_at hl 0 rfl) ?_
    refine pl_get (v := .ref (ad 257)) hx hb hts (fun w h => mT (inX11 w h)) hown hG.1 hP (hst.1 255 (by decide)) hf46 rfl 7 (by decide) (hts _ (mT wg_1343)) (fun _ h => h) rfl dX11_council_40 ?_
    refine lv_iconst (v := 1) hx hb dX11_council_43 (by decide) ?_
    have hin49 : vp_in 1 6 := In.inb (⟨by decide, by decide⟩ : In 1 1 1) (by decide) (by decide)
    refine pl_iald hx hb hG.1 hP (hst.1 257 (by decide)) 0 hf48 rfl hin49 dX11_council_44 ?_
    refine lv_topi (fun x50 ex50 => ?_)
    have hb51 : In x50 0 4 := by rw [ex50]; exact pinI (k := 1) (by decide) hpn35
    refine pl_put (ty := .int) (v := .int x50) (fs' := [.int v0_43, .ref (ad 256), .int v2_43, .int v3_43, .int v4_43, .int v5_43, .int v6_43, .ref (ad 257), .int v8_43, .int v9_43, .ref (ad 258), .ref (ad 259), .int v12_43, .int v13_43, .int v14_43, .int x40, .int x50, .int v17_43, .int v18_43, .int v19_43, .int v20_43, .long v21_43, .long v22_43, .int v23_43, .ref (ad 260), .int v25_43, .ref (ad 261), .ref (ad 262), .ref (ad 263), .ref (ad 264), .ref (ad 265), .ref (ad 266), .ref (ad 267), .ref (ad 268), .ref (ad 269), .ref (ad 270), .int v36_43, .int v37_43, .int v38_43, .int v39_43, .int v40_43, .ref (ad 271), .ref (ad 272), .ref (ad 273), .ref (ad 274), .long v45_43, .long v46_43, .int v47_43, .int v48_43, .ref (ad 275), .int v50_43, .int v51_43, .ref (ad 276), .int v53_43, .ref (ad 277), .int v55_43]) hx hb hts (fun w h => mT (inX11 w h)) tyX11 tyX11_ok nmX11 hown hG.1 hP hD hS (hst.1 255 (by decide)) hf46 rfl 16 (by decide) (hts _ (mT wg_1352)) (fun _ h => h) rfl (by decide +kernel) (rfl) (rfl) (Nat.le_of_ble_eq_true rfl) rfl dX11_council_45 (fun H locs f52 hf53 ho54 hP hD hS => ?_)
    have hf55 := (ho54 (ad 257) (hst.ne (by decide) (by decide) (by decide))).trans hf48
    have ho56 : ∀ b, b ≠ (ad 255) → f52 b = _ := fun b hb => (ho54 b hb).trans (ho47 b hb)
    have hfr : (∀ b, b ≠ (ad 255) → b ≠ (ad 271) → b ≠ (ad 257) → b ≠ (ad 261) → b ≠ (ad 262) → f52 b = f b) := fun b z0_ z1_ z2_ z3_ z4_ => (ho54 b z0_).trans (hfr b z0_ z1_ z2_ z3_ z4_)
    refine lv_aload_n hx hb dX11_council_48 rfl (lv_at hl 0 rfl) ?_
    refine lv_aload_n hx hb dX11_council_49 rfl (lv_at hl 0 rfl) ?_
    refine pl_get (v := .ref (ad 257)) hx hb hts (fun w h => mT (inX11 w h)) hown hG.1 hP (hst.1 255 (by decide)) hf53 rfl 7 (by decide) (hts _ (mT wg_1343)) (fun _ h => h) rfl dX11_council_50 ?_
    refine lv_iconst (v := 2) hx hb dX11_council_53 (by decide) ?_
    have hin57 : vp_in 2 6 := In.inb (⟨by decide, by decide⟩ : In 2 2 2) (by decide) (by decide)
    refine pl_iald hx hb hG.1 hP (hst.1 257 (by decide)) 0 hf55 rfl hin57 dX11_council_54 ?_
    refine lv_topi (fun x58 ex58 => ?_)
    have hb59 : In x58 0 6 := by rw [ex58]; exact pinI (k := 2) (by decide) hpn36
    refine pl_put (ty := .int) (v := .int x58) (fs' := [.int v0_43, .ref (ad 256), .int v2_43, .int v3_43, .int v4_43, .int v5_43, .int v6_43, .ref (ad 257), .int v8_43, .int v9_43, .ref (ad 258), .ref (ad 259), .int v12_43, .int v13_43, .int v14_43, .int x40, .int x50, .int x58, .int v18_43, .int v19_43, .int v20_43, .long v21_43, .long v22_43, .int v23_43, .ref (ad 260), .int v25_43, .ref (ad 261), .ref (ad 262), .ref (ad 263), .ref (ad 264), .ref (ad 265), .ref (ad 266), .ref (ad 267), .ref (ad 268), .ref (ad 269), .ref (ad 270), .int v36_43, .int v37_43, .int v38_43, .int v39_43, .int v40_43, .ref (ad 271), .ref (ad 272), .ref (ad 273), .ref (ad 274), .long v45_43, .long v46_43, .int v47_43, .int v48_43, .ref (ad 275), .int v50_43, .int v51_43, .ref (ad 276), .int v53_43, .ref (ad 277), .int v55_43]) hx hb hts (fun w h => mT (inX11 w h)) tyX11 tyX11_ok nmX11 hown hG.1 hP hD hS (hst.1 255 (by decide)) hf53 rfl 17 (by decide) (hts _ (mT wg_1353)) (fun _ h => h) rfl (by decide +kernel) (rfl) (rfl) (Nat.le_of_ble_eq_true rfl) rfl dX11_council_55 (fun H locs f60 hf61 ho62 hP hD hS => ?_)
    have hf63 := (ho62 (ad 257) (hst.ne (by decide) (by decide) (by decide))).trans hf55
    have ho64 : ∀ b, b ≠ (ad 255) → f60 b = _ := fun b hb => (ho62 b hb).trans (ho56 b hb)
    have hfr : (∀ b, b ≠ (ad 255) → b ≠ (ad 271) → b ≠ (ad 257) → b ≠ (ad 261) → b ≠ (ad 262) → f60 b = f b) := fun b z0_ z1_ z2_ z3_ z4_ => (ho62 b z0_).trans (hfr b z0_ z1_ z2_ z3_ z4_)
    refine lv_aload_n hx hb dX11_council_58 rfl (lv_at hl 0 rfl) ?_
    refine lv_aload_n hx hb dX11_council_59 rfl (lv_at hl 0 rfl) ?_
    refine pl_get (v := .ref (ad 257)) hx hb hts (fun w h => mT (inX11 w h)) hown hG.1 hP (hst.1 255 (by decide)) hf61 rfl 7 (by decide) (hts _ (mT wg_1343)) (fun _ h => h) rfl dX11_council_60 ?_
    refine lv_iconst (v := 5) hx hb dX11_council_63 (by decide) ?_
    have hin65 : vp_in 5 6 := In.inb (⟨by decide, by decide⟩ : In 5 5 5) (by decide) (by decide)
    refine pl_iald hx hb hG.1 hP (hst.1 257 (by decide)) 0 hf63 rfl hin65 dX11_council_64 ?_
    refine lv_topi (fun x66 ex66 => ?_)
    refine pl_put (ty := .int) (v := .int x66) (fs' := [.int v0_43, .ref (ad 256), .int v2_43, .int v3_43, .int v4_43, .int v5_43, .int v6_43, .ref (ad 257), .int v8_43, .int v9_43, .ref (ad 258), .ref (ad 259), .int v12_43, .int v13_43, .int v14_43, .int x40, .int x50, .int x58, .int x66, .int v19_43, .int v20_43, .long v21_43, .long v22_43, .int v23_43, .ref (ad 260), .int v25_43, .ref (ad 261), .ref (ad 262), .ref (ad 263), .ref (ad 264), .ref (ad 265), .ref (ad 266), .ref (ad 267), .ref (ad 268), .ref (ad 269), .ref (ad 270), .int v36_43, .int v37_43, .int v38_43, .int v39_43, .int v40_43, .ref (ad 271), .ref (ad 272), .ref (ad 273), .ref (ad 274), .long v45_43, .long v46_43, .int v47_43, .int v48_43, .ref (ad 275), .int v50_43, .int v51_43, .ref (ad 276), .int v53_43, .ref (ad 277), .int v55_43]) hx hb hts (fun w h => mT (inX11 w h)) tyX11 tyX11_ok nmX11 hown hG.1 hP hD hS (hst.1 255 (by decide)) hf61 rfl 18 (by decide) (hts _ (mT wg_1354)) (fun _ h => h) rfl (by decide +kernel) (rfl) (rfl) (Nat.le_of_ble_eq_true rfl) rfl dX11_council_65 (fun H locs f67 hf68 ho69 hP hD hS => ?_)
    have hf70 := (ho69 (ad 257) (hst.ne (by decide) (by decide) (by decide))).trans hf63
    have ho71 : ∀ b, b ≠ (ad 255) → f67 b = _ := fun b hb => (ho69 b hb).trans (ho64 b hb)
    have hfr : (∀ b, b ≠ (ad 255) → b ≠ (ad 271) → b ≠ (ad 257) → b ≠ (ad 261) → b ≠ (ad 262) → f67 b = f b) := fun b z0_ z1_ z2_ z3_ z4_ => (ho69 b z0_).trans (hfr b z0_ z1_ z2_ z3_ z4_)
    refine lv_aload_n hx hb dX11_council_68 rfl (lv_at hl 0 rfl) ?_
    refine lv_aload_n hx hb dX11_council_69 rfl (lv_at hl 0 rfl) ?_
    refine pl_get (v := .ref (ad 257)) hx hb hts (fun w h => mT (inX11 w h)) hown hG.1 hP (hst.1 255 (by decide)) hf68 rfl 7 (by decide) (hts _ (mT wg_1343)) (fun _ h => h) rfl dX11_council_70 ?_
    refine lv_iconst (v := 3) hx hb dX11_council_73 (by decide) ?_
    have hin72 : vp_in 3 6 := In.inb (⟨by decide, by decide⟩ : In 3 3 3) (by decide) (by decide)
    refine pl_iald hx hb hG.1 hP (hst.1 257 (by decide)) 0 hf70 rfl hin72 dX11_council_74 ?_
    refine lv_topi (fun x73 ex73 => ?_)
    refine pl_put (ty := .int) (v := .int x73) (fs' := [.int v0_43, .ref (ad 256), .int v2_43, .int v3_43, .int v4_43, .int v5_43, .int v6_43, .ref (ad 257), .int v8_43, .int v9_43, .ref (ad 258), .ref (ad 259), .int v12_43, .int v13_43, .int v14_43, .int x40, .int x50, .int x58, .int x66, .int x73, .int v20_43, .long v21_43, .long v22_43, .int v23_43, .ref (ad 260), .int v25_43, .ref (ad 261), .ref (ad 262), .ref (ad 263), .ref (ad 264), .ref (ad 265), .ref (ad 266), .ref (ad 267), .ref (ad 268), .ref (ad 269), .ref (ad 270), .int v36_43, .int v37_43, .int v38_43, .int v39_43, .int v40_43, .ref (ad 271), .ref (ad 272), .ref (ad 273), .ref (ad 274), .long v45_43, .long v46_43, .int v47_43, .int v48_43, .ref (ad 275), .int v50_43, .int v51_43, .ref (ad 276), .int v53_43, .ref (ad 277), .int v55_43]) hx hb hts (fun w h => mT (inX11 w h)) tyX11 tyX11_ok nmX11 hown hG.1 hP hD hS (hst.1 255 (by decide)) hf68 rfl 19 (by decide) (hts _ (mT wg_1355)) (fun _ h => h) rfl (by decide +kernel) (rfl) (rfl) (Nat.le_of_ble_eq_true rfl) rfl dX11_council_75 (fun H locs f74 hf75 ho76 hP hD hS => ?_)
    have hf77 := (ho76 (ad 257) (hst.ne (by decide) (by decide) (by decide))).trans hf70
    have ho78 : ∀ b, b ≠ (ad 255) → f74 b = _ := fun b hb => (ho76 b hb).trans (ho71 b hb)
    have hfr : (∀ b, b ≠ (ad 255) → b ≠ (ad 271) → b ≠ (ad 257) → b ≠ (ad 261) → b ≠ (ad 262) → f74 b = f b) := fun b z0_ z1_ z2_ z3_ z4_ => (ho76 b z0_).trans (hfr b z0_ z1_ z2_ z3_ z4_)
    refine lv_aload_n hx hb dX11_council_78 rfl (lv_at hl 0 rfl) ?_
    refine lv_aload_n hx hb dX11_council_79 rfl (lv_at hl 0 rfl) ?_
    refine pl_get (v := .ref (ad 257)) hx hb hts (fun w h => mT (inX11 w h)) hown hG.1 hP (hst.1 255 (by decide)) hf75 rfl 7 (by decide) (hts _ (mT wg_1343)) (fun _ h => h) rfl dX11_council_80 ?_
    refine lv_iconst (v := 4) hx hb dX11_council_83 (by decide) ?_
    have hin79 : vp_in 4 6 := In.inb (⟨by decide, by decide⟩ : In 4 4 4) (by decide) (by decide)
    refine pl_iald hx hb hG.1 hP (hst.1 257 (by decide)) 0 hf77 rfl hin79 dX11_council_84 ?_
    refine lv_topi (fun x80 ex80 => ?_)
    have hb81 : In x80 0 511 := by rw [ex80]; exact pinI (k := 4) (by decide) hpn37
    have hgl82 : x80.toInt = zz17 := by rw [ex80]; exact pinE (k := 4) (by decide) hpg38
    refine pl_put (ty := .int) (v := .int x80) (fs' := [.int v0_43, .ref (ad 256), .int v2_43, .int v3_43, .int v4_43, .int v5_43, .int v6_43, .ref (ad 257), .int v8_43, .int v9_43, .ref (ad 258), .ref (ad 259), .int v12_43, .int v13_43, .int v14_43, .int x40, .int x50, .int x58, .int x66, .int x73, .int x80, .long v21_43, .long v22_43, .int v23_43, .ref (ad 260), .int v25_43, .ref (ad 261), .ref (ad 262), .ref (ad 263), .ref (ad 264), .ref (ad 265), .ref (ad 266), .ref (ad 267), .ref (ad 268), .ref (ad 269), .ref (ad 270), .int v36_43, .int v37_43, .int v38_43, .int v39_43, .int v40_43, .ref (ad 271), .ref (ad 272), .ref (ad 273), .ref (ad 274), .long v45_43, .long v46_43, .int v47_43, .int v48_43, .ref (ad 275), .int v50_43, .int v51_43, .ref (ad 276), .int v53_43, .ref (ad 277), .int v55_43]) hx hb hts (fun w h => mT (inX11 w h)) tyX11 tyX11_ok nmX11 hown hG.1 hP hD hS (hst.1 255 (by decide)) hf75 rfl 20 (by decide) (hts _ (mT wg_1356)) (fun _ h => h) rfl (by decide +kernel) (rfl) (rfl) (Nat.le_of_ble_eq_true rfl) rfl dX11_council_85 (fun H locs f83 hf84 ho85 hP hD hS => ?_)
    have hf86 := (ho85 (ad 257) (hst.ne (by decide) (by decide) (by decide))).trans hf77
    have ho87 : ∀ b, b ≠ (ad 255) → f83 b = _ := fun b hb => (ho85 b hb).trans (ho78 b hb)
    have hfr : (∀ b, b ≠ (ad 255) → b ≠ (ad 271) → b ≠ (ad 257) → b ≠ (ad 261) → b ≠ (ad 262) → f83 b = f b) := fun b z0_ z1_ z2_ z3_ z4_ => (ho85 b z0_).trans (hfr b z0_ z1_ z2_ z3_ z4_)
    refine lv_aload_n hx hb dX11_council_88 rfl (lv_at hl 0 rfl) ?_
    refine lv_lload_n hx hb dX11_council_89 rfl (lv_at hl 1 rfl) ?_
    refine pl_put (ty := .long) (v := .long z1) (fs' := [.int v0_43, .ref (ad 256), .int v2_43, .int v3_43, .int v4_43, .int v5_43, .int v6_43, .ref (ad 257), .int v8_43, .int v9_43, .ref (ad 258), .ref (ad 259), .int v12_43, .int v13_43, .int v14_43, .int x40, .int x50, .int x58, .int x66, .int x73, .int x80, .long z1, .long v22_43, .int v23_43, .ref (ad 260), .int v25_43, .ref (ad 261), .ref (ad 262), .ref (ad 263), .ref (ad 264), .ref (ad 265), .ref (ad 266), .ref (ad 267), .ref (ad 268), .ref (ad 269), .ref (ad 270), .int v36_43, .int v37_43, .int v38_43, .int v39_43, .int v40_43, .ref (ad 271), .ref (ad 272), .ref (ad 273), .ref (ad 274), .long v45_43, .long v46_43, .int v47_43, .int v48_43, .ref (ad 275), .int v50_43, .int v51_43, .ref (ad 276), .int v53_43, .ref (ad 277), .int v55_43]) hx hb hts (fun w h => mT (inX11 w h)) tyX11 tyX11_ok nmX11 hown hG.1 hP hD hS (hst.1 255 (by decide)) hf84 rfl 21 (by decide) (hts _ (mT wg_1357)) (fun _ h => h) rfl (by decide +kernel) (rfl) (rfl) (Nat.le_of_ble_eq_true rfl) rfl dX11_council_90 (fun H locs f88 hf89 ho90 hP hD hS => ?_)
    have hf91 := (ho90 (ad 257) (hst.ne (by decide) (by decide) (by decide))).trans hf86
    have ho92 : ∀ b, b ≠ (ad 255) → f88 b = _ := fun b hb => (ho90 b hb).trans (ho87 b hb)
    have hfr : (∀ b, b ≠ (ad 255) → b ≠ (ad 271) → b ≠ (ad 257) → b ≠ (ad 261) → b ≠ (ad 262) → f88 b = f b) := fun b z0_ z1_ z2_ z3_ z4_ => (ho90 b z0_).trans (hfr b z0_ z1_ z2_ z3_ z4_)
    refine lv_aload_n hx hb dX11_council_93 rfl (lv_at hl 0 rfl) ?_
    refine lv_iconst (v := 1) hx hb dX11_council_94 (by decide) ?_
    refine pl_put (ty := .boolean) (v := .int 1) (fs' := [.int v0_43, .ref (ad 256), .int v2_43, .int v3_43, .int v4_43, .int v5_43, .int v6_43, .ref (ad 257), .int v8_43, .int v9_43, .ref (ad 258), .ref (ad 259), .int v12_43, .int v13_43, .int v14_43, .int x40, .int x50, .int x58, .int x66, .int x73, .int x80, .long z1, .long v22_43, .int 1, .ref (ad 260), .int v25_43, .ref (ad 261), .ref (ad 262), .ref (ad 263), .ref (ad 264), .ref (ad 265), .ref (ad 266), .ref (ad 267), .ref (ad 268), .ref (ad 269), .ref (ad 270), .int v36_43, .int v37_43, .int v38_43, .int v39_43, .int v40_43, .ref (ad 271), .ref (ad 272), .ref (ad 273), .ref (ad 274), .long v45_43, .long v46_43, .int v47_43, .int v48_43, .ref (ad 275), .int v50_43, .int v51_43, .ref (ad 276), .int v53_43, .ref (ad 277), .int v55_43]) hx hb hts (fun w h => mT (inX11 w h)) tyX11 tyX11_ok nmX11 hown hG.1 hP hD hS (hst.1 255 (by decide)) hf89 rfl 23 (by decide) (hts _ (mT wg_1359)) (fun _ h => h) rfl (by decide +kernel) (rfl) (rfl) (Nat.le_of_ble_eq_true rfl) rfl dX11_council_95 (fun H locs f93 hf94 ho95 hP hD hS => ?_)
    have hf96 := (ho95 (ad 257) (hst.ne (by decide) (by decide) (by decide))).trans hf91
    have ho97 : ∀ b, b ≠ (ad 255) → f93 b = _ := fun b hb => (ho95 b hb).trans (ho92 b hb)
    have hfr : (∀ b, b ≠ (ad 255) → b ≠ (ad 271) → b ≠ (ad 257) → b ≠ (ad 261) → b ≠ (ad 262) → f93 b = f b) := fun b z0_ z1_ z2_ z3_ z4_ => (ho95 b z0_).trans (hfr b z0_ z1_ z2_ z3_ z4_)
    refine lv_aload_n hx hb dX11_council_98 rfl (lv_at hl 0 rfl) ?_
    refine lv_iconst (v := 0) hx hb dX11_council_99 (by decide) ?_
    refine pl_put (ty := .int) (v := .int 0) (fs' := [.int v0_43, .ref (ad 256), .int v2_43, .int v3_43, .int v4_43, .int v5_43, .int v6_43, .ref (ad 257), .int v8_43, .int v9_43, .ref (ad 258), .ref (ad 259), .int v12_43, .int v13_43, .int v14_43, .int x40, .int x50, .int x58, .int x66, .int x73, .int x80, .long z1, .long v22_43, .int 1, .ref (ad 260), .int 0, .ref (ad 261), .ref (ad 262), .ref (ad 263), .ref (ad 264), .ref (ad 265), .ref (ad 266), .ref (ad 267), .ref (ad 268), .ref (ad 269), .ref (ad 270), .int v36_43, .int v37_43, .int v38_43, .int v39_43, .int v40_43, .ref (ad 271), .ref (ad 272), .ref (ad 273), .ref (ad 274), .long v45_43, .long v46_43, .int v47_43, .int v48_43, .ref (ad 275), .int v50_43, .int v51_43, .ref (ad 276), .int v53_43, .ref (ad 277), .int v55_43]) hx hb hts (fun w h => mT (inX11 w h)) tyX11 tyX11_ok nmX11 hown hG.1 hP hD hS (hst.1 255 (by decide)) hf94 rfl 25 (by decide) (hts _ (mT wg_1361)) (fun _ h => h) rfl (by decide +kernel) (rfl) (rfl) (Nat.le_of_ble_eq_true rfl) rfl dX11_council_100 (fun H locs f98 hf99 ho100 hP hD hS => ?_)
    have hf101 := (ho100 (ad 257) (hst.ne (by decide) (by decide) (by decide))).trans hf96
    have ho102 : ∀ b, b ≠ (ad 255) → f98 b = _ := fun b hb => (ho100 b hb).trans (ho97 b hb)
    have hfr : (∀ b, b ≠ (ad 255) → b ≠ (ad 271) → b ≠ (ad 257) → b ≠ (ad 261) → b ≠ (ad 262) → f98 b = f b) := fun b z0_ z1_ z2_ z3_ z4_ => (ho100 b z0_).trans (hfr b z0_ z1_ z2_ z3_ z4_)
    refine lv_aload_n hx hb dX11_council_103 rfl (lv_at hl 0 rfl) ?_
    refine lv_iconst (v := 0) hx hb dX11_council_104 (by decide) ?_
    refine pl_put (ty := .int) (v := .int 0) (fs' := [.int v0_43, .ref (ad 256), .int v2_43, .int v3_43, .int v4_43, .int v5_43, .int v6_43, .ref (ad 257), .int v8_43, .int v9_43, .ref (ad 258), .ref (ad 259), .int v12_43, .int v13_43, .int v14_43, .int x40, .int x50, .int x58, .int x66, .int x73, .int x80, .long z1, .long v22_43, .int 1, .ref (ad 260), .int 0, .ref (ad 261), .ref (ad 262), .ref (ad 263), .ref (ad 264), .ref (ad 265), .ref (ad 266), .ref (ad 267), .ref (ad 268), .ref (ad 269), .ref (ad 270), .int v36_43, .int v37_43, .int v38_43, .int v39_43, .int v40_43, .ref (ad 271), .ref (ad 272), .ref (ad 273), .ref (ad 274), .long v45_43, .long v46_43, .int 0, .int v48_43, .ref (ad 275), .int v50_43, .int v51_43, .ref (ad 276), .int v53_43, .ref (ad 277), .int v55_43]) hx hb hts (fun w h => mT (inX11 w h)) tyX11 tyX11_ok nmX11 hown hG.1 hP hD hS (hst.1 255 (by decide)) hf99 rfl 47 (by decide) (hts _ (mT wg_1383)) (fun _ h => h) rfl (by decide +kernel) (rfl) (rfl) (Nat.le_of_ble_eq_true rfl) rfl dX11_council_105 (fun H locs f103 hf104 ho105 hP hD hS => ?_)
    have hf106 := (ho105 (ad 257) (hst.ne (by decide) (by decide) (by decide))).trans hf101
    have ho107 : ∀ b, b ≠ (ad 255) → f103 b = _ := fun b hb => (ho105 b hb).trans (ho102 b hb)
    have hfr : (∀ b, b ≠ (ad 255) → b ≠ (ad 271) → b ≠ (ad 257) → b ≠ (ad 261) → b ≠ (ad 262) → f103 b = f b) := fun b z0_ z1_ z2_ z3_ z4_ => (ho105 b z0_).trans (hfr b z0_ z1_ z2_ z3_ z4_)
    refine lv_aload_n hx hb dX11_council_108 rfl (lv_at hl 0 rfl) ?_
    refine lv_iconst (v := 0) hx hb dX11_council_109 (by decide) ?_
    refine pl_put (ty := .boolean) (v := .int 0) (fs' := [.int v0_43, .ref (ad 256), .int v2_43, .int v3_43, .int v4_43, .int v5_43, .int v6_43, .ref (ad 257), .int v8_43, .int v9_43, .ref (ad 258), .ref (ad 259), .int v12_43, .int v13_43, .int v14_43, .int x40, .int x50, .int x58, .int x66, .int x73, .int x80, .long z1, .long v22_43, .int 1, .ref (ad 260), .int 0, .ref (ad 261), .ref (ad 262), .ref (ad 263), .ref (ad 264), .ref (ad 265), .ref (ad 266), .ref (ad 267), .ref (ad 268), .ref (ad 269), .ref (ad 270), .int v36_43, .int v37_43, .int v38_43, .int v39_43, .int v40_43, .ref (ad 271), .ref (ad 272), .ref (ad 273), .ref (ad 274), .long v45_43, .long v46_43, .int 0, .int 0, .ref (ad 275), .int v50_43, .int v51_43, .ref (ad 276), .int v53_43, .ref (ad 277), .int v55_43]) hx hb hts (fun w h => mT (inX11 w h)) tyX11 tyX11_ok nmX11 hown hG.1 hP hD hS (hst.1 255 (by decide)) hf104 rfl 48 (by decide) (hts _ (mT wg_1384)) (fun _ h => h) rfl (by decide +kernel) (rfl) (rfl) (Nat.le_of_ble_eq_true rfl) rfl dX11_council_110 (fun H locs f108 hf109 ho110 hP hD hS => ?_)
    have hf111 := (ho110 (ad 257) (hst.ne (by decide) (by decide) (by decide))).trans hf106
    have ho112 : ∀ b, b ≠ (ad 255) → f108 b = _ := fun b hb => (ho110 b hb).trans (ho107 b hb)
    have hfr : (∀ b, b ≠ (ad 255) → b ≠ (ad 271) → b ≠ (ad 257) → b ≠ (ad 261) → b ≠ (ad 262) → f108 b = f b) := fun b z0_ z1_ z2_ z3_ z4_ => (ho110 b z0_).trans (hfr b z0_ z1_ z2_ z3_ z4_)
    refine lv_aload_n hx hb dX11_council_113 rfl (lv_at hl 0 rfl) ?_
    have hT := TI.updMG (th' := (gset (gset (gset (gset (gset (gset (gset (gset (gset (gset (gset (gset (gset (gset (gset (gset (gset th 37 zz11) 40 zz12) 41 zz13) 42 zz14) 35 zz15) 30 zz16) 34 zz17) 43 zz18) 13 0) 10 v8_22.toInt) 11 (x40.toInt)) 12 (x58.toInt)) 14 (x80.toInt)) 15 (1)) 44 (0)) 16 (0)) 17 (0))) hT hst (k := 0) (by decide) hf109 ho112 ⟨v0_43, v2_43, v3_43, v4_43, v5_43, v6_43, v8_43, v9_43, v12_43, v13_43, v14_43, x40, x50, x58, x66, x73, x80, z1, v22_43, 1, 0, v36_43, v37_43, v38_43, v39_43, v40_43, v45_43, v46_43, 0, 0, v50_43, v51_43, v53_43, v55_43, rfl, hv0_43, hv2_43, hg2_43, hv3_43, hg3_43, hv4_43, hg4_43, hv5_43, hg5_43, hv6_43, hg6_43, hv8_43, hg8_43, hv9_43, hg9_43, hv12_43, hv13_43, hg13_43, hv14_43, hg14_43, hb41, rfl, hb59, rfl, hb81, rfl, (⟨by decide, by decide⟩ : In 1 0 1), (show (1 : Int32).toInt = 1 by decide), (⟨by decide, by decide⟩ : In 0 0 30), (show (0 : Int32).toInt = 0 by decide), hv36_43, hg36_43, (⟨by decide, by decide⟩ : In 0 0 20), (show (0 : Int32).toInt = 0 by decide), (⟨by decide, by decide⟩ : In 0 0 1), (show (0 : Int32).toInt = 0 by decide), hv53_43, hg53_43, hv55_43, hg55_43, (by rw [hgl82, hgl42]; exact hdip.2.2.2.2.1)⟩ (fun q hq => ((gset_ne (fun e => hq (by subst e; decide))).trans ((gset_ne (fun e => hq (by subst e; decide))).trans ((gset_ne (fun e => hq (by subst e; decide))).trans ((gset_ne (fun e => hq (by subst e; decide))).trans ((gset_ne (fun e => hq (by subst e; decide))).trans ((gset_ne (fun e => hq (by subst e; decide))).trans ((gset_ne (fun e => hq (by subst e; decide))).trans rfl))))))))
    have hT : TI g ad (gset (gset (gset (gset (gset (gset (gset (gset (gset (gset (gset (gset (gset (gset (gset (gset (gset th 37 zz11) 40 zz12) 41 zz13) 42 zz14) 35 zz15) 30 zz16) 34 zz17) 43 zz18) 13 0) 10 v8_22.toInt) 11 x40.toInt) 12 x58.toInt) 14 x80.toInt) 15 1) 44 0) 16 0) 17 0) f108 := TI.cast hT (by funext q; by_cases hq0 : q = 17; (subst hq0; rfl); by_cases hq1 : q = 16; (subst hq1; rfl); by_cases hq2 : q = 44; (subst hq2; rfl); by_cases hq3 : q = 15; (subst hq3; rfl); by_cases hq4 : q = 14; (subst hq4; rfl); by_cases hq5 : q = 12; (subst hq5; rfl); by_cases hq6 : q = 11; (subst hq6; rfl); by_cases hq7 : q = 10; (subst hq7; rfl); by_cases hq8 : q = 13; (subst hq8; rfl); by_cases hq9 : q = 43; (subst hq9; rfl); by_cases hq10 : q = 34; (subst hq10; rfl); by_cases hq11 : q = 30; (subst hq11; rfl); by_cases hq12 : q = 35; (subst hq12; rfl); by_cases hq13 : q = 42; (subst hq13; rfl); by_cases hq14 : q = 41; (subst hq14; rfl); by_cases hq15 : q = 40; (subst hq15; rfl); by_cases hq16 : q = 37; (subst hq16; rfl); simp only [gset, if_neg hq0, if_neg hq1, if_neg hq2, if_neg hq3, if_neg hq4, if_neg hq5, if_neg hq6, if_neg hq7, if_neg hq8, if_neg hq9, if_neg hq10, if_neg hq11, if_neg hq12, if_neg hq13, if_neg hq14, if_neg hq15, if_neg hq16])
    have hT := TI.w24 (z := 0) (TI.w23 (TI.w22 hT)) (show (0 : Int) ≤ th 24 by omega)
    have hT := TI.n2021 (a := (x58.toInt * rnd (v8_22.toInt))) (b := x40.toInt) hT (show (0 : Int) ≤ 0 by decide) (show (0 : Int) ≤ 0 by decide) (show (0 : Int) ≤ 0 by decide)
    have hc20 : 0 ≤ x58.toInt * rnd (v8_22.toInt) := cn20 (Int.le_trans (by decide) hb59.1)
    refine M0e hT (fun v0_113 v2_113 v3_113 v4_113 v5_113 v6_113 v8_113 v9_113 v12_113 v13_113 v14_113 v15_113 v16_113 v17_113 v18_113 v19_113 v20_113 v21_113 v22_113 v23_113 v25_113 v36_113 v37_113 v38_113 v39_113 v40_113 v45_113 v46_113 v47_113 v48_113 v50_113 v51_113 v53_113 v55_113 hf114 hv0_113 hv2_113 hg2_113 hv3_113 hg3_113 hv4_113 hg4_113 hv5_113 hg5_113 hv6_113 hg6_113 hv8_113 hg8_113 hv9_113 hg9_113 hv12_113 hv13_113 hg13_113 hv14_113 hg14_113 hv15_113 hg15_113 hv17_113 hg17_113 hv20_113 hg20_113 hv23_113 hg23_113 hv25_113 hg25_113 hv36_113 hg36_113 hv47_113 hg47_113 hv48_113 hg48_113 hv53_113 hg53_113 hv55_113 hg55_113 hrel0_113 => ?_)
    have hg15_113 : v15_113.toInt = x40.toInt := hg15_113
    have hg20_113 : v20_113.toInt = x80.toInt := hg20_113
    refine call_v (run_V (rm := rm_X11_begins) hx hb hml hown hts (s_X11_begins l g ad (gset (gset (gset (gset (gset (gset (gset (gset (gset (gset (gset (gset (gset (gset (gset (gset (gset (gset (gset (gset (gset (gset th 37 zz11) 40 zz12) 41 zz13) 42 zz14) 35 zz15) 30 zz16) 34 zz17) 43 zz18) 13 0) 10 v8_22.toInt) 11 x40.toInt) 12 x58.toInt) 14 x80.toInt) 15 1) 44 0) 16 0) 17 0) 22 0) 23 0) 24 0) 20 (x58.toInt * rnd (v8_22.toInt))) 21 x40.toInt) _ _ _  hst hT (show 0 ≤ (x58.toInt * rnd (v8_22.toInt)) from (by have ob10 : (0 : Int) ≤ v8_22.toInt ∧ v8_22.toInt ≤ 1 := (b0_10 hT :); have ob11 : (0 : Int) ≤ x40.toInt ∧ x40.toInt ≤ 9 := (b0_11 hT :); have ob12 : (0 : Int) ≤ x58.toInt ∧ x58.toInt ≤ 6 := (b0_12 hT :); have ob14 : (0 : Int) ≤ x80.toInt ∧ x80.toInt ≤ 511 := (b0_14 hT :); have ob15 : (0 : Int) ≤ (1 : Int) ∧ (1 : Int) ≤ 1 := (b0_15 hT :); have ob16 : (0 : Int) ≤ (0 : Int) ∧ (0 : Int) ≤ 20 := (b0_16 hT :); have ob17 : (0 : Int) ≤ (0 : Int) ∧ (0 : Int) ≤ 1 := (b0_17 hT :); have ob18 : (0 : Int) ≤ (th 18) ∧ (th 18) ≤ 18 := (b0_18 hT :); have ob38 : (0 : Int) ≤ (th 38) ∧ (th 38) ≤ 400 := (b0_38 hT :); have ob39 : (0 : Int) ≤ (th 39) ∧ (th 39) ≤ 200 := (b0_39 hT :); have ob44 : (0 : Int) ≤ (0 : Int) ∧ (0 : Int) ≤ 30 := (b0_44 hT :); have orn := rnd_b v8_22.toInt; obtain ⟨o0a, o0b⟩ := (hv14_113 : In _ _ _); obtain ⟨o1a, o1b⟩ := (hv15_113 : In _ _ _); obtain ⟨o2a, o2b⟩ := (hv17_113 : In _ _ _); obtain ⟨o3a, o3b⟩ := (hv20_113 : In _ _ _); obtain ⟨o4a, o4b⟩ := (hv23_113 : In _ _ _); obtain ⟨o5a, o5b⟩ := (hv25_113 : In _ _ _); obtain ⟨o6a, o6b⟩ := (hv36_113 : In _ _ _); obtain ⟨o7a, o7b⟩ := (hv47_113 : In _ _ _); obtain ⟨o8a, o8b⟩ := (hv48_113 : In _ _ _); obtain ⟨o9a, o9b⟩ := (hv53_113 : In _ _ _); obtain ⟨o10a, o10b⟩ := (hv55_113 : In _ _ _); omega)) (show x40.toInt = x40.toInt from (by have ob10 : (0 : Int) ≤ v8_22.toInt ∧ v8_22.toInt ≤ 1 := (b0_10 hT :); have ob11 : (0 : Int) ≤ x40.toInt ∧ x40.toInt ≤ 9 := (b0_11 hT :); have ob12 : (0 : Int) ≤ x58.toInt ∧ x58.toInt ≤ 6 := (b0_12 hT :); have ob14 : (0 : Int) ≤ x80.toInt ∧ x80.toInt ≤ 511 := (b0_14 hT :); have ob15 : (0 : Int) ≤ (1 : Int) ∧ (1 : Int) ≤ 1 := (b0_15 hT :); have ob16 : (0 : Int) ≤ (0 : Int) ∧ (0 : Int) ≤ 20 := (b0_16 hT :); have ob17 : (0 : Int) ≤ (0 : Int) ∧ (0 : Int) ≤ 1 := (b0_17 hT :); have ob18 : (0 : Int) ≤ (th 18) ∧ (th 18) ≤ 18 := (b0_18 hT :); have ob38 : (0 : Int) ≤ (th 38) ∧ (th 38) ≤ 400 := (b0_38 hT :); have ob39 : (0 : Int) ≤ (th 39) ∧ (th 39) ≤ 200 := (b0_39 hT :); have ob44 : (0 : Int) ≤ (0 : Int) ∧ (0 : Int) ≤ 30 := (b0_44 hT :); have orn := rnd_b v8_22.toInt; obtain ⟨o0a, o0b⟩ := (hv14_113 : In _ _ _); obtain ⟨o1a, o1b⟩ := (hv15_113 : In _ _ _); obtain ⟨o2a, o2b⟩ := (hv17_113 : In _ _ _); obtain ⟨o3a, o3b⟩ := (hv20_113 : In _ _ _); obtain ⟨o4a, o4b⟩ := (hv23_113 : In _ _ _); obtain ⟨o5a, o5b⟩ := (hv25_113 : In _ _ _); obtain ⟨o6a, o6b⟩ := (hv36_113 : In _ _ _); obtain ⟨o7a, o7b⟩ := (hv47_113 : In _ _ _); obtain ⟨o8a, o8b⟩ := (hv48_113 : In _ _ _); obtain ⟨o9a, o9b⟩ := (hv53_113 : In _ _ _); obtain ⟨o10a, o10b⟩ := (hv55_113 : In _ _ _); omega))) cV_X11_begins wg_1612 ⟨Nat.le_of_ble_eq_true rfl, Nat.le_of_ble_eq_true rfl⟩ hG hE hA hP hD hS (hst.1 255 (by decide)) hf114 rfl rfl hl.1 (As := []) (rest := []) rfl (Nat.le_of_ble_eq_true rfl) dX11_council_114 ⟨Nat.le_of_ble_eq_true rfl, Nat.le_of_ble_eq_true rfl⟩) hA hD hS (fun L116 f117 H locs hp118 hP hD hS => ?_)
    obtain ⟨eL119L, eL119T, eL119F⟩ := hp118
    have eL119L : L116 = L := eL119L
    rw [eL119L] at hP hD
    obtain ⟨zz120, zz121, zz122, hzz120, eL119T⟩ := eL119T
    have hzz120 : zz120 = 0 ∧ zz121 = 0 ∧ zz122 = 2126 := hzz120
    have hT : TI g ad (gset (gset (gset (gset (gset (gset (gset (gset (gset (gset (gset (gset (gset (gset (gset (gset (gset (gset (gset (gset (gset (gset (gset (gset (gset th 37 zz11) 40 zz12) 41 zz13) 42 zz14) 35 zz15) 30 zz16) 34 zz17) 43 zz18) 13 0) 10 v8_22.toInt) 11 x40.toInt) 12 x58.toInt) 14 x80.toInt) 15 1) 44 0) 16 0) 17 0) 22 0) 23 0) 24 0) 20 (x58.toInt * rnd (v8_22.toInt))) 21 x40.toInt) 18 zz120) 19 zz121) 22 zz122) f117 := eL119T
    have hT : TI g ad (gset (gset (gset (gset (gset (gset (gset (gset (gset (gset (gset (gset (gset (gset (gset (gset (gset (gset (gset (gset (gset (gset (gset (gset th 37 zz11) 40 zz12) 41 zz13) 42 zz14) 35 zz15) 30 zz16) 34 zz17) 43 zz18) 13 0) 10 v8_22.toInt) 11 x40.toInt) 12 x58.toInt) 14 x80.toInt) 15 1) 44 0) 16 0) 17 0) 23 0) 24 0) 20 (x58.toInt * rnd (v8_22.toInt))) 21 x40.toInt) 18 zz120) 19 zz121) 22 zz122) f117 := TI.cast hT (by funext q; by_cases hq0 : q = 22; (subst hq0; rfl); by_cases hq1 : q = 19; (subst hq1; rfl); by_cases hq2 : q = 18; (subst hq2; rfl); by_cases hq3 : q = 21; (subst hq3; rfl); by_cases hq4 : q = 20; (subst hq4; rfl); by_cases hq5 : q = 24; (subst hq5; rfl); by_cases hq6 : q = 23; (subst hq6; rfl); by_cases hq7 : q = 17; (subst hq7; rfl); by_cases hq8 : q = 16; (subst hq8; rfl); by_cases hq9 : q = 44; (subst hq9; rfl); by_cases hq10 : q = 15; (subst hq10; rfl); by_cases hq11 : q = 14; (subst hq11; rfl); by_cases hq12 : q = 12; (subst hq12; rfl); by_cases hq13 : q = 11; (subst hq13; rfl); by_cases hq14 : q = 10; (subst hq14; rfl); by_cases hq15 : q = 13; (subst hq15; rfl); by_cases hq16 : q = 43; (subst hq16; rfl); by_cases hq17 : q = 34; (subst hq17; rfl); by_cases hq18 : q = 30; (subst hq18; rfl); by_cases hq19 : q = 35; (subst hq19; rfl); by_cases hq20 : q = 42; (subst hq20; rfl); by_cases hq21 : q = 41; (subst hq21; rfl); by_cases hq22 : q = 40; (subst hq22; rfl); by_cases hq23 : q = 37; (subst hq23; rfl); simp only [gset, if_neg hq0, if_neg hq1, if_neg hq2, if_neg hq3, if_neg hq4, if_neg hq5, if_neg hq6, if_neg hq7, if_neg hq8, if_neg hq9, if_neg hq10, if_neg hq11, if_neg hq12, if_neg hq13, if_neg hq14, if_neg hq15, if_neg hq16, if_neg hq17, if_neg hq18, if_neg hq19, if_neg hq20, if_neg hq21, if_neg hq22, if_neg hq23])
    have eL119F : ∀ b, b ≠ (ad 255) → b ≠ (ad 271) → b ≠ (ad 261) → b ≠ (ad 262) → f117 b = f108 b := eL119F
    have hfr : (∀ b, b ≠ (ad 255) → b ≠ (ad 271) → b ≠ (ad 257) → b ≠ (ad 261) → b ≠ (ad 262) → f117 b = f b) := fun b z0_ z1_ z2_ z3_ z4_ => (eL119F b z0_ z1_ z3_ z4_).trans (hfr b z0_ z1_ z2_ z3_ z4_)
    refine lv_aload_n hx hb dX11_council_117 rfl (lv_at hl 0 rfl) ?_
    refine M0e hT (fun v0_123 v2_123 v3_123 v4_123 v5_123 v6_123 v8_123 v9_123 v12_123 v13_123 v14_123 v15_123 v16_123 v17_123 v18_123 v19_123 v20_123 v21_123 v22_123 v23_123 v25_123 v36_123 v37_123 v38_123 v39_123 v40_123 v45_123 v46_123 v47_123 v48_123 v50_123 v51_123 v53_123 v55_123 hf124 hv0_123 hv2_123 hg2_123 hv3_123 hg3_123 hv4_123 hg4_123 hv5_123 hg5_123 hv6_123 hg6_123 hv8_123 hg8_123 hv9_123 hg9_123 hv12_123 hv13_123 hg13_123 hv14_123 hg14_123 hv15_123 hg15_123 hv17_123 hg17_123 hv20_123 hg20_123 hv23_123 hg23_123 hv25_123 hg25_123 hv36_123 hg36_123 hv47_123 hg47_123 hv48_123 hg48_123 hv53_123 hg53_123 hv55_123 hg55_123 hrel0_123 => ?_)
    have hg15_123 : v15_123.toInt = x40.toInt := hg15_123
    have hg20_123 : v20_123.toInt = x80.toInt := hg20_123
    refine pl_get (v := .int v15_123) hx hb hts (fun w h => mT (inX11 w h)) hown hG.1 hP (hst.1 255 (by decide)) hf124 rfl 15 (by decide) (hts _ (mT wg_1351)) (fun _ h => h) rfl dX11_council_118 ?_
    exact ret_i (ty := .int) hx hb hr hlocks (rfl) hP hD hS (Nat.le_of_ble_eq_true rfl) (Nat.le_of_ble_eq_true rfl) (⟨rfl, ⟨(gset (gset (gset (gset (gset (gset (gset (gset (gset (gset (gset (gset (gset (gset (gset (gset (gset (gset (gset (gset (gset (gset (gset (gset th 37 zz11) 40 zz12) 41 zz13) 42 zz14) 35 zz15) 30 zz16) 34 zz17) 43 zz18) 13 0) 10 v8_22.toInt) 11 x40.toInt) 12 x58.toInt) 14 x80.toInt) 15 1) 44 0) 16 0) 17 0) 23 0) 24 0) 20 (x58.toInt * rnd (v8_22.toInt))) 21 x40.toInt) 18 zz120) 19 zz121) 22 zz122), ⟨(show MI (gset (gset (gset (gset (gset (gset (gset (gset (gset (gset (gset (gset (gset (gset (gset (gset (gset (gset (gset (gset (gset (gset (gset (gset th 37 zz11) 40 zz12) 41 zz13) 42 zz14) 35 zz15) 30 zz16) 34 zz17) 43 zz18) 13 0) 10 v8_22.toInt) 11 x40.toInt) 12 x58.toInt) 14 x80.toInt) 15 1) 44 0) 16 0) 17 0) 23 0) 24 0) 20 (x58.toInt * rnd (v8_22.toInt))) 21 x40.toInt) 18 zz120) 19 zz121) 22 zz122) from ⟨(show (1 : Int) = 0 ∨ 3 ≤ x40.toInt from (by have ob10 : (0 : Int) ≤ v8_22.toInt ∧ v8_22.toInt ≤ 1 := (b0_10 hT :); have ob11 : (0 : Int) ≤ x40.toInt ∧ x40.toInt ≤ 9 := (b0_11 hT :); have ob12 : (0 : Int) ≤ x58.toInt ∧ x58.toInt ≤ 6 := (b0_12 hT :); have ob14 : (0 : Int) ≤ x80.toInt ∧ x80.toInt ≤ 511 := (b0_14 hT :); have ob15 : (0 : Int) ≤ (1 : Int) ∧ (1 : Int) ≤ 1 := (b0_15 hT :); have ob16 : (0 : Int) ≤ (0 : Int) ∧ (0 : Int) ≤ 20 := (b0_16 hT :); have ob17 : (0 : Int) ≤ (0 : Int) ∧ (0 : Int) ≤ 1 := (b0_17 hT :); have ob18 : (0 : Int) ≤ zz120 ∧ zz120 ≤ 18 := (b0_18 hT :); have ob38 : (0 : Int) ≤ (th 38) ∧ (th 38) ≤ 400 := (b0_38 hT :); have ob39 : (0 : Int) ≤ (th 39) ∧ (th 39) ≤ 200 := (b0_39 hT :); have ob44 : (0 : Int) ≤ (0 : Int) ∧ (0 : Int) ≤ 30 := (b0_44 hT :); have orn := rnd_b v8_22.toInt; obtain ⟨o0a, o0b⟩ := (hv14_123 : In _ _ _); obtain ⟨o1a, o1b⟩ := (hv15_123 : In _ _ _); obtain ⟨o2a, o2b⟩ := (hv17_123 : In _ _ _); obtain ⟨o3a, o3b⟩ := (hv20_123 : In _ _ _); obtain ⟨o4a, o4b⟩ := (hv23_123 : In _ _ _); obtain ⟨o5a, o5b⟩ := (hv25_123 : In _ _ _); obtain ⟨o6a, o6b⟩ := (hv36_123 : In _ _ _); obtain ⟨o7a, o7b⟩ := (hv47_123 : In _ _ _); obtain ⟨o8a, o8b⟩ := (hv48_123 : In _ _ _); obtain ⟨o9a, o9b⟩ := (hv53_123 : In _ _ _); obtain ⟨o10a, o10b⟩ := (hv55_123 : In _ _ _); omega)), (show 0 ≤ x58.toInt ∧ x58.toInt ≤ 6 from (by have ob10 : (0 : Int) ≤ v8_22.toInt ∧ v8_22.toInt ≤ 1 := (b0_10 hT :); have ob11 : (0 : Int) ≤ x40.toInt ∧ x40.toInt ≤ 9 := (b0_11 hT :); have ob12 : (0 : Int) ≤ x58.toInt ∧ x58.toInt ≤ 6 := (b0_12 hT :); have ob14 : (0 : Int) ≤ x80.toInt ∧ x80.toInt ≤ 511 := (b0_14 hT :); have ob15 : (0 : Int) ≤ (1 : Int) ∧ (1 : Int) ≤ 1 := (b0_15 hT :); have ob16 : (0 : Int) ≤ (0 : Int) ∧ (0 : Int) ≤ 20 := (b0_16 hT :); have ob17 : (0 : Int) ≤ (0 : Int) ∧ (0 : Int) ≤ 1 := (b0_17 hT :); have ob18 : (0 : Int) ≤ zz120 ∧ zz120 ≤ 18 := (b0_18 hT :); have ob38 : (0 : Int) ≤ (th 38) ∧ (th 38) ≤ 400 := (b0_38 hT :); have ob39 : (0 : Int) ≤ (th 39) ∧ (th 39) ≤ 200 := (b0_39 hT :); have ob44 : (0 : Int) ≤ (0 : Int) ∧ (0 : Int) ≤ 30 := (b0_44 hT :); have orn := rnd_b v8_22.toInt; obtain ⟨o0a, o0b⟩ := (hv14_123 : In _ _ _); obtain ⟨o1a, o1b⟩ := (hv15_123 : In _ _ _); obtain ⟨o2a, o2b⟩ := (hv17_123 : In _ _ _); obtain ⟨o3a, o3b⟩ := (hv20_123 : In _ _ _); obtain ⟨o4a, o4b⟩ := (hv23_123 : In _ _ _); obtain ⟨o5a, o5b⟩ := (hv25_123 : In _ _ _); obtain ⟨o6a, o6b⟩ := (hv36_123 : In _ _ _); obtain ⟨o7a, o7b⟩ := (hv47_123 : In _ _ _); obtain ⟨o8a, o8b⟩ := (hv48_123 : In _ _ _); obtain ⟨o9a, o9b⟩ := (hv53_123 : In _ _ _); obtain ⟨o10a, o10b⟩ := (hv55_123 : In _ _ _); omega)), (show x58.toInt * rnd (v8_22.toInt) = x58.toInt * rnd (v8_22.toInt) from rfl), (show x40.toInt = x40.toInt from (by have ob10 : (0 : Int) ≤ v8_22.toInt ∧ v8_22.toInt ≤ 1 := (b0_10 hT :); have ob11 : (0 : Int) ≤ x40.toInt ∧ x40.toInt ≤ 9 := (b0_11 hT :); have ob12 : (0 : Int) ≤ x58.toInt ∧ x58.toInt ≤ 6 := (b0_12 hT :); have ob14 : (0 : Int) ≤ x80.toInt ∧ x80.toInt ≤ 511 := (b0_14 hT :); have ob15 : (0 : Int) ≤ (1 : Int) ∧ (1 : Int) ≤ 1 := (b0_15 hT :); have ob16 : (0 : Int) ≤ (0 : Int) ∧ (0 : Int) ≤ 20 := (b0_16 hT :); have ob17 : (0 : Int) ≤ (0 : Int) ∧ (0 : Int) ≤ 1 := (b0_17 hT :); have ob18 : (0 : Int) ≤ zz120 ∧ zz120 ≤ 18 := (b0_18 hT :); have ob38 : (0 : Int) ≤ (th 38) ∧ (th 38) ≤ 400 := (b0_38 hT :); have ob39 : (0 : Int) ≤ (th 39) ∧ (th 39) ≤ 200 := (b0_39 hT :); have ob44 : (0 : Int) ≤ (0 : Int) ∧ (0 : Int) ≤ 30 := (b0_44 hT :); have orn := rnd_b v8_22.toInt; obtain ⟨o0a, o0b⟩ := (hv14_123 : In _ _ _); obtain ⟨o1a, o1b⟩ := (hv15_123 : In _ _ _); obtain ⟨o2a, o2b⟩ := (hv17_123 : In _ _ _); obtain ⟨o3a, o3b⟩ := (hv20_123 : In _ _ _); obtain ⟨o4a, o4b⟩ := (hv23_123 : In _ _ _); obtain ⟨o5a, o5b⟩ := (hv25_123 : In _ _ _); obtain ⟨o6a, o6b⟩ := (hv36_123 : In _ _ _); obtain ⟨o7a, o7b⟩ := (hv47_123 : In _ _ _); obtain ⟨o8a, o8b⟩ := (hv48_123 : In _ _ _); obtain ⟨o9a, o9b⟩ := (hv53_123 : In _ _ _); obtain ⟨o10a, o10b⟩ := (hv55_123 : In _ _ _); omega)), (show zz122 = 2126 from (by have ob10 : (0 : Int) ≤ v8_22.toInt ∧ v8_22.toInt ≤ 1 := (b0_10 hT :); have ob11 : (0 : Int) ≤ x40.toInt ∧ x40.toInt ≤ 9 := (b0_11 hT :); have ob12 : (0 : Int) ≤ x58.toInt ∧ x58.toInt ≤ 6 := (b0_12 hT :); have ob14 : (0 : Int) ≤ x80.toInt ∧ x80.toInt ≤ 511 := (b0_14 hT :); have ob15 : (0 : Int) ≤ (1 : Int) ∧ (1 : Int) ≤ 1 := (b0_15 hT :); have ob16 : (0 : Int) ≤ (0 : Int) ∧ (0 : Int) ≤ 20 := (b0_16 hT :); have ob17 : (0 : Int) ≤ (0 : Int) ∧ (0 : Int) ≤ 1 := (b0_17 hT :); have ob18 : (0 : Int) ≤ zz120 ∧ zz120 ≤ 18 := (b0_18 hT :); have ob38 : (0 : Int) ≤ (th 38) ∧ (th 38) ≤ 400 := (b0_38 hT :); have ob39 : (0 : Int) ≤ (th 39) ∧ (th 39) ≤ 200 := (b0_39 hT :); have ob44 : (0 : Int) ≤ (0 : Int) ∧ (0 : Int) ≤ 30 := (b0_44 hT :); have orn := rnd_b v8_22.toInt; obtain ⟨o0a, o0b⟩ := (hv14_123 : In _ _ _); obtain ⟨o1a, o1b⟩ := (hv15_123 : In _ _ _); obtain ⟨o2a, o2b⟩ := (hv17_123 : In _ _ _); obtain ⟨o3a, o3b⟩ := (hv20_123 : In _ _ _); obtain ⟨o4a, o4b⟩ := (hv23_123 : In _ _ _); obtain ⟨o5a, o5b⟩ := (hv25_123 : In _ _ _); obtain ⟨o6a, o6b⟩ := (hv36_123 : In _ _ _); obtain ⟨o7a, o7b⟩ := (hv47_123 : In _ _ _); obtain ⟨o8a, o8b⟩ := (hv48_123 : In _ _ _); obtain ⟨o9a, o9b⟩ := (hv53_123 : In _ _ _); obtain ⟨o10a, o10b⟩ := (hv55_123 : In _ _ _); omega)), (show (0 : Int) = 0 ∨ (0 : Int) = 2126 from (by have ob10 : (0 : Int) ≤ v8_22.toInt ∧ v8_22.toInt ≤ 1 := (b0_10 hT :); have ob11 : (0 : Int) ≤ x40.toInt ∧ x40.toInt ≤ 9 := (b0_11 hT :); have ob12 : (0 : Int) ≤ x58.toInt ∧ x58.toInt ≤ 6 := (b0_12 hT :); have ob14 : (0 : Int) ≤ x80.toInt ∧ x80.toInt ≤ 511 := (b0_14 hT :); have ob15 : (0 : Int) ≤ (1 : Int) ∧ (1 : Int) ≤ 1 := (b0_15 hT :); have ob16 : (0 : Int) ≤ (0 : Int) ∧ (0 : Int) ≤ 20 := (b0_16 hT :); have ob17 : (0 : Int) ≤ (0 : Int) ∧ (0 : Int) ≤ 1 := (b0_17 hT :); have ob18 : (0 : Int) ≤ zz120 ∧ zz120 ≤ 18 := (b0_18 hT :); have ob38 : (0 : Int) ≤ (th 38) ∧ (th 38) ≤ 400 := (b0_38 hT :); have ob39 : (0 : Int) ≤ (th 39) ∧ (th 39) ≤ 200 := (b0_39 hT :); have ob44 : (0 : Int) ≤ (0 : Int) ∧ (0 : Int) ≤ 30 := (b0_44 hT :); have orn := rnd_b v8_22.toInt; obtain ⟨o0a, o0b⟩ := (hv14_123 : In _ _ _); obtain ⟨o1a, o1b⟩ := (hv15_123 : In _ _ _); obtain ⟨o2a, o2b⟩ := (hv17_123 : In _ _ _); obtain ⟨o3a, o3b⟩ := (hv20_123 : In _ _ _); obtain ⟨o4a, o4b⟩ := (hv23_123 : In _ _ _); obtain ⟨o5a, o5b⟩ := (hv25_123 : In _ _ _); obtain ⟨o6a, o6b⟩ := (hv36_123 : In _ _ _); obtain ⟨o7a, o7b⟩ := (hv47_123 : In _ _ _); obtain ⟨o8a, o8b⟩ := (hv48_123 : In _ _ _); obtain ⟨o9a, o9b⟩ := (hv53_123 : In _ _ _); obtain ⟨o10a, o10b⟩ := (hv55_123 : In _ _ _); omega)), (show (0 : Int) = 2126 * (0 : Int) from (by have ob10 : (0 : Int) ≤ v8_22.toInt ∧ v8_22.toInt ≤ 1 := (b0_10 hT :); have ob11 : (0 : Int) ≤ x40.toInt ∧ x40.toInt ≤ 9 := (b0_11 hT :); have ob12 : (0 : Int) ≤ x58.toInt ∧ x58.toInt ≤ 6 := (b0_12 hT :); have ob14 : (0 : Int) ≤ x80.toInt ∧ x80.toInt ≤ 511 := (b0_14 hT :); have ob15 : (0 : Int) ≤ (1 : Int) ∧ (1 : Int) ≤ 1 := (b0_15 hT :); have ob16 : (0 : Int) ≤ (0 : Int) ∧ (0 : Int) ≤ 20 := (b0_16 hT :); have ob17 : (0 : Int) ≤ (0 : Int) ∧ (0 : Int) ≤ 1 := (b0_17 hT :); have ob18 : (0 : Int) ≤ zz120 ∧ zz120 ≤ 18 := (b0_18 hT :); have ob38 : (0 : Int) ≤ (th 38) ∧ (th 38) ≤ 400 := (b0_38 hT :); have ob39 : (0 : Int) ≤ (th 39) ∧ (th 39) ≤ 200 := (b0_39 hT :); have ob44 : (0 : Int) ≤ (0 : Int) ∧ (0 : Int) ≤ 30 := (b0_44 hT :); have orn := rnd_b v8_22.toInt; obtain ⟨o0a, o0b⟩ := (hv14_123 : In _ _ _); obtain ⟨o1a, o1b⟩ := (hv15_123 : In _ _ _); obtain ⟨o2a, o2b⟩ := (hv17_123 : In _ _ _); obtain ⟨o3a, o3b⟩ := (hv20_123 : In _ _ _); obtain ⟨o4a, o4b⟩ := (hv23_123 : In _ _ _); obtain ⟨o5a, o5b⟩ := (hv25_123 : In _ _ _); obtain ⟨o6a, o6b⟩ := (hv36_123 : In _ _ _); obtain ⟨o7a, o7b⟩ := (hv47_123 : In _ _ _); obtain ⟨o8a, o8b⟩ := (hv48_123 : In _ _ _); obtain ⟨o9a, o9b⟩ := (hv53_123 : In _ _ _); obtain ⟨o10a, o10b⟩ := (hv55_123 : In _ _ _); omega)), (show 0 ≤ (0 : Int) ∧ (0 : Int) ≤ 20 from (by have ob10 : (0 : Int) ≤ v8_22.toInt ∧ v8_22.toInt ≤ 1 := (b0_10 hT :); have ob11 : (0 : Int) ≤ x40.toInt ∧ x40.toInt ≤ 9 := (b0_11 hT :); have ob12 : (0 : Int) ≤ x58.toInt ∧ x58.toInt ≤ 6 := (b0_12 hT :); have ob14 : (0 : Int) ≤ x80.toInt ∧ x80.toInt ≤ 511 := (b0_14 hT :); have ob15 : (0 : Int) ≤ (1 : Int) ∧ (1 : Int) ≤ 1 := (b0_15 hT :); have ob16 : (0 : Int) ≤ (0 : Int) ∧ (0 : Int) ≤ 20 := (b0_16 hT :); have ob17 : (0 : Int) ≤ (0 : Int) ∧ (0 : Int) ≤ 1 := (b0_17 hT :); have ob18 : (0 : Int) ≤ zz120 ∧ zz120 ≤ 18 := (b0_18 hT :); have ob38 : (0 : Int) ≤ (th 38) ∧ (th 38) ≤ 400 := (b0_38 hT :); have ob39 : (0 : Int) ≤ (th 39) ∧ (th 39) ≤ 200 := (b0_39 hT :); have ob44 : (0 : Int) ≤ (0 : Int) ∧ (0 : Int) ≤ 30 := (b0_44 hT :); have orn := rnd_b v8_22.toInt; obtain ⟨o0a, o0b⟩ := (hv14_123 : In _ _ _); obtain ⟨o1a, o1b⟩ := (hv15_123 : In _ _ _); obtain ⟨o2a, o2b⟩ := (hv17_123 : In _ _ _); obtain ⟨o3a, o3b⟩ := (hv20_123 : In _ _ _); obtain ⟨o4a, o4b⟩ := (hv23_123 : In _ _ _); obtain ⟨o5a, o5b⟩ := (hv25_123 : In _ _ _); obtain ⟨o6a, o6b⟩ := (hv36_123 : In _ _ _); obtain ⟨o7a, o7b⟩ := (hv47_123 : In _ _ _); obtain ⟨o8a, o8b⟩ := (hv48_123 : In _ _ _); obtain ⟨o9a, o9b⟩ := (hv53_123 : In _ _ _); obtain ⟨o10a, o10b⟩ := (hv55_123 : In _ _ _); omega)), (show 0 ≤ zz121 ∧ zz121 ≤ x58.toInt * rnd (v8_22.toInt) from (by have ob10 : (0 : Int) ≤ v8_22.toInt ∧ v8_22.toInt ≤ 1 := (b0_10 hT :); have ob11 : (0 : Int) ≤ x40.toInt ∧ x40.toInt ≤ 9 := (b0_11 hT :); have ob12 : (0 : Int) ≤ x58.toInt ∧ x58.toInt ≤ 6 := (b0_12 hT :); have ob14 : (0 : Int) ≤ x80.toInt ∧ x80.toInt ≤ 511 := (b0_14 hT :); have ob15 : (0 : Int) ≤ (1 : Int) ∧ (1 : Int) ≤ 1 := (b0_15 hT :); have ob16 : (0 : Int) ≤ (0 : Int) ∧ (0 : Int) ≤ 20 := (b0_16 hT :); have ob17 : (0 : Int) ≤ (0 : Int) ∧ (0 : Int) ≤ 1 := (b0_17 hT :); have ob18 : (0 : Int) ≤ zz120 ∧ zz120 ≤ 18 := (b0_18 hT :); have ob38 : (0 : Int) ≤ (th 38) ∧ (th 38) ≤ 400 := (b0_38 hT :); have ob39 : (0 : Int) ≤ (th 39) ∧ (th 39) ≤ 200 := (b0_39 hT :); have ob44 : (0 : Int) ≤ (0 : Int) ∧ (0 : Int) ≤ 30 := (b0_44 hT :); have orn := rnd_b v8_22.toInt; obtain ⟨o0a, o0b⟩ := (hv14_123 : In _ _ _); obtain ⟨o1a, o1b⟩ := (hv15_123 : In _ _ _); obtain ⟨o2a, o2b⟩ := (hv17_123 : In _ _ _); obtain ⟨o3a, o3b⟩ := (hv20_123 : In _ _ _); obtain ⟨o4a, o4b⟩ := (hv23_123 : In _ _ _); obtain ⟨o5a, o5b⟩ := (hv25_123 : In _ _ _); obtain ⟨o6a, o6b⟩ := (hv36_123 : In _ _ _); obtain ⟨o7a, o7b⟩ := (hv47_123 : In _ _ _); obtain ⟨o8a, o8b⟩ := (hv48_123 : In _ _ _); obtain ⟨o9a, o9b⟩ := (hv53_123 : In _ _ _); obtain ⟨o10a, o10b⟩ := (hv55_123 : In _ _ _); omega)), (show 0 ≤ x40.toInt ∧ x40.toInt ≤ 9 from (by have ob10 : (0 : Int) ≤ v8_22.toInt ∧ v8_22.toInt ≤ 1 := (b0_10 hT :); have ob11 : (0 : Int) ≤ x40.toInt ∧ x40.toInt ≤ 9 := (b0_11 hT :); have ob12 : (0 : Int) ≤ x58.toInt ∧ x58.toInt ≤ 6 := (b0_12 hT :); have ob14 : (0 : Int) ≤ x80.toInt ∧ x80.toInt ≤ 511 := (b0_14 hT :); have ob15 : (0 : Int) ≤ (1 : Int) ∧ (1 : Int) ≤ 1 := (b0_15 hT :); have ob16 : (0 : Int) ≤ (0 : Int) ∧ (0 : Int) ≤ 20 := (b0_16 hT :); have ob17 : (0 : Int) ≤ (0 : Int) ∧ (0 : Int) ≤ 1 := (b0_17 hT :); have ob18 : (0 : Int) ≤ zz120 ∧ zz120 ≤ 18 := (b0_18 hT :); have ob38 : (0 : Int) ≤ (th 38) ∧ (th 38) ≤ 400 := (b0_38 hT :); have ob39 : (0 : Int) ≤ (th 39) ∧ (th 39) ≤ 200 := (b0_39 hT :); have ob44 : (0 : Int) ≤ (0 : Int) ∧ (0 : Int) ≤ 30 := (b0_44 hT :); have orn := rnd_b v8_22.toInt; obtain ⟨o0a, o0b⟩ := (hv14_123 : In _ _ _); obtain ⟨o1a, o1b⟩ := (hv15_123 : In _ _ _); obtain ⟨o2a, o2b⟩ := (hv17_123 : In _ _ _); obtain ⟨o3a, o3b⟩ := (hv20_123 : In _ _ _); obtain ⟨o4a, o4b⟩ := (hv23_123 : In _ _ _); obtain ⟨o5a, o5b⟩ := (hv25_123 : In _ _ _); obtain ⟨o6a, o6b⟩ := (hv36_123 : In _ _ _); obtain ⟨o7a, o7b⟩ := (hv47_123 : In _ _ _); obtain ⟨o8a, o8b⟩ := (hv48_123 : In _ _ _); obtain ⟨o9a, o9b⟩ := (hv53_123 : In _ _ _); obtain ⟨o10a, o10b⟩ := (hv55_123 : In _ _ _); omega))⟩), (SBM.set (k := 22) (SBM.set (k := 19) (SBM.set (k := 18) (SBM.set (k := 21) (SBM.set (k := 20) (SBM.set (k := 24) (SBM.set (k := 23) (SBM.set (k := 17) (SBM.set (k := 16) (SBM.set (k := 44) (SBM.set (k := 15) (SBM.set (k := 14) (SBM.set (k := 12) (SBM.set (k := 11) (SBM.set (k := 10) (SBM.set (k := 13) (SBM.set (k := 43) (SBM.set (k := 34) (SBM.set (k := 30) (SBM.set (k := 35) (SBM.set (k := 42) (SBM.set (k := 41) (SBM.set (k := 40) (SBM.set (k := 37) (SBM.rf th) (by decide)) (by decide)) (by decide)) (by decide)) (by decide)) (by decide)) (by decide)) (by decide)) (by decide)) (by decide)) (by decide)) (by decide)) (by decide)) (by decide)) (by decide)) (by decide)) (by decide)) (by decide)) (by decide)) (by decide)) (by decide)) (by decide)) (by decide)) (by decide))⟩, hT⟩, hfr⟩) dX11_council_121
  ·
    have ocm1 : ((-1) : Int32).toInt = (-1) := by decide
    have cc125 : r6.toInt ≠ ((-1) : Int32).toInt := i32_ne c19
    have hb126 : In r6 0 500 := In.ne1 eL10R (⟨by decide, by decide⟩ : In (-1) (-1) (-1)) cc125 (by decide) (by decide)
    refine lv_iconst (v := (-1)) hx hb dX11_council_13 (by decide) ?_
    exact ret_i (ty := .int) hx hb hr hlocks (rfl) hP hD hS (Nat.le_of_ble_eq_true rfl) (Nat.le_of_ble_eq_true rfl) (⟨rfl, ⟨(gset (gset (gset (gset (gset (gset (gset (gset th 37 zz11) 40 zz12) 41 zz13) 42 zz14) 35 zz15) 30 zz16) 34 zz17) 43 zz18), ⟨(show MI (gset (gset (gset (gset (gset (gset (gset (gset th 37 zz11) 40 zz12) 41 zz13) 42 zz14) 35 zz15) 30 zz16) 34 zz17) 43 zz18) from ⟨m1, m2, (show th 20 = (th 12) * rnd (th 10) from m3), m4, m5, m6, m7, m8, m9, m10⟩), (SBM.set (k := 43) (SBM.set (k := 34) (SBM.set (k := 30) (SBM.set (k := 35) (SBM.set (k := 42) (SBM.set (k := 41) (SBM.set (k := 40) (SBM.set (k := 37) (SBM.rf th) (by decide)) (by decide)) (by decide)) (by decide)) (by decide)) (by decide)) (by decide)) (by decide))⟩, hT⟩, hfr⟩) dX11_council_14
