abbrev rm_X11_readsCouncil : Room := { frames := 7, cells := 0, slots := 0, locals := 151 }
abbrev po_X11_readsCouncil (g : GG) (ad : Nat → Nat) (th : Nat → Int) (L : List Nat) (f : HP)  : Int32 → (List Nat × HP) → Prop := fun r u => u.1 = L ∧ (∃ za zr zl ze zt zs zf zq : Int, (r.toInt ≠ -1 ∨ ((zt % 2 = 1 ∧ 0 ≤ zq) ∧ DIp zt zs zf)) ∧ TI g ad (gset (gset (gset (gset (gset (gset (gset (gset th 37 za) 40 zr) 41 zl) 42 ze) 35 zt) 30 zs) 34 zf) 43 zq) u.2) ∧ (∀ b, b ≠ (ad 255) → b ≠ (ad 257) → u.2 b = f b) ∧ In r (-1) 500
set_option maxHeartbeats 4000000 in
set_option maxRecDepth 100000 in
theorem s_X11_readsCouncil (l : Launch) (g : GG) (ad : Nat → Nat) (th : Nat → Int) (L : List Nat) (f : HP) (sz : Nat)  (hst : ST ad L) (hT : TI g ad th f)  : MtI l g yX11_readsCouncil cX11_readsCouncil 2 (some .int) rm_X11_readsCouncil [.ref (ad 255)] L f sz (po_X11_readsCouncil g ad th L f ) := by
  refine MtI.of (by decide +kernel) (Nat.le_of_ble_eq_true rfl) ?_
  intro p e s m below meth c A hEn hP hD hS ls hl
  obtain ⟨hx, hb, hr, hml, hown, hlocks, hts, hG, hA, hE, hnm⟩ := hEn
  have hown : s.vm.findClass "RulerWordModel" = some m.cls := hown
  have hl : lv_has ls 2 [(0, .ref (ad 255))] := hl
  have hfr : (∀ b, b ≠ (ad 255) → b ≠ (ad 257) → f b = f b) := fun b z0_ z1_ => rfl
  refine lv_aload_n hx hb dX11_readsCouncil_0 rfl (lv_at hl 0 rfl) ?_
  refine lv_iconst (v := 0) hx hb dX11_readsCouncil_1 (by decide) ?_
  refine M0e hT (fun v0_1 v2_1 v3_1 v4_1 v5_1 v6_1 v8_1 v9_1 v12_1 v13_1 v14_1 v15_1 v16_1 v17_1 v18_1 v19_1 v20_1 v21_1 v22_1 v23_1 v25_1 v36_1 v37_1 v38_1 v39_1 v40_1 v45_1 v46_1 v47_1 v48_1 v50_1 v51_1 v53_1 v55_1 hf2 hv0_1 hv2_1 hg2_1 hv3_1 hg3_1 hv4_1 hg4_1 hv5_1 hg5_1 hv6_1 hg6_1 hv8_1 hg8_1 hv9_1 hg9_1 hv12_1 hv13_1 hg13_1 hv14_1 hg14_1 hv15_1 hg15_1 hv17_1 hg17_1 hv20_1 hg20_1 hv23_1 hg23_1 hv25_1 hg25_1 hv36_1 hg36_1 hv47_1 hg47_1 hv48_1 hg48_1 hv53_1 hg53_1 hv55_1 hg55_1 hrel0_1 => ?_)
  have hg15_1 : v15_1.toInt = th 11 := hg15_1
  have hg17_1 : v17_1.toInt = th 12 := hg17_1
  have hg20_1 : v20_1.toInt = th 14 := hg20_1
  refine pl_put (ty := .int) (v := .int 0) (fs' := [.int v0_1, .ref (ad 256), .int v2_1, .int 0, .int v4_1, .int v5_1, .int v6_1, .ref (ad 257), .int v8_1, .int v9_1, .ref (ad 258), .ref (ad 259), .int v12_1, .int v13_1, .int v14_1, .int v15_1, .int v16_1, .int v17_1, .int v18_1, .int v19_1, .int v20_1, .long v21_1, .long v22_1, .int v23_1, .ref (ad 260), .int v25_1, .ref (ad 261), .ref (ad 262), .ref (ad 263), .ref (ad 264), .ref (ad 265), .ref (ad 266), .ref (ad 267), .ref (ad 268), .ref (ad 269), .ref (ad 270), .int v36_1, .int v37_1, .int v38_1, .int v39_1, .int v40_1, .ref (ad 271), .ref (ad 272), .ref (ad 273), .ref (ad 274), .long v45_1, .long v46_1, .int v47_1, .int v48_1, .ref (ad 275), .int v50_1, .int v51_1, .ref (ad 276), .int v53_1, .ref (ad 277), .int v55_1]) hx hb hts (fun w h => mT (inX11 w h)) tyX11 tyX11_ok nmX11 hown hG.1 hP hD hS (hst.1 255 (by decide)) hf2 rfl 3 (by decide) (hts _ (mT wg_1339)) (fun _ h => h) rfl (by decide +kernel) (rfl) (rfl) (Nat.le_of_ble_eq_true rfl) rfl dX11_readsCouncil_2 (fun H locs f3 hf4 ho5 hP hD hS => ?_)
  have hfr : (∀ b, b ≠ (ad 255) → b ≠ (ad 257) → f3 b = f b) := fun b z0_ z1_ => (ho5 b z0_).trans (hfr b z0_ z1_)
  refine lv_aload_n hx hb dX11_readsCouncil_5 rfl (lv_at hl 0 rfl) ?_
  refine lv_iconst (v := (-1)) hx hb dX11_readsCouncil_6 (by decide) ?_
  refine pl_put (ty := .int) (v := .int (-1)) (fs' := [.int v0_1, .ref (ad 256), .int v2_1, .int 0, .int (-1), .int v5_1, .int v6_1, .ref (ad 257), .int v8_1, .int v9_1, .ref (ad 258), .ref (ad 259), .int v12_1, .int v13_1, .int v14_1, .int v15_1, .int v16_1, .int v17_1, .int v18_1, .int v19_1, .int v20_1, .long v21_1, .long v22_1, .int v23_1, .ref (ad 260), .int v25_1, .ref (ad 261), .ref (ad 262), .ref (ad 263), .ref (ad 264), .ref (ad 265), .ref (ad 266), .ref (ad 267), .ref (ad 268), .ref (ad 269), .ref (ad 270), .int v36_1, .int v37_1, .int v38_1, .int v39_1, .int v40_1, .ref (ad 271), .ref (ad 272), .ref (ad 273), .ref (ad 274), .long v45_1, .long v46_1, .int v47_1, .int v48_1, .ref (ad 275), .int v50_1, .int v51_1, .ref (ad 276), .int v53_1, .ref (ad 277), .int v55_1]) hx hb hts (fun w h => mT (inX11 w h)) tyX11 tyX11_ok nmX11 hown hG.1 hP hD hS (hst.1 255 (by decide)) hf4 rfl 4 (by decide) (hts _ (mT wg_1340)) (fun _ h => h) rfl (by decide +kernel) (rfl) (rfl) (Nat.le_of_ble_eq_true rfl) rfl dX11_readsCouncil_7 (fun H locs f6 hf7 ho8 hP hD hS => ?_)
  have ho9 : ∀ b, b ≠ (ad 255) → f6 b = _ := fun b hb => (ho8 b hb).trans (ho5 b hb)
  have hfr : (∀ b, b ≠ (ad 255) → b ≠ (ad 257) → f6 b = f b) := fun b z0_ z1_ => (ho8 b z0_).trans (hfr b z0_ z1_)
  refine lv_aload_n hx hb dX11_readsCouncil_10 rfl (lv_at hl 0 rfl) ?_
  refine lv_iconst (v := 0) hx hb dX11_readsCouncil_11 (by decide) ?_
  refine pl_put (ty := .int) (v := .int 0) (fs' := [.int v0_1, .ref (ad 256), .int v2_1, .int 0, .int (-1), .int v5_1, .int v6_1, .ref (ad 257), .int v8_1, .int 0, .ref (ad 258), .ref (ad 259), .int v12_1, .int v13_1, .int v14_1, .int v15_1, .int v16_1, .int v17_1, .int v18_1, .int v19_1, .int v20_1, .long v21_1, .long v22_1, .int v23_1, .ref (ad 260), .int v25_1, .ref (ad 261), .ref (ad 262), .ref (ad 263), .ref (ad 264), .ref (ad 265), .ref (ad 266), .ref (ad 267), .ref (ad 268), .ref (ad 269), .ref (ad 270), .int v36_1, .int v37_1, .int v38_1, .int v39_1, .int v40_1, .ref (ad 271), .ref (ad 272), .ref (ad 273), .ref (ad 274), .long v45_1, .long v46_1, .int v47_1, .int v48_1, .ref (ad 275), .int v50_1, .int v51_1, .ref (ad 276), .int v53_1, .ref (ad 277), .int v55_1]) hx hb hts (fun w h => mT (inX11 w h)) tyX11 tyX11_ok nmX11 hown hG.1 hP hD hS (hst.1 255 (by decide)) hf7 rfl 9 (by decide) (hts _ (mT wg_1345)) (fun _ h => h) rfl (by decide +kernel) (rfl) (rfl) (Nat.le_of_ble_eq_true rfl) rfl dX11_readsCouncil_12 (fun H locs f10 hf11 ho12 hP hD hS => ?_)
  have ho13 : ∀ b, b ≠ (ad 255) → f10 b = _ := fun b hb => (ho12 b hb).trans (ho9 b hb)
  have hfr : (∀ b, b ≠ (ad 255) → b ≠ (ad 257) → f10 b = f b) := fun b z0_ z1_ => (ho12 b z0_).trans (hfr b z0_ z1_)
  refine lv_iconst (v := 0) hx hb dX11_readsCouncil_15 (by decide) ?_
  refine lv_istore_n (lv' := [(1, .int 0), (0, .ref (ad 255))]) hx hb dX11_readsCouncil_16 rfl hl (by decide) rfl (fun ls hl => ?_)
  refine lv_iload_n hx hb dX11_readsCouncil_17 rfl (lv_at hl 0 rfl) ?_
  refine lv_bipush (v := 6) hx hb dX11_readsCouncil_18 (by decide) ?_
  have hT := TI.updMG (th' := (gset (gset (gset th 37 (0)) 42 ((-1))) 35 (0))) hT hst (k := 0) (by decide) hf11 ho13 ⟨v0_1, v2_1, 0, (-1), v5_1, v6_1, v8_1, 0, v12_1, v13_1, v14_1, v15_1, v16_1, v17_1, v18_1, v19_1, v20_1, v21_1, v22_1, v23_1, v25_1, v36_1, v37_1, v38_1, v39_1, v40_1, v45_1, v46_1, v47_1, v48_1, v50_1, v51_1, v53_1, v55_1, rfl, hv0_1, hv2_1, hg2_1, (⟨by decide, by decide⟩ : In 0 0 500), (show (0 : Int32).toInt = 0 by decide), (⟨by decide, by decide⟩ : In (-1) (-1) 500), (show ((-1) : Int32).toInt = (-1) by decide), hv5_1, hg5_1, hv6_1, hg6_1, hv8_1, hg8_1, (⟨by decide, by decide⟩ : In 0 0 63), (show (0 : Int32).toInt = 0 by decide), hv12_1, hv13_1, hg13_1, hv14_1, hg14_1, hv15_1, hg15_1, hv17_1, hg17_1, hv20_1, hg20_1, hv23_1, hg23_1, hv25_1, hg25_1, hv36_1, hg36_1, hv47_1, hg47_1, hv48_1, hg48_1, hv53_1, hg53_1, hv55_1, hg55_1, hrel0_1⟩ (fun q hq => ((gset_ne (fun e => hq (by subst e; decide))).trans ((gset_ne (fun e => hq (by subst e; decide))).trans ((gset_ne (fun e => hq (by subst e; decide))).trans rfl))))
  have hT : TI g ad (gset (gset (gset th 37 0) 42 (-1)) 35 0) f10 := TI.cast hT (by funext q; by_cases hq0 : q = 35; (subst hq0; rfl); by_cases hq1 : q = 42; (subst hq1; rfl); by_cases hq2 : q = 37; (subst hq2; rfl); simp only [gset, if_neg hq0, if_neg hq1, if_neg hq2])
  refine lv_icmp_ge (tgt := 36) hx hb dX11_readsCouncil_20 (by decide) (fun c14 => ?_) (fun c14 => ?_)
  ·
    have oc0 : (0 : Int32).toInt = 0 := by decide
    have oc6 : (6 : Int32).toInt = 6 := by decide
    have cc15 : (6 : Int32).toInt ≤ (0 : Int32).toInt := i32_le.mp c14
    exact In.empty (lo := 6) (hi := 0) (In.ge1 (⟨by decide, by decide⟩ : In 0 0 0) (⟨by decide, by decide⟩ : In 6 6 6) cc15 (by decide) (by decide)) (by decide)
  ·
    have oc0 : (0 : Int32).toInt = 0 := by decide
    have oc6 : (6 : Int32).toInt = 6 := by decide
    have cc16 : (0 : Int32).toInt < (6 : Int32).toInt := i32_nle c14
    refine lv_aload_n hx hb dX11_readsCouncil_23 rfl (lv_at hl 1 rfl) ?_
    refine M0e hT (fun v0_17 v2_17 v3_17 v4_17 v5_17 v6_17 v8_17 v9_17 v12_17 v13_17 v14_17 v15_17 v16_17 v17_17 v18_17 v19_17 v20_17 v21_17 v22_17 v23_17 v25_17 v36_17 v37_17 v38_17 v39_17 v40_17 v45_17 v46_17 v47_17 v48_17 v50_17 v51_17 v53_17 v55_17 hf18 hv0_17 hv2_17 hg2_17 hv3_17 hg3_17 hv4_17 hg4_17 hv5_17 hg5_17 hv6_17 hg6_17 hv8_17 hg8_17 hv9_17 hg9_17 hv12_17 hv13_17 hg13_17 hv14_17 hg14_17 hv15_17 hg15_17 hv17_17 hg17_17 hv20_17 hg20_17 hv23_17 hg23_17 hv25_17 hg25_17 hv36_17 hg36_17 hv47_17 hg47_17 hv48_17 hg48_17 hv53_17 hg53_17 hv55_17 hg55_17 hrel0_17 => ?_)
    have hg15_17 : v15_17.toInt = th 11 := hg15_17
    have hg17_17 : v17_17.toInt = th 12 := hg17_17
    have hg20_17 : v20_17.toInt = th 14 := hg20_17
    refine pl_get (v := .ref (ad 257)) hx hb hts (fun w h => mT (inX11 w h)) hown hG.1 hP (hst.1 255 (by decide)) hf18 rfl 7 (by decide) (hts _ (mT wg_1343)) (fun _ h => h) rfl dX11_readsCouncil_24 ?_
    refine lv_iload_n hx hb dX11_readsCouncil_27 rfl (lv_at hl 0 rfl) ?_
    refine lv_iconst (v := 0) hx hb dX11_readsCouncil_28 (by decide) ?_
    obtain ⟨rw19, hf20, hpn21, hpg22, hpn23, hpn24, hpn25, hpg26⟩ := hT.2.2 2 (by decide)
    refine pl_iastE hx hb hG.1 hP hD hS (hst.1 257 (by decide)) 0 hf20 rfl (In.inb (⟨by decide, by decide⟩ : In 0 0 0) (by decide) (by decide)) dX11_readsCouncil_29 (fun H locs f27 r30 er30 hf28 ho29 hP hD hS => ?_)
    have hpn31 : In (r30 0) 0 9 := (upd_eqI (k := 0) er30 (by decide)) ▸ (⟨by decide, by decide⟩ : In 0 0 9)
    have hpg32 : (r30 0).toInt = (0 : Int32).toInt := congrArg Int32.toInt (upd_eqI (k := 0) er30 (by decide))
    have hpn33 : In (r30 1) 0 4 := (upd_neI (k := 1) er30 (by decide)) ▸ hpn23
    have hpn34 : In (r30 2) 0 6 := (upd_neI (k := 2) er30 (by decide)) ▸ hpn24
    have hpn35 : In (r30 4) 0 511 := (upd_neI (k := 4) er30 (by decide)) ▸ hpn25
    have hpg36 := (congrArg Int32.toInt (upd_neI (k := 4) er30 (by decide))).trans hpg26
    have hf37 := (ho29 (ad 255) (hst.ne (by decide) (by decide) (by decide))).trans hf18
    have hfr : (∀ b, b ≠ (ad 255) → b ≠ (ad 257) → f27 b = f b) := fun b z0_ z1_ => (ho29 b z1_).trans (hfr b z0_ z1_)
    refine lv_iinc (v := 1) (lv' := [(1, .int 1), (0, .ref (ad 255))]) hx hb dX11_readsCouncil_30 hl (k := 0) rfl (by decide) (by decide) rfl (fun ls hl => ?_)
    have hT := TI.updMG (th' := (gset (gset (gset (gset th 37 0) 42 (-1)) 35 0) 30 0)) hT hst (k := 2) (by decide) hf28 ho29 ⟨r30, rfl, hpn31, (hpg32.trans (show (0 : Int32).toInt = (0 : Int) by decide)), hpn33, hpn34, hpn35, (hpg36.trans rfl)⟩ (fun q hq => ((gset_ne (fun e => hq (by subst e; decide))).trans rfl))
    refine lv_goto (tgt := 17) hx hb dX11_readsCouncil_33 (by decide) ?_
    refine lv_iload_n hx hb dX11_readsCouncil_17 rfl (lv_at hl 0 rfl) ?_
    refine lv_bipush (v := 6) hx hb dX11_readsCouncil_18 (by decide) ?_
    refine lv_icmp_ge (tgt := 36) hx hb dX11_readsCouncil_20 (by decide) (fun c38 => ?_) (fun c38 => ?_)
    ·
      have oc1 : (1 : Int32).toInt = 1 := by decide
      have oc6 : (6 : Int32).toInt = 6 := by decide
      have cc39 : (6 : Int32).toInt ≤ (1 : Int32).toInt := i32_le.mp c38
      exact In.empty (lo := 6) (hi := 1) (In.ge1 (⟨by decide, by decide⟩ : In 1 1 1) (⟨by decide, by decide⟩ : In 6 6 6) cc39 (by decide) (by decide)) (by decide)
    ·
      have oc1 : (1 : Int32).toInt = 1 := by decide
      have oc6 : (6 : Int32).toInt = 6 := by decide
      have cc40 : (1 : Int32).toInt < (6 : Int32).toInt := i32_nle c38
      refine lv_aload_n hx hb dX11_readsCouncil_23 rfl (lv_at hl 1 rfl) ?_
      refine M0e hT (fun v0_41 v2_41 v3_41 v4_41 v5_41 v6_41 v8_41 v9_41 v12_41 v13_41 v14_41 v15_41 v16_41 v17_41 v18_41 v19_41 v20_41 v21_41 v22_41 v23_41 v25_41 v36_41 v37_41 v38_41 v39_41 v40_41 v45_41 v46_41 v47_41 v48_41 v50_41 v51_41 v53_41 v55_41 hf42 hv0_41 hv2_41 hg2_41 hv3_41 hg3_41 hv4_41 hg4_41 hv5_41 hg5_41 hv6_41 hg6_41 hv8_41 hg8_41 hv9_41 hg9_41 hv12_41 hv13_41 hg13_41 hv14_41 hg14_41 hv15_41 hg15_41 hv17_41 hg17_41 hv20_41 hg20_41 hv23_41 hg23_41 hv25_41 hg25_41 hv36_41 hg36_41 hv47_41 hg47_41 hv48_41 hg48_41 hv53_41 hg53_41 hv55_41 hg55_41 hrel0_41 => ?_)
      have hg15_41 : v15_41.toInt = th 11 := hg15_41
      have hg17_41 : v17_41.toInt = th 12 := hg17_41
      have hg20_41 : v20_41.toInt = th 14 := hg20_41
      refine pl_get (v := .ref (ad 257)) hx hb hts (fun w h => mT (inX11 w h)) hown hG.1 hP (hst.1 255 (by decide)) hf42 rfl 7 (by decide) (hts _ (mT wg_1343)) (fun _ h => h) rfl dX11_readsCouncil_24 ?_
      refine lv_iload_n hx hb dX11_readsCouncil_27 rfl (lv_at hl 0 rfl) ?_
      refine lv_iconst (v := 0) hx hb dX11_readsCouncil_28 (by decide) ?_
      obtain ⟨rw43, hf44, hpn45, hpg46, hpn47, hpn48, hpn49, hpg50⟩ := hT.2.2 2 (by decide)
      refine pl_iastE hx hb hG.1 hP hD hS (hst.1 257 (by decide)) 0 hf44 rfl (In.inb (⟨by decide, by decide⟩ : In 1 1 1) (by decide) (by decide)) dX11_readsCouncil_29 (fun H locs f51 r54 er54 hf52 ho53 hP hD hS => ?_)
      have hpn55 : In (r54 0) 0 9 := (upd_neI (k := 0) er54 (by decide)) ▸ hpn45
      have hpg56 := (congrArg Int32.toInt (upd_neI (k := 0) er54 (by decide))).trans hpg46
      have hpn57 : In (r54 1) 0 4 := (upd_eqI (k := 1) er54 (by decide)) ▸ (⟨by decide, by decide⟩ : In 0 0 4)
      have hpn58 : In (r54 2) 0 6 := (upd_neI (k := 2) er54 (by decide)) ▸ hpn48
      have hpn59 : In (r54 4) 0 511 := (upd_neI (k := 4) er54 (by decide)) ▸ hpn49
      have hpg60 := (congrArg Int32.toInt (upd_neI (k := 4) er54 (by decide))).trans hpg50
      have hf61 := (ho53 (ad 255) (hst.ne (by decide) (by decide) (by decide))).trans hf42
      have hfr : (∀ b, b ≠ (ad 255) → b ≠ (ad 257) → f51 b = f b) := fun b z0_ z1_ => (ho53 b z1_).trans (hfr b z0_ z1_)
      refine lv_iinc (v := 2) (lv' := [(1, .int 2), (0, .ref (ad 255))]) hx hb dX11_readsCouncil_30 hl (k := 0) rfl (by decide) (by decide) rfl (fun ls hl => ?_)
      have hT := TI.updM hT hst (k := 2) (by decide) hf52 ho53 ⟨r54, rfl, hpn55, (hpg56.trans rfl), hpn57, hpn58, hpn59, (hpg60.trans rfl)⟩
      refine lv_goto (tgt := 17) hx hb dX11_readsCouncil_33 (by decide) ?_
      refine lv_iload_n hx hb dX11_readsCouncil_17 rfl (lv_at hl 0 rfl) ?_
      refine lv_bipush (v := 6) hx hb dX11_readsCouncil_18 (by decide) ?_
      refine lv_icmp_ge (tgt := 36) hx hb dX11_readsCouncil_20 (by decide) (fun c62 => ?_) (fun c62 => ?_)
      ·
        have oc2 : (2 : Int32).toInt = 2 := by decide
        have oc6 : (6 : Int32).toInt = 6 := by decide
        have cc63 : (6 : Int32).toInt ≤ (2 : Int32).toInt := i32_le.mp c62
        exact In.empty (lo := 6) (hi := 2) (In.ge1 (⟨by decide, by decide⟩ : In 2 2 2) (⟨by decide, by decide⟩ : In 6 6 6) cc63 (by decide) (by decide)) (by decide)
      ·
        have oc2 : (2 : Int32).toInt = 2 := by decide
        have oc6 : (6 : Int32).toInt = 6 := by decide
        have cc64 : (2 : Int32).toInt < (6 : Int32).toInt := i32_nle c62
        refine lv_aload_n hx hb dX11_readsCouncil_23 rfl (lv_at hl 1 rfl) ?_
        refine pl_get (v := .ref (ad 257)) hx hb hts (fun w h => mT (inX11 w h)) hown hG.1 hP (hst.1 255 (by decide)) hf61 rfl 7 (by decide) (hts _ (mT wg_1343)) (fun _ h => h) rfl dX11_readsCouncil_24 ?_
        refine lv_iload_n hx hb dX11_readsCouncil_27 rfl (lv_at hl 0 rfl) ?_
        refine lv_iconst (v := 0) hx hb dX11_readsCouncil_28 (by decide) ?_
        refine pl_iastE hx hb hG.1 hP hD hS (hst.1 257 (by decide)) 0 hf52 rfl (In.inb (⟨by decide, by decide⟩ : In 2 2 2) (by decide) (by decide)) dX11_readsCouncil_29 (fun H locs f65 r68 er68 hf66 ho67 hP hD hS => ?_)
        have hpn69 : In (r68 0) 0 9 := (upd_neI (k := 0) er68 (by decide)) ▸ hpn55
        have hpg70 := (congrArg Int32.toInt (upd_neI (k := 0) er68 (by decide))).trans hpg56
        have hpn71 : In (r68 1) 0 4 := (upd_neI (k := 1) er68 (by decide)) ▸ hpn57
        have hpn72 : In (r68 2) 0 6 := (upd_eqI (k := 2) er68 (by decide)) ▸ (⟨by decide, by decide⟩ : In 0 0 6)
        have hpn73 : In (r68 4) 0 511 := (upd_neI (k := 4) er68 (by decide)) ▸ hpn59
        have hpg74 := (congrArg Int32.toInt (upd_neI (k := 4) er68 (by decide))).trans hpg60
        have hf75 := (ho67 (ad 255) (hst.ne (by decide) (by decide) (by decide))).trans hf61
        have hfr : (∀ b, b ≠ (ad 255) → b ≠ (ad 257) → f65 b = f b) := fun b z0_ z1_ => (ho67 b z1_).trans (hfr b z0_ z1_)
        refine lv_iinc (v := 3) (lv' := [(1, .int 3), (0, .ref (ad 255))]) hx hb dX11_readsCouncil_30 hl (k := 0) rfl (by decide) (by decide) rfl (fun ls hl => ?_)
        have hT := TI.updM hT hst (k := 2) (by decide) hf66 ho67 ⟨r68, rfl, hpn69, (hpg70.trans rfl), hpn71, hpn72, hpn73, (hpg74.trans rfl)⟩
        refine lv_goto (tgt := 17) hx hb dX11_readsCouncil_33 (by decide) ?_
        refine lv_iload_n hx hb dX11_readsCouncil_17 rfl (lv_at hl 0 rfl) ?_
        refine lv_bipush (v := 6) hx hb dX11_readsCouncil_18 (by decide) ?_
        refine lv_icmp_ge (tgt := 36) hx hb dX11_readsCouncil_20 (by decide) (fun c76 => ?_) (fun c76 => ?_)
        ·
          have oc3 : (3 : Int32).toInt = 3 := by decide
          have oc6 : (6 : Int32).toInt = 6 := by decide
          have cc77 : (6 : Int32).toInt ≤ (3 : Int32).toInt := i32_le.mp c76
          exact In.empty (lo := 6) (hi := 3) (In.ge1 (⟨by decide, by decide⟩ : In 3 3 3) (⟨by decide, by decide⟩ : In 6 6 6) cc77 (by decide) (by decide)) (by decide)
        ·
          have oc3 : (3 : Int32).toInt = 3 := by decide
          have oc6 : (6 : Int32).toInt = 6 := by decide
          have cc78 : (3 : Int32).toInt < (6 : Int32).toInt := i32_nle c76
          refine lv_aload_n hx hb dX11_readsCouncil_23 rfl (lv_at hl 1 rfl) ?_
          refine pl_get (v := .ref (ad 257)) hx hb hts (fun w h => mT (inX11 w h)) hown hG.1 hP (hst.1 255 (by decide)) hf75 rfl 7 (by decide) (hts _ (mT wg_1343)) (fun _ h => h) rfl dX11_readsCouncil_24 ?_
          refine lv_iload_n hx hb dX11_readsCouncil_27 rfl (lv_at hl 0 rfl) ?_
          refine lv_iconst (v := 0) hx hb dX11_readsCouncil_28 (by decide) ?_
          refine pl_iastE hx hb hG.1 hP hD hS (hst.1 257 (by decide)) 0 hf66 rfl (In.inb (⟨by decide, by decide⟩ : In 3 3 3) (by decide) (by decide)) dX11_readsCouncil_29 (fun H locs f79 r82 er82 hf80 ho81 hP hD hS => ?_)
          have hpn83 : In (r82 0) 0 9 := (upd_neI (k := 0) er82 (by decide)) ▸ hpn69
          have hpg84 := (congrArg Int32.toInt (upd_neI (k := 0) er82 (by decide))).trans hpg70
          have hpn85 : In (r82 1) 0 4 := (upd_neI (k := 1) er82 (by decide)) ▸ hpn71
          have hpn86 : In (r82 2) 0 6 := (upd_neI (k := 2) er82 (by decide)) ▸ hpn72
          have hpn87 : In (r82 4) 0 511 := (upd_neI (k := 4) er82 (by decide)) ▸ hpn73
          have hpg88 := (congrArg Int32.toInt (upd_neI (k := 4) er82 (by decide))).trans hpg74
          have hf89 := (ho81 (ad 255) (hst.ne (by decide) (by decide) (by decide))).trans hf75
          have hfr : (∀ b, b ≠ (ad 255) → b ≠ (ad 257) → f79 b = f b) := fun b z0_ z1_ => (ho81 b z1_).trans (hfr b z0_ z1_)
          refine lv_iinc (v := 4) (lv' := [(1, .int 4), (0, .ref (ad 255))]) hx hb dX11_readsCouncil_30 hl (k := 0) rfl (by decide) (by decide) rfl (fun ls hl => ?_)
          have hT := TI.updM hT hst (k := 2) (by decide) hf80 ho81 ⟨r82, rfl, hpn83, (hpg84.trans rfl), hpn85, hpn86, hpn87, (hpg88.trans rfl)⟩
          refine lv_goto (tgt := 17) hx hb dX11_readsCouncil_33 (by decide) ?_
          refine lv_iload_n hx hb dX11_readsCouncil_17 rfl (lv_at hl 0 rfl) ?_
          refine lv_bipush (v := 6) hx hb dX11_readsCouncil_18 (by decide) ?_
          refine lv_icmp_ge (tgt := 36) hx hb dX11_readsCouncil_20 (by decide) (fun c90 => ?_) (fun c90 => ?_)
          ·
            have oc4 : (4 : Int32).toInt = 4 := by decide
            have oc6 : (6 : Int32).toInt = 6 := by decide
            have cc91 : (6 : Int32).toInt ≤ (4 : Int32).toInt := i32_le.mp c90
            exact In.empty (lo := 6) (hi := 4) (In.ge1 (⟨by decide, by decide⟩ : In 4 4 4) (⟨by decide, by decide⟩ : In 6 6 6) cc91 (by decide) (by decide)) (by decide)
          ·
            have oc4 : (4 : Int32).toInt = 4 := by decide
            have oc6 : (6 : Int32).toInt = 6 := by decide
            have cc92 : (4 : Int32).toInt < (6 : Int32).toInt := i32_nle c90
            refine lv_aload_n hx hb dX11_readsCouncil_23 rfl (lv_at hl 1 rfl) ?_
            refine pl_get (v := .ref (ad 257)) hx hb hts (fun w h => mT (inX11 w h)) hown hG.1 hP (hst.1 255 (by decide)) hf89 rfl 7 (by decide) (hts _ (mT wg_1343)) (fun _ h => h) rfl dX11_readsCouncil_24 ?_
            refine lv_iload_n hx hb dX11_readsCouncil_27 rfl (lv_at hl 0 rfl) ?_
            refine lv_iconst (v := 0) hx hb dX11_readsCouncil_28 (by decide) ?_
            refine pl_iastE hx hb hG.1 hP hD hS (hst.1 257 (by decide)) 0 hf80 rfl (In.inb (⟨by decide, by decide⟩ : In 4 4 4) (by decide) (by decide)) dX11_readsCouncil_29 (fun H locs f93 r96 er96 hf94 ho95 hP hD hS => ?_)
            have hpn97 : In (r96 0) 0 9 := (upd_neI (k := 0) er96 (by decide)) ▸ hpn83
            have hpg98 := (congrArg Int32.toInt (upd_neI (k := 0) er96 (by decide))).trans hpg84
            have hpn99 : In (r96 1) 0 4 := (upd_neI (k := 1) er96 (by decide)) ▸ hpn85
            have hpn100 : In (r96 2) 0 6 := (upd_neI (k := 2) er96 (by decide)) ▸ hpn86
            have hpn101 : In (r96 4) 0 511 := (upd_eqI (k := 4) er96 (by decide)) ▸ (⟨by decide, by decide⟩ : In 0 0 511)
            have hpg102 : (r96 4).toInt = (0 : Int32).toInt := congrArg Int32.toInt (upd_eqI (k := 4) er96 (by decide))
            have hf103 := (ho95 (ad 255) (hst.ne (by decide) (by decide) (by decide))).trans hf89
            have hfr : (∀ b, b ≠ (ad 255) → b ≠ (ad 257) → f93 b = f b) := fun b z0_ z1_ => (ho95 b z1_).trans (hfr b z0_ z1_)
            refine lv_iinc (v := 5) (lv' := [(1, .int 5), (0, .ref (ad 255))]) hx hb dX11_readsCouncil_30 hl (k := 0) rfl (by decide) (by decide) rfl (fun ls hl => ?_)
            have hT := TI.updMG (th' := (gset (gset (gset (gset (gset th 37 0) 42 (-1)) 35 0) 30 0) 34 0)) hT hst (k := 2) (by decide) hf94 ho95 ⟨r96, rfl, hpn97, (hpg98.trans rfl), hpn99, hpn100, hpn101, (hpg102.trans (show (0 : Int32).toInt = (0 : Int) by decide))⟩ (fun q hq => ((gset_ne (fun e => hq (by subst e; decide))).trans rfl))
            refine lv_goto (tgt := 17) hx hb dX11_readsCouncil_33 (by decide) ?_
            refine lv_iload_n hx hb dX11_readsCouncil_17 rfl (lv_at hl 0 rfl) ?_
            refine lv_bipush (v := 6) hx hb dX11_readsCouncil_18 (by decide) ?_
            refine lv_icmp_ge (tgt := 36) hx hb dX11_readsCouncil_20 (by decide) (fun c104 => ?_) (fun c104 => ?_)
            ·
              have oc5 : (5 : Int32).toInt = 5 := by decide
              have oc6 : (6 : Int32).toInt = 6 := by decide
              have cc105 : (6 : Int32).toInt ≤ (5 : Int32).toInt := i32_le.mp c104
              exact In.empty (lo := 6) (hi := 5) (In.ge1 (⟨by decide, by decide⟩ : In 5 5 5) (⟨by decide, by decide⟩ : In 6 6 6) cc105 (by decide) (by decide)) (by decide)
            ·
              have oc5 : (5 : Int32).toInt = 5 := by decide
              have oc6 : (6 : Int32).toInt = 6 := by decide
              have cc106 : (5 : Int32).toInt < (6 : Int32).toInt := i32_nle c104
              refine lv_aload_n hx hb dX11_readsCouncil_23 rfl (lv_at hl 1 rfl) ?_
              refine M0e hT (fun v0_107 v2_107 v3_107 v4_107 v5_107 v6_107 v8_107 v9_107 v12_107 v13_107 v14_107 v15_107 v16_107 v17_107 v18_107 v19_107 v20_107 v21_107 v22_107 v23_107 v25_107 v36_107 v37_107 v38_107 v39_107 v40_107 v45_107 v46_107 v47_107 v48_107 v50_107 v51_107 v53_107 v55_107 hf108 hv0_107 hv2_107 hg2_107 hv3_107 hg3_107 hv4_107 hg4_107 hv5_107 hg5_107 hv6_107 hg6_107 hv8_107 hg8_107 hv9_107 hg9_107 hv12_107 hv13_107 hg13_107 hv14_107 hg14_107 hv15_107 hg15_107 hv17_107 hg17_107 hv20_107 hg20_107 hv23_107 hg23_107 hv25_107 hg25_107 hv36_107 hg36_107 hv47_107 hg47_107 hv48_107 hg48_107 hv53_107 hg53_107 hv55_107 hg55_107 hrel0_107 => ?_)
              have hg15_107 : v15_107.toInt = th 11 := hg15_107
              have hg17_107 : v17_107.toInt = th 12 := hg17_107
              have hg20_107 : v20_107.toInt = th 14 := hg20_107
              refine pl_get (v := .ref (ad 257)) hx hb hts (fun w h => mT (inX11 w h)) hown hG.1 hP (hst.1 255 (by decide)) hf108 rfl 7 (by decide) (hts _ (mT wg_1343)) (fun _ h => h) rfl dX11_readsCouncil_24 ?_
              refine lv_iload_n hx hb dX11_readsCouncil_27 rfl (lv_at hl 0 rfl) ?_
              refine lv_iconst (v := 0) hx hb dX11_readsCouncil_28 (by decide) ?_
              obtain ⟨rw109, hf110, hpn111, hpg112, hpn113, hpn114, hpn115, hpg116⟩ := hT.2.2 2 (by decide)
              refine pl_iastE hx hb hG.1 hP hD hS (hst.1 257 (by decide)) 0 hf110 rfl (In.inb (⟨by decide, by decide⟩ : In 5 5 5) (by decide) (by decide)) dX11_readsCouncil_29 (fun H locs f117 r120 er120 hf118 ho119 hP hD hS => ?_)
              have hpn121 : In (r120 0) 0 9 := (upd_neI (k := 0) er120 (by decide)) ▸ hpn111
              have hpg122 := (congrArg Int32.toInt (upd_neI (k := 0) er120 (by decide))).trans hpg112
              have hpn123 : In (r120 1) 0 4 := (upd_neI (k := 1) er120 (by decide)) ▸ hpn113
              have hpn124 : In (r120 2) 0 6 := (upd_neI (k := 2) er120 (by decide)) ▸ hpn114
              have hpn125 : In (r120 4) 0 511 := (upd_neI (k := 4) er120 (by decide)) ▸ hpn115
              have hpg126 := (congrArg Int32.toInt (upd_neI (k := 4) er120 (by decide))).trans hpg116
              have hf127 := (ho119 (ad 255) (hst.ne (by decide) (by decide) (by decide))).trans hf108
              have hfr : (∀ b, b ≠ (ad 255) → b ≠ (ad 257) → f117 b = f b) := fun b z0_ z1_ => (ho119 b z1_).trans (hfr b z0_ z1_)
              refine lv_iinc (v := 6) (lv' := [(1, .int 6), (0, .ref (ad 255))]) hx hb dX11_readsCouncil_30 hl (k := 0) rfl (by decide) (by decide) rfl (fun ls hl => ?_)
              have hT := TI.updM hT hst (k := 2) (by decide) hf118 ho119 ⟨r120, rfl, hpn121, (hpg122.trans rfl), hpn123, hpn124, hpn125, (hpg126.trans rfl)⟩
              refine lv_goto (tgt := 17) hx hb dX11_readsCouncil_33 (by decide) ?_
              refine lv_iload_n hx hb dX11_readsCouncil_17 rfl (lv_at hl 0 rfl) ?_
              refine lv_bipush (v := 6) hx hb dX11_readsCouncil_18 (by decide) ?_
              refine lv_icmp_ge (tgt := 36) hx hb dX11_readsCouncil_20 (by decide) (fun c128 => ?_) (fun c128 => ?_)
              ·
                have oc6 : (6 : Int32).toInt = 6 := by decide
                have oc6 : (6 : Int32).toInt = 6 := by decide
                have cc129 : (6 : Int32).toInt ≤ (6 : Int32).toInt := i32_le.mp c128
                refine lv_aload_n hx hb dX11_readsCouncil_36 rfl (lv_at hl 1 rfl) ?_
                refine call_i (run_V (rm := rm_X11_look) hx hb hml hown hts (s_X11_look l g ad (gset (gset (gset (gset (gset th 37 0) 42 (-1)) 35 0) 30 0) 34 0) _ _ _  hst hT ) cV_X11_look wg_1529 ⟨Nat.le_of_ble_eq_true rfl, Nat.le_of_ble_eq_true rfl⟩ hG hE hA hP hD hS (hst.1 255 (by decide)) hf127 rfl rfl hl.1 (As := []) (rest := []) rfl (Nat.le_of_ble_eq_true rfl) dX11_readsCouncil_37 ⟨Nat.le_of_ble_eq_true rfl, Nat.le_of_ble_eq_true rfl⟩) hA hD hS (fun r130 L131 f132 H locs hp133 hP hD hS => ?_)
                obtain ⟨eL134L, eL134T, eL134F, eL134R⟩ := hp133
                have eL134L : L131 = L := eL134L
                rw [eL134L] at hP hD
                obtain ⟨zz135, hzz135, eL134T⟩ := eL134T
                have hgk136 : (gset (gset (gset (gset (gset th 37 0) 42 (-1)) 35 0) 30 0) 34 0) 37 = 0 := rfl
                have hgk137 : (gset (gset (gset (gset (gset th 37 0) 42 (-1)) 35 0) 30 0) 34 0) 13 = th 13 := rfl
                have hT : TI g ad (gset (gset (gset (gset (gset (gset th 37 0) 42 (-1)) 35 0) 30 0) 34 0) 37 zz135) f132 := eL134T
                have hT : TI g ad (gset (gset (gset (gset (gset th 42 (-1)) 35 0) 30 0) 34 0) 37 zz135) f132 := TI.cast hT (by funext q; by_cases hq0 : q = 37; (subst hq0; rfl); by_cases hq1 : q = 34; (subst hq1; rfl); by_cases hq2 : q = 30; (subst hq2; rfl); by_cases hq3 : q = 35; (subst hq3; rfl); by_cases hq4 : q = 42; (subst hq4; rfl); simp only [gset, if_neg hq0, if_neg hq1, if_neg hq2, if_neg hq3, if_neg hq4])
                have eL134F : ∀ b, b ≠ (ad 255) → f132 b = f117 b := eL134F
                have hfr : (∀ b, b ≠ (ad 255) → b ≠ (ad 257) → f132 b = f b) := fun b z0_ z1_ => (eL134F b z0_).trans (hfr b z0_ z1_)
                have eL134R : In r130 (-1) 255 := eL134R
                refine lv_istore_n (lv' := [(1, .int r130), (0, .ref (ad 255))]) hx hb dX11_readsCouncil_40 rfl hl (by decide) rfl (fun ls hl => ?_)
                refine lv_aload_n hx hb dX11_readsCouncil_41 rfl (lv_at hl 1 rfl) ?_
                refine lv_aload_n hx hb dX11_readsCouncil_42 rfl (lv_at hl 1 rfl) ?_
                refine va_ldcS hx hb hown (hG.2.2.1 ("RulerWordModel", 174, "king", 0) (by decide +kernel)) dX11_readsCouncil_43 ?_
                refine M0e hT (fun v0_138 v2_138 v3_138 v4_138 v5_138 v6_138 v8_138 v9_138 v12_138 v13_138 v14_138 v15_138 v16_138 v17_138 v18_138 v19_138 v20_138 v21_138 v22_138 v23_138 v25_138 v36_138 v37_138 v38_138 v39_138 v40_138 v45_138 v46_138 v47_138 v48_138 v50_138 v51_138 v53_138 v55_138 hf139 hv0_138 hv2_138 hg2_138 hv3_138 hg3_138 hv4_138 hg4_138 hv5_138 hg5_138 hv6_138 hg6_138 hv8_138 hg8_138 hv9_138 hg9_138 hv12_138 hv13_138 hg13_138 hv14_138 hg14_138 hv15_138 hg15_138 hv17_138 hg17_138 hv20_138 hg20_138 hv23_138 hg23_138 hv25_138 hg25_138 hv36_138 hg36_138 hv47_138 hg47_138 hv48_138 hg48_138 hv53_138 hg53_138 hv55_138 hg55_138 hrel0_138 => ?_)
                have hg15_138 : v15_138.toInt = th 11 := hg15_138
                have hg17_138 : v17_138.toInt = th 12 := hg17_138
                have hg20_138 : v20_138.toInt = th 14 := hg20_138
                refine call_i (run_V (rm := rm_X11_takes) hx hb hml hown hts (s_X11_takes l g ad (gset (gset (gset (gset (gset th 42 (-1)) 35 0) 30 0) 34 0) 37 zz135) _ _ _ 0 hst hT (by decide)) cV_X11_takes wg_1538 ⟨Nat.le_of_ble_eq_true rfl, Nat.le_of_ble_eq_true rfl⟩ hG hE hA hP hD hS (hst.1 255 (by decide)) hf139 rfl rfl hl.1 (As := [.ref (g.2.2.1 0)]) (rest := [.ref (ad 255)]) rfl (Nat.le_of_ble_eq_true rfl) dX11_readsCouncil_45 ⟨Nat.le_of_ble_eq_true rfl, Nat.le_of_ble_eq_true rfl⟩) hA hD hS (fun r140 L141 f142 H locs hp143 hP hD hS => ?_)
                obtain ⟨eL144L, eL144T, eL144F, eL144R⟩ := hp143
                have eL144L : L141 = L := eL144L
                rw [eL144L] at hP hD
                obtain ⟨zz145, hzz145, eL144T⟩ := eL144T
                have hzz145 : zz135 ≤ zz145 ∧ zz145 ≤ 500 := hzz145
                have hT : TI g ad (gset (gset (gset (gset (gset (gset th 42 (-1)) 35 0) 30 0) 34 0) 37 zz135) 37 zz145) f142 := eL144T
                have hT : TI g ad (gset (gset (gset (gset (gset th 42 (-1)) 35 0) 30 0) 34 0) 37 zz145) f142 := TI.cast hT (by funext q; by_cases hq0 : q = 37; (subst hq0; rfl); by_cases hq1 : q = 34; (subst hq1; rfl); by_cases hq2 : q = 30; (subst hq2; rfl); by_cases hq3 : q = 35; (subst hq3; rfl); by_cases hq4 : q = 42; (subst hq4; rfl); simp only [gset, if_neg hq0, if_neg hq1, if_neg hq2, if_neg hq3, if_neg hq4])
                have eL144F : ∀ b, b ≠ (ad 255) → f142 b = f132 b := eL144F
                have hfr : (∀ b, b ≠ (ad 255) → b ≠ (ad 257) → f142 b = f b) := fun b z0_ z1_ => (eL144F b z0_).trans (hfr b z0_ z1_)
                have eL144R : In r140 0 1 := eL144R
                have hJ69 : ∀ (zg69_za : Int) (zg69_zr : Int) (zg69_zl : Int) (zg69_ze : Int) (zg69_zt : Int) (zg69_zs : Int) (zg69_zf : Int) (zg69_zq : Int) (y69_s0 : Int32) (f_69 : HP) (H : Heap) (locs : List Loc) (ls : Array Slot), (0 ≤ zg69_za ∧ zg69_za ≤ 500) ∧ DIp zg69_zt zg69_zs zg69_zf → In y69_s0 (-1) 1 → va_P g.1 vwCl (va_pl L f_69) H → va_D A (va_pl L f_69) → va_S A s.heap H locs → TI g ad (gset (gset (gset (gset (gset (gset (gset (gset th 37 zg69_za) 40 zg69_zr) 41 zg69_zl) 42 zg69_ze) 35 zg69_zt) 30 zg69_zs) 34 zg69_zf) 43 zg69_zq) f_69 → (∀ b, b ≠ (ad 255) → b ≠ (ad 257) → f_69 b = f b) → lv_has ls 2 [(0, .ref (ad 255)), (1, .int r130)] → W p l e rm_X11_readsCouncil s m [.ref (ad 255)].toArray below meth c H locs 0 0 (MQ below (va_Qi (po_X11_readsCouncil g ad th L f ) (PstB g A) A) [.ref (ad 255)].toArray s rm_X11_readsCouncil.cells rm_X11_readsCouncil.slots A) (F0 m 69 ls [.int y69_s0, .ref (ad 255)]) := by
                  intro zg69_za zg69_zr zg69_zl zg69_ze zg69_zt zg69_zs zg69_zf zg69_zq y69_s0 f_69 H locs ls hzg69 hy69_s0 hP hD hS hT hfr hl
                  refine M0e hT (fun v0_146 v2_146 v3_146 v4_146 v5_146 v6_146 v8_146 v9_146 v12_146 v13_146 v14_146 v15_146 v16_146 v17_146 v18_146 v19_146 v20_146 v21_146 v22_146 v23_146 v25_146 v36_146 v37_146 v38_146 v39_146 v40_146 v45_146 v46_146 v47_146 v48_146 v50_146 v51_146 v53_146 v55_146 hf147 hv0_146 hv2_146 hg2_146 hv3_146 hg3_146 hv4_146 hg4_146 hv5_146 hg5_146 hv6_146 hg6_146 hv8_146 hg8_146 hv9_146 hg9_146 hv12_146 hv13_146 hg13_146 hv14_146 hg14_146 hv15_146 hg15_146 hv17_146 hg17_146 hv20_146 hg20_146 hv23_146 hg23_146 hv25_146 hg25_146 hv36_146 hg36_146 hv47_146 hg47_146 hv48_146 hg48_146 hv53_146 hg53_146 hv55_146 hg55_146 hrel0_146 => ?_)
                  have hg15_146 : v15_146.toInt = th 11 := hg15_146
                  have hg17_146 : v17_146.toInt = th 12 := hg17_146
                  have hg20_146 : v20_146.toInt = th 14 := hg20_146
                  refine pl_put (ty := .int) (v := .int y69_s0) (fs' := [.int v0_146, .ref (ad 256), .int v2_146, .int v3_146, .int v4_146, .int v5_146, .int v6_146, .ref (ad 257), .int y69_s0, .int v9_146, .ref (ad 258), .ref (ad 259), .int v12_146, .int v13_146, .int v14_146, .int v15_146, .int v16_146, .int v17_146, .int v18_146, .int v19_146, .int v20_146, .long v21_146, .long v22_146, .int v23_146, .ref (ad 260), .int v25_146, .ref (ad 261), .ref (ad 262), .ref (ad 263), .ref (ad 264), .ref (ad 265), .ref (ad 266), .ref (ad 267), .ref (ad 268), .ref (ad 269), .ref (ad 270), .int v36_146, .int v37_146, .int v38_146, .int v39_146, .int v40_146, .ref (ad 271), .ref (ad 272), .ref (ad 273), .ref (ad 274), .long v45_146, .long v46_146, .int v47_146, .int v48_146, .ref (ad 275), .int v50_146, .int v51_146, .ref (ad 276), .int v53_146, .ref (ad 277), .int v55_146]) hx hb hts (fun w h => mT (inX11 w h)) tyX11 tyX11_ok nmX11 hown hG.1 hP hD hS (hst.1 255 (by decide)) hf147 rfl 8 (by decide) (hts _ (mT wg_1344)) (fun _ h => h) rfl (by decide +kernel) (rfl) (rfl) (Nat.le_of_ble_eq_true rfl) rfl dX11_readsCouncil_69 (fun H locs f148 hf149 ho150 hP hD hS => ?_)
                  have hfr : (∀ b, b ≠ (ad 255) → b ≠ (ad 257) → f148 b = f b) := fun b z0_ z1_ => (ho150 b z0_).trans (hfr b z0_ z1_)
                  refine lv_aload_n hx hb dX11_readsCouncil_72 rfl (lv_at hl 0 rfl) ?_
                  refine pl_get (v := .int y69_s0) hx hb hts (fun w h => mT (inX11 w h)) hown hG.1 hP (hst.1 255 (by decide)) hf149 rfl 8 (by decide) (hts _ (mT wg_1344)) (fun _ h => h) rfl dX11_readsCouncil_73 ?_
                  refine lv_iconst (v := (-1)) hx hb dX11_readsCouncil_76 (by decide) ?_
                  have hT := TI.updMG (th' := (gset (gset (gset (gset (gset (gset (gset (gset (gset th 37 zg69_za) 40 zg69_zr) 41 zg69_zl) 42 zg69_ze) 35 zg69_zt) 30 zg69_zs) 34 zg69_zf) 43 zg69_zq) 43 (y69_s0.toInt))) hT hst (k := 0) (by decide) hf149 ho150 ⟨v0_146, v2_146, v3_146, v4_146, v5_146, v6_146, y69_s0, v9_146, v12_146, v13_146, v14_146, v15_146, v16_146, v17_146, v18_146, v19_146, v20_146, v21_146, v22_146, v23_146, v25_146, v36_146, v37_146, v38_146, v39_146, v40_146, v45_146, v46_146, v47_146, v48_146, v50_146, v51_146, v53_146, v55_146, rfl, hv0_146, hv2_146, hg2_146, hv3_146, hg3_146, hv4_146, hg4_146, hv5_146, hg5_146, hv6_146, hg6_146, hy69_s0, rfl, hv9_146, hg9_146, hv12_146, hv13_146, hg13_146, hv14_146, hg14_146, hv15_146, hg15_146, hv17_146, hg17_146, hv20_146, hg20_146, hv23_146, hg23_146, hv25_146, hg25_146, hv36_146, hg36_146, hv47_146, hg47_146, hv48_146, hg48_146, hv53_146, hg53_146, hv55_146, hg55_146, hrel0_146⟩ (fun q hq => ((gset_ne (fun e => hq (by subst e; decide))).trans rfl))
                  have hT : TI g ad (gset (gset (gset (gset (gset (gset (gset (gset th 37 zg69_za) 40 zg69_zr) 41 zg69_zl) 42 zg69_ze) 35 zg69_zt) 30 zg69_zs) 34 zg69_zf) 43 y69_s0.toInt) f148 := TI.cast hT (by funext q; by_cases hq0 : q = 43; (subst hq0; rfl); by_cases hq1 : q = 34; (subst hq1; rfl); by_cases hq2 : q = 30; (subst hq2; rfl); by_cases hq3 : q = 35; (subst hq3; rfl); by_cases hq4 : q = 42; (subst hq4; rfl); by_cases hq5 : q = 41; (subst hq5; rfl); by_cases hq6 : q = 40; (subst hq6; rfl); by_cases hq7 : q = 37; (subst hq7; rfl); simp only [gset, if_neg hq0, if_neg hq1, if_neg hq2, if_neg hq3, if_neg hq4, if_neg hq5, if_neg hq6, if_neg hq7])
                  have hJ88 : ∀ (k88 : Nat) (zg88_za : Int) (zg88_zr : Int) (zg88_zl : Int) (zg88_ze : Int) (zg88_zt : Int) (zg88_zs : Int) (zg88_zf : Int) (zg88_zq : Int) (f_88 : HP) (H : Heap) (locs : List Loc) (ls : Array Slot), ((0 ≤ zg88_za ∧ zg88_za ≤ 500) ∧ (0 ≤ zg88_ze ∨ 0 ≤ zg88_zq)) ∧ DIp zg88_zt zg88_zs zg88_zf → va_P g.1 vwCl (va_pl L f_88) H → va_D A (va_pl L f_88) → va_S A s.heap H locs → TI g ad (gset (gset (gset (gset (gset (gset (gset (gset th 37 zg88_za) 40 zg88_zr) 41 zg88_zl) 42 zg88_ze) 35 zg88_zt) 30 zg88_zs) 34 zg88_zf) 43 zg88_zq) f_88 → (∀ b, b ≠ (ad 255) → b ≠ (ad 257) → f_88 b = f b) → lv_has ls 2 [(0, .ref (ad 255)), (1, .int r130)] → 500 - zg88_za < ((k88 : Nat) : Int) → W p l e rm_X11_readsCouncil s m [.ref (ad 255)].toArray below meth c H locs 0 0 (MQ below (va_Qi (po_X11_readsCouncil g ad th L f ) (PstB g A) A) [.ref (ad 255)].toArray s rm_X11_readsCouncil.cells rm_X11_readsCouncil.slots A) (F0 m 88 ls []) := by
                    intro k88
                    induction k88 with
                    | zero =>
                      intro zg88_za zg88_zr zg88_zl zg88_ze zg88_zt zg88_zs zg88_zf zg88_zq f_88 H locs ls hzg88 hP hD hS hT hfr hl hmz88
                      exact absurd hmz88 (by omega)
                    | succ k88 ih88 =>
                      intro zg88_za zg88_zr zg88_zl zg88_ze zg88_zt zg88_zs zg88_zf zg88_zq f_88 H locs ls hzg88 hP hD hS hT hfr hl hmz88
                      refine lv_aload_n hx hb dX11_readsCouncil_88 rfl (lv_at hl 0 rfl) ?_
                      refine M0e hT (fun v0_151 v2_151 v3_151 v4_151 v5_151 v6_151 v8_151 v9_151 v12_151 v13_151 v14_151 v15_151 v16_151 v17_151 v18_151 v19_151 v20_151 v21_151 v22_151 v23_151 v25_151 v36_151 v37_151 v38_151 v39_151 v40_151 v45_151 v46_151 v47_151 v48_151 v50_151 v51_151 v53_151 v55_151 hf152 hv0_151 hv2_151 hg2_151 hv3_151 hg3_151 hv4_151 hg4_151 hv5_151 hg5_151 hv6_151 hg6_151 hv8_151 hg8_151 hv9_151 hg9_151 hv12_151 hv13_151 hg13_151 hv14_151 hg14_151 hv15_151 hg15_151 hv17_151 hg17_151 hv20_151 hg20_151 hv23_151 hg23_151 hv25_151 hg25_151 hv36_151 hg36_151 hv47_151 hg47_151 hv48_151 hg48_151 hv53_151 hg53_151 hv55_151 hg55_151 hrel0_151 => ?_)
                      have hg15_151 : v15_151.toInt = th 11 := hg15_151
                      have hg17_151 : v17_151.toInt = th 12 := hg17_151
                      have hg20_151 : v20_151.toInt = th 14 := hg20_151
                      refine pl_get (v := .int v4_151) hx hb hts (fun w h => mT (inX11 w h)) hown hG.1 hP (hst.1 255 (by decide)) hf152 rfl 4 (by decide) (hts _ (mT wg_1340)) (fun _ h => h) rfl dX11_readsCouncil_89 ?_
                      have hg4_151 : v4_151.toInt = zg88_ze := hg4_151
                      refine lv_iconst (v := (-1)) hx hb dX11_readsCouncil_92 (by decide) ?_
                      have hJ122 : ∀ (zg122_za : Int) (zg122_zr : Int) (zg122_zl : Int) (zg122_ze : Int) (zg122_zt : Int) (zg122_zs : Int) (zg122_zf : Int) (zg122_zq : Int) (f_122 : HP) (H : Heap) (locs : List Loc) (ls : Array Slot), ((0 ≤ zg122_za ∧ zg122_za ≤ 500) ∧ (0 ≤ zg122_ze ∨ 0 ≤ zg122_zq)) ∧ DIp zg122_zt zg122_zs zg122_zf → va_P g.1 vwCl (va_pl L f_122) H → va_D A (va_pl L f_122) → va_S A s.heap H locs → TI g ad (gset (gset (gset (gset (gset (gset (gset (gset th 37 zg122_za) 40 zg122_zr) 41 zg122_zl) 42 zg122_ze) 35 zg122_zt) 30 zg122_zs) 34 zg122_zf) 43 zg122_zq) f_122 → (∀ b, b ≠ (ad 255) → b ≠ (ad 257) → f_122 b = f b) → lv_has ls 2 [(0, .ref (ad 255)), (1, .int r130)] → W p l e rm_X11_readsCouncil s m [.ref (ad 255)].toArray below meth c H locs 0 0 (MQ below (va_Qi (po_X11_readsCouncil g ad th L f ) (PstB g A) A) [.ref (ad 255)].toArray s rm_X11_readsCouncil.cells rm_X11_readsCouncil.slots A) (F0 m 122 ls []) := by
                        intro zg122_za zg122_zr zg122_zl zg122_ze zg122_zt zg122_zs zg122_zf zg122_zq f_122 H locs ls hzg122 hP hD hS hT hfr hl
                        refine lv_aload_n hx hb dX11_readsCouncil_122 rfl (lv_at hl 0 rfl) ?_
                        refine M0e hT (fun v0_153 v2_153 v3_153 v4_153 v5_153 v6_153 v8_153 v9_153 v12_153 v13_153 v14_153 v15_153 v16_153 v17_153 v18_153 v19_153 v20_153 v21_153 v22_153 v23_153 v25_153 v36_153 v37_153 v38_153 v39_153 v40_153 v45_153 v46_153 v47_153 v48_153 v50_153 v51_153 v53_153 v55_153 hf154 hv0_153 hv2_153 hg2_153 hv3_153 hg3_153 hv4_153 hg4_153 hv5_153 hg5_153 hv6_153 hg6_153 hv8_153 hg8_153 hv9_153 hg9_153 hv12_153 hv13_153 hg13_153 hv14_153 hg14_153 hv15_153 hg15_153 hv17_153 hg17_153 hv20_153 hg20_153 hv23_153 hg23_153 hv25_153 hg25_153 hv36_153 hg36_153 hv47_153 hg47_153 hv48_153 hg48_153 hv53_153 hg53_153 hv55_153 hg55_153 hrel0_153 => ?_)
                        have hg15_153 : v15_153.toInt = th 11 := hg15_153
                        have hg17_153 : v17_153.toInt = th 12 := hg17_153
                        have hg20_153 : v20_153.toInt = th 14 := hg20_153
                        refine pl_get (v := .int v4_153) hx hb hts (fun w h => mT (inX11 w h)) hown hG.1 hP (hst.1 255 (by decide)) hf154 rfl 4 (by decide) (hts _ (mT wg_1340)) (fun _ h => h) rfl dX11_readsCouncil_123 ?_
                        have hg4_153 : v4_153.toInt = zg122_ze := hg4_153
                        refine lv_iconst (v := (-1)) hx hb dX11_readsCouncil_126 (by decide) ?_
                        have hJ157 : ∀ (zg157_za : Int) (zg157_zr : Int) (zg157_zl : Int) (zg157_ze : Int) (zg157_zt : Int) (zg157_zs : Int) (zg157_zf : Int) (zg157_zq : Int) (f_157 : HP) (H : Heap) (locs : List Loc) (ls : Array Slot), (((0 ≤ zg157_za ∧ zg157_za ≤ 500) ∧ (0 ≤ zg157_ze ∨ 0 ≤ zg157_zq)) ∧ DIp zg157_zt zg157_zs zg157_zf) ∧ (0 ≤ zg157_ze ∨ zg157_zt % 2 = 1) → va_P g.1 vwCl (va_pl L f_157) H → va_D A (va_pl L f_157) → va_S A s.heap H locs → TI g ad (gset (gset (gset (gset (gset (gset (gset (gset th 37 zg157_za) 40 zg157_zr) 41 zg157_zl) 42 zg157_ze) 35 zg157_zt) 30 zg157_zs) 34 zg157_zf) 43 zg157_zq) f_157 → (∀ b, b ≠ (ad 255) → b ≠ (ad 257) → f_157 b = f b) → lv_has ls 2 [(0, .ref (ad 255)), (1, .int r130)] → W p l e rm_X11_readsCouncil s m [.ref (ad 255)].toArray below meth c H locs 0 0 (MQ below (va_Qi (po_X11_readsCouncil g ad th L f ) (PstB g A) A) [.ref (ad 255)].toArray s rm_X11_readsCouncil.cells rm_X11_readsCouncil.slots A) (F0 m 157 ls []) := by
                          intro zg157_za zg157_zr zg157_zl zg157_ze zg157_zt zg157_zs zg157_zf zg157_zq f_157 H locs ls hzg157 hP hD hS hT hfr hl
                          refine lv_aload_n hx hb dX11_readsCouncil_157 rfl (lv_at hl 0 rfl) ?_
                          refine M0e hT (fun v0_155 v2_155 v3_155 v4_155 v5_155 v6_155 v8_155 v9_155 v12_155 v13_155 v14_155 v15_155 v16_155 v17_155 v18_155 v19_155 v20_155 v21_155 v22_155 v23_155 v25_155 v36_155 v37_155 v38_155 v39_155 v40_155 v45_155 v46_155 v47_155 v48_155 v50_155 v51_155 v53_155 v55_155 hf156 hv0_155 hv2_155 hg2_155 hv3_155 hg3_155 hv4_155 hg4_155 hv5_155 hg5_155 hv6_155 hg6_155 hv8_155 hg8_155 hv9_155 hg9_155 hv12_155 hv13_155 hg13_155 hv14_155 hg14_155 hv15_155 hg15_155 hv17_155 hg17_155 hv20_155 hg20_155 hv23_155 hg23_155 hv25_155 hg25_155 hv36_155 hg36_155 hv47_155 hg47_155 hv48_155 hg48_155 hv53_155 hg53_155 hv55_155 hg55_155 hrel0_155 => ?_)
                          have hg15_155 : v15_155.toInt = th 11 := hg15_155
                          have hg17_155 : v17_155.toInt = th 12 := hg17_155
                          have hg20_155 : v20_155.toInt = th 14 := hg20_155
                          refine pl_get (v := .int v9_155) hx hb hts (fun w h => mT (inX11 w h)) hown hG.1 hP (hst.1 255 (by decide)) hf156 rfl 9 (by decide) (hts _ (mT wg_1345)) (fun _ h => h) rfl dX11_readsCouncil_158 ?_
                          have hg9_155 : v9_155.toInt = zg157_zt := hg9_155
                          refine lv_iconst (v := 1) hx hb dX11_readsCouncil_161 (by decide) ?_
                          refine call_i (run_S (rm := rm_X11_has) hx hb hml hown hts (s_X11_has l g ad (gset (gset (gset (gset (gset (gset (gset (gset th 37 zg157_za) 40 zg157_zr) 41 zg157_zl) 42 zg157_ze) 35 zg157_zt) 30 zg157_zs) 34 zg157_zf) 43 zg157_zq) _ _ _ v9_155 1 hst hT ) cS_X11_has wg_1563 ⟨Nat.le_of_ble_eq_true rfl, Nat.le_of_ble_eq_true rfl⟩ hG hE hA hP hD hS rfl hl.1 (As := [.int v9_155, .int 1]) (rest := []) rfl (Nat.le_of_ble_eq_true rfl) dX11_readsCouncil_162 ⟨Nat.le_of_ble_eq_true rfl, Nat.le_of_ble_eq_true rfl⟩) hA hD hS (fun r157 L158 f159 H locs hp160 hP hD hS => ?_)
                          obtain ⟨eL161L, eL161T, eL161R, eL161X0⟩ := hp160
                          have eL161L : L158 = L := eL161L
                          have eL161T : f159 = f_157 := eL161T
                          rw [eL161L, eL161T] at hP hD
                          have eL161R : In r157 0 1 := eL161R
                          have hbt162 : r157.toInt = bitI zg157_zt 1 := (eL161X0 (Int.le_trans (by decide) hv9_155.1) (⟨by decide, by decide⟩ : In 1 0 30)).trans (by rw [hg9_155, show (1 : Int32).toInt = 1 by decide])
                          have hJ195 : ∀ (zg195_za : Int) (zg195_zr : Int) (zg195_zl : Int) (zg195_ze : Int) (zg195_zt : Int) (zg195_zs : Int) (zg195_zf : Int) (zg195_zq : Int) (f_195 : HP) (H : Heap) (locs : List Loc) (ls : Array Slot), (((0 ≤ zg195_za ∧ zg195_za ≤ 500) ∧ (0 ≤ zg195_ze ∨ 0 ≤ zg195_zq)) ∧ DIp zg195_zt zg195_zs zg195_zf) ∧ (0 ≤ zg195_ze ∨ zg195_zt % 2 = 1) → va_P g.1 vwCl (va_pl L f_195) H → va_D A (va_pl L f_195) → va_S A s.heap H locs → TI g ad (gset (gset (gset (gset (gset (gset (gset (gset th 37 zg195_za) 40 zg195_zr) 41 zg195_zl) 42 zg195_ze) 35 zg195_zt) 30 zg195_zs) 34 zg195_zf) 43 zg195_zq) f_195 → (∀ b, b ≠ (ad 255) → b ≠ (ad 257) → f_195 b = f b) → lv_has ls 2 [(0, .ref (ad 255)), (1, .int r130)] → W p l e rm_X11_readsCouncil s m [.ref (ad 255)].toArray below meth c H locs 0 0 (MQ below (va_Qi (po_X11_readsCouncil g ad th L f ) (PstB g A) A) [.ref (ad 255)].toArray s rm_X11_readsCouncil.cells rm_X11_readsCouncil.slots A) (F0 m 195 ls []) := by
                            intro zg195_za zg195_zr zg195_zl zg195_ze zg195_zt zg195_zs zg195_zf zg195_zq f_195 H locs ls hzg195 hP hD hS hT hfr hl
                            refine lv_aload_n hx hb dX11_readsCouncil_195 rfl (lv_at hl 0 rfl) ?_
                            refine M0e hT (fun v0_163 v2_163 v3_163 v4_163 v5_163 v6_163 v8_163 v9_163 v12_163 v13_163 v14_163 v15_163 v16_163 v17_163 v18_163 v19_163 v20_163 v21_163 v22_163 v23_163 v25_163 v36_163 v37_163 v38_163 v39_163 v40_163 v45_163 v46_163 v47_163 v48_163 v50_163 v51_163 v53_163 v55_163 hf164 hv0_163 hv2_163 hg2_163 hv3_163 hg3_163 hv4_163 hg4_163 hv5_163 hg5_163 hv6_163 hg6_163 hv8_163 hg8_163 hv9_163 hg9_163 hv12_163 hv13_163 hg13_163 hv14_163 hg14_163 hv15_163 hg15_163 hv17_163 hg17_163 hv20_163 hg20_163 hv23_163 hg23_163 hv25_163 hg25_163 hv36_163 hg36_163 hv47_163 hg47_163 hv48_163 hg48_163 hv53_163 hg53_163 hv55_163 hg55_163 hrel0_163 => ?_)
                            have hg15_163 : v15_163.toInt = th 11 := hg15_163
                            have hg17_163 : v17_163.toInt = th 12 := hg17_163
                            have hg20_163 : v20_163.toInt = th 14 := hg20_163
                            refine pl_get (v := .int v9_163) hx hb hts (fun w h => mT (inX11 w h)) hown hG.1 hP (hst.1 255 (by decide)) hf164 rfl 9 (by decide) (hts _ (mT wg_1345)) (fun _ h => h) rfl dX11_readsCouncil_196 ?_
                            have hg9_163 : v9_163.toInt = zg195_zt := hg9_163
                            refine lv_iconst (v := 2) hx hb dX11_readsCouncil_199 (by decide) ?_
                            refine call_i (run_S (rm := rm_X11_has) hx hb hml hown hts (s_X11_has l g ad (gset (gset (gset (gset (gset (gset (gset (gset th 37 zg195_za) 40 zg195_zr) 41 zg195_zl) 42 zg195_ze) 35 zg195_zt) 30 zg195_zs) 34 zg195_zf) 43 zg195_zq) _ _ _ v9_163 2 hst hT ) cS_X11_has wg_1563 ⟨Nat.le_of_ble_eq_true rfl, Nat.le_of_ble_eq_true rfl⟩ hG hE hA hP hD hS rfl hl.1 (As := [.int v9_163, .int 2]) (rest := []) rfl (Nat.le_of_ble_eq_true rfl) dX11_readsCouncil_200 ⟨Nat.le_of_ble_eq_true rfl, Nat.le_of_ble_eq_true rfl⟩) hA hD hS (fun r165 L166 f167 H locs hp168 hP hD hS => ?_)
                            obtain ⟨eL169L, eL169T, eL169R, eL169X0⟩ := hp168
                            have eL169L : L166 = L := eL169L
                            have eL169T : f167 = f_195 := eL169T
                            rw [eL169L, eL169T] at hP hD
                            have eL169R : In r165 0 1 := eL169R
                            have hbt170 : r165.toInt = bitI zg195_zt 2 := (eL169X0 (Int.le_trans (by decide) hv9_163.1) (⟨by decide, by decide⟩ : In 2 0 30)).trans (by rw [hg9_163, show (2 : Int32).toInt = 2 by decide])
                            have hJ220 : ∀ (zg220_za : Int) (zg220_zr : Int) (zg220_zl : Int) (zg220_ze : Int) (zg220_zt : Int) (zg220_zs : Int) (zg220_zf : Int) (zg220_zq : Int) (f_220 : HP) (H : Heap) (locs : List Loc) (ls : Array Slot), (((0 ≤ zg220_za ∧ zg220_za ≤ 500) ∧ (0 ≤ zg220_ze ∨ 0 ≤ zg220_zq)) ∧ DIp zg220_zt zg220_zs zg220_zf) ∧ (0 ≤ zg220_ze ∨ zg220_zt % 2 = 1) → va_P g.1 vwCl (va_pl L f_220) H → va_D A (va_pl L f_220) → va_S A s.heap H locs → TI g ad (gset (gset (gset (gset (gset (gset (gset (gset th 37 zg220_za) 40 zg220_zr) 41 zg220_zl) 42 zg220_ze) 35 zg220_zt) 30 zg220_zs) 34 zg220_zf) 43 zg220_zq) f_220 → (∀ b, b ≠ (ad 255) → b ≠ (ad 257) → f_220 b = f b) → lv_has ls 2 [(0, .ref (ad 255)), (1, .int r130)] → W p l e rm_X11_readsCouncil s m [.ref (ad 255)].toArray below meth c H locs 0 0 (MQ below (va_Qi (po_X11_readsCouncil g ad th L f ) (PstB g A) A) [.ref (ad 255)].toArray s rm_X11_readsCouncil.cells rm_X11_readsCouncil.slots A) (F0 m 220 ls []) := by
                              intro zg220_za zg220_zr zg220_zl zg220_ze zg220_zt zg220_zs zg220_zf zg220_zq f_220 H locs ls hzg220 hP hD hS hT hfr hl
                              refine lv_aload_n hx hb dX11_readsCouncil_220 rfl (lv_at hl 0 rfl) ?_
                              refine M0e hT (fun v0_171 v2_171 v3_171 v4_171 v5_171 v6_171 v8_171 v9_171 v12_171 v13_171 v14_171 v15_171 v16_171 v17_171 v18_171 v19_171 v20_171 v21_171 v22_171 v23_171 v25_171 v36_171 v37_171 v38_171 v39_171 v40_171 v45_171 v46_171 v47_171 v48_171 v50_171 v51_171 v53_171 v55_171 hf172 hv0_171 hv2_171 hg2_171 hv3_171 hg3_171 hv4_171 hg4_171 hv5_171 hg5_171 hv6_171 hg6_171 hv8_171 hg8_171 hv9_171 hg9_171 hv12_171 hv13_171 hg13_171 hv14_171 hg14_171 hv15_171 hg15_171 hv17_171 hg17_171 hv20_171 hg20_171 hv23_171 hg23_171 hv25_171 hg25_171 hv36_171 hg36_171 hv47_171 hg47_171 hv48_171 hg48_171 hv53_171 hg53_171 hv55_171 hg55_171 hrel0_171 => ?_)
                              have hg15_171 : v15_171.toInt = th 11 := hg15_171
                              have hg17_171 : v17_171.toInt = th 12 := hg17_171
                              have hg20_171 : v20_171.toInt = th 14 := hg20_171
                              refine pl_get (v := .int v4_171) hx hb hts (fun w h => mT (inX11 w h)) hown hG.1 hP (hst.1 255 (by decide)) hf172 rfl 4 (by decide) (hts _ (mT wg_1340)) (fun _ h => h) rfl dX11_readsCouncil_221 ?_
                              have hg4_171 : v4_171.toInt = zg220_ze := hg4_171
                              exact ret_i (ty := .int) hx hb hr hlocks (rfl) hP hD hS (Nat.le_of_ble_eq_true rfl) (Nat.le_of_ble_eq_true rfl) (⟨rfl, ⟨zg220_za, zg220_zr, zg220_zl, zg220_ze, zg220_zt, zg220_zs, zg220_zf, zg220_zq, (show (v4_171.toInt ≠ -1 ∨ ((zg220_zt % 2 = 1 ∧ 0 ≤ zg220_zq) ∧ DIp (zg220_zt) (zg220_zs) (zg220_zf))) from (Classical.em (v4_171.toInt = -1)).elim (fun q => Or.inr ⟨(by have ob13 : (0 : Int) ≤ (th 13) ∧ (th 13) ≤ 500 := (b0_13 hT :); have ob35 : (0 : Int) ≤ zg220_zt ∧ zg220_zt ≤ 63 := (b0_35 hT :); have ob36 : (0 : Int) ≤ (th 36) ∧ (th 36) ≤ 20 := (b0_36 hT :); have ob37 : (0 : Int) ≤ zg220_za ∧ zg220_za ≤ 500 := (b0_37 hT :); have ob40 : (0 : Int) ≤ zg220_zr ∧ zg220_zr ≤ 500 := (b0_40 hT :); have ob41 : (0 : Int) ≤ zg220_zl ∧ zg220_zl ≤ 500 := (b0_41 hT :); have ob42 : ((-1) : Int) ≤ zg220_ze ∧ zg220_ze ≤ 500 := (b0_42 hT :); have ob43 : ((-1) : Int) ≤ zg220_zq ∧ zg220_zq ≤ 1 := (b0_43 hT :); obtain ⟨o0a, o0b⟩ := (hv4_171 : In _ _ _); obtain ⟨o1a, o1b⟩ := (hv2_171 : In _ _ _); obtain ⟨o2a, o2b⟩ := (hv3_171 : In _ _ _); obtain ⟨o3a, o3b⟩ := (hv5_171 : In _ _ _); obtain ⟨o4a, o4b⟩ := (hv6_171 : In _ _ _); obtain ⟨o5a, o5b⟩ := (hv8_171 : In _ _ _); obtain ⟨o6a, o6b⟩ := (hv9_171 : In _ _ _); obtain ⟨o7a, o7b⟩ := (hv13_171 : In _ _ _); omega), hzg220.1.2⟩) Or.inl), TI.cast hT (by funext q; by_cases hq0 : q = 43; (subst hq0; rfl); by_cases hq1 : q = 34; (subst hq1; rfl); by_cases hq2 : q = 30; (subst hq2; rfl); by_cases hq3 : q = 35; (subst hq3; rfl); by_cases hq4 : q = 42; (subst hq4; rfl); by_cases hq5 : q = 41; (subst hq5; rfl); by_cases hq6 : q = 40; (subst hq6; rfl); by_cases hq7 : q = 37; (subst hq7; rfl); simp only [gset, if_neg hq0, if_neg hq1, if_neg hq2, if_neg hq3, if_neg hq4, if_neg hq5, if_neg hq6, if_neg hq7])⟩, hfr, hv4_171⟩) dX11_readsCouncil_224
                            refine lv_if_ne (tgt := 220) hx hb dX11_readsCouncil_203 (by decide) (fun c173 => ?_) (fun c173 => ?_)
                            ·
                              have oc0 : (0 : Int32).toInt = 0 := by decide
                              have cc174 : r165.toInt ≠ (0 : Int32).toInt := i32_ne c173
                              have hb175 : In r165 1 1 := In.ne1 eL169R (⟨by decide, by decide⟩ : In 0 0 0) cc174 (by decide) (by decide)
                              exact hJ220 zg195_za zg195_zr zg195_zl zg195_ze zg195_zt zg195_zs zg195_zf zg195_zq _ _ _ _ (⟨⟨⟨(show 0 ≤ zg195_za ∧ zg195_za ≤ 500 from (by have ob13 : (0 : Int) ≤ (th 13) ∧ (th 13) ≤ 500 := (b0_13 hT :); have ob35 : (0 : Int) ≤ zg195_zt ∧ zg195_zt ≤ 63 := (b0_35 hT :); have ob36 : (0 : Int) ≤ (th 36) ∧ (th 36) ≤ 20 := (b0_36 hT :); have ob37 : (0 : Int) ≤ zg195_za ∧ zg195_za ≤ 500 := (b0_37 hT :); have ob40 : (0 : Int) ≤ zg195_zr ∧ zg195_zr ≤ 500 := (b0_40 hT :); have ob41 : (0 : Int) ≤ zg195_zl ∧ zg195_zl ≤ 500 := (b0_41 hT :); have ob42 : ((-1) : Int) ≤ zg195_ze ∧ zg195_ze ≤ 500 := (b0_42 hT :); have ob43 : ((-1) : Int) ≤ zg195_zq ∧ zg195_zq ≤ 1 := (b0_43 hT :); obtain ⟨o0a, o0b⟩ := (hv2_163 : In _ _ _); obtain ⟨o1a, o1b⟩ := (hv3_163 : In _ _ _); obtain ⟨o2a, o2b⟩ := (hv4_163 : In _ _ _); obtain ⟨o3a, o3b⟩ := (hv5_163 : In _ _ _); obtain ⟨o4a, o4b⟩ := (hv6_163 : In _ _ _); obtain ⟨o5a, o5b⟩ := (hv8_163 : In _ _ _); obtain ⟨o6a, o6b⟩ := (hv9_163 : In _ _ _); obtain ⟨o7a, o7b⟩ := (hv13_163 : In _ _ _); omega)), (show 0 ≤ zg195_ze ∨ 0 ≤ zg195_zq from (by have ob13 : (0 : Int) ≤ (th 13) ∧ (th 13) ≤ 500 := (b0_13 hT :); have ob35 : (0 : Int) ≤ zg195_zt ∧ zg195_zt ≤ 63 := (b0_35 hT :); have ob36 : (0 : Int) ≤ (th 36) ∧ (th 36) ≤ 20 := (b0_36 hT :); have ob37 : (0 : Int) ≤ zg195_za ∧ zg195_za ≤ 500 := (b0_37 hT :); have ob40 : (0 : Int) ≤ zg195_zr ∧ zg195_zr ≤ 500 := (b0_40 hT :); have ob41 : (0 : Int) ≤ zg195_zl ∧ zg195_zl ≤ 500 := (b0_41 hT :); have ob42 : ((-1) : Int) ≤ zg195_ze ∧ zg195_ze ≤ 500 := (b0_42 hT :); have ob43 : ((-1) : Int) ≤ zg195_zq ∧ zg195_zq ≤ 1 := (b0_43 hT :); obtain ⟨o0a, o0b⟩ := (hv2_163 : In _ _ _); obtain ⟨o1a, o1b⟩ := (hv3_163 : In _ _ _); obtain ⟨o2a, o2b⟩ := (hv4_163 : In _ _ _); obtain ⟨o3a, o3b⟩ := (hv5_163 : In _ _ _); obtain ⟨o4a, o4b⟩ := (hv6_163 : In _ _ _); obtain ⟨o5a, o5b⟩ := (hv8_163 : In _ _ _); obtain ⟨o6a, o6b⟩ := (hv9_163 : In _ _ _); obtain ⟨o7a, o7b⟩ := (hv13_163 : In _ _ _); omega))⟩, hzg195.1.2⟩, (show 0 ≤ zg195_ze ∨ zg195_zt % 2 = 1 from (by have ob13 : (0 : Int) ≤ (th 13) ∧ (th 13) ≤ 500 := (b0_13 hT :); have ob35 : (0 : Int) ≤ zg195_zt ∧ zg195_zt ≤ 63 := (b0_35 hT :); have ob36 : (0 : Int) ≤ (th 36) ∧ (th 36) ≤ 20 := (b0_36 hT :); have ob37 : (0 : Int) ≤ zg195_za ∧ zg195_za ≤ 500 := (b0_37 hT :); have ob40 : (0 : Int) ≤ zg195_zr ∧ zg195_zr ≤ 500 := (b0_40 hT :); have ob41 : (0 : Int) ≤ zg195_zl ∧ zg195_zl ≤ 500 := (b0_41 hT :); have ob42 : ((-1) : Int) ≤ zg195_ze ∧ zg195_ze ≤ 500 := (b0_42 hT :); have ob43 : ((-1) : Int) ≤ zg195_zq ∧ zg195_zq ≤ 1 := (b0_43 hT :); obtain ⟨o0a, o0b⟩ := (hv2_163 : In _ _ _); obtain ⟨o1a, o1b⟩ := (hv3_163 : In _ _ _); obtain ⟨o2a, o2b⟩ := (hv4_163 : In _ _ _); obtain ⟨o3a, o3b⟩ := (hv5_163 : In _ _ _); obtain ⟨o4a, o4b⟩ := (hv6_163 : In _ _ _); obtain ⟨o5a, o5b⟩ := (hv8_163 : In _ _ _); obtain ⟨o6a, o6b⟩ := (hv9_163 : In _ _ _); obtain ⟨o7a, o7b⟩ := (hv13_163 : In _ _ _); omega))⟩) hP hD hS (TI.cast hT (by funext q; by_cases hq0 : q = 43; (subst hq0; rfl); by_cases hq1 : q = 34; (subst hq1; rfl); by_cases hq2 : q = 30; (subst hq2; rfl); by_cases hq3 : q = 35; (subst hq3; rfl); by_cases hq4 : q = 42; (subst hq4; rfl); by_cases hq5 : q = 41; (subst hq5; rfl); by_cases hq6 : q = 40; (subst hq6; rfl); by_cases hq7 : q = 37; (subst hq7; rfl); simp only [gset, if_neg hq0, if_neg hq1, if_neg hq2, if_neg hq3, if_neg hq4, if_neg hq5, if_neg hq6, if_neg hq7])) hfr (lv_sub hl [0, 1] rfl)
                            ·
                              have oc0 : (0 : Int32).toInt = 0 := by decide
                              have cc176 : r165.toInt = (0 : Int32).toInt := congrArg Int32.toInt c173
                              have hb177 : In r165 0 0 := In.eq1 eL169R (⟨by decide, by decide⟩ : In 0 0 0) cc176 (by decide) (by decide)
                              refine lv_aload_n hx hb dX11_readsCouncil_206 rfl (lv_at hl 0 rfl) ?_
                              refine pl_get (v := .ref (ad 257)) hx hb hts (fun w h => mT (inX11 w h)) hown hG.1 hP (hst.1 255 (by decide)) hf164 rfl 7 (by decide) (hts _ (mT wg_1343)) (fun _ h => h) rfl dX11_readsCouncil_207 ?_
                              refine lv_iconst (v := 2) hx hb dX11_readsCouncil_210 (by decide) ?_
                              refine lv_aload_n hx hb dX11_readsCouncil_211 rfl (lv_at hl 0 rfl) ?_
                              refine pl_get (v := .ref (ad 257)) hx hb hts (fun w h => mT (inX11 w h)) hown hG.1 hP (hst.1 255 (by decide)) hf164 rfl 7 (by decide) (hts _ (mT wg_1343)) (fun _ h => h) rfl dX11_readsCouncil_212 ?_
                              refine lv_iconst (v := 1) hx hb dX11_readsCouncil_215 (by decide) ?_
                              obtain ⟨rw178, hf179, hpn180, hpg181, hpn182, hpn183, hpn184, hpg185⟩ := hT.2.2 2 (by decide)
                              have hin186 : vp_in 1 6 := In.inb (⟨by decide, by decide⟩ : In 1 1 1) (by decide) (by decide)
                              refine pl_iald hx hb hG.1 hP (hst.1 257 (by decide)) 0 hf179 rfl hin186 dX11_readsCouncil_216 ?_
                              refine lv_topi (fun x187 ex187 => ?_)
                              have hb188 : In x187 0 4 := by rw [ex187]; exact pinI (k := 1) (by decide) hpn182
                              refine lv_iconst (v := 1) hx hb dX11_readsCouncil_217 (by decide) ?_
                              refine lv_iadd hx hb dX11_readsCouncil_218 ?_
                              refine lv_topi (fun x189 ex189 => ?_)
                              have hb190 : In x189 1 5 := ex189 ▸ In.add hb188 (⟨by decide, by decide⟩ : In 1 1 1) (by decide) (by decide) (by decide) (by decide)
                              have et191 : x189.toInt = x187.toInt + 1 := In.adde ex189 hb188 (k := 1) (by decide) (by decide) (by decide)
                              refine pl_iastE hx hb hG.1 hP hD hS (hst.1 257 (by decide)) 0 hf179 rfl (In.inb (⟨by decide, by decide⟩ : In 2 2 2) (by decide) (by decide)) dX11_readsCouncil_219 (fun H locs f192 r195 er195 hf193 ho194 hP hD hS => ?_)
                              have hpn196 : In (r195 0) 0 9 := (upd_neI (k := 0) er195 (by decide)) ▸ hpn180
                              have hpg197 := (congrArg Int32.toInt (upd_neI (k := 0) er195 (by decide))).trans hpg181
                              have hpn198 : In (r195 1) 0 4 := (upd_neI (k := 1) er195 (by decide)) ▸ hpn182
                              have hpn199 : In (r195 2) 0 6 := (upd_eqI (k := 2) er195 (by decide)) ▸ (In.mono hb190 (by decide) (by decide))
                              have hpn200 : In (r195 4) 0 511 := (upd_neI (k := 4) er195 (by decide)) ▸ hpn184
                              have hpg201 := (congrArg Int32.toInt (upd_neI (k := 4) er195 (by decide))).trans hpg185
                              have hf202 := (ho194 (ad 255) (hst.ne (by decide) (by decide) (by decide))).trans hf164
                              have hfr : (∀ b, b ≠ (ad 255) → b ≠ (ad 257) → f192 b = f b) := fun b z0_ z1_ => (ho194 b z1_).trans (hfr b z0_ z1_)
                              have hT := TI.updM hT hst (k := 2) (by decide) hf193 ho194 ⟨r195, rfl, hpn196, (hpg197.trans rfl), hpn198, hpn199, hpn200, (hpg201.trans rfl)⟩
                              exact hJ220 zg195_za zg195_zr zg195_zl zg195_ze zg195_zt zg195_zs zg195_zf zg195_zq _ _ _ _ (⟨⟨⟨(show 0 ≤ zg195_za ∧ zg195_za ≤ 500 from (by have ob13 : (0 : Int) ≤ (th 13) ∧ (th 13) ≤ 500 := (b0_13 hT :); have ob35 : (0 : Int) ≤ zg195_zt ∧ zg195_zt ≤ 63 := (b0_35 hT :); have ob36 : (0 : Int) ≤ (th 36) ∧ (th 36) ≤ 20 := (b0_36 hT :); have ob37 : (0 : Int) ≤ zg195_za ∧ zg195_za ≤ 500 := (b0_37 hT :); have ob40 : (0 : Int) ≤ zg195_zr ∧ zg195_zr ≤ 500 := (b0_40 hT :); have ob41 : (0 : Int) ≤ zg195_zl ∧ zg195_zl ≤ 500 := (b0_41 hT :); have ob42 : ((-1) : Int) ≤ zg195_ze ∧ zg195_ze ≤ 500 := (b0_42 hT :); have ob43 : ((-1) : Int) ≤ zg195_zq ∧ zg195_zq ≤ 1 := (b0_43 hT :); obtain ⟨o0a, o0b⟩ := (hv2_163 : In _ _ _); obtain ⟨o1a, o1b⟩ := (hv3_163 : In _ _ _); obtain ⟨o2a, o2b⟩ := (hv4_163 : In _ _ _); obtain ⟨o3a, o3b⟩ := (hv5_163 : In _ _ _); obtain ⟨o4a, o4b⟩ := (hv6_163 : In _ _ _); obtain ⟨o5a, o5b⟩ := (hv8_163 : In _ _ _); obtain ⟨o6a, o6b⟩ := (hv9_163 : In _ _ _); obtain ⟨o7a, o7b⟩ := (hv13_163 : In _ _ _); omega)), (show 0 ≤ zg195_ze ∨ 0 ≤ zg195_zq from (by have ob13 : (0 : Int) ≤ (th 13) ∧ (th 13) ≤ 500 := (b0_13 hT :); have ob35 : (0 : Int) ≤ zg195_zt ∧ zg195_zt ≤ 63 := (b0_35 hT :); have ob36 : (0 : Int) ≤ (th 36) ∧ (th 36) ≤ 20 := (b0_36 hT :); have ob37 : (0 : Int) ≤ zg195_za ∧ zg195_za ≤ 500 := (b0_37 hT :); have ob40 : (0 : Int) ≤ zg195_zr ∧ zg195_zr ≤ 500 := (b0_40 hT :); have ob41 : (0 : Int) ≤ zg195_zl ∧ zg195_zl ≤ 500 := (b0_41 hT :); have ob42 : ((-1) : Int) ≤ zg195_ze ∧ zg195_ze ≤ 500 := (b0_42 hT :); have ob43 : ((-1) : Int) ≤ zg195_zq ∧ zg195_zq ≤ 1 := (b0_43 hT :); obtain ⟨o0a, o0b⟩ := (hv2_163 : In _ _ _); obtain ⟨o1a, o1b⟩ := (hv3_163 : In _ _ _); obtain ⟨o2a, o2b⟩ := (hv4_163 : In _ _ _); obtain ⟨o3a, o3b⟩ := (hv5_163 : In _ _ _); obtain ⟨o4a, o4b⟩ := (hv6_163 : In _ _ _); obtain ⟨o5a, o5b⟩ := (hv8_163 : In _ _ _); obtain ⟨o6a, o6b⟩ := (hv9_163 : In _ _ _); obtain ⟨o7a, o7b⟩ := (hv13_163 : In _ _ _); omega))⟩, hzg195.1.2⟩, (show 0 ≤ zg195_ze ∨ zg195_zt % 2 = 1 from (by have ob13 : (0 : Int) ≤ (th 13) ∧ (th 13) ≤ 500 := (b0_13 hT :); have ob35 : (0 : Int) ≤ zg195_zt ∧ zg195_zt ≤ 63 := (b0_35 hT :); have ob36 : (0 : Int) ≤ (th 36) ∧ (th 36) ≤ 20 := (b0_36 hT :); have ob37 : (0 : Int) ≤ zg195_za ∧ zg195_za ≤ 500 := (b0_37 hT :); have ob40 : (0 : Int) ≤ zg195_zr ∧ zg195_zr ≤ 500 := (b0_40 hT :); have ob41 : (0 : Int) ≤ zg195_zl ∧ zg195_zl ≤ 500 := (b0_41 hT :); have ob42 : ((-1) : Int) ≤ zg195_ze ∧ zg195_ze ≤ 500 := (b0_42 hT :); have ob43 : ((-1) : Int) ≤ zg195_zq ∧ zg195_zq ≤ 1 := (b0_43 hT :); obtain ⟨o0a, o0b⟩ := (hv2_163 : In _ _ _); obtain ⟨o1a, o1b⟩ := (hv3_163 : In _ _ _); obtain ⟨o2a, o2b⟩ := (hv4_163 : In _ _ _); obtain ⟨o3a, o3b⟩ := (hv5_163 : In _ _ _); obtain ⟨o4a, o4b⟩ := (hv6_163 : In _ _ _); obtain ⟨o5a, o5b⟩ := (hv8_163 : In _ _ _); obtain ⟨o6a, o6b⟩ := (hv9_163 : In _ _ _); obtain ⟨o7a, o7b⟩ := (hv13_163 : In _ _ _); omega))⟩) hP hD hS (TI.cast hT (by funext q; by_cases hq0 : q = 43; (subst hq0; rfl); by_cases hq1 : q = 34; (subst hq1; rfl); by_cases hq2 : q = 30; (subst hq2; rfl); by_cases hq3 : q = 35; (subst hq3; rfl); by_cases hq4 : q = 42; (subst hq4; rfl); by_cases hq5 : q = 41; (subst hq5; rfl); by_cases hq6 : q = 40; (subst hq6; rfl); by_cases hq7 : q = 37; (subst hq7; rfl); simp only [gset, if_neg hq0, if_neg hq1, if_neg hq2, if_neg hq3, if_neg hq4, if_neg hq5, if_neg hq6, if_neg hq7])) hfr (lv_sub hl [0, 1] rfl)
                          refine lv_if_ne (tgt := 195) hx hb dX11_readsCouncil_165 (by decide) (fun c203 => ?_) (fun c203 => ?_)
                          ·
                            have oc0 : (0 : Int32).toInt = 0 := by decide
                            have cc204 : r157.toInt ≠ (0 : Int32).toInt := i32_ne c203
                            have hb205 : In r157 1 1 := In.ne1 eL161R (⟨by decide, by decide⟩ : In 0 0 0) cc204 (by decide) (by decide)
                            exact hJ195 zg157_za zg157_zr zg157_zl zg157_ze zg157_zt zg157_zs zg157_zf zg157_zq _ _ _ _ (⟨⟨⟨(show 0 ≤ zg157_za ∧ zg157_za ≤ 500 from (by have ob13 : (0 : Int) ≤ (th 13) ∧ (th 13) ≤ 500 := (b0_13 hT :); have ob35 : (0 : Int) ≤ zg157_zt ∧ zg157_zt ≤ 63 := (b0_35 hT :); have ob36 : (0 : Int) ≤ (th 36) ∧ (th 36) ≤ 20 := (b0_36 hT :); have ob37 : (0 : Int) ≤ zg157_za ∧ zg157_za ≤ 500 := (b0_37 hT :); have ob40 : (0 : Int) ≤ zg157_zr ∧ zg157_zr ≤ 500 := (b0_40 hT :); have ob41 : (0 : Int) ≤ zg157_zl ∧ zg157_zl ≤ 500 := (b0_41 hT :); have ob42 : ((-1) : Int) ≤ zg157_ze ∧ zg157_ze ≤ 500 := (b0_42 hT :); have ob43 : ((-1) : Int) ≤ zg157_zq ∧ zg157_zq ≤ 1 := (b0_43 hT :); obtain ⟨o0a, o0b⟩ := (hv2_155 : In _ _ _); obtain ⟨o1a, o1b⟩ := (hv3_155 : In _ _ _); obtain ⟨o2a, o2b⟩ := (hv4_155 : In _ _ _); obtain ⟨o3a, o3b⟩ := (hv5_155 : In _ _ _); obtain ⟨o4a, o4b⟩ := (hv6_155 : In _ _ _); obtain ⟨o5a, o5b⟩ := (hv8_155 : In _ _ _); obtain ⟨o6a, o6b⟩ := (hv9_155 : In _ _ _); obtain ⟨o7a, o7b⟩ := (hv13_155 : In _ _ _); omega)), (show 0 ≤ zg157_ze ∨ 0 ≤ zg157_zq from (by have ob13 : (0 : Int) ≤ (th 13) ∧ (th 13) ≤ 500 := (b0_13 hT :); have ob35 : (0 : Int) ≤ zg157_zt ∧ zg157_zt ≤ 63 := (b0_35 hT :); have ob36 : (0 : Int) ≤ (th 36) ∧ (th 36) ≤ 20 := (b0_36 hT :); have ob37 : (0 : Int) ≤ zg157_za ∧ zg157_za ≤ 500 := (b0_37 hT :); have ob40 : (0 : Int) ≤ zg157_zr ∧ zg157_zr ≤ 500 := (b0_40 hT :); have ob41 : (0 : Int) ≤ zg157_zl ∧ zg157_zl ≤ 500 := (b0_41 hT :); have ob42 : ((-1) : Int) ≤ zg157_ze ∧ zg157_ze ≤ 500 := (b0_42 hT :); have ob43 : ((-1) : Int) ≤ zg157_zq ∧ zg157_zq ≤ 1 := (b0_43 hT :); obtain ⟨o0a, o0b⟩ := (hv2_155 : In _ _ _); obtain ⟨o1a, o1b⟩ := (hv3_155 : In _ _ _); obtain ⟨o2a, o2b⟩ := (hv4_155 : In _ _ _); obtain ⟨o3a, o3b⟩ := (hv5_155 : In _ _ _); obtain ⟨o4a, o4b⟩ := (hv6_155 : In _ _ _); obtain ⟨o5a, o5b⟩ := (hv8_155 : In _ _ _); obtain ⟨o6a, o6b⟩ := (hv9_155 : In _ _ _); obtain ⟨o7a, o7b⟩ := (hv13_155 : In _ _ _); omega))⟩, hzg157.1.2⟩, (show 0 ≤ zg157_ze ∨ zg157_zt % 2 = 1 from (by have ob13 : (0 : Int) ≤ (th 13) ∧ (th 13) ≤ 500 := (b0_13 hT :); have ob35 : (0 : Int) ≤ zg157_zt ∧ zg157_zt ≤ 63 := (b0_35 hT :); have ob36 : (0 : Int) ≤ (th 36) ∧ (th 36) ≤ 20 := (b0_36 hT :); have ob37 : (0 : Int) ≤ zg157_za ∧ zg157_za ≤ 500 := (b0_37 hT :); have ob40 : (0 : Int) ≤ zg157_zr ∧ zg157_zr ≤ 500 := (b0_40 hT :); have ob41 : (0 : Int) ≤ zg157_zl ∧ zg157_zl ≤ 500 := (b0_41 hT :); have ob42 : ((-1) : Int) ≤ zg157_ze ∧ zg157_ze ≤ 500 := (b0_42 hT :); have ob43 : ((-1) : Int) ≤ zg157_zq ∧ zg157_zq ≤ 1 := (b0_43 hT :); obtain ⟨o0a, o0b⟩ := (hv2_155 : In _ _ _); obtain ⟨o1a, o1b⟩ := (hv3_155 : In _ _ _); obtain ⟨o2a, o2b⟩ := (hv4_155 : In _ _ _); obtain ⟨o3a, o3b⟩ := (hv5_155 : In _ _ _); obtain ⟨o4a, o4b⟩ := (hv6_155 : In _ _ _); obtain ⟨o5a, o5b⟩ := (hv8_155 : In _ _ _); obtain ⟨o6a, o6b⟩ := (hv9_155 : In _ _ _); obtain ⟨o7a, o7b⟩ := (hv13_155 : In _ _ _); omega))⟩) hP hD hS (TI.cast hT (by funext q; by_cases hq0 : q = 43; (subst hq0; rfl); by_cases hq1 : q = 34; (subst hq1; rfl); by_cases hq2 : q = 30; (subst hq2; rfl); by_cases hq3 : q = 35; (subst hq3; rfl); by_cases hq4 : q = 42; (subst hq4; rfl); by_cases hq5 : q = 41; (subst hq5; rfl); by_cases hq6 : q = 40; (subst hq6; rfl); by_cases hq7 : q = 37; (subst hq7; rfl); simp only [gset, if_neg hq0, if_neg hq1, if_neg hq2, if_neg hq3, if_neg hq4, if_neg hq5, if_neg hq6, if_neg hq7])) hfr (lv_sub hl [0, 1] rfl)
                          ·
                            have oc0 : (0 : Int32).toInt = 0 := by decide
                            have cc206 : r157.toInt = (0 : Int32).toInt := congrArg Int32.toInt c203
                            have hb207 : In r157 0 0 := In.eq1 eL161R (⟨by decide, by decide⟩ : In 0 0 0) cc206 (by decide) (by decide)
                            refine lv_aload_n hx hb dX11_readsCouncil_168 rfl (lv_at hl 0 rfl) ?_
                            refine pl_get (v := .ref (ad 257)) hx hb hts (fun w h => mT (inX11 w h)) hown hG.1 hP (hst.1 255 (by decide)) hf156 rfl 7 (by decide) (hts _ (mT wg_1343)) (fun _ h => h) rfl dX11_readsCouncil_169 ?_
                            refine lv_iconst (v := 1) hx hb dX11_readsCouncil_172 (by decide) ?_
                            refine lv_aload_n hx hb dX11_readsCouncil_173 rfl (lv_at hl 0 rfl) ?_
                            refine pl_get (v := .ref (ad 257)) hx hb hts (fun w h => mT (inX11 w h)) hown hG.1 hP (hst.1 255 (by decide)) hf156 rfl 7 (by decide) (hts _ (mT wg_1343)) (fun _ h => h) rfl dX11_readsCouncil_174 ?_
                            refine lv_iconst (v := 0) hx hb dX11_readsCouncil_177 (by decide) ?_
                            obtain ⟨rw208, hf209, hpn210, hpg211, hpn212, hpn213, hpn214, hpg215⟩ := hT.2.2 2 (by decide)
                            have hin216 : vp_in 0 6 := In.inb (⟨by decide, by decide⟩ : In 0 0 0) (by decide) (by decide)
                            refine pl_iald hx hb hG.1 hP (hst.1 257 (by decide)) 0 hf209 rfl hin216 dX11_readsCouncil_178 ?_
                            refine lv_topi (fun x217 ex217 => ?_)
                            have hb218 : In x217 0 9 := by rw [ex217]; exact pinI (k := 0) (by decide) hpn210
                            have hgl219 : x217.toInt = zg157_zs := by rw [ex217]; exact pinE (k := 0) (by decide) hpg211
                            refine lv_iconst (v := 1) hx hb dX11_readsCouncil_179 (by decide) ?_
                            refine lv_isub hx hb dX11_readsCouncil_180 ?_
                            refine lv_topi (fun x220 ex220 => ?_)
                            have hb221 : In x220 (-1) 8 := ex220 ▸ In.sub hb218 (⟨by decide, by decide⟩ : In 1 1 1) (by decide) (by decide) (by decide) (by decide)
                            have et222 : x220.toInt = x217.toInt + (-1) := In.sube ex220 hb218 (k := 1) (by decide) (by decide) (by decide)
                            refine lv_aload_n hx hb dX11_readsCouncil_181 rfl (lv_at hl 0 rfl) ?_
                            refine pl_get (v := .int v8_155) hx hb hts (fun w h => mT (inX11 w h)) hown hG.1 hP (hst.1 255 (by decide)) hf156 rfl 8 (by decide) (hts _ (mT wg_1344)) (fun _ h => h) rfl dX11_readsCouncil_182 ?_
                            have hg8_155 : v8_155.toInt = zg157_zq := hg8_155
                            have hJ193 : ∀ (y193_s0 : Int32) (H : Heap) (locs : List Loc) (ls : Array Slot), In y193_s0 3 4 → va_P g.1 vwCl (va_pl L f_157) H → va_D A (va_pl L f_157) → va_S A s.heap H locs → lv_has ls 2 [(0, .ref (ad 255)), (1, .int r130)] → W p l e rm_X11_readsCouncil s m [.ref (ad 255)].toArray below meth c H locs 0 0 (MQ below (va_Qi (po_X11_readsCouncil g ad th L f ) (PstB g A) A) [.ref (ad 255)].toArray s rm_X11_readsCouncil.cells rm_X11_readsCouncil.slots A) (F0 m 193 ls [.int y193_s0, .int x220, .int 1, .ref (ad 257)]) := by
                              intro y193_s0 H locs ls hy193_s0 hP hD hS hl
                              refine lv_idiv hx hb dX11_readsCouncil_193 (In.ne0 hy193_s0 (by decide)) ?_
                              refine lv_topi (fun x223 ex223 => ?_)
                              have hb224 : In x223 0 2 := ex223 ▸ In.divs2 hb221 hy193_s0 (by decide) (by decide) (by decide)
                              refine pl_iastE hx hb hG.1 hP hD hS (hst.1 257 (by decide)) 0 hf209 rfl (In.inb (⟨by decide, by decide⟩ : In 1 1 1) (by decide) (by decide)) dX11_readsCouncil_194 (fun H locs f225 r228 er228 hf226 ho227 hP hD hS => ?_)
                              have hpn229 : In (r228 0) 0 9 := (upd_neI (k := 0) er228 (by decide)) ▸ hpn210
                              have hpg230 := (congrArg Int32.toInt (upd_neI (k := 0) er228 (by decide))).trans hpg211
                              have hpn231 : In (r228 1) 0 4 := (upd_eqI (k := 1) er228 (by decide)) ▸ (In.mono hb224 (by decide) (by decide))
                              have hpn232 : In (r228 2) 0 6 := (upd_neI (k := 2) er228 (by decide)) ▸ hpn213
                              have hpn233 : In (r228 4) 0 511 := (upd_neI (k := 4) er228 (by decide)) ▸ hpn214
                              have hpg234 := (congrArg Int32.toInt (upd_neI (k := 4) er228 (by decide))).trans hpg215
                              have hf235 := (ho227 (ad 255) (hst.ne (by decide) (by decide) (by decide))).trans hf156
                              have hfr : (∀ b, b ≠ (ad 255) → b ≠ (ad 257) → f225 b = f b) := fun b z0_ z1_ => (ho227 b z1_).trans (hfr b z0_ z1_)
                              have hT := TI.updM hT hst (k := 2) (by decide) hf226 ho227 ⟨r228, rfl, hpn229, (hpg230.trans rfl), hpn231, hpn232, hpn233, (hpg234.trans rfl)⟩
                              exact hJ195 zg157_za zg157_zr zg157_zl zg157_ze zg157_zt zg157_zs zg157_zf zg157_zq _ _ _ _ (⟨⟨⟨(show 0 ≤ zg157_za ∧ zg157_za ≤ 500 from (by have ob13 : (0 : Int) ≤ (th 13) ∧ (th 13) ≤ 500 := (b0_13 hT :); have ob35 : (0 : Int) ≤ zg157_zt ∧ zg157_zt ≤ 63 := (b0_35 hT :); have ob36 : (0 : Int) ≤ (th 36) ∧ (th 36) ≤ 20 := (b0_36 hT :); have ob37 : (0 : Int) ≤ zg157_za ∧ zg157_za ≤ 500 := (b0_37 hT :); have ob40 : (0 : Int) ≤ zg157_zr ∧ zg157_zr ≤ 500 := (b0_40 hT :); have ob41 : (0 : Int) ≤ zg157_zl ∧ zg157_zl ≤ 500 := (b0_41 hT :); have ob42 : ((-1) : Int) ≤ zg157_ze ∧ zg157_ze ≤ 500 := (b0_42 hT :); have ob43 : ((-1) : Int) ≤ zg157_zq ∧ zg157_zq ≤ 1 := (b0_43 hT :); obtain ⟨o0a, o0b⟩ := (hv2_155 : In _ _ _); obtain ⟨o1a, o1b⟩ := (hv3_155 : In _ _ _); obtain ⟨o2a, o2b⟩ := (hv4_155 : In _ _ _); obtain ⟨o3a, o3b⟩ := (hv5_155 : In _ _ _); obtain ⟨o4a, o4b⟩ := (hv6_155 : In _ _ _); obtain ⟨o5a, o5b⟩ := (hv8_155 : In _ _ _); obtain ⟨o6a, o6b⟩ := (hv9_155 : In _ _ _); obtain ⟨o7a, o7b⟩ := (hv13_155 : In _ _ _); omega)), (show 0 ≤ zg157_ze ∨ 0 ≤ zg157_zq from (by have ob13 : (0 : Int) ≤ (th 13) ∧ (th 13) ≤ 500 := (b0_13 hT :); have ob35 : (0 : Int) ≤ zg157_zt ∧ zg157_zt ≤ 63 := (b0_35 hT :); have ob36 : (0 : Int) ≤ (th 36) ∧ (th 36) ≤ 20 := (b0_36 hT :); have ob37 : (0 : Int) ≤ zg157_za ∧ zg157_za ≤ 500 := (b0_37 hT :); have ob40 : (0 : Int) ≤ zg157_zr ∧ zg157_zr ≤ 500 := (b0_40 hT :); have ob41 : (0 : Int) ≤ zg157_zl ∧ zg157_zl ≤ 500 := (b0_41 hT :); have ob42 : ((-1) : Int) ≤ zg157_ze ∧ zg157_ze ≤ 500 := (b0_42 hT :); have ob43 : ((-1) : Int) ≤ zg157_zq ∧ zg157_zq ≤ 1 := (b0_43 hT :); obtain ⟨o0a, o0b⟩ := (hv2_155 : In _ _ _); obtain ⟨o1a, o1b⟩ := (hv3_155 : In _ _ _); obtain ⟨o2a, o2b⟩ := (hv4_155 : In _ _ _); obtain ⟨o3a, o3b⟩ := (hv5_155 : In _ _ _); obtain ⟨o4a, o4b⟩ := (hv6_155 : In _ _ _); obtain ⟨o5a, o5b⟩ := (hv8_155 : In _ _ _); obtain ⟨o6a, o6b⟩ := (hv9_155 : In _ _ _); obtain ⟨o7a, o7b⟩ := (hv13_155 : In _ _ _); omega))⟩, hzg157.1.2⟩, (show 0 ≤ zg157_ze ∨ zg157_zt % 2 = 1 from (by have ob13 : (0 : Int) ≤ (th 13) ∧ (th 13) ≤ 500 := (b0_13 hT :); have ob35 : (0 : Int) ≤ zg157_zt ∧ zg157_zt ≤ 63 := (b0_35 hT :); have ob36 : (0 : Int) ≤ (th 36) ∧ (th 36) ≤ 20 := (b0_36 hT :); have ob37 : (0 : Int) ≤ zg157_za ∧ zg157_za ≤ 500 := (b0_37 hT :); have ob40 : (0 : Int) ≤ zg157_zr ∧ zg157_zr ≤ 500 := (b0_40 hT :); have ob41 : (0 : Int) ≤ zg157_zl ∧ zg157_zl ≤ 500 := (b0_41 hT :); have ob42 : ((-1) : Int) ≤ zg157_ze ∧ zg157_ze ≤ 500 := (b0_42 hT :); have ob43 : ((-1) : Int) ≤ zg157_zq ∧ zg157_zq ≤ 1 := (b0_43 hT :); obtain ⟨o0a, o0b⟩ := (hv2_155 : In _ _ _); obtain ⟨o1a, o1b⟩ := (hv3_155 : In _ _ _); obtain ⟨o2a, o2b⟩ := (hv4_155 : In _ _ _); obtain ⟨o3a, o3b⟩ := (hv5_155 : In _ _ _); obtain ⟨o4a, o4b⟩ := (hv6_155 : In _ _ _); obtain ⟨o5a, o5b⟩ := (hv8_155 : In _ _ _); obtain ⟨o6a, o6b⟩ := (hv9_155 : In _ _ _); obtain ⟨o7a, o7b⟩ := (hv13_155 : In _ _ _); omega))⟩) hP hD hS (TI.cast hT (by funext q; by_cases hq0 : q = 43; (subst hq0; rfl); by_cases hq1 : q = 34; (subst hq1; rfl); by_cases hq2 : q = 30; (subst hq2; rfl); by_cases hq3 : q = 35; (subst hq3; rfl); by_cases hq4 : q = 42; (subst hq4; rfl); by_cases hq5 : q = 41; (subst hq5; rfl); by_cases hq6 : q = 40; (subst hq6; rfl); by_cases hq7 : q = 37; (subst hq7; rfl); simp only [gset, if_neg hq0, if_neg hq1, if_neg hq2, if_neg hq3, if_neg hq4, if_neg hq5, if_neg hq6, if_neg hq7])) hfr (lv_sub hl [0, 1] rfl)
                            refine lv_if_ne (tgt := 192) hx hb dX11_readsCouncil_185 (by decide) (fun c236 => ?_) (fun c236 => ?_)
                            ·
                              have oc0 : (0 : Int32).toInt = 0 := by decide
                              have cc237 : v8_155.toInt ≠ (0 : Int32).toInt := i32_ne c236
                              refine lv_iconst (v := 4) hx hb dX11_readsCouncil_192 (by decide) ?_
                              exact hJ193 4 _ _ _ (⟨by decide, by decide⟩ : In 4 3 4) hP hD hS (lv_sub hl [0, 1] rfl)
                            ·
                              have oc0 : (0 : Int32).toInt = 0 := by decide
                              have cc238 : v8_155.toInt = (0 : Int32).toInt := congrArg Int32.toInt c236
                              have hb239 : In v8_155 0 0 := In.eq1 hv8_155 (⟨by decide, by decide⟩ : In 0 0 0) cc238 (by decide) (by decide)
                              refine lv_iconst (v := 3) hx hb dX11_readsCouncil_188 (by decide) ?_
                              refine lv_goto (tgt := 193) hx hb dX11_readsCouncil_189 (by decide) ?_
                              exact hJ193 3 _ _ _ (⟨by decide, by decide⟩ : In 3 3 4) hP hD hS (lv_sub hl [0, 1] rfl)
                        refine lv_icmp_ne (tgt := 157) hx hb dX11_readsCouncil_127 (by decide) (fun c240 => ?_) (fun c240 => ?_)
                        ·
                          have ocm1 : ((-1) : Int32).toInt = (-1) := by decide
                          have cc241 : v4_153.toInt ≠ ((-1) : Int32).toInt := i32_ne c240
                          have hb242 : In v4_153 0 500 := In.ne1 hv4_153 (⟨by decide, by decide⟩ : In (-1) (-1) (-1)) cc241 (by decide) (by decide)
                          exact hJ157 zg122_za zg122_zr zg122_zl zg122_ze zg122_zt zg122_zs zg122_zf zg122_zq _ _ _ _ (⟨⟨⟨(show 0 ≤ zg122_za ∧ zg122_za ≤ 500 from (by have ob13 : (0 : Int) ≤ (th 13) ∧ (th 13) ≤ 500 := (b0_13 hT :); have ob35 : (0 : Int) ≤ zg122_zt ∧ zg122_zt ≤ 63 := (b0_35 hT :); have ob36 : (0 : Int) ≤ (th 36) ∧ (th 36) ≤ 20 := (b0_36 hT :); have ob37 : (0 : Int) ≤ zg122_za ∧ zg122_za ≤ 500 := (b0_37 hT :); have ob40 : (0 : Int) ≤ zg122_zr ∧ zg122_zr ≤ 500 := (b0_40 hT :); have ob41 : (0 : Int) ≤ zg122_zl ∧ zg122_zl ≤ 500 := (b0_41 hT :); have ob42 : ((-1) : Int) ≤ zg122_ze ∧ zg122_ze ≤ 500 := (b0_42 hT :); have ob43 : ((-1) : Int) ≤ zg122_zq ∧ zg122_zq ≤ 1 := (b0_43 hT :); obtain ⟨o0a, o0b⟩ := (hv2_153 : In _ _ _); obtain ⟨o1a, o1b⟩ := (hv3_153 : In _ _ _); obtain ⟨o2a, o2b⟩ := (hb242 : In _ _ _); obtain ⟨o3a, o3b⟩ := (hv5_153 : In _ _ _); obtain ⟨o4a, o4b⟩ := (hv6_153 : In _ _ _); obtain ⟨o5a, o5b⟩ := (hv8_153 : In _ _ _); obtain ⟨o6a, o6b⟩ := (hv9_153 : In _ _ _); obtain ⟨o7a, o7b⟩ := (hv13_153 : In _ _ _); omega)), (show 0 ≤ zg122_ze ∨ 0 ≤ zg122_zq from (by have ob13 : (0 : Int) ≤ (th 13) ∧ (th 13) ≤ 500 := (b0_13 hT :); have ob35 : (0 : Int) ≤ zg122_zt ∧ zg122_zt ≤ 63 := (b0_35 hT :); have ob36 : (0 : Int) ≤ (th 36) ∧ (th 36) ≤ 20 := (b0_36 hT :); have ob37 : (0 : Int) ≤ zg122_za ∧ zg122_za ≤ 500 := (b0_37 hT :); have ob40 : (0 : Int) ≤ zg122_zr ∧ zg122_zr ≤ 500 := (b0_40 hT :); have ob41 : (0 : Int) ≤ zg122_zl ∧ zg122_zl ≤ 500 := (b0_41 hT :); have ob42 : ((-1) : Int) ≤ zg122_ze ∧ zg122_ze ≤ 500 := (b0_42 hT :); have ob43 : ((-1) : Int) ≤ zg122_zq ∧ zg122_zq ≤ 1 := (b0_43 hT :); obtain ⟨o0a, o0b⟩ := (hv2_153 : In _ _ _); obtain ⟨o1a, o1b⟩ := (hv3_153 : In _ _ _); obtain ⟨o2a, o2b⟩ := (hb242 : In _ _ _); obtain ⟨o3a, o3b⟩ := (hv5_153 : In _ _ _); obtain ⟨o4a, o4b⟩ := (hv6_153 : In _ _ _); obtain ⟨o5a, o5b⟩ := (hv8_153 : In _ _ _); obtain ⟨o6a, o6b⟩ := (hv9_153 : In _ _ _); obtain ⟨o7a, o7b⟩ := (hv13_153 : In _ _ _); omega))⟩, hzg122.2⟩, (show 0 ≤ zg122_ze ∨ zg122_zt % 2 = 1 from (by have ob13 : (0 : Int) ≤ (th 13) ∧ (th 13) ≤ 500 := (b0_13 hT :); have ob35 : (0 : Int) ≤ zg122_zt ∧ zg122_zt ≤ 63 := (b0_35 hT :); have ob36 : (0 : Int) ≤ (th 36) ∧ (th 36) ≤ 20 := (b0_36 hT :); have ob37 : (0 : Int) ≤ zg122_za ∧ zg122_za ≤ 500 := (b0_37 hT :); have ob40 : (0 : Int) ≤ zg122_zr ∧ zg122_zr ≤ 500 := (b0_40 hT :); have ob41 : (0 : Int) ≤ zg122_zl ∧ zg122_zl ≤ 500 := (b0_41 hT :); have ob42 : ((-1) : Int) ≤ zg122_ze ∧ zg122_ze ≤ 500 := (b0_42 hT :); have ob43 : ((-1) : Int) ≤ zg122_zq ∧ zg122_zq ≤ 1 := (b0_43 hT :); obtain ⟨o0a, o0b⟩ := (hv2_153 : In _ _ _); obtain ⟨o1a, o1b⟩ := (hv3_153 : In _ _ _); obtain ⟨o2a, o2b⟩ := (hb242 : In _ _ _); obtain ⟨o3a, o3b⟩ := (hv5_153 : In _ _ _); obtain ⟨o4a, o4b⟩ := (hv6_153 : In _ _ _); obtain ⟨o5a, o5b⟩ := (hv8_153 : In _ _ _); obtain ⟨o6a, o6b⟩ := (hv9_153 : In _ _ _); obtain ⟨o7a, o7b⟩ := (hv13_153 : In _ _ _); omega))⟩) hP hD hS (TI.cast hT (by funext q; by_cases hq0 : q = 43; (subst hq0; rfl); by_cases hq1 : q = 34; (subst hq1; rfl); by_cases hq2 : q = 30; (subst hq2; rfl); by_cases hq3 : q = 35; (subst hq3; rfl); by_cases hq4 : q = 42; (subst hq4; rfl); by_cases hq5 : q = 41; (subst hq5; rfl); by_cases hq6 : q = 40; (subst hq6; rfl); by_cases hq7 : q = 37; (subst hq7; rfl); simp only [gset, if_neg hq0, if_neg hq1, if_neg hq2, if_neg hq3, if_neg hq4, if_neg hq5, if_neg hq6, if_neg hq7])) hfr (lv_sub hl [0, 1] rfl)
                        ·
                          have ocm1 : ((-1) : Int32).toInt = (-1) := by decide
                          have cc243 : v4_153.toInt = ((-1) : Int32).toInt := congrArg Int32.toInt c240
                          have hb244 : In v4_153 (-1) (-1) := In.eq1 hv4_153 (⟨by decide, by decide⟩ : In (-1) (-1) (-1)) cc243 (by decide) (by decide)
                          refine lv_aload_n hx hb dX11_readsCouncil_130 rfl (lv_at hl 0 rfl) ?_
                          refine call_i (run_V (rm := rm_X11_look) hx hb hml hown hts (s_X11_look l g ad (gset (gset (gset (gset (gset (gset (gset (gset th 37 zg122_za) 40 zg122_zr) 41 zg122_zl) 42 zg122_ze) 35 zg122_zt) 30 zg122_zs) 34 zg122_zf) 43 zg122_zq) _ _ _  hst hT ) cV_X11_look wg_1529 ⟨Nat.le_of_ble_eq_true rfl, Nat.le_of_ble_eq_true rfl⟩ hG hE hA hP hD hS (hst.1 255 (by decide)) hf154 rfl rfl hl.1 (As := []) (rest := []) rfl (Nat.le_of_ble_eq_true rfl) dX11_readsCouncil_131 ⟨Nat.le_of_ble_eq_true rfl, Nat.le_of_ble_eq_true rfl⟩) hA hD hS (fun r245 L246 f247 H locs hp248 hP hD hS => ?_)
                          obtain ⟨eL249L, eL249T, eL249F, eL249R⟩ := hp248
                          have eL249L : L246 = L := eL249L
                          rw [eL249L] at hP hD
                          obtain ⟨zz250, hzz250, eL249T⟩ := eL249T
                          have hgk251 : (gset (gset (gset (gset (gset (gset (gset (gset th 37 zg122_za) 40 zg122_zr) 41 zg122_zl) 42 zg122_ze) 35 zg122_zt) 30 zg122_zs) 34 zg122_zf) 43 zg122_zq) 37 = zg122_za := rfl
                          have hgk252 : (gset (gset (gset (gset (gset (gset (gset (gset th 37 zg122_za) 40 zg122_zr) 41 zg122_zl) 42 zg122_ze) 35 zg122_zt) 30 zg122_zs) 34 zg122_zf) 43 zg122_zq) 13 = th 13 := rfl
                          have hT : TI g ad (gset (gset (gset (gset (gset (gset (gset (gset (gset th 37 zg122_za) 40 zg122_zr) 41 zg122_zl) 42 zg122_ze) 35 zg122_zt) 30 zg122_zs) 34 zg122_zf) 43 zg122_zq) 37 zz250) f247 := eL249T
                          have hT : TI g ad (gset (gset (gset (gset (gset (gset (gset (gset th 40 zg122_zr) 41 zg122_zl) 42 zg122_ze) 35 zg122_zt) 30 zg122_zs) 34 zg122_zf) 43 zg122_zq) 37 zz250) f247 := TI.cast hT (by funext q; by_cases hq0 : q = 37; (subst hq0; rfl); by_cases hq1 : q = 43; (subst hq1; rfl); by_cases hq2 : q = 34; (subst hq2; rfl); by_cases hq3 : q = 30; (subst hq3; rfl); by_cases hq4 : q = 35; (subst hq4; rfl); by_cases hq5 : q = 42; (subst hq5; rfl); by_cases hq6 : q = 41; (subst hq6; rfl); by_cases hq7 : q = 40; (subst hq7; rfl); simp only [gset, if_neg hq0, if_neg hq1, if_neg hq2, if_neg hq3, if_neg hq4, if_neg hq5, if_neg hq6, if_neg hq7])
                          have eL249F : ∀ b, b ≠ (ad 255) → f247 b = f_122 b := eL249F
                          have hfr : (∀ b, b ≠ (ad 255) → b ≠ (ad 257) → f247 b = f b) := fun b z0_ z1_ => (eL249F b z0_).trans (hfr b z0_ z1_)
                          have eL249R : In r245 (-1) 255 := eL249R
                          refine lv_iconst (v := (-1)) hx hb dX11_readsCouncil_134 (by decide) ?_
                          have hJ149 : ∀ (H : Heap) (locs : List Loc) (ls : Array Slot), va_P g.1 vwCl (va_pl L f247) H → va_D A (va_pl L f247) → va_S A s.heap H locs → lv_has ls 2 [(0, .ref (ad 255)), (1, .int r130)] → W p l e rm_X11_readsCouncil s m [.ref (ad 255)].toArray below meth c H locs 0 0 (MQ below (va_Qi (po_X11_readsCouncil g ad th L f ) (PstB g A) A) [.ref (ad 255)].toArray s rm_X11_readsCouncil.cells rm_X11_readsCouncil.slots A) (F0 m 149 ls []) := by
                            intro H locs ls hP hD hS hl
                            refine lv_aload_n hx hb dX11_readsCouncil_149 rfl (lv_at hl 0 rfl) ?_
                            refine lv_aload_n hx hb dX11_readsCouncil_150 rfl (lv_at hl 0 rfl) ?_
                            refine M0e hT (fun v0_253 v2_253 v3_253 v4_253 v5_253 v6_253 v8_253 v9_253 v12_253 v13_253 v14_253 v15_253 v16_253 v17_253 v18_253 v19_253 v20_253 v21_253 v22_253 v23_253 v25_253 v36_253 v37_253 v38_253 v39_253 v40_253 v45_253 v46_253 v47_253 v48_253 v50_253 v51_253 v53_253 v55_253 hf254 hv0_253 hv2_253 hg2_253 hv3_253 hg3_253 hv4_253 hg4_253 hv5_253 hg5_253 hv6_253 hg6_253 hv8_253 hg8_253 hv9_253 hg9_253 hv12_253 hv13_253 hg13_253 hv14_253 hg14_253 hv15_253 hg15_253 hv17_253 hg17_253 hv20_253 hg20_253 hv23_253 hg23_253 hv25_253 hg25_253 hv36_253 hg36_253 hv47_253 hg47_253 hv48_253 hg48_253 hv53_253 hg53_253 hv55_253 hg55_253 hrel0_253 => ?_)
                            have hg15_253 : v15_253.toInt = th 11 := hg15_253
                            have hg17_253 : v17_253.toInt = th 12 := hg17_253
                            have hg20_253 : v20_253.toInt = th 14 := hg20_253
                            refine pl_get (v := .int v3_253) hx hb hts (fun w h => mT (inX11 w h)) hown hG.1 hP (hst.1 255 (by decide)) hf254 rfl 3 (by decide) (hts _ (mT wg_1339)) (fun _ h => h) rfl dX11_readsCouncil_151 ?_
                            have hg3_253 : v3_253.toInt = zz250 := hg3_253
                            refine call_v (run_V (rm := rm_X11_fails) hx hb hml hown hts (s_X11_fails l g ad (gset (gset (gset (gset (gset (gset (gset (gset th 40 zg122_zr) 41 zg122_zl) 42 zg122_ze) 35 zg122_zt) 30 zg122_zs) 34 zg122_zf) 43 zg122_zq) 37 zz250) _ _ _ v3_253 hst hT hv3_253) cV_X11_fails wg_1545 ⟨Nat.le_of_ble_eq_true rfl, Nat.le_of_ble_eq_true rfl⟩ hG hE hA hP hD hS (hst.1 255 (by decide)) hf254 rfl rfl hl.1 (As := [.int v3_253]) (rest := []) rfl (Nat.le_of_ble_eq_true rfl) dX11_readsCouncil_154 ⟨Nat.le_of_ble_eq_true rfl, Nat.le_of_ble_eq_true rfl⟩) hA hD hS (fun L256 f257 H locs hp258 hP hD hS => ?_)
                            obtain ⟨eL259L, eL259T, eL259F⟩ := hp258
                            have eL259L : L256 = L := eL259L
                            rw [eL259L] at hP hD
                            obtain ⟨zz260, hzz260, eL259T⟩ := eL259T
                            have hzz260 : 0 ≤ zz260 := hzz260
                            have hT : TI g ad (gset (gset (gset (gset (gset (gset (gset (gset (gset th 40 zg122_zr) 41 zg122_zl) 42 zg122_ze) 35 zg122_zt) 30 zg122_zs) 34 zg122_zf) 43 zg122_zq) 37 zz250) 42 zz260) f257 := eL259T
                            have hT : TI g ad (gset (gset (gset (gset (gset (gset (gset (gset th 40 zg122_zr) 41 zg122_zl) 35 zg122_zt) 30 zg122_zs) 34 zg122_zf) 43 zg122_zq) 37 zz250) 42 zz260) f257 := TI.cast hT (by funext q; by_cases hq0 : q = 42; (subst hq0; rfl); by_cases hq1 : q = 37; (subst hq1; rfl); by_cases hq2 : q = 43; (subst hq2; rfl); by_cases hq3 : q = 34; (subst hq3; rfl); by_cases hq4 : q = 30; (subst hq4; rfl); by_cases hq5 : q = 35; (subst hq5; rfl); by_cases hq6 : q = 41; (subst hq6; rfl); by_cases hq7 : q = 40; (subst hq7; rfl); simp only [gset, if_neg hq0, if_neg hq1, if_neg hq2, if_neg hq3, if_neg hq4, if_neg hq5, if_neg hq6, if_neg hq7])
                            have eL259F : ∀ b, b ≠ (ad 255) → f257 b = f247 b := eL259F
                            have hfr : (∀ b, b ≠ (ad 255) → b ≠ (ad 257) → f257 b = f b) := fun b z0_ z1_ => (eL259F b z0_).trans (hfr b z0_ z1_)
                            exact hJ157 zz250 zg122_zr zg122_zl zz260 zg122_zt zg122_zs zg122_zf zg122_zq _ _ _ _ (⟨⟨⟨(show 0 ≤ zz250 ∧ zz250 ≤ 500 from (by have ob13 : (0 : Int) ≤ (th 13) ∧ (th 13) ≤ 500 := (b0_13 hT :); have ob35 : (0 : Int) ≤ zg122_zt ∧ zg122_zt ≤ 63 := (b0_35 hT :); have ob36 : (0 : Int) ≤ (th 36) ∧ (th 36) ≤ 20 := (b0_36 hT :); have ob37 : (0 : Int) ≤ zz250 ∧ zz250 ≤ 500 := (b0_37 hT :); have ob40 : (0 : Int) ≤ zg122_zr ∧ zg122_zr ≤ 500 := (b0_40 hT :); have ob41 : (0 : Int) ≤ zg122_zl ∧ zg122_zl ≤ 500 := (b0_41 hT :); have ob42 : ((-1) : Int) ≤ zz260 ∧ zz260 ≤ 500 := (b0_42 hT :); have ob43 : ((-1) : Int) ≤ zg122_zq ∧ zg122_zq ≤ 1 := (b0_43 hT :); omega)), (show 0 ≤ zz260 ∨ 0 ≤ zg122_zq from (by have ob13 : (0 : Int) ≤ (th 13) ∧ (th 13) ≤ 500 := (b0_13 hT :); have ob35 : (0 : Int) ≤ zg122_zt ∧ zg122_zt ≤ 63 := (b0_35 hT :); have ob36 : (0 : Int) ≤ (th 36) ∧ (th 36) ≤ 20 := (b0_36 hT :); have ob37 : (0 : Int) ≤ zz250 ∧ zz250 ≤ 500 := (b0_37 hT :); have ob40 : (0 : Int) ≤ zg122_zr ∧ zg122_zr ≤ 500 := (b0_40 hT :); have ob41 : (0 : Int) ≤ zg122_zl ∧ zg122_zl ≤ 500 := (b0_41 hT :); have ob42 : ((-1) : Int) ≤ zz260 ∧ zz260 ≤ 500 := (b0_42 hT :); have ob43 : ((-1) : Int) ≤ zg122_zq ∧ zg122_zq ≤ 1 := (b0_43 hT :); omega))⟩, hzg122.2⟩, (show 0 ≤ zz260 ∨ zg122_zt % 2 = 1 from (by have ob13 : (0 : Int) ≤ (th 13) ∧ (th 13) ≤ 500 := (b0_13 hT :); have ob35 : (0 : Int) ≤ zg122_zt ∧ zg122_zt ≤ 63 := (b0_35 hT :); have ob36 : (0 : Int) ≤ (th 36) ∧ (th 36) ≤ 20 := (b0_36 hT :); have ob37 : (0 : Int) ≤ zz250 ∧ zz250 ≤ 500 := (b0_37 hT :); have ob40 : (0 : Int) ≤ zg122_zr ∧ zg122_zr ≤ 500 := (b0_40 hT :); have ob41 : (0 : Int) ≤ zg122_zl ∧ zg122_zl ≤ 500 := (b0_41 hT :); have ob42 : ((-1) : Int) ≤ zz260 ∧ zz260 ≤ 500 := (b0_42 hT :); have ob43 : ((-1) : Int) ≤ zg122_zq ∧ zg122_zq ≤ 1 := (b0_43 hT :); omega))⟩) hP hD hS (TI.cast hT (by funext q; by_cases hq0 : q = 42; (subst hq0; rfl); by_cases hq1 : q = 37; (subst hq1; rfl); by_cases hq2 : q = 43; (subst hq2; rfl); by_cases hq3 : q = 34; (subst hq3; rfl); by_cases hq4 : q = 30; (subst hq4; rfl); by_cases hq5 : q = 35; (subst hq5; rfl); by_cases hq6 : q = 41; (subst hq6; rfl); by_cases hq7 : q = 40; (subst hq7; rfl); simp only [gset, if_neg hq0, if_neg hq1, if_neg hq2, if_neg hq3, if_neg hq4, if_neg hq5, if_neg hq6, if_neg hq7])) hfr (lv_sub hl [0, 1] rfl)
                          refine lv_icmp_ne (tgt := 149) hx hb dX11_readsCouncil_135 (by decide) (fun c261 => ?_) (fun c261 => ?_)
                          ·
                            have ocm1 : ((-1) : Int32).toInt = (-1) := by decide
                            have cc262 : r245.toInt ≠ ((-1) : Int32).toInt := i32_ne c261
                            have hb263 : In r245 0 255 := In.ne1 eL249R (⟨by decide, by decide⟩ : In (-1) (-1) (-1)) cc262 (by decide) (by decide)
                            exact hJ149 _ _ _ hP hD hS (lv_sub hl [0, 1] rfl)
                          ·
                            have ocm1 : ((-1) : Int32).toInt = (-1) := by decide
                            have cc264 : r245.toInt = ((-1) : Int32).toInt := congrArg Int32.toInt c261
                            have hb265 : In r245 (-1) (-1) := In.eq1 eL249R (⟨by decide, by decide⟩ : In (-1) (-1) (-1)) cc264 (by decide) (by decide)
                            refine lv_aload_n hx hb dX11_readsCouncil_138 rfl (lv_at hl 0 rfl) ?_
                            refine M0e hT (fun v0_266 v2_266 v3_266 v4_266 v5_266 v6_266 v8_266 v9_266 v12_266 v13_266 v14_266 v15_266 v16_266 v17_266 v18_266 v19_266 v20_266 v21_266 v22_266 v23_266 v25_266 v36_266 v37_266 v38_266 v39_266 v40_266 v45_266 v46_266 v47_266 v48_266 v50_266 v51_266 v53_266 v55_266 hf267 hv0_266 hv2_266 hg2_266 hv3_266 hg3_266 hv4_266 hg4_266 hv5_266 hg5_266 hv6_266 hg6_266 hv8_266 hg8_266 hv9_266 hg9_266 hv12_266 hv13_266 hg13_266 hv14_266 hg14_266 hv15_266 hg15_266 hv17_266 hg17_266 hv20_266 hg20_266 hv23_266 hg23_266 hv25_266 hg25_266 hv36_266 hg36_266 hv47_266 hg47_266 hv48_266 hg48_266 hv53_266 hg53_266 hv55_266 hg55_266 hrel0_266 => ?_)
                            have hg15_266 : v15_266.toInt = th 11 := hg15_266
                            have hg17_266 : v17_266.toInt = th 12 := hg17_266
                            have hg20_266 : v20_266.toInt = th 14 := hg20_266
                            refine pl_get (v := .int v9_266) hx hb hts (fun w h => mT (inX11 w h)) hown hG.1 hP (hst.1 255 (by decide)) hf267 rfl 9 (by decide) (hts _ (mT wg_1345)) (fun _ h => h) rfl dX11_readsCouncil_139 ?_
                            have hg9_266 : v9_266.toInt = zg122_zt := hg9_266
                            refine lv_iconst (v := 0) hx hb dX11_readsCouncil_142 (by decide) ?_
                            refine call_i (run_S (rm := rm_X11_has) hx hb hml hown hts (s_X11_has l g ad (gset (gset (gset (gset (gset (gset (gset (gset th 40 zg122_zr) 41 zg122_zl) 42 zg122_ze) 35 zg122_zt) 30 zg122_zs) 34 zg122_zf) 43 zg122_zq) 37 zz250) _ _ _ v9_266 0 hst hT ) cS_X11_has wg_1563 ⟨Nat.le_of_ble_eq_true rfl, Nat.le_of_ble_eq_true rfl⟩ hG hE hA hP hD hS rfl hl.1 (As := [.int v9_266, .int 0]) (rest := []) rfl (Nat.le_of_ble_eq_true rfl) dX11_readsCouncil_143 ⟨Nat.le_of_ble_eq_true rfl, Nat.le_of_ble_eq_true rfl⟩) hA hD hS (fun r268 L269 f270 H locs hp271 hP hD hS => ?_)
                            obtain ⟨eL272L, eL272T, eL272R, eL272X0⟩ := hp271
                            have eL272L : L269 = L := eL272L
                            have eL272T : f270 = f247 := eL272T
                            rw [eL272L, eL272T] at hP hD
                            have eL272R : In r268 0 1 := eL272R
                            have hbt273 : r268.toInt = bitI zg122_zt 0 := (eL272X0 (Int.le_trans (by decide) hv9_266.1) (⟨by decide, by decide⟩ : In 0 0 30)).trans (by rw [hg9_266, show (0 : Int32).toInt = 0 by decide])
                            have hb0c := bitI_0 (zg122_zt)
                            refine lv_if_ne (tgt := 157) hx hb dX11_readsCouncil_146 (by decide) (fun c274 => ?_) (fun c274 => ?_)
                            ·
                              have oc0 : (0 : Int32).toInt = 0 := by decide
                              have cc275 : r268.toInt ≠ (0 : Int32).toInt := i32_ne c274
                              have hb276 : In r268 1 1 := In.ne1 eL272R (⟨by decide, by decide⟩ : In 0 0 0) cc275 (by decide) (by decide)
                              exact hJ157 zz250 zg122_zr zg122_zl zg122_ze zg122_zt zg122_zs zg122_zf zg122_zq _ _ _ _ (⟨⟨⟨(show 0 ≤ zz250 ∧ zz250 ≤ 500 from (by have ob13 : (0 : Int) ≤ (th 13) ∧ (th 13) ≤ 500 := (b0_13 hT :); have ob35 : (0 : Int) ≤ zg122_zt ∧ zg122_zt ≤ 63 := (b0_35 hT :); have ob36 : (0 : Int) ≤ (th 36) ∧ (th 36) ≤ 20 := (b0_36 hT :); have ob37 : (0 : Int) ≤ zz250 ∧ zz250 ≤ 500 := (b0_37 hT :); have ob40 : (0 : Int) ≤ zg122_zr ∧ zg122_zr ≤ 500 := (b0_40 hT :); have ob41 : (0 : Int) ≤ zg122_zl ∧ zg122_zl ≤ 500 := (b0_41 hT :); have ob42 : ((-1) : Int) ≤ zg122_ze ∧ zg122_ze ≤ 500 := (b0_42 hT :); have ob43 : ((-1) : Int) ≤ zg122_zq ∧ zg122_zq ≤ 1 := (b0_43 hT :); obtain ⟨o0a, o0b⟩ := (hv2_266 : In _ _ _); obtain ⟨o1a, o1b⟩ := (hv3_266 : In _ _ _); obtain ⟨o2a, o2b⟩ := (hv4_266 : In _ _ _); obtain ⟨o3a, o3b⟩ := (hv5_266 : In _ _ _); obtain ⟨o4a, o4b⟩ := (hv6_266 : In _ _ _); obtain ⟨o5a, o5b⟩ := (hv8_266 : In _ _ _); obtain ⟨o6a, o6b⟩ := (hv9_266 : In _ _ _); obtain ⟨o7a, o7b⟩ := (hv13_266 : In _ _ _); omega)), (show 0 ≤ zg122_ze ∨ 0 ≤ zg122_zq from (by have ob13 : (0 : Int) ≤ (th 13) ∧ (th 13) ≤ 500 := (b0_13 hT :); have ob35 : (0 : Int) ≤ zg122_zt ∧ zg122_zt ≤ 63 := (b0_35 hT :); have ob36 : (0 : Int) ≤ (th 36) ∧ (th 36) ≤ 20 := (b0_36 hT :); have ob37 : (0 : Int) ≤ zz250 ∧ zz250 ≤ 500 := (b0_37 hT :); have ob40 : (0 : Int) ≤ zg122_zr ∧ zg122_zr ≤ 500 := (b0_40 hT :); have ob41 : (0 : Int) ≤ zg122_zl ∧ zg122_zl ≤ 500 := (b0_41 hT :); have ob42 : ((-1) : Int) ≤ zg122_ze ∧ zg122_ze ≤ 500 := (b0_42 hT :); have ob43 : ((-1) : Int) ≤ zg122_zq ∧ zg122_zq ≤ 1 := (b0_43 hT :); obtain ⟨o0a, o0b⟩ := (hv2_266 : In _ _ _); obtain ⟨o1a, o1b⟩ := (hv3_266 : In _ _ _); obtain ⟨o2a, o2b⟩ := (hv4_266 : In _ _ _); obtain ⟨o3a, o3b⟩ := (hv5_266 : In _ _ _); obtain ⟨o4a, o4b⟩ := (hv6_266 : In _ _ _); obtain ⟨o5a, o5b⟩ := (hv8_266 : In _ _ _); obtain ⟨o6a, o6b⟩ := (hv9_266 : In _ _ _); obtain ⟨o7a, o7b⟩ := (hv13_266 : In _ _ _); omega))⟩, hzg122.2⟩, (show 0 ≤ zg122_ze ∨ zg122_zt % 2 = 1 from (by have ob13 : (0 : Int) ≤ (th 13) ∧ (th 13) ≤ 500 := (b0_13 hT :); have ob35 : (0 : Int) ≤ zg122_zt ∧ zg122_zt ≤ 63 := (b0_35 hT :); have ob36 : (0 : Int) ≤ (th 36) ∧ (th 36) ≤ 20 := (b0_36 hT :); have ob37 : (0 : Int) ≤ zz250 ∧ zz250 ≤ 500 := (b0_37 hT :); have ob40 : (0 : Int) ≤ zg122_zr ∧ zg122_zr ≤ 500 := (b0_40 hT :); have ob41 : (0 : Int) ≤ zg122_zl ∧ zg122_zl ≤ 500 := (b0_41 hT :); have ob42 : ((-1) : Int) ≤ zg122_ze ∧ zg122_ze ≤ 500 := (b0_42 hT :); have ob43 : ((-1) : Int) ≤ zg122_zq ∧ zg122_zq ≤ 1 := (b0_43 hT :); obtain ⟨o0a, o0b⟩ := (hv2_266 : In _ _ _); obtain ⟨o1a, o1b⟩ := (hv3_266 : In _ _ _); obtain ⟨o2a, o2b⟩ := (hv4_266 : In _ _ _); obtain ⟨o3a, o3b⟩ := (hv5_266 : In _ _ _); obtain ⟨o4a, o4b⟩ := (hv6_266 : In _ _ _); obtain ⟨o5a, o5b⟩ := (hv8_266 : In _ _ _); obtain ⟨o6a, o6b⟩ := (hv9_266 : In _ _ _); obtain ⟨o7a, o7b⟩ := (hv13_266 : In _ _ _); omega))⟩) hP hD hS (TI.cast hT (by funext q; by_cases hq0 : q = 37; (subst hq0; rfl); by_cases hq1 : q = 43; (subst hq1; rfl); by_cases hq2 : q = 34; (subst hq2; rfl); by_cases hq3 : q = 30; (subst hq3; rfl); by_cases hq4 : q = 35; (subst hq4; rfl); by_cases hq5 : q = 42; (subst hq5; rfl); by_cases hq6 : q = 41; (subst hq6; rfl); by_cases hq7 : q = 40; (subst hq7; rfl); simp only [gset, if_neg hq0, if_neg hq1, if_neg hq2, if_neg hq3, if_neg hq4, if_neg hq5, if_neg hq6, if_neg hq7])) hfr (lv_sub hl [0, 1] rfl)
                            ·
                              have oc0 : (0 : Int32).toInt = 0 := by decide
                              have cc277 : r268.toInt = (0 : Int32).toInt := congrArg Int32.toInt c274
                              have hb278 : In r268 0 0 := In.eq1 eL272R (⟨by decide, by decide⟩ : In 0 0 0) cc277 (by decide) (by decide)
                              exact hJ149 _ _ _ hP hD hS (lv_sub hl [0, 1] rfl)
                      refine lv_icmp_ne (tgt := 122) hx hb dX11_readsCouncil_93 (by decide) (fun c279 => ?_) (fun c279 => ?_)
                      ·
                        have ocm1 : ((-1) : Int32).toInt = (-1) := by decide
                        have cc280 : v4_151.toInt ≠ ((-1) : Int32).toInt := i32_ne c279
                        have hb281 : In v4_151 0 500 := In.ne1 hv4_151 (⟨by decide, by decide⟩ : In (-1) (-1) (-1)) cc280 (by decide) (by decide)
                        exact hJ122 zg88_za zg88_zr zg88_zl zg88_ze zg88_zt zg88_zs zg88_zf zg88_zq _ _ _ _ (⟨⟨(show 0 ≤ zg88_za ∧ zg88_za ≤ 500 from (by have ob13 : (0 : Int) ≤ (th 13) ∧ (th 13) ≤ 500 := (b0_13 hT :); have ob35 : (0 : Int) ≤ zg88_zt ∧ zg88_zt ≤ 63 := (b0_35 hT :); have ob36 : (0 : Int) ≤ (th 36) ∧ (th 36) ≤ 20 := (b0_36 hT :); have ob37 : (0 : Int) ≤ zg88_za ∧ zg88_za ≤ 500 := (b0_37 hT :); have ob40 : (0 : Int) ≤ zg88_zr ∧ zg88_zr ≤ 500 := (b0_40 hT :); have ob41 : (0 : Int) ≤ zg88_zl ∧ zg88_zl ≤ 500 := (b0_41 hT :); have ob42 : ((-1) : Int) ≤ zg88_ze ∧ zg88_ze ≤ 500 := (b0_42 hT :); have ob43 : ((-1) : Int) ≤ zg88_zq ∧ zg88_zq ≤ 1 := (b0_43 hT :); obtain ⟨o0a, o0b⟩ := (hv2_151 : In _ _ _); obtain ⟨o1a, o1b⟩ := (hv3_151 : In _ _ _); obtain ⟨o2a, o2b⟩ := (hb281 : In _ _ _); obtain ⟨o3a, o3b⟩ := (hv5_151 : In _ _ _); obtain ⟨o4a, o4b⟩ := (hv6_151 : In _ _ _); obtain ⟨o5a, o5b⟩ := (hv8_151 : In _ _ _); obtain ⟨o6a, o6b⟩ := (hv9_151 : In _ _ _); obtain ⟨o7a, o7b⟩ := (hv13_151 : In _ _ _); omega)), (show 0 ≤ zg88_ze ∨ 0 ≤ zg88_zq from (by have ob13 : (0 : Int) ≤ (th 13) ∧ (th 13) ≤ 500 := (b0_13 hT :); have ob35 : (0 : Int) ≤ zg88_zt ∧ zg88_zt ≤ 63 := (b0_35 hT :); have ob36 : (0 : Int) ≤ (th 36) ∧ (th 36) ≤ 20 := (b0_36 hT :); have ob37 : (0 : Int) ≤ zg88_za ∧ zg88_za ≤ 500 := (b0_37 hT :); have ob40 : (0 : Int) ≤ zg88_zr ∧ zg88_zr ≤ 500 := (b0_40 hT :); have ob41 : (0 : Int) ≤ zg88_zl ∧ zg88_zl ≤ 500 := (b0_41 hT :); have ob42 : ((-1) : Int) ≤ zg88_ze ∧ zg88_ze ≤ 500 := (b0_42 hT :); have ob43 : ((-1) : Int) ≤ zg88_zq ∧ zg88_zq ≤ 1 := (b0_43 hT :); obtain ⟨o0a, o0b⟩ := (hv2_151 : In _ _ _); obtain ⟨o1a, o1b⟩ := (hv3_151 : In _ _ _); obtain ⟨o2a, o2b⟩ := (hb281 : In _ _ _); obtain ⟨o3a, o3b⟩ := (hv5_151 : In _ _ _); obtain ⟨o4a, o4b⟩ := (hv6_151 : In _ _ _); obtain ⟨o5a, o5b⟩ := (hv8_151 : In _ _ _); obtain ⟨o6a, o6b⟩ := (hv9_151 : In _ _ _); obtain ⟨o7a, o7b⟩ := (hv13_151 : In _ _ _); omega))⟩, hzg88.2⟩) hP hD hS (TI.cast hT (by funext q; by_cases hq0 : q = 43; (subst hq0; rfl); by_cases hq1 : q = 34; (subst hq1; rfl); by_cases hq2 : q = 30; (subst hq2; rfl); by_cases hq3 : q = 35; (subst hq3; rfl); by_cases hq4 : q = 42; (subst hq4; rfl); by_cases hq5 : q = 41; (subst hq5; rfl); by_cases hq6 : q = 40; (subst hq6; rfl); by_cases hq7 : q = 37; (subst hq7; rfl); simp only [gset, if_neg hq0, if_neg hq1, if_neg hq2, if_neg hq3, if_neg hq4, if_neg hq5, if_neg hq6, if_neg hq7])) hfr (lv_sub hl [0, 1] rfl)
                      ·
                        have ocm1 : ((-1) : Int32).toInt = (-1) := by decide
                        have cc282 : v4_151.toInt = ((-1) : Int32).toInt := congrArg Int32.toInt c279
                        have hb283 : In v4_151 (-1) (-1) := In.eq1 hv4_151 (⟨by decide, by decide⟩ : In (-1) (-1) (-1)) cc282 (by decide) (by decide)
                        refine lv_aload_n hx hb dX11_readsCouncil_96 rfl (lv_at hl 0 rfl) ?_
                        refine call_i (run_V (rm := rm_X11_look) hx hb hml hown hts (s_X11_look l g ad (gset (gset (gset (gset (gset (gset (gset (gset th 37 zg88_za) 40 zg88_zr) 41 zg88_zl) 42 zg88_ze) 35 zg88_zt) 30 zg88_zs) 34 zg88_zf) 43 zg88_zq) _ _ _  hst hT ) cV_X11_look wg_1529 ⟨Nat.le_of_ble_eq_true rfl, Nat.le_of_ble_eq_true rfl⟩ hG hE hA hP hD hS (hst.1 255 (by decide)) hf152 rfl rfl hl.1 (As := []) (rest := []) rfl (Nat.le_of_ble_eq_true rfl) dX11_readsCouncil_97 ⟨Nat.le_of_ble_eq_true rfl, Nat.le_of_ble_eq_true rfl⟩) hA hD hS (fun r284 L285 f286 H locs hp287 hP hD hS => ?_)
                        obtain ⟨eL288L, eL288T, eL288F, eL288R⟩ := hp287
                        have eL288L : L285 = L := eL288L
                        rw [eL288L] at hP hD
                        obtain ⟨zz289, hzz289, eL288T⟩ := eL288T
                        have hgk290 : (gset (gset (gset (gset (gset (gset (gset (gset th 37 zg88_za) 40 zg88_zr) 41 zg88_zl) 42 zg88_ze) 35 zg88_zt) 30 zg88_zs) 34 zg88_zf) 43 zg88_zq) 37 = zg88_za := rfl
                        have hgk291 : (gset (gset (gset (gset (gset (gset (gset (gset th 37 zg88_za) 40 zg88_zr) 41 zg88_zl) 42 zg88_ze) 35 zg88_zt) 30 zg88_zs) 34 zg88_zf) 43 zg88_zq) 13 = th 13 := rfl
                        have hT : TI g ad (gset (gset (gset (gset (gset (gset (gset (gset (gset th 37 zg88_za) 40 zg88_zr) 41 zg88_zl) 42 zg88_ze) 35 zg88_zt) 30 zg88_zs) 34 zg88_zf) 43 zg88_zq) 37 zz289) f286 := eL288T
                        have hT : TI g ad (gset (gset (gset (gset (gset (gset (gset (gset th 40 zg88_zr) 41 zg88_zl) 42 zg88_ze) 35 zg88_zt) 30 zg88_zs) 34 zg88_zf) 43 zg88_zq) 37 zz289) f286 := TI.cast hT (by funext q; by_cases hq0 : q = 37; (subst hq0; rfl); by_cases hq1 : q = 43; (subst hq1; rfl); by_cases hq2 : q = 34; (subst hq2; rfl); by_cases hq3 : q = 30; (subst hq3; rfl); by_cases hq4 : q = 35; (subst hq4; rfl); by_cases hq5 : q = 42; (subst hq5; rfl); by_cases hq6 : q = 41; (subst hq6; rfl); by_cases hq7 : q = 40; (subst hq7; rfl); simp only [gset, if_neg hq0, if_neg hq1, if_neg hq2, if_neg hq3, if_neg hq4, if_neg hq5, if_neg hq6, if_neg hq7])
                        have eL288F : ∀ b, b ≠ (ad 255) → f286 b = f_88 b := eL288F
                        have hfr : (∀ b, b ≠ (ad 255) → b ≠ (ad 257) → f286 b = f b) := fun b z0_ z1_ => (eL288F b z0_).trans (hfr b z0_ z1_)
                        have eL288R : In r284 (-1) 255 := eL288R
                        refine lv_bipush (v := 59) hx hb dX11_readsCouncil_100 (by decide) ?_
                        refine lv_icmp_ne (tgt := 122) hx hb dX11_readsCouncil_102 (by decide) (fun c292 => ?_) (fun c292 => ?_)
                        ·
                          have oc59 : (59 : Int32).toInt = 59 := by decide
                          have cc293 : r284.toInt ≠ (59 : Int32).toInt := i32_ne c292
                          exact hJ122 zz289 zg88_zr zg88_zl zg88_ze zg88_zt zg88_zs zg88_zf zg88_zq _ _ _ _ (⟨⟨(show 0 ≤ zz289 ∧ zz289 ≤ 500 from (by have ob13 : (0 : Int) ≤ (th 13) ∧ (th 13) ≤ 500 := (b0_13 hT :); have ob35 : (0 : Int) ≤ zg88_zt ∧ zg88_zt ≤ 63 := (b0_35 hT :); have ob36 : (0 : Int) ≤ (th 36) ∧ (th 36) ≤ 20 := (b0_36 hT :); have ob37 : (0 : Int) ≤ zz289 ∧ zz289 ≤ 500 := (b0_37 hT :); have ob40 : (0 : Int) ≤ zg88_zr ∧ zg88_zr ≤ 500 := (b0_40 hT :); have ob41 : (0 : Int) ≤ zg88_zl ∧ zg88_zl ≤ 500 := (b0_41 hT :); have ob42 : ((-1) : Int) ≤ zg88_ze ∧ zg88_ze ≤ 500 := (b0_42 hT :); have ob43 : ((-1) : Int) ≤ zg88_zq ∧ zg88_zq ≤ 1 := (b0_43 hT :); omega)), (show 0 ≤ zg88_ze ∨ 0 ≤ zg88_zq from (by have ob13 : (0 : Int) ≤ (th 13) ∧ (th 13) ≤ 500 := (b0_13 hT :); have ob35 : (0 : Int) ≤ zg88_zt ∧ zg88_zt ≤ 63 := (b0_35 hT :); have ob36 : (0 : Int) ≤ (th 36) ∧ (th 36) ≤ 20 := (b0_36 hT :); have ob37 : (0 : Int) ≤ zz289 ∧ zz289 ≤ 500 := (b0_37 hT :); have ob40 : (0 : Int) ≤ zg88_zr ∧ zg88_zr ≤ 500 := (b0_40 hT :); have ob41 : (0 : Int) ≤ zg88_zl ∧ zg88_zl ≤ 500 := (b0_41 hT :); have ob42 : ((-1) : Int) ≤ zg88_ze ∧ zg88_ze ≤ 500 := (b0_42 hT :); have ob43 : ((-1) : Int) ≤ zg88_zq ∧ zg88_zq ≤ 1 := (b0_43 hT :); omega))⟩, hzg88.2⟩) hP hD hS (TI.cast hT (by funext q; by_cases hq0 : q = 37; (subst hq0; rfl); by_cases hq1 : q = 43; (subst hq1; rfl); by_cases hq2 : q = 34; (subst hq2; rfl); by_cases hq3 : q = 30; (subst hq3; rfl); by_cases hq4 : q = 35; (subst hq4; rfl); by_cases hq5 : q = 42; (subst hq5; rfl); by_cases hq6 : q = 41; (subst hq6; rfl); by_cases hq7 : q = 40; (subst hq7; rfl); simp only [gset, if_neg hq0, if_neg hq1, if_neg hq2, if_neg hq3, if_neg hq4, if_neg hq5, if_neg hq6, if_neg hq7])) hfr (lv_sub hl [0, 1] rfl)
                        ·
                          have oc59 : (59 : Int32).toInt = 59 := by decide
                          have cc294 : r284.toInt = (59 : Int32).toInt := congrArg Int32.toInt c292
                          have hb295 : In r284 59 59 := In.eq1 eL288R (⟨by decide, by decide⟩ : In 59 59 59) cc294 (by decide) (by decide)
                          refine lv_aload_n hx hb dX11_readsCouncil_105 rfl (lv_at hl 0 rfl) ?_
                          refine lv_dup hx hb dX11_readsCouncil_106 rfl ?_
                          refine M0e hT (fun v0_296 v2_296 v3_296 v4_296 v5_296 v6_296 v8_296 v9_296 v12_296 v13_296 v14_296 v15_296 v16_296 v17_296 v18_296 v19_296 v20_296 v21_296 v22_296 v23_296 v25_296 v36_296 v37_296 v38_296 v39_296 v40_296 v45_296 v46_296 v47_296 v48_296 v50_296 v51_296 v53_296 v55_296 hf297 hv0_296 hv2_296 hg2_296 hv3_296 hg3_296 hv4_296 hg4_296 hv5_296 hg5_296 hv6_296 hg6_296 hv8_296 hg8_296 hv9_296 hg9_296 hv12_296 hv13_296 hg13_296 hv14_296 hg14_296 hv15_296 hg15_296 hv17_296 hg17_296 hv20_296 hg20_296 hv23_296 hg23_296 hv25_296 hg25_296 hv36_296 hg36_296 hv47_296 hg47_296 hv48_296 hg48_296 hv53_296 hg53_296 hv55_296 hg55_296 hrel0_296 => ?_)
                          have hg15_296 : v15_296.toInt = th 11 := hg15_296
                          have hg17_296 : v17_296.toInt = th 12 := hg17_296
                          have hg20_296 : v20_296.toInt = th 14 := hg20_296
                          refine pl_get (v := .int v3_296) hx hb hts (fun w h => mT (inX11 w h)) hown hG.1 hP (hst.1 255 (by decide)) hf297 rfl 3 (by decide) (hts _ (mT wg_1339)) (fun _ h => h) rfl dX11_readsCouncil_107 ?_
                          have hg3_296 : v3_296.toInt = zz289 := hg3_296
                          refine lv_iconst (v := 1) hx hb dX11_readsCouncil_110 (by decide) ?_
                          refine lv_iadd hx hb dX11_readsCouncil_111 ?_
                          refine lv_topi (fun x298 ex298 => ?_)
                          have hb299 : In x298 1 501 := ex298 ▸ In.add hv3_296 (⟨by decide, by decide⟩ : In 1 1 1) (by decide) (by decide) (by decide) (by decide)
                          have et300 : x298.toInt = v3_296.toInt + 1 := In.adde ex298 hv3_296 (k := 1) (by decide) (by decide) (by decide)
                          refine pl_put (ty := .int) (v := .int x298) (fs' := [.int v0_296, .ref (ad 256), .int v2_296, .int x298, .int v4_296, .int v5_296, .int v6_296, .ref (ad 257), .int v8_296, .int v9_296, .ref (ad 258), .ref (ad 259), .int v12_296, .int v13_296, .int v14_296, .int v15_296, .int v16_296, .int v17_296, .int v18_296, .int v19_296, .int v20_296, .long v21_296, .long v22_296, .int v23_296, .ref (ad 260), .int v25_296, .ref (ad 261), .ref (ad 262), .ref (ad 263), .ref (ad 264), .ref (ad 265), .ref (ad 266), .ref (ad 267), .ref (ad 268), .ref (ad 269), .ref (ad 270), .int v36_296, .int v37_296, .int v38_296, .int v39_296, .int v40_296, .ref (ad 271), .ref (ad 272), .ref (ad 273), .ref (ad 274), .long v45_296, .long v46_296, .int v47_296, .int v48_296, .ref (ad 275), .int v50_296, .int v51_296, .ref (ad 276), .int v53_296, .ref (ad 277), .int v55_296]) hx hb hts (fun w h => mT (inX11 w h)) tyX11 tyX11_ok nmX11 hown hG.1 hP hD hS (hst.1 255 (by decide)) hf297 rfl 3 (by decide) (hts _ (mT wg_1339)) (fun _ h => h) rfl (by decide +kernel) (rfl) (rfl) (Nat.le_of_ble_eq_true rfl) rfl dX11_readsCouncil_112 (fun H locs f301 hf302 ho303 hP hD hS => ?_)
                          have hfr : (∀ b, b ≠ (ad 255) → b ≠ (ad 257) → f301 b = f b) := fun b z0_ z1_ => (ho303 b z0_).trans (hfr b z0_ z1_)
                          refine lv_aload_n hx hb dX11_readsCouncil_115 rfl (lv_at hl 0 rfl) ?_
                          have hT := TI.updMG (th' := (gset (gset (gset (gset (gset (gset (gset (gset (gset th 40 zg88_zr) 41 zg88_zl) 42 zg88_ze) 35 zg88_zt) 30 zg88_zs) 34 zg88_zf) 43 zg88_zq) 37 zz289) 37 (x298.toInt))) hT hst (k := 0) (by decide) hf302 ho303 ⟨v0_296, v2_296, x298, v4_296, v5_296, v6_296, v8_296, v9_296, v12_296, v13_296, v14_296, v15_296, v16_296, v17_296, v18_296, v19_296, v20_296, v21_296, v22_296, v23_296, v25_296, v36_296, v37_296, v38_296, v39_296, v40_296, v45_296, v46_296, v47_296, v48_296, v50_296, v51_296, v53_296, v55_296, rfl, hv0_296, hv2_296, hg2_296, (In.mk (by have ob13 : (0 : Int) ≤ (th 13) ∧ (th 13) ≤ 500 := (b0_13 hT :); have ob35 : (0 : Int) ≤ zg88_zt ∧ zg88_zt ≤ 63 := (b0_35 hT :); have ob36 : (0 : Int) ≤ (th 36) ∧ (th 36) ≤ 20 := (b0_36 hT :); have ob37 : (0 : Int) ≤ zz289 ∧ zz289 ≤ 500 := (b0_37 hT :); have ob40 : (0 : Int) ≤ zg88_zr ∧ zg88_zr ≤ 500 := (b0_40 hT :); have ob41 : (0 : Int) ≤ zg88_zl ∧ zg88_zl ≤ 500 := (b0_41 hT :); have ob42 : ((-1) : Int) ≤ zg88_ze ∧ zg88_ze ≤ 500 := (b0_42 hT :); have ob43 : ((-1) : Int) ≤ zg88_zq ∧ zg88_zq ≤ 1 := (b0_43 hT :); obtain ⟨o0a, o0b⟩ := (hb299 : In _ _ _); obtain ⟨o1a, o1b⟩ := (hv2_296 : In _ _ _); obtain ⟨o2a, o2b⟩ := (hv4_296 : In _ _ _); obtain ⟨o3a, o3b⟩ := (hv5_296 : In _ _ _); obtain ⟨o4a, o4b⟩ := (hv6_296 : In _ _ _); obtain ⟨o5a, o5b⟩ := (hv8_296 : In _ _ _); obtain ⟨o6a, o6b⟩ := (hv9_296 : In _ _ _); obtain ⟨o7a, o7b⟩ := (hv13_296 : In _ _ _); obtain ⟨o8a, o8b⟩ := (hv3_296 : In _ _ _); omega) (by have ob13 : (0 : Int) ≤ (th 13) ∧ (th 13) ≤ 500 := (b0_13 hT :); have ob35 : (0 : Int) ≤ zg88_zt ∧ zg88_zt ≤ 63 := (b0_35 hT :); have ob36 : (0 : Int) ≤ (th 36) ∧ (th 36) ≤ 20 := (b0_36 hT :); have ob37 : (0 : Int) ≤ zz289 ∧ zz289 ≤ 500 := (b0_37 hT :); have ob40 : (0 : Int) ≤ zg88_zr ∧ zg88_zr ≤ 500 := (b0_40 hT :); have ob41 : (0 : Int) ≤ zg88_zl ∧ zg88_zl ≤ 500 := (b0_41 hT :); have ob42 : ((-1) : Int) ≤ zg88_ze ∧ zg88_ze ≤ 500 := (b0_42 hT :); have ob43 : ((-1) : Int) ≤ zg88_zq ∧ zg88_zq ≤ 1 := (b0_43 hT :); obtain ⟨o0a, o0b⟩ := (hb299 : In _ _ _); obtain ⟨o1a, o1b⟩ := (hv2_296 : In _ _ _); obtain ⟨o2a, o2b⟩ := (hv4_296 : In _ _ _); obtain ⟨o3a, o3b⟩ := (hv5_296 : In _ _ _); obtain ⟨o4a, o4b⟩ := (hv6_296 : In _ _ _); obtain ⟨o5a, o5b⟩ := (hv8_296 : In _ _ _); obtain ⟨o6a, o6b⟩ := (hv9_296 : In _ _ _); obtain ⟨o7a, o7b⟩ := (hv13_296 : In _ _ _); obtain ⟨o8a, o8b⟩ := (hv3_296 : In _ _ _); omega)), rfl, hv4_296, hg4_296, hv5_296, hg5_296, hv6_296, hg6_296, hv8_296, hg8_296, hv9_296, hg9_296, hv12_296, hv13_296, hg13_296, hv14_296, hg14_296, hv15_296, hg15_296, hv17_296, hg17_296, hv20_296, hg20_296, hv23_296, hg23_296, hv25_296, hg25_296, hv36_296, hg36_296, hv47_296, hg47_296, hv48_296, hg48_296, hv53_296, hg53_296, hv55_296, hg55_296, hrel0_296⟩ (fun q hq => ((gset_ne (fun e => hq (by subst e; decide))).trans rfl))
                          have hT : TI g ad (gset (gset (gset (gset (gset (gset (gset (gset th 40 zg88_zr) 41 zg88_zl) 42 zg88_ze) 35 zg88_zt) 30 zg88_zs) 34 zg88_zf) 43 zg88_zq) 37 x298.toInt) f301 := TI.cast hT (by funext q; by_cases hq0 : q = 37; (subst hq0; rfl); by_cases hq1 : q = 43; (subst hq1; rfl); by_cases hq2 : q = 34; (subst hq2; rfl); by_cases hq3 : q = 30; (subst hq3; rfl); by_cases hq4 : q = 35; (subst hq4; rfl); by_cases hq5 : q = 42; (subst hq5; rfl); by_cases hq6 : q = 41; (subst hq6; rfl); by_cases hq7 : q = 40; (subst hq7; rfl); simp only [gset, if_neg hq0, if_neg hq1, if_neg hq2, if_neg hq3, if_neg hq4, if_neg hq5, if_neg hq6, if_neg hq7])
                          refine M0e hT (fun v0_304 v2_304 v3_304 v4_304 v5_304 v6_304 v8_304 v9_304 v12_304 v13_304 v14_304 v15_304 v16_304 v17_304 v18_304 v19_304 v20_304 v21_304 v22_304 v23_304 v25_304 v36_304 v37_304 v38_304 v39_304 v40_304 v45_304 v46_304 v47_304 v48_304 v50_304 v51_304 v53_304 v55_304 hf305 hv0_304 hv2_304 hg2_304 hv3_304 hg3_304 hv4_304 hg4_304 hv5_304 hg5_304 hv6_304 hg6_304 hv8_304 hg8_304 hv9_304 hg9_304 hv12_304 hv13_304 hg13_304 hv14_304 hg14_304 hv15_304 hg15_304 hv17_304 hg17_304 hv20_304 hg20_304 hv23_304 hg23_304 hv25_304 hg25_304 hv36_304 hg36_304 hv47_304 hg47_304 hv48_304 hg48_304 hv53_304 hg53_304 hv55_304 hg55_304 hrel0_304 => ?_)
                          have hg15_304 : v15_304.toInt = th 11 := hg15_304
                          have hg17_304 : v17_304.toInt = th 12 := hg17_304
                          have hg20_304 : v20_304.toInt = th 14 := hg20_304
                          refine call_v (run_V (rm := rm_X11_piece) hx hb hml hown hts (s_X11_piece l g ad (gset (gset (gset (gset (gset (gset (gset (gset th 40 zg88_zr) 41 zg88_zl) 42 zg88_ze) 35 zg88_zt) 30 zg88_zs) 34 zg88_zf) 43 zg88_zq) 37 x298.toInt) _ _ _  hst hT (show DIp (zg88_zt) (zg88_zs) (zg88_zf) from hzg88.2)) cV_X11_piece wg_1549 ⟨Nat.le_of_ble_eq_true rfl, Nat.le_of_ble_eq_true rfl⟩ hG hE hA hP hD hS (hst.1 255 (by decide)) hf305 rfl rfl hl.1 (As := []) (rest := []) rfl (Nat.le_of_ble_eq_true rfl) dX11_readsCouncil_116 ⟨Nat.le_of_ble_eq_true rfl, Nat.le_of_ble_eq_true rfl⟩) hA hD hS (fun L307 f308 H locs hp309 hP hD hS => ?_)
                          obtain ⟨eL310L, eL310T, eL310F⟩ := hp309
                          have eL310L : L307 = L := eL310L
                          rw [eL310L] at hP hD
                          obtain ⟨zz311, zz312, zz313, zz314, zz315, zz316, zz317, hzz311, eL310T⟩ := eL310T
                          have hzz311 : (x298.toInt ≤ zz311 ∧ zz311 ≤ 500) ∧ DIp zz315 zz316 zz317 := hzz311
                          have hT : TI g ad (gset (gset (gset (gset (gset (gset (gset (gset (gset (gset (gset (gset (gset (gset (gset th 40 zg88_zr) 41 zg88_zl) 42 zg88_ze) 35 zg88_zt) 30 zg88_zs) 34 zg88_zf) 43 zg88_zq) 37 x298.toInt) 37 zz311) 40 zz312) 41 zz313) 42 zz314) 35 zz315) 30 zz316) 34 zz317) f308 := eL310T
                          have hT : TI g ad (gset (gset (gset (gset (gset (gset (gset (gset th 43 zg88_zq) 37 zz311) 40 zz312) 41 zz313) 42 zz314) 35 zz315) 30 zz316) 34 zz317) f308 := TI.cast hT (by funext q; by_cases hq0 : q = 34; (subst hq0; rfl); by_cases hq1 : q = 30; (subst hq1; rfl); by_cases hq2 : q = 35; (subst hq2; rfl); by_cases hq3 : q = 42; (subst hq3; rfl); by_cases hq4 : q = 41; (subst hq4; rfl); by_cases hq5 : q = 40; (subst hq5; rfl); by_cases hq6 : q = 37; (subst hq6; rfl); by_cases hq7 : q = 43; (subst hq7; rfl); simp only [gset, if_neg hq0, if_neg hq1, if_neg hq2, if_neg hq3, if_neg hq4, if_neg hq5, if_neg hq6, if_neg hq7])
                          have eL310F : ∀ b, b ≠ (ad 255) → b ≠ (ad 257) → f308 b = f301 b := eL310F
                          have hfr : (∀ b, b ≠ (ad 255) → b ≠ (ad 257) → f308 b = f b) := fun b z0_ z1_ => (eL310F b z0_ z1_).trans (hfr b z0_ z1_)
                          refine lv_goto (tgt := 88) hx hb dX11_readsCouncil_119 (by decide) ?_
                          exact ih88 zz311 zz312 zz313 zz314 zz315 zz316 zz317 zg88_zq _ _ _ _ (⟨⟨(show 0 ≤ zz311 ∧ zz311 ≤ 500 from (by have ob13 : (0 : Int) ≤ (th 13) ∧ (th 13) ≤ 500 := (b0_13 hT :); have ob35 : (0 : Int) ≤ zz315 ∧ zz315 ≤ 63 := (b0_35 hT :); have ob36 : (0 : Int) ≤ (th 36) ∧ (th 36) ≤ 20 := (b0_36 hT :); have ob37 : (0 : Int) ≤ zz311 ∧ zz311 ≤ 500 := (b0_37 hT :); have ob40 : (0 : Int) ≤ zz312 ∧ zz312 ≤ 500 := (b0_40 hT :); have ob41 : (0 : Int) ≤ zz313 ∧ zz313 ≤ 500 := (b0_41 hT :); have ob42 : ((-1) : Int) ≤ zz314 ∧ zz314 ≤ 500 := (b0_42 hT :); have ob43 : ((-1) : Int) ≤ zg88_zq ∧ zg88_zq ≤ 1 := (b0_43 hT :); omega)), (show 0 ≤ zz314 ∨ 0 ≤ zg88_zq from (by have ob13 : (0 : Int) ≤ (th 13) ∧ (th 13) ≤ 500 := (b0_13 hT :); have ob35 : (0 : Int) ≤ zz315 ∧ zz315 ≤ 63 := (b0_35 hT :); have ob36 : (0 : Int) ≤ (th 36) ∧ (th 36) ≤ 20 := (b0_36 hT :); have ob37 : (0 : Int) ≤ zz311 ∧ zz311 ≤ 500 := (b0_37 hT :); have ob40 : (0 : Int) ≤ zz312 ∧ zz312 ≤ 500 := (b0_40 hT :); have ob41 : (0 : Int) ≤ zz313 ∧ zz313 ≤ 500 := (b0_41 hT :); have ob42 : ((-1) : Int) ≤ zz314 ∧ zz314 ≤ 500 := (b0_42 hT :); have ob43 : ((-1) : Int) ≤ zg88_zq ∧ zg88_zq ≤ 1 := (b0_43 hT :); omega))⟩, hzz311.2⟩) hP hD hS (TI.cast hT (by funext q; by_cases hq0 : q = 34; (subst hq0; rfl); by_cases hq1 : q = 30; (subst hq1; rfl); by_cases hq2 : q = 35; (subst hq2; rfl); by_cases hq3 : q = 42; (subst hq3; rfl); by_cases hq4 : q = 41; (subst hq4; rfl); by_cases hq5 : q = 40; (subst hq5; rfl); by_cases hq6 : q = 37; (subst hq6; rfl); by_cases hq7 : q = 43; (subst hq7; rfl); simp only [gset, if_neg hq0, if_neg hq1, if_neg hq2, if_neg hq3, if_neg hq4, if_neg hq5, if_neg hq6, if_neg hq7])) hfr (lv_sub hl [0, 1] rfl) (show 500 - (zz311) < ((k88 : Nat) : Int) from (by have ob13 : (0 : Int) ≤ (th 13) ∧ (th 13) ≤ 500 := (b0_13 hT :); have ob35 : (0 : Int) ≤ zz315 ∧ zz315 ≤ 63 := (b0_35 hT :); have ob36 : (0 : Int) ≤ (th 36) ∧ (th 36) ≤ 20 := (b0_36 hT :); have ob37 : (0 : Int) ≤ zz311 ∧ zz311 ≤ 500 := (b0_37 hT :); have ob40 : (0 : Int) ≤ zz312 ∧ zz312 ≤ 500 := (b0_40 hT :); have ob41 : (0 : Int) ≤ zz313 ∧ zz313 ≤ 500 := (b0_41 hT :); have ob42 : ((-1) : Int) ≤ zz314 ∧ zz314 ≤ 500 := (b0_42 hT :); have ob43 : ((-1) : Int) ≤ zg88_zq ∧ zg88_zq ≤ 1 := (b0_43 hT :); omega))
                  refine lv_icmp_ne (tgt := 88) hx hb dX11_readsCouncil_77 (by decide) (fun c318 => ?_) (fun c318 => ?_)
                  ·
                    have ocm1 : ((-1) : Int32).toInt = (-1) := by decide
                    have cc319 : y69_s0.toInt ≠ ((-1) : Int32).toInt := i32_ne c318
                    have hb320 : In y69_s0 0 1 := In.ne1 hy69_s0 (⟨by decide, by decide⟩ : In (-1) (-1) (-1)) cc319 (by decide) (by decide)
                    exact hJ88 ((500 - zg69_za).toNat + 1) zg69_za zg69_zr zg69_zl zg69_ze zg69_zt zg69_zs zg69_zf y69_s0.toInt _ _ _ _ (⟨⟨(show 0 ≤ zg69_za ∧ zg69_za ≤ 500 from (by have ob13 : (0 : Int) ≤ (th 13) ∧ (th 13) ≤ 500 := (b0_13 hT :); have ob35 : (0 : Int) ≤ zg69_zt ∧ zg69_zt ≤ 63 := (b0_35 hT :); have ob36 : (0 : Int) ≤ (th 36) ∧ (th 36) ≤ 20 := (b0_36 hT :); have ob37 : (0 : Int) ≤ zg69_za ∧ zg69_za ≤ 500 := (b0_37 hT :); have ob40 : (0 : Int) ≤ zg69_zr ∧ zg69_zr ≤ 500 := (b0_40 hT :); have ob41 : (0 : Int) ≤ zg69_zl ∧ zg69_zl ≤ 500 := (b0_41 hT :); have ob42 : ((-1) : Int) ≤ zg69_ze ∧ zg69_ze ≤ 500 := (b0_42 hT :); have ob43 : ((-1) : Int) ≤ y69_s0.toInt ∧ y69_s0.toInt ≤ 1 := (b0_43 hT :); omega)), (show 0 ≤ zg69_ze ∨ 0 ≤ y69_s0.toInt from (by have ob13 : (0 : Int) ≤ (th 13) ∧ (th 13) ≤ 500 := (b0_13 hT :); have ob35 : (0 : Int) ≤ zg69_zt ∧ zg69_zt ≤ 63 := (b0_35 hT :); have ob36 : (0 : Int) ≤ (th 36) ∧ (th 36) ≤ 20 := (b0_36 hT :); have ob37 : (0 : Int) ≤ zg69_za ∧ zg69_za ≤ 500 := (b0_37 hT :); have ob40 : (0 : Int) ≤ zg69_zr ∧ zg69_zr ≤ 500 := (b0_40 hT :); have ob41 : (0 : Int) ≤ zg69_zl ∧ zg69_zl ≤ 500 := (b0_41 hT :); have ob42 : ((-1) : Int) ≤ zg69_ze ∧ zg69_ze ≤ 500 := (b0_42 hT :); have ob43 : ((-1) : Int) ≤ y69_s0.toInt ∧ y69_s0.toInt ≤ 1 := (b0_43 hT :); omega))⟩, hzg69.2⟩) hP hD hS (TI.cast hT (by funext q; by_cases hq0 : q = 43; (subst hq0; rfl); by_cases hq1 : q = 34; (subst hq1; rfl); by_cases hq2 : q = 30; (subst hq2; rfl); by_cases hq3 : q = 35; (subst hq3; rfl); by_cases hq4 : q = 42; (subst hq4; rfl); by_cases hq5 : q = 41; (subst hq5; rfl); by_cases hq6 : q = 40; (subst hq6; rfl); by_cases hq7 : q = 37; (subst hq7; rfl); simp only [gset, if_neg hq0, if_neg hq1, if_neg hq2, if_neg hq3, if_neg hq4, if_neg hq5, if_neg hq6, if_neg hq7])) hfr (lv_sub hl [0, 1] rfl) (msI _)
                  ·
                    have ocm1 : ((-1) : Int32).toInt = (-1) := by decide
                    have cc321 : y69_s0.toInt = ((-1) : Int32).toInt := congrArg Int32.toInt c318
                    have hb322 : In y69_s0 (-1) (-1) := In.eq1 hy69_s0 (⟨by decide, by decide⟩ : In (-1) (-1) (-1)) cc321 (by decide) (by decide)
                    refine lv_aload_n hx hb dX11_readsCouncil_80 rfl (lv_at hl 0 rfl) ?_
                    refine lv_aload_n hx hb dX11_readsCouncil_81 rfl (lv_at hl 0 rfl) ?_
                    refine M0e hT (fun v0_323 v2_323 v3_323 v4_323 v5_323 v6_323 v8_323 v9_323 v12_323 v13_323 v14_323 v15_323 v16_323 v17_323 v18_323 v19_323 v20_323 v21_323 v22_323 v23_323 v25_323 v36_323 v37_323 v38_323 v39_323 v40_323 v45_323 v46_323 v47_323 v48_323 v50_323 v51_323 v53_323 v55_323 hf324 hv0_323 hv2_323 hg2_323 hv3_323 hg3_323 hv4_323 hg4_323 hv5_323 hg5_323 hv6_323 hg6_323 hv8_323 hg8_323 hv9_323 hg9_323 hv12_323 hv13_323 hg13_323 hv14_323 hg14_323 hv15_323 hg15_323 hv17_323 hg17_323 hv20_323 hg20_323 hv23_323 hg23_323 hv25_323 hg25_323 hv36_323 hg36_323 hv47_323 hg47_323 hv48_323 hg48_323 hv53_323 hg53_323 hv55_323 hg55_323 hrel0_323 => ?_)
                    have hg15_323 : v15_323.toInt = th 11 := hg15_323
                    have hg17_323 : v17_323.toInt = th 12 := hg17_323
                    have hg20_323 : v20_323.toInt = th 14 := hg20_323
                    refine pl_get (v := .int v3_323) hx hb hts (fun w h => mT (inX11 w h)) hown hG.1 hP (hst.1 255 (by decide)) hf324 rfl 3 (by decide) (hts _ (mT wg_1339)) (fun _ h => h) rfl dX11_readsCouncil_82 ?_
                    have hg3_323 : v3_323.toInt = zg69_za := hg3_323
                    refine call_v (run_V (rm := rm_X11_fails) hx hb hml hown hts (s_X11_fails l g ad (gset (gset (gset (gset (gset (gset (gset (gset th 37 zg69_za) 40 zg69_zr) 41 zg69_zl) 42 zg69_ze) 35 zg69_zt) 30 zg69_zs) 34 zg69_zf) 43 y69_s0.toInt) _ _ _ v3_323 hst hT hv3_323) cV_X11_fails wg_1545 ⟨Nat.le_of_ble_eq_true rfl, Nat.le_of_ble_eq_true rfl⟩ hG hE hA hP hD hS (hst.1 255 (by decide)) hf324 rfl rfl hl.1 (As := [.int v3_323]) (rest := []) rfl (Nat.le_of_ble_eq_true rfl) dX11_readsCouncil_85 ⟨Nat.le_of_ble_eq_true rfl, Nat.le_of_ble_eq_true rfl⟩) hA hD hS (fun L326 f327 H locs hp328 hP hD hS => ?_)
                    obtain ⟨eL329L, eL329T, eL329F⟩ := hp328
                    have eL329L : L326 = L := eL329L
                    rw [eL329L] at hP hD
                    obtain ⟨zz330, hzz330, eL329T⟩ := eL329T
                    have hzz330 : 0 ≤ zz330 := hzz330
                    have hT : TI g ad (gset (gset (gset (gset (gset (gset (gset (gset (gset th 37 zg69_za) 40 zg69_zr) 41 zg69_zl) 42 zg69_ze) 35 zg69_zt) 30 zg69_zs) 34 zg69_zf) 43 y69_s0.toInt) 42 zz330) f327 := eL329T
                    have hT : TI g ad (gset (gset (gset (gset (gset (gset (gset (gset th 37 zg69_za) 40 zg69_zr) 41 zg69_zl) 35 zg69_zt) 30 zg69_zs) 34 zg69_zf) 43 y69_s0.toInt) 42 zz330) f327 := TI.cast hT (by funext q; by_cases hq0 : q = 42; (subst hq0; rfl); by_cases hq1 : q = 43; (subst hq1; rfl); by_cases hq2 : q = 34; (subst hq2; rfl); by_cases hq3 : q = 30; (subst hq3; rfl); by_cases hq4 : q = 35; (subst hq4; rfl); by_cases hq5 : q = 41; (subst hq5; rfl); by_cases hq6 : q = 40; (subst hq6; rfl); by_cases hq7 : q = 37; (subst hq7; rfl); simp only [gset, if_neg hq0, if_neg hq1, if_neg hq2, if_neg hq3, if_neg hq4, if_neg hq5, if_neg hq6, if_neg hq7])
                    have eL329F : ∀ b, b ≠ (ad 255) → f327 b = f148 b := eL329F
                    have hfr : (∀ b, b ≠ (ad 255) → b ≠ (ad 257) → f327 b = f b) := fun b z0_ z1_ => (eL329F b z0_).trans (hfr b z0_ z1_)
                    exact hJ88 ((500 - zg69_za).toNat + 1) zg69_za zg69_zr zg69_zl zz330 zg69_zt zg69_zs zg69_zf y69_s0.toInt _ _ _ _ (⟨⟨(show 0 ≤ zg69_za ∧ zg69_za ≤ 500 from (by have ob13 : (0 : Int) ≤ (th 13) ∧ (th 13) ≤ 500 := (b0_13 hT :); have ob35 : (0 : Int) ≤ zg69_zt ∧ zg69_zt ≤ 63 := (b0_35 hT :); have ob36 : (0 : Int) ≤ (th 36) ∧ (th 36) ≤ 20 := (b0_36 hT :); have ob37 : (0 : Int) ≤ zg69_za ∧ zg69_za ≤ 500 := (b0_37 hT :); have ob40 : (0 : Int) ≤ zg69_zr ∧ zg69_zr ≤ 500 := (b0_40 hT :); have ob41 : (0 : Int) ≤ zg69_zl ∧ zg69_zl ≤ 500 := (b0_41 hT :); have ob42 : ((-1) : Int) ≤ zz330 ∧ zz330 ≤ 500 := (b0_42 hT :); have ob43 : ((-1) : Int) ≤ y69_s0.toInt ∧ y69_s0.toInt ≤ 1 := (b0_43 hT :); omega)), (show 0 ≤ zz330 ∨ 0 ≤ y69_s0.toInt from (by have ob13 : (0 : Int) ≤ (th 13) ∧ (th 13) ≤ 500 := (b0_13 hT :); have ob35 : (0 : Int) ≤ zg69_zt ∧ zg69_zt ≤ 63 := (b0_35 hT :); have ob36 : (0 : Int) ≤ (th 36) ∧ (th 36) ≤ 20 := (b0_36 hT :); have ob37 : (0 : Int) ≤ zg69_za ∧ zg69_za ≤ 500 := (b0_37 hT :); have ob40 : (0 : Int) ≤ zg69_zr ∧ zg69_zr ≤ 500 := (b0_40 hT :); have ob41 : (0 : Int) ≤ zg69_zl ∧ zg69_zl ≤ 500 := (b0_41 hT :); have ob42 : ((-1) : Int) ≤ zz330 ∧ zz330 ≤ 500 := (b0_42 hT :); have ob43 : ((-1) : Int) ≤ y69_s0.toInt ∧ y69_s0.toInt ≤ 1 := (b0_43 hT :); omega))⟩, hzg69.2⟩) hP hD hS (TI.cast hT (by funext q; by_cases hq0 : q = 42; (subst hq0; rfl); by_cases hq1 : q = 43; (subst hq1; rfl); by_cases hq2 : q = 34; (subst hq2; rfl); by_cases hq3 : q = 30; (subst hq3; rfl); by_cases hq4 : q = 35; (subst hq4; rfl); by_cases hq5 : q = 41; (subst hq5; rfl); by_cases hq6 : q = 40; (subst hq6; rfl); by_cases hq7 : q = 37; (subst hq7; rfl); simp only [gset, if_neg hq0, if_neg hq1, if_neg hq2, if_neg hq3, if_neg hq4, if_neg hq5, if_neg hq6, if_neg hq7])) hfr (lv_sub hl [0, 1] rfl) (msI _)
                refine lv_if_eq (tgt := 55) hx hb dX11_readsCouncil_48 (by decide) (fun c331 => ?_) (fun c331 => ?_)
                ·
                  have oc0 : (0 : Int32).toInt = 0 := by decide
                  have cc332 : r140.toInt = (0 : Int32).toInt := congrArg Int32.toInt c331
                  have hb333 : In r140 0 0 := In.eq1 eL144R (⟨by decide, by decide⟩ : In 0 0 0) cc332 (by decide) (by decide)
                  refine lv_aload_n hx hb dX11_readsCouncil_55 rfl (lv_at hl 1 rfl) ?_
                  refine va_ldcS hx hb hown (hG.2.2.1 ("RulerWordModel", 176, "queen", 1) (by decide +kernel)) dX11_readsCouncil_56 ?_
                  refine M0e hT (fun v0_334 v2_334 v3_334 v4_334 v5_334 v6_334 v8_334 v9_334 v12_334 v13_334 v14_334 v15_334 v16_334 v17_334 v18_334 v19_334 v20_334 v21_334 v22_334 v23_334 v25_334 v36_334 v37_334 v38_334 v39_334 v40_334 v45_334 v46_334 v47_334 v48_334 v50_334 v51_334 v53_334 v55_334 hf335 hv0_334 hv2_334 hg2_334 hv3_334 hg3_334 hv4_334 hg4_334 hv5_334 hg5_334 hv6_334 hg6_334 hv8_334 hg8_334 hv9_334 hg9_334 hv12_334 hv13_334 hg13_334 hv14_334 hg14_334 hv15_334 hg15_334 hv17_334 hg17_334 hv20_334 hg20_334 hv23_334 hg23_334 hv25_334 hg25_334 hv36_334 hg36_334 hv47_334 hg47_334 hv48_334 hg48_334 hv53_334 hg53_334 hv55_334 hg55_334 hrel0_334 => ?_)
                  have hg15_334 : v15_334.toInt = th 11 := hg15_334
                  have hg17_334 : v17_334.toInt = th 12 := hg17_334
                  have hg20_334 : v20_334.toInt = th 14 := hg20_334
                  refine call_i (run_V (rm := rm_X11_takes) hx hb hml hown hts (s_X11_takes l g ad (gset (gset (gset (gset (gset th 42 (-1)) 35 0) 30 0) 34 0) 37 zz145) _ _ _ 1 hst hT (by decide)) cV_X11_takes wg_1538 ⟨Nat.le_of_ble_eq_true rfl, Nat.le_of_ble_eq_true rfl⟩ hG hE hA hP hD hS (hst.1 255 (by decide)) hf335 rfl rfl hl.1 (As := [.ref (g.2.2.1 1)]) (rest := [.ref (ad 255)]) rfl (Nat.le_of_ble_eq_true rfl) dX11_readsCouncil_58 ⟨Nat.le_of_ble_eq_true rfl, Nat.le_of_ble_eq_true rfl⟩) hA hD hS (fun r336 L337 f338 H locs hp339 hP hD hS => ?_)
                  obtain ⟨eL340L, eL340T, eL340F, eL340R⟩ := hp339
                  have eL340L : L337 = L := eL340L
                  rw [eL340L] at hP hD
                  obtain ⟨zz341, hzz341, eL340T⟩ := eL340T
                  have hzz341 : zz145 ≤ zz341 ∧ zz341 ≤ 500 := hzz341
                  have hT : TI g ad (gset (gset (gset (gset (gset (gset th 42 (-1)) 35 0) 30 0) 34 0) 37 zz145) 37 zz341) f338 := eL340T
                  have hT : TI g ad (gset (gset (gset (gset (gset th 42 (-1)) 35 0) 30 0) 34 0) 37 zz341) f338 := TI.cast hT (by funext q; by_cases hq0 : q = 37; (subst hq0; rfl); by_cases hq1 : q = 34; (subst hq1; rfl); by_cases hq2 : q = 30; (subst hq2; rfl); by_cases hq3 : q = 35; (subst hq3; rfl); by_cases hq4 : q = 42; (subst hq4; rfl); simp only [gset, if_neg hq0, if_neg hq1, if_neg hq2, if_neg hq3, if_neg hq4])
                  have eL340F : ∀ b, b ≠ (ad 255) → f338 b = f142 b := eL340F
                  have hfr : (∀ b, b ≠ (ad 255) → b ≠ (ad 257) → f338 b = f b) := fun b z0_ z1_ => (eL340F b z0_).trans (hfr b z0_ z1_)
                  have eL340R : In r336 0 1 := eL340R
                  refine lv_if_eq (tgt := 68) hx hb dX11_readsCouncil_61 (by decide) (fun c342 => ?_) (fun c342 => ?_)
                  ·
                    have oc0 : (0 : Int32).toInt = 0 := by decide
                    have cc343 : r336.toInt = (0 : Int32).toInt := congrArg Int32.toInt c342
                    have hb344 : In r336 0 0 := In.eq1 eL340R (⟨by decide, by decide⟩ : In 0 0 0) cc343 (by decide) (by decide)
                    refine lv_iconst (v := (-1)) hx hb dX11_readsCouncil_68 (by decide) ?_
                    exact hJ69 zz341 (th 40) (th 41) (-1 : Int) (0 : Int) (0 : Int) (0 : Int) (th 43) (-1) _ _ _ _ (⟨(show 0 ≤ zz341 ∧ zz341 ≤ 500 from (by have ob13 : (0 : Int) ≤ (th 13) ∧ (th 13) ≤ 500 := (b0_13 hT :); have ob35 : (0 : Int) ≤ (0 : Int) ∧ (0 : Int) ≤ 63 := (b0_35 hT :); have ob36 : (0 : Int) ≤ (th 36) ∧ (th 36) ≤ 20 := (b0_36 hT :); have ob37 : (0 : Int) ≤ zz341 ∧ zz341 ≤ 500 := (b0_37 hT :); have ob40 : (0 : Int) ≤ (th 40) ∧ (th 40) ≤ 500 := (b0_40 hT :); have ob41 : (0 : Int) ≤ (th 41) ∧ (th 41) ≤ 500 := (b0_41 hT :); have ob42 : ((-1) : Int) ≤ (-1 : Int) ∧ (-1 : Int) ≤ 500 := (b0_42 hT :); have ob43 : ((-1) : Int) ≤ (th 43) ∧ (th 43) ≤ 1 := (b0_43 hT :); omega)), di_0⟩) (⟨by decide, by decide⟩ : In (-1) (-1) 1) hP hD hS (TI.cast hT (by funext q; by_cases hq0 : q = 37; (subst hq0; rfl); by_cases hq1 : q = 34; (subst hq1; rfl); by_cases hq2 : q = 30; (subst hq2; rfl); by_cases hq3 : q = 35; (subst hq3; rfl); by_cases hq4 : q = 42; (subst hq4; rfl); by_cases hq5 : q = 40; (subst hq5; rfl); by_cases hq6 : q = 41; (subst hq6; rfl); by_cases hq7 : q = 43; (subst hq7; rfl); simp only [gset, if_neg hq0, if_neg hq1, if_neg hq2, if_neg hq3, if_neg hq4, if_neg hq5, if_neg hq6, if_neg hq7])) hfr (lv_sub hl [1, 0] rfl)
                  ·
                    have oc0 : (0 : Int32).toInt = 0 := by decide
                    have cc345 : r336.toInt ≠ (0 : Int32).toInt := i32_ne c342
                    have hb346 : In r336 1 1 := In.ne1 eL340R (⟨by decide, by decide⟩ : In 0 0 0) cc345 (by decide) (by decide)
                    refine lv_iconst (v := 1) hx hb dX11_readsCouncil_64 (by decide) ?_
                    refine lv_goto (tgt := 69) hx hb dX11_readsCouncil_65 (by decide) ?_
                    exact hJ69 zz341 (th 40) (th 41) (-1 : Int) (0 : Int) (0 : Int) (0 : Int) (th 43) 1 _ _ _ _ (⟨(show 0 ≤ zz341 ∧ zz341 ≤ 500 from (by have ob13 : (0 : Int) ≤ (th 13) ∧ (th 13) ≤ 500 := (b0_13 hT :); have ob35 : (0 : Int) ≤ (0 : Int) ∧ (0 : Int) ≤ 63 := (b0_35 hT :); have ob36 : (0 : Int) ≤ (th 36) ∧ (th 36) ≤ 20 := (b0_36 hT :); have ob37 : (0 : Int) ≤ zz341 ∧ zz341 ≤ 500 := (b0_37 hT :); have ob40 : (0 : Int) ≤ (th 40) ∧ (th 40) ≤ 500 := (b0_40 hT :); have ob41 : (0 : Int) ≤ (th 41) ∧ (th 41) ≤ 500 := (b0_41 hT :); have ob42 : ((-1) : Int) ≤ (-1 : Int) ∧ (-1 : Int) ≤ 500 := (b0_42 hT :); have ob43 : ((-1) : Int) ≤ (th 43) ∧ (th 43) ≤ 1 := (b0_43 hT :); omega)), di_0⟩) (⟨by decide, by decide⟩ : In 1 (-1) 1) hP hD hS (TI.cast hT (by funext q; by_cases hq0 : q = 37; (subst hq0; rfl); by_cases hq1 : q = 34; (subst hq1; rfl); by_cases hq2 : q = 30; (subst hq2; rfl); by_cases hq3 : q = 35; (subst hq3; rfl); by_cases hq4 : q = 42; (subst hq4; rfl); by_cases hq5 : q = 40; (subst hq5; rfl); by_cases hq6 : q = 41; (subst hq6; rfl); by_cases hq7 : q = 43; (subst hq7; rfl); simp only [gset, if_neg hq0, if_neg hq1, if_neg hq2, if_neg hq3, if_neg hq4, if_neg hq5, if_neg hq6, if_neg hq7])) hfr (lv_sub hl [1, 0] rfl)
                ·
                  have oc0 : (0 : Int32).toInt = 0 := by decide
                  have cc347 : r140.toInt ≠ (0 : Int32).toInt := i32_ne c331
                  have hb348 : In r140 1 1 := In.ne1 eL144R (⟨by decide, by decide⟩ : In 0 0 0) cc347 (by decide) (by decide)
                  refine lv_iconst (v := 0) hx hb dX11_readsCouncil_51 (by decide) ?_
                  refine lv_goto (tgt := 69) hx hb dX11_readsCouncil_52 (by decide) ?_
                  exact hJ69 zz145 (th 40) (th 41) (-1 : Int) (0 : Int) (0 : Int) (0 : Int) (th 43) 0 _ _ _ _ (⟨(show 0 ≤ zz145 ∧ zz145 ≤ 500 from (by have ob13 : (0 : Int) ≤ (th 13) ∧ (th 13) ≤ 500 := (b0_13 hT :); have ob35 : (0 : Int) ≤ (0 : Int) ∧ (0 : Int) ≤ 63 := (b0_35 hT :); have ob36 : (0 : Int) ≤ (th 36) ∧ (th 36) ≤ 20 := (b0_36 hT :); have ob37 : (0 : Int) ≤ zz145 ∧ zz145 ≤ 500 := (b0_37 hT :); have ob40 : (0 : Int) ≤ (th 40) ∧ (th 40) ≤ 500 := (b0_40 hT :); have ob41 : (0 : Int) ≤ (th 41) ∧ (th 41) ≤ 500 := (b0_41 hT :); have ob42 : ((-1) : Int) ≤ (-1 : Int) ∧ (-1 : Int) ≤ 500 := (b0_42 hT :); have ob43 : ((-1) : Int) ≤ (th 43) ∧ (th 43) ≤ 1 := (b0_43 hT :); omega)), di_0⟩) (⟨by decide, by decide⟩ : In 0 (-1) 1) hP hD hS (TI.cast hT (by funext q; by_cases hq0 : q = 37; (subst hq0; rfl); by_cases hq1 : q = 34; (subst hq1; rfl); by_cases hq2 : q = 30; (subst hq2; rfl); by_cases hq3 : q = 35; (subst hq3; rfl); by_cases hq4 : q = 42; (subst hq4; rfl); by_cases hq5 : q = 40; (subst hq5; rfl); by_cases hq6 : q = 41; (subst hq6; rfl); by_cases hq7 : q = 43; (subst hq7; rfl); simp only [gset, if_neg hq0, if_neg hq1, if_neg hq2, if_neg hq3, if_neg hq4, if_neg hq5, if_neg hq6, if_neg hq7])) hfr (lv_sub hl [1, 0] rfl)
              ·
                have oc6 : (6 : Int32).toInt = 6 := by decide
                have oc6 : (6 : Int32).toInt = 6 := by decide
                have cc349 : (6 : Int32).toInt < (6 : Int32).toInt := i32_nle c128
                exact In.empty (lo := 6) (hi := 5) (In.lt1 (⟨by decide, by decide⟩ : In 6 6 6) (⟨by decide, by decide⟩ : In 6 6 6) cc349 (by decide) (by decide)) (by decide)

abbrev rm_X11_planLine : Room := { frames := 5, cells := 0, slots := 0, locals := 108 }
abbrev po_X11_planLine (g : GG) (ad : Nat → Nat) (th : Nat → Int) (L : List Nat) (f : HP)  : (List Nat × HP) → Prop := fun u => u.1 = L ∧ (∃ za zr zl ze zn : Int, (th 37 ≤ za ∧ za ≤ 500) ∧ TI g ad (gset (gset (gset (gset (gset th 37 za) 40 zr) 41 zl) 42 ze) 36 zn) u.2) ∧ (∀ b, b ≠ (ad 255) → b ≠ (ad 259) → u.2 b = f b)
set_option maxHeartbeats 4000000 in
set_option maxRecDepth 100000 in
theorem s_X11_planLine (l : Launch) (g : GG) (ad : Nat → Nat) (th : Nat → Int) (L : List Nat) (f : HP) (sz : Nat)  (hst : ST ad L) (hT : TI g ad th f)  : MtV l g yX11_planLine cX11_planLine 3 rm_X11_planLine [.ref (ad 255)] L f sz (po_X11_planLine g ad th L f ) := by
  refine MtV.of (by decide +kernel) (Nat.le_of_ble_eq_true rfl) ?_
  intro p e s m below meth c A hEn hP hD hS ls hl
  obtain ⟨hx, hb, hr, hml, hown, hlocks, hts, hG, hA, hE, hnm⟩ := hEn
  have hown : s.vm.findClass "RulerWordModel" = some m.cls := hown
  have hl : lv_has ls 3 [(0, .ref (ad 255))] := hl
  have hfr : (∀ b, b ≠ (ad 255) → b ≠ (ad 259) → f b = f b) := fun b z0_ z1_ => rfl
  refine lv_aload_n hx hb dX11_planLine_0 rfl (lv_at hl 0 rfl) ?_
  refine M0e hT (fun v0_1 v2_1 v3_1 v4_1 v5_1 v6_1 v8_1 v9_1 v12_1 v13_1 v14_1 v15_1 v16_1 v17_1 v18_1 v19_1 v20_1 v21_1 v22_1 v23_1 v25_1 v36_1 v37_1 v38_1 v39_1 v40_1 v45_1 v46_1 v47_1 v48_1 v50_1 v51_1 v53_1 v55_1 hf2 hv0_1 hv2_1 hg2_1 hv3_1 hg3_1 hv4_1 hg4_1 hv5_1 hg5_1 hv6_1 hg6_1 hv8_1 hg8_1 hv9_1 hg9_1 hv12_1 hv13_1 hg13_1 hv14_1 hg14_1 hv15_1 hg15_1 hv17_1 hg17_1 hv20_1 hg20_1 hv23_1 hg23_1 hv25_1 hg25_1 hv36_1 hg36_1 hv47_1 hg47_1 hv48_1 hg48_1 hv53_1 hg53_1 hv55_1 hg55_1 hrel0_1 => ?_)
  have hg15_1 : v15_1.toInt = th 11 := hg15_1
  have hg17_1 : v17_1.toInt = th 12 := hg17_1
  have hg20_1 : v20_1.toInt = th 14 := hg20_1
  refine call_i (run_V (rm := rm_X11_look) hx hb hml hown hts (s_X11_look l g ad th _ _ _  hst hT ) cV_X11_look wg_1529 ⟨Nat.le_of_ble_eq_true rfl, Nat.le_of_ble_eq_true rfl⟩ hG hE hA hP hD hS (hst.1 255 (by decide)) hf2 rfl rfl hl.1 (As := []) (rest := []) rfl (Nat.le_of_ble_eq_true rfl) dX11_planLine_1 ⟨Nat.le_of_ble_eq_true rfl, Nat.le_of_ble_eq_true rfl⟩) hA hD hS (fun r3 L4 f5 H locs hp6 hP hD hS => ?_)
  obtain ⟨eL7L, eL7T, eL7F, eL7R⟩ := hp6
  have eL7L : L4 = L := eL7L
  rw [eL7L] at hP hD
  obtain ⟨zz8, hzz8, eL7T⟩ := eL7T
  have hT : TI g ad (gset th 37 zz8) f5 := eL7T
  have eL7F : ∀ b, b ≠ (ad 255) → f5 b = f b := eL7F
  have hfr : (∀ b, b ≠ (ad 255) → b ≠ (ad 259) → f5 b = f b) := fun b z0_ z1_ => (eL7F b z0_).trans (hfr b z0_ z1_)
  have eL7R : In r3 (-1) 255 := eL7R
  refine lv_istore_n (lv' := [(1, .int r3), (0, .ref (ad 255))]) hx hb dX11_planLine_4 rfl hl (by decide) rfl (fun ls hl => ?_)
  refine lv_aload_n hx hb dX11_planLine_5 rfl (lv_at hl 1 rfl) ?_
  refine M0e hT (fun v0_9 v2_9 v3_9 v4_9 v5_9 v6_9 v8_9 v9_9 v12_9 v13_9 v14_9 v15_9 v16_9 v17_9 v18_9 v19_9 v20_9 v21_9 v22_9 v23_9 v25_9 v36_9 v37_9 v38_9 v39_9 v40_9 v45_9 v46_9 v47_9 v48_9 v50_9 v51_9 v53_9 v55_9 hf10 hv0_9 hv2_9 hg2_9 hv3_9 hg3_9 hv4_9 hg4_9 hv5_9 hg5_9 hv6_9 hg6_9 hv8_9 hg8_9 hv9_9 hg9_9 hv12_9 hv13_9 hg13_9 hv14_9 hg14_9 hv15_9 hg15_9 hv17_9 hg17_9 hv20_9 hg20_9 hv23_9 hg23_9 hv25_9 hg25_9 hv36_9 hg36_9 hv47_9 hg47_9 hv48_9 hg48_9 hv53_9 hg53_9 hv55_9 hg55_9 hrel0_9 => ?_)
  have hg15_9 : v15_9.toInt = th 11 := hg15_9
  have hg17_9 : v17_9.toInt = th 12 := hg17_9
  have hg20_9 : v20_9.toInt = th 14 := hg20_9
  refine pl_get (v := .int v13_9) hx hb hts (fun w h => mT (inX11 w h)) hown hG.1 hP (hst.1 255 (by decide)) hf10 rfl 13 (by decide) (hts _ (mT wg_1349)) (fun _ h => h) rfl dX11_planLine_6 ?_
  have hg13_9 : v13_9.toInt = th 36 := hg13_9
  refine lv_bipush (v := 20) hx hb dX11_planLine_9 (by decide) ?_
  refine lv_icmp_ne (tgt := 23) hx hb dX11_planLine_11 (by decide) (fun c11 => ?_) (fun c11 => ?_)
  ·
    have oc20 : (20 : Int32).toInt = 20 := by decide
    have cc12 : v13_9.toInt ≠ (20 : Int32).toInt := i32_ne c11
    have hb13 : In v13_9 0 19 := In.ne1 hv13_9 (⟨by decide, by decide⟩ : In 20 20 20) cc12 (by decide) (by decide)
    refine lv_iconst (v := 5) hx hb dX11_planLine_23 (by decide) ?_
    refine lv_aload_n hx hb dX11_planLine_24 rfl (lv_at hl 1 rfl) ?_
    refine pl_get (v := .int v13_9) hx hb hts (fun w h => mT (inX11 w h)) hown hG.1 hP (hst.1 255 (by decide)) hf10 rfl 13 (by decide) (hts _ (mT wg_1349)) (fun _ h => h) rfl dX11_planLine_25 ?_
    refine lv_imul hx hb dX11_planLine_28 ?_
    refine lv_topi (fun x14 ex14 => ?_)
    have hb15 : In x14 0 95 := ex14 ▸ In.mul (⟨by decide, by decide⟩ : In 5 5 5) hb13 (by decide) (by decide) (by decide) (by decide) (by decide)
    have et16 : x14.toInt = 5 * v13_9.toInt := In.mule ex14 (⟨by decide, by decide⟩ : In 5 5 5) hb13 (by decide) (by decide) (by decide) (by decide) rfl
    refine lv_istore_n (lv' := [(2, .int x14), (1, .int r3), (0, .ref (ad 255))]) hx hb dX11_planLine_29 rfl hl (by decide) rfl (fun ls hl => ?_)
    refine lv_aload_n hx hb dX11_planLine_30 rfl (lv_at hl 2 rfl) ?_
    refine pl_get (v := .ref (ad 259)) hx hb hts (fun w h => mT (inX11 w h)) hown hG.1 hP (hst.1 255 (by decide)) hf10 rfl 11 (by decide) (hts _ (mT wg_1347)) (fun _ h => h) rfl dX11_planLine_31 ?_
    refine lv_iload_n hx hb dX11_planLine_34 rfl (lv_at hl 0 rfl) ?_
    refine lv_aload_n hx hb dX11_planLine_35 rfl (lv_at hl 2 rfl) ?_
    refine va_ldcS hx hb hown (hG.2.2.1 ("RulerWordModel", 187, "phase", 8) (by decide +kernel)) dX11_planLine_36 ?_
    refine call_i (run_V (rm := rm_X11_takes) hx hb hml hown hts (s_X11_takes l g ad (gset th 37 zz8) _ _ _ 8 hst hT (by decide)) cV_X11_takes wg_1538 ⟨Nat.le_of_ble_eq_true rfl, Nat.le_of_ble_eq_true rfl⟩ hG hE hA hP hD hS (hst.1 255 (by decide)) hf10 rfl rfl hl.1 (As := [.ref (g.2.2.1 8)]) (rest := [.int x14, .ref (ad 259)]) rfl (Nat.le_of_ble_eq_true rfl) dX11_planLine_38 ⟨Nat.le_of_ble_eq_true rfl, Nat.le_of_ble_eq_true rfl⟩) hA hD hS (fun r17 L18 f19 H locs hp20 hP hD hS => ?_)
    obtain ⟨eL21L, eL21T, eL21F, eL21R⟩ := hp20
    have eL21L : L18 = L := eL21L
    rw [eL21L] at hP hD
    obtain ⟨zz22, hzz22, eL21T⟩ := eL21T
    have hzz22 : zz8 ≤ zz22 ∧ zz22 ≤ 500 := hzz22
    have hT : TI g ad (gset (gset th 37 zz8) 37 zz22) f19 := eL21T
    have hT : TI g ad (gset th 37 zz22) f19 := TI.cast hT (by funext q; by_cases hq0 : q = 37; (subst hq0; rfl); simp only [gset, if_neg hq0])
    have eL21F : ∀ b, b ≠ (ad 255) → f19 b = f5 b := eL21F
    have hfr : (∀ b, b ≠ (ad 255) → b ≠ (ad 259) → f19 b = f b) := fun b z0_ z1_ => (eL21F b z0_).trans (hfr b z0_ z1_)
    have eL21R : In r17 0 1 := eL21R
    have hJ54 : ∀ (zg54_za : Int) (zg54_zr : Int) (zg54_zl : Int) (zg54_ze : Int) (y54_s0 : Int32) (f_54 : HP) (H : Heap) (locs : List Loc) (ls : Array Slot), th 37 ≤ zg54_za ∧ zg54_za ≤ 500 → In y54_s0 (-1) 5 → va_P g.1 vwCl (va_pl L f_54) H → va_D A (va_pl L f_54) → va_S A s.heap H locs → TI g ad (gset (gset (gset (gset th 37 zg54_za) 40 zg54_zr) 41 zg54_zl) 42 zg54_ze) f_54 → (∀ b, b ≠ (ad 255) → b ≠ (ad 259) → f_54 b = f b) → lv_has ls 3 [(0, .ref (ad 255)), (1, .int r3), (2, .int x14)] → W p l e rm_X11_planLine s m [.ref (ad 255)].toArray below meth c H locs 0 0 (MQ below (va_Qv (po_X11_planLine g ad th L f ) (PstB g A) A) [.ref (ad 255)].toArray s rm_X11_planLine.cells rm_X11_planLine.slots A) (F0 m 54 ls [.int y54_s0, .int x14, .ref (ad 259)]) := by
      intro zg54_za zg54_zr zg54_zl zg54_ze y54_s0 f_54 H locs ls hzg54 hy54_s0 hP hD hS hT hfr hl
      obtain ⟨rw23, hf24⟩ := hT.2.2 4 (by decide)
      refine pl_iastE hx hb hG.1 hP hD hS (hst.1 259 (by decide)) 0 hf24 rfl (In.inb hb15 (by decide) (by decide)) dX11_planLine_54 (fun H locs f25 r28 er28 hf26 ho27 hP hD hS => ?_)
      have hfr : (∀ b, b ≠ (ad 255) → b ≠ (ad 259) → f25 b = f b) := fun b z0_ z1_ => (ho27 b z1_).trans (hfr b z0_ z1_)
      refine lv_aload_n hx hb dX11_planLine_55 rfl (lv_at hl 0 rfl) ?_
      have hT := TI.updM hT hst (k := 4) (by decide) hf26 ho27 ⟨r28, rfl⟩
      refine M0e hT (fun v0_29 v2_29 v3_29 v4_29 v5_29 v6_29 v8_29 v9_29 v12_29 v13_29 v14_29 v15_29 v16_29 v17_29 v18_29 v19_29 v20_29 v21_29 v22_29 v23_29 v25_29 v36_29 v37_29 v38_29 v39_29 v40_29 v45_29 v46_29 v47_29 v48_29 v50_29 v51_29 v53_29 v55_29 hf30 hv0_29 hv2_29 hg2_29 hv3_29 hg3_29 hv4_29 hg4_29 hv5_29 hg5_29 hv6_29 hg6_29 hv8_29 hg8_29 hv9_29 hg9_29 hv12_29 hv13_29 hg13_29 hv14_29 hg14_29 hv15_29 hg15_29 hv17_29 hg17_29 hv20_29 hg20_29 hv23_29 hg23_29 hv25_29 hg25_29 hv36_29 hg36_29 hv47_29 hg47_29 hv48_29 hg48_29 hv53_29 hg53_29 hv55_29 hg55_29 hrel0_29 => ?_)
      have hg15_29 : v15_29.toInt = th 11 := hg15_29
      have hg17_29 : v17_29.toInt = th 12 := hg17_29
      have hg20_29 : v20_29.toInt = th 14 := hg20_29
      refine pl_get (v := .ref (ad 259)) hx hb hts (fun w h => mT (inX11 w h)) hown hG.1 hP (hst.1 255 (by decide)) hf30 rfl 11 (by decide) (hts _ (mT wg_1347)) (fun _ h => h) rfl dX11_planLine_56 ?_
      refine lv_iload_n hx hb dX11_planLine_59 rfl (lv_at hl 2 rfl) ?_
      refine lv_iconst (v := 1) hx hb dX11_planLine_60 (by decide) ?_
      refine lv_iadd hx hb dX11_planLine_61 ?_
      refine lv_topi (fun x31 ex31 => ?_)
      have hb32 : In x31 1 96 := ex31 ▸ In.add hb15 (⟨by decide, by decide⟩ : In 1 1 1) (by decide) (by decide) (by decide) (by decide)
      have et33 : x31.toInt = x14.toInt + 1 := In.adde ex31 hb15 (k := 1) (by decide) (by decide) (by decide)
      refine lv_aload_n hx hb dX11_planLine_62 rfl (lv_at hl 0 rfl) ?_
      refine pl_get (v := .int v4_29) hx hb hts (fun w h => mT (inX11 w h)) hown hG.1 hP (hst.1 255 (by decide)) hf30 rfl 4 (by decide) (hts _ (mT wg_1340)) (fun _ h => h) rfl dX11_planLine_63 ?_
      have hg4_29 : v4_29.toInt = zg54_ze := hg4_29
      refine lv_iconst (v := (-1)) hx hb dX11_planLine_66 (by decide) ?_
      have hJ89 : ∀ (zg89_za : Int) (zg89_zr : Int) (zg89_zl : Int) (zg89_ze : Int) (y89_s0 : Int32) (f_89 : HP) (H : Heap) (locs : List Loc) (ls : Array Slot), th 37 ≤ zg89_za ∧ zg89_za ≤ 500 → In y89_s0 (-1) 2 → va_P g.1 vwCl (va_pl L f_89) H → va_D A (va_pl L f_89) → va_S A s.heap H locs → TI g ad (gset (gset (gset (gset th 37 zg89_za) 40 zg89_zr) 41 zg89_zl) 42 zg89_ze) f_89 → (∀ b, b ≠ (ad 255) → b ≠ (ad 259) → f_89 b = f b) → f_89 (ad 259) = .inl (g.2.1 0, 100, .inl (r28)) → lv_has ls 3 [(0, .ref (ad 255)), (1, .int r3), (2, .int x14)] → W p l e rm_X11_planLine s m [.ref (ad 255)].toArray below meth c H locs 0 0 (MQ below (va_Qv (po_X11_planLine g ad th L f ) (PstB g A) A) [.ref (ad 255)].toArray s rm_X11_planLine.cells rm_X11_planLine.slots A) (F0 m 89 ls [.int y89_s0, .int x31, .ref (ad 259)]) := by
        intro zg89_za zg89_zr zg89_zl zg89_ze y89_s0 f_89 H locs ls hzg89 hy89_s0 hP hD hS hT hfr hf34 hl
        refine pl_iastE hx hb hG.1 hP hD hS (hst.1 259 (by decide)) 0 hf34 rfl (In.inb hb32 (by decide) (by decide)) dX11_planLine_89 (fun H locs f35 r38 er38 hf36 ho37 hP hD hS => ?_)
        have hfr : (∀ b, b ≠ (ad 255) → b ≠ (ad 259) → f35 b = f b) := fun b z0_ z1_ => (ho37 b z1_).trans (hfr b z0_ z1_)
        refine lv_aload_n hx hb dX11_planLine_90 rfl (lv_at hl 0 rfl) ?_
        have hT := TI.updM hT hst (k := 4) (by decide) hf36 ho37 ⟨r38, rfl⟩
        refine M0e hT (fun v0_39 v2_39 v3_39 v4_39 v5_39 v6_39 v8_39 v9_39 v12_39 v13_39 v14_39 v15_39 v16_39 v17_39 v18_39 v19_39 v20_39 v21_39 v22_39 v23_39 v25_39 v36_39 v37_39 v38_39 v39_39 v40_39 v45_39 v46_39 v47_39 v48_39 v50_39 v51_39 v53_39 v55_39 hf40 hv0_39 hv2_39 hg2_39 hv3_39 hg3_39 hv4_39 hg4_39 hv5_39 hg5_39 hv6_39 hg6_39 hv8_39 hg8_39 hv9_39 hg9_39 hv12_39 hv13_39 hg13_39 hv14_39 hg14_39 hv15_39 hg15_39 hv17_39 hg17_39 hv20_39 hg20_39 hv23_39 hg23_39 hv25_39 hg25_39 hv36_39 hg36_39 hv47_39 hg47_39 hv48_39 hg48_39 hv53_39 hg53_39 hv55_39 hg55_39 hrel0_39 => ?_)
        have hg15_39 : v15_39.toInt = th 11 := hg15_39
        have hg17_39 : v17_39.toInt = th 12 := hg17_39
        have hg20_39 : v20_39.toInt = th 14 := hg20_39
        refine pl_get (v := .ref (ad 259)) hx hb hts (fun w h => mT (inX11 w h)) hown hG.1 hP (hst.1 255 (by decide)) hf40 rfl 11 (by decide) (hts _ (mT wg_1347)) (fun _ h => h) rfl dX11_planLine_91 ?_
        refine lv_iload_n hx hb dX11_planLine_94 rfl (lv_at hl 2 rfl) ?_
        refine lv_iconst (v := 2) hx hb dX11_planLine_95 (by decide) ?_
        refine lv_iadd hx hb dX11_planLine_96 ?_
        refine lv_topi (fun x41 ex41 => ?_)
        have hb42 : In x41 2 97 := ex41 ▸ In.add hb15 (⟨by decide, by decide⟩ : In 2 2 2) (by decide) (by decide) (by decide) (by decide)
        have et43 : x41.toInt = x14.toInt + 2 := In.adde ex41 hb15 (k := 2) (by decide) (by decide) (by decide)
        refine lv_aload_n hx hb dX11_planLine_97 rfl (lv_at hl 0 rfl) ?_
        refine pl_get (v := .int v4_39) hx hb hts (fun w h => mT (inX11 w h)) hown hG.1 hP (hst.1 255 (by decide)) hf40 rfl 4 (by decide) (hts _ (mT wg_1340)) (fun _ h => h) rfl dX11_planLine_98 ?_
        have hg4_39 : v4_39.toInt = zg89_ze := hg4_39
        refine lv_iconst (v := (-1)) hx hb dX11_planLine_101 (by decide) ?_
        have hJ125 : ∀ (zg125_za : Int) (zg125_zr : Int) (zg125_zl : Int) (zg125_ze : Int) (y125_s0 : Int32) (f_125 : HP) (H : Heap) (locs : List Loc) (ls : Array Slot), th 37 ≤ zg125_za ∧ zg125_za ≤ 500 → In y125_s0 (-1) 8 → va_P g.1 vwCl (va_pl L f_125) H → va_D A (va_pl L f_125) → va_S A s.heap H locs → TI g ad (gset (gset (gset (gset th 37 zg125_za) 40 zg125_zr) 41 zg125_zl) 42 zg125_ze) f_125 → (∀ b, b ≠ (ad 255) → b ≠ (ad 259) → f_125 b = f b) → f_125 (ad 259) = .inl (g.2.1 0, 100, .inl (r38)) → lv_has ls 3 [(0, .ref (ad 255)), (1, .int r3), (2, .int x14)] → W p l e rm_X11_planLine s m [.ref (ad 255)].toArray below meth c H locs 0 0 (MQ below (va_Qv (po_X11_planLine g ad th L f ) (PstB g A) A) [.ref (ad 255)].toArray s rm_X11_planLine.cells rm_X11_planLine.slots A) (F0 m 125 ls [.int y125_s0, .int x41, .ref (ad 259)]) := by
          intro zg125_za zg125_zr zg125_zl zg125_ze y125_s0 f_125 H locs ls hzg125 hy125_s0 hP hD hS hT hfr hf44 hl
          refine pl_iastE hx hb hG.1 hP hD hS (hst.1 259 (by decide)) 0 hf44 rfl (In.inb hb42 (by decide) (by decide)) dX11_planLine_125 (fun H locs f45 r48 er48 hf46 ho47 hP hD hS => ?_)
          have hfr : (∀ b, b ≠ (ad 255) → b ≠ (ad 259) → f45 b = f b) := fun b z0_ z1_ => (ho47 b z1_).trans (hfr b z0_ z1_)
          refine lv_aload_n hx hb dX11_planLine_126 rfl (lv_at hl 0 rfl) ?_
          have hT := TI.updM hT hst (k := 4) (by decide) hf46 ho47 ⟨r48, rfl⟩
          refine M0e hT (fun v0_49 v2_49 v3_49 v4_49 v5_49 v6_49 v8_49 v9_49 v12_49 v13_49 v14_49 v15_49 v16_49 v17_49 v18_49 v19_49 v20_49 v21_49 v22_49 v23_49 v25_49 v36_49 v37_49 v38_49 v39_49 v40_49 v45_49 v46_49 v47_49 v48_49 v50_49 v51_49 v53_49 v55_49 hf50 hv0_49 hv2_49 hg2_49 hv3_49 hg3_49 hv4_49 hg4_49 hv5_49 hg5_49 hv6_49 hg6_49 hv8_49 hg8_49 hv9_49 hg9_49 hv12_49 hv13_49 hg13_49 hv14_49 hg14_49 hv15_49 hg15_49 hv17_49 hg17_49 hv20_49 hg20_49 hv23_49 hg23_49 hv25_49 hg25_49 hv36_49 hg36_49 hv47_49 hg47_49 hv48_49 hg48_49 hv53_49 hg53_49 hv55_49 hg55_49 hrel0_49 => ?_)
          have hg15_49 : v15_49.toInt = th 11 := hg15_49
          have hg17_49 : v17_49.toInt = th 12 := hg17_49
          have hg20_49 : v20_49.toInt = th 14 := hg20_49
          refine pl_get (v := .ref (ad 259)) hx hb hts (fun w h => mT (inX11 w h)) hown hG.1 hP (hst.1 255 (by decide)) hf50 rfl 11 (by decide) (hts _ (mT wg_1347)) (fun _ h => h) rfl dX11_planLine_127 ?_
          refine lv_iload_n hx hb dX11_planLine_130 rfl (lv_at hl 2 rfl) ?_
          refine lv_iconst (v := 3) hx hb dX11_planLine_131 (by decide) ?_
          refine lv_iadd hx hb dX11_planLine_132 ?_
          refine lv_topi (fun x51 ex51 => ?_)
          have hb52 : In x51 3 98 := ex51 ▸ In.add hb15 (⟨by decide, by decide⟩ : In 3 3 3) (by decide) (by decide) (by decide) (by decide)
          have et53 : x51.toInt = x14.toInt + 3 := In.adde ex51 hb15 (k := 3) (by decide) (by decide) (by decide)
          refine lv_aload_n hx hb dX11_planLine_133 rfl (lv_at hl 0 rfl) ?_
          refine pl_get (v := .int v4_49) hx hb hts (fun w h => mT (inX11 w h)) hown hG.1 hP (hst.1 255 (by decide)) hf50 rfl 4 (by decide) (hts _ (mT wg_1340)) (fun _ h => h) rfl dX11_planLine_134 ?_
          have hg4_49 : v4_49.toInt = zg125_ze := hg4_49
          refine lv_iconst (v := (-1)) hx hb dX11_planLine_137 (by decide) ?_
          have hJ161 : ∀ (zg161_za : Int) (zg161_zr : Int) (zg161_zl : Int) (zg161_ze : Int) (y161_s0 : Int32) (f_161 : HP) (H : Heap) (locs : List Loc) (ls : Array Slot), th 37 ≤ zg161_za ∧ zg161_za ≤ 500 → In y161_s0 (-1) 8 → va_P g.1 vwCl (va_pl L f_161) H → va_D A (va_pl L f_161) → va_S A s.heap H locs → TI g ad (gset (gset (gset (gset th 37 zg161_za) 40 zg161_zr) 41 zg161_zl) 42 zg161_ze) f_161 → (∀ b, b ≠ (ad 255) → b ≠ (ad 259) → f_161 b = f b) → f_161 (ad 259) = .inl (g.2.1 0, 100, .inl (r48)) → lv_has ls 3 [(0, .ref (ad 255)), (1, .int r3), (2, .int x14)] → W p l e rm_X11_planLine s m [.ref (ad 255)].toArray below meth c H locs 0 0 (MQ below (va_Qv (po_X11_planLine g ad th L f ) (PstB g A) A) [.ref (ad 255)].toArray s rm_X11_planLine.cells rm_X11_planLine.slots A) (F0 m 161 ls [.int y161_s0, .int x51, .ref (ad 259)]) := by
            intro zg161_za zg161_zr zg161_zl zg161_ze y161_s0 f_161 H locs ls hzg161 hy161_s0 hP hD hS hT hfr hf54 hl
            refine pl_iastE hx hb hG.1 hP hD hS (hst.1 259 (by decide)) 0 hf54 rfl (In.inb hb52 (by decide) (by decide)) dX11_planLine_161 (fun H locs f55 r58 er58 hf56 ho57 hP hD hS => ?_)
            have hfr : (∀ b, b ≠ (ad 255) → b ≠ (ad 259) → f55 b = f b) := fun b z0_ z1_ => (ho57 b z1_).trans (hfr b z0_ z1_)
            refine lv_aload_n hx hb dX11_planLine_162 rfl (lv_at hl 0 rfl) ?_
            have hT := TI.updM hT hst (k := 4) (by decide) hf56 ho57 ⟨r58, rfl⟩
            refine M0e hT (fun v0_59 v2_59 v3_59 v4_59 v5_59 v6_59 v8_59 v9_59 v12_59 v13_59 v14_59 v15_59 v16_59 v17_59 v18_59 v19_59 v20_59 v21_59 v22_59 v23_59 v25_59 v36_59 v37_59 v38_59 v39_59 v40_59 v45_59 v46_59 v47_59 v48_59 v50_59 v51_59 v53_59 v55_59 hf60 hv0_59 hv2_59 hg2_59 hv3_59 hg3_59 hv4_59 hg4_59 hv5_59 hg5_59 hv6_59 hg6_59 hv8_59 hg8_59 hv9_59 hg9_59 hv12_59 hv13_59 hg13_59 hv14_59 hg14_59 hv15_59 hg15_59 hv17_59 hg17_59 hv20_59 hg20_59 hv23_59 hg23_59 hv25_59 hg25_59 hv36_59 hg36_59 hv47_59 hg47_59 hv48_59 hg48_59 hv53_59 hg53_59 hv55_59 hg55_59 hrel0_59 => ?_)
            have hg15_59 : v15_59.toInt = th 11 := hg15_59
            have hg17_59 : v17_59.toInt = th 12 := hg17_59
            have hg20_59 : v20_59.toInt = th 14 := hg20_59
            refine pl_get (v := .int v4_59) hx hb hts (fun w h => mT (inX11 w h)) hown hG.1 hP (hst.1 255 (by decide)) hf60 rfl 4 (by decide) (hts _ (mT wg_1340)) (fun _ h => h) rfl dX11_planLine_163 ?_
            have hg4_59 : v4_59.toInt = zg161_ze := hg4_59
            refine lv_iconst (v := (-1)) hx hb dX11_planLine_166 (by decide) ?_
            refine lv_icmp_eq (tgt := 171) hx hb dX11_planLine_167 (by decide) (fun c61 => ?_) (fun c61 => ?_)
            ·
              have ocm1 : ((-1) : Int32).toInt = (-1) := by decide
              have cc62 : v4_59.toInt = ((-1) : Int32).toInt := congrArg Int32.toInt c61
              have hb63 : In v4_59 (-1) (-1) := In.eq1 hv4_59 (⟨by decide, by decide⟩ : In (-1) (-1) (-1)) cc62 (by decide) (by decide)
              refine lv_aload_n hx hb dX11_planLine_171 rfl (lv_at hl 0 rfl) ?_
              refine call_i (run_V (rm := rm_X11_look) hx hb hml hown hts (s_X11_look l g ad (gset (gset (gset (gset th 37 zg161_za) 40 zg161_zr) 41 zg161_zl) 42 zg161_ze) _ _ _  hst hT ) cV_X11_look wg_1529 ⟨Nat.le_of_ble_eq_true rfl, Nat.le_of_ble_eq_true rfl⟩ hG hE hA hP hD hS (hst.1 255 (by decide)) hf60 rfl rfl hl.1 (As := []) (rest := []) rfl (Nat.le_of_ble_eq_true rfl) dX11_planLine_172 ⟨Nat.le_of_ble_eq_true rfl, Nat.le_of_ble_eq_true rfl⟩) hA hD hS (fun r64 L65 f66 H locs hp67 hP hD hS => ?_)
              obtain ⟨eL68L, eL68T, eL68F, eL68R⟩ := hp67
              have eL68L : L65 = L := eL68L
              rw [eL68L] at hP hD
              obtain ⟨zz69, hzz69, eL68T⟩ := eL68T
              have hgk70 : (gset (gset (gset (gset th 37 zg161_za) 40 zg161_zr) 41 zg161_zl) 42 zg161_ze) 37 = zg161_za := rfl
              have hgk71 : (gset (gset (gset (gset th 37 zg161_za) 40 zg161_zr) 41 zg161_zl) 42 zg161_ze) 13 = th 13 := rfl
              have hT : TI g ad (gset (gset (gset (gset (gset th 37 zg161_za) 40 zg161_zr) 41 zg161_zl) 42 zg161_ze) 37 zz69) f66 := eL68T
              have hT : TI g ad (gset (gset (gset (gset th 40 zg161_zr) 41 zg161_zl) 42 zg161_ze) 37 zz69) f66 := TI.cast hT (by funext q; by_cases hq0 : q = 37; (subst hq0; rfl); by_cases hq1 : q = 42; (subst hq1; rfl); by_cases hq2 : q = 41; (subst hq2; rfl); by_cases hq3 : q = 40; (subst hq3; rfl); simp only [gset, if_neg hq0, if_neg hq1, if_neg hq2, if_neg hq3])
              have eL68F : ∀ b, b ≠ (ad 255) → f66 b = f55 b := eL68F
              have hf72 := (eL68F (ad 259) (hst.ne (by decide) (by decide) (by decide))).trans hf56
              have hfr : (∀ b, b ≠ (ad 255) → b ≠ (ad 259) → f66 b = f b) := fun b z0_ z1_ => (eL68F b z0_).trans (hfr b z0_ z1_)
              have eL68R : In r64 (-1) 255 := eL68R
              refine lv_istore_n (lv' := [(1, .int r64), (0, .ref (ad 255)), (2, .int x14)]) hx hb dX11_planLine_175 rfl hl (by decide) rfl (fun ls hl => ?_)
              refine lv_iload_n hx hb dX11_planLine_176 rfl (lv_at hl 0 rfl) ?_
              refine call_i (run_S (rm := rm_X11_isDigit) hx hb hml hown hts (s_X11_isDigit l g ad (gset (gset (gset (gset th 40 zg161_zr) 41 zg161_zl) 42 zg161_ze) 37 zz69) _ _ _ r64 hst hT ) cS_X11_isDigit wg_1574 ⟨Nat.le_of_ble_eq_true rfl, Nat.le_of_ble_eq_true rfl⟩ hG hE hA hP hD hS rfl hl.1 (As := [.int r64]) (rest := []) rfl (Nat.le_of_ble_eq_true rfl) dX11_planLine_177 ⟨Nat.le_of_ble_eq_true rfl, Nat.le_of_ble_eq_true rfl⟩) hA hD hS (fun r73 L74 f75 H locs hp76 hP hD hS => ?_)
              obtain ⟨eL77L, eL77T, eL77R, eL77W0⟩ := hp76
              have eL77L : L74 = L := eL77L
              have eL77T : f75 = f66 := eL77T
              rw [eL77L, eL77T] at hP hD
              have eL77R : In r73 0 1 := eL77R
              have hJ293 : ∀ (zg293_za : Int) (zg293_zr : Int) (zg293_zl : Int) (zg293_ze : Int) (f_293 : HP) (H : Heap) (locs : List Loc) (ls : Array Slot), th 37 ≤ zg293_za ∧ zg293_za ≤ 500 → va_P g.1 vwCl (va_pl L f_293) H → va_D A (va_pl L f_293) → va_S A s.heap H locs → TI g ad (gset (gset (gset (gset th 37 zg293_za) 40 zg293_zr) 41 zg293_zl) 42 zg293_ze) f_293 → (∀ b, b ≠ (ad 255) → b ≠ (ad 259) → f_293 b = f b) → lv_has ls 3 [(0, .ref (ad 255)), (1, .int r64), (2, .int x14)] → W p l e rm_X11_planLine s m [.ref (ad 255)].toArray below meth c H locs 0 0 (MQ below (va_Qv (po_X11_planLine g ad th L f ) (PstB g A) A) [.ref (ad 255)].toArray s rm_X11_planLine.cells rm_X11_planLine.slots A) (F0 m 293 ls []) := by
                intro zg293_za zg293_zr zg293_zl zg293_ze f_293 H locs ls hzg293 hP hD hS hT hfr hl
                refine lv_aload_n hx hb dX11_planLine_293 rfl (lv_at hl 0 rfl) ?_
                refine lv_dup hx hb dX11_planLine_294 rfl ?_
                refine M0e hT (fun v0_78 v2_78 v3_78 v4_78 v5_78 v6_78 v8_78 v9_78 v12_78 v13_78 v14_78 v15_78 v16_78 v17_78 v18_78 v19_78 v20_78 v21_78 v22_78 v23_78 v25_78 v36_78 v37_78 v38_78 v39_78 v40_78 v45_78 v46_78 v47_78 v48_78 v50_78 v51_78 v53_78 v55_78 hf79 hv0_78 hv2_78 hg2_78 hv3_78 hg3_78 hv4_78 hg4_78 hv5_78 hg5_78 hv6_78 hg6_78 hv8_78 hg8_78 hv9_78 hg9_78 hv12_78 hv13_78 hg13_78 hv14_78 hg14_78 hv15_78 hg15_78 hv17_78 hg17_78 hv20_78 hg20_78 hv23_78 hg23_78 hv25_78 hg25_78 hv36_78 hg36_78 hv47_78 hg47_78 hv48_78 hg48_78 hv53_78 hg53_78 hv55_78 hg55_78 hrel0_78 => ?_)
                have hg15_78 : v15_78.toInt = th 11 := hg15_78
                have hg17_78 : v17_78.toInt = th 12 := hg17_78
                have hg20_78 : v20_78.toInt = th 14 := hg20_78
                refine pl_get (v := .int v13_78) hx hb hts (fun w h => mT (inX11 w h)) hown hG.1 hP (hst.1 255 (by decide)) hf79 rfl 13 (by decide) (hts _ (mT wg_1349)) (fun _ h => h) rfl dX11_planLine_295 ?_
                have hg13_78 : v13_78.toInt = th 36 := hg13_78
                refine lv_iconst (v := 1) hx hb dX11_planLine_298 (by decide) ?_
                refine lv_iadd hx hb dX11_planLine_299 ?_
                refine lv_topi (fun x80 ex80 => ?_)
                have hb81 : In x80 1 21 := ex80 ▸ In.add hv13_78 (⟨by decide, by decide⟩ : In 1 1 1) (by decide) (by decide) (by decide) (by decide)
                have et82 : x80.toInt = v13_78.toInt + 1 := In.adde ex80 hv13_78 (k := 1) (by decide) (by decide) (by decide)
                refine pl_put (ty := .int) (v := .int x80) (fs' := [.int v0_78, .ref (ad 256), .int v2_78, .int v3_78, .int v4_78, .int v5_78, .int v6_78, .ref (ad 257), .int v8_78, .int v9_78, .ref (ad 258), .ref (ad 259), .int v12_78, .int x80, .int v14_78, .int v15_78, .int v16_78, .int v17_78, .int v18_78, .int v19_78, .int v20_78, .long v21_78, .long v22_78, .int v23_78, .ref (ad 260), .int v25_78, .ref (ad 261), .ref (ad 262), .ref (ad 263), .ref (ad 264), .ref (ad 265), .ref (ad 266), .ref (ad 267), .ref (ad 268), .ref (ad 269), .ref (ad 270), .int v36_78, .int v37_78, .int v38_78, .int v39_78, .int v40_78, .ref (ad 271), .ref (ad 272), .ref (ad 273), .ref (ad 274), .long v45_78, .long v46_78, .int v47_78, .int v48_78, .ref (ad 275), .int v50_78, .int v51_78, .ref (ad 276), .int v53_78, .ref (ad 277), .int v55_78]) hx hb hts (fun w h => mT (inX11 w h)) tyX11 tyX11_ok nmX11 hown hG.1 hP hD hS (hst.1 255 (by decide)) hf79 rfl 13 (by decide) (hts _ (mT wg_1349)) (fun _ h => h) rfl (by decide +kernel) (rfl) (rfl) (Nat.le_of_ble_eq_true rfl) rfl dX11_planLine_300 (fun H locs f83 hf84 ho85 hP hD hS => ?_)
                have hfr : (∀ b, b ≠ (ad 255) → b ≠ (ad 259) → f83 b = f b) := fun b z0_ z1_ => (ho85 b z0_).trans (hfr b z0_ z1_)
                have hT := TI.updMG (th' := (gset (gset (gset (gset (gset th 37 zg293_za) 40 zg293_zr) 41 zg293_zl) 42 zg293_ze) 36 (x80.toInt))) hT hst (k := 0) (by decide) hf84 ho85 ⟨v0_78, v2_78, v3_78, v4_78, v5_78, v6_78, v8_78, v9_78, v12_78, x80, v14_78, v15_78, v16_78, v17_78, v18_78, v19_78, v20_78, v21_78, v22_78, v23_78, v25_78, v36_78, v37_78, v38_78, v39_78, v40_78, v45_78, v46_78, v47_78, v48_78, v50_78, v51_78, v53_78, v55_78, rfl, hv0_78, hv2_78, hg2_78, hv3_78, hg3_78, hv4_78, hg4_78, hv5_78, hg5_78, hv6_78, hg6_78, hv8_78, hg8_78, hv9_78, hg9_78, hv12_78, (In.mk (by have ob13 : (0 : Int) ≤ (th 13) ∧ (th 13) ≤ 500 := (b0_13 hT :); have ob35 : (0 : Int) ≤ (th 35) ∧ (th 35) ≤ 63 := (b0_35 hT :); have ob36 : (0 : Int) ≤ (th 36) ∧ (th 36) ≤ 20 := (b0_36 hT :); have ob37 : (0 : Int) ≤ zg293_za ∧ zg293_za ≤ 500 := (b0_37 hT :); have ob40 : (0 : Int) ≤ zg293_zr ∧ zg293_zr ≤ 500 := (b0_40 hT :); have ob41 : (0 : Int) ≤ zg293_zl ∧ zg293_zl ≤ 500 := (b0_41 hT :); have ob42 : ((-1) : Int) ≤ zg293_ze ∧ zg293_ze ≤ 500 := (b0_42 hT :); have ob43 : ((-1) : Int) ≤ (th 43) ∧ (th 43) ≤ 1 := (b0_43 hT :); obtain ⟨o0a, o0b⟩ := (hb81 : In _ _ _); obtain ⟨o1a, o1b⟩ := (hv2_78 : In _ _ _); obtain ⟨o2a, o2b⟩ := (hv3_78 : In _ _ _); obtain ⟨o3a, o3b⟩ := (hv4_78 : In _ _ _); obtain ⟨o4a, o4b⟩ := (hv5_78 : In _ _ _); obtain ⟨o5a, o5b⟩ := (hv6_78 : In _ _ _); obtain ⟨o6a, o6b⟩ := (hv8_78 : In _ _ _); obtain ⟨o7a, o7b⟩ := (hv9_78 : In _ _ _); obtain ⟨o8a, o8b⟩ := (hv13_78 : In _ _ _); omega) (by have ob13 : (0 : Int) ≤ (th 13) ∧ (th 13) ≤ 500 := (b0_13 hT :); have ob35 : (0 : Int) ≤ (th 35) ∧ (th 35) ≤ 63 := (b0_35 hT :); have ob36 : (0 : Int) ≤ (th 36) ∧ (th 36) ≤ 20 := (b0_36 hT :); have ob37 : (0 : Int) ≤ zg293_za ∧ zg293_za ≤ 500 := (b0_37 hT :); have ob40 : (0 : Int) ≤ zg293_zr ∧ zg293_zr ≤ 500 := (b0_40 hT :); have ob41 : (0 : Int) ≤ zg293_zl ∧ zg293_zl ≤ 500 := (b0_41 hT :); have ob42 : ((-1) : Int) ≤ zg293_ze ∧ zg293_ze ≤ 500 := (b0_42 hT :); have ob43 : ((-1) : Int) ≤ (th 43) ∧ (th 43) ≤ 1 := (b0_43 hT :); obtain ⟨o0a, o0b⟩ := (hb81 : In _ _ _); obtain ⟨o1a, o1b⟩ := (hv2_78 : In _ _ _); obtain ⟨o2a, o2b⟩ := (hv3_78 : In _ _ _); obtain ⟨o3a, o3b⟩ := (hv4_78 : In _ _ _); obtain ⟨o4a, o4b⟩ := (hv5_78 : In _ _ _); obtain ⟨o5a, o5b⟩ := (hv6_78 : In _ _ _); obtain ⟨o6a, o6b⟩ := (hv8_78 : In _ _ _); obtain ⟨o7a, o7b⟩ := (hv9_78 : In _ _ _); obtain ⟨o8a, o8b⟩ := (hv13_78 : In _ _ _); omega)), rfl, hv14_78, hg14_78, hv15_78, hg15_78, hv17_78, hg17_78, hv20_78, hg20_78, hv23_78, hg23_78, hv25_78, hg25_78, hv36_78, hg36_78, hv47_78, hg47_78, hv48_78, hg48_78, hv53_78, hg53_78, hv55_78, hg55_78, hrel0_78⟩ (fun q hq => ((gset_ne (fun e => hq (by subst e; decide))).trans rfl))
                have hT : TI g ad (gset (gset (gset (gset (gset th 37 zg293_za) 40 zg293_zr) 41 zg293_zl) 42 zg293_ze) 36 x80.toInt) f83 := TI.cast hT (by funext q; by_cases hq0 : q = 36; (subst hq0; rfl); by_cases hq1 : q = 42; (subst hq1; rfl); by_cases hq2 : q = 41; (subst hq2; rfl); by_cases hq3 : q = 40; (subst hq3; rfl); by_cases hq4 : q = 37; (subst hq4; rfl); simp only [gset, if_neg hq0, if_neg hq1, if_neg hq2, if_neg hq3, if_neg hq4])
                exact ret_v hx hb hr hlocks hP hD hS (Nat.le_of_ble_eq_true rfl) (Nat.le_of_ble_eq_true rfl) (⟨rfl, ⟨zg293_za, zg293_zr, zg293_zl, zg293_ze, x80.toInt, (show th 37 ≤ zg293_za ∧ zg293_za ≤ 500 from (by have ob13 : (0 : Int) ≤ (th 13) ∧ (th 13) ≤ 500 := (b0_13 hT :); have ob35 : (0 : Int) ≤ (th 35) ∧ (th 35) ≤ 63 := (b0_35 hT :); have ob36 : (0 : Int) ≤ x80.toInt ∧ x80.toInt ≤ 20 := (b0_36 hT :); have ob37 : (0 : Int) ≤ zg293_za ∧ zg293_za ≤ 500 := (b0_37 hT :); have ob40 : (0 : Int) ≤ zg293_zr ∧ zg293_zr ≤ 500 := (b0_40 hT :); have ob41 : (0 : Int) ≤ zg293_zl ∧ zg293_zl ≤ 500 := (b0_41 hT :); have ob42 : ((-1) : Int) ≤ zg293_ze ∧ zg293_ze ≤ 500 := (b0_42 hT :); have ob43 : ((-1) : Int) ≤ (th 43) ∧ (th 43) ≤ 1 := (b0_43 hT :); obtain ⟨o0a, o0b⟩ := (hb15 : In _ _ _); obtain ⟨o1a, o1b⟩ := (eL68R : In _ _ _); obtain ⟨o2a, o2b⟩ := (hb13 : In _ _ _); omega)), TI.cast hT (by funext q; by_cases hq0 : q = 36; (subst hq0; rfl); by_cases hq1 : q = 42; (subst hq1; rfl); by_cases hq2 : q = 41; (subst hq2; rfl); by_cases hq3 : q = 40; (subst hq3; rfl); by_cases hq4 : q = 37; (subst hq4; rfl); simp only [gset, if_neg hq0, if_neg hq1, if_neg hq2, if_neg hq3, if_neg hq4])⟩, hfr⟩) dX11_planLine_303
              refine lv_if_eq (tgt := 200) hx hb dX11_planLine_180 (by decide) (fun c86 => ?_) (fun c86 => ?_)
              ·
                have oc0 : (0 : Int32).toInt = 0 := by decide
                have cc87 : r73.toInt = (0 : Int32).toInt := congrArg Int32.toInt c86
                have hb88 : In r73 0 0 := In.eq1 eL77R (⟨by decide, by decide⟩ : In 0 0 0) cc87 (by decide) (by decide)
                refine lv_aload_n hx hb dX11_planLine_200 rfl (lv_at hl 1 rfl) ?_
                refine va_ldcS hx hb hown (hG.2.2.1 ("RulerWordModel", 195, "same", 12) (by decide +kernel)) dX11_planLine_201 ?_
                refine M0e hT (fun v0_89 v2_89 v3_89 v4_89 v5_89 v6_89 v8_89 v9_89 v12_89 v13_89 v14_89 v15_89 v16_89 v17_89 v18_89 v19_89 v20_89 v21_89 v22_89 v23_89 v25_89 v36_89 v37_89 v38_89 v39_89 v40_89 v45_89 v46_89 v47_89 v48_89 v50_89 v51_89 v53_89 v55_89 hf90 hv0_89 hv2_89 hg2_89 hv3_89 hg3_89 hv4_89 hg4_89 hv5_89 hg5_89 hv6_89 hg6_89 hv8_89 hg8_89 hv9_89 hg9_89 hv12_89 hv13_89 hg13_89 hv14_89 hg14_89 hv15_89 hg15_89 hv17_89 hg17_89 hv20_89 hg20_89 hv23_89 hg23_89 hv25_89 hg25_89 hv36_89 hg36_89 hv47_89 hg47_89 hv48_89 hg48_89 hv53_89 hg53_89 hv55_89 hg55_89 hrel0_89 => ?_)
                have hg15_89 : v15_89.toInt = th 11 := hg15_89
                have hg17_89 : v17_89.toInt = th 12 := hg17_89
                have hg20_89 : v20_89.toInt = th 14 := hg20_89
                refine call_i (run_V (rm := rm_X11_takes) hx hb hml hown hts (s_X11_takes l g ad (gset (gset (gset (gset th 40 zg161_zr) 41 zg161_zl) 42 zg161_ze) 37 zz69) _ _ _ 12 hst hT (by decide)) cV_X11_takes wg_1538 ⟨Nat.le_of_ble_eq_true rfl, Nat.le_of_ble_eq_true rfl⟩ hG hE hA hP hD hS (hst.1 255 (by decide)) hf90 rfl rfl hl.1 (As := [.ref (g.2.2.1 12)]) (rest := []) rfl (Nat.le_of_ble_eq_true rfl) dX11_planLine_203 ⟨Nat.le_of_ble_eq_true rfl, Nat.le_of_ble_eq_true rfl⟩) hA hD hS (fun r91 L92 f93 H locs hp94 hP hD hS => ?_)
                obtain ⟨eL95L, eL95T, eL95F, eL95R⟩ := hp94
                have eL95L : L92 = L := eL95L
                rw [eL95L] at hP hD
                obtain ⟨zz96, hzz96, eL95T⟩ := eL95T
                have hzz96 : zz69 ≤ zz96 ∧ zz96 ≤ 500 := hzz96
                have hT : TI g ad (gset (gset (gset (gset (gset th 40 zg161_zr) 41 zg161_zl) 42 zg161_ze) 37 zz69) 37 zz96) f93 := eL95T
                have hT : TI g ad (gset (gset (gset (gset th 40 zg161_zr) 41 zg161_zl) 42 zg161_ze) 37 zz96) f93 := TI.cast hT (by funext q; by_cases hq0 : q = 37; (subst hq0; rfl); by_cases hq1 : q = 42; (subst hq1; rfl); by_cases hq2 : q = 41; (subst hq2; rfl); by_cases hq3 : q = 40; (subst hq3; rfl); simp only [gset, if_neg hq0, if_neg hq1, if_neg hq2, if_neg hq3])
                have eL95F : ∀ b, b ≠ (ad 255) → f93 b = f66 b := eL95F
                have hf97 := (eL95F (ad 259) (hst.ne (by decide) (by decide) (by decide))).trans hf72
                have hfr : (∀ b, b ≠ (ad 255) → b ≠ (ad 259) → f93 b = f b) := fun b z0_ z1_ => (eL95F b z0_).trans (hfr b z0_ z1_)
                have eL95R : In r91 0 1 := eL95R
                refine lv_if_eq (tgt := 221) hx hb dX11_planLine_206 (by decide) (fun c98 => ?_) (fun c98 => ?_)
                ·
                  have oc0 : (0 : Int32).toInt = 0 := by decide
                  have cc99 : r91.toInt = (0 : Int32).toInt := congrArg Int32.toInt c98
                  have hb100 : In r91 0 0 := In.eq1 eL95R (⟨by decide, by decide⟩ : In 0 0 0) cc99 (by decide) (by decide)
                  refine lv_aload_n hx hb dX11_planLine_221 rfl (lv_at hl 1 rfl) ?_
                  refine va_ldcS hx hb hown (hG.2.2.1 ("RulerWordModel", 197, "turn", 13) (by decide +kernel)) dX11_planLine_222 ?_
                  refine M0e hT (fun v0_101 v2_101 v3_101 v4_101 v5_101 v6_101 v8_101 v9_101 v12_101 v13_101 v14_101 v15_101 v16_101 v17_101 v18_101 v19_101 v20_101 v21_101 v22_101 v23_101 v25_101 v36_101 v37_101 v38_101 v39_101 v40_101 v45_101 v46_101 v47_101 v48_101 v50_101 v51_101 v53_101 v55_101 hf102 hv0_101 hv2_101 hg2_101 hv3_101 hg3_101 hv4_101 hg4_101 hv5_101 hg5_101 hv6_101 hg6_101 hv8_101 hg8_101 hv9_101 hg9_101 hv12_101 hv13_101 hg13_101 hv14_101 hg14_101 hv15_101 hg15_101 hv17_101 hg17_101 hv20_101 hg20_101 hv23_101 hg23_101 hv25_101 hg25_101 hv36_101 hg36_101 hv47_101 hg47_101 hv48_101 hg48_101 hv53_101 hg53_101 hv55_101 hg55_101 hrel0_101 => ?_)
                  have hg15_101 : v15_101.toInt = th 11 := hg15_101
                  have hg17_101 : v17_101.toInt = th 12 := hg17_101
                  have hg20_101 : v20_101.toInt = th 14 := hg20_101
                  refine call_i (run_V (rm := rm_X11_takes) hx hb hml hown hts (s_X11_takes l g ad (gset (gset (gset (gset th 40 zg161_zr) 41 zg161_zl) 42 zg161_ze) 37 zz96) _ _ _ 13 hst hT (by decide)) cV_X11_takes wg_1538 ⟨Nat.le_of_ble_eq_true rfl, Nat.le_of_ble_eq_true rfl⟩ hG hE hA hP hD hS (hst.1 255 (by decide)) hf102 rfl rfl hl.1 (As := [.ref (g.2.2.1 13)]) (rest := []) rfl (Nat.le_of_ble_eq_true rfl) dX11_planLine_224 ⟨Nat.le_of_ble_eq_true rfl, Nat.le_of_ble_eq_true rfl⟩) hA hD hS (fun r103 L104 f105 H locs hp106 hP hD hS => ?_)
                  obtain ⟨eL107L, eL107T, eL107F, eL107R⟩ := hp106
                  have eL107L : L104 = L := eL107L
                  rw [eL107L] at hP hD
                  obtain ⟨zz108, hzz108, eL107T⟩ := eL107T
                  have hzz108 : zz96 ≤ zz108 ∧ zz108 ≤ 500 := hzz108
                  have hT : TI g ad (gset (gset (gset (gset (gset th 40 zg161_zr) 41 zg161_zl) 42 zg161_ze) 37 zz96) 37 zz108) f105 := eL107T
                  have hT : TI g ad (gset (gset (gset (gset th 40 zg161_zr) 41 zg161_zl) 42 zg161_ze) 37 zz108) f105 := TI.cast hT (by funext q; by_cases hq0 : q = 37; (subst hq0; rfl); by_cases hq1 : q = 42; (subst hq1; rfl); by_cases hq2 : q = 41; (subst hq2; rfl); by_cases hq3 : q = 40; (subst hq3; rfl); simp only [gset, if_neg hq0, if_neg hq1, if_neg hq2, if_neg hq3])
                  have eL107F : ∀ b, b ≠ (ad 255) → f105 b = f93 b := eL107F
                  have hf109 := (eL107F (ad 259) (hst.ne (by decide) (by decide) (by decide))).trans hf97
                  have hfr : (∀ b, b ≠ (ad 255) → b ≠ (ad 259) → f105 b = f b) := fun b z0_ z1_ => (eL107F b z0_).trans (hfr b z0_ z1_)
                  have eL107R : In r103 0 1 := eL107R
                  refine lv_if_eq (tgt := 242) hx hb dX11_planLine_227 (by decide) (fun c110 => ?_) (fun c110 => ?_)
                  ·
                    have oc0 : (0 : Int32).toInt = 0 := by decide
                    have cc111 : r103.toInt = (0 : Int32).toInt := congrArg Int32.toInt c110
                    have hb112 : In r103 0 0 := In.eq1 eL107R (⟨by decide, by decide⟩ : In 0 0 0) cc111 (by decide) (by decide)
                    refine lv_aload_n hx hb dX11_planLine_242 rfl (lv_at hl 1 rfl) ?_
                    refine va_ldcS hx hb hown (hG.2.2.1 ("RulerWordModel", 199, "split", 14) (by decide +kernel)) dX11_planLine_243 ?_
                    refine M0e hT (fun v0_113 v2_113 v3_113 v4_113 v5_113 v6_113 v8_113 v9_113 v12_113 v13_113 v14_113 v15_113 v16_113 v17_113 v18_113 v19_113 v20_113 v21_113 v22_113 v23_113 v25_113 v36_113 v37_113 v38_113 v39_113 v40_113 v45_113 v46_113 v47_113 v48_113 v50_113 v51_113 v53_113 v55_113 hf114 hv0_113 hv2_113 hg2_113 hv3_113 hg3_113 hv4_113 hg4_113 hv5_113 hg5_113 hv6_113 hg6_113 hv8_113 hg8_113 hv9_113 hg9_113 hv12_113 hv13_113 hg13_113 hv14_113 hg14_113 hv15_113 hg15_113 hv17_113 hg17_113 hv20_113 hg20_113 hv23_113 hg23_113 hv25_113 hg25_113 hv36_113 hg36_113 hv47_113 hg47_113 hv48_113 hg48_113 hv53_113 hg53_113 hv55_113 hg55_113 hrel0_113 => ?_)
                    have hg15_113 : v15_113.toInt = th 11 := hg15_113
                    have hg17_113 : v17_113.toInt = th 12 := hg17_113
                    have hg20_113 : v20_113.toInt = th 14 := hg20_113
                    refine call_i (run_V (rm := rm_X11_takes) hx hb hml hown hts (s_X11_takes l g ad (gset (gset (gset (gset th 40 zg161_zr) 41 zg161_zl) 42 zg161_ze) 37 zz108) _ _ _ 14 hst hT (by decide)) cV_X11_takes wg_1538 ⟨Nat.le_of_ble_eq_true rfl, Nat.le_of_ble_eq_true rfl⟩ hG hE hA hP hD hS (hst.1 255 (by decide)) hf114 rfl rfl hl.1 (As := [.ref (g.2.2.1 14)]) (rest := []) rfl (Nat.le_of_ble_eq_true rfl) dX11_planLine_245 ⟨Nat.le_of_ble_eq_true rfl, Nat.le_of_ble_eq_true rfl⟩) hA hD hS (fun r115 L116 f117 H locs hp118 hP hD hS => ?_)
                    obtain ⟨eL119L, eL119T, eL119F, eL119R⟩ := hp118
                    have eL119L : L116 = L := eL119L
                    rw [eL119L] at hP hD
                    obtain ⟨zz120, hzz120, eL119T⟩ := eL119T
                    have hzz120 : zz108 ≤ zz120 ∧ zz120 ≤ 500 := hzz120
                    have hT : TI g ad (gset (gset (gset (gset (gset th 40 zg161_zr) 41 zg161_zl) 42 zg161_ze) 37 zz108) 37 zz120) f117 := eL119T
                    have hT : TI g ad (gset (gset (gset (gset th 40 zg161_zr) 41 zg161_zl) 42 zg161_ze) 37 zz120) f117 := TI.cast hT (by funext q; by_cases hq0 : q = 37; (subst hq0; rfl); by_cases hq1 : q = 42; (subst hq1; rfl); by_cases hq2 : q = 41; (subst hq2; rfl); by_cases hq3 : q = 40; (subst hq3; rfl); simp only [gset, if_neg hq0, if_neg hq1, if_neg hq2, if_neg hq3])
                    have eL119F : ∀ b, b ≠ (ad 255) → f117 b = f105 b := eL119F
                    have hf121 := (eL119F (ad 259) (hst.ne (by decide) (by decide) (by decide))).trans hf109
                    have hfr : (∀ b, b ≠ (ad 255) → b ≠ (ad 259) → f117 b = f b) := fun b z0_ z1_ => (eL119F b z0_).trans (hfr b z0_ z1_)
                    have eL119R : In r115 0 1 := eL119R
                    refine lv_if_eq (tgt := 263) hx hb dX11_planLine_248 (by decide) (fun c122 => ?_) (fun c122 => ?_)
                    ·
                      have oc0 : (0 : Int32).toInt = 0 := by decide
                      have cc123 : r115.toInt = (0 : Int32).toInt := congrArg Int32.toInt c122
                      have hb124 : In r115 0 0 := In.eq1 eL119R (⟨by decide, by decide⟩ : In 0 0 0) cc123 (by decide) (by decide)
                      refine lv_aload_n hx hb dX11_planLine_263 rfl (lv_at hl 1 rfl) ?_
                      refine va_ldcS hx hb hown (hG.2.2.1 ("RulerWordModel", 201, "draw", 15) (by decide +kernel)) dX11_planLine_264 ?_
                      refine M0e hT (fun v0_125 v2_125 v3_125 v4_125 v5_125 v6_125 v8_125 v9_125 v12_125 v13_125 v14_125 v15_125 v16_125 v17_125 v18_125 v19_125 v20_125 v21_125 v22_125 v23_125 v25_125 v36_125 v37_125 v38_125 v39_125 v40_125 v45_125 v46_125 v47_125 v48_125 v50_125 v51_125 v53_125 v55_125 hf126 hv0_125 hv2_125 hg2_125 hv3_125 hg3_125 hv4_125 hg4_125 hv5_125 hg5_125 hv6_125 hg6_125 hv8_125 hg8_125 hv9_125 hg9_125 hv12_125 hv13_125 hg13_125 hv14_125 hg14_125 hv15_125 hg15_125 hv17_125 hg17_125 hv20_125 hg20_125 hv23_125 hg23_125 hv25_125 hg25_125 hv36_125 hg36_125 hv47_125 hg47_125 hv48_125 hg48_125 hv53_125 hg53_125 hv55_125 hg55_125 hrel0_125 => ?_)
                      have hg15_125 : v15_125.toInt = th 11 := hg15_125
                      have hg17_125 : v17_125.toInt = th 12 := hg17_125
                      have hg20_125 : v20_125.toInt = th 14 := hg20_125
                      refine call_i (run_V (rm := rm_X11_takes) hx hb hml hown hts (s_X11_takes l g ad (gset (gset (gset (gset th 40 zg161_zr) 41 zg161_zl) 42 zg161_ze) 37 zz120) _ _ _ 15 hst hT (by decide)) cV_X11_takes wg_1538 ⟨Nat.le_of_ble_eq_true rfl, Nat.le_of_ble_eq_true rfl⟩ hG hE hA hP hD hS (hst.1 255 (by decide)) hf126 rfl rfl hl.1 (As := [.ref (g.2.2.1 15)]) (rest := []) rfl (Nat.le_of_ble_eq_true rfl) dX11_planLine_266 ⟨Nat.le_of_ble_eq_true rfl, Nat.le_of_ble_eq_true rfl⟩) hA hD hS (fun r127 L128 f129 H locs hp130 hP hD hS => ?_)
                      obtain ⟨eL131L, eL131T, eL131F, eL131R⟩ := hp130
                      have eL131L : L128 = L := eL131L
                      rw [eL131L] at hP hD
                      obtain ⟨zz132, hzz132, eL131T⟩ := eL131T
                      have hzz132 : zz120 ≤ zz132 ∧ zz132 ≤ 500 := hzz132
                      have hT : TI g ad (gset (gset (gset (gset (gset th 40 zg161_zr) 41 zg161_zl) 42 zg161_ze) 37 zz120) 37 zz132) f129 := eL131T
                      have hT : TI g ad (gset (gset (gset (gset th 40 zg161_zr) 41 zg161_zl) 42 zg161_ze) 37 zz132) f129 := TI.cast hT (by funext q; by_cases hq0 : q = 37; (subst hq0; rfl); by_cases hq1 : q = 42; (subst hq1; rfl); by_cases hq2 : q = 41; (subst hq2; rfl); by_cases hq3 : q = 40; (subst hq3; rfl); simp only [gset, if_neg hq0, if_neg hq1, if_neg hq2, if_neg hq3])
                      have eL131F : ∀ b, b ≠ (ad 255) → f129 b = f117 b := eL131F
                      have hf133 := (eL131F (ad 259) (hst.ne (by decide) (by decide) (by decide))).trans hf121
                      have hfr : (∀ b, b ≠ (ad 255) → b ≠ (ad 259) → f129 b = f b) := fun b z0_ z1_ => (eL131F b z0_).trans (hfr b z0_ z1_)
                      have eL131R : In r127 0 1 := eL131R
                      refine lv_if_eq (tgt := 285) hx hb dX11_planLine_269 (by decide) (fun c134 => ?_) (fun c134 => ?_)
                      ·
                        have oc0 : (0 : Int32).toInt = 0 := by decide
                        have cc135 : r127.toInt = (0 : Int32).toInt := congrArg Int32.toInt c134
                        have hb136 : In r127 0 0 := In.eq1 eL131R (⟨by decide, by decide⟩ : In 0 0 0) cc135 (by decide) (by decide)
                        refine lv_aload_n hx hb dX11_planLine_285 rfl (lv_at hl 1 rfl) ?_
                        refine lv_aload_n hx hb dX11_planLine_286 rfl (lv_at hl 1 rfl) ?_
                        refine M0e hT (fun v0_137 v2_137 v3_137 v4_137 v5_137 v6_137 v8_137 v9_137 v12_137 v13_137 v14_137 v15_137 v16_137 v17_137 v18_137 v19_137 v20_137 v21_137 v22_137 v23_137 v25_137 v36_137 v37_137 v38_137 v39_137 v40_137 v45_137 v46_137 v47_137 v48_137 v50_137 v51_137 v53_137 v55_137 hf138 hv0_137 hv2_137 hg2_137 hv3_137 hg3_137 hv4_137 hg4_137 hv5_137 hg5_137 hv6_137 hg6_137 hv8_137 hg8_137 hv9_137 hg9_137 hv12_137 hv13_137 hg13_137 hv14_137 hg14_137 hv15_137 hg15_137 hv17_137 hg17_137 hv20_137 hg20_137 hv23_137 hg23_137 hv25_137 hg25_137 hv36_137 hg36_137 hv47_137 hg47_137 hv48_137 hg48_137 hv53_137 hg53_137 hv55_137 hg55_137 hrel0_137 => ?_)
                        have hg15_137 : v15_137.toInt = th 11 := hg15_137
                        have hg17_137 : v17_137.toInt = th 12 := hg17_137
                        have hg20_137 : v20_137.toInt = th 14 := hg20_137
                        refine pl_get (v := .int v3_137) hx hb hts (fun w h => mT (inX11 w h)) hown hG.1 hP (hst.1 255 (by decide)) hf138 rfl 3 (by decide) (hts _ (mT wg_1339)) (fun _ h => h) rfl dX11_planLine_287 ?_
                        have hg3_137 : v3_137.toInt = zz132 := hg3_137
                        refine call_v (run_V (rm := rm_X11_fails) hx hb hml hown hts (s_X11_fails l g ad (gset (gset (gset (gset th 40 zg161_zr) 41 zg161_zl) 42 zg161_ze) 37 zz132) _ _ _ v3_137 hst hT hv3_137) cV_X11_fails wg_1545 ⟨Nat.le_of_ble_eq_true rfl, Nat.le_of_ble_eq_true rfl⟩ hG hE hA hP hD hS (hst.1 255 (by decide)) hf138 rfl rfl hl.1 (As := [.int v3_137]) (rest := []) rfl (Nat.le_of_ble_eq_true rfl) dX11_planLine_290 ⟨Nat.le_of_ble_eq_true rfl, Nat.le_of_ble_eq_true rfl⟩) hA hD hS (fun L140 f141 H locs hp142 hP hD hS => ?_)
                        obtain ⟨eL143L, eL143T, eL143F⟩ := hp142
                        have eL143L : L140 = L := eL143L
                        rw [eL143L] at hP hD
                        obtain ⟨zz144, hzz144, eL143T⟩ := eL143T
                        have hzz144 : 0 ≤ zz144 := hzz144
                        have hT : TI g ad (gset (gset (gset (gset (gset th 40 zg161_zr) 41 zg161_zl) 42 zg161_ze) 37 zz132) 42 zz144) f141 := eL143T
                        have hT : TI g ad (gset (gset (gset (gset th 40 zg161_zr) 41 zg161_zl) 37 zz132) 42 zz144) f141 := TI.cast hT (by funext q; by_cases hq0 : q = 42; (subst hq0; rfl); by_cases hq1 : q = 37; (subst hq1; rfl); by_cases hq2 : q = 41; (subst hq2; rfl); by_cases hq3 : q = 40; (subst hq3; rfl); simp only [gset, if_neg hq0, if_neg hq1, if_neg hq2, if_neg hq3])
                        have eL143F : ∀ b, b ≠ (ad 255) → f141 b = f129 b := eL143F
                        have hf145 := (eL143F (ad 259) (hst.ne (by decide) (by decide) (by decide))).trans hf133
                        have hfr : (∀ b, b ≠ (ad 255) → b ≠ (ad 259) → f141 b = f b) := fun b z0_ z1_ => (eL143F b z0_).trans (hfr b z0_ z1_)
                        exact hJ293 zz132 zg161_zr zg161_zl zz144 _ _ _ _ (show th 37 ≤ zz132 ∧ zz132 ≤ 500 from (by have ob13 : (0 : Int) ≤ (th 13) ∧ (th 13) ≤ 500 := (b0_13 hT :); have ob35 : (0 : Int) ≤ (th 35) ∧ (th 35) ≤ 63 := (b0_35 hT :); have ob36 : (0 : Int) ≤ (th 36) ∧ (th 36) ≤ 20 := (b0_36 hT :); have ob37 : (0 : Int) ≤ zz132 ∧ zz132 ≤ 500 := (b0_37 hT :); have ob40 : (0 : Int) ≤ zg161_zr ∧ zg161_zr ≤ 500 := (b0_40 hT :); have ob41 : (0 : Int) ≤ zg161_zl ∧ zg161_zl ≤ 500 := (b0_41 hT :); have ob42 : ((-1) : Int) ≤ zz144 ∧ zz144 ≤ 500 := (b0_42 hT :); have ob43 : ((-1) : Int) ≤ (th 43) ∧ (th 43) ≤ 1 := (b0_43 hT :); obtain ⟨o0a, o0b⟩ := (hb15 : In _ _ _); obtain ⟨o1a, o1b⟩ := (eL68R : In _ _ _); obtain ⟨o2a, o2b⟩ := (hb13 : In _ _ _); omega)) hP hD hS (TI.cast hT (by funext q; by_cases hq0 : q = 42; (subst hq0; rfl); by_cases hq1 : q = 37; (subst hq1; rfl); by_cases hq2 : q = 41; (subst hq2; rfl); by_cases hq3 : q = 40; (subst hq3; rfl); simp only [gset, if_neg hq0, if_neg hq1, if_neg hq2, if_neg hq3])) hfr (lv_sub hl [1, 0, 2] rfl)
                      ·
                        have oc0 : (0 : Int32).toInt = 0 := by decide
                        have cc146 : r127.toInt ≠ (0 : Int32).toInt := i32_ne c134
                        have hb147 : In r127 1 1 := In.ne1 eL131R (⟨by decide, by decide⟩ : In 0 0 0) cc146 (by decide) (by decide)
                        refine lv_aload_n hx hb dX11_planLine_272 rfl (lv_at hl 1 rfl) ?_
                        refine M0e hT (fun v0_148 v2_148 v3_148 v4_148 v5_148 v6_148 v8_148 v9_148 v12_148 v13_148 v14_148 v15_148 v16_148 v17_148 v18_148 v19_148 v20_148 v21_148 v22_148 v23_148 v25_148 v36_148 v37_148 v38_148 v39_148 v40_148 v45_148 v46_148 v47_148 v48_148 v50_148 v51_148 v53_148 v55_148 hf149 hv0_148 hv2_148 hg2_148 hv3_148 hg3_148 hv4_148 hg4_148 hv5_148 hg5_148 hv6_148 hg6_148 hv8_148 hg8_148 hv9_148 hg9_148 hv12_148 hv13_148 hg13_148 hv14_148 hg14_148 hv15_148 hg15_148 hv17_148 hg17_148 hv20_148 hg20_148 hv23_148 hg23_148 hv25_148 hg25_148 hv36_148 hg36_148 hv47_148 hg47_148 hv48_148 hg48_148 hv53_148 hg53_148 hv55_148 hg55_148 hrel0_148 => ?_)
                        have hg15_148 : v15_148.toInt = th 11 := hg15_148
                        have hg17_148 : v17_148.toInt = th 12 := hg17_148
                        have hg20_148 : v20_148.toInt = th 14 := hg20_148
                        refine pl_get (v := .ref (ad 259)) hx hb hts (fun w h => mT (inX11 w h)) hown hG.1 hP (hst.1 255 (by decide)) hf149 rfl 11 (by decide) (hts _ (mT wg_1347)) (fun _ h => h) rfl dX11_planLine_273 ?_
                        refine lv_iload_n hx hb dX11_planLine_276 rfl (lv_at hl 2 rfl) ?_
                        refine lv_iconst (v := 4) hx hb dX11_planLine_277 (by decide) ?_
                        refine lv_iadd hx hb dX11_planLine_278 ?_
                        refine lv_topi (fun x150 ex150 => ?_)
                        have hb151 : In x150 4 99 := ex150 ▸ In.add hb15 (⟨by decide, by decide⟩ : In 4 4 4) (by decide) (by decide) (by decide) (by decide)
                        have et152 : x150.toInt = x14.toInt + 4 := In.adde ex150 hb15 (k := 4) (by decide) (by decide) (by decide)
                        refine lv_bipush (v := 6) hx hb dX11_planLine_279 (by decide) ?_
                        refine pl_iastE hx hb hG.1 hP hD hS (hst.1 259 (by decide)) 0 hf133 rfl (In.inb hb151 (by decide) (by decide)) dX11_planLine_281 (fun H locs f153 r156 er156 hf154 ho155 hP hD hS => ?_)
                        have hf157 := (ho155 (ad 255) (hst.ne (by decide) (by decide) (by decide))).trans hf149
                        have hfr : (∀ b, b ≠ (ad 255) → b ≠ (ad 259) → f153 b = f b) := fun b z0_ z1_ => (ho155 b z1_).trans (hfr b z0_ z1_)
                        have hT := TI.updM hT hst (k := 4) (by decide) hf154 ho155 ⟨r156, rfl⟩
                        refine lv_goto (tgt := 293) hx hb dX11_planLine_282 (by decide) ?_
                        exact hJ293 zz132 zg161_zr zg161_zl zg161_ze _ _ _ _ (show th 37 ≤ zz132 ∧ zz132 ≤ 500 from (by have ob13 : (0 : Int) ≤ (th 13) ∧ (th 13) ≤ 500 := (b0_13 hT :); have ob35 : (0 : Int) ≤ (th 35) ∧ (th 35) ≤ 63 := (b0_35 hT :); have ob36 : (0 : Int) ≤ (th 36) ∧ (th 36) ≤ 20 := (b0_36 hT :); have ob37 : (0 : Int) ≤ zz132 ∧ zz132 ≤ 500 := (b0_37 hT :); have ob40 : (0 : Int) ≤ zg161_zr ∧ zg161_zr ≤ 500 := (b0_40 hT :); have ob41 : (0 : Int) ≤ zg161_zl ∧ zg161_zl ≤ 500 := (b0_41 hT :); have ob42 : ((-1) : Int) ≤ zg161_ze ∧ zg161_ze ≤ 500 := (b0_42 hT :); have ob43 : ((-1) : Int) ≤ (th 43) ∧ (th 43) ≤ 1 := (b0_43 hT :); obtain ⟨o0a, o0b⟩ := (hb15 : In _ _ _); obtain ⟨o1a, o1b⟩ := (eL68R : In _ _ _); obtain ⟨o2a, o2b⟩ := (hv2_148 : In _ _ _); obtain ⟨o3a, o3b⟩ := (hv3_148 : In _ _ _); obtain ⟨o4a, o4b⟩ := (hv4_148 : In _ _ _); obtain ⟨o5a, o5b⟩ := (hv5_148 : In _ _ _); obtain ⟨o6a, o6b⟩ := (hv6_148 : In _ _ _); obtain ⟨o7a, o7b⟩ := (hv8_148 : In _ _ _); obtain ⟨o8a, o8b⟩ := (hv9_148 : In _ _ _); obtain ⟨o9a, o9b⟩ := (hv13_148 : In _ _ _); obtain ⟨o10a, o10b⟩ := (hb13 : In _ _ _); omega)) hP hD hS (TI.cast hT (by funext q; by_cases hq0 : q = 37; (subst hq0; rfl); by_cases hq1 : q = 42; (subst hq1; rfl); by_cases hq2 : q = 41; (subst hq2; rfl); by_cases hq3 : q = 40; (subst hq3; rfl); simp only [gset, if_neg hq0, if_neg hq1, if_neg hq2, if_neg hq3])) hfr (lv_sub hl [1, 0, 2] rfl)
                    ·
                      have oc0 : (0 : Int32).toInt = 0 := by decide
                      have cc158 : r115.toInt ≠ (0 : Int32).toInt := i32_ne c122
                      have hb159 : In r115 1 1 := In.ne1 eL119R (⟨by decide, by decide⟩ : In 0 0 0) cc158 (by decide) (by decide)
                      refine lv_aload_n hx hb dX11_planLine_251 rfl (lv_at hl 1 rfl) ?_
                      refine M0e hT (fun v0_160 v2_160 v3_160 v4_160 v5_160 v6_160 v8_160 v9_160 v12_160 v13_160 v14_160 v15_160 v16_160 v17_160 v18_160 v19_160 v20_160 v21_160 v22_160 v23_160 v25_160 v36_160 v37_160 v38_160 v39_160 v40_160 v45_160 v46_160 v47_160 v48_160 v50_160 v51_160 v53_160 v55_160 hf161 hv0_160 hv2_160 hg2_160 hv3_160 hg3_160 hv4_160 hg4_160 hv5_160 hg5_160 hv6_160 hg6_160 hv8_160 hg8_160 hv9_160 hg9_160 hv12_160 hv13_160 hg13_160 hv14_160 hg14_160 hv15_160 hg15_160 hv17_160 hg17_160 hv20_160 hg20_160 hv23_160 hg23_160 hv25_160 hg25_160 hv36_160 hg36_160 hv47_160 hg47_160 hv48_160 hg48_160 hv53_160 hg53_160 hv55_160 hg55_160 hrel0_160 => ?_)
                      have hg15_160 : v15_160.toInt = th 11 := hg15_160
                      have hg17_160 : v17_160.toInt = th 12 := hg17_160
                      have hg20_160 : v20_160.toInt = th 14 := hg20_160
                      refine pl_get (v := .ref (ad 259)) hx hb hts (fun w h => mT (inX11 w h)) hown hG.1 hP (hst.1 255 (by decide)) hf161 rfl 11 (by decide) (hts _ (mT wg_1347)) (fun _ h => h) rfl dX11_planLine_252 ?_
                      refine lv_iload_n hx hb dX11_planLine_255 rfl (lv_at hl 2 rfl) ?_
                      refine lv_iconst (v := 4) hx hb dX11_planLine_256 (by decide) ?_
                      refine lv_iadd hx hb dX11_planLine_257 ?_
                      refine lv_topi (fun x162 ex162 => ?_)
                      have hb163 : In x162 4 99 := ex162 ▸ In.add hb15 (⟨by decide, by decide⟩ : In 4 4 4) (by decide) (by decide) (by decide) (by decide)
                      have et164 : x162.toInt = x14.toInt + 4 := In.adde ex162 hb15 (k := 4) (by decide) (by decide) (by decide)
                      refine lv_iconst (v := 5) hx hb dX11_planLine_258 (by decide) ?_
                      refine pl_iastE hx hb hG.1 hP hD hS (hst.1 259 (by decide)) 0 hf121 rfl (In.inb hb163 (by decide) (by decide)) dX11_planLine_259 (fun H locs f165 r168 er168 hf166 ho167 hP hD hS => ?_)
                      have hf169 := (ho167 (ad 255) (hst.ne (by decide) (by decide) (by decide))).trans hf161
                      have hfr : (∀ b, b ≠ (ad 255) → b ≠ (ad 259) → f165 b = f b) := fun b z0_ z1_ => (ho167 b z1_).trans (hfr b z0_ z1_)
                      have hT := TI.updM hT hst (k := 4) (by decide) hf166 ho167 ⟨r168, rfl⟩
                      refine lv_goto (tgt := 293) hx hb dX11_planLine_260 (by decide) ?_
                      exact hJ293 zz120 zg161_zr zg161_zl zg161_ze _ _ _ _ (show th 37 ≤ zz120 ∧ zz120 ≤ 500 from (by have ob13 : (0 : Int) ≤ (th 13) ∧ (th 13) ≤ 500 := (b0_13 hT :); have ob35 : (0 : Int) ≤ (th 35) ∧ (th 35) ≤ 63 := (b0_35 hT :); have ob36 : (0 : Int) ≤ (th 36) ∧ (th 36) ≤ 20 := (b0_36 hT :); have ob37 : (0 : Int) ≤ zz120 ∧ zz120 ≤ 500 := (b0_37 hT :); have ob40 : (0 : Int) ≤ zg161_zr ∧ zg161_zr ≤ 500 := (b0_40 hT :); have ob41 : (0 : Int) ≤ zg161_zl ∧ zg161_zl ≤ 500 := (b0_41 hT :); have ob42 : ((-1) : Int) ≤ zg161_ze ∧ zg161_ze ≤ 500 := (b0_42 hT :); have ob43 : ((-1) : Int) ≤ (th 43) ∧ (th 43) ≤ 1 := (b0_43 hT :); obtain ⟨o0a, o0b⟩ := (hb15 : In _ _ _); obtain ⟨o1a, o1b⟩ := (eL68R : In _ _ _); obtain ⟨o2a, o2b⟩ := (hv2_160 : In _ _ _); obtain ⟨o3a, o3b⟩ := (hv3_160 : In _ _ _); obtain ⟨o4a, o4b⟩ := (hv4_160 : In _ _ _); obtain ⟨o5a, o5b⟩ := (hv5_160 : In _ _ _); obtain ⟨o6a, o6b⟩ := (hv6_160 : In _ _ _); obtain ⟨o7a, o7b⟩ := (hv8_160 : In _ _ _); obtain ⟨o8a, o8b⟩ := (hv9_160 : In _ _ _); obtain ⟨o9a, o9b⟩ := (hv13_160 : In _ _ _); obtain ⟨o10a, o10b⟩ := (hb13 : In _ _ _); omega)) hP hD hS (TI.cast hT (by funext q; by_cases hq0 : q = 37; (subst hq0; rfl); by_cases hq1 : q = 42; (subst hq1; rfl); by_cases hq2 : q = 41; (subst hq2; rfl); by_cases hq3 : q = 40; (subst hq3; rfl); simp only [gset, if_neg hq0, if_neg hq1, if_neg hq2, if_neg hq3])) hfr (lv_sub hl [1, 0, 2] rfl)
                  ·
                    have oc0 : (0 : Int32).toInt = 0 := by decide
                    have cc170 : r103.toInt ≠ (0 : Int32).toInt := i32_ne c110
                    have hb171 : In r103 1 1 := In.ne1 eL107R (⟨by decide, by decide⟩ : In 0 0 0) cc170 (by decide) (by decide)
                    refine lv_aload_n hx hb dX11_planLine_230 rfl (lv_at hl 1 rfl) ?_
                    refine M0e hT (fun v0_172 v2_172 v3_172 v4_172 v5_172 v6_172 v8_172 v9_172 v12_172 v13_172 v14_172 v15_172 v16_172 v17_172 v18_172 v19_172 v20_172 v21_172 v22_172 v23_172 v25_172 v36_172 v37_172 v38_172 v39_172 v40_172 v45_172 v46_172 v47_172 v48_172 v50_172 v51_172 v53_172 v55_172 hf173 hv0_172 hv2_172 hg2_172 hv3_172 hg3_172 hv4_172 hg4_172 hv5_172 hg5_172 hv6_172 hg6_172 hv8_172 hg8_172 hv9_172 hg9_172 hv12_172 hv13_172 hg13_172 hv14_172 hg14_172 hv15_172 hg15_172 hv17_172 hg17_172 hv20_172 hg20_172 hv23_172 hg23_172 hv25_172 hg25_172 hv36_172 hg36_172 hv47_172 hg47_172 hv48_172 hg48_172 hv53_172 hg53_172 hv55_172 hg55_172 hrel0_172 => ?_)
                    have hg15_172 : v15_172.toInt = th 11 := hg15_172
                    have hg17_172 : v17_172.toInt = th 12 := hg17_172
                    have hg20_172 : v20_172.toInt = th 14 := hg20_172
                    refine pl_get (v := .ref (ad 259)) hx hb hts (fun w h => mT (inX11 w h)) hown hG.1 hP (hst.1 255 (by decide)) hf173 rfl 11 (by decide) (hts _ (mT wg_1347)) (fun _ h => h) rfl dX11_planLine_231 ?_
                    refine lv_iload_n hx hb dX11_planLine_234 rfl (lv_at hl 2 rfl) ?_
                    refine lv_iconst (v := 4) hx hb dX11_planLine_235 (by decide) ?_
                    refine lv_iadd hx hb dX11_planLine_236 ?_
                    refine lv_topi (fun x174 ex174 => ?_)
                    have hb175 : In x174 4 99 := ex174 ▸ In.add hb15 (⟨by decide, by decide⟩ : In 4 4 4) (by decide) (by decide) (by decide) (by decide)
                    have et176 : x174.toInt = x14.toInt + 4 := In.adde ex174 hb15 (k := 4) (by decide) (by decide) (by decide)
                    refine lv_iconst (v := 4) hx hb dX11_planLine_237 (by decide) ?_
                    refine pl_iastE hx hb hG.1 hP hD hS (hst.1 259 (by decide)) 0 hf109 rfl (In.inb hb175 (by decide) (by decide)) dX11_planLine_238 (fun H locs f177 r180 er180 hf178 ho179 hP hD hS => ?_)
                    have hf181 := (ho179 (ad 255) (hst.ne (by decide) (by decide) (by decide))).trans hf173
                    have hfr : (∀ b, b ≠ (ad 255) → b ≠ (ad 259) → f177 b = f b) := fun b z0_ z1_ => (ho179 b z1_).trans (hfr b z0_ z1_)
                    have hT := TI.updM hT hst (k := 4) (by decide) hf178 ho179 ⟨r180, rfl⟩
                    refine lv_goto (tgt := 293) hx hb dX11_planLine_239 (by decide) ?_
                    exact hJ293 zz108 zg161_zr zg161_zl zg161_ze _ _ _ _ (show th 37 ≤ zz108 ∧ zz108 ≤ 500 from (by have ob13 : (0 : Int) ≤ (th 13) ∧ (th 13) ≤ 500 := (b0_13 hT :); have ob35 : (0 : Int) ≤ (th 35) ∧ (th 35) ≤ 63 := (b0_35 hT :); have ob36 : (0 : Int) ≤ (th 36) ∧ (th 36) ≤ 20 := (b0_36 hT :); have ob37 : (0 : Int) ≤ zz108 ∧ zz108 ≤ 500 := (b0_37 hT :); have ob40 : (0 : Int) ≤ zg161_zr ∧ zg161_zr ≤ 500 := (b0_40 hT :); have ob41 : (0 : Int) ≤ zg161_zl ∧ zg161_zl ≤ 500 := (b0_41 hT :); have ob42 : ((-1) : Int) ≤ zg161_ze ∧ zg161_ze ≤ 500 := (b0_42 hT :); have ob43 : ((-1) : Int) ≤ (th 43) ∧ (th 43) ≤ 1 := (b0_43 hT :); obtain ⟨o0a, o0b⟩ := (hb15 : In _ _ _); obtain ⟨o1a, o1b⟩ := (eL68R : In _ _ _); obtain ⟨o2a, o2b⟩ := (hv2_172 : In _ _ _); obtain ⟨o3a, o3b⟩ := (hv3_172 : In _ _ _); obtain ⟨o4a, o4b⟩ := (hv4_172 : In _ _ _); obtain ⟨o5a, o5b⟩ := (hv5_172 : In _ _ _); obtain ⟨o6a, o6b⟩ := (hv6_172 : In _ _ _); obtain ⟨o7a, o7b⟩ := (hv8_172 : In _ _ _); obtain ⟨o8a, o8b⟩ := (hv9_172 : In _ _ _); obtain ⟨o9a, o9b⟩ := (hv13_172 : In _ _ _); obtain ⟨o10a, o10b⟩ := (hb13 : In _ _ _); omega)) hP hD hS (TI.cast hT (by funext q; by_cases hq0 : q = 37; (subst hq0; rfl); by_cases hq1 : q = 42; (subst hq1; rfl); by_cases hq2 : q = 41; (subst hq2; rfl); by_cases hq3 : q = 40; (subst hq3; rfl); simp only [gset, if_neg hq0, if_neg hq1, if_neg hq2, if_neg hq3])) hfr (lv_sub hl [1, 0, 2] rfl)
                ·
                  have oc0 : (0 : Int32).toInt = 0 := by decide
                  have cc182 : r91.toInt ≠ (0 : Int32).toInt := i32_ne c98
                  have hb183 : In r91 1 1 := In.ne1 eL95R (⟨by decide, by decide⟩ : In 0 0 0) cc182 (by decide) (by decide)
                  refine lv_aload_n hx hb dX11_planLine_209 rfl (lv_at hl 1 rfl) ?_
                  refine M0e hT (fun v0_184 v2_184 v3_184 v4_184 v5_184 v6_184 v8_184 v9_184 v12_184 v13_184 v14_184 v15_184 v16_184 v17_184 v18_184 v19_184 v20_184 v21_184 v22_184 v23_184 v25_184 v36_184 v37_184 v38_184 v39_184 v40_184 v45_184 v46_184 v47_184 v48_184 v50_184 v51_184 v53_184 v55_184 hf185 hv0_184 hv2_184 hg2_184 hv3_184 hg3_184 hv4_184 hg4_184 hv5_184 hg5_184 hv6_184 hg6_184 hv8_184 hg8_184 hv9_184 hg9_184 hv12_184 hv13_184 hg13_184 hv14_184 hg14_184 hv15_184 hg15_184 hv17_184 hg17_184 hv20_184 hg20_184 hv23_184 hg23_184 hv25_184 hg25_184 hv36_184 hg36_184 hv47_184 hg47_184 hv48_184 hg48_184 hv53_184 hg53_184 hv55_184 hg55_184 hrel0_184 => ?_)
                  have hg15_184 : v15_184.toInt = th 11 := hg15_184
                  have hg17_184 : v17_184.toInt = th 12 := hg17_184
                  have hg20_184 : v20_184.toInt = th 14 := hg20_184
                  refine pl_get (v := .ref (ad 259)) hx hb hts (fun w h => mT (inX11 w h)) hown hG.1 hP (hst.1 255 (by decide)) hf185 rfl 11 (by decide) (hts _ (mT wg_1347)) (fun _ h => h) rfl dX11_planLine_210 ?_
                  refine lv_iload_n hx hb dX11_planLine_213 rfl (lv_at hl 2 rfl) ?_
                  refine lv_iconst (v := 4) hx hb dX11_planLine_214 (by decide) ?_
                  refine lv_iadd hx hb dX11_planLine_215 ?_
                  refine lv_topi (fun x186 ex186 => ?_)
                  have hb187 : In x186 4 99 := ex186 ▸ In.add hb15 (⟨by decide, by decide⟩ : In 4 4 4) (by decide) (by decide) (by decide) (by decide)
                  have et188 : x186.toInt = x14.toInt + 4 := In.adde ex186 hb15 (k := 4) (by decide) (by decide) (by decide)
                  refine lv_iconst (v := 3) hx hb dX11_planLine_216 (by decide) ?_
                  refine pl_iastE hx hb hG.1 hP hD hS (hst.1 259 (by decide)) 0 hf97 rfl (In.inb hb187 (by decide) (by decide)) dX11_planLine_217 (fun H locs f189 r192 er192 hf190 ho191 hP hD hS => ?_)
                  have hf193 := (ho191 (ad 255) (hst.ne (by decide) (by decide) (by decide))).trans hf185
                  have hfr : (∀ b, b ≠ (ad 255) → b ≠ (ad 259) → f189 b = f b) := fun b z0_ z1_ => (ho191 b z1_).trans (hfr b z0_ z1_)
                  have hT := TI.updM hT hst (k := 4) (by decide) hf190 ho191 ⟨r192, rfl⟩
                  refine lv_goto (tgt := 293) hx hb dX11_planLine_218 (by decide) ?_
                  exact hJ293 zz96 zg161_zr zg161_zl zg161_ze _ _ _ _ (show th 37 ≤ zz96 ∧ zz96 ≤ 500 from (by have ob13 : (0 : Int) ≤ (th 13) ∧ (th 13) ≤ 500 := (b0_13 hT :); have ob35 : (0 : Int) ≤ (th 35) ∧ (th 35) ≤ 63 := (b0_35 hT :); have ob36 : (0 : Int) ≤ (th 36) ∧ (th 36) ≤ 20 := (b0_36 hT :); have ob37 : (0 : Int) ≤ zz96 ∧ zz96 ≤ 500 := (b0_37 hT :); have ob40 : (0 : Int) ≤ zg161_zr ∧ zg161_zr ≤ 500 := (b0_40 hT :); have ob41 : (0 : Int) ≤ zg161_zl ∧ zg161_zl ≤ 500 := (b0_41 hT :); have ob42 : ((-1) : Int) ≤ zg161_ze ∧ zg161_ze ≤ 500 := (b0_42 hT :); have ob43 : ((-1) : Int) ≤ (th 43) ∧ (th 43) ≤ 1 := (b0_43 hT :); obtain ⟨o0a, o0b⟩ := (hb15 : In _ _ _); obtain ⟨o1a, o1b⟩ := (eL68R : In _ _ _); obtain ⟨o2a, o2b⟩ := (hv2_184 : In _ _ _); obtain ⟨o3a, o3b⟩ := (hv3_184 : In _ _ _); obtain ⟨o4a, o4b⟩ := (hv4_184 : In _ _ _); obtain ⟨o5a, o5b⟩ := (hv5_184 : In _ _ _); obtain ⟨o6a, o6b⟩ := (hv6_184 : In _ _ _); obtain ⟨o7a, o7b⟩ := (hv8_184 : In _ _ _); obtain ⟨o8a, o8b⟩ := (hv9_184 : In _ _ _); obtain ⟨o9a, o9b⟩ := (hv13_184 : In _ _ _); obtain ⟨o10a, o10b⟩ := (hb13 : In _ _ _); omega)) hP hD hS (TI.cast hT (by funext q; by_cases hq0 : q = 37; (subst hq0; rfl); by_cases hq1 : q = 42; (subst hq1; rfl); by_cases hq2 : q = 41; (subst hq2; rfl); by_cases hq3 : q = 40; (subst hq3; rfl); simp only [gset, if_neg hq0, if_neg hq1, if_neg hq2, if_neg hq3])) hfr (lv_sub hl [1, 0, 2] rfl)
              ·
                have oc0 : (0 : Int32).toInt = 0 := by decide
                have cc194 : r73.toInt ≠ (0 : Int32).toInt := i32_ne c86
                have hb195 : In r73 1 1 := In.ne1 eL77R (⟨by decide, by decide⟩ : In 0 0 0) cc194 (by decide) (by decide)
                have hb196 : In r64 48 57 := In.both (eL77W0 c86) eL68R (by decide) (by decide)
                refine lv_aload_n hx hb dX11_planLine_183 rfl (lv_at hl 1 rfl) ?_
                refine M0e hT (fun v0_197 v2_197 v3_197 v4_197 v5_197 v6_197 v8_197 v9_197 v12_197 v13_197 v14_197 v15_197 v16_197 v17_197 v18_197 v19_197 v20_197 v21_197 v22_197 v23_197 v25_197 v36_197 v37_197 v38_197 v39_197 v40_197 v45_197 v46_197 v47_197 v48_197 v50_197 v51_197 v53_197 v55_197 hf198 hv0_197 hv2_197 hg2_197 hv3_197 hg3_197 hv4_197 hg4_197 hv5_197 hg5_197 hv6_197 hg6_197 hv8_197 hg8_197 hv9_197 hg9_197 hv12_197 hv13_197 hg13_197 hv14_197 hg14_197 hv15_197 hg15_197 hv17_197 hg17_197 hv20_197 hg20_197 hv23_197 hg23_197 hv25_197 hg25_197 hv36_197 hg36_197 hv47_197 hg47_197 hv48_197 hg48_197 hv53_197 hg53_197 hv55_197 hg55_197 hrel0_197 => ?_)
                have hg15_197 : v15_197.toInt = th 11 := hg15_197
                have hg17_197 : v17_197.toInt = th 12 := hg17_197
                have hg20_197 : v20_197.toInt = th 14 := hg20_197
                refine pl_get (v := .ref (ad 259)) hx hb hts (fun w h => mT (inX11 w h)) hown hG.1 hP (hst.1 255 (by decide)) hf198 rfl 11 (by decide) (hts _ (mT wg_1347)) (fun _ h => h) rfl dX11_planLine_184 ?_
                refine lv_iload_n hx hb dX11_planLine_187 rfl (lv_at hl 2 rfl) ?_
                refine lv_iconst (v := 4) hx hb dX11_planLine_188 (by decide) ?_
                refine lv_iadd hx hb dX11_planLine_189 ?_
                refine lv_topi (fun x199 ex199 => ?_)
                have hb200 : In x199 4 99 := ex199 ▸ In.add hb15 (⟨by decide, by decide⟩ : In 4 4 4) (by decide) (by decide) (by decide) (by decide)
                have et201 : x199.toInt = x14.toInt + 4 := In.adde ex199 hb15 (k := 4) (by decide) (by decide) (by decide)
                refine lv_aload_n hx hb dX11_planLine_190 rfl (lv_at hl 1 rfl) ?_
                refine lv_iconst (v := 0) hx hb dX11_planLine_191 (by decide) ?_
                refine lv_iconst (v := 2) hx hb dX11_planLine_192 (by decide) ?_
                refine call_i (run_V (rm := rm_X11_digit_0_2) hx hb hml hown hts (s_X11_digit_0_2 l g ad (gset (gset (gset (gset th 40 zg161_zr) 41 zg161_zl) 42 zg161_ze) 37 zz69) _ _ _  hst hT ) cV_X11_digit wg_1566 ⟨Nat.le_of_ble_eq_true rfl, Nat.le_of_ble_eq_true rfl⟩ hG hE hA hP hD hS (hst.1 255 (by decide)) hf198 rfl rfl hl.1 (As := [.int 0, .int 2]) (rest := [.int x199, .ref (ad 259)]) rfl (Nat.le_of_ble_eq_true rfl) dX11_planLine_193 ⟨Nat.le_of_ble_eq_true rfl, Nat.le_of_ble_eq_true rfl⟩) hA hD hS (fun r202 L203 f204 H locs hp205 hP hD hS => ?_)
                obtain ⟨eL206L, eL206T, eL206F, eL206R⟩ := hp205
                have eL206L : L203 = L := eL206L
                rw [eL206L] at hP hD
                obtain ⟨zz207, zz208, zz209, zz210, hzz207, eL206T⟩ := eL206T
                have hzz207 : (zz69 ≤ zz208 ∧ 0 ≤ zz208 ∧ 0 ≤ zz209 ∧ zz208 + zz209 = zz207 ∧ zz207 ≤ 500) := hzz207
                have hT : TI g ad (gset (gset (gset (gset (gset (gset (gset (gset th 40 zg161_zr) 41 zg161_zl) 42 zg161_ze) 37 zz69) 37 zz207) 40 zz208) 41 zz209) 42 zz210) f204 := eL206T
                have hT : TI g ad (gset (gset (gset (gset th 37 zz207) 40 zz208) 41 zz209) 42 zz210) f204 := TI.cast hT (by funext q; by_cases hq0 : q = 42; (subst hq0; rfl); by_cases hq1 : q = 41; (subst hq1; rfl); by_cases hq2 : q = 40; (subst hq2; rfl); by_cases hq3 : q = 37; (subst hq3; rfl); simp only [gset, if_neg hq0, if_neg hq1, if_neg hq2, if_neg hq3])
                have eL206F : ∀ b, b ≠ (ad 255) → f204 b = f66 b := eL206F
                have hf211 := (eL206F (ad 259) (hst.ne (by decide) (by decide) (by decide))).trans hf72
                have hfr : (∀ b, b ≠ (ad 255) → b ≠ (ad 259) → f204 b = f b) := fun b z0_ z1_ => (eL206F b z0_).trans (hfr b z0_ z1_)
                have eL206R : In r202 0 2 := eL206R
                refine pl_iastE hx hb hG.1 hP hD hS (hst.1 259 (by decide)) 0 hf211 rfl (In.inb hb200 (by decide) (by decide)) dX11_planLine_196 (fun H locs f212 r215 er215 hf213 ho214 hP hD hS => ?_)
                have hfr : (∀ b, b ≠ (ad 255) → b ≠ (ad 259) → f212 b = f b) := fun b z0_ z1_ => (ho214 b z1_).trans (hfr b z0_ z1_)
                have hT := TI.updM hT hst (k := 4) (by decide) hf213 ho214 ⟨r215, rfl⟩
                refine lv_goto (tgt := 293) hx hb dX11_planLine_197 (by decide) ?_
                exact hJ293 zz207 zz208 zz209 zz210 _ _ _ _ (show th 37 ≤ zz207 ∧ zz207 ≤ 500 from (by have ob13 : (0 : Int) ≤ (th 13) ∧ (th 13) ≤ 500 := (b0_13 hT :); have ob35 : (0 : Int) ≤ (th 35) ∧ (th 35) ≤ 63 := (b0_35 hT :); have ob36 : (0 : Int) ≤ (th 36) ∧ (th 36) ≤ 20 := (b0_36 hT :); have ob37 : (0 : Int) ≤ zz207 ∧ zz207 ≤ 500 := (b0_37 hT :); have ob40 : (0 : Int) ≤ zz208 ∧ zz208 ≤ 500 := (b0_40 hT :); have ob41 : (0 : Int) ≤ zz209 ∧ zz209 ≤ 500 := (b0_41 hT :); have ob42 : ((-1) : Int) ≤ zz210 ∧ zz210 ≤ 500 := (b0_42 hT :); have ob43 : ((-1) : Int) ≤ (th 43) ∧ (th 43) ≤ 1 := (b0_43 hT :); obtain ⟨o0a, o0b⟩ := (hb15 : In _ _ _); obtain ⟨o1a, o1b⟩ := (hb196 : In _ _ _); obtain ⟨o2a, o2b⟩ := (hb13 : In _ _ _); omega)) hP hD hS (TI.cast hT (by funext q; by_cases hq0 : q = 42; (subst hq0; rfl); by_cases hq1 : q = 41; (subst hq1; rfl); by_cases hq2 : q = 40; (subst hq2; rfl); by_cases hq3 : q = 37; (subst hq3; rfl); simp only [gset, if_neg hq0, if_neg hq1, if_neg hq2, if_neg hq3])) hfr (lv_sub hl [1, 0, 2] rfl)
            ·
              have ocm1 : ((-1) : Int32).toInt = (-1) := by decide
              have cc216 : v4_59.toInt ≠ ((-1) : Int32).toInt := i32_ne c61
              have hb217 : In v4_59 0 500 := In.ne1 hv4_59 (⟨by decide, by decide⟩ : In (-1) (-1) (-1)) cc216 (by decide) (by decide)
              exact ret_v hx hb hr hlocks hP hD hS (Nat.le_of_ble_eq_true rfl) (Nat.le_of_ble_eq_true rfl) (⟨rfl, ⟨zg161_za, zg161_zr, zg161_zl, zg161_ze, (th 36), (show th 37 ≤ zg161_za ∧ zg161_za ≤ 500 from (by have ob13 : (0 : Int) ≤ (th 13) ∧ (th 13) ≤ 500 := (b0_13 hT :); have ob35 : (0 : Int) ≤ (th 35) ∧ (th 35) ≤ 63 := (b0_35 hT :); have ob36 : (0 : Int) ≤ (th 36) ∧ (th 36) ≤ 20 := (b0_36 hT :); have ob37 : (0 : Int) ≤ zg161_za ∧ zg161_za ≤ 500 := (b0_37 hT :); have ob40 : (0 : Int) ≤ zg161_zr ∧ zg161_zr ≤ 500 := (b0_40 hT :); have ob41 : (0 : Int) ≤ zg161_zl ∧ zg161_zl ≤ 500 := (b0_41 hT :); have ob42 : ((-1) : Int) ≤ zg161_ze ∧ zg161_ze ≤ 500 := (b0_42 hT :); have ob43 : ((-1) : Int) ≤ (th 43) ∧ (th 43) ≤ 1 := (b0_43 hT :); obtain ⟨o0a, o0b⟩ := (eL7R : In _ _ _); obtain ⟨o1a, o1b⟩ := (hb15 : In _ _ _); obtain ⟨o2a, o2b⟩ := (hv2_59 : In _ _ _); obtain ⟨o3a, o3b⟩ := (hv3_59 : In _ _ _); obtain ⟨o4a, o4b⟩ := (hb217 : In _ _ _); obtain ⟨o5a, o5b⟩ := (hv5_59 : In _ _ _); obtain ⟨o6a, o6b⟩ := (hv6_59 : In _ _ _); obtain ⟨o7a, o7b⟩ := (hv8_59 : In _ _ _); obtain ⟨o8a, o8b⟩ := (hv9_59 : In _ _ _); obtain ⟨o9a, o9b⟩ := (hv13_59 : In _ _ _); obtain ⟨o10a, o10b⟩ := (hb13 : In _ _ _); omega)), TI.cast hT (by funext q; by_cases hq0 : q = 42; (subst hq0; rfl); by_cases hq1 : q = 41; (subst hq1; rfl); by_cases hq2 : q = 40; (subst hq2; rfl); by_cases hq3 : q = 37; (subst hq3; rfl); by_cases hq4 : q = 36; (subst hq4; rfl); simp only [gset, if_neg hq0, if_neg hq1, if_neg hq2, if_neg hq3, if_neg hq4])⟩, hfr⟩) dX11_planLine_170
          have hJ160 : ∀ (zg160_za : Int) (zg160_zr : Int) (zg160_zl : Int) (zg160_ze : Int) (f_160 : HP) (H : Heap) (locs : List Loc) (ls : Array Slot), th 37 ≤ zg160_za ∧ zg160_za ≤ 500 → va_P g.1 vwCl (va_pl L f_160) H → va_D A (va_pl L f_160) → va_S A s.heap H locs → TI g ad (gset (gset (gset (gset th 37 zg160_za) 40 zg160_zr) 41 zg160_zl) 42 zg160_ze) f_160 → (∀ b, b ≠ (ad 255) → b ≠ (ad 259) → f_160 b = f b) → f_160 (ad 259) = .inl (g.2.1 0, 100, .inl (r48)) → lv_has ls 3 [(0, .ref (ad 255)), (1, .int r3), (2, .int x14)] → W p l e rm_X11_planLine s m [.ref (ad 255)].toArray below meth c H locs 0 0 (MQ below (va_Qv (po_X11_planLine g ad th L f ) (PstB g A) A) [.ref (ad 255)].toArray s rm_X11_planLine.cells rm_X11_planLine.slots A) (F0 m 160 ls [.int x51, .ref (ad 259)]) := by
            intro zg160_za zg160_zr zg160_zl zg160_ze f_160 H locs ls hzg160 hP hD hS hT hfr hf218 hl
            refine lv_iconst (v := (-1)) hx hb dX11_planLine_160 (by decide) ?_
            exact hJ161 zg160_za zg160_zr zg160_zl zg160_ze (-1) _ _ _ _ (show th 37 ≤ zg160_za ∧ zg160_za ≤ 500 from (by have ob13 : (0 : Int) ≤ (th 13) ∧ (th 13) ≤ 500 := (b0_13 hT :); have ob35 : (0 : Int) ≤ (th 35) ∧ (th 35) ≤ 63 := (b0_35 hT :); have ob36 : (0 : Int) ≤ (th 36) ∧ (th 36) ≤ 20 := (b0_36 hT :); have ob37 : (0 : Int) ≤ zg160_za ∧ zg160_za ≤ 500 := (b0_37 hT :); have ob40 : (0 : Int) ≤ zg160_zr ∧ zg160_zr ≤ 500 := (b0_40 hT :); have ob41 : (0 : Int) ≤ zg160_zl ∧ zg160_zl ≤ 500 := (b0_41 hT :); have ob42 : ((-1) : Int) ≤ zg160_ze ∧ zg160_ze ≤ 500 := (b0_42 hT :); have ob43 : ((-1) : Int) ≤ (th 43) ∧ (th 43) ≤ 1 := (b0_43 hT :); obtain ⟨o0a, o0b⟩ := (eL7R : In _ _ _); obtain ⟨o1a, o1b⟩ := (hb15 : In _ _ _); obtain ⟨o2a, o2b⟩ := (hb13 : In _ _ _); omega)) (⟨by decide, by decide⟩ : In (-1) (-1) 8) hP hD hS (TI.cast hT (by funext q; by_cases hq0 : q = 42; (subst hq0; rfl); by_cases hq1 : q = 41; (subst hq1; rfl); by_cases hq2 : q = 40; (subst hq2; rfl); by_cases hq3 : q = 37; (subst hq3; rfl); simp only [gset, if_neg hq0, if_neg hq1, if_neg hq2, if_neg hq3])) hfr hf218 (lv_sub hl [0, 1, 2] rfl)
          refine lv_icmp_ne (tgt := 160) hx hb dX11_planLine_138 (by decide) (fun c219 => ?_) (fun c219 => ?_)
          ·
            have ocm1 : ((-1) : Int32).toInt = (-1) := by decide
            have cc220 : v4_49.toInt ≠ ((-1) : Int32).toInt := i32_ne c219
            have hb221 : In v4_49 0 500 := In.ne1 hv4_49 (⟨by decide, by decide⟩ : In (-1) (-1) (-1)) cc220 (by decide) (by decide)
            exact hJ160 zg125_za zg125_zr zg125_zl zg125_ze _ _ _ _ (show th 37 ≤ zg125_za ∧ zg125_za ≤ 500 from (by have ob13 : (0 : Int) ≤ (th 13) ∧ (th 13) ≤ 500 := (b0_13 hT :); have ob35 : (0 : Int) ≤ (th 35) ∧ (th 35) ≤ 63 := (b0_35 hT :); have ob36 : (0 : Int) ≤ (th 36) ∧ (th 36) ≤ 20 := (b0_36 hT :); have ob37 : (0 : Int) ≤ zg125_za ∧ zg125_za ≤ 500 := (b0_37 hT :); have ob40 : (0 : Int) ≤ zg125_zr ∧ zg125_zr ≤ 500 := (b0_40 hT :); have ob41 : (0 : Int) ≤ zg125_zl ∧ zg125_zl ≤ 500 := (b0_41 hT :); have ob42 : ((-1) : Int) ≤ zg125_ze ∧ zg125_ze ≤ 500 := (b0_42 hT :); have ob43 : ((-1) : Int) ≤ (th 43) ∧ (th 43) ≤ 1 := (b0_43 hT :); obtain ⟨o0a, o0b⟩ := (eL7R : In _ _ _); obtain ⟨o1a, o1b⟩ := (hb15 : In _ _ _); obtain ⟨o2a, o2b⟩ := (hv2_49 : In _ _ _); obtain ⟨o3a, o3b⟩ := (hv3_49 : In _ _ _); obtain ⟨o4a, o4b⟩ := (hb221 : In _ _ _); obtain ⟨o5a, o5b⟩ := (hv5_49 : In _ _ _); obtain ⟨o6a, o6b⟩ := (hv6_49 : In _ _ _); obtain ⟨o7a, o7b⟩ := (hv8_49 : In _ _ _); obtain ⟨o8a, o8b⟩ := (hv9_49 : In _ _ _); obtain ⟨o9a, o9b⟩ := (hv13_49 : In _ _ _); obtain ⟨o10a, o10b⟩ := (hb13 : In _ _ _); omega)) hP hD hS (TI.cast hT (by funext q; by_cases hq0 : q = 42; (subst hq0; rfl); by_cases hq1 : q = 41; (subst hq1; rfl); by_cases hq2 : q = 40; (subst hq2; rfl); by_cases hq3 : q = 37; (subst hq3; rfl); simp only [gset, if_neg hq0, if_neg hq1, if_neg hq2, if_neg hq3])) hfr hf46 (lv_sub hl [0, 1, 2] rfl)
          ·
            have ocm1 : ((-1) : Int32).toInt = (-1) := by decide
            have cc222 : v4_49.toInt = ((-1) : Int32).toInt := congrArg Int32.toInt c219
            have hb223 : In v4_49 (-1) (-1) := In.eq1 hv4_49 (⟨by decide, by decide⟩ : In (-1) (-1) (-1)) cc222 (by decide) (by decide)
            refine lv_aload_n hx hb dX11_planLine_141 rfl (lv_at hl 0 rfl) ?_
            refine va_ldcS hx hb hown (hG.2.2.1 ("RulerWordModel", 193, "to", 11) (by decide +kernel)) dX11_planLine_142 ?_
            refine call_i (run_V (rm := rm_X11_takes) hx hb hml hown hts (s_X11_takes l g ad (gset (gset (gset (gset th 37 zg125_za) 40 zg125_zr) 41 zg125_zl) 42 zg125_ze) _ _ _ 11 hst hT (by decide)) cV_X11_takes wg_1538 ⟨Nat.le_of_ble_eq_true rfl, Nat.le_of_ble_eq_true rfl⟩ hG hE hA hP hD hS (hst.1 255 (by decide)) hf50 rfl rfl hl.1 (As := [.ref (g.2.2.1 11)]) (rest := [.int x51, .ref (ad 259)]) rfl (Nat.le_of_ble_eq_true rfl) dX11_planLine_144 ⟨Nat.le_of_ble_eq_true rfl, Nat.le_of_ble_eq_true rfl⟩) hA hD hS (fun r224 L225 f226 H locs hp227 hP hD hS => ?_)
            obtain ⟨eL228L, eL228T, eL228F, eL228R⟩ := hp227
            have eL228L : L225 = L := eL228L
            rw [eL228L] at hP hD
            obtain ⟨zz229, hzz229, eL228T⟩ := eL228T
            have hzz229 : zg125_za ≤ zz229 ∧ zz229 ≤ 500 := hzz229
            have hT : TI g ad (gset (gset (gset (gset (gset th 37 zg125_za) 40 zg125_zr) 41 zg125_zl) 42 zg125_ze) 37 zz229) f226 := eL228T
            have hT : TI g ad (gset (gset (gset (gset th 40 zg125_zr) 41 zg125_zl) 42 zg125_ze) 37 zz229) f226 := TI.cast hT (by funext q; by_cases hq0 : q = 37; (subst hq0; rfl); by_cases hq1 : q = 42; (subst hq1; rfl); by_cases hq2 : q = 41; (subst hq2; rfl); by_cases hq3 : q = 40; (subst hq3; rfl); simp only [gset, if_neg hq0, if_neg hq1, if_neg hq2, if_neg hq3])
            have eL228F : ∀ b, b ≠ (ad 255) → f226 b = f45 b := eL228F
            have hf230 := (eL228F (ad 259) (hst.ne (by decide) (by decide) (by decide))).trans hf46
            have hfr : (∀ b, b ≠ (ad 255) → b ≠ (ad 259) → f226 b = f b) := fun b z0_ z1_ => (eL228F b z0_).trans (hfr b z0_ z1_)
            have eL228R : In r224 0 1 := eL228R
            refine lv_if_eq (tgt := 160) hx hb dX11_planLine_147 (by decide) (fun c231 => ?_) (fun c231 => ?_)
            ·
              have oc0 : (0 : Int32).toInt = 0 := by decide
              have cc232 : r224.toInt = (0 : Int32).toInt := congrArg Int32.toInt c231
              have hb233 : In r224 0 0 := In.eq1 eL228R (⟨by decide, by decide⟩ : In 0 0 0) cc232 (by decide) (by decide)
              exact hJ160 zz229 zg125_zr zg125_zl zg125_ze _ _ _ _ (show th 37 ≤ zz229 ∧ zz229 ≤ 500 from (by have ob13 : (0 : Int) ≤ (th 13) ∧ (th 13) ≤ 500 := (b0_13 hT :); have ob35 : (0 : Int) ≤ (th 35) ∧ (th 35) ≤ 63 := (b0_35 hT :); have ob36 : (0 : Int) ≤ (th 36) ∧ (th 36) ≤ 20 := (b0_36 hT :); have ob37 : (0 : Int) ≤ zz229 ∧ zz229 ≤ 500 := (b0_37 hT :); have ob40 : (0 : Int) ≤ zg125_zr ∧ zg125_zr ≤ 500 := (b0_40 hT :); have ob41 : (0 : Int) ≤ zg125_zl ∧ zg125_zl ≤ 500 := (b0_41 hT :); have ob42 : ((-1) : Int) ≤ zg125_ze ∧ zg125_ze ≤ 500 := (b0_42 hT :); have ob43 : ((-1) : Int) ≤ (th 43) ∧ (th 43) ≤ 1 := (b0_43 hT :); obtain ⟨o0a, o0b⟩ := (eL7R : In _ _ _); obtain ⟨o1a, o1b⟩ := (hb15 : In _ _ _); obtain ⟨o2a, o2b⟩ := (hb13 : In _ _ _); omega)) hP hD hS (TI.cast hT (by funext q; by_cases hq0 : q = 37; (subst hq0; rfl); by_cases hq1 : q = 42; (subst hq1; rfl); by_cases hq2 : q = 41; (subst hq2; rfl); by_cases hq3 : q = 40; (subst hq3; rfl); simp only [gset, if_neg hq0, if_neg hq1, if_neg hq2, if_neg hq3])) hfr hf230 (lv_sub hl [0, 1, 2] rfl)
            ·
              have oc0 : (0 : Int32).toInt = 0 := by decide
              have cc234 : r224.toInt ≠ (0 : Int32).toInt := i32_ne c231
              have hb235 : In r224 1 1 := In.ne1 eL228R (⟨by decide, by decide⟩ : In 0 0 0) cc234 (by decide) (by decide)
              refine lv_aload_n hx hb dX11_planLine_150 rfl (lv_at hl 0 rfl) ?_
              refine lv_iconst (v := 0) hx hb dX11_planLine_151 (by decide) ?_
              refine lv_bipush (v := 8) hx hb dX11_planLine_152 (by decide) ?_
              refine M0e hT (fun v0_236 v2_236 v3_236 v4_236 v5_236 v6_236 v8_236 v9_236 v12_236 v13_236 v14_236 v15_236 v16_236 v17_236 v18_236 v19_236 v20_236 v21_236 v22_236 v23_236 v25_236 v36_236 v37_236 v38_236 v39_236 v40_236 v45_236 v46_236 v47_236 v48_236 v50_236 v51_236 v53_236 v55_236 hf237 hv0_236 hv2_236 hg2_236 hv3_236 hg3_236 hv4_236 hg4_236 hv5_236 hg5_236 hv6_236 hg6_236 hv8_236 hg8_236 hv9_236 hg9_236 hv12_236 hv13_236 hg13_236 hv14_236 hg14_236 hv15_236 hg15_236 hv17_236 hg17_236 hv20_236 hg20_236 hv23_236 hg23_236 hv25_236 hg25_236 hv36_236 hg36_236 hv47_236 hg47_236 hv48_236 hg48_236 hv53_236 hg53_236 hv55_236 hg55_236 hrel0_236 => ?_)
              have hg15_236 : v15_236.toInt = th 11 := hg15_236
              have hg17_236 : v17_236.toInt = th 12 := hg17_236
              have hg20_236 : v20_236.toInt = th 14 := hg20_236
              refine call_i (run_V (rm := rm_X11_digit_0_8) hx hb hml hown hts (s_X11_digit_0_8 l g ad (gset (gset (gset (gset th 40 zg125_zr) 41 zg125_zl) 42 zg125_ze) 37 zz229) _ _ _  hst hT ) cV_X11_digit wg_1566 ⟨Nat.le_of_ble_eq_true rfl, Nat.le_of_ble_eq_true rfl⟩ hG hE hA hP hD hS (hst.1 255 (by decide)) hf237 rfl rfl hl.1 (As := [.int 0, .int 8]) (rest := [.int x51, .ref (ad 259)]) rfl (Nat.le_of_ble_eq_true rfl) dX11_planLine_154 ⟨Nat.le_of_ble_eq_true rfl, Nat.le_of_ble_eq_true rfl⟩) hA hD hS (fun r238 L239 f240 H locs hp241 hP hD hS => ?_)
              obtain ⟨eL242L, eL242T, eL242F, eL242R⟩ := hp241
              have eL242L : L239 = L := eL242L
              rw [eL242L] at hP hD
              obtain ⟨zz243, zz244, zz245, zz246, hzz243, eL242T⟩ := eL242T
              have hzz243 : (zz229 ≤ zz244 ∧ 0 ≤ zz244 ∧ 0 ≤ zz245 ∧ zz244 + zz245 = zz243 ∧ zz243 ≤ 500) := hzz243
              have hT : TI g ad (gset (gset (gset (gset (gset (gset (gset (gset th 40 zg125_zr) 41 zg125_zl) 42 zg125_ze) 37 zz229) 37 zz243) 40 zz244) 41 zz245) 42 zz246) f240 := eL242T
              have hT : TI g ad (gset (gset (gset (gset th 37 zz243) 40 zz244) 41 zz245) 42 zz246) f240 := TI.cast hT (by funext q; by_cases hq0 : q = 42; (subst hq0; rfl); by_cases hq1 : q = 41; (subst hq1; rfl); by_cases hq2 : q = 40; (subst hq2; rfl); by_cases hq3 : q = 37; (subst hq3; rfl); simp only [gset, if_neg hq0, if_neg hq1, if_neg hq2, if_neg hq3])
              have eL242F : ∀ b, b ≠ (ad 255) → f240 b = f226 b := eL242F
              have hf247 := (eL242F (ad 259) (hst.ne (by decide) (by decide) (by decide))).trans hf230
              have hfr : (∀ b, b ≠ (ad 255) → b ≠ (ad 259) → f240 b = f b) := fun b z0_ z1_ => (eL242F b z0_).trans (hfr b z0_ z1_)
              have eL242R : In r238 0 8 := eL242R
              refine lv_goto (tgt := 161) hx hb dX11_planLine_157 (by decide) ?_
              exact hJ161 zz243 zz244 zz245 zz246 r238 _ _ _ _ (show th 37 ≤ zz243 ∧ zz243 ≤ 500 from (by have ob13 : (0 : Int) ≤ (th 13) ∧ (th 13) ≤ 500 := (b0_13 hT :); have ob35 : (0 : Int) ≤ (th 35) ∧ (th 35) ≤ 63 := (b0_35 hT :); have ob36 : (0 : Int) ≤ (th 36) ∧ (th 36) ≤ 20 := (b0_36 hT :); have ob37 : (0 : Int) ≤ zz243 ∧ zz243 ≤ 500 := (b0_37 hT :); have ob40 : (0 : Int) ≤ zz244 ∧ zz244 ≤ 500 := (b0_40 hT :); have ob41 : (0 : Int) ≤ zz245 ∧ zz245 ≤ 500 := (b0_41 hT :); have ob42 : ((-1) : Int) ≤ zz246 ∧ zz246 ≤ 500 := (b0_42 hT :); have ob43 : ((-1) : Int) ≤ (th 43) ∧ (th 43) ≤ 1 := (b0_43 hT :); obtain ⟨o0a, o0b⟩ := (eL7R : In _ _ _); obtain ⟨o1a, o1b⟩ := (hb15 : In _ _ _); obtain ⟨o2a, o2b⟩ := (hb13 : In _ _ _); omega)) (In.mono eL242R (by decide) (by decide)) hP hD hS (TI.cast hT (by funext q; by_cases hq0 : q = 42; (subst hq0; rfl); by_cases hq1 : q = 41; (subst hq1; rfl); by_cases hq2 : q = 40; (subst hq2; rfl); by_cases hq3 : q = 37; (subst hq3; rfl); simp only [gset, if_neg hq0, if_neg hq1, if_neg hq2, if_neg hq3])) hfr hf247 (lv_sub hl [0, 1, 2] rfl)
        have hJ124 : ∀ (zg124_za : Int) (zg124_zr : Int) (zg124_zl : Int) (zg124_ze : Int) (f_124 : HP) (H : Heap) (locs : List Loc) (ls : Array Slot), th 37 ≤ zg124_za ∧ zg124_za ≤ 500 → va_P g.1 vwCl (va_pl L f_124) H → va_D A (va_pl L f_124) → va_S A s.heap H locs → TI g ad (gset (gset (gset (gset th 37 zg124_za) 40 zg124_zr) 41 zg124_zl) 42 zg124_ze) f_124 → (∀ b, b ≠ (ad 255) → b ≠ (ad 259) → f_124 b = f b) → f_124 (ad 259) = .inl (g.2.1 0, 100, .inl (r38)) → lv_has ls 3 [(0, .ref (ad 255)), (1, .int r3), (2, .int x14)] → W p l e rm_X11_planLine s m [.ref (ad 255)].toArray below meth c H locs 0 0 (MQ below (va_Qv (po_X11_planLine g ad th L f ) (PstB g A) A) [.ref (ad 255)].toArray s rm_X11_planLine.cells rm_X11_planLine.slots A) (F0 m 124 ls [.int x41, .ref (ad 259)]) := by
          intro zg124_za zg124_zr zg124_zl zg124_ze f_124 H locs ls hzg124 hP hD hS hT hfr hf248 hl
          refine lv_iconst (v := (-1)) hx hb dX11_planLine_124 (by decide) ?_
          exact hJ125 zg124_za zg124_zr zg124_zl zg124_ze (-1) _ _ _ _ (show th 37 ≤ zg124_za ∧ zg124_za ≤ 500 from (by have ob13 : (0 : Int) ≤ (th 13) ∧ (th 13) ≤ 500 := (b0_13 hT :); have ob35 : (0 : Int) ≤ (th 35) ∧ (th 35) ≤ 63 := (b0_35 hT :); have ob36 : (0 : Int) ≤ (th 36) ∧ (th 36) ≤ 20 := (b0_36 hT :); have ob37 : (0 : Int) ≤ zg124_za ∧ zg124_za ≤ 500 := (b0_37 hT :); have ob40 : (0 : Int) ≤ zg124_zr ∧ zg124_zr ≤ 500 := (b0_40 hT :); have ob41 : (0 : Int) ≤ zg124_zl ∧ zg124_zl ≤ 500 := (b0_41 hT :); have ob42 : ((-1) : Int) ≤ zg124_ze ∧ zg124_ze ≤ 500 := (b0_42 hT :); have ob43 : ((-1) : Int) ≤ (th 43) ∧ (th 43) ≤ 1 := (b0_43 hT :); obtain ⟨o0a, o0b⟩ := (eL7R : In _ _ _); obtain ⟨o1a, o1b⟩ := (hb15 : In _ _ _); obtain ⟨o2a, o2b⟩ := (hb13 : In _ _ _); omega)) (⟨by decide, by decide⟩ : In (-1) (-1) 8) hP hD hS (TI.cast hT (by funext q; by_cases hq0 : q = 42; (subst hq0; rfl); by_cases hq1 : q = 41; (subst hq1; rfl); by_cases hq2 : q = 40; (subst hq2; rfl); by_cases hq3 : q = 37; (subst hq3; rfl); simp only [gset, if_neg hq0, if_neg hq1, if_neg hq2, if_neg hq3])) hfr hf248 (lv_sub hl [0, 1, 2] rfl)
        refine lv_icmp_ne (tgt := 124) hx hb dX11_planLine_102 (by decide) (fun c249 => ?_) (fun c249 => ?_)
        ·
          have ocm1 : ((-1) : Int32).toInt = (-1) := by decide
          have cc250 : v4_39.toInt ≠ ((-1) : Int32).toInt := i32_ne c249
          have hb251 : In v4_39 0 500 := In.ne1 hv4_39 (⟨by decide, by decide⟩ : In (-1) (-1) (-1)) cc250 (by decide) (by decide)
          exact hJ124 zg89_za zg89_zr zg89_zl zg89_ze _ _ _ _ (show th 37 ≤ zg89_za ∧ zg89_za ≤ 500 from (by have ob13 : (0 : Int) ≤ (th 13) ∧ (th 13) ≤ 500 := (b0_13 hT :); have ob35 : (0 : Int) ≤ (th 35) ∧ (th 35) ≤ 63 := (b0_35 hT :); have ob36 : (0 : Int) ≤ (th 36) ∧ (th 36) ≤ 20 := (b0_36 hT :); have ob37 : (0 : Int) ≤ zg89_za ∧ zg89_za ≤ 500 := (b0_37 hT :); have ob40 : (0 : Int) ≤ zg89_zr ∧ zg89_zr ≤ 500 := (b0_40 hT :); have ob41 : (0 : Int) ≤ zg89_zl ∧ zg89_zl ≤ 500 := (b0_41 hT :); have ob42 : ((-1) : Int) ≤ zg89_ze ∧ zg89_ze ≤ 500 := (b0_42 hT :); have ob43 : ((-1) : Int) ≤ (th 43) ∧ (th 43) ≤ 1 := (b0_43 hT :); obtain ⟨o0a, o0b⟩ := (eL7R : In _ _ _); obtain ⟨o1a, o1b⟩ := (hb15 : In _ _ _); obtain ⟨o2a, o2b⟩ := (hv2_39 : In _ _ _); obtain ⟨o3a, o3b⟩ := (hv3_39 : In _ _ _); obtain ⟨o4a, o4b⟩ := (hb251 : In _ _ _); obtain ⟨o5a, o5b⟩ := (hv5_39 : In _ _ _); obtain ⟨o6a, o6b⟩ := (hv6_39 : In _ _ _); obtain ⟨o7a, o7b⟩ := (hv8_39 : In _ _ _); obtain ⟨o8a, o8b⟩ := (hv9_39 : In _ _ _); obtain ⟨o9a, o9b⟩ := (hv13_39 : In _ _ _); obtain ⟨o10a, o10b⟩ := (hb13 : In _ _ _); omega)) hP hD hS (TI.cast hT (by funext q; by_cases hq0 : q = 42; (subst hq0; rfl); by_cases hq1 : q = 41; (subst hq1; rfl); by_cases hq2 : q = 40; (subst hq2; rfl); by_cases hq3 : q = 37; (subst hq3; rfl); simp only [gset, if_neg hq0, if_neg hq1, if_neg hq2, if_neg hq3])) hfr hf36 (lv_sub hl [0, 1, 2] rfl)
        ·
          have ocm1 : ((-1) : Int32).toInt = (-1) := by decide
          have cc252 : v4_39.toInt = ((-1) : Int32).toInt := congrArg Int32.toInt c249
          have hb253 : In v4_39 (-1) (-1) := In.eq1 hv4_39 (⟨by decide, by decide⟩ : In (-1) (-1) (-1)) cc252 (by decide) (by decide)
          refine lv_aload_n hx hb dX11_planLine_105 rfl (lv_at hl 0 rfl) ?_
          refine va_ldcS hx hb hown (hG.2.2.1 ("RulerWordModel", 191, "from", 10) (by decide +kernel)) dX11_planLine_106 ?_
          refine call_i (run_V (rm := rm_X11_takes) hx hb hml hown hts (s_X11_takes l g ad (gset (gset (gset (gset th 37 zg89_za) 40 zg89_zr) 41 zg89_zl) 42 zg89_ze) _ _ _ 10 hst hT (by decide)) cV_X11_takes wg_1538 ⟨Nat.le_of_ble_eq_true rfl, Nat.le_of_ble_eq_true rfl⟩ hG hE hA hP hD hS (hst.1 255 (by decide)) hf40 rfl rfl hl.1 (As := [.ref (g.2.2.1 10)]) (rest := [.int x41, .ref (ad 259)]) rfl (Nat.le_of_ble_eq_true rfl) dX11_planLine_108 ⟨Nat.le_of_ble_eq_true rfl, Nat.le_of_ble_eq_true rfl⟩) hA hD hS (fun r254 L255 f256 H locs hp257 hP hD hS => ?_)
          obtain ⟨eL258L, eL258T, eL258F, eL258R⟩ := hp257
          have eL258L : L255 = L := eL258L
          rw [eL258L] at hP hD
          obtain ⟨zz259, hzz259, eL258T⟩ := eL258T
          have hzz259 : zg89_za ≤ zz259 ∧ zz259 ≤ 500 := hzz259
          have hT : TI g ad (gset (gset (gset (gset (gset th 37 zg89_za) 40 zg89_zr) 41 zg89_zl) 42 zg89_ze) 37 zz259) f256 := eL258T
          have hT : TI g ad (gset (gset (gset (gset th 40 zg89_zr) 41 zg89_zl) 42 zg89_ze) 37 zz259) f256 := TI.cast hT (by funext q; by_cases hq0 : q = 37; (subst hq0; rfl); by_cases hq1 : q = 42; (subst hq1; rfl); by_cases hq2 : q = 41; (subst hq2; rfl); by_cases hq3 : q = 40; (subst hq3; rfl); simp only [gset, if_neg hq0, if_neg hq1, if_neg hq2, if_neg hq3])
          have eL258F : ∀ b, b ≠ (ad 255) → f256 b = f35 b := eL258F
          have hf260 := (eL258F (ad 259) (hst.ne (by decide) (by decide) (by decide))).trans hf36
          have hfr : (∀ b, b ≠ (ad 255) → b ≠ (ad 259) → f256 b = f b) := fun b z0_ z1_ => (eL258F b z0_).trans (hfr b z0_ z1_)
          have eL258R : In r254 0 1 := eL258R
          refine lv_if_eq (tgt := 124) hx hb dX11_planLine_111 (by decide) (fun c261 => ?_) (fun c261 => ?_)
          ·
            have oc0 : (0 : Int32).toInt = 0 := by decide
            have cc262 : r254.toInt = (0 : Int32).toInt := congrArg Int32.toInt c261
            have hb263 : In r254 0 0 := In.eq1 eL258R (⟨by decide, by decide⟩ : In 0 0 0) cc262 (by decide) (by decide)
            exact hJ124 zz259 zg89_zr zg89_zl zg89_ze _ _ _ _ (show th 37 ≤ zz259 ∧ zz259 ≤ 500 from (by have ob13 : (0 : Int) ≤ (th 13) ∧ (th 13) ≤ 500 := (b0_13 hT :); have ob35 : (0 : Int) ≤ (th 35) ∧ (th 35) ≤ 63 := (b0_35 hT :); have ob36 : (0 : Int) ≤ (th 36) ∧ (th 36) ≤ 20 := (b0_36 hT :); have ob37 : (0 : Int) ≤ zz259 ∧ zz259 ≤ 500 := (b0_37 hT :); have ob40 : (0 : Int) ≤ zg89_zr ∧ zg89_zr ≤ 500 := (b0_40 hT :); have ob41 : (0 : Int) ≤ zg89_zl ∧ zg89_zl ≤ 500 := (b0_41 hT :); have ob42 : ((-1) : Int) ≤ zg89_ze ∧ zg89_ze ≤ 500 := (b0_42 hT :); have ob43 : ((-1) : Int) ≤ (th 43) ∧ (th 43) ≤ 1 := (b0_43 hT :); obtain ⟨o0a, o0b⟩ := (eL7R : In _ _ _); obtain ⟨o1a, o1b⟩ := (hb15 : In _ _ _); obtain ⟨o2a, o2b⟩ := (hb13 : In _ _ _); omega)) hP hD hS (TI.cast hT (by funext q; by_cases hq0 : q = 37; (subst hq0; rfl); by_cases hq1 : q = 42; (subst hq1; rfl); by_cases hq2 : q = 41; (subst hq2; rfl); by_cases hq3 : q = 40; (subst hq3; rfl); simp only [gset, if_neg hq0, if_neg hq1, if_neg hq2, if_neg hq3])) hfr hf260 (lv_sub hl [0, 1, 2] rfl)
          ·
            have oc0 : (0 : Int32).toInt = 0 := by decide
            have cc264 : r254.toInt ≠ (0 : Int32).toInt := i32_ne c261
            have hb265 : In r254 1 1 := In.ne1 eL258R (⟨by decide, by decide⟩ : In 0 0 0) cc264 (by decide) (by decide)
            refine lv_aload_n hx hb dX11_planLine_114 rfl (lv_at hl 0 rfl) ?_
            refine lv_iconst (v := 0) hx hb dX11_planLine_115 (by decide) ?_
            refine lv_bipush (v := 8) hx hb dX11_planLine_116 (by decide) ?_
            refine M0e hT (fun v0_266 v2_266 v3_266 v4_266 v5_266 v6_266 v8_266 v9_266 v12_266 v13_266 v14_266 v15_266 v16_266 v17_266 v18_266 v19_266 v20_266 v21_266 v22_266 v23_266 v25_266 v36_266 v37_266 v38_266 v39_266 v40_266 v45_266 v46_266 v47_266 v48_266 v50_266 v51_266 v53_266 v55_266 hf267 hv0_266 hv2_266 hg2_266 hv3_266 hg3_266 hv4_266 hg4_266 hv5_266 hg5_266 hv6_266 hg6_266 hv8_266 hg8_266 hv9_266 hg9_266 hv12_266 hv13_266 hg13_266 hv14_266 hg14_266 hv15_266 hg15_266 hv17_266 hg17_266 hv20_266 hg20_266 hv23_266 hg23_266 hv25_266 hg25_266 hv36_266 hg36_266 hv47_266 hg47_266 hv48_266 hg48_266 hv53_266 hg53_266 hv55_266 hg55_266 hrel0_266 => ?_)
            have hg15_266 : v15_266.toInt = th 11 := hg15_266
            have hg17_266 : v17_266.toInt = th 12 := hg17_266
            have hg20_266 : v20_266.toInt = th 14 := hg20_266
            refine call_i (run_V (rm := rm_X11_digit_0_8) hx hb hml hown hts (s_X11_digit_0_8 l g ad (gset (gset (gset (gset th 40 zg89_zr) 41 zg89_zl) 42 zg89_ze) 37 zz259) _ _ _  hst hT ) cV_X11_digit wg_1566 ⟨Nat.le_of_ble_eq_true rfl, Nat.le_of_ble_eq_true rfl⟩ hG hE hA hP hD hS (hst.1 255 (by decide)) hf267 rfl rfl hl.1 (As := [.int 0, .int 8]) (rest := [.int x41, .ref (ad 259)]) rfl (Nat.le_of_ble_eq_true rfl) dX11_planLine_118 ⟨Nat.le_of_ble_eq_true rfl, Nat.le_of_ble_eq_true rfl⟩) hA hD hS (fun r268 L269 f270 H locs hp271 hP hD hS => ?_)
            obtain ⟨eL272L, eL272T, eL272F, eL272R⟩ := hp271
            have eL272L : L269 = L := eL272L
            rw [eL272L] at hP hD
            obtain ⟨zz273, zz274, zz275, zz276, hzz273, eL272T⟩ := eL272T
            have hzz273 : (zz259 ≤ zz274 ∧ 0 ≤ zz274 ∧ 0 ≤ zz275 ∧ zz274 + zz275 = zz273 ∧ zz273 ≤ 500) := hzz273
            have hT : TI g ad (gset (gset (gset (gset (gset (gset (gset (gset th 40 zg89_zr) 41 zg89_zl) 42 zg89_ze) 37 zz259) 37 zz273) 40 zz274) 41 zz275) 42 zz276) f270 := eL272T
            have hT : TI g ad (gset (gset (gset (gset th 37 zz273) 40 zz274) 41 zz275) 42 zz276) f270 := TI.cast hT (by funext q; by_cases hq0 : q = 42; (subst hq0; rfl); by_cases hq1 : q = 41; (subst hq1; rfl); by_cases hq2 : q = 40; (subst hq2; rfl); by_cases hq3 : q = 37; (subst hq3; rfl); simp only [gset, if_neg hq0, if_neg hq1, if_neg hq2, if_neg hq3])
            have eL272F : ∀ b, b ≠ (ad 255) → f270 b = f256 b := eL272F
            have hf277 := (eL272F (ad 259) (hst.ne (by decide) (by decide) (by decide))).trans hf260
            have hfr : (∀ b, b ≠ (ad 255) → b ≠ (ad 259) → f270 b = f b) := fun b z0_ z1_ => (eL272F b z0_).trans (hfr b z0_ z1_)
            have eL272R : In r268 0 8 := eL272R
            refine lv_goto (tgt := 125) hx hb dX11_planLine_121 (by decide) ?_
            exact hJ125 zz273 zz274 zz275 zz276 r268 _ _ _ _ (show th 37 ≤ zz273 ∧ zz273 ≤ 500 from (by have ob13 : (0 : Int) ≤ (th 13) ∧ (th 13) ≤ 500 := (b0_13 hT :); have ob35 : (0 : Int) ≤ (th 35) ∧ (th 35) ≤ 63 := (b0_35 hT :); have ob36 : (0 : Int) ≤ (th 36) ∧ (th 36) ≤ 20 := (b0_36 hT :); have ob37 : (0 : Int) ≤ zz273 ∧ zz273 ≤ 500 := (b0_37 hT :); have ob40 : (0 : Int) ≤ zz274 ∧ zz274 ≤ 500 := (b0_40 hT :); have ob41 : (0 : Int) ≤ zz275 ∧ zz275 ≤ 500 := (b0_41 hT :); have ob42 : ((-1) : Int) ≤ zz276 ∧ zz276 ≤ 500 := (b0_42 hT :); have ob43 : ((-1) : Int) ≤ (th 43) ∧ (th 43) ≤ 1 := (b0_43 hT :); obtain ⟨o0a, o0b⟩ := (eL7R : In _ _ _); obtain ⟨o1a, o1b⟩ := (hb15 : In _ _ _); obtain ⟨o2a, o2b⟩ := (hb13 : In _ _ _); omega)) (In.mono eL272R (by decide) (by decide)) hP hD hS (TI.cast hT (by funext q; by_cases hq0 : q = 42; (subst hq0; rfl); by_cases hq1 : q = 41; (subst hq1; rfl); by_cases hq2 : q = 40; (subst hq2; rfl); by_cases hq3 : q = 37; (subst hq3; rfl); simp only [gset, if_neg hq0, if_neg hq1, if_neg hq2, if_neg hq3])) hfr hf277 (lv_sub hl [0, 1, 2] rfl)
      have hJ88 : ∀ (zg88_za : Int) (zg88_zr : Int) (zg88_zl : Int) (zg88_ze : Int) (f_88 : HP) (H : Heap) (locs : List Loc) (ls : Array Slot), th 37 ≤ zg88_za ∧ zg88_za ≤ 500 → va_P g.1 vwCl (va_pl L f_88) H → va_D A (va_pl L f_88) → va_S A s.heap H locs → TI g ad (gset (gset (gset (gset th 37 zg88_za) 40 zg88_zr) 41 zg88_zl) 42 zg88_ze) f_88 → (∀ b, b ≠ (ad 255) → b ≠ (ad 259) → f_88 b = f b) → f_88 (ad 259) = .inl (g.2.1 0, 100, .inl (r28)) → lv_has ls 3 [(0, .ref (ad 255)), (1, .int r3), (2, .int x14)] → W p l e rm_X11_planLine s m [.ref (ad 255)].toArray below meth c H locs 0 0 (MQ below (va_Qv (po_X11_planLine g ad th L f ) (PstB g A) A) [.ref (ad 255)].toArray s rm_X11_planLine.cells rm_X11_planLine.slots A) (F0 m 88 ls [.int x31, .ref (ad 259)]) := by
        intro zg88_za zg88_zr zg88_zl zg88_ze f_88 H locs ls hzg88 hP hD hS hT hfr hf278 hl
        refine lv_iconst (v := (-1)) hx hb dX11_planLine_88 (by decide) ?_
        exact hJ89 zg88_za zg88_zr zg88_zl zg88_ze (-1) _ _ _ _ (show th 37 ≤ zg88_za ∧ zg88_za ≤ 500 from (by have ob13 : (0 : Int) ≤ (th 13) ∧ (th 13) ≤ 500 := (b0_13 hT :); have ob35 : (0 : Int) ≤ (th 35) ∧ (th 35) ≤ 63 := (b0_35 hT :); have ob36 : (0 : Int) ≤ (th 36) ∧ (th 36) ≤ 20 := (b0_36 hT :); have ob37 : (0 : Int) ≤ zg88_za ∧ zg88_za ≤ 500 := (b0_37 hT :); have ob40 : (0 : Int) ≤ zg88_zr ∧ zg88_zr ≤ 500 := (b0_40 hT :); have ob41 : (0 : Int) ≤ zg88_zl ∧ zg88_zl ≤ 500 := (b0_41 hT :); have ob42 : ((-1) : Int) ≤ zg88_ze ∧ zg88_ze ≤ 500 := (b0_42 hT :); have ob43 : ((-1) : Int) ≤ (th 43) ∧ (th 43) ≤ 1 := (b0_43 hT :); obtain ⟨o0a, o0b⟩ := (eL7R : In _ _ _); obtain ⟨o1a, o1b⟩ := (hb15 : In _ _ _); obtain ⟨o2a, o2b⟩ := (hb13 : In _ _ _); omega)) (⟨by decide, by decide⟩ : In (-1) (-1) 2) hP hD hS (TI.cast hT (by funext q; by_cases hq0 : q = 42; (subst hq0; rfl); by_cases hq1 : q = 41; (subst hq1; rfl); by_cases hq2 : q = 40; (subst hq2; rfl); by_cases hq3 : q = 37; (subst hq3; rfl); simp only [gset, if_neg hq0, if_neg hq1, if_neg hq2, if_neg hq3])) hfr hf278 (lv_sub hl [0, 1, 2] rfl)
      refine lv_icmp_ne (tgt := 88) hx hb dX11_planLine_67 (by decide) (fun c279 => ?_) (fun c279 => ?_)
      ·
        have ocm1 : ((-1) : Int32).toInt = (-1) := by decide
        have cc280 : v4_29.toInt ≠ ((-1) : Int32).toInt := i32_ne c279
        have hb281 : In v4_29 0 500 := In.ne1 hv4_29 (⟨by decide, by decide⟩ : In (-1) (-1) (-1)) cc280 (by decide) (by decide)
        exact hJ88 zg54_za zg54_zr zg54_zl zg54_ze _ _ _ _ (show th 37 ≤ zg54_za ∧ zg54_za ≤ 500 from (by have ob13 : (0 : Int) ≤ (th 13) ∧ (th 13) ≤ 500 := (b0_13 hT :); have ob35 : (0 : Int) ≤ (th 35) ∧ (th 35) ≤ 63 := (b0_35 hT :); have ob36 : (0 : Int) ≤ (th 36) ∧ (th 36) ≤ 20 := (b0_36 hT :); have ob37 : (0 : Int) ≤ zg54_za ∧ zg54_za ≤ 500 := (b0_37 hT :); have ob40 : (0 : Int) ≤ zg54_zr ∧ zg54_zr ≤ 500 := (b0_40 hT :); have ob41 : (0 : Int) ≤ zg54_zl ∧ zg54_zl ≤ 500 := (b0_41 hT :); have ob42 : ((-1) : Int) ≤ zg54_ze ∧ zg54_ze ≤ 500 := (b0_42 hT :); have ob43 : ((-1) : Int) ≤ (th 43) ∧ (th 43) ≤ 1 := (b0_43 hT :); obtain ⟨o0a, o0b⟩ := (eL7R : In _ _ _); obtain ⟨o1a, o1b⟩ := (hb15 : In _ _ _); obtain ⟨o2a, o2b⟩ := (hv2_29 : In _ _ _); obtain ⟨o3a, o3b⟩ := (hv3_29 : In _ _ _); obtain ⟨o4a, o4b⟩ := (hb281 : In _ _ _); obtain ⟨o5a, o5b⟩ := (hv5_29 : In _ _ _); obtain ⟨o6a, o6b⟩ := (hv6_29 : In _ _ _); obtain ⟨o7a, o7b⟩ := (hv8_29 : In _ _ _); obtain ⟨o8a, o8b⟩ := (hv9_29 : In _ _ _); obtain ⟨o9a, o9b⟩ := (hv13_29 : In _ _ _); obtain ⟨o10a, o10b⟩ := (hb13 : In _ _ _); omega)) hP hD hS (TI.cast hT (by funext q; by_cases hq0 : q = 42; (subst hq0; rfl); by_cases hq1 : q = 41; (subst hq1; rfl); by_cases hq2 : q = 40; (subst hq2; rfl); by_cases hq3 : q = 37; (subst hq3; rfl); simp only [gset, if_neg hq0, if_neg hq1, if_neg hq2, if_neg hq3])) hfr hf26 (lv_sub hl [0, 1, 2] rfl)
      ·
        have ocm1 : ((-1) : Int32).toInt = (-1) := by decide
        have cc282 : v4_29.toInt = ((-1) : Int32).toInt := congrArg Int32.toInt c279
        have hb283 : In v4_29 (-1) (-1) := In.eq1 hv4_29 (⟨by decide, by decide⟩ : In (-1) (-1) (-1)) cc282 (by decide) (by decide)
        refine lv_aload_n hx hb dX11_planLine_70 rfl (lv_at hl 0 rfl) ?_
        refine va_ldcS hx hb hown (hG.2.2.1 ("RulerWordModel", 189, "round", 9) (by decide +kernel)) dX11_planLine_71 ?_
        refine call_i (run_V (rm := rm_X11_takes) hx hb hml hown hts (s_X11_takes l g ad (gset (gset (gset (gset th 37 zg54_za) 40 zg54_zr) 41 zg54_zl) 42 zg54_ze) _ _ _ 9 hst hT (by decide)) cV_X11_takes wg_1538 ⟨Nat.le_of_ble_eq_true rfl, Nat.le_of_ble_eq_true rfl⟩ hG hE hA hP hD hS (hst.1 255 (by decide)) hf30 rfl rfl hl.1 (As := [.ref (g.2.2.1 9)]) (rest := [.int x31, .ref (ad 259)]) rfl (Nat.le_of_ble_eq_true rfl) dX11_planLine_73 ⟨Nat.le_of_ble_eq_true rfl, Nat.le_of_ble_eq_true rfl⟩) hA hD hS (fun r284 L285 f286 H locs hp287 hP hD hS => ?_)
        obtain ⟨eL288L, eL288T, eL288F, eL288R⟩ := hp287
        have eL288L : L285 = L := eL288L
        rw [eL288L] at hP hD
        obtain ⟨zz289, hzz289, eL288T⟩ := eL288T
        have hzz289 : zg54_za ≤ zz289 ∧ zz289 ≤ 500 := hzz289
        have hT : TI g ad (gset (gset (gset (gset (gset th 37 zg54_za) 40 zg54_zr) 41 zg54_zl) 42 zg54_ze) 37 zz289) f286 := eL288T
        have hT : TI g ad (gset (gset (gset (gset th 40 zg54_zr) 41 zg54_zl) 42 zg54_ze) 37 zz289) f286 := TI.cast hT (by funext q; by_cases hq0 : q = 37; (subst hq0; rfl); by_cases hq1 : q = 42; (subst hq1; rfl); by_cases hq2 : q = 41; (subst hq2; rfl); by_cases hq3 : q = 40; (subst hq3; rfl); simp only [gset, if_neg hq0, if_neg hq1, if_neg hq2, if_neg hq3])
        have eL288F : ∀ b, b ≠ (ad 255) → f286 b = f25 b := eL288F
        have hf290 := (eL288F (ad 259) (hst.ne (by decide) (by decide) (by decide))).trans hf26
        have hfr : (∀ b, b ≠ (ad 255) → b ≠ (ad 259) → f286 b = f b) := fun b z0_ z1_ => (eL288F b z0_).trans (hfr b z0_ z1_)
        have eL288R : In r284 0 1 := eL288R
        refine lv_if_eq (tgt := 88) hx hb dX11_planLine_76 (by decide) (fun c291 => ?_) (fun c291 => ?_)
        ·
          have oc0 : (0 : Int32).toInt = 0 := by decide
          have cc292 : r284.toInt = (0 : Int32).toInt := congrArg Int32.toInt c291
          have hb293 : In r284 0 0 := In.eq1 eL288R (⟨by decide, by decide⟩ : In 0 0 0) cc292 (by decide) (by decide)
          exact hJ88 zz289 zg54_zr zg54_zl zg54_ze _ _ _ _ (show th 37 ≤ zz289 ∧ zz289 ≤ 500 from (by have ob13 : (0 : Int) ≤ (th 13) ∧ (th 13) ≤ 500 := (b0_13 hT :); have ob35 : (0 : Int) ≤ (th 35) ∧ (th 35) ≤ 63 := (b0_35 hT :); have ob36 : (0 : Int) ≤ (th 36) ∧ (th 36) ≤ 20 := (b0_36 hT :); have ob37 : (0 : Int) ≤ zz289 ∧ zz289 ≤ 500 := (b0_37 hT :); have ob40 : (0 : Int) ≤ zg54_zr ∧ zg54_zr ≤ 500 := (b0_40 hT :); have ob41 : (0 : Int) ≤ zg54_zl ∧ zg54_zl ≤ 500 := (b0_41 hT :); have ob42 : ((-1) : Int) ≤ zg54_ze ∧ zg54_ze ≤ 500 := (b0_42 hT :); have ob43 : ((-1) : Int) ≤ (th 43) ∧ (th 43) ≤ 1 := (b0_43 hT :); obtain ⟨o0a, o0b⟩ := (eL7R : In _ _ _); obtain ⟨o1a, o1b⟩ := (hb15 : In _ _ _); obtain ⟨o2a, o2b⟩ := (hb13 : In _ _ _); omega)) hP hD hS (TI.cast hT (by funext q; by_cases hq0 : q = 37; (subst hq0; rfl); by_cases hq1 : q = 42; (subst hq1; rfl); by_cases hq2 : q = 41; (subst hq2; rfl); by_cases hq3 : q = 40; (subst hq3; rfl); simp only [gset, if_neg hq0, if_neg hq1, if_neg hq2, if_neg hq3])) hfr hf290 (lv_sub hl [0, 1, 2] rfl)
        ·
          have oc0 : (0 : Int32).toInt = 0 := by decide
          have cc294 : r284.toInt ≠ (0 : Int32).toInt := i32_ne c291
          have hb295 : In r284 1 1 := In.ne1 eL288R (⟨by decide, by decide⟩ : In 0 0 0) cc294 (by decide) (by decide)
          refine lv_aload_n hx hb dX11_planLine_79 rfl (lv_at hl 0 rfl) ?_
          refine lv_iconst (v := 0) hx hb dX11_planLine_80 (by decide) ?_
          refine lv_iconst (v := 2) hx hb dX11_planLine_81 (by decide) ?_
          refine M0e hT (fun v0_296 v2_296 v3_296 v4_296 v5_296 v6_296 v8_296 v9_296 v12_296 v13_296 v14_296 v15_296 v16_296 v17_296 v18_296 v19_296 v20_296 v21_296 v22_296 v23_296 v25_296 v36_296 v37_296 v38_296 v39_296 v40_296 v45_296 v46_296 v47_296 v48_296 v50_296 v51_296 v53_296 v55_296 hf297 hv0_296 hv2_296 hg2_296 hv3_296 hg3_296 hv4_296 hg4_296 hv5_296 hg5_296 hv6_296 hg6_296 hv8_296 hg8_296 hv9_296 hg9_296 hv12_296 hv13_296 hg13_296 hv14_296 hg14_296 hv15_296 hg15_296 hv17_296 hg17_296 hv20_296 hg20_296 hv23_296 hg23_296 hv25_296 hg25_296 hv36_296 hg36_296 hv47_296 hg47_296 hv48_296 hg48_296 hv53_296 hg53_296 hv55_296 hg55_296 hrel0_296 => ?_)
          have hg15_296 : v15_296.toInt = th 11 := hg15_296
          have hg17_296 : v17_296.toInt = th 12 := hg17_296
          have hg20_296 : v20_296.toInt = th 14 := hg20_296
          refine call_i (run_V (rm := rm_X11_digit_0_2) hx hb hml hown hts (s_X11_digit_0_2 l g ad (gset (gset (gset (gset th 40 zg54_zr) 41 zg54_zl) 42 zg54_ze) 37 zz289) _ _ _  hst hT ) cV_X11_digit wg_1566 ⟨Nat.le_of_ble_eq_true rfl, Nat.le_of_ble_eq_true rfl⟩ hG hE hA hP hD hS (hst.1 255 (by decide)) hf297 rfl rfl hl.1 (As := [.int 0, .int 2]) (rest := [.int x31, .ref (ad 259)]) rfl (Nat.le_of_ble_eq_true rfl) dX11_planLine_82 ⟨Nat.le_of_ble_eq_true rfl, Nat.le_of_ble_eq_true rfl⟩) hA hD hS (fun r298 L299 f300 H locs hp301 hP hD hS => ?_)
          obtain ⟨eL302L, eL302T, eL302F, eL302R⟩ := hp301
          have eL302L : L299 = L := eL302L
          rw [eL302L] at hP hD
          obtain ⟨zz303, zz304, zz305, zz306, hzz303, eL302T⟩ := eL302T
          have hzz303 : (zz289 ≤ zz304 ∧ 0 ≤ zz304 ∧ 0 ≤ zz305 ∧ zz304 + zz305 = zz303 ∧ zz303 ≤ 500) := hzz303
          have hT : TI g ad (gset (gset (gset (gset (gset (gset (gset (gset th 40 zg54_zr) 41 zg54_zl) 42 zg54_ze) 37 zz289) 37 zz303) 40 zz304) 41 zz305) 42 zz306) f300 := eL302T
          have hT : TI g ad (gset (gset (gset (gset th 37 zz303) 40 zz304) 41 zz305) 42 zz306) f300 := TI.cast hT (by funext q; by_cases hq0 : q = 42; (subst hq0; rfl); by_cases hq1 : q = 41; (subst hq1; rfl); by_cases hq2 : q = 40; (subst hq2; rfl); by_cases hq3 : q = 37; (subst hq3; rfl); simp only [gset, if_neg hq0, if_neg hq1, if_neg hq2, if_neg hq3])
          have eL302F : ∀ b, b ≠ (ad 255) → f300 b = f286 b := eL302F
          have hf307 := (eL302F (ad 259) (hst.ne (by decide) (by decide) (by decide))).trans hf290
          have hfr : (∀ b, b ≠ (ad 255) → b ≠ (ad 259) → f300 b = f b) := fun b z0_ z1_ => (eL302F b z0_).trans (hfr b z0_ z1_)
          have eL302R : In r298 0 2 := eL302R
          refine lv_goto (tgt := 89) hx hb dX11_planLine_85 (by decide) ?_
          exact hJ89 zz303 zz304 zz305 zz306 r298 _ _ _ _ (show th 37 ≤ zz303 ∧ zz303 ≤ 500 from (by have ob13 : (0 : Int) ≤ (th 13) ∧ (th 13) ≤ 500 := (b0_13 hT :); have ob35 : (0 : Int) ≤ (th 35) ∧ (th 35) ≤ 63 := (b0_35 hT :); have ob36 : (0 : Int) ≤ (th 36) ∧ (th 36) ≤ 20 := (b0_36 hT :); have ob37 : (0 : Int) ≤ zz303 ∧ zz303 ≤ 500 := (b0_37 hT :); have ob40 : (0 : Int) ≤ zz304 ∧ zz304 ≤ 500 := (b0_40 hT :); have ob41 : (0 : Int) ≤ zz305 ∧ zz305 ≤ 500 := (b0_41 hT :); have ob42 : ((-1) : Int) ≤ zz306 ∧ zz306 ≤ 500 := (b0_42 hT :); have ob43 : ((-1) : Int) ≤ (th 43) ∧ (th 43) ≤ 1 := (b0_43 hT :); obtain ⟨o0a, o0b⟩ := (eL7R : In _ _ _); obtain ⟨o1a, o1b⟩ := (hb15 : In _ _ _); obtain ⟨o2a, o2b⟩ := (hb13 : In _ _ _); omega)) (In.mono eL302R (by decide) (by decide)) hP hD hS (TI.cast hT (by funext q; by_cases hq0 : q = 42; (subst hq0; rfl); by_cases hq1 : q = 41; (subst hq1; rfl); by_cases hq2 : q = 40; (subst hq2; rfl); by_cases hq3 : q = 37; (subst hq3; rfl); simp only [gset, if_neg hq0, if_neg hq1, if_neg hq2, if_neg hq3])) hfr hf307 (lv_sub hl [0, 1, 2] rfl)
    refine lv_if_eq (tgt := 53) hx hb dX11_planLine_41 (by decide) (fun c308 => ?_) (fun c308 => ?_)
    ·
      have oc0 : (0 : Int32).toInt = 0 := by decide
      have cc309 : r17.toInt = (0 : Int32).toInt := congrArg Int32.toInt c308
      have hb310 : In r17 0 0 := In.eq1 eL21R (⟨by decide, by decide⟩ : In 0 0 0) cc309 (by decide) (by decide)
      refine lv_iconst (v := (-1)) hx hb dX11_planLine_53 (by decide) ?_
      exact hJ54 zz22 (th 40) (th 41) (th 42) (-1) _ _ _ _ (show th 37 ≤ zz22 ∧ zz22 ≤ 500 from (by have ob13 : (0 : Int) ≤ (th 13) ∧ (th 13) ≤ 500 := (b0_13 hT :); have ob35 : (0 : Int) ≤ (th 35) ∧ (th 35) ≤ 63 := (b0_35 hT :); have ob36 : (0 : Int) ≤ (th 36) ∧ (th 36) ≤ 20 := (b0_36 hT :); have ob37 : (0 : Int) ≤ zz22 ∧ zz22 ≤ 500 := (b0_37 hT :); have ob40 : (0 : Int) ≤ (th 40) ∧ (th 40) ≤ 500 := (b0_40 hT :); have ob41 : (0 : Int) ≤ (th 41) ∧ (th 41) ≤ 500 := (b0_41 hT :); have ob42 : ((-1) : Int) ≤ (th 42) ∧ (th 42) ≤ 500 := (b0_42 hT :); have ob43 : ((-1) : Int) ≤ (th 43) ∧ (th 43) ≤ 1 := (b0_43 hT :); obtain ⟨o0a, o0b⟩ := (eL7R : In _ _ _); obtain ⟨o1a, o1b⟩ := (hb15 : In _ _ _); obtain ⟨o2a, o2b⟩ := (hb13 : In _ _ _); omega)) (⟨by decide, by decide⟩ : In (-1) (-1) 5) hP hD hS (TI.cast hT (by funext q; by_cases hq0 : q = 37; (subst hq0; rfl); by_cases hq1 : q = 40; (subst hq1; rfl); by_cases hq2 : q = 41; (subst hq2; rfl); by_cases hq3 : q = 42; (subst hq3; rfl); simp only [gset, if_neg hq0, if_neg hq1, if_neg hq2, if_neg hq3])) hfr (lv_sub hl [2, 1, 0] rfl)
    ·
      have oc0 : (0 : Int32).toInt = 0 := by decide
      have cc311 : r17.toInt ≠ (0 : Int32).toInt := i32_ne c308
      have hb312 : In r17 1 1 := In.ne1 eL21R (⟨by decide, by decide⟩ : In 0 0 0) cc311 (by decide) (by decide)
      refine lv_aload_n hx hb dX11_planLine_44 rfl (lv_at hl 2 rfl) ?_
      refine lv_iconst (v := 0) hx hb dX11_planLine_45 (by decide) ?_
      refine lv_iconst (v := 5) hx hb dX11_planLine_46 (by decide) ?_
      refine M0e hT (fun v0_313 v2_313 v3_313 v4_313 v5_313 v6_313 v8_313 v9_313 v12_313 v13_313 v14_313 v15_313 v16_313 v17_313 v18_313 v19_313 v20_313 v21_313 v22_313 v23_313 v25_313 v36_313 v37_313 v38_313 v39_313 v40_313 v45_313 v46_313 v47_313 v48_313 v50_313 v51_313 v53_313 v55_313 hf314 hv0_313 hv2_313 hg2_313 hv3_313 hg3_313 hv4_313 hg4_313 hv5_313 hg5_313 hv6_313 hg6_313 hv8_313 hg8_313 hv9_313 hg9_313 hv12_313 hv13_313 hg13_313 hv14_313 hg14_313 hv15_313 hg15_313 hv17_313 hg17_313 hv20_313 hg20_313 hv23_313 hg23_313 hv25_313 hg25_313 hv36_313 hg36_313 hv47_313 hg47_313 hv48_313 hg48_313 hv53_313 hg53_313 hv55_313 hg55_313 hrel0_313 => ?_)
      have hg15_313 : v15_313.toInt = th 11 := hg15_313
      have hg17_313 : v17_313.toInt = th 12 := hg17_313
      have hg20_313 : v20_313.toInt = th 14 := hg20_313
      refine call_i (run_V (rm := rm_X11_digit_0_5) hx hb hml hown hts (s_X11_digit_0_5 l g ad (gset th 37 zz22) _ _ _  hst hT ) cV_X11_digit wg_1566 ⟨Nat.le_of_ble_eq_true rfl, Nat.le_of_ble_eq_true rfl⟩ hG hE hA hP hD hS (hst.1 255 (by decide)) hf314 rfl rfl hl.1 (As := [.int 0, .int 5]) (rest := [.int x14, .ref (ad 259)]) rfl (Nat.le_of_ble_eq_true rfl) dX11_planLine_47 ⟨Nat.le_of_ble_eq_true rfl, Nat.le_of_ble_eq_true rfl⟩) hA hD hS (fun r315 L316 f317 H locs hp318 hP hD hS => ?_)
      obtain ⟨eL319L, eL319T, eL319F, eL319R⟩ := hp318
      have eL319L : L316 = L := eL319L
      rw [eL319L] at hP hD
      obtain ⟨zz320, zz321, zz322, zz323, hzz320, eL319T⟩ := eL319T
      have hzz320 : (zz22 ≤ zz321 ∧ 0 ≤ zz321 ∧ 0 ≤ zz322 ∧ zz321 + zz322 = zz320 ∧ zz320 ≤ 500) := hzz320
      have hT : TI g ad (gset (gset (gset (gset (gset th 37 zz22) 37 zz320) 40 zz321) 41 zz322) 42 zz323) f317 := eL319T
      have hT : TI g ad (gset (gset (gset (gset th 37 zz320) 40 zz321) 41 zz322) 42 zz323) f317 := TI.cast hT (by funext q; by_cases hq0 : q = 42; (subst hq0; rfl); by_cases hq1 : q = 41; (subst hq1; rfl); by_cases hq2 : q = 40; (subst hq2; rfl); by_cases hq3 : q = 37; (subst hq3; rfl); simp only [gset, if_neg hq0, if_neg hq1, if_neg hq2, if_neg hq3])
      have eL319F : ∀ b, b ≠ (ad 255) → f317 b = f19 b := eL319F
      have hfr : (∀ b, b ≠ (ad 255) → b ≠ (ad 259) → f317 b = f b) := fun b z0_ z1_ => (eL319F b z0_).trans (hfr b z0_ z1_)
      have eL319R : In r315 0 5 := eL319R
      refine lv_goto (tgt := 54) hx hb dX11_planLine_50 (by decide) ?_
      exact hJ54 zz320 zz321 zz322 zz323 r315 _ _ _ _ (show th 37 ≤ zz320 ∧ zz320 ≤ 500 from (by have ob13 : (0 : Int) ≤ (th 13) ∧ (th 13) ≤ 500 := (b0_13 hT :); have ob35 : (0 : Int) ≤ (th 35) ∧ (th 35) ≤ 63 := (b0_35 hT :); have ob36 : (0 : Int) ≤ (th 36) ∧ (th 36) ≤ 20 := (b0_36 hT :); have ob37 : (0 : Int) ≤ zz320 ∧ zz320 ≤ 500 := (b0_37 hT :); have ob40 : (0 : Int) ≤ zz321 ∧ zz321 ≤ 500 := (b0_40 hT :); have ob41 : (0 : Int) ≤ zz322 ∧ zz322 ≤ 500 := (b0_41 hT :); have ob42 : ((-1) : Int) ≤ zz323 ∧ zz323 ≤ 500 := (b0_42 hT :); have ob43 : ((-1) : Int) ≤ (th 43) ∧ (th 43) ≤ 1 := (b0_43 hT :); obtain ⟨o0a, o0b⟩ := (eL7R : In _ _ _); obtain ⟨o1a, o1b⟩ := (hb15 : In _ _ _); obtain ⟨o2a, o2b⟩ := (hb13 : In _ _ _); omega)) (In.mono eL319R (by decide) (by decide)) hP hD hS (TI.cast hT (by funext q; by_cases hq0 : q = 42; (subst hq0; rfl); by_cases hq1 : q = 41; (subst hq1; rfl); by_cases hq2 : q = 40; (subst hq2; rfl); by_cases hq3 : q = 37; (subst hq3; rfl); simp only [gset, if_neg hq0, if_neg hq1, if_neg hq2, if_neg hq3])) hfr (lv_sub hl [2, 1, 0] rfl)
  ·
    have oc20 : (20 : Int32).toInt = 20 := by decide
    have cc324 : v13_9.toInt = (20 : Int32).toInt := congrArg Int32.toInt c11
    have hb325 : In v13_9 20 20 := In.eq1 hv13_9 (⟨by decide, by decide⟩ : In 20 20 20) cc324 (by decide) (by decide)
    refine lv_aload_n hx hb dX11_planLine_14 rfl (lv_at hl 1 rfl) ?_
    refine lv_aload_n hx hb dX11_planLine_15 rfl (lv_at hl 1 rfl) ?_
    refine pl_get (v := .int v3_9) hx hb hts (fun w h => mT (inX11 w h)) hown hG.1 hP (hst.1 255 (by decide)) hf10 rfl 3 (by decide) (hts _ (mT wg_1339)) (fun _ h => h) rfl dX11_planLine_16 ?_
    have hg3_9 : v3_9.toInt = zz8 := hg3_9
    refine call_v (run_V (rm := rm_X11_fails) hx hb hml hown hts (s_X11_fails l g ad (gset th 37 zz8) _ _ _ v3_9 hst hT hv3_9) cV_X11_fails wg_1545 ⟨Nat.le_of_ble_eq_true rfl, Nat.le_of_ble_eq_true rfl⟩ hG hE hA hP hD hS (hst.1 255 (by decide)) hf10 rfl rfl hl.1 (As := [.int v3_9]) (rest := []) rfl (Nat.le_of_ble_eq_true rfl) dX11_planLine_19 ⟨Nat.le_of_ble_eq_true rfl, Nat.le_of_ble_eq_true rfl⟩) hA hD hS (fun L327 f328 H locs hp329 hP hD hS => ?_)
    obtain ⟨eL330L, eL330T, eL330F⟩ := hp329
    have eL330L : L327 = L := eL330L
    rw [eL330L] at hP hD
    obtain ⟨zz331, hzz331, eL330T⟩ := eL330T
    have hzz331 : 0 ≤ zz331 := hzz331
    have hT : TI g ad (gset (gset th 37 zz8) 42 zz331) f328 := eL330T
    have eL330F : ∀ b, b ≠ (ad 255) → f328 b = f5 b := eL330F
    have hfr : (∀ b, b ≠ (ad 255) → b ≠ (ad 259) → f328 b = f b) := fun b z0_ z1_ => (eL330F b z0_).trans (hfr b z0_ z1_)
    exact ret_v hx hb hr hlocks hP hD hS (Nat.le_of_ble_eq_true rfl) (Nat.le_of_ble_eq_true rfl) (⟨rfl, ⟨zz8, (th 40), (th 41), zz331, (th 36), (show th 37 ≤ zz8 ∧ zz8 ≤ 500 from (by have ob13 : (0 : Int) ≤ (th 13) ∧ (th 13) ≤ 500 := (b0_13 hT :); have ob35 : (0 : Int) ≤ (th 35) ∧ (th 35) ≤ 63 := (b0_35 hT :); have ob36 : (0 : Int) ≤ (th 36) ∧ (th 36) ≤ 20 := (b0_36 hT :); have ob37 : (0 : Int) ≤ zz8 ∧ zz8 ≤ 500 := (b0_37 hT :); have ob40 : (0 : Int) ≤ (th 40) ∧ (th 40) ≤ 500 := (b0_40 hT :); have ob41 : (0 : Int) ≤ (th 41) ∧ (th 41) ≤ 500 := (b0_41 hT :); have ob42 : ((-1) : Int) ≤ zz331 ∧ zz331 ≤ 500 := (b0_42 hT :); have ob43 : ((-1) : Int) ≤ (th 43) ∧ (th 43) ≤ 1 := (b0_43 hT :); obtain ⟨o0a, o0b⟩ := (eL7R : In _ _ _); omega)), TI.cast hT (by funext q; by_cases hq0 : q = 42; (subst hq0; rfl); by_cases hq1 : q = 37; (subst hq1; rfl); by_cases hq2 : q = 40; (subst hq2; rfl); by_cases hq3 : q = 41; (subst hq3; rfl); by_cases hq4 : q = 36; (subst hq4; rfl); simp only [gset, if_neg hq0, if_neg hq1, if_neg hq2, if_neg hq3, if_neg hq4])⟩, hfr⟩) dX11_planLine_22

abbrev rm_X11_readsPlan : Room := { frames := 6, cells := 0, slots := 0, locals := 130 }
abbrev po_X11_readsPlan (g : GG) (ad : Nat → Nat) (th : Nat → Int) (L : List Nat) (f : HP)  : Int32 → (List Nat × HP) → Prop := fun r u => u.1 = L ∧ (∃ za zr zl ze zn : Int, (True) ∧ TI g ad (gset (gset (gset (gset (gset th 37 za) 40 zr) 41 zl) 42 ze) 36 zn) u.2) ∧ (∀ b, b ≠ (ad 255) → b ≠ (ad 259) → u.2 b = f b) ∧ In r (-1) 500
set_option maxHeartbeats 4000000 in
set_option maxRecDepth 100000 in
theorem s_X11_readsPlan (l : Launch) (g : GG) (ad : Nat → Nat) (th : Nat → Int) (L : List Nat) (f : HP) (sz : Nat)  (hst : ST ad L) (hT : TI g ad th f)  : MtI l g yX11_readsPlan cX11_readsPlan 1 (some .int) rm_X11_readsPlan [.ref (ad 255)] L f sz (po_X11_readsPlan g ad th L f ) := by
  refine MtI.of (by decide +kernel) (Nat.le_of_ble_eq_true rfl) ?_
  intro p e s m below meth c A hEn hP hD hS ls hl
  obtain ⟨hx, hb, hr, hml, hown, hlocks, hts, hG, hA, hE, hnm⟩ := hEn
  have hown : s.vm.findClass "RulerWordModel" = some m.cls := hown
  have hl : lv_has ls 1 [(0, .ref (ad 255))] := hl
  have hfr : (∀ b, b ≠ (ad 255) → b ≠ (ad 259) → f b = f b) := fun b z0_ z1_ => rfl
  refine lv_aload_n hx hb dX11_readsPlan_0 rfl (lv_at hl 0 rfl) ?_
  refine lv_iconst (v := 0) hx hb dX11_readsPlan_1 (by decide) ?_
  refine M0e hT (fun v0_1 v2_1 v3_1 v4_1 v5_1 v6_1 v8_1 v9_1 v12_1 v13_1 v14_1 v15_1 v16_1 v17_1 v18_1 v19_1 v20_1 v21_1 v22_1 v23_1 v25_1 v36_1 v37_1 v38_1 v39_1 v40_1 v45_1 v46_1 v47_1 v48_1 v50_1 v51_1 v53_1 v55_1 hf2 hv0_1 hv2_1 hg2_1 hv3_1 hg3_1 hv4_1 hg4_1 hv5_1 hg5_1 hv6_1 hg6_1 hv8_1 hg8_1 hv9_1 hg9_1 hv12_1 hv13_1 hg13_1 hv14_1 hg14_1 hv15_1 hg15_1 hv17_1 hg17_1 hv20_1 hg20_1 hv23_1 hg23_1 hv25_1 hg25_1 hv36_1 hg36_1 hv47_1 hg47_1 hv48_1 hg48_1 hv53_1 hg53_1 hv55_1 hg55_1 hrel0_1 => ?_)
  have hg15_1 : v15_1.toInt = th 11 := hg15_1
  have hg17_1 : v17_1.toInt = th 12 := hg17_1
  have hg20_1 : v20_1.toInt = th 14 := hg20_1
  refine pl_put (ty := .int) (v := .int 0) (fs' := [.int v0_1, .ref (ad 256), .int v2_1, .int 0, .int v4_1, .int v5_1, .int v6_1, .ref (ad 257), .int v8_1, .int v9_1, .ref (ad 258), .ref (ad 259), .int v12_1, .int v13_1, .int v14_1, .int v15_1, .int v16_1, .int v17_1, .int v18_1, .int v19_1, .int v20_1, .long v21_1, .long v22_1, .int v23_1, .ref (ad 260), .int v25_1, .ref (ad 261), .ref (ad 262), .ref (ad 263), .ref (ad 264), .ref (ad 265), .ref (ad 266), .ref (ad 267), .ref (ad 268), .ref (ad 269), .ref (ad 270), .int v36_1, .int v37_1, .int v38_1, .int v39_1, .int v40_1, .ref (ad 271), .ref (ad 272), .ref (ad 273), .ref (ad 274), .long v45_1, .long v46_1, .int v47_1, .int v48_1, .ref (ad 275), .int v50_1, .int v51_1, .ref (ad 276), .int v53_1, .ref (ad 277), .int v55_1]) hx hb hts (fun w h => mT (inX11 w h)) tyX11 tyX11_ok nmX11 hown hG.1 hP hD hS (hst.1 255 (by decide)) hf2 rfl 3 (by decide) (hts _ (mT wg_1339)) (fun _ h => h) rfl (by decide +kernel) (rfl) (rfl) (Nat.le_of_ble_eq_true rfl) rfl dX11_readsPlan_2 (fun H locs f3 hf4 ho5 hP hD hS => ?_)
  have hfr : (∀ b, b ≠ (ad 255) → b ≠ (ad 259) → f3 b = f b) := fun b z0_ z1_ => (ho5 b z0_).trans (hfr b z0_ z1_)
  refine lv_aload_n hx hb dX11_readsPlan_5 rfl (lv_at hl 0 rfl) ?_
  refine lv_iconst (v := (-1)) hx hb dX11_readsPlan_6 (by decide) ?_
  refine pl_put (ty := .int) (v := .int (-1)) (fs' := [.int v0_1, .ref (ad 256), .int v2_1, .int 0, .int (-1), .int v5_1, .int v6_1, .ref (ad 257), .int v8_1, .int v9_1, .ref (ad 258), .ref (ad 259), .int v12_1, .int v13_1, .int v14_1, .int v15_1, .int v16_1, .int v17_1, .int v18_1, .int v19_1, .int v20_1, .long v21_1, .long v22_1, .int v23_1, .ref (ad 260), .int v25_1, .ref (ad 261), .ref (ad 262), .ref (ad 263), .ref (ad 264), .ref (ad 265), .ref (ad 266), .ref (ad 267), .ref (ad 268), .ref (ad 269), .ref (ad 270), .int v36_1, .int v37_1, .int v38_1, .int v39_1, .int v40_1, .ref (ad 271), .ref (ad 272), .ref (ad 273), .ref (ad 274), .long v45_1, .long v46_1, .int v47_1, .int v48_1, .ref (ad 275), .int v50_1, .int v51_1, .ref (ad 276), .int v53_1, .ref (ad 277), .int v55_1]) hx hb hts (fun w h => mT (inX11 w h)) tyX11 tyX11_ok nmX11 hown hG.1 hP hD hS (hst.1 255 (by decide)) hf4 rfl 4 (by decide) (hts _ (mT wg_1340)) (fun _ h => h) rfl (by decide +kernel) (rfl) (rfl) (Nat.le_of_ble_eq_true rfl) rfl dX11_readsPlan_7 (fun H locs f6 hf7 ho8 hP hD hS => ?_)
  have ho9 : ∀ b, b ≠ (ad 255) → f6 b = _ := fun b hb => (ho8 b hb).trans (ho5 b hb)
  have hfr : (∀ b, b ≠ (ad 255) → b ≠ (ad 259) → f6 b = f b) := fun b z0_ z1_ => (ho8 b z0_).trans (hfr b z0_ z1_)
  refine lv_aload_n hx hb dX11_readsPlan_10 rfl (lv_at hl 0 rfl) ?_
  refine lv_iconst (v := 0) hx hb dX11_readsPlan_11 (by decide) ?_
  refine pl_put (ty := .int) (v := .int 0) (fs' := [.int v0_1, .ref (ad 256), .int v2_1, .int 0, .int (-1), .int v5_1, .int v6_1, .ref (ad 257), .int v8_1, .int v9_1, .ref (ad 258), .ref (ad 259), .int v12_1, .int 0, .int v14_1, .int v15_1, .int v16_1, .int v17_1, .int v18_1, .int v19_1, .int v20_1, .long v21_1, .long v22_1, .int v23_1, .ref (ad 260), .int v25_1, .ref (ad 261), .ref (ad 262), .ref (ad 263), .ref (ad 264), .ref (ad 265), .ref (ad 266), .ref (ad 267), .ref (ad 268), .ref (ad 269), .ref (ad 270), .int v36_1, .int v37_1, .int v38_1, .int v39_1, .int v40_1, .ref (ad 271), .ref (ad 272), .ref (ad 273), .ref (ad 274), .long v45_1, .long v46_1, .int v47_1, .int v48_1, .ref (ad 275), .int v50_1, .int v51_1, .ref (ad 276), .int v53_1, .ref (ad 277), .int v55_1]) hx hb hts (fun w h => mT (inX11 w h)) tyX11 tyX11_ok nmX11 hown hG.1 hP hD hS (hst.1 255 (by decide)) hf7 rfl 13 (by decide) (hts _ (mT wg_1349)) (fun _ h => h) rfl (by decide +kernel) (rfl) (rfl) (Nat.le_of_ble_eq_true rfl) rfl dX11_readsPlan_12 (fun H locs f10 hf11 ho12 hP hD hS => ?_)
  have ho13 : ∀ b, b ≠ (ad 255) → f10 b = _ := fun b hb => (ho12 b hb).trans (ho9 b hb)
  have hfr : (∀ b, b ≠ (ad 255) → b ≠ (ad 259) → f10 b = f b) := fun b z0_ z1_ => (ho12 b z0_).trans (hfr b z0_ z1_)
  refine lv_aload_n hx hb dX11_readsPlan_15 rfl (lv_at hl 0 rfl) ?_
  have hT := TI.updMG (th' := (gset (gset (gset th 37 (0)) 42 ((-1))) 36 (0))) hT hst (k := 0) (by decide) hf11 ho13 ⟨v0_1, v2_1, 0, (-1), v5_1, v6_1, v8_1, v9_1, v12_1, 0, v14_1, v15_1, v16_1, v17_1, v18_1, v19_1, v20_1, v21_1, v22_1, v23_1, v25_1, v36_1, v37_1, v38_1, v39_1, v40_1, v45_1, v46_1, v47_1, v48_1, v50_1, v51_1, v53_1, v55_1, rfl, hv0_1, hv2_1, hg2_1, (⟨by decide, by decide⟩ : In 0 0 500), (show (0 : Int32).toInt = 0 by decide), (⟨by decide, by decide⟩ : In (-1) (-1) 500), (show ((-1) : Int32).toInt = (-1) by decide), hv5_1, hg5_1, hv6_1, hg6_1, hv8_1, hg8_1, hv9_1, hg9_1, hv12_1, (⟨by decide, by decide⟩ : In 0 0 20), (show (0 : Int32).toInt = 0 by decide), hv14_1, hg14_1, hv15_1, hg15_1, hv17_1, hg17_1, hv20_1, hg20_1, hv23_1, hg23_1, hv25_1, hg25_1, hv36_1, hg36_1, hv47_1, hg47_1, hv48_1, hg48_1, hv53_1, hg53_1, hv55_1, hg55_1, hrel0_1⟩ (fun q hq => ((gset_ne (fun e => hq (by subst e; decide))).trans ((gset_ne (fun e => hq (by subst e; decide))).trans ((gset_ne (fun e => hq (by subst e; decide))).trans rfl))))
  have hT : TI g ad (gset (gset (gset th 37 0) 42 (-1)) 36 0) f10 := TI.cast hT (by funext q; by_cases hq0 : q = 36; (subst hq0; rfl); by_cases hq1 : q = 42; (subst hq1; rfl); by_cases hq2 : q = 37; (subst hq2; rfl); simp only [gset, if_neg hq0, if_neg hq1, if_neg hq2])
  refine M0e hT (fun v0_14 v2_14 v3_14 v4_14 v5_14 v6_14 v8_14 v9_14 v12_14 v13_14 v14_14 v15_14 v16_14 v17_14 v18_14 v19_14 v20_14 v21_14 v22_14 v23_14 v25_14 v36_14 v37_14 v38_14 v39_14 v40_14 v45_14 v46_14 v47_14 v48_14 v50_14 v51_14 v53_14 v55_14 hf15 hv0_14 hv2_14 hg2_14 hv3_14 hg3_14 hv4_14 hg4_14 hv5_14 hg5_14 hv6_14 hg6_14 hv8_14 hg8_14 hv9_14 hg9_14 hv12_14 hv13_14 hg13_14 hv14_14 hg14_14 hv15_14 hg15_14 hv17_14 hg17_14 hv20_14 hg20_14 hv23_14 hg23_14 hv25_14 hg25_14 hv36_14 hg36_14 hv47_14 hg47_14 hv48_14 hg48_14 hv53_14 hg53_14 hv55_14 hg55_14 hrel0_14 => ?_)
  have hg15_14 : v15_14.toInt = th 11 := hg15_14
  have hg17_14 : v17_14.toInt = th 12 := hg17_14
  have hg20_14 : v20_14.toInt = th 14 := hg20_14
  refine call_v (run_V (rm := rm_X11_planLine) hx hb hml hown hts (s_X11_planLine l g ad (gset (gset (gset th 37 0) 42 (-1)) 36 0) _ _ _  hst hT ) cV_X11_planLine wg_1596 ⟨Nat.le_of_ble_eq_true rfl, Nat.le_of_ble_eq_true rfl⟩ hG hE hA hP hD hS (hst.1 255 (by decide)) hf15 rfl rfl hl.1 (As := []) (rest := []) rfl (Nat.le_of_ble_eq_true rfl) dX11_readsPlan_16 ⟨Nat.le_of_ble_eq_true rfl, Nat.le_of_ble_eq_true rfl⟩) hA hD hS (fun L17 f18 H locs hp19 hP hD hS => ?_)
  obtain ⟨eL20L, eL20T, eL20F⟩ := hp19
  have eL20L : L17 = L := eL20L
  rw [eL20L] at hP hD
  obtain ⟨zz21, zz22, zz23, zz24, zz25, hzz21, eL20T⟩ := eL20T
  have hzz21 : 0 ≤ zz21 ∧ zz21 ≤ 500 := hzz21
  have hT : TI g ad (gset (gset (gset (gset (gset (gset (gset (gset th 37 0) 42 (-1)) 36 0) 37 zz21) 40 zz22) 41 zz23) 42 zz24) 36 zz25) f18 := eL20T
  have hT : TI g ad (gset (gset (gset (gset (gset th 37 zz21) 40 zz22) 41 zz23) 42 zz24) 36 zz25) f18 := TI.cast hT (by funext q; by_cases hq0 : q = 36; (subst hq0; rfl); by_cases hq1 : q = 42; (subst hq1; rfl); by_cases hq2 : q = 41; (subst hq2; rfl); by_cases hq3 : q = 40; (subst hq3; rfl); by_cases hq4 : q = 37; (subst hq4; rfl); simp only [gset, if_neg hq0, if_neg hq1, if_neg hq2, if_neg hq3, if_neg hq4])
  have eL20F : ∀ b, b ≠ (ad 255) → b ≠ (ad 259) → f18 b = f10 b := eL20F
  have hfr : (∀ b, b ≠ (ad 255) → b ≠ (ad 259) → f18 b = f b) := fun b z0_ z1_ => (eL20F b z0_ z1_).trans (hfr b z0_ z1_)
  have hJ19 : ∀ (k19 : Nat) (zg19_za : Int) (zg19_zr : Int) (zg19_zl : Int) (zg19_ze : Int) (zg19_zn : Int) (f_19 : HP) (H : Heap) (locs : List Loc) (ls : Array Slot), (0 ≤ zg19_za ∧ zg19_za ≤ 500) → va_P g.1 vwCl (va_pl L f_19) H → va_D A (va_pl L f_19) → va_S A s.heap H locs → TI g ad (gset (gset (gset (gset (gset th 37 zg19_za) 40 zg19_zr) 41 zg19_zl) 42 zg19_ze) 36 zg19_zn) f_19 → (∀ b, b ≠ (ad 255) → b ≠ (ad 259) → f_19 b = f b) → lv_has ls 1 [(0, .ref (ad 255))] → 500 - zg19_za < ((k19 : Nat) : Int) → W p l e rm_X11_readsPlan s m [.ref (ad 255)].toArray below meth c H locs 0 0 (MQ below (va_Qi (po_X11_readsPlan g ad th L f ) (PstB g A) A) [.ref (ad 255)].toArray s rm_X11_readsPlan.cells rm_X11_readsPlan.slots A) (F0 m 19 ls []) := by
    intro k19
    induction k19 with
    | zero =>
      intro zg19_za zg19_zr zg19_zl zg19_ze zg19_zn f_19 H locs ls hzg19 hP hD hS hT hfr hl hmz19
      exact absurd hmz19 (by omega)
    | succ k19 ih19 =>
      intro zg19_za zg19_zr zg19_zl zg19_ze zg19_zn f_19 H locs ls hzg19 hP hD hS hT hfr hl hmz19
      refine lv_aload_n hx hb dX11_readsPlan_19 rfl (lv_at hl 0 rfl) ?_
      refine M0e hT (fun v0_26 v2_26 v3_26 v4_26 v5_26 v6_26 v8_26 v9_26 v12_26 v13_26 v14_26 v15_26 v16_26 v17_26 v18_26 v19_26 v20_26 v21_26 v22_26 v23_26 v25_26 v36_26 v37_26 v38_26 v39_26 v40_26 v45_26 v46_26 v47_26 v48_26 v50_26 v51_26 v53_26 v55_26 hf27 hv0_26 hv2_26 hg2_26 hv3_26 hg3_26 hv4_26 hg4_26 hv5_26 hg5_26 hv6_26 hg6_26 hv8_26 hg8_26 hv9_26 hg9_26 hv12_26 hv13_26 hg13_26 hv14_26 hg14_26 hv15_26 hg15_26 hv17_26 hg17_26 hv20_26 hg20_26 hv23_26 hg23_26 hv25_26 hg25_26 hv36_26 hg36_26 hv47_26 hg47_26 hv48_26 hg48_26 hv53_26 hg53_26 hv55_26 hg55_26 hrel0_26 => ?_)
      have hg15_26 : v15_26.toInt = th 11 := hg15_26
      have hg17_26 : v17_26.toInt = th 12 := hg17_26
      have hg20_26 : v20_26.toInt = th 14 := hg20_26
      refine pl_get (v := .int v4_26) hx hb hts (fun w h => mT (inX11 w h)) hown hG.1 hP (hst.1 255 (by decide)) hf27 rfl 4 (by decide) (hts _ (mT wg_1340)) (fun _ h => h) rfl dX11_readsPlan_20 ?_
      have hg4_26 : v4_26.toInt = zg19_ze := hg4_26
      refine lv_iconst (v := (-1)) hx hb dX11_readsPlan_23 (by decide) ?_
      have hJ53 : ∀ (zg53_za : Int) (zg53_zr : Int) (zg53_zl : Int) (zg53_ze : Int) (zg53_zn : Int) (f_53 : HP) (H : Heap) (locs : List Loc) (ls : Array Slot), (0 ≤ zg53_za ∧ zg53_za ≤ 500) → va_P g.1 vwCl (va_pl L f_53) H → va_D A (va_pl L f_53) → va_S A s.heap H locs → TI g ad (gset (gset (gset (gset (gset th 37 zg53_za) 40 zg53_zr) 41 zg53_zl) 42 zg53_ze) 36 zg53_zn) f_53 → (∀ b, b ≠ (ad 255) → b ≠ (ad 259) → f_53 b = f b) → lv_has ls 1 [(0, .ref (ad 255))] → W p l e rm_X11_readsPlan s m [.ref (ad 255)].toArray below meth c H locs 0 0 (MQ below (va_Qi (po_X11_readsPlan g ad th L f ) (PstB g A) A) [.ref (ad 255)].toArray s rm_X11_readsPlan.cells rm_X11_readsPlan.slots A) (F0 m 53 ls []) := by
        intro zg53_za zg53_zr zg53_zl zg53_ze zg53_zn f_53 H locs ls hzg53 hP hD hS hT hfr hl
        refine lv_aload_n hx hb dX11_readsPlan_53 rfl (lv_at hl 0 rfl) ?_
        refine M0e hT (fun v0_28 v2_28 v3_28 v4_28 v5_28 v6_28 v8_28 v9_28 v12_28 v13_28 v14_28 v15_28 v16_28 v17_28 v18_28 v19_28 v20_28 v21_28 v22_28 v23_28 v25_28 v36_28 v37_28 v38_28 v39_28 v40_28 v45_28 v46_28 v47_28 v48_28 v50_28 v51_28 v53_28 v55_28 hf29 hv0_28 hv2_28 hg2_28 hv3_28 hg3_28 hv4_28 hg4_28 hv5_28 hg5_28 hv6_28 hg6_28 hv8_28 hg8_28 hv9_28 hg9_28 hv12_28 hv13_28 hg13_28 hv14_28 hg14_28 hv15_28 hg15_28 hv17_28 hg17_28 hv20_28 hg20_28 hv23_28 hg23_28 hv25_28 hg25_28 hv36_28 hg36_28 hv47_28 hg47_28 hv48_28 hg48_28 hv53_28 hg53_28 hv55_28 hg55_28 hrel0_28 => ?_)
        have hg15_28 : v15_28.toInt = th 11 := hg15_28
        have hg17_28 : v17_28.toInt = th 12 := hg17_28
        have hg20_28 : v20_28.toInt = th 14 := hg20_28
        refine pl_get (v := .int v4_28) hx hb hts (fun w h => mT (inX11 w h)) hown hG.1 hP (hst.1 255 (by decide)) hf29 rfl 4 (by decide) (hts _ (mT wg_1340)) (fun _ h => h) rfl dX11_readsPlan_54 ?_
        have hg4_28 : v4_28.toInt = zg53_ze := hg4_28
        refine lv_iconst (v := (-1)) hx hb dX11_readsPlan_57 (by decide) ?_
        have hJ77 : ∀ (zg77_za : Int) (zg77_zr : Int) (zg77_zl : Int) (zg77_ze : Int) (zg77_zn : Int) (f_77 : HP) (H : Heap) (locs : List Loc) (ls : Array Slot), (0 ≤ zg77_za ∧ zg77_za ≤ 500) → va_P g.1 vwCl (va_pl L f_77) H → va_D A (va_pl L f_77) → va_S A s.heap H locs → TI g ad (gset (gset (gset (gset (gset th 37 zg77_za) 40 zg77_zr) 41 zg77_zl) 42 zg77_ze) 36 zg77_zn) f_77 → (∀ b, b ≠ (ad 255) → b ≠ (ad 259) → f_77 b = f b) → lv_has ls 1 [(0, .ref (ad 255))] → W p l e rm_X11_readsPlan s m [.ref (ad 255)].toArray below meth c H locs 0 0 (MQ below (va_Qi (po_X11_readsPlan g ad th L f ) (PstB g A) A) [.ref (ad 255)].toArray s rm_X11_readsPlan.cells rm_X11_readsPlan.slots A) (F0 m 77 ls []) := by
          intro zg77_za zg77_zr zg77_zl zg77_ze zg77_zn f_77 H locs ls hzg77 hP hD hS hT hfr hl
          refine lv_aload_n hx hb dX11_readsPlan_77 rfl (lv_at hl 0 rfl) ?_
          refine M0e hT (fun v0_30 v2_30 v3_30 v4_30 v5_30 v6_30 v8_30 v9_30 v12_30 v13_30 v14_30 v15_30 v16_30 v17_30 v18_30 v19_30 v20_30 v21_30 v22_30 v23_30 v25_30 v36_30 v37_30 v38_30 v39_30 v40_30 v45_30 v46_30 v47_30 v48_30 v50_30 v51_30 v53_30 v55_30 hf31 hv0_30 hv2_30 hg2_30 hv3_30 hg3_30 hv4_30 hg4_30 hv5_30 hg5_30 hv6_30 hg6_30 hv8_30 hg8_30 hv9_30 hg9_30 hv12_30 hv13_30 hg13_30 hv14_30 hg14_30 hv15_30 hg15_30 hv17_30 hg17_30 hv20_30 hg20_30 hv23_30 hg23_30 hv25_30 hg25_30 hv36_30 hg36_30 hv47_30 hg47_30 hv48_30 hg48_30 hv53_30 hg53_30 hv55_30 hg55_30 hrel0_30 => ?_)
          have hg15_30 : v15_30.toInt = th 11 := hg15_30
          have hg17_30 : v17_30.toInt = th 12 := hg17_30
          have hg20_30 : v20_30.toInt = th 14 := hg20_30
          refine pl_get (v := .int v4_30) hx hb hts (fun w h => mT (inX11 w h)) hown hG.1 hP (hst.1 255 (by decide)) hf31 rfl 4 (by decide) (hts _ (mT wg_1340)) (fun _ h => h) rfl dX11_readsPlan_78 ?_
          have hg4_30 : v4_30.toInt = zg77_ze := hg4_30
          exact ret_i (ty := .int) hx hb hr hlocks (rfl) hP hD hS (Nat.le_of_ble_eq_true rfl) (Nat.le_of_ble_eq_true rfl) (⟨rfl, ⟨zg77_za, zg77_zr, zg77_zl, zg77_ze, zg77_zn, trivial, TI.cast hT (by funext q; by_cases hq0 : q = 36; (subst hq0; rfl); by_cases hq1 : q = 42; (subst hq1; rfl); by_cases hq2 : q = 41; (subst hq2; rfl); by_cases hq3 : q = 40; (subst hq3; rfl); by_cases hq4 : q = 37; (subst hq4; rfl); simp only [gset, if_neg hq0, if_neg hq1, if_neg hq2, if_neg hq3, if_neg hq4])⟩, hfr, hv4_30⟩) dX11_readsPlan_81
        refine lv_icmp_ne (tgt := 77) hx hb dX11_readsPlan_58 (by decide) (fun c32 => ?_) (fun c32 => ?_)
        ·
          have ocm1 : ((-1) : Int32).toInt = (-1) := by decide
          have cc33 : v4_28.toInt ≠ ((-1) : Int32).toInt := i32_ne c32
          have hb34 : In v4_28 0 500 := In.ne1 hv4_28 (⟨by decide, by decide⟩ : In (-1) (-1) (-1)) cc33 (by decide) (by decide)
          exact hJ77 zg53_za zg53_zr zg53_zl zg53_ze zg53_zn _ _ _ _ (show (0 ≤ zg53_za ∧ zg53_za ≤ 500) from (by have ob13 : (0 : Int) ≤ (th 13) ∧ (th 13) ≤ 500 := (b0_13 hT :); have ob35 : (0 : Int) ≤ (th 35) ∧ (th 35) ≤ 63 := (b0_35 hT :); have ob36 : (0 : Int) ≤ zg53_zn ∧ zg53_zn ≤ 20 := (b0_36 hT :); have ob37 : (0 : Int) ≤ zg53_za ∧ zg53_za ≤ 500 := (b0_37 hT :); have ob40 : (0 : Int) ≤ zg53_zr ∧ zg53_zr ≤ 500 := (b0_40 hT :); have ob41 : (0 : Int) ≤ zg53_zl ∧ zg53_zl ≤ 500 := (b0_41 hT :); have ob42 : ((-1) : Int) ≤ zg53_ze ∧ zg53_ze ≤ 500 := (b0_42 hT :); have ob43 : ((-1) : Int) ≤ (th 43) ∧ (th 43) ≤ 1 := (b0_43 hT :); obtain ⟨o0a, o0b⟩ := (hv2_28 : In _ _ _); obtain ⟨o1a, o1b⟩ := (hv3_28 : In _ _ _); obtain ⟨o2a, o2b⟩ := (hb34 : In _ _ _); obtain ⟨o3a, o3b⟩ := (hv5_28 : In _ _ _); obtain ⟨o4a, o4b⟩ := (hv6_28 : In _ _ _); obtain ⟨o5a, o5b⟩ := (hv8_28 : In _ _ _); obtain ⟨o6a, o6b⟩ := (hv9_28 : In _ _ _); obtain ⟨o7a, o7b⟩ := (hv13_28 : In _ _ _); omega)) hP hD hS (TI.cast hT (by funext q; by_cases hq0 : q = 36; (subst hq0; rfl); by_cases hq1 : q = 42; (subst hq1; rfl); by_cases hq2 : q = 41; (subst hq2; rfl); by_cases hq3 : q = 40; (subst hq3; rfl); by_cases hq4 : q = 37; (subst hq4; rfl); simp only [gset, if_neg hq0, if_neg hq1, if_neg hq2, if_neg hq3, if_neg hq4])) hfr (lv_sub hl [0] rfl)
        ·
          have ocm1 : ((-1) : Int32).toInt = (-1) := by decide
          have cc35 : v4_28.toInt = ((-1) : Int32).toInt := congrArg Int32.toInt c32
          have hb36 : In v4_28 (-1) (-1) := In.eq1 hv4_28 (⟨by decide, by decide⟩ : In (-1) (-1) (-1)) cc35 (by decide) (by decide)
          refine lv_aload_n hx hb dX11_readsPlan_61 rfl (lv_at hl 0 rfl) ?_
          refine call_i (run_V (rm := rm_X11_look) hx hb hml hown hts (s_X11_look l g ad (gset (gset (gset (gset (gset th 37 zg53_za) 40 zg53_zr) 41 zg53_zl) 42 zg53_ze) 36 zg53_zn) _ _ _  hst hT ) cV_X11_look wg_1529 ⟨Nat.le_of_ble_eq_true rfl, Nat.le_of_ble_eq_true rfl⟩ hG hE hA hP hD hS (hst.1 255 (by decide)) hf29 rfl rfl hl.1 (As := []) (rest := []) rfl (Nat.le_of_ble_eq_true rfl) dX11_readsPlan_62 ⟨Nat.le_of_ble_eq_true rfl, Nat.le_of_ble_eq_true rfl⟩) hA hD hS (fun r37 L38 f39 H locs hp40 hP hD hS => ?_)
          obtain ⟨eL41L, eL41T, eL41F, eL41R⟩ := hp40
          have eL41L : L38 = L := eL41L
          rw [eL41L] at hP hD
          obtain ⟨zz42, hzz42, eL41T⟩ := eL41T
          have hgk43 : (gset (gset (gset (gset (gset th 37 zg53_za) 40 zg53_zr) 41 zg53_zl) 42 zg53_ze) 36 zg53_zn) 37 = zg53_za := rfl
          have hgk44 : (gset (gset (gset (gset (gset th 37 zg53_za) 40 zg53_zr) 41 zg53_zl) 42 zg53_ze) 36 zg53_zn) 13 = th 13 := rfl
          have hT : TI g ad (gset (gset (gset (gset (gset (gset th 37 zg53_za) 40 zg53_zr) 41 zg53_zl) 42 zg53_ze) 36 zg53_zn) 37 zz42) f39 := eL41T
          have hT : TI g ad (gset (gset (gset (gset (gset th 40 zg53_zr) 41 zg53_zl) 42 zg53_ze) 36 zg53_zn) 37 zz42) f39 := TI.cast hT (by funext q; by_cases hq0 : q = 37; (subst hq0; rfl); by_cases hq1 : q = 36; (subst hq1; rfl); by_cases hq2 : q = 42; (subst hq2; rfl); by_cases hq3 : q = 41; (subst hq3; rfl); by_cases hq4 : q = 40; (subst hq4; rfl); simp only [gset, if_neg hq0, if_neg hq1, if_neg hq2, if_neg hq3, if_neg hq4])
          have eL41F : ∀ b, b ≠ (ad 255) → f39 b = f_53 b := eL41F
          have hfr : (∀ b, b ≠ (ad 255) → b ≠ (ad 259) → f39 b = f b) := fun b z0_ z1_ => (eL41F b z0_).trans (hfr b z0_ z1_)
          have eL41R : In r37 (-1) 255 := eL41R
          refine lv_iconst (v := (-1)) hx hb dX11_readsPlan_65 (by decide) ?_
          refine lv_icmp_eq (tgt := 77) hx hb dX11_readsPlan_66 (by decide) (fun c45 => ?_) (fun c45 => ?_)
          ·
            have ocm1 : ((-1) : Int32).toInt = (-1) := by decide
            have cc46 : r37.toInt = ((-1) : Int32).toInt := congrArg Int32.toInt c45
            have hb47 : In r37 (-1) (-1) := In.eq1 eL41R (⟨by decide, by decide⟩ : In (-1) (-1) (-1)) cc46 (by decide) (by decide)
            exact hJ77 zz42 zg53_zr zg53_zl zg53_ze zg53_zn _ _ _ _ (show (0 ≤ zz42 ∧ zz42 ≤ 500) from (by have ob13 : (0 : Int) ≤ (th 13) ∧ (th 13) ≤ 500 := (b0_13 hT :); have ob35 : (0 : Int) ≤ (th 35) ∧ (th 35) ≤ 63 := (b0_35 hT :); have ob36 : (0 : Int) ≤ zg53_zn ∧ zg53_zn ≤ 20 := (b0_36 hT :); have ob37 : (0 : Int) ≤ zz42 ∧ zz42 ≤ 500 := (b0_37 hT :); have ob40 : (0 : Int) ≤ zg53_zr ∧ zg53_zr ≤ 500 := (b0_40 hT :); have ob41 : (0 : Int) ≤ zg53_zl ∧ zg53_zl ≤ 500 := (b0_41 hT :); have ob42 : ((-1) : Int) ≤ zg53_ze ∧ zg53_ze ≤ 500 := (b0_42 hT :); have ob43 : ((-1) : Int) ≤ (th 43) ∧ (th 43) ≤ 1 := (b0_43 hT :); omega)) hP hD hS (TI.cast hT (by funext q; by_cases hq0 : q = 37; (subst hq0; rfl); by_cases hq1 : q = 36; (subst hq1; rfl); by_cases hq2 : q = 42; (subst hq2; rfl); by_cases hq3 : q = 41; (subst hq3; rfl); by_cases hq4 : q = 40; (subst hq4; rfl); simp only [gset, if_neg hq0, if_neg hq1, if_neg hq2, if_neg hq3, if_neg hq4])) hfr (lv_sub hl [0] rfl)
          ·
            have ocm1 : ((-1) : Int32).toInt = (-1) := by decide
            have cc48 : r37.toInt ≠ ((-1) : Int32).toInt := i32_ne c45
            have hb49 : In r37 0 255 := In.ne1 eL41R (⟨by decide, by decide⟩ : In (-1) (-1) (-1)) cc48 (by decide) (by decide)
            refine lv_aload_n hx hb dX11_readsPlan_69 rfl (lv_at hl 0 rfl) ?_
            refine lv_aload_n hx hb dX11_readsPlan_70 rfl (lv_at hl 0 rfl) ?_
            refine M0e hT (fun v0_50 v2_50 v3_50 v4_50 v5_50 v6_50 v8_50 v9_50 v12_50 v13_50 v14_50 v15_50 v16_50 v17_50 v18_50 v19_50 v20_50 v21_50 v22_50 v23_50 v25_50 v36_50 v37_50 v38_50 v39_50 v40_50 v45_50 v46_50 v47_50 v48_50 v50_50 v51_50 v53_50 v55_50 hf51 hv0_50 hv2_50 hg2_50 hv3_50 hg3_50 hv4_50 hg4_50 hv5_50 hg5_50 hv6_50 hg6_50 hv8_50 hg8_50 hv9_50 hg9_50 hv12_50 hv13_50 hg13_50 hv14_50 hg14_50 hv15_50 hg15_50 hv17_50 hg17_50 hv20_50 hg20_50 hv23_50 hg23_50 hv25_50 hg25_50 hv36_50 hg36_50 hv47_50 hg47_50 hv48_50 hg48_50 hv53_50 hg53_50 hv55_50 hg55_50 hrel0_50 => ?_)
            have hg15_50 : v15_50.toInt = th 11 := hg15_50
            have hg17_50 : v17_50.toInt = th 12 := hg17_50
            have hg20_50 : v20_50.toInt = th 14 := hg20_50
            refine pl_get (v := .int v3_50) hx hb hts (fun w h => mT (inX11 w h)) hown hG.1 hP (hst.1 255 (by decide)) hf51 rfl 3 (by decide) (hts _ (mT wg_1339)) (fun _ h => h) rfl dX11_readsPlan_71 ?_
            have hg3_50 : v3_50.toInt = zz42 := hg3_50
            refine call_v (run_V (rm := rm_X11_fails) hx hb hml hown hts (s_X11_fails l g ad (gset (gset (gset (gset (gset th 40 zg53_zr) 41 zg53_zl) 42 zg53_ze) 36 zg53_zn) 37 zz42) _ _ _ v3_50 hst hT hv3_50) cV_X11_fails wg_1545 ⟨Nat.le_of_ble_eq_true rfl, Nat.le_of_ble_eq_true rfl⟩ hG hE hA hP hD hS (hst.1 255 (by decide)) hf51 rfl rfl hl.1 (As := [.int v3_50]) (rest := []) rfl (Nat.le_of_ble_eq_true rfl) dX11_readsPlan_74 ⟨Nat.le_of_ble_eq_true rfl, Nat.le_of_ble_eq_true rfl⟩) hA hD hS (fun L53 f54 H locs hp55 hP hD hS => ?_)
            obtain ⟨eL56L, eL56T, eL56F⟩ := hp55
            have eL56L : L53 = L := eL56L
            rw [eL56L] at hP hD
            obtain ⟨zz57, hzz57, eL56T⟩ := eL56T
            have hzz57 : 0 ≤ zz57 := hzz57
            have hT : TI g ad (gset (gset (gset (gset (gset (gset th 40 zg53_zr) 41 zg53_zl) 42 zg53_ze) 36 zg53_zn) 37 zz42) 42 zz57) f54 := eL56T
            have hT : TI g ad (gset (gset (gset (gset (gset th 40 zg53_zr) 41 zg53_zl) 36 zg53_zn) 37 zz42) 42 zz57) f54 := TI.cast hT (by funext q; by_cases hq0 : q = 42; (subst hq0; rfl); by_cases hq1 : q = 37; (subst hq1; rfl); by_cases hq2 : q = 36; (subst hq2; rfl); by_cases hq3 : q = 41; (subst hq3; rfl); by_cases hq4 : q = 40; (subst hq4; rfl); simp only [gset, if_neg hq0, if_neg hq1, if_neg hq2, if_neg hq3, if_neg hq4])
            have eL56F : ∀ b, b ≠ (ad 255) → f54 b = f39 b := eL56F
            have hfr : (∀ b, b ≠ (ad 255) → b ≠ (ad 259) → f54 b = f b) := fun b z0_ z1_ => (eL56F b z0_).trans (hfr b z0_ z1_)
            exact hJ77 zz42 zg53_zr zg53_zl zz57 zg53_zn _ _ _ _ (show (0 ≤ zz42 ∧ zz42 ≤ 500) from (by have ob13 : (0 : Int) ≤ (th 13) ∧ (th 13) ≤ 500 := (b0_13 hT :); have ob35 : (0 : Int) ≤ (th 35) ∧ (th 35) ≤ 63 := (b0_35 hT :); have ob36 : (0 : Int) ≤ zg53_zn ∧ zg53_zn ≤ 20 := (b0_36 hT :); have ob37 : (0 : Int) ≤ zz42 ∧ zz42 ≤ 500 := (b0_37 hT :); have ob40 : (0 : Int) ≤ zg53_zr ∧ zg53_zr ≤ 500 := (b0_40 hT :); have ob41 : (0 : Int) ≤ zg53_zl ∧ zg53_zl ≤ 500 := (b0_41 hT :); have ob42 : ((-1) : Int) ≤ zz57 ∧ zz57 ≤ 500 := (b0_42 hT :); have ob43 : ((-1) : Int) ≤ (th 43) ∧ (th 43) ≤ 1 := (b0_43 hT :); omega)) hP hD hS (TI.cast hT (by funext q; by_cases hq0 : q = 42; (subst hq0; rfl); by_cases hq1 : q = 37; (subst hq1; rfl); by_cases hq2 : q = 36; (subst hq2; rfl); by_cases hq3 : q = 41; (subst hq3; rfl); by_cases hq4 : q = 40; (subst hq4; rfl); simp only [gset, if_neg hq0, if_neg hq1, if_neg hq2, if_neg hq3, if_neg hq4])) hfr (lv_sub hl [0] rfl)
      refine lv_icmp_ne (tgt := 53) hx hb dX11_readsPlan_24 (by decide) (fun c58 => ?_) (fun c58 => ?_)
      ·
        have ocm1 : ((-1) : Int32).toInt = (-1) := by decide
        have cc59 : v4_26.toInt ≠ ((-1) : Int32).toInt := i32_ne c58
        have hb60 : In v4_26 0 500 := In.ne1 hv4_26 (⟨by decide, by decide⟩ : In (-1) (-1) (-1)) cc59 (by decide) (by decide)
        exact hJ53 zg19_za zg19_zr zg19_zl zg19_ze zg19_zn _ _ _ _ (show (0 ≤ zg19_za ∧ zg19_za ≤ 500) from (by have ob13 : (0 : Int) ≤ (th 13) ∧ (th 13) ≤ 500 := (b0_13 hT :); have ob35 : (0 : Int) ≤ (th 35) ∧ (th 35) ≤ 63 := (b0_35 hT :); have ob36 : (0 : Int) ≤ zg19_zn ∧ zg19_zn ≤ 20 := (b0_36 hT :); have ob37 : (0 : Int) ≤ zg19_za ∧ zg19_za ≤ 500 := (b0_37 hT :); have ob40 : (0 : Int) ≤ zg19_zr ∧ zg19_zr ≤ 500 := (b0_40 hT :); have ob41 : (0 : Int) ≤ zg19_zl ∧ zg19_zl ≤ 500 := (b0_41 hT :); have ob42 : ((-1) : Int) ≤ zg19_ze ∧ zg19_ze ≤ 500 := (b0_42 hT :); have ob43 : ((-1) : Int) ≤ (th 43) ∧ (th 43) ≤ 1 := (b0_43 hT :); obtain ⟨o0a, o0b⟩ := (hv2_26 : In _ _ _); obtain ⟨o1a, o1b⟩ := (hv3_26 : In _ _ _); obtain ⟨o2a, o2b⟩ := (hb60 : In _ _ _); obtain ⟨o3a, o3b⟩ := (hv5_26 : In _ _ _); obtain ⟨o4a, o4b⟩ := (hv6_26 : In _ _ _); obtain ⟨o5a, o5b⟩ := (hv8_26 : In _ _ _); obtain ⟨o6a, o6b⟩ := (hv9_26 : In _ _ _); obtain ⟨o7a, o7b⟩ := (hv13_26 : In _ _ _); omega)) hP hD hS (TI.cast hT (by funext q; by_cases hq0 : q = 36; (subst hq0; rfl); by_cases hq1 : q = 42; (subst hq1; rfl); by_cases hq2 : q = 41; (subst hq2; rfl); by_cases hq3 : q = 40; (subst hq3; rfl); by_cases hq4 : q = 37; (subst hq4; rfl); simp only [gset, if_neg hq0, if_neg hq1, if_neg hq2, if_neg hq3, if_neg hq4])) hfr (lv_sub hl [0] rfl)
      ·
        have ocm1 : ((-1) : Int32).toInt = (-1) := by decide
        have cc61 : v4_26.toInt = ((-1) : Int32).toInt := congrArg Int32.toInt c58
        have hb62 : In v4_26 (-1) (-1) := In.eq1 hv4_26 (⟨by decide, by decide⟩ : In (-1) (-1) (-1)) cc61 (by decide) (by decide)
        refine lv_aload_n hx hb dX11_readsPlan_27 rfl (lv_at hl 0 rfl) ?_
        refine call_i (run_V (rm := rm_X11_look) hx hb hml hown hts (s_X11_look l g ad (gset (gset (gset (gset (gset th 37 zg19_za) 40 zg19_zr) 41 zg19_zl) 42 zg19_ze) 36 zg19_zn) _ _ _  hst hT ) cV_X11_look wg_1529 ⟨Nat.le_of_ble_eq_true rfl, Nat.le_of_ble_eq_true rfl⟩ hG hE hA hP hD hS (hst.1 255 (by decide)) hf27 rfl rfl hl.1 (As := []) (rest := []) rfl (Nat.le_of_ble_eq_true rfl) dX11_readsPlan_28 ⟨Nat.le_of_ble_eq_true rfl, Nat.le_of_ble_eq_true rfl⟩) hA hD hS (fun r63 L64 f65 H locs hp66 hP hD hS => ?_)
        obtain ⟨eL67L, eL67T, eL67F, eL67R⟩ := hp66
        have eL67L : L64 = L := eL67L
        rw [eL67L] at hP hD
        obtain ⟨zz68, hzz68, eL67T⟩ := eL67T
        have hgk69 : (gset (gset (gset (gset (gset th 37 zg19_za) 40 zg19_zr) 41 zg19_zl) 42 zg19_ze) 36 zg19_zn) 37 = zg19_za := rfl
        have hgk70 : (gset (gset (gset (gset (gset th 37 zg19_za) 40 zg19_zr) 41 zg19_zl) 42 zg19_ze) 36 zg19_zn) 13 = th 13 := rfl
        have hT : TI g ad (gset (gset (gset (gset (gset (gset th 37 zg19_za) 40 zg19_zr) 41 zg19_zl) 42 zg19_ze) 36 zg19_zn) 37 zz68) f65 := eL67T
        have hT : TI g ad (gset (gset (gset (gset (gset th 40 zg19_zr) 41 zg19_zl) 42 zg19_ze) 36 zg19_zn) 37 zz68) f65 := TI.cast hT (by funext q; by_cases hq0 : q = 37; (subst hq0; rfl); by_cases hq1 : q = 36; (subst hq1; rfl); by_cases hq2 : q = 42; (subst hq2; rfl); by_cases hq3 : q = 41; (subst hq3; rfl); by_cases hq4 : q = 40; (subst hq4; rfl); simp only [gset, if_neg hq0, if_neg hq1, if_neg hq2, if_neg hq3, if_neg hq4])
        have eL67F : ∀ b, b ≠ (ad 255) → f65 b = f_19 b := eL67F
        have hfr : (∀ b, b ≠ (ad 255) → b ≠ (ad 259) → f65 b = f b) := fun b z0_ z1_ => (eL67F b z0_).trans (hfr b z0_ z1_)
        have eL67R : In r63 (-1) 255 := eL67R
        refine lv_bipush (v := 59) hx hb dX11_readsPlan_31 (by decide) ?_
        refine lv_icmp_ne (tgt := 53) hx hb dX11_readsPlan_33 (by decide) (fun c71 => ?_) (fun c71 => ?_)
        ·
          have oc59 : (59 : Int32).toInt = 59 := by decide
          have cc72 : r63.toInt ≠ (59 : Int32).toInt := i32_ne c71
          exact hJ53 zz68 zg19_zr zg19_zl zg19_ze zg19_zn _ _ _ _ (show (0 ≤ zz68 ∧ zz68 ≤ 500) from (by have ob13 : (0 : Int) ≤ (th 13) ∧ (th 13) ≤ 500 := (b0_13 hT :); have ob35 : (0 : Int) ≤ (th 35) ∧ (th 35) ≤ 63 := (b0_35 hT :); have ob36 : (0 : Int) ≤ zg19_zn ∧ zg19_zn ≤ 20 := (b0_36 hT :); have ob37 : (0 : Int) ≤ zz68 ∧ zz68 ≤ 500 := (b0_37 hT :); have ob40 : (0 : Int) ≤ zg19_zr ∧ zg19_zr ≤ 500 := (b0_40 hT :); have ob41 : (0 : Int) ≤ zg19_zl ∧ zg19_zl ≤ 500 := (b0_41 hT :); have ob42 : ((-1) : Int) ≤ zg19_ze ∧ zg19_ze ≤ 500 := (b0_42 hT :); have ob43 : ((-1) : Int) ≤ (th 43) ∧ (th 43) ≤ 1 := (b0_43 hT :); omega)) hP hD hS (TI.cast hT (by funext q; by_cases hq0 : q = 37; (subst hq0; rfl); by_cases hq1 : q = 36; (subst hq1; rfl); by_cases hq2 : q = 42; (subst hq2; rfl); by_cases hq3 : q = 41; (subst hq3; rfl); by_cases hq4 : q = 40; (subst hq4; rfl); simp only [gset, if_neg hq0, if_neg hq1, if_neg hq2, if_neg hq3, if_neg hq4])) hfr (lv_sub hl [0] rfl)
        ·
          have oc59 : (59 : Int32).toInt = 59 := by decide
          have cc73 : r63.toInt = (59 : Int32).toInt := congrArg Int32.toInt c71
          have hb74 : In r63 59 59 := In.eq1 eL67R (⟨by decide, by decide⟩ : In 59 59 59) cc73 (by decide) (by decide)
          refine lv_aload_n hx hb dX11_readsPlan_36 rfl (lv_at hl 0 rfl) ?_
          refine lv_dup hx hb dX11_readsPlan_37 rfl ?_
          refine M0e hT (fun v0_75 v2_75 v3_75 v4_75 v5_75 v6_75 v8_75 v9_75 v12_75 v13_75 v14_75 v15_75 v16_75 v17_75 v18_75 v19_75 v20_75 v21_75 v22_75 v23_75 v25_75 v36_75 v37_75 v38_75 v39_75 v40_75 v45_75 v46_75 v47_75 v48_75 v50_75 v51_75 v53_75 v55_75 hf76 hv0_75 hv2_75 hg2_75 hv3_75 hg3_75 hv4_75 hg4_75 hv5_75 hg5_75 hv6_75 hg6_75 hv8_75 hg8_75 hv9_75 hg9_75 hv12_75 hv13_75 hg13_75 hv14_75 hg14_75 hv15_75 hg15_75 hv17_75 hg17_75 hv20_75 hg20_75 hv23_75 hg23_75 hv25_75 hg25_75 hv36_75 hg36_75 hv47_75 hg47_75 hv48_75 hg48_75 hv53_75 hg53_75 hv55_75 hg55_75 hrel0_75 => ?_)
          have hg15_75 : v15_75.toInt = th 11 := hg15_75
          have hg17_75 : v17_75.toInt = th 12 := hg17_75
          have hg20_75 : v20_75.toInt = th 14 := hg20_75
          refine pl_get (v := .int v3_75) hx hb hts (fun w h => mT (inX11 w h)) hown hG.1 hP (hst.1 255 (by decide)) hf76 rfl 3 (by decide) (hts _ (mT wg_1339)) (fun _ h => h) rfl dX11_readsPlan_38 ?_
          have hg3_75 : v3_75.toInt = zz68 := hg3_75
          refine lv_iconst (v := 1) hx hb dX11_readsPlan_41 (by decide) ?_
          refine lv_iadd hx hb dX11_readsPlan_42 ?_
          refine lv_topi (fun x77 ex77 => ?_)
          have hb78 : In x77 1 501 := ex77 ▸ In.add hv3_75 (⟨by decide, by decide⟩ : In 1 1 1) (by decide) (by decide) (by decide) (by decide)
          have et79 : x77.toInt = v3_75.toInt + 1 := In.adde ex77 hv3_75 (k := 1) (by decide) (by decide) (by decide)
          refine pl_put (ty := .int) (v := .int x77) (fs' := [.int v0_75, .ref (ad 256), .int v2_75, .int x77, .int v4_75, .int v5_75, .int v6_75, .ref (ad 257), .int v8_75, .int v9_75, .ref (ad 258), .ref (ad 259), .int v12_75, .int v13_75, .int v14_75, .int v15_75, .int v16_75, .int v17_75, .int v18_75, .int v19_75, .int v20_75, .long v21_75, .long v22_75, .int v23_75, .ref (ad 260), .int v25_75, .ref (ad 261), .ref (ad 262), .ref (ad 263), .ref (ad 264), .ref (ad 265), .ref (ad 266), .ref (ad 267), .ref (ad 268), .ref (ad 269), .ref (ad 270), .int v36_75, .int v37_75, .int v38_75, .int v39_75, .int v40_75, .ref (ad 271), .ref (ad 272), .ref (ad 273), .ref (ad 274), .long v45_75, .long v46_75, .int v47_75, .int v48_75, .ref (ad 275), .int v50_75, .int v51_75, .ref (ad 276), .int v53_75, .ref (ad 277), .int v55_75]) hx hb hts (fun w h => mT (inX11 w h)) tyX11 tyX11_ok nmX11 hown hG.1 hP hD hS (hst.1 255 (by decide)) hf76 rfl 3 (by decide) (hts _ (mT wg_1339)) (fun _ h => h) rfl (by decide +kernel) (rfl) (rfl) (Nat.le_of_ble_eq_true rfl) rfl dX11_readsPlan_43 (fun H locs f80 hf81 ho82 hP hD hS => ?_)
          have hfr : (∀ b, b ≠ (ad 255) → b ≠ (ad 259) → f80 b = f b) := fun b z0_ z1_ => (ho82 b z0_).trans (hfr b z0_ z1_)
          refine lv_aload_n hx hb dX11_readsPlan_46 rfl (lv_at hl 0 rfl) ?_
          have hT := TI.updMG (th' := (gset (gset (gset (gset (gset (gset th 40 zg19_zr) 41 zg19_zl) 42 zg19_ze) 36 zg19_zn) 37 zz68) 37 (x77.toInt))) hT hst (k := 0) (by decide) hf81 ho82 ⟨v0_75, v2_75, x77, v4_75, v5_75, v6_75, v8_75, v9_75, v12_75, v13_75, v14_75, v15_75, v16_75, v17_75, v18_75, v19_75, v20_75, v21_75, v22_75, v23_75, v25_75, v36_75, v37_75, v38_75, v39_75, v40_75, v45_75, v46_75, v47_75, v48_75, v50_75, v51_75, v53_75, v55_75, rfl, hv0_75, hv2_75, hg2_75, (In.mk (by have ob13 : (0 : Int) ≤ (th 13) ∧ (th 13) ≤ 500 := (b0_13 hT :); have ob35 : (0 : Int) ≤ (th 35) ∧ (th 35) ≤ 63 := (b0_35 hT :); have ob36 : (0 : Int) ≤ zg19_zn ∧ zg19_zn ≤ 20 := (b0_36 hT :); have ob37 : (0 : Int) ≤ zz68 ∧ zz68 ≤ 500 := (b0_37 hT :); have ob40 : (0 : Int) ≤ zg19_zr ∧ zg19_zr ≤ 500 := (b0_40 hT :); have ob41 : (0 : Int) ≤ zg19_zl ∧ zg19_zl ≤ 500 := (b0_41 hT :); have ob42 : ((-1) : Int) ≤ zg19_ze ∧ zg19_ze ≤ 500 := (b0_42 hT :); have ob43 : ((-1) : Int) ≤ (th 43) ∧ (th 43) ≤ 1 := (b0_43 hT :); obtain ⟨o0a, o0b⟩ := (hb78 : In _ _ _); obtain ⟨o1a, o1b⟩ := (hv2_75 : In _ _ _); obtain ⟨o2a, o2b⟩ := (hv4_75 : In _ _ _); obtain ⟨o3a, o3b⟩ := (hv5_75 : In _ _ _); obtain ⟨o4a, o4b⟩ := (hv6_75 : In _ _ _); obtain ⟨o5a, o5b⟩ := (hv8_75 : In _ _ _); obtain ⟨o6a, o6b⟩ := (hv9_75 : In _ _ _); obtain ⟨o7a, o7b⟩ := (hv13_75 : In _ _ _); obtain ⟨o8a, o8b⟩ := (hv3_75 : In _ _ _); omega) (by have ob13 : (0 : Int) ≤ (th 13) ∧ (th 13) ≤ 500 := (b0_13 hT :); have ob35 : (0 : Int) ≤ (th 35) ∧ (th 35) ≤ 63 := (b0_35 hT :); have ob36 : (0 : Int) ≤ zg19_zn ∧ zg19_zn ≤ 20 := (b0_36 hT :); have ob37 : (0 : Int) ≤ zz68 ∧ zz68 ≤ 500 := (b0_37 hT :); have ob40 : (0 : Int) ≤ zg19_zr ∧ zg19_zr ≤ 500 := (b0_40 hT :); have ob41 : (0 : Int) ≤ zg19_zl ∧ zg19_zl ≤ 500 := (b0_41 hT :); have ob42 : ((-1) : Int) ≤ zg19_ze ∧ zg19_ze ≤ 500 := (b0_42 hT :); have ob43 : ((-1) : Int) ≤ (th 43) ∧ (th 43) ≤ 1 := (b0_43 hT :); obtain ⟨o0a, o0b⟩ := (hb78 : In _ _ _); obtain ⟨o1a, o1b⟩ := (hv2_75 : In _ _ _); obtain ⟨o2a, o2b⟩ := (hv4_75 : In _ _ _); obtain ⟨o3a, o3b⟩ := (hv5_75 : In _ _ _); obtain ⟨o4a, o4b⟩ := (hv6_75 : In _ _ _); obtain ⟨o5a, o5b⟩ := (hv8_75 : In _ _ _); obtain ⟨o6a, o6b⟩ := (hv9_75 : In _ _ _); obtain ⟨o7a, o7b⟩ := (hv13_75 : In _ _ _); obtain ⟨o8a, o8b⟩ := (hv3_75 : In _ _ _); omega)), rfl, hv4_75, hg4_75, hv5_75, hg5_75, hv6_75, hg6_75, hv8_75, hg8_75, hv9_75, hg9_75, hv12_75, hv13_75, hg13_75, hv14_75, hg14_75, hv15_75, hg15_75, hv17_75, hg17_75, hv20_75, hg20_75, hv23_75, hg23_75, hv25_75, hg25_75, hv36_75, hg36_75, hv47_75, hg47_75, hv48_75, hg48_75, hv53_75, hg53_75, hv55_75, hg55_75, hrel0_75⟩ (fun q hq => ((gset_ne (fun e => hq (by subst e; decide))).trans rfl))
          have hT : TI g ad (gset (gset (gset (gset (gset th 40 zg19_zr) 41 zg19_zl) 42 zg19_ze) 36 zg19_zn) 37 x77.toInt) f80 := TI.cast hT (by funext q; by_cases hq0 : q = 37; (subst hq0; rfl); by_cases hq1 : q = 36; (subst hq1; rfl); by_cases hq2 : q = 42; (subst hq2; rfl); by_cases hq3 : q = 41; (subst hq3; rfl); by_cases hq4 : q = 40; (subst hq4; rfl); simp only [gset, if_neg hq0, if_neg hq1, if_neg hq2, if_neg hq3, if_neg hq4])
          refine M0e hT (fun v0_83 v2_83 v3_83 v4_83 v5_83 v6_83 v8_83 v9_83 v12_83 v13_83 v14_83 v15_83 v16_83 v17_83 v18_83 v19_83 v20_83 v21_83 v22_83 v23_83 v25_83 v36_83 v37_83 v38_83 v39_83 v40_83 v45_83 v46_83 v47_83 v48_83 v50_83 v51_83 v53_83 v55_83 hf84 hv0_83 hv2_83 hg2_83 hv3_83 hg3_83 hv4_83 hg4_83 hv5_83 hg5_83 hv6_83 hg6_83 hv8_83 hg8_83 hv9_83 hg9_83 hv12_83 hv13_83 hg13_83 hv14_83 hg14_83 hv15_83 hg15_83 hv17_83 hg17_83 hv20_83 hg20_83 hv23_83 hg23_83 hv25_83 hg25_83 hv36_83 hg36_83 hv47_83 hg47_83 hv48_83 hg48_83 hv53_83 hg53_83 hv55_83 hg55_83 hrel0_83 => ?_)
          have hg15_83 : v15_83.toInt = th 11 := hg15_83
          have hg17_83 : v17_83.toInt = th 12 := hg17_83
          have hg20_83 : v20_83.toInt = th 14 := hg20_83
          refine call_v (run_V (rm := rm_X11_planLine) hx hb hml hown hts (s_X11_planLine l g ad (gset (gset (gset (gset (gset th 40 zg19_zr) 41 zg19_zl) 42 zg19_ze) 36 zg19_zn) 37 x77.toInt) _ _ _  hst hT ) cV_X11_planLine wg_1596 ⟨Nat.le_of_ble_eq_true rfl, Nat.le_of_ble_eq_true rfl⟩ hG hE hA hP hD hS (hst.1 255 (by decide)) hf84 rfl rfl hl.1 (As := []) (rest := []) rfl (Nat.le_of_ble_eq_true rfl) dX11_readsPlan_47 ⟨Nat.le_of_ble_eq_true rfl, Nat.le_of_ble_eq_true rfl⟩) hA hD hS (fun L86 f87 H locs hp88 hP hD hS => ?_)
          obtain ⟨eL89L, eL89T, eL89F⟩ := hp88
          have eL89L : L86 = L := eL89L
          rw [eL89L] at hP hD
          obtain ⟨zz90, zz91, zz92, zz93, zz94, hzz90, eL89T⟩ := eL89T
          have hzz90 : x77.toInt ≤ zz90 ∧ zz90 ≤ 500 := hzz90
          have hT : TI g ad (gset (gset (gset (gset (gset (gset (gset (gset (gset (gset th 40 zg19_zr) 41 zg19_zl) 42 zg19_ze) 36 zg19_zn) 37 x77.toInt) 37 zz90) 40 zz91) 41 zz92) 42 zz93) 36 zz94) f87 := eL89T
          have hT : TI g ad (gset (gset (gset (gset (gset th 37 zz90) 40 zz91) 41 zz92) 42 zz93) 36 zz94) f87 := TI.cast hT (by funext q; by_cases hq0 : q = 36; (subst hq0; rfl); by_cases hq1 : q = 42; (subst hq1; rfl); by_cases hq2 : q = 41; (subst hq2; rfl); by_cases hq3 : q = 40; (subst hq3; rfl); by_cases hq4 : q = 37; (subst hq4; rfl); simp only [gset, if_neg hq0, if_neg hq1, if_neg hq2, if_neg hq3, if_neg hq4])
          have eL89F : ∀ b, b ≠ (ad 255) → b ≠ (ad 259) → f87 b = f80 b := eL89F
          have hfr : (∀ b, b ≠ (ad 255) → b ≠ (ad 259) → f87 b = f b) := fun b z0_ z1_ => (eL89F b z0_ z1_).trans (hfr b z0_ z1_)
          refine lv_goto (tgt := 19) hx hb dX11_readsPlan_50 (by decide) ?_
          exact ih19 zz90 zz91 zz92 zz93 zz94 _ _ _ _ (show (0 ≤ zz90 ∧ zz90 ≤ 500) from (by have ob13 : (0 : Int) ≤ (th 13) ∧ (th 13) ≤ 500 := (b0_13 hT :); have ob35 : (0 : Int) ≤ (th 35) ∧ (th 35) ≤ 63 := (b0_35 hT :); have ob36 : (0 : Int) ≤ zz94 ∧ zz94 ≤ 20 := (b0_36 hT :); have ob37 : (0 : Int) ≤ zz90 ∧ zz90 ≤ 500 := (b0_37 hT :); have ob40 : (0 : Int) ≤ zz91 ∧ zz91 ≤ 500 := (b0_40 hT :); have ob41 : (0 : Int) ≤ zz92 ∧ zz92 ≤ 500 := (b0_41 hT :); have ob42 : ((-1) : Int) ≤ zz93 ∧ zz93 ≤ 500 := (b0_42 hT :); have ob43 : ((-1) : Int) ≤ (th 43) ∧ (th 43) ≤ 1 := (b0_43 hT :); omega)) hP hD hS (TI.cast hT (by funext q; by_cases hq0 : q = 36; (subst hq0; rfl); by_cases hq1 : q = 42; (subst hq1; rfl); by_cases hq2 : q = 41; (subst hq2; rfl); by_cases hq3 : q = 40; (subst hq3; rfl); by_cases hq4 : q = 37; (subst hq4; rfl); simp only [gset, if_neg hq0, if_neg hq1, if_neg hq2, if_neg hq3, if_neg hq4])) hfr (lv_sub hl [0] rfl) (show 500 - (zz90) < ((k19 : Nat) : Int) from (by have ob13 : (0 : Int) ≤ (th 13) ∧ (th 13) ≤ 500 := (b0_13 hT :); have ob35 : (0 : Int) ≤ (th 35) ∧ (th 35) ≤ 63 := (b0_35 hT :); have ob36 : (0 : Int) ≤ zz94 ∧ zz94 ≤ 20 := (b0_36 hT :); have ob37 : (0 : Int) ≤ zz90 ∧ zz90 ≤ 500 := (b0_37 hT :); have ob40 : (0 : Int) ≤ zz91 ∧ zz91 ≤ 500 := (b0_40 hT :); have ob41 : (0 : Int) ≤ zz92 ∧ zz92 ≤ 500 := (b0_41 hT :); have ob42 : ((-1) : Int) ≤ zz93 ∧ zz93 ≤ 500 := (b0_42 hT :); have ob43 : ((-1) : Int) ≤ (th 43) ∧ (th 43) ≤ 1 := (b0_43 hT :); omega))
  exact hJ19 ((500 - zz21).toNat + 1) zz21 zz22 zz23 zz24 zz25 _ _ _ _ (show (0 ≤ zz21 ∧ zz21 ≤ 500) from (by have ob13 : (0 : Int) ≤ (th 13) ∧ (th 13) ≤ 500 := (b0_13 hT :); have ob35 : (0 : Int) ≤ (th 35) ∧ (th 35) ≤ 63 := (b0_35 hT :); have ob36 : (0 : Int) ≤ zz25 ∧ zz25 ≤ 20 := (b0_36 hT :); have ob37 : (0 : Int) ≤ zz21 ∧ zz21 ≤ 500 := (b0_37 hT :); have ob40 : (0 : Int) ≤ zz22 ∧ zz22 ≤ 500 := (b0_40 hT :); have ob41 : (0 : Int) ≤ zz23 ∧ zz23 ≤ 500 := (b0_41 hT :); have ob42 : ((-1) : Int) ≤ zz24 ∧ zz24 ≤ 500 := (b0_42 hT :); have ob43 : ((-1) : Int) ≤ (th 43) ∧ (th 43) ≤ 1 := (b0_43 hT :); omega)) hP hD hS (TI.cast hT (by funext q; by_cases hq0 : q = 36; (subst hq0; rfl); by_cases hq1 : q = 42; (subst hq1; rfl); by_cases hq2 : q = 41; (subst hq2; rfl); by_cases hq3 : q = 40; (subst hq3; rfl); by_cases hq4 : q = 37; (subst hq4; rfl); simp only [gset, if_neg hq0, if_neg hq1, if_neg hq2, if_neg hq3, if_neg hq4])) hfr (lv_sub hl [0] rfl) (msI _)
