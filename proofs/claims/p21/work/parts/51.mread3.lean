abbrev rm_X11_readsCouncil : Room := { frames := 7, cells := 0, slots := 0, locals := 151 }
abbrev po_X11_readsCouncil (g : GG) (ad : Nat → Nat) (th : Nat → Int) (L : List Nat) (f : HP)  : Int32 → (List Nat × HP) → Prop := fun r u => u.1 = L ∧ (∃ za zr zl ze zt zs zf zq : Int, (r.toInt ≠ -1 ∨ ((zt % 2 = 1 ∧ 0 ≤ zq) ∧ DIp zt zs zf)) ∧ TI g ad (gset (gset (gset (gset (gset (gset (gset (gset th 37 za) 40 zr) 41 zl) 42 ze) 35 zt) 30 zs) 34 zf) 43 zq) u.2) ∧ (∀ b, b ≠ (ad 255) → b ≠ (ad 257) → u.2 b = f b) ∧ In r (-1) 500
set_option maxHeartbeats 4000000 in
set_option maxRecDepth 100000 in
theorem s_X11_readsCouncil (l : Launch) (g : GG) (ad : Nat → Nat) (th : Nat → Int) (L : List Nat) (f : HP) (sz : Nat)  (hst : ST ad L) (hT : TI g ad th f)  : MtI l g yX11_readsCouncil cX11_readsCouncil 2 (some .int) rm_X11_readsCouncil [.ref (ad 255)] L f sz (po_X11_readsCouncil g ad th L f ) := by
  refine MtI.of (by decide +kernel) (Nat.le_of_ble_eq_true rfl) ?_
  intro p e s m below meth c A hEn hP hD hS ls hl
  obtain ⟨hx, hb, hr, hml, hown, hlocks, hts, hG, hA, hE, hnm⟩ := hEn
  have hown : s.vm.findClass "RulerWordModel" = some m.cls := hown
  have hl : lv_has ls 2 [(0, .ref (ad 255))] := hl
  have hfr : (∀ b, b ≠ (ad 255) → b ≠ (ad 257) → f b = f b) := fun b z0_ z1_ => rfl
  refine lv_aload_n hx hb dX11_readsCouncil_0 rfl (lv_at hl 0 rfl) ?_
  refine lv_iconst (v := 0) hx hb dX11_readsCouncil_1 (by decide) ?_
  refine M0e hT (fun v0_1 v2_1 v3_1 v4_1 v5_1 v6_1 v8_1 v9_1 v12_1 v13_1 v14_1 v15_1 v16_1 v17_1 v18_1 v19_1 v20_1 v21_1 v22_1 v23_1 v25_1 v36_1 v37_1 v38_1 v39_1 v40_1 v45_1 v46_1 v47_1 v48_1 v50_1 v51_1 v53_1 v55_1 hf2 hv0_1 hv2_1 hg2_1 hv3_1 hg3_1 hv4_1 hg4_1 hv5_1 hg5_1 hv6_1 hg6_1 hv8_1 hg8_1 hv9_1 hg9_1 hv12_1 hv13_1 hg13_1 hv14_1 hg14_1 hv15_1 hg15_1 hv17_1 hg17_1 hv20_1 hg20_1 hv23_1 hg23_1 hv25_1 hg25_1 hv36_1 hg36_1 hv47_1 hg47_1 hv48_1 hg48_1 hv53_1 hg53_1 hv55_1 hg55_1 hrel0_1 => ?_)
  have hg15_1 : v15_1.toInt = th 11 := hg15_1
  have hg20_1 : v20_1.toInt = th 14 := hg20_1
  refine pl_put (ty := .int) (v := .int 0) (fs' := [.int v0_1, .ref (ad 256), .int v2_1, .int 0, .int v4_1, .int v5_1, .int v6_1, .ref (ad 257), .int v8_1, .int v9_1, .ref (ad 258), .ref (ad 259), .int v12_1, .int v13_1, .int v14_1, .int v15_1, .int v16_1, .int v17_1, .int v18_1, .int v19_1, .int v20_1, .long v21_1, .long v22_1, .int v23_1, .ref (ad 260), .int v25_1, .ref (ad 261), .ref (ad 262), .ref (ad 263), .ref (ad 264), .ref (ad 265), .ref (ad 266), .ref (ad 267), .ref (ad 268), .ref (ad 269), .ref (ad 270), .int v36_1, .int v37_1, .int v38_1, .int v39_1, .int v40_1, .ref (ad 271), .ref (ad 272), .ref (ad 273), .ref (ad 274), .long v45_1, .long v46_1, .int v47_1, .int v48_1, .ref (ad 275), .int v50_1, .int v51_1, .ref (ad 276), .int v53_1, .ref (ad 277), .int v55_1]) hx hb hts (fun w h => mT (inX11 w h)) tyX11 tyX11_ok nmX11 hown hG.1 hP hD hS (hst.1 255 (by decide)) hf2 rfl 3 (by decide) (hts _ (mT wg_1339)) (fun _ h => h) rfl (by decide +kernel) (rfl) (rfl) (Nat.le_of_ble_eq_true rfl) rfl dX11_readsCouncil_2 (fun H locs f3 hf4 ho5 hP hD hS => ?_)
  have hfr : (∀ b, b ≠ (ad 255) → b ≠ (ad 257) → f3 b = f b) := fun b z0_ z1_ => (ho5 b z0_).trans (hfr b z0_ z1_)
  refine lv_aload_n hx hb dX11_readsCouncil_5 rfl (lv_at hl 0 rfl) ?_
  refine lv_iconst (v := (-1)) hx hb dX11_readsCouncil_6 (by decide) ?_
  refine pl_put (ty := .int) (v := .int (-1)) (fs' := [.int v0_1, .ref (ad 256), .int v2_1, .int 0, .int (-1), .int v5_1, .int v6_1, .ref (ad 257), .int v8_1, .int v9_1, .ref (ad 258), .ref (ad 259), .int v12_1, .int v13_1, .int v14_1, .int v15_1, .int v16_1, .int v17_1, .int v18_1, .int v19_1, .int v20_1, .long v21_1, .long v22_1, .int v23_1, .ref (ad 260), .int v25_1, .ref (ad 261), .ref (ad 262), .ref (ad 263), .ref (ad 264), .ref (ad 265), .ref (ad 266), .ref (ad 267), .ref (ad 268), .ref (ad 269), .ref (ad 270), .int v36_1, .int v37_1, .int v38_1, .int v39_1, .int v40_1, .ref (ad 271), .ref (ad 272), .ref (ad 273), .ref (ad 274), .long v45_1, .long v46_1, .int v47_1, .int v48_1, .ref (ad 275), .int v50_1, .int v51_1, .ref (ad 276), .int v53_1, .ref (ad 277), .int v55_1]) hx hb hts (fun w h => mT (inX11 w h)) tyX11 tyX11_ok nmX11 hown hG.1 hP hD hS (hst.1 255 (by decide)) hf4 rfl 4 (by decide) (hts _ (mT wg_1340)) (fun _ h => h) rfl (by decide +kernel) (rfl) (rfl) (Nat.le_of_ble_eq_true rfl) rfl dX11_readsCouncil_7 (fun H locs f6 hf7 ho8 hP hD hS => ?_)
  have ho9 : ∀ b, b ≠ (ad 255) → f6 b = _ := fun b hb => (ho8 b hb).trans (ho5 b hb)
  have hfr : (∀ b, b ≠ (ad 255) → b ≠ (ad 257) → f6 b = f b) := fun b z0_ z1_ => (ho8 b z0_).trans (hfr b z0_ z1_)
  refine lv_aload_n hx hb dX11_readsCouncil_10 rfl (lv_at hl 0 rfl) ?_
  refine lv_iconst (v := 0) hx hb dX11_readsCouncil_11 (by decide) ?_
  refine pl_put (ty := .int) (v := .int 0) (fs' := [.int v0_1, .ref (ad 256), .int v2_1, .int 0, .int (-1), .int v5_1, .int v6_1, .ref (ad 257), .int v8_1, .int 0, .ref (ad 258), .ref (ad 259), .int v12_1, .int v13_1, .int v14_1, .int v15_1, .int v16_1, .int v17_1, .int v18_1, .int v19_1, .int v20_1, .long v21_1, .long v22_1, .int v23_1, .ref (ad 260), .int v25_1, .ref (ad 261), .ref (ad 262), .ref (ad 263), .ref (ad 264), .ref (ad 265), .ref (ad 266), .ref (ad 267), .ref (ad 268), .ref (ad 269), .ref (ad 270), .int v36_1, .int v37_1, .int v38_1, .int v39_1, .int v40_1, .ref (ad 271), .ref (ad 272), .ref (ad 273), .ref (ad 274), .long v45_1, .long v46_1, .int v47_1, .int v48_1, .ref (ad 275), .int v50_1, .int v51_1, .ref (ad 276), .int v53_1, .ref (ad 277), .int v55_1]) hx hb hts (fun w h => mT (inX11 w h)) tyX11 tyX11_ok nmX11 hown hG.1 hP hD hS (hst.1 255 (by decide)) hf7 rfl 9 (by decide) (hts _ (mT wg_1345)) (fun _ h => h) rfl (by decide +kernel) (rfl) (rfl) (Nat.le_of_ble_eq_true rfl) rfl dX11_readsCouncil_12 (fun H locs f10 hf11 ho12 hP hD hS => ?_)
  have ho13 : ∀ b, b ≠ (ad 255) → f10 b = _ := fun b hb => (ho12 b hb).trans (ho9 b hb)
  have hfr : (∀ b, b ≠ (ad 255) → b ≠ (ad 257) → f10 b = f b) := fun b z0_ z1_ => (ho12 b z0_).trans (hfr b z0_ z1_)
  refine lv_iconst (v := 0) hx hb dX11_readsCouncil_15 (by decide) ?_
  refine lv_istore_n (lv' := [(1, .int 0), (0, .ref (ad 255))]) hx hb dX11_readsCouncil_16 rfl hl (by decide) rfl (fun ls hl => ?_)
  refine lv_iload_n hx hb dX11_readsCouncil_17 rfl (lv_at hl 0 rfl) ?_
  refine lv_bipush (v := 6) hx hb dX11_readsCouncil_18 (by decide) ?_
  have hT := TI.updMG (th' := (gset (gset (gset th 37 (0)) 42 ((-1))) 35 (0))) hT hst (k := 0) (by decide) hf11 ho13 ⟨v0_1, v2_1, 0, (-1), v5_1, v6_1, v8_1, 0, v12_1, v13_1, v14_1, v15_1, v16_1, v17_1, v18_1, v19_1, v20_1, v21_1, v22_1, v23_1, v25_1, v36_1, v37_1, v38_1, v39_1, v40_1, v45_1, v46_1, v47_1, v48_1, v50_1, v51_1, v53_1, v55_1, rfl, hv0_1, hv2_1, hg2_1, (⟨by decide, by decide⟩ : In 0 0 500), (show (0 : Int32).toInt = 0 by decide), (⟨by decide, by decide⟩ : In (-1) (-1) 500), (show ((-1) : Int32).toInt = (-1) by decide), hv5_1, hg5_1, hv6_1, hg6_1, hv8_1, hg8_1, (⟨by decide, by decide⟩ : In 0 0 63), (show (0 : Int32).toInt = 0 by decide), hv12_1, hv13_1, hg13_1, hv14_1, hg14_1, hv15_1, hg15_1, hv17_1, hg17_1, hv20_1, hg20_1, hv23_1, hg23_1, hv25_1, hg25_1, hv36_1, hg36_1, hv47_1, hg47_1, hv48_1, hg48_1, hv53_1, hg53_1, hv55_1, hg55_1, hrel0_1⟩ (fun q hq => ((gset_ne (fun e => hq (by subst e; decide))).trans ((gset_ne (fun e => hq (by subst e; decide))).trans ((gset_ne (fun e => hq (by subst e; decide))).trans rfl))))
  have hT : TI g ad (gset (gset (gset th 37 0) 42 (-1)) 35 0) f10 := TI.cast hT (by funext q; by_cases hq0 : q = 35; (subst hq0; rfl); by_cases hq1 : q = 42; (subst hq1; rfl); by_cases hq2 : q = 37; (subst hq2; rfl); simp only [gset, if_neg hq0, if_neg hq1, if_neg hq2])
  refine lv_icmp_ge (tgt := 36) hx hb dX11_readsCouncil_20 (by decide) (fun c14 => ?_) (fun c14 => ?_)
  ·
    have oc0 : (0 : Int32).toInt = 0 := by decide
    have oc6 : (6 : Int32).toInt = 6 := by decide
    have cc15 : (6 : Int32).toInt ≤ (0 : Int32).toInt := i32_le.mp c14
    exact In.empty (lo := 6) (hi := 0) (In.ge1 (⟨by decide, by decide⟩ : In 0 0 0) (⟨by decide, by decide⟩ : In 6 6 6) cc15 (by decide) (by decide)) (by decide)
  ·
    have oc0 : (0 : Int32).toInt = 0 := by decide
    have oc6 : (6 : Int32).toInt = 6 := by decide
    have cc16 : (0 : Int32).toInt < (6 : Int32).toInt := i32_nle c14
    refine lv_aload_n hx hb dX11_readsCouncil_23 rfl (lv_at hl 1 rfl) ?_
    refine M0e hT (fun v0_17 v2_17 v3_17 v4_17 v5_17 v6_17 v8_17 v9_17 v12_17 v13_17 v14_17 v15_17 v16_17 v17_17 v18_17 v19_17 v20_17 v21_17 v22_17 v23_17 v25_17 v36_17 v37_17 v38_17 v39_17 v40_17 v45_17 v46_17 v47_17 v48_17 v50_17 v51_17 v53_17 v55_17 hf18 hv0_17 hv2_17 hg2_17 hv3_17 hg3_17 hv4_17 hg4_17 hv5_17 hg5_17 hv6_17 hg6_17 hv8_17 hg8_17 hv9_17 hg9_17 hv12_17 hv13_17 hg13_17 hv14_17 hg14_17 hv15_17 hg15_17 hv17_17 hg17_17 hv20_17 hg20_17 hv23_17 hg23_17 hv25_17 hg25_17 hv36_17 hg36_17 hv47_17 hg47_17 hv48_17 hg48_17 hv53_17 hg53_17 hv55_17 hg55_17 hrel0_17 => ?_)
    have hg15_17 : v15_17.toInt = th 11 := hg15_17
    have hg20_17 : v20_17.toInt = th 14 := hg20_17
    refine pl_get (v := .ref (ad 257)) hx hb hts (fun w h => mT (inX11 w h)) hown hG.1 hP (hst.1 255 (by decide)) hf18 rfl 7 (by decide) (hts _ (mT wg_1343)) (fun _ h => h) rfl dX11_readsCouncil_24 ?_
    refine lv_iload_n hx hb dX11_readsCouncil_27 rfl (lv_at hl 0 rfl) ?_
    refine lv_iconst (v := 0) hx hb dX11_readsCouncil_28 (by decide) ?_
    obtain ⟨rw19, hf20, hpn21, hpg22, hpn23, hpn24, hpn25, hpg26⟩ := hT.2.2 2 (by decide)
    refine pl_iastE hx hb hG.1 hP hD hS (hst.1 257 (by decide)) 0 hf20 rfl (In.inb (⟨by decide, by decide⟩ : In 0 0 0) (by decide) (by decide)) dX11_readsCouncil_29 (fun H locs f27 r30 er30 hf28 ho29 hP hD hS => ?_)
    have hpn31 : In (r30 0) 0 9 := (upd_eqI (k := 0) er30 (by decide)) ▸ (⟨by decide, by decide⟩ : In 0 0 9)
    have hpg32 : (r30 0).toInt = (0 : Int32).toInt := congrArg Int32.toInt (upd_eqI (k := 0) er30 (by decide))
    have hpn33 : In (r30 1) 0 4 := (upd_neI (k := 1) er30 (by decide)) ▸ hpn23
    have hpn34 : In (r30 2) 0 6 := (upd_neI (k := 2) er30 (by decide)) ▸ hpn24
    have hpn35 : In (r30 4) 0 511 := (upd_neI (k := 4) er30 (by decide)) ▸ hpn25
    have hpg36 := (congrArg Int32.toInt (upd_neI (k := 4) er30 (by decide))).trans hpg26
    have hf37 := (ho29 (ad 255) (hst.ne (by decide) (by decide) (by decide))).trans hf18
    have hfr : (∀ b, b ≠ (ad 255) → b ≠ (ad 257) → f27 b = f b) := fun b z0_ z1_ => (ho29 b z1_).trans (hfr b z0_ z1_)
    refine lv_iinc (v := 1) (lv' := [(1, .int 1), (0, .ref (ad 255))]) hx hb dX11_readsCouncil_30 hl (k := 0) rfl (by decide) (by decide) rfl (fun ls hl => ?_)
    have hT := TI.updMG (th' := (gset (gset (gset (gset th 37 0) 42 (-1)) 35 0) 30 0)) hT hst (k := 2) (by decide) hf28 ho29 ⟨r30, rfl, hpn31, (hpg32.trans (show (0 : Int32).toInt = (0 : Int) by decide)), hpn33, hpn34, hpn35, (hpg36.trans rfl)⟩ (fun q hq => ((gset_ne (fun e => hq (by subst e; decide))).trans rfl))
    refine lv_goto (tgt := 17) hx hb dX11_readsCouncil_33 (by decide) ?_
    refine lv_iload_n hx hb dX11_readsCouncil_17 rfl (lv_at hl 0 rfl) ?_
    refine lv_bipush (v := 6) hx hb dX11_readsCouncil_18 (by decide) ?_
    refine lv_icmp_ge (tgt := 36) hx hb dX11_readsCouncil_20 (by decide) (fun c38 => ?_) (fun c38 => ?_)
    ·
      have oc1 : (1 : Int32).toInt = 1 := by decide
      have oc6 : (6 : Int32).toInt = 6 := by decide
      have cc39 : (6 : Int32).toInt ≤ (1 : Int32).toInt := i32_le.mp c38
      exact In.empty (lo := 6) (hi := 1) (In.ge1 (⟨by decide, by decide⟩ : In 1 1 1) (⟨by decide, by decide⟩ : In 6 6 6) cc39 (by decide) (by decide)) (by decide)
    ·
      have oc1 : (1 : Int32).toInt = 1 := by decide
      have oc6 : (6 : Int32).toInt = 6 := by decide
      have cc40 : (1 : Int32).toInt < (6 : Int32).toInt := i32_nle c38
      refine lv_aload_n hx hb dX11_readsCouncil_23 rfl (lv_at hl 1 rfl) ?_
      refine M0e hT (fun v0_41 v2_41 v3_41 v4_41 v5_41 v6_41 v8_41 v9_41 v12_41 v13_41 v14_41 v15_41 v16_41 v17_41 v18_41 v19_41 v20_41 v21_41 v22_41 v23_41 v25_41 v36_41 v37_41 v38_41 v39_41 v40_41 v45_41 v46_41 v47_41 v48_41 v50_41 v51_41 v53_41 v55_41 hf42 hv0_41 hv2_41 hg2_41 hv3_41 hg3_41 hv4_41 hg4_41 hv5_41 hg5_41 hv6_41 hg6_41 hv8_41 hg8_41 hv9_41 hg9_41 hv12_41 hv13_41 hg13_41 hv14_41 hg14_41 hv15_41 hg15_41 hv17_41 hg17_41 hv20_41 hg20_41 hv23_41 hg23_41 hv25_41 hg25_41 hv36_41 hg36_41 hv47_41 hg47_41 hv48_41 hg48_41 hv53_41 hg53_41 hv55_41 hg55_41 hrel0_41 => ?_)
      have hg15_41 : v15_41.toInt = th 11 := hg15_41
      have hg20_41 : v20_41.toInt = th 14 := hg20_41
      refine pl_get (v := .ref (ad 257)) hx hb hts (fun w h => mT (inX11 w h)) hown hG.1 hP (hst.1 255 (by decide)) hf42 rfl 7 (by decide) (hts _ (mT wg_1343)) (fun _ h => h) rfl dX11_readsCouncil_24 ?_
      refine lv_iload_n hx hb dX11_readsCouncil_27 rfl (lv_at hl 0 rfl) ?_
      refine lv_iconst (v := 0) hx hb dX11_readsCouncil_28 (by decide) ?_
      obtain ⟨rw43, hf44, hpn45, hpg46, hpn47, hpn48, hpn49, hpg50⟩ := hT.2.2 2 (by decide)
      refine pl_iastE hx hb hG.1 hP hD hS (hst.1 257 (by decide)) 0 hf44 rfl (In.inb (⟨by decide, by decide⟩ : In 1 1 1) (by decide) (by decide)) dX11_readsCouncil_29 (fun H locs f51 r54 er54 hf52 ho53 hP hD hS => ?_)
      have hpn55 : In (r54 0) 0 9 := (upd_neI (k := 0) er54 (by decide)) ▸ hpn45
      have hpg56 := (congrArg Int32.toInt (upd_neI (k := 0) er54 (by decide))).trans hpg46
      have hpn57 : In (r54 1) 0 4 := (upd_eqI (k := 1) er54 (by decide)) ▸ (⟨by decide, by decide⟩ : In 0 0 4)
      have hpn58 : In (r54 2) 0 6 := (upd_neI (k := 2) er54 (by decide)) ▸ hpn48
      have hpn59 : In (r54 4) 0 511 := (upd_neI (k := 4) er54 (by decide)) ▸ hpn49
      have hpg60 := (congrArg Int32.toInt (upd_neI (k := 4) er54 (by decide))).trans hpg50
      have hf61 := (ho53 (ad 255) (hst.ne (by decide) (by decide) (by decide))).trans hf42
      have hfr : (∀ b, b ≠ (ad 255) → b ≠ (ad 257) → f51 b = f b) := fun b z0_ z1_ => (ho53 b z1_).trans (hfr b z0_ z1_)
      refine lv_iinc (v := 2) (lv' := [(1, .int 2), (0, .ref (ad 255))]) hx hb dX11_readsCouncil_30 hl (k := 0) rfl (by decide) (by decide) rfl (fun ls hl => ?_)
      have hT := TI.updM hT hst (k := 2) (by decide) hf52 ho53 ⟨r54, rfl, hpn55, (hpg56.trans rfl), hpn57, hpn58, hpn59, (hpg60.trans rfl)⟩
      refine lv_goto (tgt := 17) hx hb dX11_readsCouncil_33 (by decide) ?_
      refine lv_iload_n hx hb dX11_readsCouncil_17 rfl (lv_at hl 0 rfl) ?_
      refine lv_bipush (v := 6) hx hb dX11_readsCouncil_18 (by decide) ?_
      refine lv_icmp_ge (tgt := 36) hx hb dX11_readsCouncil_20 (by decide) (fun c62 => ?_) (fun c62 => ?_)
      ·
        have oc2 : (2 : Int32).toInt = 2 := by decide
        have oc6 : (6 : Int32).toInt = 6 := by decide
        have cc63 : (6 : Int32).toInt ≤ (2 : Int32).toInt := i32_le.mp c62
        exact In.empty (lo := 6) (hi := 2) (In.ge1 (⟨by decide, by decide⟩ : In 2 2 2) (⟨by decide, by decide⟩ : In 6 6 6) cc63 (by decide) (by decide)) (by decide)
      ·
        have oc2 : (2 : Int32).toInt = 2 := by decide
        have oc6 : (6 : Int32).toInt = 6 := by decide
        have cc64 : (2 : Int32).toInt < (6 : Int32).toInt := i32_nle c62
        refine lv_aload_n hx hb dX11_readsCouncil_23 rfl (lv_at hl 1 rfl) ?_
        refine pl_get (v := .ref (ad 257)) hx hb hts (fun w h => mT (inX11 w h)) hown hG.1 hP (hst.1 255 (by decide)) hf61 rfl 7 (by decide) (hts _ (mT wg_1343)) (fun _ h => h) rfl dX11_readsCouncil_24 ?_
        refine lv_iload_n hx hb dX11_readsCouncil_27 rfl (lv_at hl 0 rfl) ?_
        refine lv_iconst (v := 0) hx hb dX11_readsCouncil_28 (by decide) ?_
        refine pl_iastE hx hb hG.1 hP hD hS (hst.1 257 (by decide)) 0 hf52 rfl (In.inb (⟨by decide, by decide⟩ : In 2 2 2) (by decide) (by decide)) dX11_readsCouncil_29 (fun H locs f65 r68 er68 hf66 ho67 hP hD hS => ?_)
        have hpn69 : In (r68 0) 0 9 := (upd_neI (k := 0) er68 (by decide)) ▸ hpn55
        have hpg70 := (congrArg Int32.toInt (upd_neI (k := 0) er68 (by decide))).trans hpg56
        have hpn71 : In (r68 1) 0 4 := (upd_neI (k := 1) er68 (by decide)) ▸ hpn57
        have hpn72 : In (r68 2) 0 6 := (upd_eqI (k := 2) er68 (by decide)) ▸ (⟨by decide, by decide⟩ : In 0 0 6)
        have hpn73 : In (r68 4) 0 511 := (upd_neI (k := 4) er68 (by decide)) ▸ hpn59
        have hpg74 := (congrArg Int32.toInt (upd_neI (k := 4) er68 (by decide))).trans hpg60
        have hf75 := (ho67 (ad 255) (hst.ne (by decide) (by decide) (by decide))).trans hf61
        have hfr : (∀ b, b ≠ (ad 255) → b ≠ (ad 257) → f65 b = f b) := fun b z0_ z1_ => (ho67 b z1_).trans (hfr b z0_ z1_)
        refine lv_iinc (v := 3) (lv' := [(1, .int 3), (0, .ref (ad 255))]) hx hb dX11_readsCouncil_30 hl (k := 0) rfl (by decide) (by decide) rfl (fun ls hl => ?_)
        have hT := TI.updM hT hst (k := 2) (by decide) hf66 ho67 ⟨r68, rfl, hpn69, (hpg70.trans rfl), hpn71, hpn72, hpn73, (hpg74.trans rfl)⟩
        refine lv_goto (tgt := 17) hx hb dX11_readsCouncil_33 (by decide) ?_
        refine lv_iload_n hx hb dX11_readsCouncil_17 rfl (lv_at hl 0 rfl) ?_
        refine lv_bipush (v := 6) hx hb dX11_readsCouncil_18 (by decide) ?_
        refine lv_icmp_ge (tgt := 36) hx hb dX11_readsCouncil_20 (by decide) (fun c76 => ?_) (fun c76 => ?_)
        ·
          have oc3 : (3 : Int32).toInt = 3 := by decide
          have oc6 : (6 : Int32).toInt = 6 := by decide
          have cc77 : (6 : Int32).toInt ≤ (3 : Int32).toInt := i32_le.mp c76
          exact In.empty (lo := 6) (hi := 3) (In.ge1 (⟨by decide, by decide⟩ : In 3 3 3) (⟨by decide, by decide⟩ : In 6 6 6) cc77 (by decide) (by decide)) (by decide)
        ·
          have oc3 : (3 : Int32).toInt = 3 := by decide
          have oc6 : (6 : Int32).toInt = 6 := by decide
          have cc78 : (3 : Int32).toInt < (6 : Int32).toInt := i32_nle c76
          refine lv_aload_n hx hb dX11_readsCouncil_23 rfl (lv_at hl 1 rfl) ?_
          refine pl_get (v := .ref (ad 257)) hx hb hts (fun w h => mT (inX11 w h)) hown hG.1 hP (hst.1 255 (by decide)) hf75 rfl 7 (by decide) (hts _ (mT wg_1343)) (fun _ h => h) rfl dX11_readsCouncil_24 ?_
          refine lv_iload_n hx hb dX11_readsCouncil_27 rfl (lv_at hl 0 rfl) ?_
          refine lv_iconst (v := 0) hx hb dX11_readsCouncil_28 (by decide) ?_
          refine pl_iastE hx hb hG.1 hP hD hS (hst.1 257 (by decide)) 0 hf66 rfl (In.inb (⟨by decide, by decide⟩ : In 3 3 3) (by decide) (by decide)) dX11_readsCouncil_29 (fun H locs f79 r82 er82 hf80 ho81 hP hD hS => ?_)
          have hpn83 : In (r82 0) 0 9 := (upd_neI (k := 0) er82 (by decide)) ▸ hpn69
          have hpg84 := (congrArg Int32.toInt (upd_neI (k := 0) er82 (by decide))).trans hpg70
          have hpn85 : In (r82 1) 0 4 := (upd_neI (k := 1) er82 (by decide)) ▸ hpn71
          have hpn86 : In (r82 2) 0 6 := (upd_neI (k := 2) er82 (by decide)) ▸ hpn72
          have hpn87 : In (r82 4) 0 511 := (upd_neI (k := 4) er82 (by decide)) ▸ hpn73
          have hpg88 := (congrArg Int32.toInt (upd_neI (k := 4) er82 (by decide))).trans hpg74
          have hf89 := (ho81 (ad 255) (hst.ne (by decide) (by decide) (by decide))).trans hf75
          have hfr : (∀ b, b ≠ (ad 255) → b ≠ (ad 257) → f79 b = f b) := fun b z0_ z1_ => (ho81 b z1_).trans (hfr b z0_ z1_)
          refine lv_iinc (v := 4) (lv' := [(1, .int 4), (0, .ref (ad 255))]) hx hb dX11_readsCouncil_30 hl (k := 0) rfl (by decide) (by decide) rfl (fun ls hl => ?_)
          have hT := TI.updM hT hst (k := 2) (by decide) hf80 ho81 ⟨r82, rfl, hpn83, (hpg84.trans rfl), hpn85, hpn86, hpn87, (hpg88.trans rfl)⟩
          refine lv_goto (tgt := 17) hx hb dX11_readsCouncil_33 (by decide) ?_
          refine lv_iload_n hx hb dX11_readsCouncil_17 rfl (lv_at hl 0 rfl) ?_
          refine lv_bipush (v := 6) hx hb dX11_readsCouncil_18 (by decide) ?_
          refine lv_icmp_ge (tgt := 36) hx hb dX11_readsCouncil_20 (by decide) (fun c90 => ?_) (fun c90 => ?_)
          ·
            have oc4 : (4 : Int32).toInt = 4 := by decide
            have oc6 : (6 : Int32).toInt = 6 := by decide
            have cc91 : (6 : Int32).toInt ≤ (4 : Int32).toInt := i32_le.mp c90
            exact In.empty (lo := 6) (hi := 4) (In.ge1 (⟨by decide, by decide⟩ : In 4 4 4) (⟨by decide, by decide⟩ : In 6 6 6) cc91 (by decide) (by decide)) (by decide)
          ·
            have oc4 : (4 : Int32).toInt = 4 := by decide
            have oc6 : (6 : Int32).toInt = 6 := by decide
            have cc92 : (4 : Int32).toInt < (6 : Int32).toInt := i32_nle c90
            refine lv_aload_n hx hb dX11_readsCouncil_23 rfl (lv_at hl 1 rfl) ?_
            refine pl_get (v := .ref (ad 257)) hx hb hts (fun w h => mT (inX11 w h)) hown hG.1 hP (hst.1 255 (by decide)) hf89 rfl 7 (by decide) (hts _ (mT wg_1343)) (fun _ h => h) rfl dX11_readsCouncil_24 ?_
            refine lv_iload_n hx hb dX11_readsCouncil_27 rfl (lv_at hl 0 rfl) ?_
            refine lv_iconst (v := 0) hx hb dX11_readsCouncil_28 (by decide) ?_
            refine pl_iastE hx hb hG.1 hP hD hS (hst.1 257 (by decide)) 0 hf80 rfl (In.inb (⟨by decide, by decide⟩ : In 4 4 4) (by decide) (by decide)) dX11_readsCouncil_29 (fun H locs f93 r96 er96 hf94 ho95 hP hD hS => ?_)
            have hpn97 : In (r96 0) 0 9 := (upd_neI (k := 0) er96 (by decide)) ▸ hpn83
            have hpg98 := (congrArg Int32.toInt (upd_neI (k := 0) er96 (by decide))).trans hpg84
            have hpn99 : In (r96 1) 0 4 := (upd_neI (k := 1) er96 (by decide)) ▸ hpn85
            have hpn100 : In (r96 2) 0 6 := (upd_neI (k := 2) er96 (by decide)) ▸ hpn86
            have hpn101 : In (r96 4) 0 511 := (upd_eqI (k := 4) er96 (by decide)) ▸ (⟨by decide, by decide⟩ : In 0 0 511)
            have hpg102 : (r96 4).toInt = (0 : Int32).toInt := congrArg Int32.toInt (upd_eqI (k := 4) er96 (by decide))
            have hf103 := (ho95 (ad 255) (hst.ne (by decide) (by decide) (by decide))).trans hf89
            have hfr : (∀ b, b ≠ (ad 255) → b ≠ (ad 257) → f93 b = f b) := fun b z0_ z1_ => (ho95 b z1_).trans (hfr b z0_ z1_)
            refine lv_iinc (v := 5) (lv' := [(1, .int 5), (0, .ref (ad 255))]) hx hb dX11_readsCouncil_30 hl (k := 0) rfl (by decide) (by decide) rfl (fun ls hl => ?_)
            have hT := TI.updMG (th' := (gset (gset (gset (gset (gset th 37 0) 42 (-1)) 35 0) 30 0) 34 0)) hT hst (k := 2) (by decide) hf94 ho95 ⟨r96, rfl, hpn97, (hpg98.trans rfl), hpn99, hpn100, hpn101, (hpg102.trans (show (0 : Int32).toInt = (0 : Int) by decide))⟩ (fun q hq => ((gset_ne (fun e => hq (by subst e; decide))).trans rfl))
            refine lv_goto (tgt := 17) hx hb dX11_readsCouncil_33 (by decide) ?_
            refine lv_iload_n hx hb dX11_readsCouncil_17 rfl (lv_at hl 0 rfl) ?_
            refine lv_bipush (v := 6) hx hb dX11_readsCouncil_18 (by decide) ?_
            refine lv_icmp_ge (tgt := 36) hx hb dX11_readsCouncil_20 (by decide) (fun c104 => ?_) (fun c104 => ?_)
            ·
              have oc5 : (5 : Int32).toInt = 5 := by decide
              have oc6 : (6 : Int32).toInt = 6 := by decide
              have cc105 : (6 : Int32).toInt ≤ (5 : Int32).toInt := i32_le.mp c104
              exact In.empty (lo := 6) (hi := 5) (In.ge1 (⟨by decide, by decide⟩ : In 5 5 5) (⟨by decide, by decide⟩ : In 6 6 6) cc105 (by decide) (by decide)) (by decide)
            ·
              have oc5 : (5 : Int32).toInt = 5 := by decide
              have oc6 : (6 : Int32).toInt = 6 := by decide
              have cc106 : (5 : Int32).toInt < (6 : Int32).toInt := i32_nle c104
              refine lv_aload_n hx hb dX11_readsCouncil_23 rfl (lv_at hl 1 rfl) ?_
              refine M0e hT (fun v0_107 v2_107 v3_107 v4_107 v5_107 v6_107 v8_107 v9_107 v12_107 v13_107 v14_107 v15_107 v16_107 v17_107 v18_107 v19_107 v20_107 v21_107 v22_107 v23_107 v25_107 v36_107 v37_107 v38_107 v39_107 v40_107 v45_107 v46_107 v47_107 v48_107 v50_107 v51_107 v53_107 v55_107 hf108 hv0_107 hv2_107 hg2_107 hv3_107 hg3_107 hv4_107 hg4_107 hv5_107 hg5_107 hv6_107 hg6_107 hv8_107 hg8_107 hv9_107 hg9_107 hv12_107 hv13_107 hg13_107 hv14_107 hg14_107 hv15_107 hg15_107 hv17_107 hg17_107 hv20_107 hg20_107 hv23_107 hg23_107 hv25_107 hg25_107 hv36_107 hg36_107 hv47_107 hg47_107 hv48_107 hg48_107 hv53_107 hg53_107 hv55_107 hg55_107 hrel0_107 => ?_)
              have hg15_107 : v15_107.toInt = th 11 := hg15_107
              have hg20_107 : v20_107.toInt = th 14 := hg20_107
              refine pl_get (v := .ref (ad 257)) hx hb hts (fun w h => mT (inX11 w h)) hown hG.1 hP (hst.1 255 (by decide)) hf108 rfl 7 (by decide) (hts _ (mT wg_1343)) (fun _ h => h) rfl dX11_readsCouncil_24 ?_
              refine lv_iload_n hx hb dX11_readsCouncil_27 rfl (lv_at hl 0 rfl) ?_
              refine lv_iconst (v := 0) hx hb dX11_readsCouncil_28 (by decide) ?_
              obtain ⟨rw109, hf110, hpn111, hpg112, hpn113, hpn114, hpn115, hpg116⟩ := hT.2.2 2 (by decide)
              refine pl_iastE hx hb hG.1 hP hD hS (hst.1 257 (by decide)) 0 hf110 rfl (In.inb (⟨by decide, by decide⟩ : In 5 5 5) (by decide) (by decide)) dX11_readsCouncil_29 (fun H locs f117 r120 er120 hf118 ho119 hP hD hS => ?_)
              have hpn121 : In (r120 0) 0 9 := (upd_neI (k := 0) er120 (by decide)) ▸ hpn111
              have hpg122 := (congrArg Int32.toInt (upd_neI (k := 0) er120 (by decide))).trans hpg112
              have hpn123 : In (r120 1) 0 4 := (upd_neI (k := 1) er120 (by decide)) ▸ hpn113
              have hpn124 : In (r120 2) 0 6 := (upd_neI (k := 2) er120 (by decide)) ▸ hpn114
              have hpn125 : In (r120 4) 0 511 := (upd_neI (k := 4) er120 (by decide)) ▸ hpn115
              have hpg126 := (congrArg Int32.toInt (upd_neI (k := 4) er120 (by decide))).trans hpg116
              have hf127 := (ho119 (ad 255) (hst.ne (by decide) (by decide) (by decide))).trans hf108
              have hfr : (∀ b, b ≠ (ad 255) → b ≠ (ad 257) → f117 b = f b) := fun b z0_ z1_ => (ho119 b z1_).trans (hfr b z0_ z1_)
              refine lv_iinc (v := 6) (lv' := [(1, .int 6), (0, .ref (ad 255))]) hx hb dX11_readsCouncil_30 hl (k := 0) rfl (by decide) (by decide) rfl (fun ls hl => ?_)
              have hT := TI.updM hT hst (k := 2) (by decide) hf118 ho119 ⟨r120, rfl, hpn121, (hpg122.trans rfl), hpn123, hpn124, hpn125, (hpg126.trans rfl)⟩
              refine lv_goto (tgt := 17) hx hb dX11_readsCouncil_33 (by decide) ?_
              refine lv_iload_n hx hb dX11_readsCouncil_17 rfl (lv_at hl 0 rfl) ?_
              refine lv_bipush (v := 6) hx hb dX11_readsCouncil_18 (by decide) ?_
              refine lv_icmp_ge (tgt := 36) hx hb dX11_readsCouncil_20 (by decide) (fun c128 => ?_) (fun c128 => ?_)
              ·
                have oc6 : (6 : Int32).toInt = 6 := by decide
                have oc6 : (6 : Int32).toInt = 6 := by decide
                have cc129 : (6 : Int32).toInt ≤ (6 : Int32).toInt := i32_le.mp c128
                refine lv_aload_n hx hb dX11_readsCouncil_36 rfl (lv_at hl 1 rfl) ?_
                refine call_i (run_V (rm := rm_X11_look) hx hb hml hown hts (s_X11_look l g ad (gset (gset (gset (gset (gset th 37 0) 42 (-1)) 35 0) 30 0) 34 0) _ _ _  hst hT ) cV_X11_look wg_1529 ⟨Nat.le_of_ble_eq_true rfl, Nat.le_of_ble_eq_true rfl⟩ hG hE hA hP hD hS (hst.1 255 (by decide)) hf127 rfl rfl hl.1 (As := []) (rest := []) rfl (Nat.le_of_ble_eq_true rfl) dX11_readsCouncil_37 ⟨Nat.le_of_ble_eq_true rfl, Nat.le_of_ble_eq_true rfl⟩) hA hD hS (fun r130 L131 f132 H locs hp133 hP hD hS => ?_)
                obtain ⟨eL134L, eL134T, eL134F, eL134R⟩ := hp133
                have eL134L : L131 = L := eL134L
                rw [eL134L] at hP hD
                obtain ⟨zz135, hzz135, eL134T⟩ := eL134T
                have hT : TI g ad (gset (gset (gset (gset (gset (gset th 37 0) 42 (-1)) 35 0) 30 0) 34 0) 37 zz135) f132 := eL134T
                have hT : TI g ad (gset (gset (gset (gset (gset th 42 (-1)) 35 0) 30 0) 34 0) 37 zz135) f132 := TI.cast hT (by funext q; by_cases hq0 : q = 37; (subst hq0; rfl); by_cases hq1 : q = 34; (subst hq1; rfl); by_cases hq2 : q = 30; (subst hq2; rfl); by_cases hq3 : q = 35; (subst hq3; rfl); by_cases hq4 : q = 42; (subst hq4; rfl); simp only [gset, if_neg hq0, if_neg hq1, if_neg hq2, if_neg hq3, if_neg hq4])
                have eL134F : ∀ b, b ≠ (ad 255) → f132 b = f117 b := eL134F
                have hfr : (∀ b, b ≠ (ad 255) → b ≠ (ad 257) → f132 b = f b) := fun b z0_ z1_ => (eL134F b z0_).trans (hfr b z0_ z1_)
                have eL134R : In r130 (-1) 255 := eL134R
                refine lv_istore_n (lv' := [(1, .int r130), (0, .ref (ad 255))]) hx hb dX11_readsCouncil_40 rfl hl (by decide) rfl (fun ls hl => ?_)
                refine lv_aload_n hx hb dX11_readsCouncil_41 rfl (lv_at hl 1 rfl) ?_
                refine lv_aload_n hx hb dX11_readsCouncil_42 rfl (lv_at hl 1 rfl) ?_
                refine va_ldcS hx hb hown (hG.2.2.1 ("RulerWordModel", 174, "king", 0) (by decide +kernel)) dX11_readsCouncil_43 ?_
                refine M0e hT (fun v0_136 v2_136 v3_136 v4_136 v5_136 v6_136 v8_136 v9_136 v12_136 v13_136 v14_136 v15_136 v16_136 v17_136 v18_136 v19_136 v20_136 v21_136 v22_136 v23_136 v25_136 v36_136 v37_136 v38_136 v39_136 v40_136 v45_136 v46_136 v47_136 v48_136 v50_136 v51_136 v53_136 v55_136 hf137 hv0_136 hv2_136 hg2_136 hv3_136 hg3_136 hv4_136 hg4_136 hv5_136 hg5_136 hv6_136 hg6_136 hv8_136 hg8_136 hv9_136 hg9_136 hv12_136 hv13_136 hg13_136 hv14_136 hg14_136 hv15_136 hg15_136 hv17_136 hg17_136 hv20_136 hg20_136 hv23_136 hg23_136 hv25_136 hg25_136 hv36_136 hg36_136 hv47_136 hg47_136 hv48_136 hg48_136 hv53_136 hg53_136 hv55_136 hg55_136 hrel0_136 => ?_)
                have hg15_136 : v15_136.toInt = th 11 := hg15_136
                have hg20_136 : v20_136.toInt = th 14 := hg20_136
                refine call_i (run_V (rm := rm_X11_takes) hx hb hml hown hts (s_X11_takes l g ad (gset (gset (gset (gset (gset th 42 (-1)) 35 0) 30 0) 34 0) 37 zz135) _ _ _ 0 hst hT (by decide)) cV_X11_takes wg_1538 ⟨Nat.le_of_ble_eq_true rfl, Nat.le_of_ble_eq_true rfl⟩ hG hE hA hP hD hS (hst.1 255 (by decide)) hf137 rfl rfl hl.1 (As := [.ref (g.2.2.1 0)]) (rest := [.ref (ad 255)]) rfl (Nat.le_of_ble_eq_true rfl) dX11_readsCouncil_45 ⟨Nat.le_of_ble_eq_true rfl, Nat.le_of_ble_eq_true rfl⟩) hA hD hS (fun r138 L139 f140 H locs hp141 hP hD hS => ?_)
                obtain ⟨eL142L, eL142T, eL142F, eL142R⟩ := hp141
                have eL142L : L139 = L := eL142L
                rw [eL142L] at hP hD
                obtain ⟨zz143, hzz143, eL142T⟩ := eL142T
                have hzz143 : zz135 ≤ zz143 ∧ zz143 ≤ 500 := hzz143
                have hT : TI g ad (gset (gset (gset (gset (gset (gset th 42 (-1)) 35 0) 30 0) 34 0) 37 zz135) 37 zz143) f140 := eL142T
                have hT : TI g ad (gset (gset (gset (gset (gset th 42 (-1)) 35 0) 30 0) 34 0) 37 zz143) f140 := TI.cast hT (by funext q; by_cases hq0 : q = 37; (subst hq0; rfl); by_cases hq1 : q = 34; (subst hq1; rfl); by_cases hq2 : q = 30; (subst hq2; rfl); by_cases hq3 : q = 35; (subst hq3; rfl); by_cases hq4 : q = 42; (subst hq4; rfl); simp only [gset, if_neg hq0, if_neg hq1, if_neg hq2, if_neg hq3, if_neg hq4])
                have eL142F : ∀ b, b ≠ (ad 255) → f140 b = f132 b := eL142F
                have hfr : (∀ b, b ≠ (ad 255) → b ≠ (ad 257) → f140 b = f b) := fun b z0_ z1_ => (eL142F b z0_).trans (hfr b z0_ z1_)
                have eL142R : In r138 0 1 := eL142R
                have hJ69 : ∀ (zg69_za : Int) (zg69_zr : Int) (zg69_zl : Int) (zg69_ze : Int) (zg69_zt : Int) (zg69_zs : Int) (zg69_zf : Int) (zg69_zq : Int) (y69_s0 : Int32) (f_69 : HP) (H : Heap) (locs : List Loc) (ls : Array Slot), (0 ≤ zg69_za ∧ zg69_za ≤ 500) ∧ DIp zg69_zt zg69_zs zg69_zf → In y69_s0 (-1) 1 → va_P g.1 vwCl (va_pl L f_69) H → va_D A (va_pl L f_69) → va_S A s.heap H locs → TI g ad (gset (gset (gset (gset (gset (gset (gset (gset th 37 zg69_za) 40 zg69_zr) 41 zg69_zl) 42 zg69_ze) 35 zg69_zt) 30 zg69_zs) 34 zg69_zf) 43 zg69_zq) f_69 → (∀ b, b ≠ (ad 255) → b ≠ (ad 257) → f_69 b = f b) → lv_has ls 2 [(0, .ref (ad 255)), (1, .int r130)] → W p l e rm_X11_readsCouncil s m [.ref (ad 255)].toArray below meth c H locs 0 0 (MQ below (va_Qi (po_X11_readsCouncil g ad th L f ) (PstB g A) A) [.ref (ad 255)].toArray s rm_X11_readsCouncil.cells rm_X11_readsCouncil.slots A) (F0 m 69 ls [.int y69_s0, .ref (ad 255)]) := by
                  intro zg69_za zg69_zr zg69_zl zg69_ze zg69_zt zg69_zs zg69_zf zg69_zq y69_s0 f_69 H locs ls hzg69 hy69_s0 hP hD hS hT hfr hl
                  refine M0e hT (fun v0_144 v2_144 v3_144 v4_144 v5_144 v6_144 v8_144 v9_144 v12_144 v13_144 v14_144 v15_144 v16_144 v17_144 v18_144 v19_144 v20_144 v21_144 v22_144 v23_144 v25_144 v36_144 v37_144 v38_144 v39_144 v40_144 v45_144 v46_144 v47_144 v48_144 v50_144 v51_144 v53_144 v55_144 hf145 hv0_144 hv2_144 hg2_144 hv3_144 hg3_144 hv4_144 hg4_144 hv5_144 hg5_144 hv6_144 hg6_144 hv8_144 hg8_144 hv9_144 hg9_144 hv12_144 hv13_144 hg13_144 hv14_144 hg14_144 hv15_144 hg15_144 hv17_144 hg17_144 hv20_144 hg20_144 hv23_144 hg23_144 hv25_144 hg25_144 hv36_144 hg36_144 hv47_144 hg47_144 hv48_144 hg48_144 hv53_144 hg53_144 hv55_144 hg55_144 hrel0_144 => ?_)
                  have hg15_144 : v15_144.toInt = th 11 := hg15_144
                  have hg20_144 : v20_144.toInt = th 14 := hg20_144
                  refine pl_put (ty := .int) (v := .int y69_s0) (fs' := [.int v0_144, .ref (ad 256), .int v2_144, .int v3_144, .int v4_144, .int v5_144, .int v6_144, .ref (ad 257), .int y69_s0, .int v9_144, .ref (ad 258), .ref (ad 259), .int v12_144, .int v13_144, .int v14_144, .int v15_144, .int v16_144, .int v17_144, .int v18_144, .int v19_144, .int v20_144, .long v21_144, .long v22_144, .int v23_144, .ref (ad 260), .int v25_144, .ref (ad 261), .ref (ad 262), .ref (ad 263), .ref (ad 264), .ref (ad 265), .ref (ad 266), .ref (ad 267), .ref (ad 268), .ref (ad 269), .ref (ad 270), .int v36_144, .int v37_144, .int v38_144, .int v39_144, .int v40_144, .ref (ad 271), .ref (ad 272), .ref (ad 273), .ref (ad 274), .long v45_144, .long v46_144, .int v47_144, .int v48_144, .ref (ad 275), .int v50_144, .int v51_144, .ref (ad 276), .int v53_144, .ref (ad 277), .int v55_144]) hx hb hts (fun w h => mT (inX11 w h)) tyX11 tyX11_ok nmX11 hown hG.1 hP hD hS (hst.1 255 (by decide)) hf145 rfl 8 (by decide) (hts _ (mT wg_1344)) (fun _ h => h) rfl (by decide +kernel) (rfl) (rfl) (Nat.le_of_ble_eq_true rfl) rfl dX11_readsCouncil_69 (fun H locs f146 hf147 ho148 hP hD hS => ?_)
                  have hfr : (∀ b, b ≠ (ad 255) → b ≠ (ad 257) → f146 b = f b) := fun b z0_ z1_ => (ho148 b z0_).trans (hfr b z0_ z1_)
                  refine lv_aload_n hx hb dX11_readsCouncil_72 rfl (lv_at hl 0 rfl) ?_
                  refine pl_get (v := .int y69_s0) hx hb hts (fun w h => mT (inX11 w h)) hown hG.1 hP (hst.1 255 (by decide)) hf147 rfl 8 (by decide) (hts _ (mT wg_1344)) (fun _ h => h) rfl dX11_readsCouncil_73 ?_
                  refine lv_iconst (v := (-1)) hx hb dX11_readsCouncil_76 (by decide) ?_
                  have hT := TI.updMG (th' := (gset (gset (gset (gset (gset (gset (gset (gset (gset th 37 zg69_za) 40 zg69_zr) 41 zg69_zl) 42 zg69_ze) 35 zg69_zt) 30 zg69_zs) 34 zg69_zf) 43 zg69_zq) 43 (y69_s0.toInt))) hT hst (k := 0) (by decide) hf147 ho148 ⟨v0_144, v2_144, v3_144, v4_144, v5_144, v6_144, y69_s0, v9_144, v12_144, v13_144, v14_144, v15_144, v16_144, v17_144, v18_144, v19_144, v20_144, v21_144, v22_144, v23_144, v25_144, v36_144, v37_144, v38_144, v39_144, v40_144, v45_144, v46_144, v47_144, v48_144, v50_144, v51_144, v53_144, v55_144, rfl, hv0_144, hv2_144, hg2_144, hv3_144, hg3_144, hv4_144, hg4_144, hv5_144, hg5_144, hv6_144, hg6_144, hy69_s0, rfl, hv9_144, hg9_144, hv12_144, hv13_144, hg13_144, hv14_144, hg14_144, hv15_144, hg15_144, hv17_144, hg17_144, hv20_144, hg20_144, hv23_144, hg23_144, hv25_144, hg25_144, hv36_144, hg36_144, hv47_144, hg47_144, hv48_144, hg48_144, hv53_144, hg53_144, hv55_144, hg55_144, hrel0_144⟩ (fun q hq => ((gset_ne (fun e => hq (by subst e; decide))).trans rfl))
                  have hT : TI g ad (gset (gset (gset (gset (gset (gset (gset (gset th 37 zg69_za) 40 zg69_zr) 41 zg69_zl) 42 zg69_ze) 35 zg69_zt) 30 zg69_zs) 34 zg69_zf) 43 y69_s0.toInt) f146 := TI.cast hT (by funext q; by_cases hq0 : q = 43; (subst hq0; rfl); by_cases hq1 : q = 34; (subst hq1; rfl); by_cases hq2 : q = 30; (subst hq2; rfl); by_cases hq3 : q = 35; (subst hq3; rfl); by_cases hq4 : q = 42; (subst hq4; rfl); by_cases hq5 : q = 41; (subst hq5; rfl); by_cases hq6 : q = 40; (subst hq6; rfl); by_cases hq7 : q = 37; (subst hq7; rfl); simp only [gset, if_neg hq0, if_neg hq1, if_neg hq2, if_neg hq3, if_neg hq4, if_neg hq5, if_neg hq6, if_neg hq7])
                  have hJ88 : ∀ (k88 : Nat) (zg88_za : Int) (zg88_zr : Int) (zg88_zl : Int) (zg88_ze : Int) (zg88_zt : Int) (zg88_zs : Int) (zg88_zf : Int) (zg88_zq : Int) (f_88 : HP) (H : Heap) (locs : List Loc) (ls : Array Slot), ((0 ≤ zg88_za ∧ zg88_za ≤ 500) ∧ (0 ≤ zg88_ze ∨ 0 ≤ zg88_zq)) ∧ DIp zg88_zt zg88_zs zg88_zf → va_P g.1 vwCl (va_pl L f_88) H → va_D A (va_pl L f_88) → va_S A s.heap H locs → TI g ad (gset (gset (gset (gset (gset (gset (gset (gset th 37 zg88_za) 40 zg88_zr) 41 zg88_zl) 42 zg88_ze) 35 zg88_zt) 30 zg88_zs) 34 zg88_zf) 43 zg88_zq) f_88 → (∀ b, b ≠ (ad 255) → b ≠ (ad 257) → f_88 b = f b) → lv_has ls 2 [(0, .ref (ad 255)), (1, .int r130)] → 500 - zg88_za < ((k88 : Nat) : Int) → W p l e rm_X11_readsCouncil s m [.ref (ad 255)].toArray below meth c H locs 0 0 (MQ below (va_Qi (po_X11_readsCouncil g ad th L f ) (PstB g A) A) [.ref (ad 255)].toArray s rm_X11_readsCouncil.cells rm_X11_readsCouncil.slots A) (F0 m 88 ls []) := by
                    intro k88
                    induction k88 with
                    | zero =>
                      intro zg88_za zg88_zr zg88_zl zg88_ze zg88_zt zg88_zs zg88_zf zg88_zq f_88 H locs ls hzg88 hP hD hS hT hfr hl hmz88
                      exact absurd hmz88 (by omega)
                    | succ k88 ih88 =>
                      intro zg88_za zg88_zr zg88_zl zg88_ze zg88_zt zg88_zs zg88_zf zg88_zq f_88 H locs ls hzg88 hP hD hS hT hfr hl hmz88
                      refine lv_aload_n hx hb dX11_readsCouncil_88 rfl (lv_at hl 0 rfl) ?_
                      refine M0e hT (fun v0_149 v2_149 v3_149 v4_149 v5_149 v6_149 v8_149 v9_149 v12_149 v13_149 v14_149 v15_149 v16_149 v17_149 v18_149 v19_149 v20_149 v21_149 v22_149 v23_149 v25_149 v36_149 v37_149 v38_149 v39_149 v40_149 v45_149 v46_149 v47_149 v48_149 v50_149 v51_149 v53_149 v55_149 hf150 hv0_149 hv2_149 hg2_149 hv3_149 hg3_149 hv4_149 hg4_149 hv5_149 hg5_149 hv6_149 hg6_149 hv8_149 hg8_149 hv9_149 hg9_149 hv12_149 hv13_149 hg13_149 hv14_149 hg14_149 hv15_149 hg15_149 hv17_149 hg17_149 hv20_149 hg20_149 hv23_149 hg23_149 hv25_149 hg25_149 hv36_149 hg36_149 hv47_149 hg47_149 hv48_149 hg48_149 hv53_149 hg53_149 hv55_149 hg55_149 hrel0_149 => ?_)
                      have hg15_149 : v15_149.toInt = th 11 := hg15_149
                      have hg20_149 : v20_149.toInt = th 14 := hg20_149
                      refine pl_get (v := .int v4_149) hx hb hts (fun w h => mT (inX11 w h)) hown hG.1 hP (hst.1 255 (by decide)) hf150 rfl 4 (by decide) (hts _ (mT wg_1340)) (fun _ h => h) rfl dX11_readsCouncil_89 ?_
                      have hg4_149 : v4_149.toInt = zg88_ze := hg4_149
                      refine lv_iconst (v := (-1)) hx hb dX11_readsCouncil_92 (by decide) ?_
                      have hJ122 : ∀ (zg122_za : Int) (zg122_zr : Int) (zg122_zl : Int) (zg122_ze : Int) (zg122_zt : Int) (zg122_zs : Int) (zg122_zf : Int) (zg122_zq : Int) (f_122 : HP) (H : Heap) (locs : List Loc) (ls : Array Slot), ((0 ≤ zg122_za ∧ zg122_za ≤ 500) ∧ (0 ≤ zg122_ze ∨ 0 ≤ zg122_zq)) ∧ DIp zg122_zt zg122_zs zg122_zf → va_P g.1 vwCl (va_pl L f_122) H → va_D A (va_pl L f_122) → va_S A s.heap H locs → TI g ad (gset (gset (gset (gset (gset (gset (gset (gset th 37 zg122_za) 40 zg122_zr) 41 zg122_zl) 42 zg122_ze) 35 zg122_zt) 30 zg122_zs) 34 zg122_zf) 43 zg122_zq) f_122 → (∀ b, b ≠ (ad 255) → b ≠ (ad 257) → f_122 b = f b) → lv_has ls 2 [(0, .ref (ad 255)), (1, .int r130)] → W p l e rm_X11_readsCouncil s m [.ref (ad 255)].toArray below meth c H locs 0 0 (MQ below (va_Qi (po_X11_readsCouncil g ad th L f ) (PstB g A) A) [.ref (ad 255)].toArray s rm_X11_readsCouncil.cells rm_X11_readsCouncil.slots A) (F0 m 122 ls []) := by
                        intro zg122_za zg122_zr zg122_zl zg122_ze zg122_zt zg122_zs zg122_zf zg122_zq f_122 H locs ls hzg122 hP hD hS hT hfr hl
                        refine lv_aload_n hx hb dX11_readsCouncil_122 rfl (lv_at hl 0 rfl) ?_
                        refine M0e hT (fun v0_151 v2_151 v3_151 v4_151 v5_151 v6_151 v8_151 v9_151 v12_151 v13_151 v14_151 v15_151 v16_151 v17_151 v18_151 v19_151 v20_151 v21_151 v22_151 v23_151 v25_151 v36_151 v37_151 v38_151 v39_151 v40_151 v45_151 v46_151 v47_151 v48_151 v50_151 v51_151 v53_151 v55_151 hf152 hv0_151 hv2_151 hg2_151 hv3_151 hg3_151 hv4_151 hg4_151 hv5_151 hg5_151 hv6_151 hg6_151 hv8_151 hg8_151 hv9_151 hg9_151 hv12_151 hv13_151 hg13_151 hv14_151 hg14_151 hv15_151 hg15_151 hv17_151 hg17_151 hv20_151 hg20_151 hv23_151 hg23_151 hv25_151 hg25_151 hv36_151 hg36_151 hv47_151 hg47_151 hv48_151 hg48_151 hv53_151 hg53_151 hv55_151 hg55_151 hrel0_151 => ?_)
                        have hg15_151 : v15_151.toInt = th 11 := hg15_151
                        have hg20_151 : v20_151.toInt = th 14 := hg20_151
                        refine pl_get (v := .int v4_151) hx hb hts (fun w h => mT (inX11 w h)) hown hG.1 hP (hst.1 255 (by decide)) hf152 rfl 4 (by decide) (hts _ (mT wg_1340)) (fun _ h => h) rfl dX11_readsCouncil_123 ?_
                        have hg4_151 : v4_151.toInt = zg122_ze := hg4_151
                        refine lv_iconst (v := (-1)) hx hb dX11_readsCouncil_126 (by decide) ?_
                        have hJ157 : ∀ (zg157_za : Int) (zg157_zr : Int) (zg157_zl : Int) (zg157_ze : Int) (zg157_zt : Int) (zg157_zs : Int) (zg157_zf : Int) (zg157_zq : Int) (f_157 : HP) (H : Heap) (locs : List Loc) (ls : Array Slot), (((0 ≤ zg157_za ∧ zg157_za ≤ 500) ∧ (0 ≤ zg157_ze ∨ 0 ≤ zg157_zq)) ∧ DIp zg157_zt zg157_zs zg157_zf) ∧ (0 ≤ zg157_ze ∨ zg157_zt % 2 = 1) → va_P g.1 vwCl (va_pl L f_157) H → va_D A (va_pl L f_157) → va_S A s.heap H locs → TI g ad (gset (gset (gset (gset (gset (gset (gset (gset th 37 zg157_za) 40 zg157_zr) 41 zg157_zl) 42 zg157_ze) 35 zg157_zt) 30 zg157_zs) 34 zg157_zf) 43 zg157_zq) f_157 → (∀ b, b ≠ (ad 255) → b ≠ (ad 257) → f_157 b = f b) → lv_has ls 2 [(0, .ref (ad 255)), (1, .int r130)] → W p l e rm_X11_readsCouncil s m [.ref (ad 255)].toArray below meth c H locs 0 0 (MQ below (va_Qi (po_X11_readsCouncil g ad th L f ) (PstB g A) A) [.ref (ad 255)].toArray s rm_X11_readsCouncil.cells rm_X11_readsCouncil.slots A) (F0 m 157 ls []) := by
                          intro zg157_za zg157_zr zg157_zl zg157_ze zg157_zt zg157_zs zg157_zf zg157_zq f_157 H locs ls hzg157 hP hD hS hT hfr hl
                          refine lv_aload_n hx hb dX11_readsCouncil_157 rfl (lv_at hl 0 rfl) ?_
                          refine M0e hT (fun v0_153 v2_153 v3_153 v4_153 v5_153 v6_153 v8_153 v9_153 v12_153 v13_153 v14_153 v15_153 v16_153 v17_153 v18_153 v19_153 v20_153 v21_153 v22_153 v23_153 v25_153 v36_153 v37_153 v38_153 v39_153 v40_153 v45_153 v46_153 v47_153 v48_153 v50_153 v51_153 v53_153 v55_153 hf154 hv0_153 hv2_153 hg2_153 hv3_153 hg3_153 hv4_153 hg4_153 hv5_153 hg5_153 hv6_153 hg6_153 hv8_153 hg8_153 hv9_153 hg9_153 hv12_153 hv13_153 hg13_153 hv14_153 hg14_153 hv15_153 hg15_153 hv17_153 hg17_153 hv20_153 hg20_153 hv23_153 hg23_153 hv25_153 hg25_153 hv36_153 hg36_153 hv47_153 hg47_153 hv48_153 hg48_153 hv53_153 hg53_153 hv55_153 hg55_153 hrel0_153 => ?_)
                          have hg15_153 : v15_153.toInt = th 11 := hg15_153
                          have hg20_153 : v20_153.toInt = th 14 := hg20_153
                          refine pl_get (v := .int v9_153) hx hb hts (fun w h => mT (inX11 w h)) hown hG.1 hP (hst.1 255 (by decide)) hf154 rfl 9 (by decide) (hts _ (mT wg_1345)) (fun _ h => h) rfl dX11_readsCouncil_158 ?_
                          have hg9_153 : v9_153.toInt = zg157_zt := hg9_153
                          refine lv_iconst (v := 1) hx hb dX11_readsCouncil_161 (by decide) ?_
                          refine call_i (run_S (rm := rm_X11_has) hx hb hml hown hts (s_X11_has l g ad (gset (gset (gset (gset (gset (gset (gset (gset th 37 zg157_za) 40 zg157_zr) 41 zg157_zl) 42 zg157_ze) 35 zg157_zt) 30 zg157_zs) 34 zg157_zf) 43 zg157_zq) _ _ _ v9_153 1 hst hT ) cS_X11_has wg_1563 ⟨Nat.le_of_ble_eq_true rfl, Nat.le_of_ble_eq_true rfl⟩ hG hE hA hP hD hS rfl hl.1 (As := [.int v9_153, .int 1]) (rest := []) rfl (Nat.le_of_ble_eq_true rfl) dX11_readsCouncil_162 ⟨Nat.le_of_ble_eq_true rfl, Nat.le_of_ble_eq_true rfl⟩) hA hD hS (fun r155 L156 f157 H locs hp158 hP hD hS => ?_)
                          obtain ⟨eL159L, eL159T, eL159R, eL159X0⟩ := hp158
                          have eL159L : L156 = L := eL159L
                          have eL159T : f157 = f_157 := eL159T
                          rw [eL159L, eL159T] at hP hD
                          have eL159R : In r155 0 1 := eL159R
                          have hbt160 : r155.toInt = bitI zg157_zt 1 := (eL159X0 (Int.le_trans (by decide) hv9_153.1) (⟨by decide, by decide⟩ : In 1 0 30)).trans (by rw [hg9_153, show (1 : Int32).toInt = 1 by decide])
                          have hJ195 : ∀ (zg195_za : Int) (zg195_zr : Int) (zg195_zl : Int) (zg195_ze : Int) (zg195_zt : Int) (zg195_zs : Int) (zg195_zf : Int) (zg195_zq : Int) (f_195 : HP) (H : Heap) (locs : List Loc) (ls : Array Slot), (((0 ≤ zg195_za ∧ zg195_za ≤ 500) ∧ (0 ≤ zg195_ze ∨ 0 ≤ zg195_zq)) ∧ DIp zg195_zt zg195_zs zg195_zf) ∧ (0 ≤ zg195_ze ∨ zg195_zt % 2 = 1) → va_P g.1 vwCl (va_pl L f_195) H → va_D A (va_pl L f_195) → va_S A s.heap H locs → TI g ad (gset (gset (gset (gset (gset (gset (gset (gset th 37 zg195_za) 40 zg195_zr) 41 zg195_zl) 42 zg195_ze) 35 zg195_zt) 30 zg195_zs) 34 zg195_zf) 43 zg195_zq) f_195 → (∀ b, b ≠ (ad 255) → b ≠ (ad 257) → f_195 b = f b) → lv_has ls 2 [(0, .ref (ad 255)), (1, .int r130)] → W p l e rm_X11_readsCouncil s m [.ref (ad 255)].toArray below meth c H locs 0 0 (MQ below (va_Qi (po_X11_readsCouncil g ad th L f ) (PstB g A) A) [.ref (ad 255)].toArray s rm_X11_readsCouncil.cells rm_X11_readsCouncil.slots A) (F0 m 195 ls []) := by
                            intro zg195_za zg195_zr zg195_zl zg195_ze zg195_zt zg195_zs zg195_zf zg195_zq f_195 H locs ls hzg195 hP hD hS hT hfr hl
                            refine lv_aload_n hx hb dX11_readsCouncil_195 rfl (lv_at hl 0 rfl) ?_
                            refine M0e hT (fun v0_161 v2_161 v3_161 v4_161 v5_161 v6_161 v8_161 v9_161 v12_161 v13_161 v14_161 v15_161 v16_161 v17_161 v18_161 v19_161 v20_161 v21_161 v22_161 v23_161 v25_161 v36_161 v37_161 v38_161 v39_161 v40_161 v45_161 v46_161 v47_161 v48_161 v50_161 v51_161 v53_161 v55_161 hf162 hv0_161 hv2_161 hg2_161 hv3_161 hg3_161 hv4_161 hg4_161 hv5_161 hg5_161 hv6_161 hg6_161 hv8_161 hg8_161 hv9_161 hg9_161 hv12_161 hv13_161 hg13_161 hv14_161 hg14_161 hv15_161 hg15_161 hv17_161 hg17_161 hv20_161 hg20_161 hv23_161 hg23_161 hv25_161 hg25_161 hv36_161 hg36_161 hv47_161 hg47_161 hv48_161 hg48_161 hv53_161 hg53_161 hv55_161 hg55_161 hrel0_161 => ?_)
                            have hg15_161 : v15_161.toInt = th 11 := hg15_161
                            have hg20_161 : v20_161.toInt = th 14 := hg20_161
                            refine pl_get (v := .int v9_161) hx hb hts (fun w h => mT (inX11 w h)) hown hG.1 hP (hst.1 255 (by decide)) hf162 rfl 9 (by decide) (hts _ (mT wg_1345)) (fun _ h => h) rfl dX11_readsCouncil_196 ?_
                            have hg9_161 : v9_161.toInt = zg195_zt := hg9_161
                            refine lv_iconst (v := 2) hx hb dX11_readsCouncil_199 (by decide) ?_
                            refine call_i (run_S (rm := rm_X11_has) hx hb hml hown hts (s_X11_has l g ad (gset (gset (gset (gset (gset (gset (gset (gset th 37 zg195_za) 40 zg195_zr) 41 zg195_zl) 42 zg195_ze) 35 zg195_zt) 30 zg195_zs) 34 zg195_zf) 43 zg195_zq) _ _ _ v9_161 2 hst hT ) cS_X11_has wg_1563 ⟨Nat.le_of_ble_eq_true rfl, Nat.le_of_ble_eq_true rfl⟩ hG hE hA hP hD hS rfl hl.1 (As := [.int v9_161, .int 2]) (rest := []) rfl (Nat.le_of_ble_eq_true rfl) dX11_readsCouncil_200 ⟨Nat.le_of_ble_eq_true rfl, Nat.le_of_ble_eq_true rfl⟩) hA hD hS (fun r163 L164 f165 H locs hp166 hP hD hS => ?_)
                            obtain ⟨eL167L, eL167T, eL167R, eL167X0⟩ := hp166
                            have eL167L : L164 = L := eL167L
                            have eL167T : f165 = f_195 := eL167T
                            rw [eL167L, eL167T] at hP hD
                            have eL167R : In r163 0 1 := eL167R
                            have hbt168 : r163.toInt = bitI zg195_zt 2 := (eL167X0 (Int.le_trans (by decide) hv9_161.1) (⟨by decide, by decide⟩ : In 2 0 30)).trans (by rw [hg9_161, show (2 : Int32).toInt = 2 by decide])
                            have hJ220 : ∀ (zg220_za : Int) (zg220_zr : Int) (zg220_zl : Int) (zg220_ze : Int) (zg220_zt : Int) (zg220_zs : Int) (zg220_zf : Int) (zg220_zq : Int) (f_220 : HP) (H : Heap) (locs : List Loc) (ls : Array Slot), (((0 ≤ zg220_za ∧ zg220_za ≤ 500) ∧ (0 ≤ zg220_ze ∨ 0 ≤ zg220_zq)) ∧ DIp zg220_zt zg220_zs zg220_zf) ∧ (0 ≤ zg220_ze ∨ zg220_zt % 2 = 1) → va_P g.1 vwCl (va_pl L f_220) H → va_D A (va_pl L f_220) → va_S A s.heap H locs → TI g ad (gset (gset (gset (gset (gset (gset (gset (gset th 37 zg220_za) 40 zg220_zr) 41 zg220_zl) 42 zg220_ze) 35 zg220_zt) 30 zg220_zs) 34 zg220_zf) 43 zg220_zq) f_220 → (∀ b, b ≠ (ad 255) → b ≠ (ad 257) → f_220 b = f b) → lv_has ls 2 [(0, .ref (ad 255)), (1, .int r130)] → W p l e rm_X11_readsCouncil s m [.ref (ad 255)].toArray below meth c H locs 0 0 (MQ below (va_Qi (po_X11_readsCouncil g ad th L f ) (PstB g A) A) [.ref (ad 255)].toArray s rm_X11_readsCouncil.cells rm_X11_readsCouncil.slots A) (F0 m 220 ls []) := by
                              intro zg220_za zg220_zr zg220_zl zg220_ze zg220_zt zg220_zs zg220_zf zg220_zq f_220 H locs ls hzg220 hP hD hS hT hfr hl
                              refine lv_aload_n hx hb dX11_readsCouncil_220 rfl (lv_at hl 0 rfl) ?_
                              refine M0e hT (fun v0_169 v2_169 v3_169 v4_169 v5_169 v6_169 v8_169 v9_169 v12_169 v13_169 v14_169 v15_169 v16_169 v17_169 v18_169 v19_169 v20_169 v21_169 v22_169 v23_169 v25_169 v36_169 v37_169 v38_169 v39_169 v40_169 v45_169 v46_169 v47_169 v48_169 v50_169 v51_169 v53_169 v55_169 hf170 hv0_169 hv2_169 hg2_169 hv3_169 hg3_169 hv4_169 hg4_169 hv5_169 hg5_169 hv6_169 hg6_169 hv8_169 hg8_169 hv9_169 hg9_169 hv12_169 hv13_169 hg13_169 hv14_169 hg14_169 hv15_169 hg15_169 hv17_169 hg17_169 hv20_169 hg20_169 hv23_169 hg23_169 hv25_169 hg25_169 hv36_169 hg36_169 hv47_169 hg47_169 hv48_169 hg48_169 hv53_169 hg53_169 hv55_169 hg55_169 hrel0_169 => ?_)
                              have hg15_169 : v15_169.toInt = th 11 := hg15_169
                              have hg20_169 : v20_169.toInt = th 14 := hg20_169
                              refine pl_get (v := .int v4_169) hx hb hts (fun w h => mT (inX11 w h)) hown hG.1 hP (hst.1 255 (by decide)) hf170 rfl 4 (by decide) (hts _ (mT wg_1340)) (fun _ h => h) rfl dX11_readsCouncil_221 ?_
                              have hg4_169 : v4_169.toInt = zg220_ze := hg4_169
                              exact ret_i (ty := .int) hx hb hr hlocks (rfl) hP hD hS (Nat.le_of_ble_eq_true rfl) (Nat.le_of_ble_eq_true rfl) (⟨rfl, ⟨zg220_za, zg220_zr, zg220_zl, zg220_ze, zg220_zt, zg220_zs, zg220_zf, zg220_zq, (show (v4_169.toInt ≠ -1 ∨ ((zg220_zt % 2 = 1 ∧ 0 ≤ zg220_zq) ∧ DIp (zg220_zt) (zg220_zs) (zg220_zf))) from (Classical.em (v4_169.toInt = -1)).elim (fun q => Or.inr ⟨(by have ob13 : (0 : Int) ≤ (th 13) ∧ (th 13) ≤ 500 := (b0_13 hT :); have ob35 : (0 : Int) ≤ zg220_zt ∧ zg220_zt ≤ 63 := (b0_35 hT :); have ob36 : (0 : Int) ≤ (th 36) ∧ (th 36) ≤ 20 := (b0_36 hT :); have ob37 : (0 : Int) ≤ zg220_za ∧ zg220_za ≤ 500 := (b0_37 hT :); have ob40 : (0 : Int) ≤ zg220_zr ∧ zg220_zr ≤ 500 := (b0_40 hT :); have ob41 : (0 : Int) ≤ zg220_zl ∧ zg220_zl ≤ 500 := (b0_41 hT :); have ob42 : ((-1) : Int) ≤ zg220_ze ∧ zg220_ze ≤ 500 := (b0_42 hT :); have ob43 : ((-1) : Int) ≤ zg220_zq ∧ zg220_zq ≤ 1 := (b0_43 hT :); obtain ⟨o0a, o0b⟩ := (hv4_169 : In _ _ _); obtain ⟨o1a, o1b⟩ := (hv2_169 : In _ _ _); obtain ⟨o2a, o2b⟩ := (hv3_169 : In _ _ _); obtain ⟨o3a, o3b⟩ := (hv5_169 : In _ _ _); obtain ⟨o4a, o4b⟩ := (hv6_169 : In _ _ _); obtain ⟨o5a, o5b⟩ := (hv8_169 : In _ _ _); obtain ⟨o6a, o6b⟩ := (hv9_169 : In _ _ _); obtain ⟨o7a, o7b⟩ := (hv13_169 : In _ _ _); omega), hzg220.1.2⟩) Or.inl), TI.cast hT (by funext q; by_cases hq0 : q = 43; (subst hq0; rfl); by_cases hq1 : q = 34; (subst hq1; rfl); by_cases hq2 : q = 30; (subst hq2; rfl); by_cases hq3 : q = 35; (subst hq3; rfl); by_cases hq4 : q = 42; (subst hq4; rfl); by_cases hq5 : q = 41; (subst hq5; rfl); by_cases hq6 : q = 40; (subst hq6; rfl); by_cases hq7 : q = 37; (subst hq7; rfl); simp only [gset, if_neg hq0, if_neg hq1, if_neg hq2, if_neg hq3, if_neg hq4, if_neg hq5, if_neg hq6, if_neg hq7])⟩, hfr, hv4_169⟩) dX11_readsCouncil_224
                            refine lv_if_ne (tgt := 220) hx hb dX11_readsCouncil_203 (by decide) (fun c171 => ?_) (fun c171 => ?_)
                            ·
                              have oc0 : (0 : Int32).toInt = 0 := by decide
                              have cc172 : r163.toInt ≠ (0 : Int32).toInt := i32_ne c171
                              have hb173 : In r163 1 1 := In.ne1 eL167R (⟨by decide, by decide⟩ : In 0 0 0) cc172 (by decide) (by decide)
                              exact hJ220 zg195_za zg195_zr zg195_zl zg195_ze zg195_zt zg195_zs zg195_zf zg195_zq _ _ _ _ (⟨⟨⟨(show 0 ≤ zg195_za ∧ zg195_za ≤ 500 from (by have ob13 : (0 : Int) ≤ (th 13) ∧ (th 13) ≤ 500 := (b0_13 hT :); have ob35 : (0 : Int) ≤ zg195_zt ∧ zg195_zt ≤ 63 := (b0_35 hT :); have ob36 : (0 : Int) ≤ (th 36) ∧ (th 36) ≤ 20 := (b0_36 hT :); have ob37 : (0 : Int) ≤ zg195_za ∧ zg195_za ≤ 500 := (b0_37 hT :); have ob40 : (0 : Int) ≤ zg195_zr ∧ zg195_zr ≤ 500 := (b0_40 hT :); have ob41 : (0 : Int) ≤ zg195_zl ∧ zg195_zl ≤ 500 := (b0_41 hT :); have ob42 : ((-1) : Int) ≤ zg195_ze ∧ zg195_ze ≤ 500 := (b0_42 hT :); have ob43 : ((-1) : Int) ≤ zg195_zq ∧ zg195_zq ≤ 1 := (b0_43 hT :); obtain ⟨o0a, o0b⟩ := (hv2_161 : In _ _ _); obtain ⟨o1a, o1b⟩ := (hv3_161 : In _ _ _); obtain ⟨o2a, o2b⟩ := (hv4_161 : In _ _ _); obtain ⟨o3a, o3b⟩ := (hv5_161 : In _ _ _); obtain ⟨o4a, o4b⟩ := (hv6_161 : In _ _ _); obtain ⟨o5a, o5b⟩ := (hv8_161 : In _ _ _); obtain ⟨o6a, o6b⟩ := (hv9_161 : In _ _ _); obtain ⟨o7a, o7b⟩ := (hv13_161 : In _ _ _); omega)), (show 0 ≤ zg195_ze ∨ 0 ≤ zg195_zq from (by have ob13 : (0 : Int) ≤ (th 13) ∧ (th 13) ≤ 500 := (b0_13 hT :); have ob35 : (0 : Int) ≤ zg195_zt ∧ zg195_zt ≤ 63 := (b0_35 hT :); have ob36 : (0 : Int) ≤ (th 36) ∧ (th 36) ≤ 20 := (b0_36 hT :); have ob37 : (0 : Int) ≤ zg195_za ∧ zg195_za ≤ 500 := (b0_37 hT :); have ob40 : (0 : Int) ≤ zg195_zr ∧ zg195_zr ≤ 500 := (b0_40 hT :); have ob41 : (0 : Int) ≤ zg195_zl ∧ zg195_zl ≤ 500 := (b0_41 hT :); have ob42 : ((-1) : Int) ≤ zg195_ze ∧ zg195_ze ≤ 500 := (b0_42 hT :); have ob43 : ((-1) : Int) ≤ zg195_zq ∧ zg195_zq ≤ 1 := (b0_43 hT :); obtain ⟨o0a, o0b⟩ := (hv2_161 : In _ _ _); obtain ⟨o1a, o1b⟩ := (hv3_161 : In _ _ _); obtain ⟨o2a, o2b⟩ := (hv4_161 : In _ _ _); obtain ⟨o3a, o3b⟩ := (hv5_161 : In _ _ _); obtain ⟨o4a, o4b⟩ := (hv6_161 : In _ _ _); obtain ⟨o5a, o5b⟩ := (hv8_161 : In _ _ _); obtain ⟨o6a, o6b⟩ := (hv9_161 : In _ _ _); obtain ⟨o7a, o7b⟩ := (hv13_161 : In _ _ _); omega))⟩, hzg195.1.2⟩, (show 0 ≤ zg195_ze ∨ zg195_zt % 2 = 1 from (by have ob13 : (0 : Int) ≤ (th 13) ∧ (th 13) ≤ 500 := (b0_13 hT :); have ob35 : (0 : Int) ≤ zg195_zt ∧ zg195_zt ≤ 63 := (b0_35 hT :); have ob36 : (0 : Int) ≤ (th 36) ∧ (th 36) ≤ 20 := (b0_36 hT :); have ob37 : (0 : Int) ≤ zg195_za ∧ zg195_za ≤ 500 := (b0_37 hT :); have ob40 : (0 : Int) ≤ zg195_zr ∧ zg195_zr ≤ 500 := (b0_40 hT :); have ob41 : (0 : Int) ≤ zg195_zl ∧ zg195_zl ≤ 500 := (b0_41 hT :); have ob42 : ((-1) : Int) ≤ zg195_ze ∧ zg195_ze ≤ 500 := (b0_42 hT :); have ob43 : ((-1) : Int) ≤ zg195_zq ∧ zg195_zq ≤ 1 := (b0_43 hT :); obtain ⟨o0a, o0b⟩ := (hv2_161 : In _ _ _); obtain ⟨o1a, o1b⟩ := (hv3_161 : In _ _ _); obtain ⟨o2a, o2b⟩ := (hv4_161 : In _ _ _); obtain ⟨o3a, o3b⟩ := (hv5_161 : In _ _ _); obtain ⟨o4a, o4b⟩ := (hv6_161 : In _ _ _); obtain ⟨o5a, o5b⟩ := (hv8_161 : In _ _ _); obtain ⟨o6a, o6b⟩ := (hv9_161 : In _ _ _); obtain ⟨o7a, o7b⟩ := (hv13_161 : In _ _ _); omega))⟩) hP hD hS (TI.cast hT (by funext q; by_cases hq0 : q = 43; (subst hq0; rfl); by_cases hq1 : q = 34; (subst hq1; rfl); by_cases hq2 : q = 30; (subst hq2; rfl); by_cases hq3 : q = 35; (subst hq3; rfl); by_cases hq4 : q = 42; (subst hq4; rfl); by_cases hq5 : q = 41; (subst hq5; rfl); by_cases hq6 : q = 40; (subst hq6; rfl); by_cases hq7 : q = 37; (subst hq7; rfl); simp only [gset, if_neg hq0, if_neg hq1, if_neg hq2, if_neg hq3, if_neg hq4, if_neg hq5, if_neg hq6, if_neg hq7])) hfr (lv_sub hl [0, 1] rfl)
                            ·
                              have oc0 : (0 : Int32).toInt = 0 := by decide
                              have cc174 : r163.toInt = (0 : Int32).toInt := congrArg Int32.toInt c171
                              have hb175 : In r163 0 0 := In.eq1 eL167R (⟨by decide, by decide⟩ : In 0 0 0) cc174 (by decide) (by decide)
                              refine lv_aload_n hx hb dX11_readsCouncil_206 rfl (lv_at hl 0 rfl) ?_
                              refine pl_get (v := .ref (ad 257)) hx hb hts (fun w h => mT (inX11 w h)) hown hG.1 hP (hst.1 255 (by decide)) hf162 rfl 7 (by decide) (hts _ (mT wg_1343)) (fun _ h => h) rfl dX11_readsCouncil_207 ?_
                              refine lv_iconst (v := 2) hx hb dX11_readsCouncil_210 (by decide) ?_
                              refine lv_aload_n hx hb dX11_readsCouncil_211 rfl (lv_at hl 0 rfl) ?_
                              refine pl_get (v := .ref (ad 257)) hx hb hts (fun w h => mT (inX11 w h)) hown hG.1 hP (hst.1 255 (by decide)) hf162 rfl 7 (by decide) (hts _ (mT wg_1343)) (fun _ h => h) rfl dX11_readsCouncil_212 ?_
                              refine lv_iconst (v := 1) hx hb dX11_readsCouncil_215 (by decide) ?_
                              obtain ⟨rw176, hf177, hpn178, hpg179, hpn180, hpn181, hpn182, hpg183⟩ := hT.2.2 2 (by decide)
                              have hin184 : vp_in 1 6 := In.inb (⟨by decide, by decide⟩ : In 1 1 1) (by decide) (by decide)
                              refine pl_iald hx hb hG.1 hP (hst.1 257 (by decide)) 0 hf177 rfl hin184 dX11_readsCouncil_216 ?_
                              refine lv_topi (fun x185 ex185 => ?_)
                              have hb186 : In x185 0 4 := by rw [ex185]; exact pinI (k := 1) (by decide) hpn180
                              refine lv_iconst (v := 1) hx hb dX11_readsCouncil_217 (by decide) ?_
                              refine lv_iadd hx hb dX11_readsCouncil_218 ?_
                              refine lv_topi (fun x187 ex187 => ?_)
                              have hb188 : In x187 1 5 := ex187 ▸ In.add hb186 (⟨by decide, by decide⟩ : In 1 1 1) (by decide) (by decide) (by decide) (by decide)
                              have et189 : x187.toInt = x185.toInt + 1 := In.adde ex187 hb186 (k := 1) (by decide) (by decide) (by decide)
                              refine pl_iastE hx hb hG.1 hP hD hS (hst.1 257 (by decide)) 0 hf177 rfl (In.inb (⟨by decide, by decide⟩ : In 2 2 2) (by decide) (by decide)) dX11_readsCouncil_219 (fun H locs f190 r193 er193 hf191 ho192 hP hD hS => ?_)
                              have hpn194 : In (r193 0) 0 9 := (upd_neI (k := 0) er193 (by decide)) ▸ hpn178
                              have hpg195 := (congrArg Int32.toInt (upd_neI (k := 0) er193 (by decide))).trans hpg179
                              have hpn196 : In (r193 1) 0 4 := (upd_neI (k := 1) er193 (by decide)) ▸ hpn180
                              have hpn197 : In (r193 2) 0 6 := (upd_eqI (k := 2) er193 (by decide)) ▸ (In.mono hb188 (by decide) (by decide))
                              have hpn198 : In (r193 4) 0 511 := (upd_neI (k := 4) er193 (by decide)) ▸ hpn182
                              have hpg199 := (congrArg Int32.toInt (upd_neI (k := 4) er193 (by decide))).trans hpg183
                              have hf200 := (ho192 (ad 255) (hst.ne (by decide) (by decide) (by decide))).trans hf162
                              have hfr : (∀ b, b ≠ (ad 255) → b ≠ (ad 257) → f190 b = f b) := fun b z0_ z1_ => (ho192 b z1_).trans (hfr b z0_ z1_)
                              have hT := TI.updM hT hst (k := 2) (by decide) hf191 ho192 ⟨r193, rfl, hpn194, (hpg195.trans rfl), hpn196, hpn197, hpn198, (hpg199.trans rfl)⟩
                              exact hJ220 zg195_za zg195_zr zg195_zl zg195_ze zg195_zt zg195_zs zg195_zf zg195_zq _ _ _ _ (⟨⟨⟨(show 0 ≤ zg195_za ∧ zg195_za ≤ 500 from (by have ob13 : (0 : Int) ≤ (th 13) ∧ (th 13) ≤ 500 := (b0_13 hT :); have ob35 : (0 : Int) ≤ zg195_zt ∧ zg195_zt ≤ 63 := (b0_35 hT :); have ob36 : (0 : Int) ≤ (th 36) ∧ (th 36) ≤ 20 := (b0_36 hT :); have ob37 : (0 : Int) ≤ zg195_za ∧ zg195_za ≤ 500 := (b0_37 hT :); have ob40 : (0 : Int) ≤ zg195_zr ∧ zg195_zr ≤ 500 := (b0_40 hT :); have ob41 : (0 : Int) ≤ zg195_zl ∧ zg195_zl ≤ 500 := (b0_41 hT :); have ob42 : ((-1) : Int) ≤ zg195_ze ∧ zg195_ze ≤ 500 := (b0_42 hT :); have ob43 : ((-1) : Int) ≤ zg195_zq ∧ zg195_zq ≤ 1 := (b0_43 hT :); obtain ⟨o0a, o0b⟩ := (hv2_161 : In _ _ _); obtain ⟨o1a, o1b⟩ := (hv3_161 : In _ _ _); obtain ⟨o2a, o2b⟩ := (hv4_161 : In _ _ _); obtain ⟨o3a, o3b⟩ := (hv5_161 : In _ _ _); obtain ⟨o4a, o4b⟩ := (hv6_161 : In _ _ _); obtain ⟨o5a, o5b⟩ := (hv8_161 : In _ _ _); obtain ⟨o6a, o6b⟩ := (hv9_161 : In _ _ _); obtain ⟨o7a, o7b⟩ := (hv13_161 : In _ _ _); omega)), (show 0 ≤ zg195_ze ∨ 0 ≤ zg195_zq from (by have ob13 : (0 : Int) ≤ (th 13) ∧ (th 13) ≤ 500 := (b0_13 hT :); have ob35 : (0 : Int) ≤ zg195_zt ∧ zg195_zt ≤ 63 := (b0_35 hT :); have ob36 : (0 : Int) ≤ (th 36) ∧ (th 36) ≤ 20 := (b0_36 hT :); have ob37 : (0 : Int) ≤ zg195_za ∧ zg195_za ≤ 500 := (b0_37 hT :); have ob40 : (0 : Int) ≤ zg195_zr ∧ zg195_zr ≤ 500 := (b0_40 hT :); have ob41 : (0 : Int) ≤ zg195_zl ∧ zg195_zl ≤ 500 := (b0_41 hT :); have ob42 : ((-1) : Int) ≤ zg195_ze ∧ zg195_ze ≤ 500 := (b0_42 hT :); have ob43 : ((-1) : Int) ≤ zg195_zq ∧ zg195_zq ≤ 1 := (b0_43 hT :); obtain ⟨o0a, o0b⟩ := (hv2_161 : In _ _ _); obtain ⟨o1a, o1b⟩ := (hv3_161 : In _ _ _); obtain ⟨o2a, o2b⟩ := (hv4_161 : In _ _ _); obtain ⟨o3a, o3b⟩ := (hv5_161 : In _ _ _); obtain ⟨o4a, o4b⟩ := (hv6_161 : In _ _ _); obtain ⟨o5a, o5b⟩ := (hv8_161 : In _ _ _); obtain ⟨o6a, o6b⟩ := (hv9_161 : In _ _ _); obtain ⟨o7a, o7b⟩ := (hv13_161 : In _ _ _); omega))⟩, hzg195.1.2⟩, (show 0 ≤ zg195_ze ∨ zg195_zt % 2 = 1 from (by have ob13 : (0 : Int) ≤ (th 13) ∧ (th 13) ≤ 500 := (b0_13 hT :); have ob35 : (0 : Int) ≤ zg195_zt ∧ zg195_zt ≤ 63 := (b0_35 hT :); have ob36 : (0 : Int) ≤ (th 36) ∧ (th 36) ≤ 20 := (b0_36 hT :); have ob37 : (0 : Int) ≤ zg195_za ∧ zg195_za ≤ 500 := (b0_37 hT :); have ob40 : (0 : Int) ≤ zg195_zr ∧ zg195_zr ≤ 500 := (b0_40 hT :); have ob41 : (0 : Int) ≤ zg195_zl ∧ zg195_zl ≤ 500 := (b0_41 hT :); have ob42 : ((-1) : Int) ≤ zg195_ze ∧ zg195_ze ≤ 500 := (b0_42 hT :); have ob43 : ((-1) : Int) ≤ zg195_zq ∧ zg195_zq ≤ 1 := (b0_43 hT :); obtain ⟨o0a, o0b⟩ := (hv2_161 : In _ _ _); obtain ⟨o1a, o1b⟩ := (hv3_161 : In _ _ _); obtain ⟨o2a, o2b⟩ := (hv4_161 : In _ _ _); obtain ⟨o3a, o3b⟩ := (hv5_161 : In _ _ _); obtain ⟨o4a, o4b⟩ := (hv6_161 : In _ _ _); obtain ⟨o5a, o5b⟩ := (hv8_161 : In _ _ _); obtain ⟨o6a, o6b⟩ := (hv9_161 : In _ _ _); obtain ⟨o7a, o7b⟩ := (hv13_161 : In _ _ _); omega))⟩) hP hD hS (TI.cast hT (by funext q; by_cases hq0 : q = 43; (subst hq0; rfl); by_cases hq1 : q = 34; (subst hq1; rfl); by_cases hq2 : q = 30; (subst hq2; rfl); by_cases hq3 : q = 35; (subst hq3; rfl); by_cases hq4 : q = 42; (subst hq4; rfl); by_cases hq5 : q = 41; (subst hq5; rfl); by_cases hq6 : q = 40; (subst hq6; rfl); by_cases hq7 : q = 37; (subst hq7; rfl); simp only [gset, if_neg hq0, if_neg hq1, if_neg hq2, if_neg hq3, if_neg hq4, if_neg hq5, if_neg hq6, if_neg hq7])) hfr (lv_sub hl [0, 1] rfl)
                          refine lv_if_ne (tgt := 195) hx hb dX11_readsCouncil_165 (by decide) (fun c201 => ?_) (fun c201 => ?_)
                          ·
                            have oc0 : (0 : Int32).toInt = 0 := by decide
                            have cc202 : r155.toInt ≠ (0 : Int32).toInt := i32_ne c201
                            have hb203 : In r155 1 1 := In.ne1 eL159R (⟨by decide, by decide⟩ : In 0 0 0) cc202 (by decide) (by decide)
                            exact hJ195 zg157_za zg157_zr zg157_zl zg157_ze zg157_zt zg157_zs zg157_zf zg157_zq _ _ _ _ (⟨⟨⟨(show 0 ≤ zg157_za ∧ zg157_za ≤ 500 from (by have ob13 : (0 : Int) ≤ (th 13) ∧ (th 13) ≤ 500 := (b0_13 hT :); have ob35 : (0 : Int) ≤ zg157_zt ∧ zg157_zt ≤ 63 := (b0_35 hT :); have ob36 : (0 : Int) ≤ (th 36) ∧ (th 36) ≤ 20 := (b0_36 hT :); have ob37 : (0 : Int) ≤ zg157_za ∧ zg157_za ≤ 500 := (b0_37 hT :); have ob40 : (0 : Int) ≤ zg157_zr ∧ zg157_zr ≤ 500 := (b0_40 hT :); have ob41 : (0 : Int) ≤ zg157_zl ∧ zg157_zl ≤ 500 := (b0_41 hT :); have ob42 : ((-1) : Int) ≤ zg157_ze ∧ zg157_ze ≤ 500 := (b0_42 hT :); have ob43 : ((-1) : Int) ≤ zg157_zq ∧ zg157_zq ≤ 1 := (b0_43 hT :); obtain ⟨o0a, o0b⟩ := (hv2_153 : In _ _ _); obtain ⟨o1a, o1b⟩ := (hv3_153 : In _ _ _); obtain ⟨o2a, o2b⟩ := (hv4_153 : In _ _ _); obtain ⟨o3a, o3b⟩ := (hv5_153 : In _ _ _); obtain ⟨o4a, o4b⟩ := (hv6_153 : In _ _ _); obtain ⟨o5a, o5b⟩ := (hv8_153 : In _ _ _); obtain ⟨o6a, o6b⟩ := (hv9_153 : In _ _ _); obtain ⟨o7a, o7b⟩ := (hv13_153 : In _ _ _); omega)), (show 0 ≤ zg157_ze ∨ 0 ≤ zg157_zq from (by have ob13 : (0 : Int) ≤ (th 13) ∧ (th 13) ≤ 500 := (b0_13 hT :); have ob35 : (0 : Int) ≤ zg157_zt ∧ zg157_zt ≤ 63 := (b0_35 hT :); have ob36 : (0 : Int) ≤ (th 36) ∧ (th 36) ≤ 20 := (b0_36 hT :); have ob37 : (0 : Int) ≤ zg157_za ∧ zg157_za ≤ 500 := (b0_37 hT :); have ob40 : (0 : Int) ≤ zg157_zr ∧ zg157_zr ≤ 500 := (b0_40 hT :); have ob41 : (0 : Int) ≤ zg157_zl ∧ zg157_zl ≤ 500 := (b0_41 hT :); have ob42 : ((-1) : Int) ≤ zg157_ze ∧ zg157_ze ≤ 500 := (b0_42 hT :); have ob43 : ((-1) : Int) ≤ zg157_zq ∧ zg157_zq ≤ 1 := (b0_43 hT :); obtain ⟨o0a, o0b⟩ := (hv2_153 : In _ _ _); obtain ⟨o1a, o1b⟩ := (hv3_153 : In _ _ _); obtain ⟨o2a, o2b⟩ := (hv4_153 : In _ _ _); obtain ⟨o3a, o3b⟩ := (hv5_153 : In _ _ _); obtain ⟨o4a, o4b⟩ := (hv6_153 : In _ _ _); obtain ⟨o5a, o5b⟩ := (hv8_153 : In _ _ _); obtain ⟨o6a, o6b⟩ := (hv9_153 : In _ _ _); obtain ⟨o7a, o7b⟩ := (hv13_153 : In _ _ _); omega))⟩, hzg157.1.2⟩, (show 0 ≤ zg157_ze ∨ zg157_zt % 2 = 1 from (by have ob13 : (0 : Int) ≤ (th 13) ∧ (th 13) ≤ 500 := (b0_13 hT :); have ob35 : (0 : Int) ≤ zg157_zt ∧ zg157_zt ≤ 63 := (b0_35 hT :); have ob36 : (0 : Int) ≤ (th 36) ∧ (th 36) ≤ 20 := (b0_36 hT :); have ob37 : (0 : Int) ≤ zg157_za ∧ zg157_za ≤ 500 := (b0_37 hT :); have ob40 : (0 : Int) ≤ zg157_zr ∧ zg157_zr ≤ 500 := (b0_40 hT :); have ob41 : (0 : Int) ≤ zg157_zl ∧ zg157_zl ≤ 500 := (b0_41 hT :); have ob42 : ((-1) : Int) ≤ zg157_ze ∧ zg157_ze ≤ 500 := (b0_42 hT :); have ob43 : ((-1) : Int) ≤ zg157_zq ∧ zg157_zq ≤ 1 := (b0_43 hT :); obtain ⟨o0a, o0b⟩ := (hv2_153 : In _ _ _); obtain ⟨o1a, o1b⟩ := (hv3_153 : In _ _ _); obtain ⟨o2a, o2b⟩ := (hv4_153 : In _ _ _); obtain ⟨o3a, o3b⟩ := (hv5_153 : In _ _ _); obtain ⟨o4a, o4b⟩ := (hv6_153 : In _ _ _); obtain ⟨o5a, o5b⟩ := (hv8_153 : In _ _ _); obtain ⟨o6a, o6b⟩ := (hv9_153 : In _ _ _); obtain ⟨o7a, o7b⟩ := (hv13_153 : In _ _ _); omega))⟩) hP hD hS (TI.cast hT (by funext q; by_cases hq0 : q = 43; (subst hq0; rfl); by_cases hq1 : q = 34; (subst hq1; rfl); by_cases hq2 : q = 30; (subst hq2; rfl); by_cases hq3 : q = 35; (subst hq3; rfl); by_cases hq4 : q = 42; (subst hq4; rfl); by_cases hq5 : q = 41; (subst hq5; rfl); by_cases hq6 : q = 40; (subst hq6; rfl); by_cases hq7 : q = 37; (subst hq7; rfl); simp only [gset, if_neg hq0, if_neg hq1, if_neg hq2, if_neg hq3, if_neg hq4, if_neg hq5, if_neg hq6, if_neg hq7])) hfr (lv_sub hl [0, 1] rfl)
                          ·
                            have oc0 : (0 : Int32).toInt = 0 := by decide
                            have cc204 : r155.toInt = (0 : Int32).toInt := congrArg Int32.toInt c201
                            have hb205 : In r155 0 0 := In.eq1 eL159R (⟨by decide, by decide⟩ : In 0 0 0) cc204 (by decide) (by decide)
                            refine lv_aload_n hx hb dX11_readsCouncil_168 rfl (lv_at hl 0 rfl) ?_
                            refine pl_get (v := .ref (ad 257)) hx hb hts (fun w h => mT (inX11 w h)) hown hG.1 hP (hst.1 255 (by decide)) hf154 rfl 7 (by decide) (hts _ (mT wg_1343)) (fun _ h => h) rfl dX11_readsCouncil_169 ?_
                            refine lv_iconst (v := 1) hx hb dX11_readsCouncil_172 (by decide) ?_
                            refine lv_aload_n hx hb dX11_readsCouncil_173 rfl (lv_at hl 0 rfl) ?_
                            refine pl_get (v := .ref (ad 257)) hx hb hts (fun w h => mT (inX11 w h)) hown hG.1 hP (hst.1 255 (by decide)) hf154 rfl 7 (by decide) (hts _ (mT wg_1343)) (fun _ h => h) rfl dX11_readsCouncil_174 ?_
                            refine lv_iconst (v := 0) hx hb dX11_readsCouncil_177 (by decide) ?_
                            obtain ⟨rw206, hf207, hpn208, hpg209, hpn210, hpn211, hpn212, hpg213⟩ := hT.2.2 2 (by decide)
                            have hin214 : vp_in 0 6 := In.inb (⟨by decide, by decide⟩ : In 0 0 0) (by decide) (by decide)
                            refine pl_iald hx hb hG.1 hP (hst.1 257 (by decide)) 0 hf207 rfl hin214 dX11_readsCouncil_178 ?_
                            refine lv_topi (fun x215 ex215 => ?_)
                            have hb216 : In x215 0 9 := by rw [ex215]; exact pinI (k := 0) (by decide) hpn208
                            have hgl217 : x215.toInt = zg157_zs := by rw [ex215]; exact pinE (k := 0) (by decide) hpg209
                            refine lv_iconst (v := 1) hx hb dX11_readsCouncil_179 (by decide) ?_
                            refine lv_isub hx hb dX11_readsCouncil_180 ?_
                            refine lv_topi (fun x218 ex218 => ?_)
                            have hb219 : In x218 (-1) 8 := ex218 ▸ In.sub hb216 (⟨by decide, by decide⟩ : In 1 1 1) (by decide) (by decide) (by decide) (by decide)
                            have et220 : x218.toInt = x215.toInt + (-1) := In.sube ex218 hb216 (k := 1) (by decide) (by decide) (by decide)
                            refine lv_aload_n hx hb dX11_readsCouncil_181 rfl (lv_at hl 0 rfl) ?_
                            refine pl_get (v := .int v8_153) hx hb hts (fun w h => mT (inX11 w h)) hown hG.1 hP (hst.1 255 (by decide)) hf154 rfl 8 (by decide) (hts _ (mT wg_1344)) (fun _ h => h) rfl dX11_readsCouncil_182 ?_
                            have hg8_153 : v8_153.toInt = zg157_zq := hg8_153
                            have hJ193 : ∀ (y193_s0 : Int32) (H : Heap) (locs : List Loc) (ls : Array Slot), In y193_s0 3 4 → va_P g.1 vwCl (va_pl L f_157) H → va_D A (va_pl L f_157) → va_S A s.heap H locs → lv_has ls 2 [(0, .ref (ad 255)), (1, .int r130)] → W p l e rm_X11_readsCouncil s m [.ref (ad 255)].toArray below meth c H locs 0 0 (MQ below (va_Qi (po_X11_readsCouncil g ad th L f ) (PstB g A) A) [.ref (ad 255)].toArray s rm_X11_readsCouncil.cells rm_X11_readsCouncil.slots A) (F0 m 193 ls [.int y193_s0, .int x218, .int 1, .ref (ad 257)]) := by
                              intro y193_s0 H locs ls hy193_s0 hP hD hS hl
                              refine lv_idiv hx hb dX11_readsCouncil_193 (In.ne0 hy193_s0 (by decide)) ?_
                              refine lv_topi (fun x221 ex221 => ?_)
                              have hb222 : In x221 0 2 := ex221 ▸ In.divs2 hb219 hy193_s0 (by decide) (by decide) (by decide)
                              refine pl_iastE hx hb hG.1 hP hD hS (hst.1 257 (by decide)) 0 hf207 rfl (In.inb (⟨by decide, by decide⟩ : In 1 1 1) (by decide) (by decide)) dX11_readsCouncil_194 (fun H locs f223 r226 er226 hf224 ho225 hP hD hS => ?_)
                              have hpn227 : In (r226 0) 0 9 := (upd_neI (k := 0) er226 (by decide)) ▸ hpn208
                              have hpg228 := (congrArg Int32.toInt (upd_neI (k := 0) er226 (by decide))).trans hpg209
                              have hpn229 : In (r226 1) 0 4 := (upd_eqI (k := 1) er226 (by decide)) ▸ (In.mono hb222 (by decide) (by decide))
                              have hpn230 : In (r226 2) 0 6 := (upd_neI (k := 2) er226 (by decide)) ▸ hpn211
                              have hpn231 : In (r226 4) 0 511 := (upd_neI (k := 4) er226 (by decide)) ▸ hpn212
                              have hpg232 := (congrArg Int32.toInt (upd_neI (k := 4) er226 (by decide))).trans hpg213
                              have hf233 := (ho225 (ad 255) (hst.ne (by decide) (by decide) (by decide))).trans hf154
                              have hfr : (∀ b, b ≠ (ad 255) → b ≠ (ad 257) → f223 b = f b) := fun b z0_ z1_ => (ho225 b z1_).trans (hfr b z0_ z1_)
                              have hT := TI.updM hT hst (k := 2) (by decide) hf224 ho225 ⟨r226, rfl, hpn227, (hpg228.trans rfl), hpn229, hpn230, hpn231, (hpg232.trans rfl)⟩
                              exact hJ195 zg157_za zg157_zr zg157_zl zg157_ze zg157_zt zg157_zs zg157_zf zg157_zq _ _ _ _ (⟨⟨⟨(show 0 ≤ zg157_za ∧ zg157_za ≤ 500 from (by have ob13 : (0 : Int) ≤ (th 13) ∧ (th 13) ≤ 500 := (b0_13 hT :); have ob35 : (0 : Int) ≤ zg157_zt ∧ zg157_zt ≤ 63 := (b0_35 hT :); have ob36 : (0 : Int) ≤ (th 36) ∧ (th 36) ≤ 20 := (b0_36 hT :); have ob37 : (0 : Int) ≤ zg157_za ∧ zg157_za ≤ 500 := (b0_37 hT :); have ob40 : (0 : Int) ≤ zg157_zr ∧ zg157_zr ≤ 500 := (b0_40 hT :); have ob41 : (0 : Int) ≤ zg157_zl ∧ zg157_zl ≤ 500 := (b0_41 hT :); have ob42 : ((-1) : Int) ≤ zg157_ze ∧ zg157_ze ≤ 500 := (b0_42 hT :); have ob43 : ((-1) : Int) ≤ zg157_zq ∧ zg157_zq ≤ 1 := (b0_43 hT :); obtain ⟨o0a, o0b⟩ := (hv2_153 : In _ _ _); obtain ⟨o1a, o1b⟩ := (hv3_153 : In _ _ _); obtain ⟨o2a, o2b⟩ := (hv4_153 : In _ _ _); obtain ⟨o3a, o3b⟩ := (hv5_153 : In _ _ _); obtain ⟨o4a, o4b⟩ := (hv6_153 : In _ _ _); obtain ⟨o5a, o5b⟩ := (hv8_153 : In _ _ _); obtain ⟨o6a, o6b⟩ := (hv9_153 : In _ _ _); obtain ⟨o7a, o7b⟩ := (hv13_153 : In _ _ _); omega)), (show 0 ≤ zg157_ze ∨ 0 ≤ zg157_zq from (by have ob13 : (0 : Int) ≤ (th 13) ∧ (th 13) ≤ 500 := (b0_13 hT :); have ob35 : (0 : Int) ≤ zg157_zt ∧ zg157_zt ≤ 63 := (b0_35 hT :); have ob36 : (0 : Int) ≤ (th 36) ∧ (th 36) ≤ 20 := (b0_36 hT :); have ob37 : (0 : Int) ≤ zg157_za ∧ zg157_za ≤ 500 := (b0_37 hT :); have ob40 : (0 : Int) ≤ zg157_zr ∧ zg157_zr ≤ 500 := (b0_40 hT :); have ob41 : (0 : Int) ≤ zg157_zl ∧ zg157_zl ≤ 500 := (b0_41 hT :); have ob42 : ((-1) : Int) ≤ zg157_ze ∧ zg157_ze ≤ 500 := (b0_42 hT :); have ob43 : ((-1) : Int) ≤ zg157_zq ∧ zg157_zq ≤ 1 := (b0_43 hT :); obtain ⟨o0a, o0b⟩ := (hv2_153 : In _ _ _); obtain ⟨o1a, o1b⟩ := (hv3_153 : In _ _ _); obtain ⟨o2a, o2b⟩ := (hv4_153 : In _ _ _); obtain ⟨o3a, o3b⟩ := (hv5_153 : In _ _ _); obtain ⟨o4a, o4b⟩ := (hv6_153 : In _ _ _); obtain ⟨o5a, o5b⟩ := (hv8_153 : In _ _ _); obtain ⟨o6a, o6b⟩ := (hv9_153 : In _ _ _); obtain ⟨o7a, o7b⟩ := (hv13_153 : In _ _ _); omega))⟩, hzg157.1.2⟩, (show 0 ≤ zg157_ze ∨ zg157_zt % 2 = 1 from (by have ob13 : (0 : Int) ≤ (th 13) ∧ (th 13) ≤ 500 := (b0_13 hT :); have ob35 : (0 : Int) ≤ zg157_zt ∧ zg157_zt ≤ 63 := (b0_35 hT :); have ob36 : (0 : Int) ≤ (th 36) ∧ (th 36) ≤ 20 := (b0_36 hT :); have ob37 : (0 : Int) ≤ zg157_za ∧ zg157_za ≤ 500 := (b0_37 hT :); have ob40 : (0 : Int) ≤ zg157_zr ∧ zg157_zr ≤ 500 := (b0_40 hT :); have ob41 : (0 : Int) ≤ zg157_zl ∧ zg157_zl ≤ 500 := (b0_41 hT :); have ob42 : ((-1) : Int) ≤ zg157_ze ∧ zg157_ze ≤ 500 := (b0_42 hT :); have ob43 : ((-1) : Int) ≤ zg157_zq ∧ zg157_zq ≤ 1 := (b0_43 hT :); obtain ⟨o0a, o0b⟩ := (hv2_153 : In _ _ _); obtain ⟨o1a, o1b⟩ := (hv3_153 : In _ _ _); obtain ⟨o2a, o2b⟩ := (hv4_153 : In _ _ _); obtain ⟨o3a, o3b⟩ := (hv5_153 : In _ _ _); obtain ⟨o4a, o4b⟩ := (hv6_153 : In _ _ _); obtain ⟨o5a, o5b⟩ := (hv8_153 : In _ _ _); obtain ⟨o6a, o6b⟩ := (hv9_153 : In _ _ _); obtain ⟨o7a, o7b⟩ := (hv13_153 : In _ _ _); omega))⟩) hP hD hS (TI.cast hT (by funext q; by_cases hq0 : q = 43; (subst hq0; rfl); by_cases hq1 : q = 34; (subst hq1; rfl); by_cases hq2 : q = 30; (subst hq2; rfl); by_cases hq3 : q = 35; (subst hq3; rfl); by_cases hq4 : q = 42; (subst hq4; rfl); by_cases hq5 : q = 41; (subst hq5; rfl); by_cases hq6 : q = 40; (subst hq6; rfl); by_cases hq7 : q = 37; (subst hq7; rfl); simp only [gset, if_neg hq0, if_neg hq1, if_neg hq2, if_neg hq3, if_neg hq4, if_neg hq5, if_neg hq6, if_neg hq7])) hfr (lv_sub hl [0, 1] rfl)
                            refine lv_if_ne (tgt := 192) hx hb dX11_readsCouncil_185 (by decide) (fun c234 => ?_) (fun c234 => ?_)
                            ·
                              have oc0 : (0 : Int32).toInt = 0 := by decide
                              have cc235 : v8_153.toInt ≠ (0 : Int32).toInt := i32_ne c234
                              refine lv_iconst (v := 4) hx hb dX11_readsCouncil_192 (by decide) ?_
                              exact hJ193 4 _ _ _ (⟨by decide, by decide⟩ : In 4 3 4) hP hD hS (lv_sub hl [0, 1] rfl)
                            ·
                              have oc0 : (0 : Int32).toInt = 0 := by decide
                              have cc236 : v8_153.toInt = (0 : Int32).toInt := congrArg Int32.toInt c234
                              have hb237 : In v8_153 0 0 := In.eq1 hv8_153 (⟨by decide, by decide⟩ : In 0 0 0) cc236 (by decide) (by decide)
                              refine lv_iconst (v := 3) hx hb dX11_readsCouncil_188 (by decide) ?_
                              refine lv_goto (tgt := 193) hx hb dX11_readsCouncil_189 (by decide) ?_
                              exact hJ193 3 _ _ _ (⟨by decide, by decide⟩ : In 3 3 4) hP hD hS (lv_sub hl [0, 1] rfl)
                        refine lv_icmp_ne (tgt := 157) hx hb dX11_readsCouncil_127 (by decide) (fun c238 => ?_) (fun c238 => ?_)
                        ·
                          have ocm1 : ((-1) : Int32).toInt = (-1) := by decide
                          have cc239 : v4_151.toInt ≠ ((-1) : Int32).toInt := i32_ne c238
                          have hb240 : In v4_151 0 500 := In.ne1 hv4_151 (⟨by decide, by decide⟩ : In (-1) (-1) (-1)) cc239 (by decide) (by decide)
                          exact hJ157 zg122_za zg122_zr zg122_zl zg122_ze zg122_zt zg122_zs zg122_zf zg122_zq _ _ _ _ (⟨⟨⟨(show 0 ≤ zg122_za ∧ zg122_za ≤ 500 from (by have ob13 : (0 : Int) ≤ (th 13) ∧ (th 13) ≤ 500 := (b0_13 hT :); have ob35 : (0 : Int) ≤ zg122_zt ∧ zg122_zt ≤ 63 := (b0_35 hT :); have ob36 : (0 : Int) ≤ (th 36) ∧ (th 36) ≤ 20 := (b0_36 hT :); have ob37 : (0 : Int) ≤ zg122_za ∧ zg122_za ≤ 500 := (b0_37 hT :); have ob40 : (0 : Int) ≤ zg122_zr ∧ zg122_zr ≤ 500 := (b0_40 hT :); have ob41 : (0 : Int) ≤ zg122_zl ∧ zg122_zl ≤ 500 := (b0_41 hT :); have ob42 : ((-1) : Int) ≤ zg122_ze ∧ zg122_ze ≤ 500 := (b0_42 hT :); have ob43 : ((-1) : Int) ≤ zg122_zq ∧ zg122_zq ≤ 1 := (b0_43 hT :); obtain ⟨o0a, o0b⟩ := (hv2_151 : In _ _ _); obtain ⟨o1a, o1b⟩ := (hv3_151 : In _ _ _); obtain ⟨o2a, o2b⟩ := (hb240 : In _ _ _); obtain ⟨o3a, o3b⟩ := (hv5_151 : In _ _ _); obtain ⟨o4a, o4b⟩ := (hv6_151 : In _ _ _); obtain ⟨o5a, o5b⟩ := (hv8_151 : In _ _ _); obtain ⟨o6a, o6b⟩ := (hv9_151 : In _ _ _); obtain ⟨o7a, o7b⟩ := (hv13_151 : In _ _ _); omega)), (show 0 ≤ zg122_ze ∨ 0 ≤ zg122_zq from (by have ob13 : (0 : Int) ≤ (th 13) ∧ (th 13) ≤ 500 := (b0_13 hT :); have ob35 : (0 : Int) ≤ zg122_zt ∧ zg122_zt ≤ 63 := (b0_35 hT :); have ob36 : (0 : Int) ≤ (th 36) ∧ (th 36) ≤ 20 := (b0_36 hT :); have ob37 : (0 : Int) ≤ zg122_za ∧ zg122_za ≤ 500 := (b0_37 hT :); have ob40 : (0 : Int) ≤ zg122_zr ∧ zg122_zr ≤ 500 := (b0_40 hT :); have ob41 : (0 : Int) ≤ zg122_zl ∧ zg122_zl ≤ 500 := (b0_41 hT :); have ob42 : ((-1) : Int) ≤ zg122_ze ∧ zg122_ze ≤ 500 := (b0_42 hT :); have ob43 : ((-1) : Int) ≤ zg122_zq ∧ zg122_zq ≤ 1 := (b0_43 hT :); obtain ⟨o0a, o0b⟩ := (hv2_151 : In _ _ _); obtain ⟨o1a, o1b⟩ := (hv3_151 : In _ _ _); obtain ⟨o2a, o2b⟩ := (hb240 : In _ _ _); obtain ⟨o3a, o3b⟩ := (hv5_151 : In _ _ _); obtain ⟨o4a, o4b⟩ := (hv6_151 : In _ _ _); obtain ⟨o5a, o5b⟩ := (hv8_151 : In _ _ _); obtain ⟨o6a, o6b⟩ := (hv9_151 : In _ _ _); obtain ⟨o7a, o7b⟩ := (hv13_151 : In _ _ _); omega))⟩, hzg122.2⟩, (show 0 ≤ zg122_ze ∨ zg122_zt % 2 = 1 from (by have ob13 : (0 : Int) ≤ (th 13) ∧ (th 13) ≤ 500 := (b0_13 hT :); have ob35 : (0 : Int) ≤ zg122_zt ∧ zg122_zt ≤ 63 := (b0_35 hT :); have ob36 : (0 : Int) ≤ (th 36) ∧ (th 36) ≤ 20 := (b0_36 hT :); have ob37 : (0 : Int) ≤ zg122_za ∧ zg122_za ≤ 500 := (b0_37 hT :); have ob40 : (0 : Int) ≤ zg122_zr ∧ zg122_zr ≤ 500 := (b0_40 hT :); have ob41 : (0 : Int) ≤ zg122_zl ∧ zg122_zl ≤ 500 := (b0_41 hT :); have ob42 : ((-1) : Int) ≤ zg122_ze ∧ zg122_ze ≤ 500 := (b0_42 hT :); have ob43 : ((-1) : Int) ≤ zg122_zq ∧ zg122_zq ≤ 1 := (b0_43 hT :); obtain ⟨o0a, o0b⟩ := (hv2_151 : In _ _ _); obtain ⟨o1a, o1b⟩ := (hv3_151 : In _ _ _); obtain ⟨o2a, o2b⟩ := (hb240 : In _ _ _); obtain ⟨o3a, o3b⟩ := (hv5_151 : In _ _ _); obtain ⟨o4a, o4b⟩ := (hv6_151 : In _ _ _); obtain ⟨o5a, o5b⟩ := (hv8_151 : In _ _ _); obtain ⟨o6a, o6b⟩ := (hv9_151 : In _ _ _); obtain ⟨o7a, o7b⟩ := (hv13_151 : In _ _ _); omega))⟩) hP hD hS (TI.cast hT (by funext q; by_cases hq0 : q = 43; (subst hq0; rfl); by_cases hq1 : q = 34; (subst hq1; rfl); by_cases hq2 : q = 30; (subst hq2; rfl); by_cases hq3 : q = 35; (subst hq3; rfl); by_cases hq4 : q = 42; (subst hq4; rfl); by_cases hq5 : q = 41; (subst hq5; rfl); by_cases hq6 : q = 40; (subst hq6; rfl); by_cases hq7 : q = 37; (subst hq7; rfl); simp only [gset, if_neg hq0, if_neg hq1, if_neg hq2, if_neg hq3, if_neg hq4, if_neg hq5, if_neg hq6, if_neg hq7])) hfr (lv_sub hl [0, 1] rfl)
                        ·
                          have ocm1 : ((-1) : Int32).toInt = (-1) := by decide
                          have cc241 : v4_151.toInt = ((-1) : Int32).toInt := congrArg Int32.toInt c238
                          have hb242 : In v4_151 (-1) (-1) := In.eq1 hv4_151 (⟨by decide, by decide⟩ : In (-1) (-1) (-1)) cc241 (by decide) (by decide)
                          refine lv_aload_n hx hb dX11_readsCouncil_130 rfl (lv_at hl 0 rfl) ?_
                          refine call_i (run_V (rm := rm_X11_look) hx hb hml hown hts (s_X11_look l g ad (gset (gset (gset (gset (gset (gset (gset (gset th 37 zg122_za) 40 zg122_zr) 41 zg122_zl) 42 zg122_ze) 35 zg122_zt) 30 zg122_zs) 34 zg122_zf) 43 zg122_zq) _ _ _  hst hT ) cV_X11_look wg_1529 ⟨Nat.le_of_ble_eq_true rfl, Nat.le_of_ble_eq_true rfl⟩ hG hE hA hP hD hS (hst.1 255 (by decide)) hf152 rfl rfl hl.1 (As := []) (rest := []) rfl (Nat.le_of_ble_eq_true rfl) dX11_readsCouncil_131 ⟨Nat.le_of_ble_eq_true rfl, Nat.le_of_ble_eq_true rfl⟩) hA hD hS (fun r243 L244 f245 H locs hp246 hP hD hS => ?_)
                          obtain ⟨eL247L, eL247T, eL247F, eL247R⟩ := hp246
                          have eL247L : L244 = L := eL247L
                          rw [eL247L] at hP hD
                          obtain ⟨zz248, hzz248, eL247T⟩ := eL247T
                          have hT : TI g ad (gset (gset (gset (gset (gset (gset (gset (gset (gset th 37 zg122_za) 40 zg122_zr) 41 zg122_zl) 42 zg122_ze) 35 zg122_zt) 30 zg122_zs) 34 zg122_zf) 43 zg122_zq) 37 zz248) f245 := eL247T
                          have hT : TI g ad (gset (gset (gset (gset (gset (gset (gset (gset th 40 zg122_zr) 41 zg122_zl) 42 zg122_ze) 35 zg122_zt) 30 zg122_zs) 34 zg122_zf) 43 zg122_zq) 37 zz248) f245 := TI.cast hT (by funext q; by_cases hq0 : q = 37; (subst hq0; rfl); by_cases hq1 : q = 43; (subst hq1; rfl); by_cases hq2 : q = 34; (subst hq2; rfl); by_cases hq3 : q = 30; (subst hq3; rfl); by_cases hq4 : q = 35; (subst hq4; rfl); by_cases hq5 : q = 42; (subst hq5; rfl); by_cases hq6 : q = 41; (subst hq6; rfl); by_cases hq7 : q = 40; (subst hq7; rfl); simp only [gset, if_neg hq0, if_neg hq1, if_neg hq2, if_neg hq3, if_neg hq4, if_neg hq5, if_neg hq6, if_neg hq7])
                          have eL247F : ∀ b, b ≠ (ad 255) → f245 b = f_122 b := eL247F
                          have hfr : (∀ b, b ≠ (ad 255) → b ≠ (ad 257) → f245 b = f b) := fun b z0_ z1_ => (eL247F b z0_).trans (hfr b z0_ z1_)
                          have eL247R : In r243 (-1) 255 := eL247R
                          refine lv_iconst (v := (-1)) hx hb dX11_readsCouncil_134 (by decide) ?_
                          have hJ149 : ∀ (H : Heap) (locs : List Loc) (ls : Array Slot), va_P g.1 vwCl (va_pl L f245) H → va_D A (va_pl L f245) → va_S A s.heap H locs → lv_has ls 2 [(0, .ref (ad 255)), (1, .int r130)] → W p l e rm_X11_readsCouncil s m [.ref (ad 255)].toArray below meth c H locs 0 0 (MQ below (va_Qi (po_X11_readsCouncil g ad th L f ) (PstB g A) A) [.ref (ad 255)].toArray s rm_X11_readsCouncil.cells rm_X11_readsCouncil.slots A) (F0 m 149 ls []) := by
                            intro H locs ls hP hD hS hl
                            refine lv_aload_n hx hb dX11_readsCouncil_149 rfl (lv_at hl 0 rfl) ?_
                            refine lv_aload_n hx hb dX11_readsCouncil_150 rfl (lv_at hl 0 rfl) ?_
                            refine M0e hT (fun v0_249 v2_249 v3_249 v4_249 v5_249 v6_249 v8_249 v9_249 v12_249 v13_249 v14_249 v15_249 v16_249 v17_249 v18_249 v19_249 v20_249 v21_249 v22_249 v23_249 v25_249 v36_249 v37_249 v38_249 v39_249 v40_249 v45_249 v46_249 v47_249 v48_249 v50_249 v51_249 v53_249 v55_249 hf250 hv0_249 hv2_249 hg2_249 hv3_249 hg3_249 hv4_249 hg4_249 hv5_249 hg5_249 hv6_249 hg6_249 hv8_249 hg8_249 hv9_249 hg9_249 hv12_249 hv13_249 hg13_249 hv14_249 hg14_249 hv15_249 hg15_249 hv17_249 hg17_249 hv20_249 hg20_249 hv23_249 hg23_249 hv25_249 hg25_249 hv36_249 hg36_249 hv47_249 hg47_249 hv48_249 hg48_249 hv53_249 hg53_249 hv55_249 hg55_249 hrel0_249 => ?_)
                            have hg15_249 : v15_249.toInt = th 11 := hg15_249
                            have hg20_249 : v20_249.toInt = th 14 := hg20_249
                            refine pl_get (v := .int v3_249) hx hb hts (fun w h => mT (inX11 w h)) hown hG.1 hP (hst.1 255 (by decide)) hf250 rfl 3 (by decide) (hts _ (mT wg_1339)) (fun _ h => h) rfl dX11_readsCouncil_151 ?_
                            have hg3_249 : v3_249.toInt = zz248 := hg3_249
                            refine call_v (run_V (rm := rm_X11_fails) hx hb hml hown hts (s_X11_fails l g ad (gset (gset (gset (gset (gset (gset (gset (gset th 40 zg122_zr) 41 zg122_zl) 42 zg122_ze) 35 zg122_zt) 30 zg122_zs) 34 zg122_zf) 43 zg122_zq) 37 zz248) _ _ _ v3_249 hst hT hv3_249) cV_X11_fails wg_1545 ⟨Nat.le_of_ble_eq_true rfl, Nat.le_of_ble_eq_true rfl⟩ hG hE hA hP hD hS (hst.1 255 (by decide)) hf250 rfl rfl hl.1 (As := [.int v3_249]) (rest := []) rfl (Nat.le_of_ble_eq_true rfl) dX11_readsCouncil_154 ⟨Nat.le_of_ble_eq_true rfl, Nat.le_of_ble_eq_true rfl⟩) hA hD hS (fun L252 f253 H locs hp254 hP hD hS => ?_)
                            obtain ⟨eL255L, eL255T, eL255F⟩ := hp254
                            have eL255L : L252 = L := eL255L
                            rw [eL255L] at hP hD
                            obtain ⟨zz256, hzz256, eL255T⟩ := eL255T
                            have hzz256 : 0 ≤ zz256 := hzz256
                            have hT : TI g ad (gset (gset (gset (gset (gset (gset (gset (gset (gset th 40 zg122_zr) 41 zg122_zl) 42 zg122_ze) 35 zg122_zt) 30 zg122_zs) 34 zg122_zf) 43 zg122_zq) 37 zz248) 42 zz256) f253 := eL255T
                            have hT : TI g ad (gset (gset (gset (gset (gset (gset (gset (gset th 40 zg122_zr) 41 zg122_zl) 35 zg122_zt) 30 zg122_zs) 34 zg122_zf) 43 zg122_zq) 37 zz248) 42 zz256) f253 := TI.cast hT (by funext q; by_cases hq0 : q = 42; (subst hq0; rfl); by_cases hq1 : q = 37; (subst hq1; rfl); by_cases hq2 : q = 43; (subst hq2; rfl); by_cases hq3 : q = 34; (subst hq3; rfl); by_cases hq4 : q = 30; (subst hq4; rfl); by_cases hq5 : q = 35; (subst hq5; rfl); by_cases hq6 : q = 41; (subst hq6; rfl); by_cases hq7 : q = 40; (subst hq7; rfl); simp only [gset, if_neg hq0, if_neg hq1, if_neg hq2, if_neg hq3, if_neg hq4, if_neg hq5, if_neg hq6, if_neg hq7])
                            have eL255F : ∀ b, b ≠ (ad 255) → f253 b = f245 b := eL255F
                            have hfr : (∀ b, b ≠ (ad 255) → b ≠ (ad 257) → f253 b = f b) := fun b z0_ z1_ => (eL255F b z0_).trans (hfr b z0_ z1_)
                            exact hJ157 zz248 zg122_zr zg122_zl zz256 zg122_zt zg122_zs zg122_zf zg122_zq _ _ _ _ (⟨⟨⟨(show 0 ≤ zz248 ∧ zz248 ≤ 500 from (by have ob13 : (0 : Int) ≤ (th 13) ∧ (th 13) ≤ 500 := (b0_13 hT :); have ob35 : (0 : Int) ≤ zg122_zt ∧ zg122_zt ≤ 63 := (b0_35 hT :); have ob36 : (0 : Int) ≤ (th 36) ∧ (th 36) ≤ 20 := (b0_36 hT :); have ob37 : (0 : Int) ≤ zz248 ∧ zz248 ≤ 500 := (b0_37 hT :); have ob40 : (0 : Int) ≤ zg122_zr ∧ zg122_zr ≤ 500 := (b0_40 hT :); have ob41 : (0 : Int) ≤ zg122_zl ∧ zg122_zl ≤ 500 := (b0_41 hT :); have ob42 : ((-1) : Int) ≤ zz256 ∧ zz256 ≤ 500 := (b0_42 hT :); have ob43 : ((-1) : Int) ≤ zg122_zq ∧ zg122_zq ≤ 1 := (b0_43 hT :); omega)), (show 0 ≤ zz256 ∨ 0 ≤ zg122_zq from (by have ob13 : (0 : Int) ≤ (th 13) ∧ (th 13) ≤ 500 := (b0_13 hT :); have ob35 : (0 : Int) ≤ zg122_zt ∧ zg122_zt ≤ 63 := (b0_35 hT :); have ob36 : (0 : Int) ≤ (th 36) ∧ (th 36) ≤ 20 := (b0_36 hT :); have ob37 : (0 : Int) ≤ zz248 ∧ zz248 ≤ 500 := (b0_37 hT :); have ob40 : (0 : Int) ≤ zg122_zr ∧ zg122_zr ≤ 500 := (b0_40 hT :); have ob41 : (0 : Int) ≤ zg122_zl ∧ zg122_zl ≤ 500 := (b0_41 hT :); have ob42 : ((-1) : Int) ≤ zz256 ∧ zz256 ≤ 500 := (b0_42 hT :); have ob43 : ((-1) : Int) ≤ zg122_zq ∧ zg122_zq ≤ 1 := (b0_43 hT :); omega))⟩, hzg122.2⟩, (show 0 ≤ zz256 ∨ zg122_zt % 2 = 1 from (by have ob13 : (0 : Int) ≤ (th 13) ∧ (th 13) ≤ 500 := (b0_13 hT :); have ob35 : (0 : Int) ≤ zg122_zt ∧ zg122_zt ≤ 63 := (b0_35 hT :); have ob36 : (0 : Int) ≤ (th 36) ∧ (th 36) ≤ 20 := (b0_36 hT :); have ob37 : (0 : Int) ≤ zz248 ∧ zz248 ≤ 500 := (b0_37 hT :); have ob40 : (0 : Int) ≤ zg122_zr ∧ zg122_zr ≤ 500 := (b0_40 hT :); have ob41 : (0 : Int) ≤ zg122_zl ∧ zg122_zl ≤ 500 := (b0_41 hT :); have ob42 : ((-1) : Int) ≤ zz256 ∧ zz256 ≤ 500 := (b0_42 hT :); have ob43 : ((-1) : Int) ≤ zg122_zq ∧ zg122_zq ≤ 1 := (b0_43 hT :); omega))⟩) hP hD hS (TI.cast hT (by funext q; by_cases hq0 : q = 42; (subst hq0; rfl); by_cases hq1 : q = 37; (subst hq1; rfl); by_cases hq2 : q = 43; (subst hq2; rfl); by_cases hq3 : q = 34; (subst hq3; rfl); by_cases hq4 : q = 30; (subst hq4; rfl); by_cases hq5 : q = 35; (subst hq5; rfl); by_cases hq6 : q = 41; (subst hq6; rfl); by_cases hq7 : q = 40; (subst hq7; rfl); simp only [gset, if_neg hq0, if_neg hq1, if_neg hq2, if_neg hq3, if_neg hq4, if_neg hq5, if_neg hq6, if_neg hq7])) hfr (lv_sub hl [0, 1] rfl)
                          refine lv_icmp_ne (tgt := 149) hx hb dX11_readsCouncil_135 (by decide) (fun c257 => ?_) (fun c257 => ?_)
                          ·
                            have ocm1 : ((-1) : Int32).toInt = (-1) := by decide
                            have cc258 : r243.toInt ≠ ((-1) : Int32).toInt := i32_ne c257
                            have hb259 : In r243 0 255 := In.ne1 eL247R (⟨by decide, by decide⟩ : In (-1) (-1) (-1)) cc258 (by decide) (by decide)
                            exact hJ149 _ _ _ hP hD hS (lv_sub hl [0, 1] rfl)
                          ·
                            have ocm1 : ((-1) : Int32).toInt = (-1) := by decide
                            have cc260 : r243.toInt = ((-1) : Int32).toInt := congrArg Int32.toInt c257
                            have hb261 : In r243 (-1) (-1) := In.eq1 eL247R (⟨by decide, by decide⟩ : In (-1) (-1) (-1)) cc260 (by decide) (by decide)
                            refine lv_aload_n hx hb dX11_readsCouncil_138 rfl (lv_at hl 0 rfl) ?_
                            refine M0e hT (fun v0_262 v2_262 v3_262 v4_262 v5_262 v6_262 v8_262 v9_262 v12_262 v13_262 v14_262 v15_262 v16_262 v17_262 v18_262 v19_262 v20_262 v21_262 v22_262 v23_262 v25_262 v36_262 v37_262 v38_262 v39_262 v40_262 v45_262 v46_262 v47_262 v48_262 v50_262 v51_262 v53_262 v55_262 hf263 hv0_262 hv2_262 hg2_262 hv3_262 hg3_262 hv4_262 hg4_262 hv5_262 hg5_262 hv6_262 hg6_262 hv8_262 hg8_262 hv9_262 hg9_262 hv12_262 hv13_262 hg13_262 hv14_262 hg14_262 hv15_262 hg15_262 hv17_262 hg17_262 hv20_262 hg20_262 hv23_262 hg23_262 hv25_262 hg25_262 hv36_262 hg36_262 hv47_262 hg47_262 hv48_262 hg48_262 hv53_262 hg53_262 hv55_262 hg55_262 hrel0_262 => ?_)
                            have hg15_262 : v15_262.toInt = th 11 := hg15_262
                            have hg20_262 : v20_262.toInt = th 14 := hg20_262
                            refine pl_get (v := .int v9_262) hx hb hts (fun w h => mT (inX11 w h)) hown hG.1 hP (hst.1 255 (by decide)) hf263 rfl 9 (by decide) (hts _ (mT wg_1345)) (fun _ h => h) rfl dX11_readsCouncil_139 ?_
                            have hg9_262 : v9_262.toInt = zg122_zt := hg9_262
                            refine lv_iconst (v := 0) hx hb dX11_readsCouncil_142 (by decide) ?_
                            refine call_i (run_S (rm := rm_X11_has) hx hb hml hown hts (s_X11_has l g ad (gset (gset (gset (gset (gset (gset (gset (gset th 40 zg122_zr) 41 zg122_zl) 42 zg122_ze) 35 zg122_zt) 30 zg122_zs) 34 zg122_zf) 43 zg122_zq) 37 zz248) _ _ _ v9_262 0 hst hT ) cS_X11_has wg_1563 ⟨Nat.le_of_ble_eq_true rfl, Nat.le_of_ble_eq_true rfl⟩ hG hE hA hP hD hS rfl hl.1 (As := [.int v9_262, .int 0]) (rest := []) rfl (Nat.le_of_ble_eq_true rfl) dX11_readsCouncil_143 ⟨Nat.le_of_ble_eq_true rfl, Nat.le_of_ble_eq_true rfl⟩) hA hD hS (fun r264 L265 f266 H locs hp267 hP hD hS => ?_)
                            obtain ⟨eL268L, eL268T, eL268R, eL268X0⟩ := hp267
                            have eL268L : L265 = L := eL268L
                            have eL268T : f266 = f245 := eL268T
                            rw [eL268L, eL268T] at hP hD
                            have eL268R : In r264 0 1 := eL268R
                            have hbt269 : r264.toInt = bitI zg122_zt 0 := (eL268X0 (Int.le_trans (by decide) hv9_262.1) (⟨by decide, by decide⟩ : In 0 0 30)).trans (by rw [hg9_262, show (0 : Int32).toInt = 0 by decide])
                            have hb0c := bitI_0 (zg122_zt)
                            refine lv_if_ne (tgt := 157) hx hb dX11_readsCouncil_146 (by decide) (fun c270 => ?_) (fun c270 => ?_)
                            ·
                              have oc0 : (0 : Int32).toInt = 0 := by decide
                              have cc271 : r264.toInt ≠ (0 : Int32).toInt := i32_ne c270
                              have hb272 : In r264 1 1 := In.ne1 eL268R (⟨by decide, by decide⟩ : In 0 0 0) cc271 (by decide) (by decide)
                              exact hJ157 zz248 zg122_zr zg122_zl zg122_ze zg122_zt zg122_zs zg122_zf zg122_zq _ _ _ _ (⟨⟨⟨(show 0 ≤ zz248 ∧ zz248 ≤ 500 from (by have ob13 : (0 : Int) ≤ (th 13) ∧ (th 13) ≤ 500 := (b0_13 hT :); have ob35 : (0 : Int) ≤ zg122_zt ∧ zg122_zt ≤ 63 := (b0_35 hT :); have ob36 : (0 : Int) ≤ (th 36) ∧ (th 36) ≤ 20 := (b0_36 hT :); have ob37 : (0 : Int) ≤ zz248 ∧ zz248 ≤ 500 := (b0_37 hT :); have ob40 : (0 : Int) ≤ zg122_zr ∧ zg122_zr ≤ 500 := (b0_40 hT :); have ob41 : (0 : Int) ≤ zg122_zl ∧ zg122_zl ≤ 500 := (b0_41 hT :); have ob42 : ((-1) : Int) ≤ zg122_ze ∧ zg122_ze ≤ 500 := (b0_42 hT :); have ob43 : ((-1) : Int) ≤ zg122_zq ∧ zg122_zq ≤ 1 := (b0_43 hT :); obtain ⟨o0a, o0b⟩ := (hv2_262 : In _ _ _); obtain ⟨o1a, o1b⟩ := (hv3_262 : In _ _ _); obtain ⟨o2a, o2b⟩ := (hv4_262 : In _ _ _); obtain ⟨o3a, o3b⟩ := (hv5_262 : In _ _ _); obtain ⟨o4a, o4b⟩ := (hv6_262 : In _ _ _); obtain ⟨o5a, o5b⟩ := (hv8_262 : In _ _ _); obtain ⟨o6a, o6b⟩ := (hv9_262 : In _ _ _); obtain ⟨o7a, o7b⟩ := (hv13_262 : In _ _ _); omega)), (show 0 ≤ zg122_ze ∨ 0 ≤ zg122_zq from (by have ob13 : (0 : Int) ≤ (th 13) ∧ (th 13) ≤ 500 := (b0_13 hT :); have ob35 : (0 : Int) ≤ zg122_zt ∧ zg122_zt ≤ 63 := (b0_35 hT :); have ob36 : (0 : Int) ≤ (th 36) ∧ (th 36) ≤ 20 := (b0_36 hT :); have ob37 : (0 : Int) ≤ zz248 ∧ zz248 ≤ 500 := (b0_37 hT :); have ob40 : (0 : Int) ≤ zg122_zr ∧ zg122_zr ≤ 500 := (b0_40 hT :); have ob41 : (0 : Int) ≤ zg122_zl ∧ zg122_zl ≤ 500 := (b0_41 hT :); have ob42 : ((-1) : Int) ≤ zg122_ze ∧ zg122_ze ≤ 500 := (b0_42 hT :); have ob43 : ((-1) : Int) ≤ zg122_zq ∧ zg122_zq ≤ 1 := (b0_43 hT :); obtain ⟨o0a, o0b⟩ := (hv2_262 : In _ _ _); obtain ⟨o1a, o1b⟩ := (hv3_262 : In _ _ _); obtain ⟨o2a, o2b⟩ := (hv4_262 : In _ _ _); obtain ⟨o3a, o3b⟩ := (hv5_262 : In _ _ _); obtain ⟨o4a, o4b⟩ := (hv6_262 : In _ _ _); obtain ⟨o5a, o5b⟩ := (hv8_262 : In _ _ _); obtain ⟨o6a, o6b⟩ := (hv9_262 : In _ _ _); obtain ⟨o7a, o7b⟩ := (hv13_262 : In _ _ _); omega))⟩, hzg122.2⟩, (show 0 ≤ zg122_ze ∨ zg122_zt % 2 = 1 from (by have ob13 : (0 : Int) ≤ (th 13) ∧ (th 13) ≤ 500 := (b0_13 hT :); have ob35 : (0 : Int) ≤ zg122_zt ∧ zg122_zt ≤ 63 := (b0_35 hT :); have ob36 : (0 : Int) ≤ (th 36) ∧ (th 36) ≤ 20 := (b0_36 hT :); have ob37 : (0 : Int) ≤ zz248 ∧ zz248 ≤ 500 := (b0_37 hT :); have ob40 : (0 : Int) ≤ zg122_zr ∧ zg122_zr ≤ 500 := (b0_40 hT :); have ob41 : (0 : Int) ≤ zg122_zl ∧ zg122_zl ≤ 500 := (b0_41 hT :); have ob42 : ((-1) : Int) ≤ zg122_ze ∧ zg122_ze ≤ 500 := (b0_42 hT :); have ob43 : ((-1) : Int) ≤ zg122_zq ∧ zg122_zq ≤ 1 := (b0_43 hT :); obtain ⟨o0a, o0b⟩ := (hv2_262 : In _ _ _); obtain ⟨o1a, o1b⟩ := (hv3_262 : In _ _ _); obtain ⟨o2a, o2b⟩ := (hv4_262 : In _ _ _); obtain ⟨o3a, o3b⟩ := (hv5_262 : In _ _ _); obtain ⟨o4a, o4b⟩ := (hv6_262 : In _ _ _); obtain ⟨o5a, o5b⟩ := (hv8_262 : In _ _ _); obtain ⟨o6a, o6b⟩ := (hv9_262 : In _ _ _); obtain ⟨o7a, o7b⟩ := (hv13_262 : In _ _ _); omega))⟩) hP hD hS (TI.cast hT (by funext q; by_cases hq0 : q = 37; (subst hq0; rfl); by_cases hq1 : q = 43; (subst hq1; rfl); by_cases hq2 : q = 34; (subst hq2; rfl); by_cases hq3 : q = 30; (subst hq3; rfl); by_cases hq4 : q = 35; (subst hq4; rfl); by_cases hq5 : q = 42; (subst hq5; rfl); by_cases hq6 : q = 41; (subst hq6; rfl); by_cases hq7 : q = 40; (subst hq7; rfl); simp only [gset, if_neg hq0, if_neg hq1, if_neg hq2, if_neg hq3, if_neg hq4, if_neg hq5, if_neg hq6, if_neg hq7])) hfr (lv_sub hl [0, 1] rfl)
                            ·
                              have oc0 : (0 : Int32).toInt = 0 := by decide
                              have cc273 : r264.toInt = (0 : Int32).toInt := congrArg Int32.toInt c270
                              have hb274 : In r264 0 0 := In.eq1 eL268R (⟨by decide, by decide⟩ : In 0 0 0) cc273 (by decide) (by decide)
                              exact hJ149 _ _ _ hP hD hS (lv_sub hl [0, 1] rfl)
                      refine lv_icmp_ne (tgt := 122) hx hb dX11_readsCouncil_93 (by decide) (fun c275 => ?_) (fun c275 => ?_)
                      ·
                        have ocm1 : ((-1) : Int32).toInt = (-1) := by decide
                        have cc276 : v4_149.toInt ≠ ((-1) : Int32).toInt := i32_ne c275
                        have hb277 : In v4_149 0 500 := In.ne1 hv4_149 (⟨by decide, by decide⟩ : In (-1) (-1) (-1)) cc276 (by decide) (by decide)
                        exact hJ122 zg88_za zg88_zr zg88_zl zg88_ze zg88_zt zg88_zs zg88_zf zg88_zq _ _ _ _ (⟨⟨(show 0 ≤ zg88_za ∧ zg88_za ≤ 500 from (by have ob13 : (0 : Int) ≤ (th 13) ∧ (th 13) ≤ 500 := (b0_13 hT :); have ob35 : (0 : Int) ≤ zg88_zt ∧ zg88_zt ≤ 63 := (b0_35 hT :); have ob36 : (0 : Int) ≤ (th 36) ∧ (th 36) ≤ 20 := (b0_36 hT :); have ob37 : (0 : Int) ≤ zg88_za ∧ zg88_za ≤ 500 := (b0_37 hT :); have ob40 : (0 : Int) ≤ zg88_zr ∧ zg88_zr ≤ 500 := (b0_40 hT :); have ob41 : (0 : Int) ≤ zg88_zl ∧ zg88_zl ≤ 500 := (b0_41 hT :); have ob42 : ((-1) : Int) ≤ zg88_ze ∧ zg88_ze ≤ 500 := (b0_42 hT :); have ob43 : ((-1) : Int) ≤ zg88_zq ∧ zg88_zq ≤ 1 := (b0_43 hT :); obtain ⟨o0a, o0b⟩ := (hv2_149 : In _ _ _); obtain ⟨o1a, o1b⟩ := (hv3_149 : In _ _ _); obtain ⟨o2a, o2b⟩ := (hb277 : In _ _ _); obtain ⟨o3a, o3b⟩ := (hv5_149 : In _ _ _); obtain ⟨o4a, o4b⟩ := (hv6_149 : In _ _ _); obtain ⟨o5a, o5b⟩ := (hv8_149 : In _ _ _); obtain ⟨o6a, o6b⟩ := (hv9_149 : In _ _ _); obtain ⟨o7a, o7b⟩ := (hv13_149 : In _ _ _); omega)), (show 0 ≤ zg88_ze ∨ 0 ≤ zg88_zq from (by have ob13 : (0 : Int) ≤ (th 13) ∧ (th 13) ≤ 500 := (b0_13 hT :); have ob35 : (0 : Int) ≤ zg88_zt ∧ zg88_zt ≤ 63 := (b0_35 hT :); have ob36 : (0 : Int) ≤ (th 36) ∧ (th 36) ≤ 20 := (b0_36 hT :); have ob37 : (0 : Int) ≤ zg88_za ∧ zg88_za ≤ 500 := (b0_37 hT :); have ob40 : (0 : Int) ≤ zg88_zr ∧ zg88_zr ≤ 500 := (b0_40 hT :); have ob41 : (0 : Int) ≤ zg88_zl ∧ zg88_zl ≤ 500 := (b0_41 hT :); have ob42 : ((-1) : Int) ≤ zg88_ze ∧ zg88_ze ≤ 500 := (b0_42 hT :); have ob43 : ((-1) : Int) ≤ zg88_zq ∧ zg88_zq ≤ 1 := (b0_43 hT :); obtain ⟨o0a, o0b⟩ := (hv2_149 : In _ _ _); obtain ⟨o1a, o1b⟩ := (hv3_149 : In _ _ _); obtain ⟨o2a, o2b⟩ := (hb277 : In _ _ _); obtain ⟨o3a, o3b⟩ := (hv5_149 : In _ _ _); obtain ⟨o4a, o4b⟩ := (hv6_149 : In _ _ _); obtain ⟨o5a, o5b⟩ := (hv8_149 : In _ _ _); obtain ⟨o6a, o6b⟩ := (hv9_149 : In _ _ _); obtain ⟨o7a, o7b⟩ := (hv13_149 : In _ _ _); omega))⟩, hzg88.2⟩) hP hD hS (TI.cast hT (by funext q; by_cases hq0 : q = 43; (subst hq0; rfl); by_cases hq1 : q = 34; (subst hq1; rfl); by_cases hq2 : q = 30; (subst hq2; rfl); by_cases hq3 : q = 35; (subst hq3; rfl); by_cases hq4 : q = 42; (subst hq4; rfl); by_cases hq5 : q = 41; (subst hq5; rfl); by_cases hq6 : q = 40; (subst hq6; rfl); by_cases hq7 : q = 37; (subst hq7; rfl); simp only [gset, if_neg hq0, if_neg hq1, if_neg hq2, if_neg hq3, if_neg hq4, if_neg hq5, if_neg hq6, if_neg hq7])) hfr (lv_sub hl [0, 1] rfl)
                      ·
                        have ocm1 : ((-1) : Int32).toInt = (-1) := by decide
                        have cc278 : v4_149.toInt = ((-1) : Int32).toInt := congrArg Int32.toInt c275
                        have hb279 : In v4_149 (-1) (-1) := In.eq1 hv4_149 (⟨by decide, by decide⟩ : In (-1) (-1) (-1)) cc278 (by decide) (by decide)
                        refine lv_aload_n hx hb dX11_readsCouncil_96 rfl (lv_at hl 0 rfl) ?_
                        refine call_i (run_V (rm := rm_X11_look) hx hb hml hown hts (s_X11_look l g ad (gset (gset (gset (gset (gset (gset (gset (gset th 37 zg88_za) 40 zg88_zr) 41 zg88_zl) 42 zg88_ze) 35 zg88_zt) 30 zg88_zs) 34 zg88_zf) 43 zg88_zq) _ _ _  hst hT ) cV_X11_look wg_1529 ⟨Nat.le_of_ble_eq_true rfl, Nat.le_of_ble_eq_true rfl⟩ hG hE hA hP hD hS (hst.1 255 (by decide)) hf150 rfl rfl hl.1 (As := []) (rest := []) rfl (Nat.le_of_ble_eq_true rfl) dX11_readsCouncil_97 ⟨Nat.le_of_ble_eq_true rfl, Nat.le_of_ble_eq_true rfl⟩) hA hD hS (fun r280 L281 f282 H locs hp283 hP hD hS => ?_)
                        obtain ⟨eL284L, eL284T, eL284F, eL284R⟩ := hp283
                        have eL284L : L281 = L := eL284L
                        rw [eL284L] at hP hD
                        obtain ⟨zz285, hzz285, eL284T⟩ := eL284T
                        have hT : TI g ad (gset (gset (gset (gset (gset (gset (gset (gset (gset th 37 zg88_za) 40 zg88_zr) 41 zg88_zl) 42 zg88_ze) 35 zg88_zt) 30 zg88_zs) 34 zg88_zf) 43 zg88_zq) 37 zz285) f282 := eL284T
                        have hT : TI g ad (gset (gset (gset (gset (gset (gset (gset (gset th 40 zg88_zr) 41 zg88_zl) 42 zg88_ze) 35 zg88_zt) 30 zg88_zs) 34 zg88_zf) 43 zg88_zq) 37 zz285) f282 := TI.cast hT (by funext q; by_cases hq0 : q = 37; (subst hq0; rfl); by_cases hq1 : q = 43; (subst hq1; rfl); by_cases hq2 : q = 34; (subst hq2; rfl); by_cases hq3 : q = 30; (subst hq3; rfl); by_cases hq4 : q = 35; (subst hq4; rfl); by_cases hq5 : q = 42; (subst hq5; rfl); by_cases hq6 : q = 41; (subst hq6; rfl); by_cases hq7 : q = 40; (subst hq7; rfl); simp only [gset, if_neg hq0, if_neg hq1, if_neg hq2, if_neg hq3, if_neg hq4, if_neg hq5, if_neg hq6, if_neg hq7])
                        have eL284F : ∀ b, b ≠ (ad 255) → f282 b = f_88 b := eL284F
                        have hfr : (∀ b, b ≠ (ad 255) → b ≠ (ad 257) → f282 b = f b) := fun b z0_ z1_ => (eL284F b z0_).trans (hfr b z0_ z1_)
                        have eL284R : In r280 (-1) 255 := eL284R
                        refine lv_bipush (v := 59) hx hb dX11_readsCouncil_100 (by decide) ?_
                        refine lv_icmp_ne (tgt := 122) hx hb dX11_readsCouncil_102 (by decide) (fun c286 => ?_) (fun c286 => ?_)
                        ·
                          have oc59 : (59 : Int32).toInt = 59 := by decide
                          have cc287 : r280.toInt ≠ (59 : Int32).toInt := i32_ne c286
                          exact hJ122 zz285 zg88_zr zg88_zl zg88_ze zg88_zt zg88_zs zg88_zf zg88_zq _ _ _ _ (⟨⟨(show 0 ≤ zz285 ∧ zz285 ≤ 500 from (by have ob13 : (0 : Int) ≤ (th 13) ∧ (th 13) ≤ 500 := (b0_13 hT :); have ob35 : (0 : Int) ≤ zg88_zt ∧ zg88_zt ≤ 63 := (b0_35 hT :); have ob36 : (0 : Int) ≤ (th 36) ∧ (th 36) ≤ 20 := (b0_36 hT :); have ob37 : (0 : Int) ≤ zz285 ∧ zz285 ≤ 500 := (b0_37 hT :); have ob40 : (0 : Int) ≤ zg88_zr ∧ zg88_zr ≤ 500 := (b0_40 hT :); have ob41 : (0 : Int) ≤ zg88_zl ∧ zg88_zl ≤ 500 := (b0_41 hT :); have ob42 : ((-1) : Int) ≤ zg88_ze ∧ zg88_ze ≤ 500 := (b0_42 hT :); have ob43 : ((-1) : Int) ≤ zg88_zq ∧ zg88_zq ≤ 1 := (b0_43 hT :); omega)), (show 0 ≤ zg88_ze ∨ 0 ≤ zg88_zq from (by have ob13 : (0 : Int) ≤ (th 13) ∧ (th 13) ≤ 500 := (b0_13 hT :); have ob35 : (0 : Int) ≤ zg88_zt ∧ zg88_zt ≤ 63 := (b0_35 hT :); have ob36 : (0 : Int) ≤ (th 36) ∧ (th 36) ≤ 20 := (b0_36 hT :); have ob37 : (0 : Int) ≤ zz285 ∧ zz285 ≤ 500 := (b0_37 hT :); have ob40 : (0 : Int) ≤ zg88_zr ∧ zg88_zr ≤ 500 := (b0_40 hT :); have ob41 : (0 : Int) ≤ zg88_zl ∧ zg88_zl ≤ 500 := (b0_41 hT :); have ob42 : ((-1) : Int) ≤ zg88_ze ∧ zg88_ze ≤ 500 := (b0_42 hT :); have ob43 : ((-1) : Int) ≤ zg88_zq ∧ zg88_zq ≤ 1 := (b0_43 hT :); omega))⟩, hzg88.2⟩) hP hD hS (TI.cast hT (by funext q; by_cases hq0 : q = 37; (subst hq0; rfl); by_cases hq1 : q = 43; (subst hq1; rfl); by_cases hq2 : q = 34; (subst hq2; rfl); by_cases hq3 : q = 30; (subst hq3; rfl); by_cases hq4 : q = 35; (subst hq4; rfl); by_cases hq5 : q = 42; (subst hq5; rfl); by_cases hq6 : q = 41; (subst hq6; rfl); by_cases hq7 : q = 40; (subst hq7; rfl); simp only [gset, if_neg hq0, if_neg hq1, if_neg hq2, if_neg hq3, if_neg hq4, if_neg hq5, if_neg hq6, if_neg hq7])) hfr (lv_sub hl [0, 1] rfl)
                        ·
                          have oc59 : (59 : Int32).toInt = 59 := by decide
                          have cc288 : r280.toInt = (59 : Int32).toInt := congrArg Int32.toInt c286
                          have hb289 : In r280 59 59 := In.eq1 eL284R (⟨by decide, by decide⟩ : In 59 59 59) cc288 (by decide) (by decide)
                          refine lv_aload_n hx hb dX11_readsCouncil_105 rfl (lv_at hl 0 rfl) ?_
                          refine lv_dup hx hb dX11_readsCouncil_106 rfl ?_
                          refine M0e hT (fun v0_290 v2_290 v3_290 v4_290 v5_290 v6_290 v8_290 v9_290 v12_290 v13_290 v14_290 v15_290 v16_290 v17_290 v18_290 v19_290 v20_290 v21_290 v22_290 v23_290 v25_290 v36_290 v37_290 v38_290 v39_290 v40_290 v45_290 v46_290 v47_290 v48_290 v50_290 v51_290 v53_290 v55_290 hf291 hv0_290 hv2_290 hg2_290 hv3_290 hg3_290 hv4_290 hg4_290 hv5_290 hg5_290 hv6_290 hg6_290 hv8_290 hg8_290 hv9_290 hg9_290 hv12_290 hv13_290 hg13_290 hv14_290 hg14_290 hv15_290 hg15_290 hv17_290 hg17_290 hv20_290 hg20_290 hv23_290 hg23_290 hv25_290 hg25_290 hv36_290 hg36_290 hv47_290 hg47_290 hv48_290 hg48_290 hv53_290 hg53_290 hv55_290 hg55_290 hrel0_290 => ?_)
                          have hg15_290 : v15_290.toInt = th 11 := hg15_290
                          have hg20_290 : v20_290.toInt = th 14 := hg20_290
                          refine pl_get (v := .int v3_290) hx hb hts (fun w h => mT (inX11 w h)) hown hG.1 hP (hst.1 255 (by decide)) hf291 rfl 3 (by decide) (hts _ (mT wg_1339)) (fun _ h => h) rfl dX11_readsCouncil_107 ?_
                          have hg3_290 : v3_290.toInt = zz285 := hg3_290
                          refine lv_iconst (v := 1) hx hb dX11_readsCouncil_110 (by decide) ?_
                          refine lv_iadd hx hb dX11_readsCouncil_111 ?_
                          refine lv_topi (fun x292 ex292 => ?_)
                          have hb293 : In x292 1 501 := ex292 ▸ In.add hv3_290 (⟨by decide, by decide⟩ : In 1 1 1) (by decide) (by decide) (by decide) (by decide)
                          have et294 : x292.toInt = v3_290.toInt + 1 := In.adde ex292 hv3_290 (k := 1) (by decide) (by decide) (by decide)
                          refine pl_put (ty := .int) (v := .int x292) (fs' := [.int v0_290, .ref (ad 256), .int v2_290, .int x292, .int v4_290, .int v5_290, .int v6_290, .ref (ad 257), .int v8_290, .int v9_290, .ref (ad 258), .ref (ad 259), .int v12_290, .int v13_290, .int v14_290, .int v15_290, .int v16_290, .int v17_290, .int v18_290, .int v19_290, .int v20_290, .long v21_290, .long v22_290, .int v23_290, .ref (ad 260), .int v25_290, .ref (ad 261), .ref (ad 262), .ref (ad 263), .ref (ad 264), .ref (ad 265), .ref (ad 266), .ref (ad 267), .ref (ad 268), .ref (ad 269), .ref (ad 270), .int v36_290, .int v37_290, .int v38_290, .int v39_290, .int v40_290, .ref (ad 271), .ref (ad 272), .ref (ad 273), .ref (ad 274), .long v45_290, .long v46_290, .int v47_290, .int v48_290, .ref (ad 275), .int v50_290, .int v51_290, .ref (ad 276), .int v53_290, .ref (ad 277), .int v55_290]) hx hb hts (fun w h => mT (inX11 w h)) tyX11 tyX11_ok nmX11 hown hG.1 hP hD hS (hst.1 255 (by decide)) hf291 rfl 3 (by decide) (hts _ (mT wg_1339)) (fun _ h => h) rfl (by decide +kernel) (rfl) (rfl) (Nat.le_of_ble_eq_true rfl) rfl dX11_readsCouncil_112 (fun H locs f295 hf296 ho297 hP hD hS => ?_)
                          have hfr : (∀ b, b ≠ (ad 255) → b ≠ (ad 257) → f295 b = f b) := fun b z0_ z1_ => (ho297 b z0_).trans (hfr b z0_ z1_)
                          refine lv_aload_n hx hb dX11_readsCouncil_115 rfl (lv_at hl 0 rfl) ?_
                          have hT := TI.updMG (th' := (gset (gset (gset (gset (gset (gset (gset (gset (gset th 40 zg88_zr) 41 zg88_zl) 42 zg88_ze) 35 zg88_zt) 30 zg88_zs) 34 zg88_zf) 43 zg88_zq) 37 zz285) 37 (x292.toInt))) hT hst (k := 0) (by decide) hf296 ho297 ⟨v0_290, v2_290, x292, v4_290, v5_290, v6_290, v8_290, v9_290, v12_290, v13_290, v14_290, v15_290, v16_290, v17_290, v18_290, v19_290, v20_290, v21_290, v22_290, v23_290, v25_290, v36_290, v37_290, v38_290, v39_290, v40_290, v45_290, v46_290, v47_290, v48_290, v50_290, v51_290, v53_290, v55_290, rfl, hv0_290, hv2_290, hg2_290, (In.mk (by have ob13 : (0 : Int) ≤ (th 13) ∧ (th 13) ≤ 500 := (b0_13 hT :); have ob35 : (0 : Int) ≤ zg88_zt ∧ zg88_zt ≤ 63 := (b0_35 hT :); have ob36 : (0 : Int) ≤ (th 36) ∧ (th 36) ≤ 20 := (b0_36 hT :); have ob37 : (0 : Int) ≤ zz285 ∧ zz285 ≤ 500 := (b0_37 hT :); have ob40 : (0 : Int) ≤ zg88_zr ∧ zg88_zr ≤ 500 := (b0_40 hT :); have ob41 : (0 : Int) ≤ zg88_zl ∧ zg88_zl ≤ 500 := (b0_41 hT :); have ob42 : ((-1) : Int) ≤ zg88_ze ∧ zg88_ze ≤ 500 := (b0_42 hT :); have ob43 : ((-1) : Int) ≤ zg88_zq ∧ zg88_zq ≤ 1 := (b0_43 hT :); obtain ⟨o0a, o0b⟩ := (hb293 : In _ _ _); obtain ⟨o1a, o1b⟩ := (hv2_290 : In _ _ _); obtain ⟨o2a, o2b⟩ := (hv4_290 : In _ _ _); obtain ⟨o3a, o3b⟩ := (hv5_290 : In _ _ _); obtain ⟨o4a, o4b⟩ := (hv6_290 : In _ _ _); obtain ⟨o5a, o5b⟩ := (hv8_290 : In _ _ _); obtain ⟨o6a, o6b⟩ := (hv9_290 : In _ _ _); obtain ⟨o7a, o7b⟩ := (hv13_290 : In _ _ _); obtain ⟨o8a, o8b⟩ := (hv3_290 : In _ _ _); omega) (by have ob13 : (0 : Int) ≤ (th 13) ∧ (th 13) ≤ 500 := (b0_13 hT :); have ob35 : (0 : Int) ≤ zg88_zt ∧ zg88_zt ≤ 63 := (b0_35 hT :); have ob36 : (0 : Int) ≤ (th 36) ∧ (th 36) ≤ 20 := (b0_36 hT :); have ob37 : (0 : Int) ≤ zz285 ∧ zz285 ≤ 500 := (b0_37 hT :); have ob40 : (0 : Int) ≤ zg88_zr ∧ zg88_zr ≤ 500 := (b0_40 hT :); have ob41 : (0 : Int) ≤ zg88_zl ∧ zg88_zl ≤ 500 := (b0_41 hT :); have ob42 : ((-1) : Int) ≤ zg88_ze ∧ zg88_ze ≤ 500 := (b0_42 hT :); have ob43 : ((-1) : Int) ≤ zg88_zq ∧ zg88_zq ≤ 1 := (b0_43 hT :); obtain ⟨o0a, o0b⟩ := (hb293 : In _ _ _); obtain ⟨o1a, o1b⟩ := (hv2_290 : In _ _ _); obtain ⟨o2a, o2b⟩ := (hv4_290 : In _ _ _); obtain ⟨o3a, o3b⟩ := (hv5_290 : In _ _ _); obtain ⟨o4a, o4b⟩ := (hv6_290 : In _ _ _); obtain ⟨o5a, o5b⟩ := (hv8_290 : In _ _ _); obtain ⟨o6a, o6b⟩ := (hv9_290 : In _ _ _); obtain ⟨o7a, o7b⟩ := (hv13_290 : In _ _ _); obtain ⟨o8a, o8b⟩ := (hv3_290 : In _ _ _); omega)), rfl, hv4_290, hg4_290, hv5_290, hg5_290, hv6_290, hg6_290, hv8_290, hg8_290, hv9_290, hg9_290, hv12_290, hv13_290, hg13_290, hv14_290, hg14_290, hv15_290, hg15_290, hv17_290, hg17_290, hv20_290, hg20_290, hv23_290, hg23_290, hv25_290, hg25_290, hv36_290, hg36_290, hv47_290, hg47_290, hv48_290, hg48_290, hv53_290, hg53_290, hv55_290, hg55_290, hrel0_290⟩ (fun q hq => ((gset_ne (fun e => hq (by subst e; decide))).trans rfl))
                          have hT : TI g ad (gset (gset (gset (gset (gset (gset (gset (gset th 40 zg88_zr) 41 zg88_zl) 42 zg88_ze) 35 zg88_zt) 30 zg88_zs) 34 zg88_zf) 43 zg88_zq) 37 x292.toInt) f295 := TI.cast hT (by funext q; by_cases hq0 : q = 37; (subst hq0; rfl); by_cases hq1 : q = 43; (subst hq1; rfl); by_cases hq2 : q = 34; (subst hq2; rfl); by_cases hq3 : q = 30; (subst hq3; rfl); by_cases hq4 : q = 35; (subst hq4; rfl); by_cases hq5 : q = 42; (subst hq5; rfl); by_cases hq6 : q = 41; (subst hq6; rfl); by_cases hq7 : q = 40; (subst hq7; rfl); simp only [gset, if_neg hq0, if_neg hq1, if_neg hq2, if_neg hq3, if_neg hq4, if_neg hq5, if_neg hq6, if_neg hq7])
                          refine M0e hT (fun v0_298 v2_298 v3_298 v4_298 v5_298 v6_298 v8_298 v9_298 v12_298 v13_298 v14_298 v15_298 v16_298 v17_298 v18_298 v19_298 v20_298 v21_298 v22_298 v23_298 v25_298 v36_298 v37_298 v38_298 v39_298 v40_298 v45_298 v46_298 v47_298 v48_298 v50_298 v51_298 v53_298 v55_298 hf299 hv0_298 hv2_298 hg2_298 hv3_298 hg3_298 hv4_298 hg4_298 hv5_298 hg5_298 hv6_298 hg6_298 hv8_298 hg8_298 hv9_298 hg9_298 hv12_298 hv13_298 hg13_298 hv14_298 hg14_298 hv15_298 hg15_298 hv17_298 hg17_298 hv20_298 hg20_298 hv23_298 hg23_298 hv25_298 hg25_298 hv36_298 hg36_298 hv47_298 hg47_298 hv48_298 hg48_298 hv53_298 hg53_298 hv55_298 hg55_298 hrel0_298 => ?_)
                          have hg15_298 : v15_298.toInt = th 11 := hg15_298
                          have hg20_298 : v20_298.toInt = th 14 := hg20_298
                          refine call_v (run_V (rm := rm_X11_piece) hx hb hml hown hts (s_X11_piece l g ad (gset (gset (gset (gset (gset (gset (gset (gset th 40 zg88_zr) 41 zg88_zl) 42 zg88_ze) 35 zg88_zt) 30 zg88_zs) 34 zg88_zf) 43 zg88_zq) 37 x292.toInt) _ _ _  hst hT (show DIp (zg88_zt) (zg88_zs) (zg88_zf) from hzg88.2)) cV_X11_piece wg_1549 ⟨Nat.le_of_ble_eq_true rfl, Nat.le_of_ble_eq_true rfl⟩ hG hE hA hP hD hS (hst.1 255 (by decide)) hf299 rfl rfl hl.1 (As := []) (rest := []) rfl (Nat.le_of_ble_eq_true rfl) dX11_readsCouncil_116 ⟨Nat.le_of_ble_eq_true rfl, Nat.le_of_ble_eq_true rfl⟩) hA hD hS (fun L301 f302 H locs hp303 hP hD hS => ?_)
                          obtain ⟨eL304L, eL304T, eL304F⟩ := hp303
                          have eL304L : L301 = L := eL304L
                          rw [eL304L] at hP hD
                          obtain ⟨zz305, zz306, zz307, zz308, zz309, zz310, zz311, hzz305, eL304T⟩ := eL304T
                          have hzz305 : (x292.toInt ≤ zz305 ∧ zz305 ≤ 500) ∧ DIp zz309 zz310 zz311 := hzz305
                          have hT : TI g ad (gset (gset (gset (gset (gset (gset (gset (gset (gset (gset (gset (gset (gset (gset (gset th 40 zg88_zr) 41 zg88_zl) 42 zg88_ze) 35 zg88_zt) 30 zg88_zs) 34 zg88_zf) 43 zg88_zq) 37 x292.toInt) 37 zz305) 40 zz306) 41 zz307) 42 zz308) 35 zz309) 30 zz310) 34 zz311) f302 := eL304T
                          have hT : TI g ad (gset (gset (gset (gset (gset (gset (gset (gset th 43 zg88_zq) 37 zz305) 40 zz306) 41 zz307) 42 zz308) 35 zz309) 30 zz310) 34 zz311) f302 := TI.cast hT (by funext q; by_cases hq0 : q = 34; (subst hq0; rfl); by_cases hq1 : q = 30; (subst hq1; rfl); by_cases hq2 : q = 35; (subst hq2; rfl); by_cases hq3 : q = 42; (subst hq3; rfl); by_cases hq4 : q = 41; (subst hq4; rfl); by_cases hq5 : q = 40; (subst hq5; rfl); by_cases hq6 : q = 37; (subst hq6; rfl); by_cases hq7 : q = 43; (subst hq7; rfl); simp only [gset, if_neg hq0, if_neg hq1, if_neg hq2, if_neg hq3, if_neg hq4, if_neg hq5, if_neg hq6, if_neg hq7])
                          have eL304F : ∀ b, b ≠ (ad 255) → b ≠ (ad 257) → f302 b = f295 b := eL304F
                          have hfr : (∀ b, b ≠ (ad 255) → b ≠ (ad 257) → f302 b = f b) := fun b z0_ z1_ => (eL304F b z0_ z1_).trans (hfr b z0_ z1_)
                          refine lv_goto (tgt := 88) hx hb dX11_readsCouncil_119 (by decide) ?_
                          exact ih88 zz305 zz306 zz307 zz308 zz309 zz310 zz311 zg88_zq _ _ _ _ (⟨⟨(show 0 ≤ zz305 ∧ zz305 ≤ 500 from (by have ob13 : (0 : Int) ≤ (th 13) ∧ (th 13) ≤ 500 := (b0_13 hT :); have ob35 : (0 : Int) ≤ zz309 ∧ zz309 ≤ 63 := (b0_35 hT :); have ob36 : (0 : Int) ≤ (th 36) ∧ (th 36) ≤ 20 := (b0_36 hT :); have ob37 : (0 : Int) ≤ zz305 ∧ zz305 ≤ 500 := (b0_37 hT :); have ob40 : (0 : Int) ≤ zz306 ∧ zz306 ≤ 500 := (b0_40 hT :); have ob41 : (0 : Int) ≤ zz307 ∧ zz307 ≤ 500 := (b0_41 hT :); have ob42 : ((-1) : Int) ≤ zz308 ∧ zz308 ≤ 500 := (b0_42 hT :); have ob43 : ((-1) : Int) ≤ zg88_zq ∧ zg88_zq ≤ 1 := (b0_43 hT :); omega)), (show 0 ≤ zz308 ∨ 0 ≤ zg88_zq from (by have ob13 : (0 : Int) ≤ (th 13) ∧ (th 13) ≤ 500 := (b0_13 hT :); have ob35 : (0 : Int) ≤ zz309 ∧ zz309 ≤ 63 := (b0_35 hT :); have ob36 : (0 : Int) ≤ (th 36) ∧ (th 36) ≤ 20 := (b0_36 hT :); have ob37 : (0 : Int) ≤ zz305 ∧ zz305 ≤ 500 := (b0_37 hT :); have ob40 : (0 : Int) ≤ zz306 ∧ zz306 ≤ 500 := (b0_40 hT :); have ob41 : (0 : Int) ≤ zz307 ∧ zz307 ≤ 500 := (b0_41 hT :); have ob42 : ((-1) : Int) ≤ zz308 ∧ zz308 ≤ 500 := (b0_42 hT :); have ob43 : ((-1) : Int) ≤ zg88_zq ∧ zg88_zq ≤ 1 := (b0_43 hT :); omega))⟩, hzz305.2⟩) hP hD hS (TI.cast hT (by funext q; by_cases hq0 : q = 34; (subst hq0; rfl); by_cases hq1 : q = 30; (subst hq1; rfl); by_cases hq2 : q = 35; (subst hq2; rfl); by_cases hq3 : q = 42; (subst hq3; rfl); by_cases hq4 : q = 41; (subst hq4; rfl); by_cases hq5 : q = 40; (subst hq5; rfl); by_cases hq6 : q = 37; (subst hq6; rfl); by_cases hq7 : q = 43; (subst hq7; rfl); simp only [gset, if_neg hq0, if_neg hq1, if_neg hq2, if_neg hq3, if_neg hq4, if_neg hq5, if_neg hq6, if_neg hq7])) hfr (lv_sub hl [0, 1] rfl) (show 500 - (zz305) < ((k88 : Nat) : Int) from (by have ob13 : (0 : Int) ≤ (th 13) ∧ (th 13) ≤ 500 := (b0_13 hT :); have ob35 : (0 : Int) ≤ zz309 ∧ zz309 ≤ 63 := (b0_35 hT :); have ob36 : (0 : Int) ≤ (th 36) ∧ (th 36) ≤ 20 := (b0_36 hT :); have ob37 : (0 : Int) ≤ zz305 ∧ zz305 ≤ 500 := (b0_37 hT :); have ob40 : (0 : Int) ≤ zz306 ∧ zz306 ≤ 500 := (b0_40 hT :); have ob41 : (0 : Int) ≤ zz307 ∧ zz307 ≤ 500 := (b0_41 hT :); have ob42 : ((-1) : Int) ≤ zz308 ∧ zz308 ≤ 500 := (b0_42 hT :); have ob43 : ((-1) : Int) ≤ zg88_zq ∧ zg88_zq ≤ 1 := (b0_43 hT :); omega))
                  refine lv_icmp_ne (tgt := 88) hx hb dX11_readsCouncil_77 (by decide) (fun c312 => ?_) (fun c312 => ?_)
                  ·
                    have ocm1 : ((-1) : Int32).toInt = (-1) := by decide
                    have cc313 : y69_s0.toInt ≠ ((-1) : Int32).toInt := i32_ne c312
                    have hb314 : In y69_s0 0 1 := In.ne1 hy69_s0 (⟨by decide, by decide⟩ : In (-1) (-1) (-1)) cc313 (by decide) (by decide)
                    exact hJ88 ((500 - zg69_za).toNat + 1) zg69_za zg69_zr zg69_zl zg69_ze zg69_zt zg69_zs zg69_zf y69_s0.toInt _ _ _ _ (⟨⟨(show 0 ≤ zg69_za ∧ zg69_za ≤ 500 from (by have ob13 : (0 : Int) ≤ (th 13) ∧ (th 13) ≤ 500 := (b0_13 hT :); have ob35 : (0 : Int) ≤ zg69_zt ∧ zg69_zt ≤ 63 := (b0_35 hT :); have ob36 : (0 : Int) ≤ (th 36) ∧ (th 36) ≤ 20 := (b0_36 hT :); have ob37 : (0 : Int) ≤ zg69_za ∧ zg69_za ≤ 500 := (b0_37 hT :); have ob40 : (0 : Int) ≤ zg69_zr ∧ zg69_zr ≤ 500 := (b0_40 hT :); have ob41 : (0 : Int) ≤ zg69_zl ∧ zg69_zl ≤ 500 := (b0_41 hT :); have ob42 : ((-1) : Int) ≤ zg69_ze ∧ zg69_ze ≤ 500 := (b0_42 hT :); have ob43 : ((-1) : Int) ≤ y69_s0.toInt ∧ y69_s0.toInt ≤ 1 := (b0_43 hT :); omega)), (show 0 ≤ zg69_ze ∨ 0 ≤ y69_s0.toInt from (by have ob13 : (0 : Int) ≤ (th 13) ∧ (th 13) ≤ 500 := (b0_13 hT :); have ob35 : (0 : Int) ≤ zg69_zt ∧ zg69_zt ≤ 63 := (b0_35 hT :); have ob36 : (0 : Int) ≤ (th 36) ∧ (th 36) ≤ 20 := (b0_36 hT :); have ob37 : (0 : Int) ≤ zg69_za ∧ zg69_za ≤ 500 := (b0_37 hT :); have ob40 : (0 : Int) ≤ zg69_zr ∧ zg69_zr ≤ 500 := (b0_40 hT :); have ob41 : (0 : Int) ≤ zg69_zl ∧ zg69_zl ≤ 500 := (b0_41 hT :); have ob42 : ((-1) : Int) ≤ zg69_ze ∧ zg69_ze ≤ 500 := (b0_42 hT :); have ob43 : ((-1) : Int) ≤ y69_s0.toInt ∧ y69_s0.toInt ≤ 1 := (b0_43 hT :); omega))⟩, hzg69.2⟩) hP hD hS (TI.cast hT (by funext q; by_cases hq0 : q = 43; (subst hq0; rfl); by_cases hq1 : q = 34; (subst hq1; rfl); by_cases hq2 : q = 30; (subst hq2; rfl); by_cases hq3 : q = 35; (subst hq3; rfl); by_cases hq4 : q = 42; (subst hq4; rfl); by_cases hq5 : q = 41; (subst hq5; rfl); by_cases hq6 : q = 40; (subst hq6; rfl); by_cases hq7 : q = 37; (subst hq7; rfl); simp only [gset, if_neg hq0, if_neg hq1, if_neg hq2, if_neg hq3, if_neg hq4, if_neg hq5, if_neg hq6, if_neg hq7])) hfr (lv_sub hl [0, 1] rfl) (msI _)
                  ·
                    have ocm1 : ((-1) : Int32).toInt = (-1) := by decide
                    have cc315 : y69_s0.toInt = ((-1) : Int32).toInt := congrArg Int32.toInt c312
                    have hb316 : In y69_s0 (-1) (-1) := In.eq1 hy69_s0 (⟨by decide, by decide⟩ : In (-1) (-1) (-1)) cc315 (by decide) (by decide)
                    refine lv_aload_n hx hb dX11_readsCouncil_80 rfl (lv_at hl 0 rfl) ?_
                    refine lv_aload_n hx hb dX11_readsCouncil_81 rfl (lv_at hl 0 rfl) ?_
                    refine M0e hT (fun v0_317 v2_317 v3_317 v4_317 v5_317 v6_317 v8_317 v9_317 v12_317 v13_317 v14_317 v15_317 v16_317 v17_317 v18_317 v19_317 v20_317 v21_317 v22_317 v23_317 v25_317 v36_317 v37_317 v38_317 v39_317 v40_317 v45_317 v46_317 v47_317 v48_317 v50_317 v51_317 v53_317 v55_317 hf318 hv0_317 hv2_317 hg2_317 hv3_317 hg3_317 hv4_317 hg4_317 hv5_317 hg5_317 hv6_317 hg6_317 hv8_317 hg8_317 hv9_317 hg9_317 hv12_317 hv13_317 hg13_317 hv14_317 hg14_317 hv15_317 hg15_317 hv17_317 hg17_317 hv20_317 hg20_317 hv23_317 hg23_317 hv25_317 hg25_317 hv36_317 hg36_317 hv47_317 hg47_317 hv48_317 hg48_317 hv53_317 hg53_317 hv55_317 hg55_317 hrel0_317 => ?_)
                    have hg15_317 : v15_317.toInt = th 11 := hg15_317
                    have hg20_317 : v20_317.toInt = th 14 := hg20_317
                    refine pl_get (v := .int v3_317) hx hb hts (fun w h => mT (inX11 w h)) hown hG.1 hP (hst.1 255 (by decide)) hf318 rfl 3 (by decide) (hts _ (mT wg_1339)) (fun _ h => h) rfl dX11_readsCouncil_82 ?_
                    have hg3_317 : v3_317.toInt = zg69_za := hg3_317
                    refine call_v (run_V (rm := rm_X11_fails) hx hb hml hown hts (s_X11_fails l g ad (gset (gset (gset (gset (gset (gset (gset (gset th 37 zg69_za) 40 zg69_zr) 41 zg69_zl) 42 zg69_ze) 35 zg69_zt) 30 zg69_zs) 34 zg69_zf) 43 y69_s0.toInt) _ _ _ v3_317 hst hT hv3_317) cV_X11_fails wg_1545 ⟨Nat.le_of_ble_eq_true rfl, Nat.le_of_ble_eq_true rfl⟩ hG hE hA hP hD hS (hst.1 255 (by decide)) hf318 rfl rfl hl.1 (As := [.int v3_317]) (rest := []) rfl (Nat.le_of_ble_eq_true rfl) dX11_readsCouncil_85 ⟨Nat.le_of_ble_eq_true rfl, Nat.le_of_ble_eq_true rfl⟩) hA hD hS (fun L320 f321 H locs hp322 hP hD hS => ?_)
                    obtain ⟨eL323L, eL323T, eL323F⟩ := hp322
                    have eL323L : L320 = L := eL323L
                    rw [eL323L] at hP hD
                    obtain ⟨zz324, hzz324, eL323T⟩ := eL323T
                    have hzz324 : 0 ≤ zz324 := hzz324
                    have hT : TI g ad (gset (gset (gset (gset (gset (gset (gset (gset (gset th 37 zg69_za) 40 zg69_zr) 41 zg69_zl) 42 zg69_ze) 35 zg69_zt) 30 zg69_zs) 34 zg69_zf) 43 y69_s0.toInt) 42 zz324) f321 := eL323T
                    have hT : TI g ad (gset (gset (gset (gset (gset (gset (gset (gset th 37 zg69_za) 40 zg69_zr) 41 zg69_zl) 35 zg69_zt) 30 zg69_zs) 34 zg69_zf) 43 y69_s0.toInt) 42 zz324) f321 := TI.cast hT (by funext q; by_cases hq0 : q = 42; (subst hq0; rfl); by_cases hq1 : q = 43; (subst hq1; rfl); by_cases hq2 : q = 34; (subst hq2; rfl); by_cases hq3 : q = 30; (subst hq3; rfl); by_cases hq4 : q = 35; (subst hq4; rfl); by_cases hq5 : q = 41; (subst hq5; rfl); by_cases hq6 : q = 40; (subst hq6; rfl); by_cases hq7 : q = 37; (subst hq7; rfl); simp only [gset, if_neg hq0, if_neg hq1, if_neg hq2, if_neg hq3, if_neg hq4, if_neg hq5, if_neg hq6, if_neg hq7])
                    have eL323F : ∀ b, b ≠ (ad 255) → f321 b = f146 b := eL323F
                    have hfr : (∀ b, b ≠ (ad 255) → b ≠ (ad 257) → f321 b = f b) := fun b z0_ z1_ => (eL323F b z0_).trans (hfr b z0_ z1_)
                    exact hJ88 ((500 - zg69_za).toNat + 1) zg69_za zg69_zr zg69_zl zz324 zg69_zt zg69_zs zg69_zf y69_s0.toInt _ _ _ _ (⟨⟨(show 0 ≤ zg69_za ∧ zg69_za ≤ 500 from (by have ob13 : (0 : Int) ≤ (th 13) ∧ (th 13) ≤ 500 := (b0_13 hT :); have ob35 : (0 : Int) ≤ zg69_zt ∧ zg69_zt ≤ 63 := (b0_35 hT :); have ob36 : (0 : Int) ≤ (th 36) ∧ (th 36) ≤ 20 := (b0_36 hT :); have ob37 : (0 : Int) ≤ zg69_za ∧ zg69_za ≤ 500 := (b0_37 hT :); have ob40 : (0 : Int) ≤ zg69_zr ∧ zg69_zr ≤ 500 := (b0_40 hT :); have ob41 : (0 : Int) ≤ zg69_zl ∧ zg69_zl ≤ 500 := (b0_41 hT :); have ob42 : ((-1) : Int) ≤ zz324 ∧ zz324 ≤ 500 := (b0_42 hT :); have ob43 : ((-1) : Int) ≤ y69_s0.toInt ∧ y69_s0.toInt ≤ 1 := (b0_43 hT :); omega)), (show 0 ≤ zz324 ∨ 0 ≤ y69_s0.toInt from (by have ob13 : (0 : Int) ≤ (th 13) ∧ (th 13) ≤ 500 := (b0_13 hT :); have ob35 : (0 : Int) ≤ zg69_zt ∧ zg69_zt ≤ 63 := (b0_35 hT :); have ob36 : (0 : Int) ≤ (th 36) ∧ (th 36) ≤ 20 := (b0_36 hT :); have ob37 : (0 : Int) ≤ zg69_za ∧ zg69_za ≤ 500 := (b0_37 hT :); have ob40 : (0 : Int) ≤ zg69_zr ∧ zg69_zr ≤ 500 := (b0_40 hT :); have ob41 : (0 : Int) ≤ zg69_zl ∧ zg69_zl ≤ 500 := (b0_41 hT :); have ob42 : ((-1) : Int) ≤ zz324 ∧ zz324 ≤ 500 := (b0_42 hT :); have ob43 : ((-1) : Int) ≤ y69_s0.toInt ∧ y69_s0.toInt ≤ 1 := (b0_43 hT :); omega))⟩, hzg69.2⟩) hP hD hS (TI.cast hT (by funext q; by_cases hq0 : q = 42; (subst hq0; rfl); by_cases hq1 : q = 43; (subst hq1; rfl); by_cases hq2 : q = 34; (subst hq2; rfl); by_cases hq3 : q = 30; (subst hq3; rfl); by_cases hq4 : q = 35; (subst hq4; rfl); by_cases hq5 : q = 41; (subst hq5; rfl); by_cases hq6 : q = 40; (subst hq6; rfl); by_cases hq7 : q = 37; (subst hq7; rfl); simp only [gset, if_neg hq0, if_neg hq1, if_neg hq2, if_neg hq3, if_neg hq4, if_neg hq5, if_neg hq6, if_neg hq7])) hfr (lv_sub hl [0, 1] rfl) (msI _)
                refine lv_if_eq (tgt := 55) hx hb dX11_readsCouncil_48 (by decide) (fun c325 => ?_) (fun c325 => ?_)
                ·
                  have oc0 : (0 : Int32).toInt = 0 := by decide
                  have cc326 : r138.toInt = (0 : Int32).toInt := congrArg Int32.toInt c325
                  have hb327 : In r138 0 0 := In.eq1 eL142R (⟨by decide, by decide⟩ : In 0 0 0) cc326 (by decide) (by decide)
                  refine lv_aload_n hx hb dX11_readsCouncil_55 rfl (lv_at hl 1 rfl) ?_
                  refine va_ldcS hx hb hown (hG.2.2.1 ("RulerWordModel", 176, "queen", 1) (by decide +kernel)) dX11_readsCouncil_56 ?_
                  refine M0e hT (fun v0_328 v2_328 v3_328 v4_328 v5_328 v6_328 v8_328 v9_328 v12_328 v13_328 v14_328 v15_328 v16_328 v17_328 v18_328 v19_328 v20_328 v21_328 v22_328 v23_328 v25_328 v36_328 v37_328 v38_328 v39_328 v40_328 v45_328 v46_328 v47_328 v48_328 v50_328 v51_328 v53_328 v55_328 hf329 hv0_328 hv2_328 hg2_328 hv3_328 hg3_328 hv4_328 hg4_328 hv5_328 hg5_328 hv6_328 hg6_328 hv8_328 hg8_328 hv9_328 hg9_328 hv12_328 hv13_328 hg13_328 hv14_328 hg14_328 hv15_328 hg15_328 hv17_328 hg17_328 hv20_328 hg20_328 hv23_328 hg23_328 hv25_328 hg25_328 hv36_328 hg36_328 hv47_328 hg47_328 hv48_328 hg48_328 hv53_328 hg53_328 hv55_328 hg55_328 hrel0_328 => ?_)
                  have hg15_328 : v15_328.toInt = th 11 := hg15_328
                  have hg20_328 : v20_328.toInt = th 14 := hg20_328
                  refine call_i (run_V (rm := rm_X11_takes) hx hb hml hown hts (s_X11_takes l g ad (gset (gset (gset (gset (gset th 42 (-1)) 35 0) 30 0) 34 0) 37 zz143) _ _ _ 1 hst hT (by decide)) cV_X11_takes wg_1538 ⟨Nat.le_of_ble_eq_true rfl, Nat.le_of_ble_eq_true rfl⟩ hG hE hA hP hD hS (hst.1 255 (by decide)) hf329 rfl rfl hl.1 (As := [.ref (g.2.2.1 1)]) (rest := [.ref (ad 255)]) rfl (Nat.le_of_ble_eq_true rfl) dX11_readsCouncil_58 ⟨Nat.le_of_ble_eq_true rfl, Nat.le_of_ble_eq_true rfl⟩) hA hD hS (fun r330 L331 f332 H locs hp333 hP hD hS => ?_)
                  obtain ⟨eL334L, eL334T, eL334F, eL334R⟩ := hp333
                  have eL334L : L331 = L := eL334L
                  rw [eL334L] at hP hD
                  obtain ⟨zz335, hzz335, eL334T⟩ := eL334T
                  have hzz335 : zz143 ≤ zz335 ∧ zz335 ≤ 500 := hzz335
                  have hT : TI g ad (gset (gset (gset (gset (gset (gset th 42 (-1)) 35 0) 30 0) 34 0) 37 zz143) 37 zz335) f332 := eL334T
                  have hT : TI g ad (gset (gset (gset (gset (gset th 42 (-1)) 35 0) 30 0) 34 0) 37 zz335) f332 := TI.cast hT (by funext q; by_cases hq0 : q = 37; (subst hq0; rfl); by_cases hq1 : q = 34; (subst hq1; rfl); by_cases hq2 : q = 30; (subst hq2; rfl); by_cases hq3 : q = 35; (subst hq3; rfl); by_cases hq4 : q = 42; (subst hq4; rfl); simp only [gset, if_neg hq0, if_neg hq1, if_neg hq2, if_neg hq3, if_neg hq4])
                  have eL334F : ∀ b, b ≠ (ad 255) → f332 b = f140 b := eL334F
                  have hfr : (∀ b, b ≠ (ad 255) → b ≠ (ad 257) → f332 b = f b) := fun b z0_ z1_ => (eL334F b z0_).trans (hfr b z0_ z1_)
                  have eL334R : In r330 0 1 := eL334R
                  refine lv_if_eq (tgt := 68) hx hb dX11_readsCouncil_61 (by decide) (fun c336 => ?_) (fun c336 => ?_)
                  ·
                    have oc0 : (0 : Int32).toInt = 0 := by decide
                    have cc337 : r330.toInt = (0 : Int32).toInt := congrArg Int32.toInt c336
                    have hb338 : In r330 0 0 := In.eq1 eL334R (⟨by decide, by decide⟩ : In 0 0 0) cc337 (by decide) (by decide)
                    refine lv_iconst (v := (-1)) hx hb dX11_readsCouncil_68 (by decide) ?_
                    exact hJ69 zz335 (th 40) (th 41) (-1 : Int) (0 : Int) (0 : Int) (0 : Int) (th 43) (-1) _ _ _ _ (⟨(show 0 ≤ zz335 ∧ zz335 ≤ 500 from (by have ob13 : (0 : Int) ≤ (th 13) ∧ (th 13) ≤ 500 := (b0_13 hT :); have ob35 : (0 : Int) ≤ (0 : Int) ∧ (0 : Int) ≤ 63 := (b0_35 hT :); have ob36 : (0 : Int) ≤ (th 36) ∧ (th 36) ≤ 20 := (b0_36 hT :); have ob37 : (0 : Int) ≤ zz335 ∧ zz335 ≤ 500 := (b0_37 hT :); have ob40 : (0 : Int) ≤ (th 40) ∧ (th 40) ≤ 500 := (b0_40 hT :); have ob41 : (0 : Int) ≤ (th 41) ∧ (th 41) ≤ 500 := (b0_41 hT :); have ob42 : ((-1) : Int) ≤ (-1 : Int) ∧ (-1 : Int) ≤ 500 := (b0_42 hT :); have ob43 : ((-1) : Int) ≤ (th 43) ∧ (th 43) ≤ 1 := (b0_43 hT :); omega)), di_0⟩) (⟨by decide, by decide⟩ : In (-1) (-1) 1) hP hD hS (TI.cast hT (by funext q; by_cases hq0 : q = 37; (subst hq0; rfl); by_cases hq1 : q = 34; (subst hq1; rfl); by_cases hq2 : q = 30; (subst hq2; rfl); by_cases hq3 : q = 35; (subst hq3; rfl); by_cases hq4 : q = 42; (subst hq4; rfl); by_cases hq5 : q = 40; (subst hq5; rfl); by_cases hq6 : q = 41; (subst hq6; rfl); by_cases hq7 : q = 43; (subst hq7; rfl); simp only [gset, if_neg hq0, if_neg hq1, if_neg hq2, if_neg hq3, if_neg hq4, if_neg hq5, if_neg hq6, if_neg hq7])) hfr (lv_sub hl [1, 0] rfl)
                  ·
                    have oc0 : (0 : Int32).toInt = 0 := by decide
                    have cc339 : r330.toInt ≠ (0 : Int32).toInt := i32_ne c336
                    have hb340 : In r330 1 1 := In.ne1 eL334R (⟨by decide, by decide⟩ : In 0 0 0) cc339 (by decide) (by decide)
                    refine lv_iconst (v := 1) hx hb dX11_readsCouncil_64 (by decide) ?_
                    refine lv_goto (tgt := 69) hx hb dX11_readsCouncil_65 (by decide) ?_
                    exact hJ69 zz335 (th 40) (th 41) (-1 : Int) (0 : Int) (0 : Int) (0 : Int) (th 43) 1 _ _ _ _ (⟨(show 0 ≤ zz335 ∧ zz335 ≤ 500 from (by have ob13 : (0 : Int) ≤ (th 13) ∧ (th 13) ≤ 500 := (b0_13 hT :); have ob35 : (0 : Int) ≤ (0 : Int) ∧ (0 : Int) ≤ 63 := (b0_35 hT :); have ob36 : (0 : Int) ≤ (th 36) ∧ (th 36) ≤ 20 := (b0_36 hT :); have ob37 : (0 : Int) ≤ zz335 ∧ zz335 ≤ 500 := (b0_37 hT :); have ob40 : (0 : Int) ≤ (th 40) ∧ (th 40) ≤ 500 := (b0_40 hT :); have ob41 : (0 : Int) ≤ (th 41) ∧ (th 41) ≤ 500 := (b0_41 hT :); have ob42 : ((-1) : Int) ≤ (-1 : Int) ∧ (-1 : Int) ≤ 500 := (b0_42 hT :); have ob43 : ((-1) : Int) ≤ (th 43) ∧ (th 43) ≤ 1 := (b0_43 hT :); omega)), di_0⟩) (⟨by decide, by decide⟩ : In 1 (-1) 1) hP hD hS (TI.cast hT (by funext q; by_cases hq0 : q = 37; (subst hq0; rfl); by_cases hq1 : q = 34; (subst hq1; rfl); by_cases hq2 : q = 30; (subst hq2; rfl); by_cases hq3 : q = 35; (subst hq3; rfl); by_cases hq4 : q = 42; (subst hq4; rfl); by_cases hq5 : q = 40; (subst hq5; rfl); by_cases hq6 : q = 41; (subst hq6; rfl); by_cases hq7 : q = 43; (subst hq7; rfl); simp only [gset, if_neg hq0, if_neg hq1, if_neg hq2, if_neg hq3, if_neg hq4, if_neg hq5, if_neg hq6, if_neg hq7])) hfr (lv_sub hl [1, 0] rfl)
                ·
                  have oc0 : (0 : Int32).toInt = 0 := by decide
                  have cc341 : r138.toInt ≠ (0 : Int32).toInt := i32_ne c325
                  have hb342 : In r138 1 1 := In.ne1 eL142R (⟨by decide, by decide⟩ : In 0 0 0) cc341 (by decide) (by decide)
                  refine lv_iconst (v := 0) hx hb dX11_readsCouncil_51 (by decide) ?_
                  refine lv_goto (tgt := 69) hx hb dX11_readsCouncil_52 (by decide) ?_
                  exact hJ69 zz143 (th 40) (th 41) (-1 : Int) (0 : Int) (0 : Int) (0 : Int) (th 43) 0 _ _ _ _ (⟨(show 0 ≤ zz143 ∧ zz143 ≤ 500 from (by have ob13 : (0 : Int) ≤ (th 13) ∧ (th 13) ≤ 500 := (b0_13 hT :); have ob35 : (0 : Int) ≤ (0 : Int) ∧ (0 : Int) ≤ 63 := (b0_35 hT :); have ob36 : (0 : Int) ≤ (th 36) ∧ (th 36) ≤ 20 := (b0_36 hT :); have ob37 : (0 : Int) ≤ zz143 ∧ zz143 ≤ 500 := (b0_37 hT :); have ob40 : (0 : Int) ≤ (th 40) ∧ (th 40) ≤ 500 := (b0_40 hT :); have ob41 : (0 : Int) ≤ (th 41) ∧ (th 41) ≤ 500 := (b0_41 hT :); have ob42 : ((-1) : Int) ≤ (-1 : Int) ∧ (-1 : Int) ≤ 500 := (b0_42 hT :); have ob43 : ((-1) : Int) ≤ (th 43) ∧ (th 43) ≤ 1 := (b0_43 hT :); omega)), di_0⟩) (⟨by decide, by decide⟩ : In 0 (-1) 1) hP hD hS (TI.cast hT (by funext q; by_cases hq0 : q = 37; (subst hq0; rfl); by_cases hq1 : q = 34; (subst hq1; rfl); by_cases hq2 : q = 30; (subst hq2; rfl); by_cases hq3 : q = 35; (subst hq3; rfl); by_cases hq4 : q = 42; (subst hq4; rfl); by_cases hq5 : q = 40; (subst hq5; rfl); by_cases hq6 : q = 41; (subst hq6; rfl); by_cases hq7 : q = 43; (subst hq7; rfl); simp only [gset, if_neg hq0, if_neg hq1, if_neg hq2, if_neg hq3, if_neg hq4, if_neg hq5, if_neg hq6, if_neg hq7])) hfr (lv_sub hl [1, 0] rfl)
              ·
                have oc6 : (6 : Int32).toInt = 6 := by decide
                have oc6 : (6 : Int32).toInt = 6 := by decide
                have cc343 : (6 : Int32).toInt < (6 : Int32).toInt := i32_nle c128
                exact In.empty (lo := 6) (hi := 5) (In.lt1 (⟨by decide, by decide⟩ : In 6 6 6) (⟨by decide, by decide⟩ : In 6 6 6) cc343 (by decide) (by decide)) (by decide)

abbrev rm_X11_planLine : Room := { frames := 5, cells := 0, slots := 0, locals := 108 }
abbrev po_X11_planLine (g : GG) (ad : Nat → Nat) (th : Nat → Int) (L : List Nat) (f : HP)  : (List Nat × HP) → Prop := fun u => u.1 = L ∧ (∃ za zr zl ze zn : Int, (th 37 ≤ za ∧ za ≤ 500) ∧ TI g ad (gset (gset (gset (gset (gset th 37 za) 40 zr) 41 zl) 42 ze) 36 zn) u.2) ∧ (∀ b, b ≠ (ad 255) → b ≠ (ad 259) → u.2 b = f b)
set_option maxHeartbeats 4000000 in
set_option maxRecDepth 100000 in
theorem s_X11_planLine (l : Launch) (g : GG) (ad : Nat → Nat) (th : Nat → Int) (L : List Nat) (f : HP) (sz : Nat)  (hst : ST ad L) (hT : TI g ad th f)  : MtV l g yX11_planLine cX11_planLine 3 rm_X11_planLine [.ref (ad 255)] L f sz (po_X11_planLine g ad th L f ) := by
  refine MtV.of (by decide +kernel) (Nat.le_of_ble_eq_true rfl) ?_
  intro p e s m below meth c A hEn hP hD hS ls hl
  obtain ⟨hx, hb, hr, hml, hown, hlocks, hts, hG, hA, hE, hnm⟩ := hEn
  have hown : s.vm.findClass "RulerWordModel" = some m.cls := hown
  have hl : lv_has ls 3 [(0, .ref (ad 255))] := hl
  have hfr : (∀ b, b ≠ (ad 255) → b ≠ (ad 259) → f b = f b) := fun b z0_ z1_ => rfl
  refine lv_aload_n hx hb dX11_planLine_0 rfl (lv_at hl 0 rfl) ?_
  refine M0e hT (fun v0_1 v2_1 v3_1 v4_1 v5_1 v6_1 v8_1 v9_1 v12_1 v13_1 v14_1 v15_1 v16_1 v17_1 v18_1 v19_1 v20_1 v21_1 v22_1 v23_1 v25_1 v36_1 v37_1 v38_1 v39_1 v40_1 v45_1 v46_1 v47_1 v48_1 v50_1 v51_1 v53_1 v55_1 hf2 hv0_1 hv2_1 hg2_1 hv3_1 hg3_1 hv4_1 hg4_1 hv5_1 hg5_1 hv6_1 hg6_1 hv8_1 hg8_1 hv9_1 hg9_1 hv12_1 hv13_1 hg13_1 hv14_1 hg14_1 hv15_1 hg15_1 hv17_1 hg17_1 hv20_1 hg20_1 hv23_1 hg23_1 hv25_1 hg25_1 hv36_1 hg36_1 hv47_1 hg47_1 hv48_1 hg48_1 hv53_1 hg53_1 hv55_1 hg55_1 hrel0_1 => ?_)
  have hg15_1 : v15_1.toInt = th 11 := hg15_1
  have hg20_1 : v20_1.toInt = th 14 := hg20_1
  refine call_i (run_V (rm := rm_X11_look) hx hb hml hown hts (s_X11_look l g ad th _ _ _  hst hT ) cV_X11_look wg_1529 ⟨Nat.le_of_ble_eq_true rfl, Nat.le_of_ble_eq_true rfl⟩ hG hE hA hP hD hS (hst.1 255 (by decide)) hf2 rfl rfl hl.1 (As := []) (rest := []) rfl (Nat.le_of_ble_eq_true rfl) dX11_planLine_1 ⟨Nat.le_of_ble_eq_true rfl, Nat.le_of_ble_eq_true rfl⟩) hA hD hS (fun r3 L4 f5 H locs hp6 hP hD hS => ?_)
  obtain ⟨eL7L, eL7T, eL7F, eL7R⟩ := hp6
  have eL7L : L4 = L := eL7L
  rw [eL7L] at hP hD
  obtain ⟨zz8, hzz8, eL7T⟩ := eL7T
  have hT : TI g ad (gset th 37 zz8) f5 := eL7T
  have eL7F : ∀ b, b ≠ (ad 255) → f5 b = f b := eL7F
  have hfr : (∀ b, b ≠ (ad 255) → b ≠ (ad 259) → f5 b = f b) := fun b z0_ z1_ => (eL7F b z0_).trans (hfr b z0_ z1_)
  have eL7R : In r3 (-1) 255 := eL7R
  refine lv_istore_n (lv' := [(1, .int r3), (0, .ref (ad 255))]) hx hb dX11_planLine_4 rfl hl (by decide) rfl (fun ls hl => ?_)
  refine lv_aload_n hx hb dX11_planLine_5 rfl (lv_at hl 1 rfl) ?_
  refine M0e hT (fun v0_9 v2_9 v3_9 v4_9 v5_9 v6_9 v8_9 v9_9 v12_9 v13_9 v14_9 v15_9 v16_9 v17_9 v18_9 v19_9 v20_9 v21_9 v22_9 v23_9 v25_9 v36_9 v37_9 v38_9 v39_9 v40_9 v45_9 v46_9 v47_9 v48_9 v50_9 v51_9 v53_9 v55_9 hf10 hv0_9 hv2_9 hg2_9 hv3_9 hg3_9 hv4_9 hg4_9 hv5_9 hg5_9 hv6_9 hg6_9 hv8_9 hg8_9 hv9_9 hg9_9 hv12_9 hv13_9 hg13_9 hv14_9 hg14_9 hv15_9 hg15_9 hv17_9 hg17_9 hv20_9 hg20_9 hv23_9 hg23_9 hv25_9 hg25_9 hv36_9 hg36_9 hv47_9 hg47_9 hv48_9 hg48_9 hv53_9 hg53_9 hv55_9 hg55_9 hrel0_9 => ?_)
  have hg15_9 : v15_9.toInt = th 11 := hg15_9
  have hg20_9 : v20_9.toInt = th 14 := hg20_9
  refine pl_get (v := .int v13_9) hx hb hts (fun w h => mT (inX11 w h)) hown hG.1 hP (hst.1 255 (by decide)) hf10 rfl 13 (by decide) (hts _ (mT wg_1349)) (fun _ h => h) rfl dX11_planLine_6 ?_
  have hg13_9 : v13_9.toInt = th 36 := hg13_9
  refine lv_bipush (v := 20) hx hb dX11_planLine_9 (by decide) ?_
  refine lv_icmp_ne (tgt := 23) hx hb dX11_planLine_11 (by decide) (fun c11 => ?_) (fun c11 => ?_)
  ·
    have oc20 : (20 : Int32).toInt = 20 := by decide
    have cc12 : v13_9.toInt ≠ (20 : Int32).toInt := i32_ne c11
    have hb13 : In v13_9 0 19 := In.ne1 hv13_9 (⟨by decide, by decide⟩ : In 20 20 20) cc12 (by decide) (by decide)
    refine lv_iconst (v := 5) hx hb dX11_planLine_23 (by decide) ?_
    refine lv_aload_n hx hb dX11_planLine_24 rfl (lv_at hl 1 rfl) ?_
    refine pl_get (v := .int v13_9) hx hb hts (fun w h => mT (inX11 w h)) hown hG.1 hP (hst.1 255 (by decide)) hf10 rfl 13 (by decide) (hts _ (mT wg_1349)) (fun _ h => h) rfl dX11_planLine_25 ?_
    refine lv_imul hx hb dX11_planLine_28 ?_
    refine lv_topi (fun x14 ex14 => ?_)
    have hb15 : In x14 0 95 := ex14 ▸ In.mul (⟨by decide, by decide⟩ : In 5 5 5) hb13 (by decide) (by decide) (by decide) (by decide) (by decide)
    have et16 : x14.toInt = 5 * v13_9.toInt := In.mule ex14 (⟨by decide, by decide⟩ : In 5 5 5) hb13 (by decide) (by decide) (by decide) (by decide) rfl
    refine lv_istore_n (lv' := [(2, .int x14), (1, .int r3), (0, .ref (ad 255))]) hx hb dX11_planLine_29 rfl hl (by decide) rfl (fun ls hl => ?_)
    refine lv_aload_n hx hb dX11_planLine_30 rfl (lv_at hl 2 rfl) ?_
    refine pl_get (v := .ref (ad 259)) hx hb hts (fun w h => mT (inX11 w h)) hown hG.1 hP (hst.1 255 (by decide)) hf10 rfl 11 (by decide) (hts _ (mT wg_1347)) (fun _ h => h) rfl dX11_planLine_31 ?_
    refine lv_iload_n hx hb dX11_planLine_34 rfl (lv_at hl 0 rfl) ?_
    refine lv_aload_n hx hb dX11_planLine_35 rfl (lv_at hl 2 rfl) ?_
    refine va_ldcS hx hb hown (hG.2.2.1 ("RulerWordModel", 187, "phase", 8) (by decide +kernel)) dX11_planLine_36 ?_
    refine call_i (run_V (rm := rm_X11_takes) hx hb hml hown hts (s_X11_takes l g ad (gset th 37 zz8) _ _ _ 8 hst hT (by decide)) cV_X11_takes wg_1538 ⟨Nat.le_of_ble_eq_true rfl, Nat.le_of_ble_eq_true rfl⟩ hG hE hA hP hD hS (hst.1 255 (by decide)) hf10 rfl rfl hl.1 (As := [.ref (g.2.2.1 8)]) (rest := [.int x14, .ref (ad 259)]) rfl (Nat.le_of_ble_eq_true rfl) dX11_planLine_38 ⟨Nat.le_of_ble_eq_true rfl, Nat.le_of_ble_eq_true rfl⟩) hA hD hS (fun r17 L18 f19 H locs hp20 hP hD hS => ?_)
    obtain ⟨eL21L, eL21T, eL21F, eL21R⟩ := hp20
    have eL21L : L18 = L := eL21L
    rw [eL21L] at hP hD
    obtain ⟨zz22, hzz22, eL21T⟩ := eL21T
    have hzz22 : zz8 ≤ zz22 ∧ zz22 ≤ 500 := hzz22
    have hT : TI g ad (gset (gset th 37 zz8) 37 zz22) f19 := eL21T
    have hT : TI g ad (gset th 37 zz22) f19 := TI.cast hT (by funext q; by_cases hq0 : q = 37; (subst hq0; rfl); simp only [gset, if_neg hq0])
    have eL21F : ∀ b, b ≠ (ad 255) → f19 b = f5 b := eL21F
    have hfr : (∀ b, b ≠ (ad 255) → b ≠ (ad 259) → f19 b = f b) := fun b z0_ z1_ => (eL21F b z0_).trans (hfr b z0_ z1_)
    have eL21R : In r17 0 1 := eL21R
    have hJ54 : ∀ (zg54_za : Int) (zg54_zr : Int) (zg54_zl : Int) (zg54_ze : Int) (y54_s0 : Int32) (f_54 : HP) (H : Heap) (locs : List Loc) (ls : Array Slot), th 37 ≤ zg54_za ∧ zg54_za ≤ 500 → In y54_s0 (-1) 5 → va_P g.1 vwCl (va_pl L f_54) H → va_D A (va_pl L f_54) → va_S A s.heap H locs → TI g ad (gset (gset (gset (gset th 37 zg54_za) 40 zg54_zr) 41 zg54_zl) 42 zg54_ze) f_54 → (∀ b, b ≠ (ad 255) → b ≠ (ad 259) → f_54 b = f b) → lv_has ls 3 [(0, .ref (ad 255)), (1, .int r3), (2, .int x14)] → W p l e rm_X11_planLine s m [.ref (ad 255)].toArray below meth c H locs 0 0 (MQ below (va_Qv (po_X11_planLine g ad th L f ) (PstB g A) A) [.ref (ad 255)].toArray s rm_X11_planLine.cells rm_X11_planLine.slots A) (F0 m 54 ls [.int y54_s0, .int x14, .ref (ad 259)]) := by
      intro zg54_za zg54_zr zg54_zl zg54_ze y54_s0 f_54 H locs ls hzg54 hy54_s0 hP hD hS hT hfr hl
      obtain ⟨rw23, hf24⟩ := hT.2.2 4 (by decide)
      refine pl_iastE hx hb hG.1 hP hD hS (hst.1 259 (by decide)) 0 hf24 rfl (In.inb hb15 (by decide) (by decide)) dX11_planLine_54 (fun H locs f25 r28 er28 hf26 ho27 hP hD hS => ?_)
      have hfr : (∀ b, b ≠ (ad 255) → b ≠ (ad 259) → f25 b = f b) := fun b z0_ z1_ => (ho27 b z1_).trans (hfr b z0_ z1_)
      refine lv_aload_n hx hb dX11_planLine_55 rfl (lv_at hl 0 rfl) ?_
      have hT := TI.updM hT hst (k := 4) (by decide) hf26 ho27 ⟨r28, rfl⟩
      refine M0e hT (fun v0_29 v2_29 v3_29 v4_29 v5_29 v6_29 v8_29 v9_29 v12_29 v13_29 v14_29 v15_29 v16_29 v17_29 v18_29 v19_29 v20_29 v21_29 v22_29 v23_29 v25_29 v36_29 v37_29 v38_29 v39_29 v40_29 v45_29 v46_29 v47_29 v48_29 v50_29 v51_29 v53_29 v55_29 hf30 hv0_29 hv2_29 hg2_29 hv3_29 hg3_29 hv4_29 hg4_29 hv5_29 hg5_29 hv6_29 hg6_29 hv8_29 hg8_29 hv9_29 hg9_29 hv12_29 hv13_29 hg13_29 hv14_29 hg14_29 hv15_29 hg15_29 hv17_29 hg17_29 hv20_29 hg20_29 hv23_29 hg23_29 hv25_29 hg25_29 hv36_29 hg36_29 hv47_29 hg47_29 hv48_29 hg48_29 hv53_29 hg53_29 hv55_29 hg55_29 hrel0_29 => ?_)
      have hg15_29 : v15_29.toInt = th 11 := hg15_29
      have hg20_29 : v20_29.toInt = th 14 := hg20_29
      refine pl_get (v := .ref (ad 259)) hx hb hts (fun w h => mT (inX11 w h)) hown hG.1 hP (hst.1 255 (by decide)) hf30 rfl 11 (by decide) (hts _ (mT wg_1347)) (fun _ h => h) rfl dX11_planLine_56 ?_
      refine lv_iload_n hx hb dX11_planLine_59 rfl (lv_at hl 2 rfl) ?_
      refine lv_iconst (v := 1) hx hb dX11_planLine_60 (by decide) ?_
      refine lv_iadd hx hb dX11_planLine_61 ?_
      refine lv_topi (fun x31 ex31 => ?_)
      have hb32 : In x31 1 96 := ex31 ▸ In.add hb15 (⟨by decide, by decide⟩ : In 1 1 1) (by decide) (by decide) (by decide) (by decide)
      have et33 : x31.toInt = x14.toInt + 1 := In.adde ex31 hb15 (k := 1) (by decide) (by decide) (by decide)
      refine lv_aload_n hx hb dX11_planLine_62 rfl (lv_at hl 0 rfl) ?_
      refine pl_get (v := .int v4_29) hx hb hts (fun w h => mT (inX11 w h)) hown hG.1 hP (hst.1 255 (by decide)) hf30 rfl 4 (by decide) (hts _ (mT wg_1340)) (fun _ h => h) rfl dX11_planLine_63 ?_
      have hg4_29 : v4_29.toInt = zg54_ze := hg4_29
      refine lv_iconst (v := (-1)) hx hb dX11_planLine_66 (by decide) ?_
      have hJ89 : ∀ (zg89_za : Int) (zg89_zr : Int) (zg89_zl : Int) (zg89_ze : Int) (y89_s0 : Int32) (f_89 : HP) (H : Heap) (locs : List Loc) (ls : Array Slot), th 37 ≤ zg89_za ∧ zg89_za ≤ 500 → In y89_s0 (-1) 2 → va_P g.1 vwCl (va_pl L f_89) H → va_D A (va_pl L f_89) → va_S A s.heap H locs → TI g ad (gset (gset (gset (gset th 37 zg89_za) 40 zg89_zr) 41 zg89_zl) 42 zg89_ze) f_89 → (∀ b, b ≠ (ad 255) → b ≠ (ad 259) → f_89 b = f b) → f_89 (ad 259) = .inl (g.2.1 0, 100, .inl (r28)) → lv_has ls 3 [(0, .ref (ad 255)), (1, .int r3), (2, .int x14)] → W p l e rm_X11_planLine s m [.ref (ad 255)].toArray below meth c H locs 0 0 (MQ below (va_Qv (po_X11_planLine g ad th L f ) (PstB g A) A) [.ref (ad 255)].toArray s rm_X11_planLine.cells rm_X11_planLine.slots A) (F0 m 89 ls [.int y89_s0, .int x31, .ref (ad 259)]) := by
        intro zg89_za zg89_zr zg89_zl zg89_ze y89_s0 f_89 H locs ls hzg89 hy89_s0 hP hD hS hT hfr hf34 hl
        refine pl_iastE hx hb hG.1 hP hD hS (hst.1 259 (by decide)) 0 hf34 rfl (In.inb hb32 (by decide) (by decide)) dX11_planLine_89 (fun H locs f35 r38 er38 hf36 ho37 hP hD hS => ?_)
        have hfr : (∀ b, b ≠ (ad 255) → b ≠ (ad 259) → f35 b = f b) := fun b z0_ z1_ => (ho37 b z1_).trans (hfr b z0_ z1_)
        refine lv_aload_n hx hb dX11_planLine_90 rfl (lv_at hl 0 rfl) ?_
        have hT := TI.updM hT hst (k := 4) (by decide) hf36 ho37 ⟨r38, rfl⟩
        refine M0e hT (fun v0_39 v2_39 v3_39 v4_39 v5_39 v6_39 v8_39 v9_39 v12_39 v13_39 v14_39 v15_39 v16_39 v17_39 v18_39 v19_39 v20_39 v21_39 v22_39 v23_39 v25_39 v36_39 v37_39 v38_39 v39_39 v40_39 v45_39 v46_39 v47_39 v48_39 v50_39 v51_39 v53_39 v55_39 hf40 hv0_39 hv2_39 hg2_39 hv3_39 hg3_39 hv4_39 hg4_39 hv5_39 hg5_39 hv6_39 hg6_39 hv8_39 hg8_39 hv9_39 hg9_39 hv12_39 hv13_39 hg13_39 hv14_39 hg14_39 hv15_39 hg15_39 hv17_39 hg17_39 hv20_39 hg20_39 hv23_39 hg23_39 hv25_39 hg25_39 hv36_39 hg36_39 hv47_39 hg47_39 hv48_39 hg48_39 hv53_39 hg53_39 hv55_39 hg55_39 hrel0_39 => ?_)
        have hg15_39 : v15_39.toInt = th 11 := hg15_39
        have hg20_39 : v20_39.toInt = th 14 := hg20_39
        refine pl_get (v := .ref (ad 259)) hx hb hts (fun w h => mT (inX11 w h)) hown hG.1 hP (hst.1 255 (by decide)) hf40 rfl 11 (by decide) (hts _ (mT wg_1347)) (fun _ h => h) rfl dX11_planLine_91 ?_
        refine lv_iload_n hx hb dX11_planLine_94 rfl (lv_at hl 2 rfl) ?_
        refine lv_iconst (v := 2) hx hb dX11_planLine_95 (by decide) ?_
        refine lv_iadd hx hb dX11_planLine_96 ?_
        refine lv_topi (fun x41 ex41 => ?_)
        have hb42 : In x41 2 97 := ex41 ▸ In.add hb15 (⟨by decide, by decide⟩ : In 2 2 2) (by decide) (by decide) (by decide) (by decide)
        have et43 : x41.toInt = x14.toInt + 2 := In.adde ex41 hb15 (k := 2) (by decide) (by decide) (by decide)
        refine lv_aload_n hx hb dX11_planLine_97 rfl (lv_at hl 0 rfl) ?_
        refine pl_get (v := .int v4_39) hx hb hts (fun w h => mT (inX11 w h)) hown hG.1 hP (hst.1 255 (by decide)) hf40 rfl 4 (by decide) (hts _ (mT wg_1340)) (fun _ h => h) rfl dX11_planLine_98 ?_
        have hg4_39 : v4_39.toInt = zg89_ze := hg4_39
        refine lv_iconst (v := (-1)) hx hb dX11_planLine_101 (by decide) ?_
        have hJ125 : ∀ (zg125_za : Int) (zg125_zr : Int) (zg125_zl : Int) (zg125_ze : Int) (y125_s0 : Int32) (f_125 : HP) (H : Heap) (locs : List Loc) (ls : Array Slot), th 37 ≤ zg125_za ∧ zg125_za ≤ 500 → In y125_s0 (-1) 8 → va_P g.1 vwCl (va_pl L f_125) H → va_D A (va_pl L f_125) → va_S A s.heap H locs → TI g ad (gset (gset (gset (gset th 37 zg125_za) 40 zg125_zr) 41 zg125_zl) 42 zg125_ze) f_125 → (∀ b, b ≠ (ad 255) → b ≠ (ad 259) → f_125 b = f b) → f_125 (ad 259) = .inl (g.2.1 0, 100, .inl (r38)) → lv_has ls 3 [(0, .ref (ad 255)), (1, .int r3), (2, .int x14)] → W p l e rm_X11_planLine s m [.ref (ad 255)].toArray below meth c H locs 0 0 (MQ below (va_Qv (po_X11_planLine g ad th L f ) (PstB g A) A) [.ref (ad 255)].toArray s rm_X11_planLine.cells rm_X11_planLine.slots A) (F0 m 125 ls [.int y125_s0, .int x41, .ref (ad 259)]) := by
          intro zg125_za zg125_zr zg125_zl zg125_ze y125_s0 f_125 H locs ls hzg125 hy125_s0 hP hD hS hT hfr hf44 hl
          refine pl_iastE hx hb hG.1 hP hD hS (hst.1 259 (by decide)) 0 hf44 rfl (In.inb hb42 (by decide) (by decide)) dX11_planLine_125 (fun H locs f45 r48 er48 hf46 ho47 hP hD hS => ?_)
          have hfr : (∀ b, b ≠ (ad 255) → b ≠ (ad 259) → f45 b = f b) := fun b z0_ z1_ => (ho47 b z1_).trans (hfr b z0_ z1_)
          refine lv_aload_n hx hb dX11_planLine_126 rfl (lv_at hl 0 rfl) ?_
          have hT := TI.updM hT hst (k := 4) (by decide) hf46 ho47 ⟨r48, rfl⟩
          refine M0e hT (fun v0_49 v2_49 v3_49 v4_49 v5_49 v6_49 v8_49 v9_49 v12_49 v13_49 v14_49 v15_49 v16_49 v17_49 v18_49 v19_49 v20_49 v21_49 v22_49 v23_49 v25_49 v36_49 v37_49 v38_49 v39_49 v40_49 v45_49 v46_49 v47_49 v48_49 v50_49 v51_49 v53_49 v55_49 hf50 hv0_49 hv2_49 hg2_49 hv3_49 hg3_49 hv4_49 hg4_49 hv5_49 hg5_49 hv6_49 hg6_49 hv8_49 hg8_49 hv9_49 hg9_49 hv12_49 hv13_49 hg13_49 hv14_49 hg14_49 hv15_49 hg15_49 hv17_49 hg17_49 hv20_49 hg20_49 hv23_49 hg23_49 hv25_49 hg25_49 hv36_49 hg36_49 hv47_49 hg47_49 hv48_49 hg48_49 hv53_49 hg53_49 hv55_49 hg55_49 hrel0_49 => ?_)
          have hg15_49 : v15_49.toInt = th 11 := hg15_49
          have hg20_49 : v20_49.toInt = th 14 := hg20_49
          refine pl_get (v := .ref (ad 259)) hx hb hts (fun w h => mT (inX11 w h)) hown hG.1 hP (hst.1 255 (by decide)) hf50 rfl 11 (by decide) (hts _ (mT wg_1347)) (fun _ h => h) rfl dX11_planLine_127 ?_
          refine lv_iload_n hx hb dX11_planLine_130 rfl (lv_at hl 2 rfl) ?_
          refine lv_iconst (v := 3) hx hb dX11_planLine_131 (by decide) ?_
          refine lv_iadd hx hb dX11_planLine_132 ?_
          refine lv_topi (fun x51 ex51 => ?_)
          have hb52 : In x51 3 98 := ex51 ▸ In.add hb15 (⟨by decide, by decide⟩ : In 3 3 3) (by decide) (by decide) (by decide) (by decide)
          have et53 : x51.toInt = x14.toInt + 3 := In.adde ex51 hb15 (k := 3) (by decide) (by decide) (by decide)
          refine lv_aload_n hx hb dX11_planLine_133 rfl (lv_at hl 0 rfl) ?_
          refine pl_get (v := .int v4_49) hx hb hts (fun w h => mT (inX11 w h)) hown hG.1 hP (hst.1 255 (by decide)) hf50 rfl 4 (by decide) (hts _ (mT wg_1340)) (fun _ h => h) rfl dX11_planLine_134 ?_
          have hg4_49 : v4_49.toInt = zg125_ze := hg4_49
          refine lv_iconst (v := (-1)) hx hb dX11_planLine_137 (by decide) ?_
          have hJ161 : ∀ (zg161_za : Int) (zg161_zr : Int) (zg161_zl : Int) (zg161_ze : Int) (y161_s0 : Int32) (f_161 : HP) (H : Heap) (locs : List Loc) (ls : Array Slot), th 37 ≤ zg161_za ∧ zg161_za ≤ 500 → In y161_s0 (-1) 8 → va_P g.1 vwCl (va_pl L f_161) H → va_D A (va_pl L f_161) → va_S A s.heap H locs → TI g ad (gset (gset (gset (gset th 37 zg161_za) 40 zg161_zr) 41 zg161_zl) 42 zg161_ze) f_161 → (∀ b, b ≠ (ad 255) → b ≠ (ad 259) → f_161 b = f b) → f_161 (ad 259) = .inl (g.2.1 0, 100, .inl (r48)) → lv_has ls 3 [(0, .ref (ad 255)), (1, .int r3), (2, .int x14)] → W p l e rm_X11_planLine s m [.ref (ad 255)].toArray below meth c H locs 0 0 (MQ below (va_Qv (po_X11_planLine g ad th L f ) (PstB g A) A) [.ref (ad 255)].toArray s rm_X11_planLine.cells rm_X11_planLine.slots A) (F0 m 161 ls [.int y161_s0, .int x51, .ref (ad 259)]) := by
            intro zg161_za zg161_zr zg161_zl zg161_ze y161_s0 f_161 H locs ls hzg161 hy161_s0 hP hD hS hT hfr hf54 hl
            refine pl_iastE hx hb hG.1 hP hD hS (hst.1 259 (by decide)) 0 hf54 rfl (In.inb hb52 (by decide) (by decide)) dX11_planLine_161 (fun H locs f55 r58 er58 hf56 ho57 hP hD hS => ?_)
            have hfr : (∀ b, b ≠ (ad 255) → b ≠ (ad 259) → f55 b = f b) := fun b z0_ z1_ => (ho57 b z1_).trans (hfr b z0_ z1_)
            refine lv_aload_n hx hb dX11_planLine_162 rfl (lv_at hl 0 rfl) ?_
            have hT := TI.updM hT hst (k := 4) (by decide) hf56 ho57 ⟨r58, rfl⟩
            refine M0e hT (fun v0_59 v2_59 v3_59 v4_59 v5_59 v6_59 v8_59 v9_59 v12_59 v13_59 v14_59 v15_59 v16_59 v17_59 v18_59 v19_59 v20_59 v21_59 v22_59 v23_59 v25_59 v36_59 v37_59 v38_59 v39_59 v40_59 v45_59 v46_59 v47_59 v48_59 v50_59 v51_59 v53_59 v55_59 hf60 hv0_59 hv2_59 hg2_59 hv3_59 hg3_59 hv4_59 hg4_59 hv5_59 hg5_59 hv6_59 hg6_59 hv8_59 hg8_59 hv9_59 hg9_59 hv12_59 hv13_59 hg13_59 hv14_59 hg14_59 hv15_59 hg15_59 hv17_59 hg17_59 hv20_59 hg20_59 hv23_59 hg23_59 hv25_59 hg25_59 hv36_59 hg36_59 hv47_59 hg47_59 hv48_59 hg48_59 hv53_59 hg53_59 hv55_59 hg55_59 hrel0_59 => ?_)
            have hg15_59 : v15_59.toInt = th 11 := hg15_59
            have hg20_59 : v20_59.toInt = th 14 := hg20_59
            refine pl_get (v := .int v4_59) hx hb hts (fun w h => mT (inX11 w h)) hown hG.1 hP (hst.1 255 (by decide)) hf60 rfl 4 (by decide) (hts _ (mT wg_1340)) (fun _ h => h) rfl dX11_planLine_163 ?_
            have hg4_59 : v4_59.toInt = zg161_ze := hg4_59
            refine lv_iconst (v := (-1)) hx hb dX11_planLine_166 (by decide) ?_
            refine lv_icmp_eq (tgt := 171) hx hb dX11_planLine_167 (by decide) (fun c61 => ?_) (fun c61 => ?_)
            ·
              have ocm1 : ((-1) : Int32).toInt = (-1) := by decide
              have cc62 : v4_59.toInt = ((-1) : Int32).toInt := congrArg Int32.toInt c61
              have hb63 : In v4_59 (-1) (-1) := In.eq1 hv4_59 (⟨by decide, by decide⟩ : In (-1) (-1) (-1)) cc62 (by decide) (by decide)
              refine lv_aload_n hx hb dX11_planLine_171 rfl (lv_at hl 0 rfl) ?_
              refine call_i (run_V (rm := rm_X11_look) hx hb hml hown hts (s_X11_look l g ad (gset (gset (gset (gset th 37 zg161_za) 40 zg161_zr) 41 zg161_zl) 42 zg161_ze) _ _ _  hst hT ) cV_X11_look wg_1529 ⟨Nat.le_of_ble_eq_true rfl, Nat.le_of_ble_eq_true rfl⟩ hG hE hA hP hD hS (hst.1 255 (by decide)) hf60 rfl rfl hl.1 (As := []) (rest := []) rfl (Nat.le_of_ble_eq_true rfl) dX11_planLine_172 ⟨Nat.le_of_ble_eq_true rfl, Nat.le_of_ble_eq_true rfl⟩) hA hD hS (fun r64 L65 f66 H locs hp67 hP hD hS => ?_)
              obtain ⟨eL68L, eL68T, eL68F, eL68R⟩ := hp67
              have eL68L : L65 = L := eL68L
              rw [eL68L] at hP hD
              obtain ⟨zz69, hzz69, eL68T⟩ := eL68T
              have hT : TI g ad (gset (gset (gset (gset (gset th 37 zg161_za) 40 zg161_zr) 41 zg161_zl) 42 zg161_ze) 37 zz69) f66 := eL68T
              have hT : TI g ad (gset (gset (gset (gset th 40 zg161_zr) 41 zg161_zl) 42 zg161_ze) 37 zz69) f66 := TI.cast hT (by funext q; by_cases hq0 : q = 37; (subst hq0; rfl); by_cases hq1 : q = 42; (subst hq1; rfl); by_cases hq2 : q = 41; (subst hq2; rfl); by_cases hq3 : q = 40; (subst hq3; rfl); simp only [gset, if_neg hq0, if_neg hq1, if_neg hq2, if_neg hq3])
              have eL68F : ∀ b, b ≠ (ad 255) → f66 b = f55 b := eL68F
              have hf70 := (eL68F (ad 259) (hst.ne (by decide) (by decide) (by decide))).trans hf56
              have hfr : (∀ b, b ≠ (ad 255) → b ≠ (ad 259) → f66 b = f b) := fun b z0_ z1_ => (eL68F b z0_).trans (hfr b z0_ z1_)
              have eL68R : In r64 (-1) 255 := eL68R
              refine lv_istore_n (lv' := [(1, .int r64), (0, .ref (ad 255)), (2, .int x14)]) hx hb dX11_planLine_175 rfl hl (by decide) rfl (fun ls hl => ?_)
              refine lv_iload_n hx hb dX11_planLine_176 rfl (lv_at hl 0 rfl) ?_
              refine call_i (run_S (rm := rm_X11_isDigit) hx hb hml hown hts (s_X11_isDigit l g ad (gset (gset (gset (gset th 40 zg161_zr) 41 zg161_zl) 42 zg161_ze) 37 zz69) _ _ _ r64 hst hT ) cS_X11_isDigit wg_1574 ⟨Nat.le_of_ble_eq_true rfl, Nat.le_of_ble_eq_true rfl⟩ hG hE hA hP hD hS rfl hl.1 (As := [.int r64]) (rest := []) rfl (Nat.le_of_ble_eq_true rfl) dX11_planLine_177 ⟨Nat.le_of_ble_eq_true rfl, Nat.le_of_ble_eq_true rfl⟩) hA hD hS (fun r71 L72 f73 H locs hp74 hP hD hS => ?_)
              obtain ⟨eL75L, eL75T, eL75R, eL75W0⟩ := hp74
              have eL75L : L72 = L := eL75L
              have eL75T : f73 = f66 := eL75T
              rw [eL75L, eL75T] at hP hD
              have eL75R : In r71 0 1 := eL75R
              have hJ293 : ∀ (zg293_za : Int) (zg293_zr : Int) (zg293_zl : Int) (zg293_ze : Int) (f_293 : HP) (H : Heap) (locs : List Loc) (ls : Array Slot), th 37 ≤ zg293_za ∧ zg293_za ≤ 500 → va_P g.1 vwCl (va_pl L f_293) H → va_D A (va_pl L f_293) → va_S A s.heap H locs → TI g ad (gset (gset (gset (gset th 37 zg293_za) 40 zg293_zr) 41 zg293_zl) 42 zg293_ze) f_293 → (∀ b, b ≠ (ad 255) → b ≠ (ad 259) → f_293 b = f b) → lv_has ls 3 [(0, .ref (ad 255)), (1, .int r64), (2, .int x14)] → W p l e rm_X11_planLine s m [.ref (ad 255)].toArray below meth c H locs 0 0 (MQ below (va_Qv (po_X11_planLine g ad th L f ) (PstB g A) A) [.ref (ad 255)].toArray s rm_X11_planLine.cells rm_X11_planLine.slots A) (F0 m 293 ls []) := by
                intro zg293_za zg293_zr zg293_zl zg293_ze f_293 H locs ls hzg293 hP hD hS hT hfr hl
                refine lv_aload_n hx hb dX11_planLine_293 rfl (lv_at hl 0 rfl) ?_
                refine lv_dup hx hb dX11_planLine_294 rfl ?_
                refine M0e hT (fun v0_76 v2_76 v3_76 v4_76 v5_76 v6_76 v8_76 v9_76 v12_76 v13_76 v14_76 v15_76 v16_76 v17_76 v18_76 v19_76 v20_76 v21_76 v22_76 v23_76 v25_76 v36_76 v37_76 v38_76 v39_76 v40_76 v45_76 v46_76 v47_76 v48_76 v50_76 v51_76 v53_76 v55_76 hf77 hv0_76 hv2_76 hg2_76 hv3_76 hg3_76 hv4_76 hg4_76 hv5_76 hg5_76 hv6_76 hg6_76 hv8_76 hg8_76 hv9_76 hg9_76 hv12_76 hv13_76 hg13_76 hv14_76 hg14_76 hv15_76 hg15_76 hv17_76 hg17_76 hv20_76 hg20_76 hv23_76 hg23_76 hv25_76 hg25_76 hv36_76 hg36_76 hv47_76 hg47_76 hv48_76 hg48_76 hv53_76 hg53_76 hv55_76 hg55_76 hrel0_76 => ?_)
                have hg15_76 : v15_76.toInt = th 11 := hg15_76
                have hg20_76 : v20_76.toInt = th 14 := hg20_76
                refine pl_get (v := .int v13_76) hx hb hts (fun w h => mT (inX11 w h)) hown hG.1 hP (hst.1 255 (by decide)) hf77 rfl 13 (by decide) (hts _ (mT wg_1349)) (fun _ h => h) rfl dX11_planLine_295 ?_
                have hg13_76 : v13_76.toInt = th 36 := hg13_76
                refine lv_iconst (v := 1) hx hb dX11_planLine_298 (by decide) ?_
                refine lv_iadd hx hb dX11_planLine_299 ?_
                refine lv_topi (fun x78 ex78 => ?_)
                have hb79 : In x78 1 21 := ex78 ▸ In.add hv13_76 (⟨by decide, by decide⟩ : In 1 1 1) (by decide) (by decide) (by decide) (by decide)
                have et80 : x78.toInt = v13_76.toInt + 1 := In.adde ex78 hv13_76 (k := 1) (by decide) (by decide) (by decide)
                refine pl_put (ty := .int) (v := .int x78) (fs' := [.int v0_76, .ref (ad 256), .int v2_76, .int v3_76, .int v4_76, .int v5_76, .int v6_76, .ref (ad 257), .int v8_76, .int v9_76, .ref (ad 258), .ref (ad 259), .int v12_76, .int x78, .int v14_76, .int v15_76, .int v16_76, .int v17_76, .int v18_76, .int v19_76, .int v20_76, .long v21_76, .long v22_76, .int v23_76, .ref (ad 260), .int v25_76, .ref (ad 261), .ref (ad 262), .ref (ad 263), .ref (ad 264), .ref (ad 265), .ref (ad 266), .ref (ad 267), .ref (ad 268), .ref (ad 269), .ref (ad 270), .int v36_76, .int v37_76, .int v38_76, .int v39_76, .int v40_76, .ref (ad 271), .ref (ad 272), .ref (ad 273), .ref (ad 274), .long v45_76, .long v46_76, .int v47_76, .int v48_76, .ref (ad 275), .int v50_76, .int v51_76, .ref (ad 276), .int v53_76, .ref (ad 277), .int v55_76]) hx hb hts (fun w h => mT (inX11 w h)) tyX11 tyX11_ok nmX11 hown hG.1 hP hD hS (hst.1 255 (by decide)) hf77 rfl 13 (by decide) (hts _ (mT wg_1349)) (fun _ h => h) rfl (by decide +kernel) (rfl) (rfl) (Nat.le_of_ble_eq_true rfl) rfl dX11_planLine_300 (fun H locs f81 hf82 ho83 hP hD hS => ?_)
                have hfr : (∀ b, b ≠ (ad 255) → b ≠ (ad 259) → f81 b = f b) := fun b z0_ z1_ => (ho83 b z0_).trans (hfr b z0_ z1_)
                have hT := TI.updMG (th' := (gset (gset (gset (gset (gset th 37 zg293_za) 40 zg293_zr) 41 zg293_zl) 42 zg293_ze) 36 (x78.toInt))) hT hst (k := 0) (by decide) hf82 ho83 ⟨v0_76, v2_76, v3_76, v4_76, v5_76, v6_76, v8_76, v9_76, v12_76, x78, v14_76, v15_76, v16_76, v17_76, v18_76, v19_76, v20_76, v21_76, v22_76, v23_76, v25_76, v36_76, v37_76, v38_76, v39_76, v40_76, v45_76, v46_76, v47_76, v48_76, v50_76, v51_76, v53_76, v55_76, rfl, hv0_76, hv2_76, hg2_76, hv3_76, hg3_76, hv4_76, hg4_76, hv5_76, hg5_76, hv6_76, hg6_76, hv8_76, hg8_76, hv9_76, hg9_76, hv12_76, (In.mk (by have ob13 : (0 : Int) ≤ (th 13) ∧ (th 13) ≤ 500 := (b0_13 hT :); have ob35 : (0 : Int) ≤ (th 35) ∧ (th 35) ≤ 63 := (b0_35 hT :); have ob36 : (0 : Int) ≤ (th 36) ∧ (th 36) ≤ 20 := (b0_36 hT :); have ob37 : (0 : Int) ≤ zg293_za ∧ zg293_za ≤ 500 := (b0_37 hT :); have ob40 : (0 : Int) ≤ zg293_zr ∧ zg293_zr ≤ 500 := (b0_40 hT :); have ob41 : (0 : Int) ≤ zg293_zl ∧ zg293_zl ≤ 500 := (b0_41 hT :); have ob42 : ((-1) : Int) ≤ zg293_ze ∧ zg293_ze ≤ 500 := (b0_42 hT :); have ob43 : ((-1) : Int) ≤ (th 43) ∧ (th 43) ≤ 1 := (b0_43 hT :); obtain ⟨o0a, o0b⟩ := (hb79 : In _ _ _); obtain ⟨o1a, o1b⟩ := (hv2_76 : In _ _ _); obtain ⟨o2a, o2b⟩ := (hv3_76 : In _ _ _); obtain ⟨o3a, o3b⟩ := (hv4_76 : In _ _ _); obtain ⟨o4a, o4b⟩ := (hv5_76 : In _ _ _); obtain ⟨o5a, o5b⟩ := (hv6_76 : In _ _ _); obtain ⟨o6a, o6b⟩ := (hv8_76 : In _ _ _); obtain ⟨o7a, o7b⟩ := (hv9_76 : In _ _ _); obtain ⟨o8a, o8b⟩ := (hv13_76 : In _ _ _); omega) (by have ob13 : (0 : Int) ≤ (th 13) ∧ (th 13) ≤ 500 := (b0_13 hT :); have ob35 : (0 : Int) ≤ (th 35) ∧ (th 35) ≤ 63 := (b0_35 hT :); have ob36 : (0 : Int) ≤ (th 36) ∧ (th 36) ≤ 20 := (b0_36 hT :); have ob37 : (0 : Int) ≤ zg293_za ∧ zg293_za ≤ 500 := (b0_37 hT :); have ob40 : (0 : Int) ≤ zg293_zr ∧ zg293_zr ≤ 500 := (b0_40 hT :); have ob41 : (0 : Int) ≤ zg293_zl ∧ zg293_zl ≤ 500 := (b0_41 hT :); have ob42 : ((-1) : Int) ≤ zg293_ze ∧ zg293_ze ≤ 500 := (b0_42 hT :); have ob43 : ((-1) : Int) ≤ (th 43) ∧ (th 43) ≤ 1 := (b0_43 hT :); obtain ⟨o0a, o0b⟩ := (hb79 : In _ _ _); obtain ⟨o1a, o1b⟩ := (hv2_76 : In _ _ _); obtain ⟨o2a, o2b⟩ := (hv3_76 : In _ _ _); obtain ⟨o3a, o3b⟩ := (hv4_76 : In _ _ _); obtain ⟨o4a, o4b⟩ := (hv5_76 : In _ _ _); obtain ⟨o5a, o5b⟩ := (hv6_76 : In _ _ _); obtain ⟨o6a, o6b⟩ := (hv8_76 : In _ _ _); obtain ⟨o7a, o7b⟩ := (hv9_76 : In _ _ _); obtain ⟨o8a, o8b⟩ := (hv13_76 : In _ _ _); omega)), rfl, hv14_76, hg14_76, hv15_76, hg15_76, hv17_76, hg17_76, hv20_76, hg20_76, hv23_76, hg23_76, hv25_76, hg25_76, hv36_76, hg36_76, hv47_76, hg47_76, hv48_76, hg48_76, hv53_76, hg53_76, hv55_76, hg55_76, hrel0_76⟩ (fun q hq => ((gset_ne (fun e => hq (by subst e; decide))).trans rfl))
                have hT : TI g ad (gset (gset (gset (gset (gset th 37 zg293_za) 40 zg293_zr) 41 zg293_zl) 42 zg293_ze) 36 x78.toInt) f81 := TI.cast hT (by funext q; by_cases hq0 : q = 36; (subst hq0; rfl); by_cases hq1 : q = 42; (subst hq1; rfl); by_cases hq2 : q = 41; (subst hq2; rfl); by_cases hq3 : q = 40; (subst hq3; rfl); by_cases hq4 : q = 37; (subst hq4; rfl); simp only [gset, if_neg hq0, if_neg hq1, if_neg hq2, if_neg hq3, if_neg hq4])
                exact ret_v hx hb hr hlocks hP hD hS (Nat.le_of_ble_eq_true rfl) (Nat.le_of_ble_eq_true rfl) (⟨rfl, ⟨zg293_za, zg293_zr, zg293_zl, zg293_ze, x78.toInt, (show th 37 ≤ zg293_za ∧ zg293_za ≤ 500 from (by have ob13 : (0 : Int) ≤ (th 13) ∧ (th 13) ≤ 500 := (b0_13 hT :); have ob35 : (0 : Int) ≤ (th 35) ∧ (th 35) ≤ 63 := (b0_35 hT :); have ob36 : (0 : Int) ≤ x78.toInt ∧ x78.toInt ≤ 20 := (b0_36 hT :); have ob37 : (0 : Int) ≤ zg293_za ∧ zg293_za ≤ 500 := (b0_37 hT :); have ob40 : (0 : Int) ≤ zg293_zr ∧ zg293_zr ≤ 500 := (b0_40 hT :); have ob41 : (0 : Int) ≤ zg293_zl ∧ zg293_zl ≤ 500 := (b0_41 hT :); have ob42 : ((-1) : Int) ≤ zg293_ze ∧ zg293_ze ≤ 500 := (b0_42 hT :); have ob43 : ((-1) : Int) ≤ (th 43) ∧ (th 43) ≤ 1 := (b0_43 hT :); obtain ⟨o0a, o0b⟩ := (hb15 : In _ _ _); obtain ⟨o1a, o1b⟩ := (eL68R : In _ _ _); obtain ⟨o2a, o2b⟩ := (hb13 : In _ _ _); omega)), TI.cast hT (by funext q; by_cases hq0 : q = 36; (subst hq0; rfl); by_cases hq1 : q = 42; (subst hq1; rfl); by_cases hq2 : q = 41; (subst hq2; rfl); by_cases hq3 : q = 40; (subst hq3; rfl); by_cases hq4 : q = 37; (subst hq4; rfl); simp only [gset, if_neg hq0, if_neg hq1, if_neg hq2, if_neg hq3, if_neg hq4])⟩, hfr⟩) dX11_planLine_303
              refine lv_if_eq (tgt := 200) hx hb dX11_planLine_180 (by decide) (fun c84 => ?_) (fun c84 => ?_)
              ·
                have oc0 : (0 : Int32).toInt = 0 := by decide
                have cc85 : r71.toInt = (0 : Int32).toInt := congrArg Int32.toInt c84
                have hb86 : In r71 0 0 := In.eq1 eL75R (⟨by decide, by decide⟩ : In 0 0 0) cc85 (by decide) (by decide)
                refine lv_aload_n hx hb dX11_planLine_200 rfl (lv_at hl 1 rfl) ?_
                refine va_ldcS hx hb hown (hG.2.2.1 ("RulerWordModel", 195, "same", 12) (by decide +kernel)) dX11_planLine_201 ?_
                refine M0e hT (fun v0_87 v2_87 v3_87 v4_87 v5_87 v6_87 v8_87 v9_87 v12_87 v13_87 v14_87 v15_87 v16_87 v17_87 v18_87 v19_87 v20_87 v21_87 v22_87 v23_87 v25_87 v36_87 v37_87 v38_87 v39_87 v40_87 v45_87 v46_87 v47_87 v48_87 v50_87 v51_87 v53_87 v55_87 hf88 hv0_87 hv2_87 hg2_87 hv3_87 hg3_87 hv4_87 hg4_87 hv5_87 hg5_87 hv6_87 hg6_87 hv8_87 hg8_87 hv9_87 hg9_87 hv12_87 hv13_87 hg13_87 hv14_87 hg14_87 hv15_87 hg15_87 hv17_87 hg17_87 hv20_87 hg20_87 hv23_87 hg23_87 hv25_87 hg25_87 hv36_87 hg36_87 hv47_87 hg47_87 hv48_87 hg48_87 hv53_87 hg53_87 hv55_87 hg55_87 hrel0_87 => ?_)
                have hg15_87 : v15_87.toInt = th 11 := hg15_87
                have hg20_87 : v20_87.toInt = th 14 := hg20_87
                refine call_i (run_V (rm := rm_X11_takes) hx hb hml hown hts (s_X11_takes l g ad (gset (gset (gset (gset th 40 zg161_zr) 41 zg161_zl) 42 zg161_ze) 37 zz69) _ _ _ 12 hst hT (by decide)) cV_X11_takes wg_1538 ⟨Nat.le_of_ble_eq_true rfl, Nat.le_of_ble_eq_true rfl⟩ hG hE hA hP hD hS (hst.1 255 (by decide)) hf88 rfl rfl hl.1 (As := [.ref (g.2.2.1 12)]) (rest := []) rfl (Nat.le_of_ble_eq_true rfl) dX11_planLine_203 ⟨Nat.le_of_ble_eq_true rfl, Nat.le_of_ble_eq_true rfl⟩) hA hD hS (fun r89 L90 f91 H locs hp92 hP hD hS => ?_)
                obtain ⟨eL93L, eL93T, eL93F, eL93R⟩ := hp92
                have eL93L : L90 = L := eL93L
                rw [eL93L] at hP hD
                obtain ⟨zz94, hzz94, eL93T⟩ := eL93T
                have hzz94 : zz69 ≤ zz94 ∧ zz94 ≤ 500 := hzz94
                have hT : TI g ad (gset (gset (gset (gset (gset th 40 zg161_zr) 41 zg161_zl) 42 zg161_ze) 37 zz69) 37 zz94) f91 := eL93T
                have hT : TI g ad (gset (gset (gset (gset th 40 zg161_zr) 41 zg161_zl) 42 zg161_ze) 37 zz94) f91 := TI.cast hT (by funext q; by_cases hq0 : q = 37; (subst hq0; rfl); by_cases hq1 : q = 42; (subst hq1; rfl); by_cases hq2 : q = 41; (subst hq2; rfl); by_cases hq3 : q = 40; (subst hq3; rfl); simp only [gset, if_neg hq0, if_neg hq1, if_neg hq2, if_neg hq3])
                have eL93F : ∀ b, b ≠ (ad 255) → f91 b = f66 b := eL93F
                have hf95 := (eL93F (ad 259) (hst.ne (by decide) (by decide) (by decide))).trans hf70
                have hfr : (∀ b, b ≠ (ad 255) → b ≠ (ad 259) → f91 b = f b) := fun b z0_ z1_ => (eL93F b z0_).trans (hfr b z0_ z1_)
                have eL93R : In r89 0 1 := eL93R
                refine lv_if_eq (tgt := 221) hx hb dX11_planLine_206 (by decide) (fun c96 => ?_) (fun c96 => ?_)
                ·
                  have oc0 : (0 : Int32).toInt = 0 := by decide
                  have cc97 : r89.toInt = (0 : Int32).toInt := congrArg Int32.toInt c96
                  have hb98 : In r89 0 0 := In.eq1 eL93R (⟨by decide, by decide⟩ : In 0 0 0) cc97 (by decide) (by decide)
                  refine lv_aload_n hx hb dX11_planLine_221 rfl (lv_at hl 1 rfl) ?_
                  refine va_ldcS hx hb hown (hG.2.2.1 ("RulerWordModel", 197, "turn", 13) (by decide +kernel)) dX11_planLine_222 ?_
                  refine M0e hT (fun v0_99 v2_99 v3_99 v4_99 v5_99 v6_99 v8_99 v9_99 v12_99 v13_99 v14_99 v15_99 v16_99 v17_99 v18_99 v19_99 v20_99 v21_99 v22_99 v23_99 v25_99 v36_99 v37_99 v38_99 v39_99 v40_99 v45_99 v46_99 v47_99 v48_99 v50_99 v51_99 v53_99 v55_99 hf100 hv0_99 hv2_99 hg2_99 hv3_99 hg3_99 hv4_99 hg4_99 hv5_99 hg5_99 hv6_99 hg6_99 hv8_99 hg8_99 hv9_99 hg9_99 hv12_99 hv13_99 hg13_99 hv14_99 hg14_99 hv15_99 hg15_99 hv17_99 hg17_99 hv20_99 hg20_99 hv23_99 hg23_99 hv25_99 hg25_99 hv36_99 hg36_99 hv47_99 hg47_99 hv48_99 hg48_99 hv53_99 hg53_99 hv55_99 hg55_99 hrel0_99 => ?_)
                  have hg15_99 : v15_99.toInt = th 11 := hg15_99
                  have hg20_99 : v20_99.toInt = th 14 := hg20_99
                  refine call_i (run_V (rm := rm_X11_takes) hx hb hml hown hts (s_X11_takes l g ad (gset (gset (gset (gset th 40 zg161_zr) 41 zg161_zl) 42 zg161_ze) 37 zz94) _ _ _ 13 hst hT (by decide)) cV_X11_takes wg_1538 ⟨Nat.le_of_ble_eq_true rfl, Nat.le_of_ble_eq_true rfl⟩ hG hE hA hP hD hS (hst.1 255 (by decide)) hf100 rfl rfl hl.1 (As := [.ref (g.2.2.1 13)]) (rest := []) rfl (Nat.le_of_ble_eq_true rfl) dX11_planLine_224 ⟨Nat.le_of_ble_eq_true rfl, Nat.le_of_ble_eq_true rfl⟩) hA hD hS (fun r101 L102 f103 H locs hp104 hP hD hS => ?_)
                  obtain ⟨eL105L, eL105T, eL105F, eL105R⟩ := hp104
                  have eL105L : L102 = L := eL105L
                  rw [eL105L] at hP hD
                  obtain ⟨zz106, hzz106, eL105T⟩ := eL105T
                  have hzz106 : zz94 ≤ zz106 ∧ zz106 ≤ 500 := hzz106
                  have hT : TI g ad (gset (gset (gset (gset (gset th 40 zg161_zr) 41 zg161_zl) 42 zg161_ze) 37 zz94) 37 zz106) f103 := eL105T
                  have hT : TI g ad (gset (gset (gset (gset th 40 zg161_zr) 41 zg161_zl) 42 zg161_ze) 37 zz106) f103 := TI.cast hT (by funext q; by_cases hq0 : q = 37; (subst hq0; rfl); by_cases hq1 : q = 42; (subst hq1; rfl); by_cases hq2 : q = 41; (subst hq2; rfl); by_cases hq3 : q = 40; (subst hq3; rfl); simp only [gset, if_neg hq0, if_neg hq1, if_neg hq2, if_neg hq3])
                  have eL105F : ∀ b, b ≠ (ad 255) → f103 b = f91 b := eL105F
                  have hf107 := (eL105F (ad 259) (hst.ne (by decide) (by decide) (by decide))).trans hf95
                  have hfr : (∀ b, b ≠ (ad 255) → b ≠ (ad 259) → f103 b = f b) := fun b z0_ z1_ => (eL105F b z0_).trans (hfr b z0_ z1_)
                  have eL105R : In r101 0 1 := eL105R
                  refine lv_if_eq (tgt := 242) hx hb dX11_planLine_227 (by decide) (fun c108 => ?_) (fun c108 => ?_)
                  ·
                    have oc0 : (0 : Int32).toInt = 0 := by decide
                    have cc109 : r101.toInt = (0 : Int32).toInt := congrArg Int32.toInt c108
                    have hb110 : In r101 0 0 := In.eq1 eL105R (⟨by decide, by decide⟩ : In 0 0 0) cc109 (by decide) (by decide)
                    refine lv_aload_n hx hb dX11_planLine_242 rfl (lv_at hl 1 rfl) ?_
                    refine va_ldcS hx hb hown (hG.2.2.1 ("RulerWordModel", 199, "split", 14) (by decide +kernel)) dX11_planLine_243 ?_
                    refine M0e hT (fun v0_111 v2_111 v3_111 v4_111 v5_111 v6_111 v8_111 v9_111 v12_111 v13_111 v14_111 v15_111 v16_111 v17_111 v18_111 v19_111 v20_111 v21_111 v22_111 v23_111 v25_111 v36_111 v37_111 v38_111 v39_111 v40_111 v45_111 v46_111 v47_111 v48_111 v50_111 v51_111 v53_111 v55_111 hf112 hv0_111 hv2_111 hg2_111 hv3_111 hg3_111 hv4_111 hg4_111 hv5_111 hg5_111 hv6_111 hg6_111 hv8_111 hg8_111 hv9_111 hg9_111 hv12_111 hv13_111 hg13_111 hv14_111 hg14_111 hv15_111 hg15_111 hv17_111 hg17_111 hv20_111 hg20_111 hv23_111 hg23_111 hv25_111 hg25_111 hv36_111 hg36_111 hv47_111 hg47_111 hv48_111 hg48_111 hv53_111 hg53_111 hv55_111 hg55_111 hrel0_111 => ?_)
                    have hg15_111 : v15_111.toInt = th 11 := hg15_111
                    have hg20_111 : v20_111.toInt = th 14 := hg20_111
                    refine call_i (run_V (rm := rm_X11_takes) hx hb hml hown hts (s_X11_takes l g ad (gset (gset (gset (gset th 40 zg161_zr) 41 zg161_zl) 42 zg161_ze) 37 zz106) _ _ _ 14 hst hT (by decide)) cV_X11_takes wg_1538 ⟨Nat.le_of_ble_eq_true rfl, Nat.le_of_ble_eq_true rfl⟩ hG hE hA hP hD hS (hst.1 255 (by decide)) hf112 rfl rfl hl.1 (As := [.ref (g.2.2.1 14)]) (rest := []) rfl (Nat.le_of_ble_eq_true rfl) dX11_planLine_245 ⟨Nat.le_of_ble_eq_true rfl, Nat.le_of_ble_eq_true rfl⟩) hA hD hS (fun r113 L114 f115 H locs hp116 hP hD hS => ?_)
                    obtain ⟨eL117L, eL117T, eL117F, eL117R⟩ := hp116
                    have eL117L : L114 = L := eL117L
                    rw [eL117L] at hP hD
                    obtain ⟨zz118, hzz118, eL117T⟩ := eL117T
                    have hzz118 : zz106 ≤ zz118 ∧ zz118 ≤ 500 := hzz118
                    have hT : TI g ad (gset (gset (gset (gset (gset th 40 zg161_zr) 41 zg161_zl) 42 zg161_ze) 37 zz106) 37 zz118) f115 := eL117T
                    have hT : TI g ad (gset (gset (gset (gset th 40 zg161_zr) 41 zg161_zl) 42 zg161_ze) 37 zz118) f115 := TI.cast hT (by funext q; by_cases hq0 : q = 37; (subst hq0; rfl); by_cases hq1 : q = 42; (subst hq1; rfl); by_cases hq2 : q = 41; (subst hq2; rfl); by_cases hq3 : q = 40; (subst hq3; rfl); simp only [gset, if_neg hq0, if_neg hq1, if_neg hq2, if_neg hq3])
                    have eL117F : ∀ b, b ≠ (ad 255) → f115 b = f103 b := eL117F
                    have hf119 := (eL117F (ad 259) (hst.ne (by decide) (by decide) (by decide))).trans hf107
                    have hfr : (∀ b, b ≠ (ad 255) → b ≠ (ad 259) → f115 b = f b) := fun b z0_ z1_ => (eL117F b z0_).trans (hfr b z0_ z1_)
                    have eL117R : In r113 0 1 := eL117R
                    refine lv_if_eq (tgt := 263) hx hb dX11_planLine_248 (by decide) (fun c120 => ?_) (fun c120 => ?_)
                    ·
                      have oc0 : (0 : Int32).toInt = 0 := by decide
                      have cc121 : r113.toInt = (0 : Int32).toInt := congrArg Int32.toInt c120
                      have hb122 : In r113 0 0 := In.eq1 eL117R (⟨by decide, by decide⟩ : In 0 0 0) cc121 (by decide) (by decide)
                      refine lv_aload_n hx hb dX11_planLine_263 rfl (lv_at hl 1 rfl) ?_
                      refine va_ldcS hx hb hown (hG.2.2.1 ("RulerWordModel", 201, "draw", 15) (by decide +kernel)) dX11_planLine_264 ?_
                      refine M0e hT (fun v0_123 v2_123 v3_123 v4_123 v5_123 v6_123 v8_123 v9_123 v12_123 v13_123 v14_123 v15_123 v16_123 v17_123 v18_123 v19_123 v20_123 v21_123 v22_123 v23_123 v25_123 v36_123 v37_123 v38_123 v39_123 v40_123 v45_123 v46_123 v47_123 v48_123 v50_123 v51_123 v53_123 v55_123 hf124 hv0_123 hv2_123 hg2_123 hv3_123 hg3_123 hv4_123 hg4_123 hv5_123 hg5_123 hv6_123 hg6_123 hv8_123 hg8_123 hv9_123 hg9_123 hv12_123 hv13_123 hg13_123 hv14_123 hg14_123 hv15_123 hg15_123 hv17_123 hg17_123 hv20_123 hg20_123 hv23_123 hg23_123 hv25_123 hg25_123 hv36_123 hg36_123 hv47_123 hg47_123 hv48_123 hg48_123 hv53_123 hg53_123 hv55_123 hg55_123 hrel0_123 => ?_)
                      have hg15_123 : v15_123.toInt = th 11 := hg15_123
                      have hg20_123 : v20_123.toInt = th 14 := hg20_123
                      refine call_i (run_V (rm := rm_X11_takes) hx hb hml hown hts (s_X11_takes l g ad (gset (gset (gset (gset th 40 zg161_zr) 41 zg161_zl) 42 zg161_ze) 37 zz118) _ _ _ 15 hst hT (by decide)) cV_X11_takes wg_1538 ⟨Nat.le_of_ble_eq_true rfl, Nat.le_of_ble_eq_true rfl⟩ hG hE hA hP hD hS (hst.1 255 (by decide)) hf124 rfl rfl hl.1 (As := [.ref (g.2.2.1 15)]) (rest := []) rfl (Nat.le_of_ble_eq_true rfl) dX11_planLine_266 ⟨Nat.le_of_ble_eq_true rfl, Nat.le_of_ble_eq_true rfl⟩) hA hD hS (fun r125 L126 f127 H locs hp128 hP hD hS => ?_)
                      obtain ⟨eL129L, eL129T, eL129F, eL129R⟩ := hp128
                      have eL129L : L126 = L := eL129L
                      rw [eL129L] at hP hD
                      obtain ⟨zz130, hzz130, eL129T⟩ := eL129T
                      have hzz130 : zz118 ≤ zz130 ∧ zz130 ≤ 500 := hzz130
                      have hT : TI g ad (gset (gset (gset (gset (gset th 40 zg161_zr) 41 zg161_zl) 42 zg161_ze) 37 zz118) 37 zz130) f127 := eL129T
                      have hT : TI g ad (gset (gset (gset (gset th 40 zg161_zr) 41 zg161_zl) 42 zg161_ze) 37 zz130) f127 := TI.cast hT (by funext q; by_cases hq0 : q = 37; (subst hq0; rfl); by_cases hq1 : q = 42; (subst hq1; rfl); by_cases hq2 : q = 41; (subst hq2; rfl); by_cases hq3 : q = 40; (subst hq3; rfl); simp only [gset, if_neg hq0, if_neg hq1, if_neg hq2, if_neg hq3])
                      have eL129F : ∀ b, b ≠ (ad 255) → f127 b = f115 b := eL129F
                      have hf131 := (eL129F (ad 259) (hst.ne (by decide) (by decide) (by decide))).trans hf119
                      have hfr : (∀ b, b ≠ (ad 255) → b ≠ (ad 259) → f127 b = f b) := fun b z0_ z1_ => (eL129F b z0_).trans (hfr b z0_ z1_)
                      have eL129R : In r125 0 1 := eL129R
                      refine lv_if_eq (tgt := 285) hx hb dX11_planLine_269 (by decide) (fun c132 => ?_) (fun c132 => ?_)
                      ·
                        have oc0 : (0 : Int32).toInt = 0 := by decide
                        have cc133 : r125.toInt = (0 : Int32).toInt := congrArg Int32.toInt c132
                        have hb134 : In r125 0 0 := In.eq1 eL129R (⟨by decide, by decide⟩ : In 0 0 0) cc133 (by decide) (by decide)
                        refine lv_aload_n hx hb dX11_planLine_285 rfl (lv_at hl 1 rfl) ?_
                        refine lv_aload_n hx hb dX11_planLine_286 rfl (lv_at hl 1 rfl) ?_
                        refine M0e hT (fun v0_135 v2_135 v3_135 v4_135 v5_135 v6_135 v8_135 v9_135 v12_135 v13_135 v14_135 v15_135 v16_135 v17_135 v18_135 v19_135 v20_135 v21_135 v22_135 v23_135 v25_135 v36_135 v37_135 v38_135 v39_135 v40_135 v45_135 v46_135 v47_135 v48_135 v50_135 v51_135 v53_135 v55_135 hf136 hv0_135 hv2_135 hg2_135 hv3_135 hg3_135 hv4_135 hg4_135 hv5_135 hg5_135 hv6_135 hg6_135 hv8_135 hg8_135 hv9_135 hg9_135 hv12_135 hv13_135 hg13_135 hv14_135 hg14_135 hv15_135 hg15_135 hv17_135 hg17_135 hv20_135 hg20_135 hv23_135 hg23_135 hv25_135 hg25_135 hv36_135 hg36_135 hv47_135 hg47_135 hv48_135 hg48_135 hv53_135 hg53_135 hv55_135 hg55_135 hrel0_135 => ?_)
                        have hg15_135 : v15_135.toInt = th 11 := hg15_135
                        have hg20_135 : v20_135.toInt = th 14 := hg20_135
                        refine pl_get (v := .int v3_135) hx hb hts (fun w h => mT (inX11 w h)) hown hG.1 hP (hst.1 255 (by decide)) hf136 rfl 3 (by decide) (hts _ (mT wg_1339)) (fun _ h => h) rfl dX11_planLine_287 ?_
                        have hg3_135 : v3_135.toInt = zz130 := hg3_135
                        refine call_v (run_V (rm := rm_X11_fails) hx hb hml hown hts (s_X11_fails l g ad (gset (gset (gset (gset th 40 zg161_zr) 41 zg161_zl) 42 zg161_ze) 37 zz130) _ _ _ v3_135 hst hT hv3_135) cV_X11_fails wg_1545 ⟨Nat.le_of_ble_eq_true rfl, Nat.le_of_ble_eq_true rfl⟩ hG hE hA hP hD hS (hst.1 255 (by decide)) hf136 rfl rfl hl.1 (As := [.int v3_135]) (rest := []) rfl (Nat.le_of_ble_eq_true rfl) dX11_planLine_290 ⟨Nat.le_of_ble_eq_true rfl, Nat.le_of_ble_eq_true rfl⟩) hA hD hS (fun L138 f139 H locs hp140 hP hD hS => ?_)
                        obtain ⟨eL141L, eL141T, eL141F⟩ := hp140
                        have eL141L : L138 = L := eL141L
                        rw [eL141L] at hP hD
                        obtain ⟨zz142, hzz142, eL141T⟩ := eL141T
                        have hzz142 : 0 ≤ zz142 := hzz142
                        have hT : TI g ad (gset (gset (gset (gset (gset th 40 zg161_zr) 41 zg161_zl) 42 zg161_ze) 37 zz130) 42 zz142) f139 := eL141T
                        have hT : TI g ad (gset (gset (gset (gset th 40 zg161_zr) 41 zg161_zl) 37 zz130) 42 zz142) f139 := TI.cast hT (by funext q; by_cases hq0 : q = 42; (subst hq0; rfl); by_cases hq1 : q = 37; (subst hq1; rfl); by_cases hq2 : q = 41; (subst hq2; rfl); by_cases hq3 : q = 40; (subst hq3; rfl); simp only [gset, if_neg hq0, if_neg hq1, if_neg hq2, if_neg hq3])
                        have eL141F : ∀ b, b ≠ (ad 255) → f139 b = f127 b := eL141F
                        have hf143 := (eL141F (ad 259) (hst.ne (by decide) (by decide) (by decide))).trans hf131
                        have hfr : (∀ b, b ≠ (ad 255) → b ≠ (ad 259) → f139 b = f b) := fun b z0_ z1_ => (eL141F b z0_).trans (hfr b z0_ z1_)
                        exact hJ293 zz130 zg161_zr zg161_zl zz142 _ _ _ _ (show th 37 ≤ zz130 ∧ zz130 ≤ 500 from (by have ob13 : (0 : Int) ≤ (th 13) ∧ (th 13) ≤ 500 := (b0_13 hT :); have ob35 : (0 : Int) ≤ (th 35) ∧ (th 35) ≤ 63 := (b0_35 hT :); have ob36 : (0 : Int) ≤ (th 36) ∧ (th 36) ≤ 20 := (b0_36 hT :); have ob37 : (0 : Int) ≤ zz130 ∧ zz130 ≤ 500 := (b0_37 hT :); have ob40 : (0 : Int) ≤ zg161_zr ∧ zg161_zr ≤ 500 := (b0_40 hT :); have ob41 : (0 : Int) ≤ zg161_zl ∧ zg161_zl ≤ 500 := (b0_41 hT :); have ob42 : ((-1) : Int) ≤ zz142 ∧ zz142 ≤ 500 := (b0_42 hT :); have ob43 : ((-1) : Int) ≤ (th 43) ∧ (th 43) ≤ 1 := (b0_43 hT :); obtain ⟨o0a, o0b⟩ := (hb15 : In _ _ _); obtain ⟨o1a, o1b⟩ := (eL68R : In _ _ _); obtain ⟨o2a, o2b⟩ := (hb13 : In _ _ _); omega)) hP hD hS (TI.cast hT (by funext q; by_cases hq0 : q = 42; (subst hq0; rfl); by_cases hq1 : q = 37; (subst hq1; rfl); by_cases hq2 : q = 41; (subst hq2; rfl); by_cases hq3 : q = 40; (subst hq3; rfl); simp only [gset, if_neg hq0, if_neg hq1, if_neg hq2, if_neg hq3])) hfr (lv_sub hl [1, 0, 2] rfl)
                      ·
                        have oc0 : (0 : Int32).toInt = 0 := by decide
                        have cc144 : r125.toInt ≠ (0 : Int32).toInt := i32_ne c132
                        have hb145 : In r125 1 1 := In.ne1 eL129R (⟨by decide, by decide⟩ : In 0 0 0) cc144 (by decide) (by decide)
                        refine lv_aload_n hx hb dX11_planLine_272 rfl (lv_at hl 1 rfl) ?_
                        refine M0e hT (fun v0_146 v2_146 v3_146 v4_146 v5_146 v6_146 v8_146 v9_146 v12_146 v13_146 v14_146 v15_146 v16_146 v17_146 v18_146 v19_146 v20_146 v21_146 v22_146 v23_146 v25_146 v36_146 v37_146 v38_146 v39_146 v40_146 v45_146 v46_146 v47_146 v48_146 v50_146 v51_146 v53_146 v55_146 hf147 hv0_146 hv2_146 hg2_146 hv3_146 hg3_146 hv4_146 hg4_146 hv5_146 hg5_146 hv6_146 hg6_146 hv8_146 hg8_146 hv9_146 hg9_146 hv12_146 hv13_146 hg13_146 hv14_146 hg14_146 hv15_146 hg15_146 hv17_146 hg17_146 hv20_146 hg20_146 hv23_146 hg23_146 hv25_146 hg25_146 hv36_146 hg36_146 hv47_146 hg47_146 hv48_146 hg48_146 hv53_146 hg53_146 hv55_146 hg55_146 hrel0_146 => ?_)
                        have hg15_146 : v15_146.toInt = th 11 := hg15_146
                        have hg20_146 : v20_146.toInt = th 14 := hg20_146
                        refine pl_get (v := .ref (ad 259)) hx hb hts (fun w h => mT (inX11 w h)) hown hG.1 hP (hst.1 255 (by decide)) hf147 rfl 11 (by decide) (hts _ (mT wg_1347)) (fun _ h => h) rfl dX11_planLine_273 ?_
                        refine lv_iload_n hx hb dX11_planLine_276 rfl (lv_at hl 2 rfl) ?_
                        refine lv_iconst (v := 4) hx hb dX11_planLine_277 (by decide) ?_
                        refine lv_iadd hx hb dX11_planLine_278 ?_
                        refine lv_topi (fun x148 ex148 => ?_)
                        have hb149 : In x148 4 99 := ex148 ▸ In.add hb15 (⟨by decide, by decide⟩ : In 4 4 4) (by decide) (by decide) (by decide) (by decide)
                        have et150 : x148.toInt = x14.toInt + 4 := In.adde ex148 hb15 (k := 4) (by decide) (by decide) (by decide)
                        refine lv_bipush (v := 6) hx hb dX11_planLine_279 (by decide) ?_
                        refine pl_iastE hx hb hG.1 hP hD hS (hst.1 259 (by decide)) 0 hf131 rfl (In.inb hb149 (by decide) (by decide)) dX11_planLine_281 (fun H locs f151 r154 er154 hf152 ho153 hP hD hS => ?_)
                        have hf155 := (ho153 (ad 255) (hst.ne (by decide) (by decide) (by decide))).trans hf147
                        have hfr : (∀ b, b ≠ (ad 255) → b ≠ (ad 259) → f151 b = f b) := fun b z0_ z1_ => (ho153 b z1_).trans (hfr b z0_ z1_)
                        have hT := TI.updM hT hst (k := 4) (by decide) hf152 ho153 ⟨r154, rfl⟩
                        refine lv_goto (tgt := 293) hx hb dX11_planLine_282 (by decide) ?_
                        exact hJ293 zz130 zg161_zr zg161_zl zg161_ze _ _ _ _ (show th 37 ≤ zz130 ∧ zz130 ≤ 500 from (by have ob13 : (0 : Int) ≤ (th 13) ∧ (th 13) ≤ 500 := (b0_13 hT :); have ob35 : (0 : Int) ≤ (th 35) ∧ (th 35) ≤ 63 := (b0_35 hT :); have ob36 : (0 : Int) ≤ (th 36) ∧ (th 36) ≤ 20 := (b0_36 hT :); have ob37 : (0 : Int) ≤ zz130 ∧ zz130 ≤ 500 := (b0_37 hT :); have ob40 : (0 : Int) ≤ zg161_zr ∧ zg161_zr ≤ 500 := (b0_40 hT :); have ob41 : (0 : Int) ≤ zg161_zl ∧ zg161_zl ≤ 500 := (b0_41 hT :); have ob42 : ((-1) : Int) ≤ zg161_ze ∧ zg161_ze ≤ 500 := (b0_42 hT :); have ob43 : ((-1) : Int) ≤ (th 43) ∧ (th 43) ≤ 1 := (b0_43 hT :); obtain ⟨o0a, o0b⟩ := (hb15 : In _ _ _); obtain ⟨o1a, o1b⟩ := (eL68R : In _ _ _); obtain ⟨o2a, o2b⟩ := (hv2_146 : In _ _ _); obtain ⟨o3a, o3b⟩ := (hv3_146 : In _ _ _); obtain ⟨o4a, o4b⟩ := (hv4_146 : In _ _ _); obtain ⟨o5a, o5b⟩ := (hv5_146 : In _ _ _); obtain ⟨o6a, o6b⟩ := (hv6_146 : In _ _ _); obtain ⟨o7a, o7b⟩ := (hv8_146 : In _ _ _); obtain ⟨o8a, o8b⟩ := (hv9_146 : In _ _ _); obtain ⟨o9a, o9b⟩ := (hv13_146 : In _ _ _); obtain ⟨o10a, o10b⟩ := (hb13 : In _ _ _); omega)) hP hD hS (TI.cast hT (by funext q; by_cases hq0 : q = 37; (subst hq0; rfl); by_cases hq1 : q = 42; (subst hq1; rfl); by_cases hq2 : q = 41; (subst hq2; rfl); by_cases hq3 : q = 40; (subst hq3; rfl); simp only [gset, if_neg hq0, if_neg hq1, if_neg hq2, if_neg hq3])) hfr (lv_sub hl [1, 0, 2] rfl)
                    ·
                      have oc0 : (0 : Int32).toInt = 0 := by decide
                      have cc156 : r113.toInt ≠ (0 : Int32).toInt := i32_ne c120
                      have hb157 : In r113 1 1 := In.ne1 eL117R (⟨by decide, by decide⟩ : In 0 0 0) cc156 (by decide) (by decide)
                      refine lv_aload_n hx hb dX11_planLine_251 rfl (lv_at hl 1 rfl) ?_
                      refine M0e hT (fun v0_158 v2_158 v3_158 v4_158 v5_158 v6_158 v8_158 v9_158 v12_158 v13_158 v14_158 v15_158 v16_158 v17_158 v18_158 v19_158 v20_158 v21_158 v22_158 v23_158 v25_158 v36_158 v37_158 v38_158 v39_158 v40_158 v45_158 v46_158 v47_158 v48_158 v50_158 v51_158 v53_158 v55_158 hf159 hv0_158 hv2_158 hg2_158 hv3_158 hg3_158 hv4_158 hg4_158 hv5_158 hg5_158 hv6_158 hg6_158 hv8_158 hg8_158 hv9_158 hg9_158 hv12_158 hv13_158 hg13_158 hv14_158 hg14_158 hv15_158 hg15_158 hv17_158 hg17_158 hv20_158 hg20_158 hv23_158 hg23_158 hv25_158 hg25_158 hv36_158 hg36_158 hv47_158 hg47_158 hv48_158 hg48_158 hv53_158 hg53_158 hv55_158 hg55_158 hrel0_158 => ?_)
                      have hg15_158 : v15_158.toInt = th 11 := hg15_158
                      have hg20_158 : v20_158.toInt = th 14 := hg20_158
                      refine pl_get (v := .ref (ad 259)) hx hb hts (fun w h => mT (inX11 w h)) hown hG.1 hP (hst.1 255 (by decide)) hf159 rfl 11 (by decide) (hts _ (mT wg_1347)) (fun _ h => h) rfl dX11_planLine_252 ?_
                      refine lv_iload_n hx hb dX11_planLine_255 rfl (lv_at hl 2 rfl) ?_
                      refine lv_iconst (v := 4) hx hb dX11_planLine_256 (by decide) ?_
                      refine lv_iadd hx hb dX11_planLine_257 ?_
                      refine lv_topi (fun x160 ex160 => ?_)
                      have hb161 : In x160 4 99 := ex160 ▸ In.add hb15 (⟨by decide, by decide⟩ : In 4 4 4) (by decide) (by decide) (by decide) (by decide)
                      have et162 : x160.toInt = x14.toInt + 4 := In.adde ex160 hb15 (k := 4) (by decide) (by decide) (by decide)
                      refine lv_iconst (v := 5) hx hb dX11_planLine_258 (by decide) ?_
                      refine pl_iastE hx hb hG.1 hP hD hS (hst.1 259 (by decide)) 0 hf119 rfl (In.inb hb161 (by decide) (by decide)) dX11_planLine_259 (fun H locs f163 r166 er166 hf164 ho165 hP hD hS => ?_)
                      have hf167 := (ho165 (ad 255) (hst.ne (by decide) (by decide) (by decide))).trans hf159
                      have hfr : (∀ b, b ≠ (ad 255) → b ≠ (ad 259) → f163 b = f b) := fun b z0_ z1_ => (ho165 b z1_).trans (hfr b z0_ z1_)
                      have hT := TI.updM hT hst (k := 4) (by decide) hf164 ho165 ⟨r166, rfl⟩
                      refine lv_goto (tgt := 293) hx hb dX11_planLine_260 (by decide) ?_
                      exact hJ293 zz118 zg161_zr zg161_zl zg161_ze _ _ _ _ (show th 37 ≤ zz118 ∧ zz118 ≤ 500 from (by have ob13 : (0 : Int) ≤ (th 13) ∧ (th 13) ≤ 500 := (b0_13 hT :); have ob35 : (0 : Int) ≤ (th 35) ∧ (th 35) ≤ 63 := (b0_35 hT :); have ob36 : (0 : Int) ≤ (th 36) ∧ (th 36) ≤ 20 := (b0_36 hT :); have ob37 : (0 : Int) ≤ zz118 ∧ zz118 ≤ 500 := (b0_37 hT :); have ob40 : (0 : Int) ≤ zg161_zr ∧ zg161_zr ≤ 500 := (b0_40 hT :); have ob41 : (0 : Int) ≤ zg161_zl ∧ zg161_zl ≤ 500 := (b0_41 hT :); have ob42 : ((-1) : Int) ≤ zg161_ze ∧ zg161_ze ≤ 500 := (b0_42 hT :); have ob43 : ((-1) : Int) ≤ (th 43) ∧ (th 43) ≤ 1 := (b0_43 hT :); obtain ⟨o0a, o0b⟩ := (hb15 : In _ _ _); obtain ⟨o1a, o1b⟩ := (eL68R : In _ _ _); obtain ⟨o2a, o2b⟩ := (hv2_158 : In _ _ _); obtain ⟨o3a, o3b⟩ := (hv3_158 : In _ _ _); obtain ⟨o4a, o4b⟩ := (hv4_158 : In _ _ _); obtain ⟨o5a, o5b⟩ := (hv5_158 : In _ _ _); obtain ⟨o6a, o6b⟩ := (hv6_158 : In _ _ _); obtain ⟨o7a, o7b⟩ := (hv8_158 : In _ _ _); obtain ⟨o8a, o8b⟩ := (hv9_158 : In _ _ _); obtain ⟨o9a, o9b⟩ := (hv13_158 : In _ _ _); obtain ⟨o10a, o10b⟩ := (hb13 : In _ _ _); omega)) hP hD hS (TI.cast hT (by funext q; by_cases hq0 : q = 37; (subst hq0; rfl); by_cases hq1 : q = 42; (subst hq1; rfl); by_cases hq2 : q = 41; (subst hq2; rfl); by_cases hq3 : q = 40; (subst hq3; rfl); simp only [gset, if_neg hq0, if_neg hq1, if_neg hq2, if_neg hq3])) hfr (lv_sub hl [1, 0, 2] rfl)
                  ·
                    have oc0 : (0 : Int32).toInt = 0 := by decide
                    have cc168 : r101.toInt ≠ (0 : Int32).toInt := i32_ne c108
                    have hb169 : In r101 1 1 := In.ne1 eL105R (⟨by decide, by decide⟩ : In 0 0 0) cc168 (by decide) (by decide)
                    refine lv_aload_n hx hb dX11_planLine_230 rfl (lv_at hl 1 rfl) ?_
                    refine M0e hT (fun v0_170 v2_170 v3_170 v4_170 v5_170 v6_170 v8_170 v9_170 v12_170 v13_170 v14_170 v15_170 v16_170 v17_170 v18_170 v19_170 v20_170 v21_170 v22_170 v23_170 v25_170 v36_170 v37_170 v38_170 v39_170 v40_170 v45_170 v46_170 v47_170 v48_170 v50_170 v51_170 v53_170 v55_170 hf171 hv0_170 hv2_170 hg2_170 hv3_170 hg3_170 hv4_170 hg4_170 hv5_170 hg5_170 hv6_170 hg6_170 hv8_170 hg8_170 hv9_170 hg9_170 hv12_170 hv13_170 hg13_170 hv14_170 hg14_170 hv15_170 hg15_170 hv17_170 hg17_170 hv20_170 hg20_170 hv23_170 hg23_170 hv25_170 hg25_170 hv36_170 hg36_170 hv47_170 hg47_170 hv48_170 hg48_170 hv53_170 hg53_170 hv55_170 hg55_170 hrel0_170 => ?_)
                    have hg15_170 : v15_170.toInt = th 11 := hg15_170
                    have hg20_170 : v20_170.toInt = th 14 := hg20_170
                    refine pl_get (v := .ref (ad 259)) hx hb hts (fun w h => mT (inX11 w h)) hown hG.1 hP (hst.1 255 (by decide)) hf171 rfl 11 (by decide) (hts _ (mT wg_1347)) (fun _ h => h) rfl dX11_planLine_231 ?_
                    refine lv_iload_n hx hb dX11_planLine_234 rfl (lv_at hl 2 rfl) ?_
                    refine lv_iconst (v := 4) hx hb dX11_planLine_235 (by decide) ?_
                    refine lv_iadd hx hb dX11_planLine_236 ?_
                    refine lv_topi (fun x172 ex172 => ?_)
                    have hb173 : In x172 4 99 := ex172 ▸ In.add hb15 (⟨by decide, by decide⟩ : In 4 4 4) (by decide) (by decide) (by decide) (by decide)
                    have et174 : x172.toInt = x14.toInt + 4 := In.adde ex172 hb15 (k := 4) (by decide) (by decide) (by decide)
                    refine lv_iconst (v := 4) hx hb dX11_planLine_237 (by decide) ?_
                    refine pl_iastE hx hb hG.1 hP hD hS (hst.1 259 (by decide)) 0 hf107 rfl (In.inb hb173 (by decide) (by decide)) dX11_planLine_238 (fun H locs f175 r178 er178 hf176 ho177 hP hD hS => ?_)
                    have hf179 := (ho177 (ad 255) (hst.ne (by decide) (by decide) (by decide))).trans hf171
                    have hfr : (∀ b, b ≠ (ad 255) → b ≠ (ad 259) → f175 b = f b) := fun b z0_ z1_ => (ho177 b z1_).trans (hfr b z0_ z1_)
                    have hT := TI.updM hT hst (k := 4) (by decide) hf176 ho177 ⟨r178, rfl⟩
                    refine lv_goto (tgt := 293) hx hb dX11_planLine_239 (by decide) ?_
                    exact hJ293 zz106 zg161_zr zg161_zl zg161_ze _ _ _ _ (show th 37 ≤ zz106 ∧ zz106 ≤ 500 from (by have ob13 : (0 : Int) ≤ (th 13) ∧ (th 13) ≤ 500 := (b0_13 hT :); have ob35 : (0 : Int) ≤ (th 35) ∧ (th 35) ≤ 63 := (b0_35 hT :); have ob36 : (0 : Int) ≤ (th 36) ∧ (th 36) ≤ 20 := (b0_36 hT :); have ob37 : (0 : Int) ≤ zz106 ∧ zz106 ≤ 500 := (b0_37 hT :); have ob40 : (0 : Int) ≤ zg161_zr ∧ zg161_zr ≤ 500 := (b0_40 hT :); have ob41 : (0 : Int) ≤ zg161_zl ∧ zg161_zl ≤ 500 := (b0_41 hT :); have ob42 : ((-1) : Int) ≤ zg161_ze ∧ zg161_ze ≤ 500 := (b0_42 hT :); have ob43 : ((-1) : Int) ≤ (th 43) ∧ (th 43) ≤ 1 := (b0_43 hT :); obtain ⟨o0a, o0b⟩ := (hb15 : In _ _ _); obtain ⟨o1a, o1b⟩ := (eL68R : In _ _ _); obtain ⟨o2a, o2b⟩ := (hv2_170 : In _ _ _); obtain ⟨o3a, o3b⟩ := (hv3_170 : In _ _ _); obtain ⟨o4a, o4b⟩ := (hv4_170 : In _ _ _); obtain ⟨o5a, o5b⟩ := (hv5_170 : In _ _ _); obtain ⟨o6a, o6b⟩ := (hv6_170 : In _ _ _); obtain ⟨o7a, o7b⟩ := (hv8_170 : In _ _ _); obtain ⟨o8a, o8b⟩ := (hv9_170 : In _ _ _); obtain ⟨o9a, o9b⟩ := (hv13_170 : In _ _ _); obtain ⟨o10a, o10b⟩ := (hb13 : In _ _ _); omega)) hP hD hS (TI.cast hT (by funext q; by_cases hq0 : q = 37; (subst hq0; rfl); by_cases hq1 : q = 42; (subst hq1; rfl); by_cases hq2 : q = 41; (subst hq2; rfl); by_cases hq3 : q = 40; (subst hq3; rfl); simp only [gset, if_neg hq0, if_neg hq1, if_neg hq2, if_neg hq3])) hfr (lv_sub hl [1, 0, 2] rfl)
                ·
                  have oc0 : (0 : Int32).toInt = 0 := by decide
                  have cc180 : r89.toInt ≠ (0 : Int32).toInt := i32_ne c96
                  have hb181 : In r89 1 1 := In.ne1 eL93R (⟨by decide, by decide⟩ : In 0 0 0) cc180 (by decide) (by decide)
                  refine lv_aload_n hx hb dX11_planLine_209 rfl (lv_at hl 1 rfl) ?_
                  refine M0e hT (fun v0_182 v2_182 v3_182 v4_182 v5_182 v6_182 v8_182 v9_182 v12_182 v13_182 v14_182 v15_182 v16_182 v17_182 v18_182 v19_182 v20_182 v21_182 v22_182 v23_182 v25_182 v36_182 v37_182 v38_182 v39_182 v40_182 v45_182 v46_182 v47_182 v48_182 v50_182 v51_182 v53_182 v55_182 hf183 hv0_182 hv2_182 hg2_182 hv3_182 hg3_182 hv4_182 hg4_182 hv5_182 hg5_182 hv6_182 hg6_182 hv8_182 hg8_182 hv9_182 hg9_182 hv12_182 hv13_182 hg13_182 hv14_182 hg14_182 hv15_182 hg15_182 hv17_182 hg17_182 hv20_182 hg20_182 hv23_182 hg23_182 hv25_182 hg25_182 hv36_182 hg36_182 hv47_182 hg47_182 hv48_182 hg48_182 hv53_182 hg53_182 hv55_182 hg55_182 hrel0_182 => ?_)
                  have hg15_182 : v15_182.toInt = th 11 := hg15_182
                  have hg20_182 : v20_182.toInt = th 14 := hg20_182
                  refine pl_get (v := .ref (ad 259)) hx hb hts (fun w h => mT (inX11 w h)) hown hG.1 hP (hst.1 255 (by decide)) hf183 rfl 11 (by decide) (hts _ (mT wg_1347)) (fun _ h => h) rfl dX11_planLine_210 ?_
                  refine lv_iload_n hx hb dX11_planLine_213 rfl (lv_at hl 2 rfl) ?_
                  refine lv_iconst (v := 4) hx hb dX11_planLine_214 (by decide) ?_
                  refine lv_iadd hx hb dX11_planLine_215 ?_
                  refine lv_topi (fun x184 ex184 => ?_)
                  have hb185 : In x184 4 99 := ex184 ▸ In.add hb15 (⟨by decide, by decide⟩ : In 4 4 4) (by decide) (by decide) (by decide) (by decide)
                  have et186 : x184.toInt = x14.toInt + 4 := In.adde ex184 hb15 (k := 4) (by decide) (by decide) (by decide)
                  refine lv_iconst (v := 3) hx hb dX11_planLine_216 (by decide) ?_
                  refine pl_iastE hx hb hG.1 hP hD hS (hst.1 259 (by decide)) 0 hf95 rfl (In.inb hb185 (by decide) (by decide)) dX11_planLine_217 (fun H locs f187 r190 er190 hf188 ho189 hP hD hS => ?_)
                  have hf191 := (ho189 (ad 255) (hst.ne (by decide) (by decide) (by decide))).trans hf183
                  have hfr : (∀ b, b ≠ (ad 255) → b ≠ (ad 259) → f187 b = f b) := fun b z0_ z1_ => (ho189 b z1_).trans (hfr b z0_ z1_)
                  have hT := TI.updM hT hst (k := 4) (by decide) hf188 ho189 ⟨r190, rfl⟩
                  refine lv_goto (tgt := 293) hx hb dX11_planLine_218 (by decide) ?_
                  exact hJ293 zz94 zg161_zr zg161_zl zg161_ze _ _ _ _ (show th 37 ≤ zz94 ∧ zz94 ≤ 500 from (by have ob13 : (0 : Int) ≤ (th 13) ∧ (th 13) ≤ 500 := (b0_13 hT :); have ob35 : (0 : Int) ≤ (th 35) ∧ (th 35) ≤ 63 := (b0_35 hT :); have ob36 : (0 : Int) ≤ (th 36) ∧ (th 36) ≤ 20 := (b0_36 hT :); have ob37 : (0 : Int) ≤ zz94 ∧ zz94 ≤ 500 := (b0_37 hT :); have ob40 : (0 : Int) ≤ zg161_zr ∧ zg161_zr ≤ 500 := (b0_40 hT :); have ob41 : (0 : Int) ≤ zg161_zl ∧ zg161_zl ≤ 500 := (b0_41 hT :); have ob42 : ((-1) : Int) ≤ zg161_ze ∧ zg161_ze ≤ 500 := (b0_42 hT :); have ob43 : ((-1) : Int) ≤ (th 43) ∧ (th 43) ≤ 1 := (b0_43 hT :); obtain ⟨o0a, o0b⟩ := (hb15 : In _ _ _); obtain ⟨o1a, o1b⟩ := (eL68R : In _ _ _); obtain ⟨o2a, o2b⟩ := (hv2_182 : In _ _ _); obtain ⟨o3a, o3b⟩ := (hv3_182 : In _ _ _); obtain ⟨o4a, o4b⟩ := (hv4_182 : In _ _ _); obtain ⟨o5a, o5b⟩ := (hv5_182 : In _ _ _); obtain ⟨o6a, o6b⟩ := (hv6_182 : In _ _ _); obtain ⟨o7a, o7b⟩ := (hv8_182 : In _ _ _); obtain ⟨o8a, o8b⟩ := (hv9_182 : In _ _ _); obtain ⟨o9a, o9b⟩ := (hv13_182 : In _ _ _); obtain ⟨o10a, o10b⟩ := (hb13 : In _ _ _); omega)) hP hD hS (TI.cast hT (by funext q; by_cases hq0 : q = 37; (subst hq0; rfl); by_cases hq1 : q = 42; (subst hq1; rfl); by_cases hq2 : q = 41; (subst hq2; rfl); by_cases hq3 : q = 40; (subst hq3; rfl); simp only [gset, if_neg hq0, if_neg hq1, if_neg hq2, if_neg hq3])) hfr (lv_sub hl [1, 0, 2] rfl)
              ·
                have oc0 : (0 : Int32).toInt = 0 := by decide
                have cc192 : r71.toInt ≠ (0 : Int32).toInt := i32_ne c84
                have hb193 : In r71 1 1 := In.ne1 eL75R (⟨by decide, by decide⟩ : In 0 0 0) cc192 (by decide) (by decide)
                have hb194 : In r64 48 57 := In.both (eL75W0 c84) eL68R (by decide) (by decide)
                refine lv_aload_n hx hb dX11_planLine_183 rfl (lv_at hl 1 rfl) ?_
                refine M0e hT (fun v0_195 v2_195 v3_195 v4_195 v5_195 v6_195 v8_195 v9_195 v12_195 v13_195 v14_195 v15_195 v16_195 v17_195 v18_195 v19_195 v20_195 v21_195 v22_195 v23_195 v25_195 v36_195 v37_195 v38_195 v39_195 v40_195 v45_195 v46_195 v47_195 v48_195 v50_195 v51_195 v53_195 v55_195 hf196 hv0_195 hv2_195 hg2_195 hv3_195 hg3_195 hv4_195 hg4_195 hv5_195 hg5_195 hv6_195 hg6_195 hv8_195 hg8_195 hv9_195 hg9_195 hv12_195 hv13_195 hg13_195 hv14_195 hg14_195 hv15_195 hg15_195 hv17_195 hg17_195 hv20_195 hg20_195 hv23_195 hg23_195 hv25_195 hg25_195 hv36_195 hg36_195 hv47_195 hg47_195 hv48_195 hg48_195 hv53_195 hg53_195 hv55_195 hg55_195 hrel0_195 => ?_)
                have hg15_195 : v15_195.toInt = th 11 := hg15_195
                have hg20_195 : v20_195.toInt = th 14 := hg20_195
                refine pl_get (v := .ref (ad 259)) hx hb hts (fun w h => mT (inX11 w h)) hown hG.1 hP (hst.1 255 (by decide)) hf196 rfl 11 (by decide) (hts _ (mT wg_1347)) (fun _ h => h) rfl dX11_planLine_184 ?_
                refine lv_iload_n hx hb dX11_planLine_187 rfl (lv_at hl 2 rfl) ?_
                refine lv_iconst (v := 4) hx hb dX11_planLine_188 (by decide) ?_
                refine lv_iadd hx hb dX11_planLine_189 ?_
                refine lv_topi (fun x197 ex197 => ?_)
                have hb198 : In x197 4 99 := ex197 ▸ In.add hb15 (⟨by decide, by decide⟩ : In 4 4 4) (by decide) (by decide) (by decide) (by decide)
                have et199 : x197.toInt = x14.toInt + 4 := In.adde ex197 hb15 (k := 4) (by decide) (by decide) (by decide)
                refine lv_aload_n hx hb dX11_planLine_190 rfl (lv_at hl 1 rfl) ?_
                refine lv_iconst (v := 0) hx hb dX11_planLine_191 (by decide) ?_
                refine lv_iconst (v := 2) hx hb dX11_planLine_192 (by decide) ?_
                refine call_i (run_V (rm := rm_X11_digit_0_2) hx hb hml hown hts (s_X11_digit_0_2 l g ad (gset (gset (gset (gset th 40 zg161_zr) 41 zg161_zl) 42 zg161_ze) 37 zz69) _ _ _  hst hT ) cV_X11_digit wg_1566 ⟨Nat.le_of_ble_eq_true rfl, Nat.le_of_ble_eq_true rfl⟩ hG hE hA hP hD hS (hst.1 255 (by decide)) hf196 rfl rfl hl.1 (As := [.int 0, .int 2]) (rest := [.int x197, .ref (ad 259)]) rfl (Nat.le_of_ble_eq_true rfl) dX11_planLine_193 ⟨Nat.le_of_ble_eq_true rfl, Nat.le_of_ble_eq_true rfl⟩) hA hD hS (fun r200 L201 f202 H locs hp203 hP hD hS => ?_)
                obtain ⟨eL204L, eL204T, eL204F, eL204R⟩ := hp203
                have eL204L : L201 = L := eL204L
                rw [eL204L] at hP hD
                obtain ⟨zz205, zz206, zz207, zz208, hzz205, eL204T⟩ := eL204T
                have hzz205 : (zz69 ≤ zz206 ∧ 0 ≤ zz206 ∧ 0 ≤ zz207 ∧ zz206 + zz207 = zz205 ∧ zz205 ≤ 500) := hzz205
                have hT : TI g ad (gset (gset (gset (gset (gset (gset (gset (gset th 40 zg161_zr) 41 zg161_zl) 42 zg161_ze) 37 zz69) 37 zz205) 40 zz206) 41 zz207) 42 zz208) f202 := eL204T
                have hT : TI g ad (gset (gset (gset (gset th 37 zz205) 40 zz206) 41 zz207) 42 zz208) f202 := TI.cast hT (by funext q; by_cases hq0 : q = 42; (subst hq0; rfl); by_cases hq1 : q = 41; (subst hq1; rfl); by_cases hq2 : q = 40; (subst hq2; rfl); by_cases hq3 : q = 37; (subst hq3; rfl); simp only [gset, if_neg hq0, if_neg hq1, if_neg hq2, if_neg hq3])
                have eL204F : ∀ b, b ≠ (ad 255) → f202 b = f66 b := eL204F
                have hf209 := (eL204F (ad 259) (hst.ne (by decide) (by decide) (by decide))).trans hf70
                have hfr : (∀ b, b ≠ (ad 255) → b ≠ (ad 259) → f202 b = f b) := fun b z0_ z1_ => (eL204F b z0_).trans (hfr b z0_ z1_)
                have eL204R : In r200 0 2 := eL204R
                refine pl_iastE hx hb hG.1 hP hD hS (hst.1 259 (by decide)) 0 hf209 rfl (In.inb hb198 (by decide) (by decide)) dX11_planLine_196 (fun H locs f210 r213 er213 hf211 ho212 hP hD hS => ?_)
                have hfr : (∀ b, b ≠ (ad 255) → b ≠ (ad 259) → f210 b = f b) := fun b z0_ z1_ => (ho212 b z1_).trans (hfr b z0_ z1_)
                have hT := TI.updM hT hst (k := 4) (by decide) hf211 ho212 ⟨r213, rfl⟩
                refine lv_goto (tgt := 293) hx hb dX11_planLine_197 (by decide) ?_
                exact hJ293 zz205 zz206 zz207 zz208 _ _ _ _ (show th 37 ≤ zz205 ∧ zz205 ≤ 500 from (by have ob13 : (0 : Int) ≤ (th 13) ∧ (th 13) ≤ 500 := (b0_13 hT :); have ob35 : (0 : Int) ≤ (th 35) ∧ (th 35) ≤ 63 := (b0_35 hT :); have ob36 : (0 : Int) ≤ (th 36) ∧ (th 36) ≤ 20 := (b0_36 hT :); have ob37 : (0 : Int) ≤ zz205 ∧ zz205 ≤ 500 := (b0_37 hT :); have ob40 : (0 : Int) ≤ zz206 ∧ zz206 ≤ 500 := (b0_40 hT :); have ob41 : (0 : Int) ≤ zz207 ∧ zz207 ≤ 500 := (b0_41 hT :); have ob42 : ((-1) : Int) ≤ zz208 ∧ zz208 ≤ 500 := (b0_42 hT :); have ob43 : ((-1) : Int) ≤ (th 43) ∧ (th 43) ≤ 1 := (b0_43 hT :); obtain ⟨o0a, o0b⟩ := (hb15 : In _ _ _); obtain ⟨o1a, o1b⟩ := (hb194 : In _ _ _); obtain ⟨o2a, o2b⟩ := (hb13 : In _ _ _); omega)) hP hD hS (TI.cast hT (by funext q; by_cases hq0 : q = 42; (subst hq0; rfl); by_cases hq1 : q = 41; (subst hq1; rfl); by_cases hq2 : q = 40; (subst hq2; rfl); by_cases hq3 : q = 37; (subst hq3; rfl); simp only [gset, if_neg hq0, if_neg hq1, if_neg hq2, if_neg hq3])) hfr (lv_sub hl [1, 0, 2] rfl)
            ·
              have ocm1 : ((-1) : Int32).toInt = (-1) := by decide
              have cc214 : v4_59.toInt ≠ ((-1) : Int32).toInt := i32_ne c61
              have hb215 : In v4_59 0 500 := In.ne1 hv4_59 (⟨by decide, by decide⟩ : In (-1) (-1) (-1)) cc214 (by decide) (by decide)
              exact ret_v hx hb hr hlocks hP hD hS (Nat.le_of_ble_eq_true rfl) (Nat.le_of_ble_eq_true rfl) (⟨rfl, ⟨zg161_za, zg161_zr, zg161_zl, zg161_ze, (th 36), (show th 37 ≤ zg161_za ∧ zg161_za ≤ 500 from (by have ob13 : (0 : Int) ≤ (th 13) ∧ (th 13) ≤ 500 := (b0_13 hT :); have ob35 : (0 : Int) ≤ (th 35) ∧ (th 35) ≤ 63 := (b0_35 hT :); have ob36 : (0 : Int) ≤ (th 36) ∧ (th 36) ≤ 20 := (b0_36 hT :); have ob37 : (0 : Int) ≤ zg161_za ∧ zg161_za ≤ 500 := (b0_37 hT :); have ob40 : (0 : Int) ≤ zg161_zr ∧ zg161_zr ≤ 500 := (b0_40 hT :); have ob41 : (0 : Int) ≤ zg161_zl ∧ zg161_zl ≤ 500 := (b0_41 hT :); have ob42 : ((-1) : Int) ≤ zg161_ze ∧ zg161_ze ≤ 500 := (b0_42 hT :); have ob43 : ((-1) : Int) ≤ (th 43) ∧ (th 43) ≤ 1 := (b0_43 hT :); obtain ⟨o0a, o0b⟩ := (eL7R : In _ _ _); obtain ⟨o1a, o1b⟩ := (hb15 : In _ _ _); obtain ⟨o2a, o2b⟩ := (hv2_59 : In _ _ _); obtain ⟨o3a, o3b⟩ := (hv3_59 : In _ _ _); obtain ⟨o4a, o4b⟩ := (hb215 : In _ _ _); obtain ⟨o5a, o5b⟩ := (hv5_59 : In _ _ _); obtain ⟨o6a, o6b⟩ := (hv6_59 : In _ _ _); obtain ⟨o7a, o7b⟩ := (hv8_59 : In _ _ _); obtain ⟨o8a, o8b⟩ := (hv9_59 : In _ _ _); obtain ⟨o9a, o9b⟩ := (hv13_59 : In _ _ _); obtain ⟨o10a, o10b⟩ := (hb13 : In _ _ _); omega)), TI.cast hT (by funext q; by_cases hq0 : q = 42; (subst hq0; rfl); by_cases hq1 : q = 41; (subst hq1; rfl); by_cases hq2 : q = 40; (subst hq2; rfl); by_cases hq3 : q = 37; (subst hq3; rfl); by_cases hq4 : q = 36; (subst hq4; rfl); simp only [gset, if_neg hq0, if_neg hq1, if_neg hq2, if_neg hq3, if_neg hq4])⟩, hfr⟩) dX11_planLine_170
          have hJ160 : ∀ (zg160_za : Int) (zg160_zr : Int) (zg160_zl : Int) (zg160_ze : Int) (f_160 : HP) (H : Heap) (locs : List Loc) (ls : Array Slot), th 37 ≤ zg160_za ∧ zg160_za ≤ 500 → va_P g.1 vwCl (va_pl L f_160) H → va_D A (va_pl L f_160) → va_S A s.heap H locs → TI g ad (gset (gset (gset (gset th 37 zg160_za) 40 zg160_zr) 41 zg160_zl) 42 zg160_ze) f_160 → (∀ b, b ≠ (ad 255) → b ≠ (ad 259) → f_160 b = f b) → f_160 (ad 259) = .inl (g.2.1 0, 100, .inl (r48)) → lv_has ls 3 [(0, .ref (ad 255)), (1, .int r3), (2, .int x14)] → W p l e rm_X11_planLine s m [.ref (ad 255)].toArray below meth c H locs 0 0 (MQ below (va_Qv (po_X11_planLine g ad th L f ) (PstB g A) A) [.ref (ad 255)].toArray s rm_X11_planLine.cells rm_X11_planLine.slots A) (F0 m 160 ls [.int x51, .ref (ad 259)]) := by
            intro zg160_za zg160_zr zg160_zl zg160_ze f_160 H locs ls hzg160 hP hD hS hT hfr hf216 hl
            refine lv_iconst (v := (-1)) hx hb dX11_planLine_160 (by decide) ?_
            exact hJ161 zg160_za zg160_zr zg160_zl zg160_ze (-1) _ _ _ _ (show th 37 ≤ zg160_za ∧ zg160_za ≤ 500 from (by have ob13 : (0 : Int) ≤ (th 13) ∧ (th 13) ≤ 500 := (b0_13 hT :); have ob35 : (0 : Int) ≤ (th 35) ∧ (th 35) ≤ 63 := (b0_35 hT :); have ob36 : (0 : Int) ≤ (th 36) ∧ (th 36) ≤ 20 := (b0_36 hT :); have ob37 : (0 : Int) ≤ zg160_za ∧ zg160_za ≤ 500 := (b0_37 hT :); have ob40 : (0 : Int) ≤ zg160_zr ∧ zg160_zr ≤ 500 := (b0_40 hT :); have ob41 : (0 : Int) ≤ zg160_zl ∧ zg160_zl ≤ 500 := (b0_41 hT :); have ob42 : ((-1) : Int) ≤ zg160_ze ∧ zg160_ze ≤ 500 := (b0_42 hT :); have ob43 : ((-1) : Int) ≤ (th 43) ∧ (th 43) ≤ 1 := (b0_43 hT :); obtain ⟨o0a, o0b⟩ := (eL7R : In _ _ _); obtain ⟨o1a, o1b⟩ := (hb15 : In _ _ _); obtain ⟨o2a, o2b⟩ := (hb13 : In _ _ _); omega)) (⟨by decide, by decide⟩ : In (-1) (-1) 8) hP hD hS (TI.cast hT (by funext q; by_cases hq0 : q = 42; (subst hq0; rfl); by_cases hq1 : q = 41; (subst hq1; rfl); by_cases hq2 : q = 40; (subst hq2; rfl); by_cases hq3 : q = 37; (subst hq3; rfl); simp only [gset, if_neg hq0, if_neg hq1, if_neg hq2, if_neg hq3])) hfr hf216 (lv_sub hl [0, 1, 2] rfl)
          refine lv_icmp_ne (tgt := 160) hx hb dX11_planLine_138 (by decide) (fun c217 => ?_) (fun c217 => ?_)
          ·
            have ocm1 : ((-1) : Int32).toInt = (-1) := by decide
            have cc218 : v4_49.toInt ≠ ((-1) : Int32).toInt := i32_ne c217
            have hb219 : In v4_49 0 500 := In.ne1 hv4_49 (⟨by decide, by decide⟩ : In (-1) (-1) (-1)) cc218 (by decide) (by decide)
            exact hJ160 zg125_za zg125_zr zg125_zl zg125_ze _ _ _ _ (show th 37 ≤ zg125_za ∧ zg125_za ≤ 500 from (by have ob13 : (0 : Int) ≤ (th 13) ∧ (th 13) ≤ 500 := (b0_13 hT :); have ob35 : (0 : Int) ≤ (th 35) ∧ (th 35) ≤ 63 := (b0_35 hT :); have ob36 : (0 : Int) ≤ (th 36) ∧ (th 36) ≤ 20 := (b0_36 hT :); have ob37 : (0 : Int) ≤ zg125_za ∧ zg125_za ≤ 500 := (b0_37 hT :); have ob40 : (0 : Int) ≤ zg125_zr ∧ zg125_zr ≤ 500 := (b0_40 hT :); have ob41 : (0 : Int) ≤ zg125_zl ∧ zg125_zl ≤ 500 := (b0_41 hT :); have ob42 : ((-1) : Int) ≤ zg125_ze ∧ zg125_ze ≤ 500 := (b0_42 hT :); have ob43 : ((-1) : Int) ≤ (th 43) ∧ (th 43) ≤ 1 := (b0_43 hT :); obtain ⟨o0a, o0b⟩ := (eL7R : In _ _ _); obtain ⟨o1a, o1b⟩ := (hb15 : In _ _ _); obtain ⟨o2a, o2b⟩ := (hv2_49 : In _ _ _); obtain ⟨o3a, o3b⟩ := (hv3_49 : In _ _ _); obtain ⟨o4a, o4b⟩ := (hb219 : In _ _ _); obtain ⟨o5a, o5b⟩ := (hv5_49 : In _ _ _); obtain ⟨o6a, o6b⟩ := (hv6_49 : In _ _ _); obtain ⟨o7a, o7b⟩ := (hv8_49 : In _ _ _); obtain ⟨o8a, o8b⟩ := (hv9_49 : In _ _ _); obtain ⟨o9a, o9b⟩ := (hv13_49 : In _ _ _); obtain ⟨o10a, o10b⟩ := (hb13 : In _ _ _); omega)) hP hD hS (TI.cast hT (by funext q; by_cases hq0 : q = 42; (subst hq0; rfl); by_cases hq1 : q = 41; (subst hq1; rfl); by_cases hq2 : q = 40; (subst hq2; rfl); by_cases hq3 : q = 37; (subst hq3; rfl); simp only [gset, if_neg hq0, if_neg hq1, if_neg hq2, if_neg hq3])) hfr hf46 (lv_sub hl [0, 1, 2] rfl)
          ·
            have ocm1 : ((-1) : Int32).toInt = (-1) := by decide
            have cc220 : v4_49.toInt = ((-1) : Int32).toInt := congrArg Int32.toInt c217
            have hb221 : In v4_49 (-1) (-1) := In.eq1 hv4_49 (⟨by decide, by decide⟩ : In (-1) (-1) (-1)) cc220 (by decide) (by decide)
            refine lv_aload_n hx hb dX11_planLine_141 rfl (lv_at hl 0 rfl) ?_
            refine va_ldcS hx hb hown (hG.2.2.1 ("RulerWordModel", 193, "to", 11) (by decide +kernel)) dX11_planLine_142 ?_
            refine call_i (run_V (rm := rm_X11_takes) hx hb hml hown hts (s_X11_takes l g ad (gset (gset (gset (gset th 37 zg125_za) 40 zg125_zr) 41 zg125_zl) 42 zg125_ze) _ _ _ 11 hst hT (by decide)) cV_X11_takes wg_1538 ⟨Nat.le_of_ble_eq_true rfl, Nat.le_of_ble_eq_true rfl⟩ hG hE hA hP hD hS (hst.1 255 (by decide)) hf50 rfl rfl hl.1 (As := [.ref (g.2.2.1 11)]) (rest := [.int x51, .ref (ad 259)]) rfl (Nat.le_of_ble_eq_true rfl) dX11_planLine_144 ⟨Nat.le_of_ble_eq_true rfl, Nat.le_of_ble_eq_true rfl⟩) hA hD hS (fun r222 L223 f224 H locs hp225 hP hD hS => ?_)
            obtain ⟨eL226L, eL226T, eL226F, eL226R⟩ := hp225
            have eL226L : L223 = L := eL226L
            rw [eL226L] at hP hD
            obtain ⟨zz227, hzz227, eL226T⟩ := eL226T
            have hzz227 : zg125_za ≤ zz227 ∧ zz227 ≤ 500 := hzz227
            have hT : TI g ad (gset (gset (gset (gset (gset th 37 zg125_za) 40 zg125_zr) 41 zg125_zl) 42 zg125_ze) 37 zz227) f224 := eL226T
            have hT : TI g ad (gset (gset (gset (gset th 40 zg125_zr) 41 zg125_zl) 42 zg125_ze) 37 zz227) f224 := TI.cast hT (by funext q; by_cases hq0 : q = 37; (subst hq0; rfl); by_cases hq1 : q = 42; (subst hq1; rfl); by_cases hq2 : q = 41; (subst hq2; rfl); by_cases hq3 : q = 40; (subst hq3; rfl); simp only [gset, if_neg hq0, if_neg hq1, if_neg hq2, if_neg hq3])
            have eL226F : ∀ b, b ≠ (ad 255) → f224 b = f45 b := eL226F
            have hf228 := (eL226F (ad 259) (hst.ne (by decide) (by decide) (by decide))).trans hf46
            have hfr : (∀ b, b ≠ (ad 255) → b ≠ (ad 259) → f224 b = f b) := fun b z0_ z1_ => (eL226F b z0_).trans (hfr b z0_ z1_)
            have eL226R : In r222 0 1 := eL226R
            refine lv_if_eq (tgt := 160) hx hb dX11_planLine_147 (by decide) (fun c229 => ?_) (fun c229 => ?_)
            ·
              have oc0 : (0 : Int32).toInt = 0 := by decide
              have cc230 : r222.toInt = (0 : Int32).toInt := congrArg Int32.toInt c229
              have hb231 : In r222 0 0 := In.eq1 eL226R (⟨by decide, by decide⟩ : In 0 0 0) cc230 (by decide) (by decide)
              exact hJ160 zz227 zg125_zr zg125_zl zg125_ze _ _ _ _ (show th 37 ≤ zz227 ∧ zz227 ≤ 500 from (by have ob13 : (0 : Int) ≤ (th 13) ∧ (th 13) ≤ 500 := (b0_13 hT :); have ob35 : (0 : Int) ≤ (th 35) ∧ (th 35) ≤ 63 := (b0_35 hT :); have ob36 : (0 : Int) ≤ (th 36) ∧ (th 36) ≤ 20 := (b0_36 hT :); have ob37 : (0 : Int) ≤ zz227 ∧ zz227 ≤ 500 := (b0_37 hT :); have ob40 : (0 : Int) ≤ zg125_zr ∧ zg125_zr ≤ 500 := (b0_40 hT :); have ob41 : (0 : Int) ≤ zg125_zl ∧ zg125_zl ≤ 500 := (b0_41 hT :); have ob42 : ((-1) : Int) ≤ zg125_ze ∧ zg125_ze ≤ 500 := (b0_42 hT :); have ob43 : ((-1) : Int) ≤ (th 43) ∧ (th 43) ≤ 1 := (b0_43 hT :); obtain ⟨o0a, o0b⟩ := (eL7R : In _ _ _); obtain ⟨o1a, o1b⟩ := (hb15 : In _ _ _); obtain ⟨o2a, o2b⟩ := (hb13 : In _ _ _); omega)) hP hD hS (TI.cast hT (by funext q; by_cases hq0 : q = 37; (subst hq0; rfl); by_cases hq1 : q = 42; (subst hq1; rfl); by_cases hq2 : q = 41; (subst hq2; rfl); by_cases hq3 : q = 40; (subst hq3; rfl); simp only [gset, if_neg hq0, if_neg hq1, if_neg hq2, if_neg hq3])) hfr hf228 (lv_sub hl [0, 1, 2] rfl)
            ·
              have oc0 : (0 : Int32).toInt = 0 := by decide
              have cc232 : r222.toInt ≠ (0 : Int32).toInt := i32_ne c229
              have hb233 : In r222 1 1 := In.ne1 eL226R (⟨by decide, by decide⟩ : In 0 0 0) cc232 (by decide) (by decide)
              refine lv_aload_n hx hb dX11_planLine_150 rfl (lv_at hl 0 rfl) ?_
              refine lv_iconst (v := 0) hx hb dX11_planLine_151 (by decide) ?_
              refine lv_bipush (v := 8) hx hb dX11_planLine_152 (by decide) ?_
              refine M0e hT (fun v0_234 v2_234 v3_234 v4_234 v5_234 v6_234 v8_234 v9_234 v12_234 v13_234 v14_234 v15_234 v16_234 v17_234 v18_234 v19_234 v20_234 v21_234 v22_234 v23_234 v25_234 v36_234 v37_234 v38_234 v39_234 v40_234 v45_234 v46_234 v47_234 v48_234 v50_234 v51_234 v53_234 v55_234 hf235 hv0_234 hv2_234 hg2_234 hv3_234 hg3_234 hv4_234 hg4_234 hv5_234 hg5_234 hv6_234 hg6_234 hv8_234 hg8_234 hv9_234 hg9_234 hv12_234 hv13_234 hg13_234 hv14_234 hg14_234 hv15_234 hg15_234 hv17_234 hg17_234 hv20_234 hg20_234 hv23_234 hg23_234 hv25_234 hg25_234 hv36_234 hg36_234 hv47_234 hg47_234 hv48_234 hg48_234 hv53_234 hg53_234 hv55_234 hg55_234 hrel0_234 => ?_)
              have hg15_234 : v15_234.toInt = th 11 := hg15_234
              have hg20_234 : v20_234.toInt = th 14 := hg20_234
              refine call_i (run_V (rm := rm_X11_digit_0_8) hx hb hml hown hts (s_X11_digit_0_8 l g ad (gset (gset (gset (gset th 40 zg125_zr) 41 zg125_zl) 42 zg125_ze) 37 zz227) _ _ _  hst hT ) cV_X11_digit wg_1566 ⟨Nat.le_of_ble_eq_true rfl, Nat.le_of_ble_eq_true rfl⟩ hG hE hA hP hD hS (hst.1 255 (by decide)) hf235 rfl rfl hl.1 (As := [.int 0, .int 8]) (rest := [.int x51, .ref (ad 259)]) rfl (Nat.le_of_ble_eq_true rfl) dX11_planLine_154 ⟨Nat.le_of_ble_eq_true rfl, Nat.le_of_ble_eq_true rfl⟩) hA hD hS (fun r236 L237 f238 H locs hp239 hP hD hS => ?_)
              obtain ⟨eL240L, eL240T, eL240F, eL240R⟩ := hp239
              have eL240L : L237 = L := eL240L
              rw [eL240L] at hP hD
              obtain ⟨zz241, zz242, zz243, zz244, hzz241, eL240T⟩ := eL240T
              have hzz241 : (zz227 ≤ zz242 ∧ 0 ≤ zz242 ∧ 0 ≤ zz243 ∧ zz242 + zz243 = zz241 ∧ zz241 ≤ 500) := hzz241
              have hT : TI g ad (gset (gset (gset (gset (gset (gset (gset (gset th 40 zg125_zr) 41 zg125_zl) 42 zg125_ze) 37 zz227) 37 zz241) 40 zz242) 41 zz243) 42 zz244) f238 := eL240T
              have hT : TI g ad (gset (gset (gset (gset th 37 zz241) 40 zz242) 41 zz243) 42 zz244) f238 := TI.cast hT (by funext q; by_cases hq0 : q = 42; (subst hq0; rfl); by_cases hq1 : q = 41; (subst hq1; rfl); by_cases hq2 : q = 40; (subst hq2; rfl); by_cases hq3 : q = 37; (subst hq3; rfl); simp only [gset, if_neg hq0, if_neg hq1, if_neg hq2, if_neg hq3])
              have eL240F : ∀ b, b ≠ (ad 255) → f238 b = f224 b := eL240F
              have hf245 := (eL240F (ad 259) (hst.ne (by decide) (by decide) (by decide))).trans hf228
              have hfr : (∀ b, b ≠ (ad 255) → b ≠ (ad 259) → f238 b = f b) := fun b z0_ z1_ => (eL240F b z0_).trans (hfr b z0_ z1_)
              have eL240R : In r236 0 8 := eL240R
              refine lv_goto (tgt := 161) hx hb dX11_planLine_157 (by decide) ?_
              exact hJ161 zz241 zz242 zz243 zz244 r236 _ _ _ _ (show th 37 ≤ zz241 ∧ zz241 ≤ 500 from (by have ob13 : (0 : Int) ≤ (th 13) ∧ (th 13) ≤ 500 := (b0_13 hT :); have ob35 : (0 : Int) ≤ (th 35) ∧ (th 35) ≤ 63 := (b0_35 hT :); have ob36 : (0 : Int) ≤ (th 36) ∧ (th 36) ≤ 20 := (b0_36 hT :); have ob37 : (0 : Int) ≤ zz241 ∧ zz241 ≤ 500 := (b0_37 hT :); have ob40 : (0 : Int) ≤ zz242 ∧ zz242 ≤ 500 := (b0_40 hT :); have ob41 : (0 : Int) ≤ zz243 ∧ zz243 ≤ 500 := (b0_41 hT :); have ob42 : ((-1) : Int) ≤ zz244 ∧ zz244 ≤ 500 := (b0_42 hT :); have ob43 : ((-1) : Int) ≤ (th 43) ∧ (th 43) ≤ 1 := (b0_43 hT :); obtain ⟨o0a, o0b⟩ := (eL7R : In _ _ _); obtain ⟨o1a, o1b⟩ := (hb15 : In _ _ _); obtain ⟨o2a, o2b⟩ := (hb13 : In _ _ _); omega)) (In.mono eL240R (by decide) (by decide)) hP hD hS (TI.cast hT (by funext q; by_cases hq0 : q = 42; (subst hq0; rfl); by_cases hq1 : q = 41; (subst hq1; rfl); by_cases hq2 : q = 40; (subst hq2; rfl); by_cases hq3 : q = 37; (subst hq3; rfl); simp only [gset, if_neg hq0, if_neg hq1, if_neg hq2, if_neg hq3])) hfr hf245 (lv_sub hl [0, 1, 2] rfl)
        have hJ124 : ∀ (zg124_za : Int) (zg124_zr : Int) (zg124_zl : Int) (zg124_ze : Int) (f_124 : HP) (H : Heap) (locs : List Loc) (ls : Array Slot), th 37 ≤ zg124_za ∧ zg124_za ≤ 500 → va_P g.1 vwCl (va_pl L f_124) H → va_D A (va_pl L f_124) → va_S A s.heap H locs → TI g ad (gset (gset (gset (gset th 37 zg124_za) 40 zg124_zr) 41 zg124_zl) 42 zg124_ze) f_124 → (∀ b, b ≠ (ad 255) → b ≠ (ad 259) → f_124 b = f b) → f_124 (ad 259) = .inl (g.2.1 0, 100, .inl (r38)) → lv_has ls 3 [(0, .ref (ad 255)), (1, .int r3), (2, .int x14)] → W p l e rm_X11_planLine s m [.ref (ad 255)].toArray below meth c H locs 0 0 (MQ below (va_Qv (po_X11_planLine g ad th L f ) (PstB g A) A) [.ref (ad 255)].toArray s rm_X11_planLine.cells rm_X11_planLine.slots A) (F0 m 124 ls [.int x41, .ref (ad 259)]) := by
          intro zg124_za zg124_zr zg124_zl zg124_ze f_124 H locs ls hzg124 hP hD hS hT hfr hf246 hl
          refine lv_iconst (v := (-1)) hx hb dX11_planLine_124 (by decide) ?_
          exact hJ125 zg124_za zg124_zr zg124_zl zg124_ze (-1) _ _ _ _ (show th 37 ≤ zg124_za ∧ zg124_za ≤ 500 from (by have ob13 : (0 : Int) ≤ (th 13) ∧ (th 13) ≤ 500 := (b0_13 hT :); have ob35 : (0 : Int) ≤ (th 35) ∧ (th 35) ≤ 63 := (b0_35 hT :); have ob36 : (0 : Int) ≤ (th 36) ∧ (th 36) ≤ 20 := (b0_36 hT :); have ob37 : (0 : Int) ≤ zg124_za ∧ zg124_za ≤ 500 := (b0_37 hT :); have ob40 : (0 : Int) ≤ zg124_zr ∧ zg124_zr ≤ 500 := (b0_40 hT :); have ob41 : (0 : Int) ≤ zg124_zl ∧ zg124_zl ≤ 500 := (b0_41 hT :); have ob42 : ((-1) : Int) ≤ zg124_ze ∧ zg124_ze ≤ 500 := (b0_42 hT :); have ob43 : ((-1) : Int) ≤ (th 43) ∧ (th 43) ≤ 1 := (b0_43 hT :); obtain ⟨o0a, o0b⟩ := (eL7R : In _ _ _); obtain ⟨o1a, o1b⟩ := (hb15 : In _ _ _); obtain ⟨o2a, o2b⟩ := (hb13 : In _ _ _); omega)) (⟨by decide, by decide⟩ : In (-1) (-1) 8) hP hD hS (TI.cast hT (by funext q; by_cases hq0 : q = 42; (subst hq0; rfl); by_cases hq1 : q = 41; (subst hq1; rfl); by_cases hq2 : q = 40; (subst hq2; rfl); by_cases hq3 : q = 37; (subst hq3; rfl); simp only [gset, if_neg hq0, if_neg hq1, if_neg hq2, if_neg hq3])) hfr hf246 (lv_sub hl [0, 1, 2] rfl)
        refine lv_icmp_ne (tgt := 124) hx hb dX11_planLine_102 (by decide) (fun c247 => ?_) (fun c247 => ?_)
        ·
          have ocm1 : ((-1) : Int32).toInt = (-1) := by decide
          have cc248 : v4_39.toInt ≠ ((-1) : Int32).toInt := i32_ne c247
          have hb249 : In v4_39 0 500 := In.ne1 hv4_39 (⟨by decide, by decide⟩ : In (-1) (-1) (-1)) cc248 (by decide) (by decide)
          exact hJ124 zg89_za zg89_zr zg89_zl zg89_ze _ _ _ _ (show th 37 ≤ zg89_za ∧ zg89_za ≤ 500 from (by have ob13 : (0 : Int) ≤ (th 13) ∧ (th 13) ≤ 500 := (b0_13 hT :); have ob35 : (0 : Int) ≤ (th 35) ∧ (th 35) ≤ 63 := (b0_35 hT :); have ob36 : (0 : Int) ≤ (th 36) ∧ (th 36) ≤ 20 := (b0_36 hT :); have ob37 : (0 : Int) ≤ zg89_za ∧ zg89_za ≤ 500 := (b0_37 hT :); have ob40 : (0 : Int) ≤ zg89_zr ∧ zg89_zr ≤ 500 := (b0_40 hT :); have ob41 : (0 : Int) ≤ zg89_zl ∧ zg89_zl ≤ 500 := (b0_41 hT :); have ob42 : ((-1) : Int) ≤ zg89_ze ∧ zg89_ze ≤ 500 := (b0_42 hT :); have ob43 : ((-1) : Int) ≤ (th 43) ∧ (th 43) ≤ 1 := (b0_43 hT :); obtain ⟨o0a, o0b⟩ := (eL7R : In _ _ _); obtain ⟨o1a, o1b⟩ := (hb15 : In _ _ _); obtain ⟨o2a, o2b⟩ := (hv2_39 : In _ _ _); obtain ⟨o3a, o3b⟩ := (hv3_39 : In _ _ _); obtain ⟨o4a, o4b⟩ := (hb249 : In _ _ _); obtain ⟨o5a, o5b⟩ := (hv5_39 : In _ _ _); obtain ⟨o6a, o6b⟩ := (hv6_39 : In _ _ _); obtain ⟨o7a, o7b⟩ := (hv8_39 : In _ _ _); obtain ⟨o8a, o8b⟩ := (hv9_39 : In _ _ _); obtain ⟨o9a, o9b⟩ := (hv13_39 : In _ _ _); obtain ⟨o10a, o10b⟩ := (hb13 : In _ _ _); omega)) hP hD hS (TI.cast hT (by funext q; by_cases hq0 : q = 42; (subst hq0; rfl); by_cases hq1 : q = 41; (subst hq1; rfl); by_cases hq2 : q = 40; (subst hq2; rfl); by_cases hq3 : q = 37; (subst hq3; rfl); simp only [gset, if_neg hq0, if_neg hq1, if_neg hq2, if_neg hq3])) hfr hf36 (lv_sub hl [0, 1, 2] rfl)
        ·
          have ocm1 : ((-1) : Int32).toInt = (-1) := by decide
          have cc250 : v4_39.toInt = ((-1) : Int32).toInt := congrArg Int32.toInt c247
          have hb251 : In v4_39 (-1) (-1) := In.eq1 hv4_39 (⟨by decide, by decide⟩ : In (-1) (-1) (-1)) cc250 (by decide) (by decide)
          refine lv_aload_n hx hb dX11_planLine_105 rfl (lv_at hl 0 rfl) ?_
          refine va_ldcS hx hb hown (hG.2.2.1 ("RulerWordModel", 191, "from", 10) (by decide +kernel)) dX11_planLine_106 ?_
          refine call_i (run_V (rm := rm_X11_takes) hx hb hml hown hts (s_X11_takes l g ad (gset (gset (gset (gset th 37 zg89_za) 40 zg89_zr) 41 zg89_zl) 42 zg89_ze) _ _ _ 10 hst hT (by decide)) cV_X11_takes wg_1538 ⟨Nat.le_of_ble_eq_true rfl, Nat.le_of_ble_eq_true rfl⟩ hG hE hA hP hD hS (hst.1 255 (by decide)) hf40 rfl rfl hl.1 (As := [.ref (g.2.2.1 10)]) (rest := [.int x41, .ref (ad 259)]) rfl (Nat.le_of_ble_eq_true rfl) dX11_planLine_108 ⟨Nat.le_of_ble_eq_true rfl, Nat.le_of_ble_eq_true rfl⟩) hA hD hS (fun r252 L253 f254 H locs hp255 hP hD hS => ?_)
          obtain ⟨eL256L, eL256T, eL256F, eL256R⟩ := hp255
          have eL256L : L253 = L := eL256L
          rw [eL256L] at hP hD
          obtain ⟨zz257, hzz257, eL256T⟩ := eL256T
          have hzz257 : zg89_za ≤ zz257 ∧ zz257 ≤ 500 := hzz257
          have hT : TI g ad (gset (gset (gset (gset (gset th 37 zg89_za) 40 zg89_zr) 41 zg89_zl) 42 zg89_ze) 37 zz257) f254 := eL256T
          have hT : TI g ad (gset (gset (gset (gset th 40 zg89_zr) 41 zg89_zl) 42 zg89_ze) 37 zz257) f254 := TI.cast hT (by funext q; by_cases hq0 : q = 37; (subst hq0; rfl); by_cases hq1 : q = 42; (subst hq1; rfl); by_cases hq2 : q = 41; (subst hq2; rfl); by_cases hq3 : q = 40; (subst hq3; rfl); simp only [gset, if_neg hq0, if_neg hq1, if_neg hq2, if_neg hq3])
          have eL256F : ∀ b, b ≠ (ad 255) → f254 b = f35 b := eL256F
          have hf258 := (eL256F (ad 259) (hst.ne (by decide) (by decide) (by decide))).trans hf36
          have hfr : (∀ b, b ≠ (ad 255) → b ≠ (ad 259) → f254 b = f b) := fun b z0_ z1_ => (eL256F b z0_).trans (hfr b z0_ z1_)
          have eL256R : In r252 0 1 := eL256R
          refine lv_if_eq (tgt := 124) hx hb dX11_planLine_111 (by decide) (fun c259 => ?_) (fun c259 => ?_)
          ·
            have oc0 : (0 : Int32).toInt = 0 := by decide
            have cc260 : r252.toInt = (0 : Int32).toInt := congrArg Int32.toInt c259
            have hb261 : In r252 0 0 := In.eq1 eL256R (⟨by decide, by decide⟩ : In 0 0 0) cc260 (by decide) (by decide)
            exact hJ124 zz257 zg89_zr zg89_zl zg89_ze _ _ _ _ (show th 37 ≤ zz257 ∧ zz257 ≤ 500 from (by have ob13 : (0 : Int) ≤ (th 13) ∧ (th 13) ≤ 500 := (b0_13 hT :); have ob35 : (0 : Int) ≤ (th 35) ∧ (th 35) ≤ 63 := (b0_35 hT :); have ob36 : (0 : Int) ≤ (th 36) ∧ (th 36) ≤ 20 := (b0_36 hT :); have ob37 : (0 : Int) ≤ zz257 ∧ zz257 ≤ 500 := (b0_37 hT :); have ob40 : (0 : Int) ≤ zg89_zr ∧ zg89_zr ≤ 500 := (b0_40 hT :); have ob41 : (0 : Int) ≤ zg89_zl ∧ zg89_zl ≤ 500 := (b0_41 hT :); have ob42 : ((-1) : Int) ≤ zg89_ze ∧ zg89_ze ≤ 500 := (b0_42 hT :); have ob43 : ((-1) : Int) ≤ (th 43) ∧ (th 43) ≤ 1 := (b0_43 hT :); obtain ⟨o0a, o0b⟩ := (eL7R : In _ _ _); obtain ⟨o1a, o1b⟩ := (hb15 : In _ _ _); obtain ⟨o2a, o2b⟩ := (hb13 : In _ _ _); omega)) hP hD hS (TI.cast hT (by funext q; by_cases hq0 : q = 37; (subst hq0; rfl); by_cases hq1 : q = 42; (subst hq1; rfl); by_cases hq2 : q = 41; (subst hq2; rfl); by_cases hq3 : q = 40; (subst hq3; rfl); simp only [gset, if_neg hq0, if_neg hq1, if_neg hq2, if_neg hq3])) hfr hf258 (lv_sub hl [0, 1, 2] rfl)
          ·
            have oc0 : (0 : Int32).toInt = 0 := by decide
            have cc262 : r252.toInt ≠ (0 : Int32).toInt := i32_ne c259
            have hb263 : In r252 1 1 := In.ne1 eL256R (⟨by decide, by decide⟩ : In 0 0 0) cc262 (by decide) (by decide)
            refine lv_aload_n hx hb dX11_planLine_114 rfl (lv_at hl 0 rfl) ?_
            refine lv_iconst (v := 0) hx hb dX11_planLine_115 (by decide) ?_
            refine lv_bipush (v := 8) hx hb dX11_planLine_116 (by decide) ?_
            refine M0e hT (fun v0_264 v2_264 v3_264 v4_264 v5_264 v6_264 v8_264 v9_264 v12_264 v13_264 v14_264 v15_264 v16_264 v17_264 v18_264 v19_264 v20_264 v21_264 v22_264 v23_264 v25_264 v36_264 v37_264 v38_264 v39_264 v40_264 v45_264 v46_264 v47_264 v48_264 v50_264 v51_264 v53_264 v55_264 hf265 hv0_264 hv2_264 hg2_264 hv3_264 hg3_264 hv4_264 hg4_264 hv5_264 hg5_264 hv6_264 hg6_264 hv8_264 hg8_264 hv9_264 hg9_264 hv12_264 hv13_264 hg13_264 hv14_264 hg14_264 hv15_264 hg15_264 hv17_264 hg17_264 hv20_264 hg20_264 hv23_264 hg23_264 hv25_264 hg25_264 hv36_264 hg36_264 hv47_264 hg47_264 hv48_264 hg48_264 hv53_264 hg53_264 hv55_264 hg55_264 hrel0_264 => ?_)
            have hg15_264 : v15_264.toInt = th 11 := hg15_264
            have hg20_264 : v20_264.toInt = th 14 := hg20_264
            refine call_i (run_V (rm := rm_X11_digit_0_8) hx hb hml hown hts (s_X11_digit_0_8 l g ad (gset (gset (gset (gset th 40 zg89_zr) 41 zg89_zl) 42 zg89_ze) 37 zz257) _ _ _  hst hT ) cV_X11_digit wg_1566 ⟨Nat.le_of_ble_eq_true rfl, Nat.le_of_ble_eq_true rfl⟩ hG hE hA hP hD hS (hst.1 255 (by decide)) hf265 rfl rfl hl.1 (As := [.int 0, .int 8]) (rest := [.int x41, .ref (ad 259)]) rfl (Nat.le_of_ble_eq_true rfl) dX11_planLine_118 ⟨Nat.le_of_ble_eq_true rfl, Nat.le_of_ble_eq_true rfl⟩) hA hD hS (fun r266 L267 f268 H locs hp269 hP hD hS => ?_)
            obtain ⟨eL270L, eL270T, eL270F, eL270R⟩ := hp269
            have eL270L : L267 = L := eL270L
            rw [eL270L] at hP hD
            obtain ⟨zz271, zz272, zz273, zz274, hzz271, eL270T⟩ := eL270T
            have hzz271 : (zz257 ≤ zz272 ∧ 0 ≤ zz272 ∧ 0 ≤ zz273 ∧ zz272 + zz273 = zz271 ∧ zz271 ≤ 500) := hzz271
            have hT : TI g ad (gset (gset (gset (gset (gset (gset (gset (gset th 40 zg89_zr) 41 zg89_zl) 42 zg89_ze) 37 zz257) 37 zz271) 40 zz272) 41 zz273) 42 zz274) f268 := eL270T
            have hT : TI g ad (gset (gset (gset (gset th 37 zz271) 40 zz272) 41 zz273) 42 zz274) f268 := TI.cast hT (by funext q; by_cases hq0 : q = 42; (subst hq0; rfl); by_cases hq1 : q = 41; (subst hq1; rfl); by_cases hq2 : q = 40; (subst hq2; rfl); by_cases hq3 : q = 37; (subst hq3; rfl); simp only [gset, if_neg hq0, if_neg hq1, if_neg hq2, if_neg hq3])
            have eL270F : ∀ b, b ≠ (ad 255) → f268 b = f254 b := eL270F
            have hf275 := (eL270F (ad 259) (hst.ne (by decide) (by decide) (by decide))).trans hf258
            have hfr : (∀ b, b ≠ (ad 255) → b ≠ (ad 259) → f268 b = f b) := fun b z0_ z1_ => (eL270F b z0_).trans (hfr b z0_ z1_)
            have eL270R : In r266 0 8 := eL270R
            refine lv_goto (tgt := 125) hx hb dX11_planLine_121 (by decide) ?_
            exact hJ125 zz271 zz272 zz273 zz274 r266 _ _ _ _ (show th 37 ≤ zz271 ∧ zz271 ≤ 500 from (by have ob13 : (0 : Int) ≤ (th 13) ∧ (th 13) ≤ 500 := (b0_13 hT :); have ob35 : (0 : Int) ≤ (th 35) ∧ (th 35) ≤ 63 := (b0_35 hT :); have ob36 : (0 : Int) ≤ (th 36) ∧ (th 36) ≤ 20 := (b0_36 hT :); have ob37 : (0 : Int) ≤ zz271 ∧ zz271 ≤ 500 := (b0_37 hT :); have ob40 : (0 : Int) ≤ zz272 ∧ zz272 ≤ 500 := (b0_40 hT :); have ob41 : (0 : Int) ≤ zz273 ∧ zz273 ≤ 500 := (b0_41 hT :); have ob42 : ((-1) : Int) ≤ zz274 ∧ zz274 ≤ 500 := (b0_42 hT :); have ob43 : ((-1) : Int) ≤ (th 43) ∧ (th 43) ≤ 1 := (b0_43 hT :); obtain ⟨o0a, o0b⟩ := (eL7R : In _ _ _); obtain ⟨o1a, o1b⟩ := (hb15 : In _ _ _); obtain ⟨o2a, o2b⟩ := (hb13 : In _ _ _); omega)) (In.mono eL270R (by decide) (by decide)) hP hD hS (TI.cast hT (by funext q; by_cases hq0 : q = 42; (subst hq0; rfl); by_cases hq1 : q = 41; (subst hq1; rfl); by_cases hq2 : q = 40; (subst hq2; rfl); by_cases hq3 : q = 37; (subst hq3; rfl); simp only [gset, if_neg hq0, if_neg hq1, if_neg hq2, if_neg hq3])) hfr hf275 (lv_sub hl [0, 1, 2] rfl)
      have hJ88 : ∀ (zg88_za : Int) (zg88_zr : Int) (zg88_zl : Int) (zg88_ze : Int) (f_88 : HP) (H : Heap) (locs : List Loc) (ls : Array Slot), th 37 ≤ zg88_za ∧ zg88_za ≤ 500 → va_P g.1 vwCl (va_pl L f_88) H → va_D A (va_pl L f_88) → va_S A s.heap H locs → TI g ad (gset (gset (gset (gset th 37 zg88_za) 40 zg88_zr) 41 zg88_zl) 42 zg88_ze) f_88 → (∀ b, b ≠ (ad 255) → b ≠ (ad 259) → f_88 b = f b) → f_88 (ad 259) = .inl (g.2.1 0, 100, .inl (r28)) → lv_has ls 3 [(0, .ref (ad 255)), (1, .int r3), (2, .int x14)] → W p l e rm_X11_planLine s m [.ref (ad 255)].toArray below meth c H locs 0 0 (MQ below (va_Qv (po_X11_planLine g ad th L f ) (PstB g A) A) [.ref (ad 255)].toArray s rm_X11_planLine.cells rm_X11_planLine.slots A) (F0 m 88 ls [.int x31, .ref (ad 259)]) := by
        intro zg88_za zg88_zr zg88_zl zg88_ze f_88 H locs ls hzg88 hP hD hS hT hfr hf276 hl
        refine lv_iconst (v := (-1)) hx hb dX11_planLine_88 (by decide) ?_
        exact hJ89 zg88_za zg88_zr zg88_zl zg88_ze (-1) _ _ _ _ (show th 37 ≤ zg88_za ∧ zg88_za ≤ 500 from (by have ob13 : (0 : Int) ≤ (th 13) ∧ (th 13) ≤ 500 := (b0_13 hT :); have ob35 : (0 : Int) ≤ (th 35) ∧ (th 35) ≤ 63 := (b0_35 hT :); have ob36 : (0 : Int) ≤ (th 36) ∧ (th 36) ≤ 20 := (b0_36 hT :); have ob37 : (0 : Int) ≤ zg88_za ∧ zg88_za ≤ 500 := (b0_37 hT :); have ob40 : (0 : Int) ≤ zg88_zr ∧ zg88_zr ≤ 500 := (b0_40 hT :); have ob41 : (0 : Int) ≤ zg88_zl ∧ zg88_zl ≤ 500 := (b0_41 hT :); have ob42 : ((-1) : Int) ≤ zg88_ze ∧ zg88_ze ≤ 500 := (b0_42 hT :); have ob43 : ((-1) : Int) ≤ (th 43) ∧ (th 43) ≤ 1 := (b0_43 hT :); obtain ⟨o0a, o0b⟩ := (eL7R : In _ _ _); obtain ⟨o1a, o1b⟩ := (hb15 : In _ _ _); obtain ⟨o2a, o2b⟩ := (hb13 : In _ _ _); omega)) (⟨by decide, by decide⟩ : In (-1) (-1) 2) hP hD hS (TI.cast hT (by funext q; by_cases hq0 : q = 42; (subst hq0; rfl); by_cases hq1 : q = 41; (subst hq1; rfl); by_cases hq2 : q = 40; (subst hq2; rfl); by_cases hq3 : q = 37; (subst hq3; rfl); simp only [gset, if_neg hq0, if_neg hq1, if_neg hq2, if_neg hq3])) hfr hf276 (lv_sub hl [0, 1, 2] rfl)
      refine lv_icmp_ne (tgt := 88) hx hb dX11_planLine_67 (by decide) (fun c277 => ?_) (fun c277 => ?_)
      ·
        have ocm1 : ((-1) : Int32).toInt = (-1) := by decide
        have cc278 : v4_29.toInt ≠ ((-1) : Int32).toInt := i32_ne c277
        have hb279 : In v4_29 0 500 := In.ne1 hv4_29 (⟨by decide, by decide⟩ : In (-1) (-1) (-1)) cc278 (by decide) (by decide)
        exact hJ88 zg54_za zg54_zr zg54_zl zg54_ze _ _ _ _ (show th 37 ≤ zg54_za ∧ zg54_za ≤ 500 from (by have ob13 : (0 : Int) ≤ (th 13) ∧ (th 13) ≤ 500 := (b0_13 hT :); have ob35 : (0 : Int) ≤ (th 35) ∧ (th 35) ≤ 63 := (b0_35 hT :); have ob36 : (0 : Int) ≤ (th 36) ∧ (th 36) ≤ 20 := (b0_36 hT :); have ob37 : (0 : Int) ≤ zg54_za ∧ zg54_za ≤ 500 := (b0_37 hT :); have ob40 : (0 : Int) ≤ zg54_zr ∧ zg54_zr ≤ 500 := (b0_40 hT :); have ob41 : (0 : Int) ≤ zg54_zl ∧ zg54_zl ≤ 500 := (b0_41 hT :); have ob42 : ((-1) : Int) ≤ zg54_ze ∧ zg54_ze ≤ 500 := (b0_42 hT :); have ob43 : ((-1) : Int) ≤ (th 43) ∧ (th 43) ≤ 1 := (b0_43 hT :); obtain ⟨o0a, o0b⟩ := (eL7R : In _ _ _); obtain ⟨o1a, o1b⟩ := (hb15 : In _ _ _); obtain ⟨o2a, o2b⟩ := (hv2_29 : In _ _ _); obtain ⟨o3a, o3b⟩ := (hv3_29 : In _ _ _); obtain ⟨o4a, o4b⟩ := (hb279 : In _ _ _); obtain ⟨o5a, o5b⟩ := (hv5_29 : In _ _ _); obtain ⟨o6a, o6b⟩ := (hv6_29 : In _ _ _); obtain ⟨o7a, o7b⟩ := (hv8_29 : In _ _ _); obtain ⟨o8a, o8b⟩ := (hv9_29 : In _ _ _); obtain ⟨o9a, o9b⟩ := (hv13_29 : In _ _ _); obtain ⟨o10a, o10b⟩ := (hb13 : In _ _ _); omega)) hP hD hS (TI.cast hT (by funext q; by_cases hq0 : q = 42; (subst hq0; rfl); by_cases hq1 : q = 41; (subst hq1; rfl); by_cases hq2 : q = 40; (subst hq2; rfl); by_cases hq3 : q = 37; (subst hq3; rfl); simp only [gset, if_neg hq0, if_neg hq1, if_neg hq2, if_neg hq3])) hfr hf26 (lv_sub hl [0, 1, 2] rfl)
      ·
        have ocm1 : ((-1) : Int32).toInt = (-1) := by decide
        have cc280 : v4_29.toInt = ((-1) : Int32).toInt := congrArg Int32.toInt c277
        have hb281 : In v4_29 (-1) (-1) := In.eq1 hv4_29 (⟨by decide, by decide⟩ : In (-1) (-1) (-1)) cc280 (by decide) (by decide)
        refine lv_aload_n hx hb dX11_planLine_70 rfl (lv_at hl 0 rfl) ?_
        refine va_ldcS hx hb hown (hG.2.2.1 ("RulerWordModel", 189, "round", 9) (by decide +kernel)) dX11_planLine_71 ?_
        refine call_i (run_V (rm := rm_X11_takes) hx hb hml hown hts (s_X11_takes l g ad (gset (gset (gset (gset th 37 zg54_za) 40 zg54_zr) 41 zg54_zl) 42 zg54_ze) _ _ _ 9 hst hT (by decide)) cV_X11_takes wg_1538 ⟨Nat.le_of_ble_eq_true rfl, Nat.le_of_ble_eq_true rfl⟩ hG hE hA hP hD hS (hst.1 255 (by decide)) hf30 rfl rfl hl.1 (As := [.ref (g.2.2.1 9)]) (rest := [.int x31, .ref (ad 259)]) rfl (Nat.le_of_ble_eq_true rfl) dX11_planLine_73 ⟨Nat.le_of_ble_eq_true rfl, Nat.le_of_ble_eq_true rfl⟩) hA hD hS (fun r282 L283 f284 H locs hp285 hP hD hS => ?_)
        obtain ⟨eL286L, eL286T, eL286F, eL286R⟩ := hp285
        have eL286L : L283 = L := eL286L
        rw [eL286L] at hP hD
        obtain ⟨zz287, hzz287, eL286T⟩ := eL286T
        have hzz287 : zg54_za ≤ zz287 ∧ zz287 ≤ 500 := hzz287
        have hT : TI g ad (gset (gset (gset (gset (gset th 37 zg54_za) 40 zg54_zr) 41 zg54_zl) 42 zg54_ze) 37 zz287) f284 := eL286T
        have hT : TI g ad (gset (gset (gset (gset th 40 zg54_zr) 41 zg54_zl) 42 zg54_ze) 37 zz287) f284 := TI.cast hT (by funext q; by_cases hq0 : q = 37; (subst hq0; rfl); by_cases hq1 : q = 42; (subst hq1; rfl); by_cases hq2 : q = 41; (subst hq2; rfl); by_cases hq3 : q = 40; (subst hq3; rfl); simp only [gset, if_neg hq0, if_neg hq1, if_neg hq2, if_neg hq3])
        have eL286F : ∀ b, b ≠ (ad 255) → f284 b = f25 b := eL286F
        have hf288 := (eL286F (ad 259) (hst.ne (by decide) (by decide) (by decide))).trans hf26
        have hfr : (∀ b, b ≠ (ad 255) → b ≠ (ad 259) → f284 b = f b) := fun b z0_ z1_ => (eL286F b z0_).trans (hfr b z0_ z1_)
        have eL286R : In r282 0 1 := eL286R
        refine lv_if_eq (tgt := 88) hx hb dX11_planLine_76 (by decide) (fun c289 => ?_) (fun c289 => ?_)
        ·
          have oc0 : (0 : Int32).toInt = 0 := by decide
          have cc290 : r282.toInt = (0 : Int32).toInt := congrArg Int32.toInt c289
          have hb291 : In r282 0 0 := In.eq1 eL286R (⟨by decide, by decide⟩ : In 0 0 0) cc290 (by decide) (by decide)
          exact hJ88 zz287 zg54_zr zg54_zl zg54_ze _ _ _ _ (show th 37 ≤ zz287 ∧ zz287 ≤ 500 from (by have ob13 : (0 : Int) ≤ (th 13) ∧ (th 13) ≤ 500 := (b0_13 hT :); have ob35 : (0 : Int) ≤ (th 35) ∧ (th 35) ≤ 63 := (b0_35 hT :); have ob36 : (0 : Int) ≤ (th 36) ∧ (th 36) ≤ 20 := (b0_36 hT :); have ob37 : (0 : Int) ≤ zz287 ∧ zz287 ≤ 500 := (b0_37 hT :); have ob40 : (0 : Int) ≤ zg54_zr ∧ zg54_zr ≤ 500 := (b0_40 hT :); have ob41 : (0 : Int) ≤ zg54_zl ∧ zg54_zl ≤ 500 := (b0_41 hT :); have ob42 : ((-1) : Int) ≤ zg54_ze ∧ zg54_ze ≤ 500 := (b0_42 hT :); have ob43 : ((-1) : Int) ≤ (th 43) ∧ (th 43) ≤ 1 := (b0_43 hT :); obtain ⟨o0a, o0b⟩ := (eL7R : In _ _ _); obtain ⟨o1a, o1b⟩ := (hb15 : In _ _ _); obtain ⟨o2a, o2b⟩ := (hb13 : In _ _ _); omega)) hP hD hS (TI.cast hT (by funext q; by_cases hq0 : q = 37; (subst hq0; rfl); by_cases hq1 : q = 42; (subst hq1; rfl); by_cases hq2 : q = 41; (subst hq2; rfl); by_cases hq3 : q = 40; (subst hq3; rfl); simp only [gset, if_neg hq0, if_neg hq1, if_neg hq2, if_neg hq3])) hfr hf288 (lv_sub hl [0, 1, 2] rfl)
        ·
          have oc0 : (0 : Int32).toInt = 0 := by decide
          have cc292 : r282.toInt ≠ (0 : Int32).toInt := i32_ne c289
          have hb293 : In r282 1 1 := In.ne1 eL286R (⟨by decide, by decide⟩ : In 0 0 0) cc292 (by decide) (by decide)
          refine lv_aload_n hx hb dX11_planLine_79 rfl (lv_at hl 0 rfl) ?_
          refine lv_iconst (v := 0) hx hb dX11_planLine_80 (by decide) ?_
          refine lv_iconst (v := 2) hx hb dX11_planLine_81 (by decide) ?_
          refine M0e hT (fun v0_294 v2_294 v3_294 v4_294 v5_294 v6_294 v8_294 v9_294 v12_294 v13_294 v14_294 v15_294 v16_294 v17_294 v18_294 v19_294 v20_294 v21_294 v22_294 v23_294 v25_294 v36_294 v37_294 v38_294 v39_294 v40_294 v45_294 v46_294 v47_294 v48_294 v50_294 v51_294 v53_294 v55_294 hf295 hv0_294 hv2_294 hg2_294 hv3_294 hg3_294 hv4_294 hg4_294 hv5_294 hg5_294 hv6_294 hg6_294 hv8_294 hg8_294 hv9_294 hg9_294 hv12_294 hv13_294 hg13_294 hv14_294 hg14_294 hv15_294 hg15_294 hv17_294 hg17_294 hv20_294 hg20_294 hv23_294 hg23_294 hv25_294 hg25_294 hv36_294 hg36_294 hv47_294 hg47_294 hv48_294 hg48_294 hv53_294 hg53_294 hv55_294 hg55_294 hrel0_294 => ?_)
          have hg15_294 : v15_294.toInt = th 11 := hg15_294
          have hg20_294 : v20_294.toInt = th 14 := hg20_294
          refine call_i (run_V (rm := rm_X11_digit_0_2) hx hb hml hown hts (s_X11_digit_0_2 l g ad (gset (gset (gset (gset th 40 zg54_zr) 41 zg54_zl) 42 zg54_ze) 37 zz287) _ _ _  hst hT ) cV_X11_digit wg_1566 ⟨Nat.le_of_ble_eq_true rfl, Nat.le_of_ble_eq_true rfl⟩ hG hE hA hP hD hS (hst.1 255 (by decide)) hf295 rfl rfl hl.1 (As := [.int 0, .int 2]) (rest := [.int x31, .ref (ad 259)]) rfl (Nat.le_of_ble_eq_true rfl) dX11_planLine_82 ⟨Nat.le_of_ble_eq_true rfl, Nat.le_of_ble_eq_true rfl⟩) hA hD hS (fun r296 L297 f298 H locs hp299 hP hD hS => ?_)
          obtain ⟨eL300L, eL300T, eL300F, eL300R⟩ := hp299
          have eL300L : L297 = L := eL300L
          rw [eL300L] at hP hD
          obtain ⟨zz301, zz302, zz303, zz304, hzz301, eL300T⟩ := eL300T
          have hzz301 : (zz287 ≤ zz302 ∧ 0 ≤ zz302 ∧ 0 ≤ zz303 ∧ zz302 + zz303 = zz301 ∧ zz301 ≤ 500) := hzz301
          have hT : TI g ad (gset (gset (gset (gset (gset (gset (gset (gset th 40 zg54_zr) 41 zg54_zl) 42 zg54_ze) 37 zz287) 37 zz301) 40 zz302) 41 zz303) 42 zz304) f298 := eL300T
          have hT : TI g ad (gset (gset (gset (gset th 37 zz301) 40 zz302) 41 zz303) 42 zz304) f298 := TI.cast hT (by funext q; by_cases hq0 : q = 42; (subst hq0; rfl); by_cases hq1 : q = 41; (subst hq1; rfl); by_cases hq2 : q = 40; (subst hq2; rfl); by_cases hq3 : q = 37; (subst hq3; rfl); simp only [gset, if_neg hq0, if_neg hq1, if_neg hq2, if_neg hq3])
          have eL300F : ∀ b, b ≠ (ad 255) → f298 b = f284 b := eL300F
          have hf305 := (eL300F (ad 259) (hst.ne (by decide) (by decide) (by decide))).trans hf288
          have hfr : (∀ b, b ≠ (ad 255) → b ≠ (ad 259) → f298 b = f b) := fun b z0_ z1_ => (eL300F b z0_).trans (hfr b z0_ z1_)
          have eL300R : In r296 0 2 := eL300R
          refine lv_goto (tgt := 89) hx hb dX11_planLine_85 (by decide) ?_
          exact hJ89 zz301 zz302 zz303 zz304 r296 _ _ _ _ (show th 37 ≤ zz301 ∧ zz301 ≤ 500 from (by have ob13 : (0 : Int) ≤ (th 13) ∧ (th 13) ≤ 500 := (b0_13 hT :); have ob35 : (0 : Int) ≤ (th 35) ∧ (th 35) ≤ 63 := (b0_35 hT :); have ob36 : (0 : Int) ≤ (th 36) ∧ (th 36) ≤ 20 := (b0_36 hT :); have ob37 : (0 : Int) ≤ zz301 ∧ zz301 ≤ 500 := (b0_37 hT :); have ob40 : (0 : Int) ≤ zz302 ∧ zz302 ≤ 500 := (b0_40 hT :); have ob41 : (0 : Int) ≤ zz303 ∧ zz303 ≤ 500 := (b0_41 hT :); have ob42 : ((-1) : Int) ≤ zz304 ∧ zz304 ≤ 500 := (b0_42 hT :); have ob43 : ((-1) : Int) ≤ (th 43) ∧ (th 43) ≤ 1 := (b0_43 hT :); obtain ⟨o0a, o0b⟩ := (eL7R : In _ _ _); obtain ⟨o1a, o1b⟩ := (hb15 : In _ _ _); obtain ⟨o2a, o2b⟩ := (hb13 : In _ _ _); omega)) (In.mono eL300R (by decide) (by decide)) hP hD hS (TI.cast hT (by funext q; by_cases hq0 : q = 42; (subst hq0; rfl); by_cases hq1 : q = 41; (subst hq1; rfl); by_cases hq2 : q = 40; (subst hq2; rfl); by_cases hq3 : q = 37; (subst hq3; rfl); simp only [gset, if_neg hq0, if_neg hq1, if_neg hq2, if_neg hq3])) hfr hf305 (lv_sub hl [0, 1, 2] rfl)
    refine lv_if_eq (tgt := 53) hx hb dX11_planLine_41 (by decide) (fun c306 => ?_) (fun c306 => ?_)
    ·
      have oc0 : (0 : Int32).toInt = 0 := by decide
      have cc307 : r17.toInt = (0 : Int32).toInt := congrArg Int32.toInt c306
      have hb308 : In r17 0 0 := In.eq1 eL21R (⟨by decide, by decide⟩ : In 0 0 0) cc307 (by decide) (by decide)
      refine lv_iconst (v := (-1)) hx hb dX11_planLine_53 (by decide) ?_
      exact hJ54 zz22 (th 40) (th 41) (th 42) (-1) _ _ _ _ (show th 37 ≤ zz22 ∧ zz22 ≤ 500 from (by have ob13 : (0 : Int) ≤ (th 13) ∧ (th 13) ≤ 500 := (b0_13 hT :); have ob35 : (0 : Int) ≤ (th 35) ∧ (th 35) ≤ 63 := (b0_35 hT :); have ob36 : (0 : Int) ≤ (th 36) ∧ (th 36) ≤ 20 := (b0_36 hT :); have ob37 : (0 : Int) ≤ zz22 ∧ zz22 ≤ 500 := (b0_37 hT :); have ob40 : (0 : Int) ≤ (th 40) ∧ (th 40) ≤ 500 := (b0_40 hT :); have ob41 : (0 : Int) ≤ (th 41) ∧ (th 41) ≤ 500 := (b0_41 hT :); have ob42 : ((-1) : Int) ≤ (th 42) ∧ (th 42) ≤ 500 := (b0_42 hT :); have ob43 : ((-1) : Int) ≤ (th 43) ∧ (th 43) ≤ 1 := (b0_43 hT :); obtain ⟨o0a, o0b⟩ := (eL7R : In _ _ _); obtain ⟨o1a, o1b⟩ := (hb15 : In _ _ _); obtain ⟨o2a, o2b⟩ := (hb13 : In _ _ _); omega)) (⟨by decide, by decide⟩ : In (-1) (-1) 5) hP hD hS (TI.cast hT (by funext q; by_cases hq0 : q = 37; (subst hq0; rfl); by_cases hq1 : q = 40; (subst hq1; rfl); by_cases hq2 : q = 41; (subst hq2; rfl); by_cases hq3 : q = 42; (subst hq3; rfl); simp only [gset, if_neg hq0, if_neg hq1, if_neg hq2, if_neg hq3])) hfr (lv_sub hl [2, 1, 0] rfl)
    ·
      have oc0 : (0 : Int32).toInt = 0 := by decide
      have cc309 : r17.toInt ≠ (0 : Int32).toInt := i32_ne c306
      have hb310 : In r17 1 1 := In.ne1 eL21R (⟨by decide, by decide⟩ : In 0 0 0) cc309 (by decide) (by decide)
      refine lv_aload_n hx hb dX11_planLine_44 rfl (lv_at hl 2 rfl) ?_
      refine lv_iconst (v := 0) hx hb dX11_planLine_45 (by decide) ?_
      refine lv_iconst (v := 5) hx hb dX11_planLine_46 (by decide) ?_
      refine M0e hT (fun v0_311 v2_311 v3_311 v4_311 v5_311 v6_311 v8_311 v9_311 v12_311 v13_311 v14_311 v15_311 v16_311 v17_311 v18_311 v19_311 v20_311 v21_311 v22_311 v23_311 v25_311 v36_311 v37_311 v38_311 v39_311 v40_311 v45_311 v46_311 v47_311 v48_311 v50_311 v51_311 v53_311 v55_311 hf312 hv0_311 hv2_311 hg2_311 hv3_311 hg3_311 hv4_311 hg4_311 hv5_311 hg5_311 hv6_311 hg6_311 hv8_311 hg8_311 hv9_311 hg9_311 hv12_311 hv13_311 hg13_311 hv14_311 hg14_311 hv15_311 hg15_311 hv17_311 hg17_311 hv20_311 hg20_311 hv23_311 hg23_311 hv25_311 hg25_311 hv36_311 hg36_311 hv47_311 hg47_311 hv48_311 hg48_311 hv53_311 hg53_311 hv55_311 hg55_311 hrel0_311 => ?_)
      have hg15_311 : v15_311.toInt = th 11 := hg15_311
      have hg20_311 : v20_311.toInt = th 14 := hg20_311
      refine call_i (run_V (rm := rm_X11_digit_0_5) hx hb hml hown hts (s_X11_digit_0_5 l g ad (gset th 37 zz22) _ _ _  hst hT ) cV_X11_digit wg_1566 ⟨Nat.le_of_ble_eq_true rfl, Nat.le_of_ble_eq_true rfl⟩ hG hE hA hP hD hS (hst.1 255 (by decide)) hf312 rfl rfl hl.1 (As := [.int 0, .int 5]) (rest := [.int x14, .ref (ad 259)]) rfl (Nat.le_of_ble_eq_true rfl) dX11_planLine_47 ⟨Nat.le_of_ble_eq_true rfl, Nat.le_of_ble_eq_true rfl⟩) hA hD hS (fun r313 L314 f315 H locs hp316 hP hD hS => ?_)
      obtain ⟨eL317L, eL317T, eL317F, eL317R⟩ := hp316
      have eL317L : L314 = L := eL317L
      rw [eL317L] at hP hD
      obtain ⟨zz318, zz319, zz320, zz321, hzz318, eL317T⟩ := eL317T
      have hzz318 : (zz22 ≤ zz319 ∧ 0 ≤ zz319 ∧ 0 ≤ zz320 ∧ zz319 + zz320 = zz318 ∧ zz318 ≤ 500) := hzz318
      have hT : TI g ad (gset (gset (gset (gset (gset th 37 zz22) 37 zz318) 40 zz319) 41 zz320) 42 zz321) f315 := eL317T
      have hT : TI g ad (gset (gset (gset (gset th 37 zz318) 40 zz319) 41 zz320) 42 zz321) f315 := TI.cast hT (by funext q; by_cases hq0 : q = 42; (subst hq0; rfl); by_cases hq1 : q = 41; (subst hq1; rfl); by_cases hq2 : q = 40; (subst hq2; rfl); by_cases hq3 : q = 37; (subst hq3; rfl); simp only [gset, if_neg hq0, if_neg hq1, if_neg hq2, if_neg hq3])
      have eL317F : ∀ b, b ≠ (ad 255) → f315 b = f19 b := eL317F
      have hfr : (∀ b, b ≠ (ad 255) → b ≠ (ad 259) → f315 b = f b) := fun b z0_ z1_ => (eL317F b z0_).trans (hfr b z0_ z1_)
      have eL317R : In r313 0 5 := eL317R
      refine lv_goto (tgt := 54) hx hb dX11_planLine_50 (by decide) ?_
      exact hJ54 zz318 zz319 zz320 zz321 r313 _ _ _ _ (show th 37 ≤ zz318 ∧ zz318 ≤ 500 from (by have ob13 : (0 : Int) ≤ (th 13) ∧ (th 13) ≤ 500 := (b0_13 hT :); have ob35 : (0 : Int) ≤ (th 35) ∧ (th 35) ≤ 63 := (b0_35 hT :); have ob36 : (0 : Int) ≤ (th 36) ∧ (th 36) ≤ 20 := (b0_36 hT :); have ob37 : (0 : Int) ≤ zz318 ∧ zz318 ≤ 500 := (b0_37 hT :); have ob40 : (0 : Int) ≤ zz319 ∧ zz319 ≤ 500 := (b0_40 hT :); have ob41 : (0 : Int) ≤ zz320 ∧ zz320 ≤ 500 := (b0_41 hT :); have ob42 : ((-1) : Int) ≤ zz321 ∧ zz321 ≤ 500 := (b0_42 hT :); have ob43 : ((-1) : Int) ≤ (th 43) ∧ (th 43) ≤ 1 := (b0_43 hT :); obtain ⟨o0a, o0b⟩ := (eL7R : In _ _ _); obtain ⟨o1a, o1b⟩ := (hb15 : In _ _ _); obtain ⟨o2a, o2b⟩ := (hb13 : In _ _ _); omega)) (In.mono eL317R (by decide) (by decide)) hP hD hS (TI.cast hT (by funext q; by_cases hq0 : q = 42; (subst hq0; rfl); by_cases hq1 : q = 41; (subst hq1; rfl); by_cases hq2 : q = 40; (subst hq2; rfl); by_cases hq3 : q = 37; (subst hq3; rfl); simp only [gset, if_neg hq0, if_neg hq1, if_neg hq2, if_neg hq3])) hfr (lv_sub hl [2, 1, 0] rfl)
  ·
    have oc20 : (20 : Int32).toInt = 20 := by decide
    have cc322 : v13_9.toInt = (20 : Int32).toInt := congrArg Int32.toInt c11
    have hb323 : In v13_9 20 20 := In.eq1 hv13_9 (⟨by decide, by decide⟩ : In 20 20 20) cc322 (by decide) (by decide)
    refine lv_aload_n hx hb dX11_planLine_14 rfl (lv_at hl 1 rfl) ?_
    refine lv_aload_n hx hb dX11_planLine_15 rfl (lv_at hl 1 rfl) ?_
    refine pl_get (v := .int v3_9) hx hb hts (fun w h => mT (inX11 w h)) hown hG.1 hP (hst.1 255 (by decide)) hf10 rfl 3 (by decide) (hts _ (mT wg_1339)) (fun _ h => h) rfl dX11_planLine_16 ?_
    have hg3_9 : v3_9.toInt = zz8 := hg3_9
    refine call_v (run_V (rm := rm_X11_fails) hx hb hml hown hts (s_X11_fails l g ad (gset th 37 zz8) _ _ _ v3_9 hst hT hv3_9) cV_X11_fails wg_1545 ⟨Nat.le_of_ble_eq_true rfl, Nat.le_of_ble_eq_true rfl⟩ hG hE hA hP hD hS (hst.1 255 (by decide)) hf10 rfl rfl hl.1 (As := [.int v3_9]) (rest := []) rfl (Nat.le_of_ble_eq_true rfl) dX11_planLine_19 ⟨Nat.le_of_ble_eq_true rfl, Nat.le_of_ble_eq_true rfl⟩) hA hD hS (fun L325 f326 H locs hp327 hP hD hS => ?_)
    obtain ⟨eL328L, eL328T, eL328F⟩ := hp327
    have eL328L : L325 = L := eL328L
    rw [eL328L] at hP hD
    obtain ⟨zz329, hzz329, eL328T⟩ := eL328T
    have hzz329 : 0 ≤ zz329 := hzz329
    have hT : TI g ad (gset (gset th 37 zz8) 42 zz329) f326 := eL328T
    have eL328F : ∀ b, b ≠ (ad 255) → f326 b = f5 b := eL328F
    have hfr : (∀ b, b ≠ (ad 255) → b ≠ (ad 259) → f326 b = f b) := fun b z0_ z1_ => (eL328F b z0_).trans (hfr b z0_ z1_)
    exact ret_v hx hb hr hlocks hP hD hS (Nat.le_of_ble_eq_true rfl) (Nat.le_of_ble_eq_true rfl) (⟨rfl, ⟨zz8, (th 40), (th 41), zz329, (th 36), (show th 37 ≤ zz8 ∧ zz8 ≤ 500 from (by have ob13 : (0 : Int) ≤ (th 13) ∧ (th 13) ≤ 500 := (b0_13 hT :); have ob35 : (0 : Int) ≤ (th 35) ∧ (th 35) ≤ 63 := (b0_35 hT :); have ob36 : (0 : Int) ≤ (th 36) ∧ (th 36) ≤ 20 := (b0_36 hT :); have ob37 : (0 : Int) ≤ zz8 ∧ zz8 ≤ 500 := (b0_37 hT :); have ob40 : (0 : Int) ≤ (th 40) ∧ (th 40) ≤ 500 := (b0_40 hT :); have ob41 : (0 : Int) ≤ (th 41) ∧ (th 41) ≤ 500 := (b0_41 hT :); have ob42 : ((-1) : Int) ≤ zz329 ∧ zz329 ≤ 500 := (b0_42 hT :); have ob43 : ((-1) : Int) ≤ (th 43) ∧ (th 43) ≤ 1 := (b0_43 hT :); obtain ⟨o0a, o0b⟩ := (eL7R : In _ _ _); omega)), TI.cast hT (by funext q; by_cases hq0 : q = 42; (subst hq0; rfl); by_cases hq1 : q = 37; (subst hq1; rfl); by_cases hq2 : q = 40; (subst hq2; rfl); by_cases hq3 : q = 41; (subst hq3; rfl); by_cases hq4 : q = 36; (subst hq4; rfl); simp only [gset, if_neg hq0, if_neg hq1, if_neg hq2, if_neg hq3, if_neg hq4])⟩, hfr⟩) dX11_planLine_22

abbrev rm_X11_readsPlan : Room := { frames := 6, cells := 0, slots := 0, locals := 130 }
abbrev po_X11_readsPlan (g : GG) (ad : Nat → Nat) (th : Nat → Int) (L : List Nat) (f : HP)  : Int32 → (List Nat × HP) → Prop := fun r u => u.1 = L ∧ (∃ za zr zl ze zn : Int, (True) ∧ TI g ad (gset (gset (gset (gset (gset th 37 za) 40 zr) 41 zl) 42 ze) 36 zn) u.2) ∧ (∀ b, b ≠ (ad 255) → b ≠ (ad 259) → u.2 b = f b) ∧ In r (-1) 500
set_option maxHeartbeats 4000000 in
set_option maxRecDepth 100000 in
theorem s_X11_readsPlan (l : Launch) (g : GG) (ad : Nat → Nat) (th : Nat → Int) (L : List Nat) (f : HP) (sz : Nat)  (hst : ST ad L) (hT : TI g ad th f)  : MtI l g yX11_readsPlan cX11_readsPlan 1 (some .int) rm_X11_readsPlan [.ref (ad 255)] L f sz (po_X11_readsPlan g ad th L f ) := by
  refine MtI.of (by decide +kernel) (Nat.le_of_ble_eq_true rfl) ?_
  intro p e s m below meth c A hEn hP hD hS ls hl
  obtain ⟨hx, hb, hr, hml, hown, hlocks, hts, hG, hA, hE, hnm⟩ := hEn
  have hown : s.vm.findClass "RulerWordModel" = some m.cls := hown
  have hl : lv_has ls 1 [(0, .ref (ad 255))] := hl
  have hfr : (∀ b, b ≠ (ad 255) → b ≠ (ad 259) → f b = f b) := fun b z0_ z1_ => rfl
  refine lv_aload_n hx hb dX11_readsPlan_0 rfl (lv_at hl 0 rfl) ?_
  refine lv_iconst (v := 0) hx hb dX11_readsPlan_1 (by decide) ?_
  refine M0e hT (fun v0_1 v2_1 v3_1 v4_1 v5_1 v6_1 v8_1 v9_1 v12_1 v13_1 v14_1 v15_1 v16_1 v17_1 v18_1 v19_1 v20_1 v21_1 v22_1 v23_1 v25_1 v36_1 v37_1 v38_1 v39_1 v40_1 v45_1 v46_1 v47_1 v48_1 v50_1 v51_1 v53_1 v55_1 hf2 hv0_1 hv2_1 hg2_1 hv3_1 hg3_1 hv4_1 hg4_1 hv5_1 hg5_1 hv6_1 hg6_1 hv8_1 hg8_1 hv9_1 hg9_1 hv12_1 hv13_1 hg13_1 hv14_1 hg14_1 hv15_1 hg15_1 hv17_1 hg17_1 hv20_1 hg20_1 hv23_1 hg23_1 hv25_1 hg25_1 hv36_1 hg36_1 hv47_1 hg47_1 hv48_1 hg48_1 hv53_1 hg53_1 hv55_1 hg55_1 hrel0_1 => ?_)
  have hg15_1 : v15_1.toInt = th 11 := hg15_1
  have hg20_1 : v20_1.toInt = th 14 := hg20_1
  refine pl_put (ty := .int) (v := .int 0) (fs' := [.int v0_1, .ref (ad 256), .int v2_1, .int 0, .int v4_1, .int v5_1, .int v6_1, .ref (ad 257), .int v8_1, .int v9_1, .ref (ad 258), .ref (ad 259), .int v12_1, .int v13_1, .int v14_1, .int v15_1, .int v16_1, .int v17_1, .int v18_1, .int v19_1, .int v20_1, .long v21_1, .long v22_1, .int v23_1, .ref (ad 260), .int v25_1, .ref (ad 261), .ref (ad 262), .ref (ad 263), .ref (ad 264), .ref (ad 265), .ref (ad 266), .ref (ad 267), .ref (ad 268), .ref (ad 269), .ref (ad 270), .int v36_1, .int v37_1, .int v38_1, .int v39_1, .int v40_1, .ref (ad 271), .ref (ad 272), .ref (ad 273), .ref (ad 274), .long v45_1, .long v46_1, .int v47_1, .int v48_1, .ref (ad 275), .int v50_1, .int v51_1, .ref (ad 276), .int v53_1, .ref (ad 277), .int v55_1]) hx hb hts (fun w h => mT (inX11 w h)) tyX11 tyX11_ok nmX11 hown hG.1 hP hD hS (hst.1 255 (by decide)) hf2 rfl 3 (by decide) (hts _ (mT wg_1339)) (fun _ h => h) rfl (by decide +kernel) (rfl) (rfl) (Nat.le_of_ble_eq_true rfl) rfl dX11_readsPlan_2 (fun H locs f3 hf4 ho5 hP hD hS => ?_)
  have hfr : (∀ b, b ≠ (ad 255) → b ≠ (ad 259) → f3 b = f b) := fun b z0_ z1_ => (ho5 b z0_).trans (hfr b z0_ z1_)
  refine lv_aload_n hx hb dX11_readsPlan_5 rfl (lv_at hl 0 rfl) ?_
  refine lv_iconst (v := (-1)) hx hb dX11_readsPlan_6 (by decide) ?_
  refine pl_put (ty := .int) (v := .int (-1)) (fs' := [.int v0_1, .ref (ad 256), .int v2_1, .int 0, .int (-1), .int v5_1, .int v6_1, .ref (ad 257), .int v8_1, .int v9_1, .ref (ad 258), .ref (ad 259), .int v12_1, .int v13_1, .int v14_1, .int v15_1, .int v16_1, .int v17_1, .int v18_1, .int v19_1, .int v20_1, .long v21_1, .long v22_1, .int v23_1, .ref (ad 260), .int v25_1, .ref (ad 261), .ref (ad 262), .ref (ad 263), .ref (ad 264), .ref (ad 265), .ref (ad 266), .ref (ad 267), .ref (ad 268), .ref (ad 269), .ref (ad 270), .int v36_1, .int v37_1, .int v38_1, .int v39_1, .int v40_1, .ref (ad 271), .ref (ad 272), .ref (ad 273), .ref (ad 274), .long v45_1, .long v46_1, .int v47_1, .int v48_1, .ref (ad 275), .int v50_1, .int v51_1, .ref (ad 276), .int v53_1, .ref (ad 277), .int v55_1]) hx hb hts (fun w h => mT (inX11 w h)) tyX11 tyX11_ok nmX11 hown hG.1 hP hD hS (hst.1 255 (by decide)) hf4 rfl 4 (by decide) (hts _ (mT wg_1340)) (fun _ h => h) rfl (by decide +kernel) (rfl) (rfl) (Nat.le_of_ble_eq_true rfl) rfl dX11_readsPlan_7 (fun H locs f6 hf7 ho8 hP hD hS => ?_)
  have ho9 : ∀ b, b ≠ (ad 255) → f6 b = _ := fun b hb => (ho8 b hb).trans (ho5 b hb)
  have hfr : (∀ b, b ≠ (ad 255) → b ≠ (ad 259) → f6 b = f b) := fun b z0_ z1_ => (ho8 b z0_).trans (hfr b z0_ z1_)
  refine lv_aload_n hx hb dX11_readsPlan_10 rfl (lv_at hl 0 rfl) ?_
  refine lv_iconst (v := 0) hx hb dX11_readsPlan_11 (by decide) ?_
  refine pl_put (ty := .int) (v := .int 0) (fs' := [.int v0_1, .ref (ad 256), .int v2_1, .int 0, .int (-1), .int v5_1, .int v6_1, .ref (ad 257), .int v8_1, .int v9_1, .ref (ad 258), .ref (ad 259), .int v12_1, .int 0, .int v14_1, .int v15_1, .int v16_1, .int v17_1, .int v18_1, .int v19_1, .int v20_1, .long v21_1, .long v22_1, .int v23_1, .ref (ad 260), .int v25_1, .ref (ad 261), .ref (ad 262), .ref (ad 263), .ref (ad 264), .ref (ad 265), .ref (ad 266), .ref (ad 267), .ref (ad 268), .ref (ad 269), .ref (ad 270), .int v36_1, .int v37_1, .int v38_1, .int v39_1, .int v40_1, .ref (ad 271), .ref (ad 272), .ref (ad 273), .ref (ad 274), .long v45_1, .long v46_1, .int v47_1, .int v48_1, .ref (ad 275), .int v50_1, .int v51_1, .ref (ad 276), .int v53_1, .ref (ad 277), .int v55_1]) hx hb hts (fun w h => mT (inX11 w h)) tyX11 tyX11_ok nmX11 hown hG.1 hP hD hS (hst.1 255 (by decide)) hf7 rfl 13 (by decide) (hts _ (mT wg_1349)) (fun _ h => h) rfl (by decide +kernel) (rfl) (rfl) (Nat.le_of_ble_eq_true rfl) rfl dX11_readsPlan_12 (fun H locs f10 hf11 ho12 hP hD hS => ?_)
  have ho13 : ∀ b, b ≠ (ad 255) → f10 b = _ := fun b hb => (ho12 b hb).trans (ho9 b hb)
  have hfr : (∀ b, b ≠ (ad 255) → b ≠ (ad 259) → f10 b = f b) := fun b z0_ z1_ => (ho12 b z0_).trans (hfr b z0_ z1_)
  refine lv_aload_n hx hb dX11_readsPlan_15 rfl (lv_at hl 0 rfl) ?_
  have hT := TI.updMG (th' := (gset (gset (gset th 37 (0)) 42 ((-1))) 36 (0))) hT hst (k := 0) (by decide) hf11 ho13 ⟨v0_1, v2_1, 0, (-1), v5_1, v6_1, v8_1, v9_1, v12_1, 0, v14_1, v15_1, v16_1, v17_1, v18_1, v19_1, v20_1, v21_1, v22_1, v23_1, v25_1, v36_1, v37_1, v38_1, v39_1, v40_1, v45_1, v46_1, v47_1, v48_1, v50_1, v51_1, v53_1, v55_1, rfl, hv0_1, hv2_1, hg2_1, (⟨by decide, by decide⟩ : In 0 0 500), (show (0 : Int32).toInt = 0 by decide), (⟨by decide, by decide⟩ : In (-1) (-1) 500), (show ((-1) : Int32).toInt = (-1) by decide), hv5_1, hg5_1, hv6_1, hg6_1, hv8_1, hg8_1, hv9_1, hg9_1, hv12_1, (⟨by decide, by decide⟩ : In 0 0 20), (show (0 : Int32).toInt = 0 by decide), hv14_1, hg14_1, hv15_1, hg15_1, hv17_1, hg17_1, hv20_1, hg20_1, hv23_1, hg23_1, hv25_1, hg25_1, hv36_1, hg36_1, hv47_1, hg47_1, hv48_1, hg48_1, hv53_1, hg53_1, hv55_1, hg55_1, hrel0_1⟩ (fun q hq => ((gset_ne (fun e => hq (by subst e; decide))).trans ((gset_ne (fun e => hq (by subst e; decide))).trans ((gset_ne (fun e => hq (by subst e; decide))).trans rfl))))
  have hT : TI g ad (gset (gset (gset th 37 0) 42 (-1)) 36 0) f10 := TI.cast hT (by funext q; by_cases hq0 : q = 36; (subst hq0; rfl); by_cases hq1 : q = 42; (subst hq1; rfl); by_cases hq2 : q = 37; (subst hq2; rfl); simp only [gset, if_neg hq0, if_neg hq1, if_neg hq2])
  refine M0e hT (fun v0_14 v2_14 v3_14 v4_14 v5_14 v6_14 v8_14 v9_14 v12_14 v13_14 v14_14 v15_14 v16_14 v17_14 v18_14 v19_14 v20_14 v21_14 v22_14 v23_14 v25_14 v36_14 v37_14 v38_14 v39_14 v40_14 v45_14 v46_14 v47_14 v48_14 v50_14 v51_14 v53_14 v55_14 hf15 hv0_14 hv2_14 hg2_14 hv3_14 hg3_14 hv4_14 hg4_14 hv5_14 hg5_14 hv6_14 hg6_14 hv8_14 hg8_14 hv9_14 hg9_14 hv12_14 hv13_14 hg13_14 hv14_14 hg14_14 hv15_14 hg15_14 hv17_14 hg17_14 hv20_14 hg20_14 hv23_14 hg23_14 hv25_14 hg25_14 hv36_14 hg36_14 hv47_14 hg47_14 hv48_14 hg48_14 hv53_14 hg53_14 hv55_14 hg55_14 hrel0_14 => ?_)
  have hg15_14 : v15_14.toInt = th 11 := hg15_14
  have hg20_14 : v20_14.toInt = th 14 := hg20_14
  refine call_v (run_V (rm := rm_X11_planLine) hx hb hml hown hts (s_X11_planLine l g ad (gset (gset (gset th 37 0) 42 (-1)) 36 0) _ _ _  hst hT ) cV_X11_planLine wg_1596 ⟨Nat.le_of_ble_eq_true rfl, Nat.le_of_ble_eq_true rfl⟩ hG hE hA hP hD hS (hst.1 255 (by decide)) hf15 rfl rfl hl.1 (As := []) (rest := []) rfl (Nat.le_of_ble_eq_true rfl) dX11_readsPlan_16 ⟨Nat.le_of_ble_eq_true rfl, Nat.le_of_ble_eq_true rfl⟩) hA hD hS (fun L17 f18 H locs hp19 hP hD hS => ?_)
  obtain ⟨eL20L, eL20T, eL20F⟩ := hp19
  have eL20L : L17 = L := eL20L
  rw [eL20L] at hP hD
  obtain ⟨zz21, zz22, zz23, zz24, zz25, hzz21, eL20T⟩ := eL20T
  have hzz21 : 0 ≤ zz21 ∧ zz21 ≤ 500 := hzz21
  have hT : TI g ad (gset (gset (gset (gset (gset (gset (gset (gset th 37 0) 42 (-1)) 36 0) 37 zz21) 40 zz22) 41 zz23) 42 zz24) 36 zz25) f18 := eL20T
  have hT : TI g ad (gset (gset (gset (gset (gset th 37 zz21) 40 zz22) 41 zz23) 42 zz24) 36 zz25) f18 := TI.cast hT (by funext q; by_cases hq0 : q = 36; (subst hq0; rfl); by_cases hq1 : q = 42; (subst hq1; rfl); by_cases hq2 : q = 41; (subst hq2; rfl); by_cases hq3 : q = 40; (subst hq3; rfl); by_cases hq4 : q = 37; (subst hq4; rfl); simp only [gset, if_neg hq0, if_neg hq1, if_neg hq2, if_neg hq3, if_neg hq4])
  have eL20F : ∀ b, b ≠ (ad 255) → b ≠ (ad 259) → f18 b = f10 b := eL20F
  have hfr : (∀ b, b ≠ (ad 255) → b ≠ (ad 259) → f18 b = f b) := fun b z0_ z1_ => (eL20F b z0_ z1_).trans (hfr b z0_ z1_)
  have hJ19 : ∀ (k19 : Nat) (zg19_za : Int) (zg19_zr : Int) (zg19_zl : Int) (zg19_ze : Int) (zg19_zn : Int) (f_19 : HP) (H : Heap) (locs : List Loc) (ls : Array Slot), (0 ≤ zg19_za ∧ zg19_za ≤ 500) → va_P g.1 vwCl (va_pl L f_19) H → va_D A (va_pl L f_19) → va_S A s.heap H locs → TI g ad (gset (gset (gset (gset (gset th 37 zg19_za) 40 zg19_zr) 41 zg19_zl) 42 zg19_ze) 36 zg19_zn) f_19 → (∀ b, b ≠ (ad 255) → b ≠ (ad 259) → f_19 b = f b) → lv_has ls 1 [(0, .ref (ad 255))] → 500 - zg19_za < ((k19 : Nat) : Int) → W p l e rm_X11_readsPlan s m [.ref (ad 255)].toArray below meth c H locs 0 0 (MQ below (va_Qi (po_X11_readsPlan g ad th L f ) (PstB g A) A) [.ref (ad 255)].toArray s rm_X11_readsPlan.cells rm_X11_readsPlan.slots A) (F0 m 19 ls []) := by
    intro k19
    induction k19 with
    | zero =>
      intro zg19_za zg19_zr zg19_zl zg19_ze zg19_zn f_19 H locs ls hzg19 hP hD hS hT hfr hl hmz19
      exact absurd hmz19 (by omega)
    | succ k19 ih19 =>
      intro zg19_za zg19_zr zg19_zl zg19_ze zg19_zn f_19 H locs ls hzg19 hP hD hS hT hfr hl hmz19
      refine lv_aload_n hx hb dX11_readsPlan_19 rfl (lv_at hl 0 rfl) ?_
      refine M0e hT (fun v0_26 v2_26 v3_26 v4_26 v5_26 v6_26 v8_26 v9_26 v12_26 v13_26 v14_26 v15_26 v16_26 v17_26 v18_26 v19_26 v20_26 v21_26 v22_26 v23_26 v25_26 v36_26 v37_26 v38_26 v39_26 v40_26 v45_26 v46_26 v47_26 v48_26 v50_26 v51_26 v53_26 v55_26 hf27 hv0_26 hv2_26 hg2_26 hv3_26 hg3_26 hv4_26 hg4_26 hv5_26 hg5_26 hv6_26 hg6_26 hv8_26 hg8_26 hv9_26 hg9_26 hv12_26 hv13_26 hg13_26 hv14_26 hg14_26 hv15_26 hg15_26 hv17_26 hg17_26 hv20_26 hg20_26 hv23_26 hg23_26 hv25_26 hg25_26 hv36_26 hg36_26 hv47_26 hg47_26 hv48_26 hg48_26 hv53_26 hg53_26 hv55_26 hg55_26 hrel0_26 => ?_)
      have hg15_26 : v15_26.toInt = th 11 := hg15_26
      have hg20_26 : v20_26.toInt = th 14 := hg20_26
      refine pl_get (v := .int v4_26) hx hb hts (fun w h => mT (inX11 w h)) hown hG.1 hP (hst.1 255 (by decide)) hf27 rfl 4 (by decide) (hts _ (mT wg_1340)) (fun _ h => h) rfl dX11_readsPlan_20 ?_
      have hg4_26 : v4_26.toInt = zg19_ze := hg4_26
      refine lv_iconst (v := (-1)) hx hb dX11_readsPlan_23 (by decide) ?_
      have hJ53 : ∀ (zg53_za : Int) (zg53_zr : Int) (zg53_zl : Int) (zg53_ze : Int) (zg53_zn : Int) (f_53 : HP) (H : Heap) (locs : List Loc) (ls : Array Slot), (0 ≤ zg53_za ∧ zg53_za ≤ 500) → va_P g.1 vwCl (va_pl L f_53) H → va_D A (va_pl L f_53) → va_S A s.heap H locs → TI g ad (gset (gset (gset (gset (gset th 37 zg53_za) 40 zg53_zr) 41 zg53_zl) 42 zg53_ze) 36 zg53_zn) f_53 → (∀ b, b ≠ (ad 255) → b ≠ (ad 259) → f_53 b = f b) → lv_has ls 1 [(0, .ref (ad 255))] → W p l e rm_X11_readsPlan s m [.ref (ad 255)].toArray below meth c H locs 0 0 (MQ below (va_Qi (po_X11_readsPlan g ad th L f ) (PstB g A) A) [.ref (ad 255)].toArray s rm_X11_readsPlan.cells rm_X11_readsPlan.slots A) (F0 m 53 ls []) := by
        intro zg53_za zg53_zr zg53_zl zg53_ze zg53_zn f_53 H locs ls hzg53 hP hD hS hT hfr hl
        refine lv_aload_n hx hb dX11_readsPlan_53 rfl (lv_at hl 0 rfl) ?_
        refine M0e hT (fun v0_28 v2_28 v3_28 v4_28 v5_28 v6_28 v8_28 v9_28 v12_28 v13_28 v14_28 v15_28 v16_28 v17_28 v18_28 v19_28 v20_28 v21_28 v22_28 v23_28 v25_28 v36_28 v37_28 v38_28 v39_28 v40_28 v45_28 v46_28 v47_28 v48_28 v50_28 v51_28 v53_28 v55_28 hf29 hv0_28 hv2_28 hg2_28 hv3_28 hg3_28 hv4_28 hg4_28 hv5_28 hg5_28 hv6_28 hg6_28 hv8_28 hg8_28 hv9_28 hg9_28 hv12_28 hv13_28 hg13_28 hv14_28 hg14_28 hv15_28 hg15_28 hv17_28 hg17_28 hv20_28 hg20_28 hv23_28 hg23_28 hv25_28 hg25_28 hv36_28 hg36_28 hv47_28 hg47_28 hv48_28 hg48_28 hv53_28 hg53_28 hv55_28 hg55_28 hrel0_28 => ?_)
        have hg15_28 : v15_28.toInt = th 11 := hg15_28
        have hg20_28 : v20_28.toInt = th 14 := hg20_28
        refine pl_get (v := .int v4_28) hx hb hts (fun w h => mT (inX11 w h)) hown hG.1 hP (hst.1 255 (by decide)) hf29 rfl 4 (by decide) (hts _ (mT wg_1340)) (fun _ h => h) rfl dX11_readsPlan_54 ?_
        have hg4_28 : v4_28.toInt = zg53_ze := hg4_28
        refine lv_iconst (v := (-1)) hx hb dX11_readsPlan_57 (by decide) ?_
        have hJ77 : ∀ (zg77_za : Int) (zg77_zr : Int) (zg77_zl : Int) (zg77_ze : Int) (zg77_zn : Int) (f_77 : HP) (H : Heap) (locs : List Loc) (ls : Array Slot), (0 ≤ zg77_za ∧ zg77_za ≤ 500) → va_P g.1 vwCl (va_pl L f_77) H → va_D A (va_pl L f_77) → va_S A s.heap H locs → TI g ad (gset (gset (gset (gset (gset th 37 zg77_za) 40 zg77_zr) 41 zg77_zl) 42 zg77_ze) 36 zg77_zn) f_77 → (∀ b, b ≠ (ad 255) → b ≠ (ad 259) → f_77 b = f b) → lv_has ls 1 [(0, .ref (ad 255))] → W p l e rm_X11_readsPlan s m [.ref (ad 255)].toArray below meth c H locs 0 0 (MQ below (va_Qi (po_X11_readsPlan g ad th L f ) (PstB g A) A) [.ref (ad 255)].toArray s rm_X11_readsPlan.cells rm_X11_readsPlan.slots A) (F0 m 77 ls []) := by
          intro zg77_za zg77_zr zg77_zl zg77_ze zg77_zn f_77 H locs ls hzg77 hP hD hS hT hfr hl
          refine lv_aload_n hx hb dX11_readsPlan_77 rfl (lv_at hl 0 rfl) ?_
          refine M0e hT (fun v0_30 v2_30 v3_30 v4_30 v5_30 v6_30 v8_30 v9_30 v12_30 v13_30 v14_30 v15_30 v16_30 v17_30 v18_30 v19_30 v20_30 v21_30 v22_30 v23_30 v25_30 v36_30 v37_30 v38_30 v39_30 v40_30 v45_30 v46_30 v47_30 v48_30 v50_30 v51_30 v53_30 v55_30 hf31 hv0_30 hv2_30 hg2_30 hv3_30 hg3_30 hv4_30 hg4_30 hv5_30 hg5_30 hv6_30 hg6_30 hv8_30 hg8_30 hv9_30 hg9_30 hv12_30 hv13_30 hg13_30 hv14_30 hg14_30 hv15_30 hg15_30 hv17_30 hg17_30 hv20_30 hg20_30 hv23_30 hg23_30 hv25_30 hg25_30 hv36_30 hg36_30 hv47_30 hg47_30 hv48_30 hg48_30 hv53_30 hg53_30 hv55_30 hg55_30 hrel0_30 => ?_)
          have hg15_30 : v15_30.toInt = th 11 := hg15_30
          have hg20_30 : v20_30.toInt = th 14 := hg20_30
          refine pl_get (v := .int v4_30) hx hb hts (fun w h => mT (inX11 w h)) hown hG.1 hP (hst.1 255 (by decide)) hf31 rfl 4 (by decide) (hts _ (mT wg_1340)) (fun _ h => h) rfl dX11_readsPlan_78 ?_
          have hg4_30 : v4_30.toInt = zg77_ze := hg4_30
          exact ret_i (ty := .int) hx hb hr hlocks (rfl) hP hD hS (Nat.le_of_ble_eq_true rfl) (Nat.le_of_ble_eq_true rfl) (⟨rfl, ⟨zg77_za, zg77_zr, zg77_zl, zg77_ze, zg77_zn, trivial, TI.cast hT (by funext q; by_cases hq0 : q = 36; (subst hq0; rfl); by_cases hq1 : q = 42; (subst hq1; rfl); by_cases hq2 : q = 41; (subst hq2; rfl); by_cases hq3 : q = 40; (subst hq3; rfl); by_cases hq4 : q = 37; (subst hq4; rfl); simp only [gset, if_neg hq0, if_neg hq1, if_neg hq2, if_neg hq3, if_neg hq4])⟩, hfr, hv4_30⟩) dX11_readsPlan_81
        refine lv_icmp_ne (tgt := 77) hx hb dX11_readsPlan_58 (by decide) (fun c32 => ?_) (fun c32 => ?_)
        ·
          have ocm1 : ((-1) : Int32).toInt = (-1) := by decide
          have cc33 : v4_28.toInt ≠ ((-1) : Int32).toInt := i32_ne c32
          have hb34 : In v4_28 0 500 := In.ne1 hv4_28 (⟨by decide, by decide⟩ : In (-1) (-1) (-1)) cc33 (by decide) (by decide)
          exact hJ77 zg53_za zg53_zr zg53_zl zg53_ze zg53_zn _ _ _ _ (show (0 ≤ zg53_za ∧ zg53_za ≤ 500) from (by have ob13 : (0 : Int) ≤ (th 13) ∧ (th 13) ≤ 500 := (b0_13 hT :); have ob35 : (0 : Int) ≤ (th 35) ∧ (th 35) ≤ 63 := (b0_35 hT :); have ob36 : (0 : Int) ≤ zg53_zn ∧ zg53_zn ≤ 20 := (b0_36 hT :); have ob37 : (0 : Int) ≤ zg53_za ∧ zg53_za ≤ 500 := (b0_37 hT :); have ob40 : (0 : Int) ≤ zg53_zr ∧ zg53_zr ≤ 500 := (b0_40 hT :); have ob41 : (0 : Int) ≤ zg53_zl ∧ zg53_zl ≤ 500 := (b0_41 hT :); have ob42 : ((-1) : Int) ≤ zg53_ze ∧ zg53_ze ≤ 500 := (b0_42 hT :); have ob43 : ((-1) : Int) ≤ (th 43) ∧ (th 43) ≤ 1 := (b0_43 hT :); obtain ⟨o0a, o0b⟩ := (hv2_28 : In _ _ _); obtain ⟨o1a, o1b⟩ := (hv3_28 : In _ _ _); obtain ⟨o2a, o2b⟩ := (hb34 : In _ _ _); obtain ⟨o3a, o3b⟩ := (hv5_28 : In _ _ _); obtain ⟨o4a, o4b⟩ := (hv6_28 : In _ _ _); obtain ⟨o5a, o5b⟩ := (hv8_28 : In _ _ _); obtain ⟨o6a, o6b⟩ := (hv9_28 : In _ _ _); obtain ⟨o7a, o7b⟩ := (hv13_28 : In _ _ _); omega)) hP hD hS (TI.cast hT (by funext q; by_cases hq0 : q = 36; (subst hq0; rfl); by_cases hq1 : q = 42; (subst hq1; rfl); by_cases hq2 : q = 41; (subst hq2; rfl); by_cases hq3 : q = 40; (subst hq3; rfl); by_cases hq4 : q = 37; (subst hq4; rfl); simp only [gset, if_neg hq0, if_neg hq1, if_neg hq2, if_neg hq3, if_neg hq4])) hfr (lv_sub hl [0] rfl)
        ·
          have ocm1 : ((-1) : Int32).toInt = (-1) := by decide
          have cc35 : v4_28.toInt = ((-1) : Int32).toInt := congrArg Int32.toInt c32
          have hb36 : In v4_28 (-1) (-1) := In.eq1 hv4_28 (⟨by decide, by decide⟩ : In (-1) (-1) (-1)) cc35 (by decide) (by decide)
          refine lv_aload_n hx hb dX11_readsPlan_61 rfl (lv_at hl 0 rfl) ?_
          refine call_i (run_V (rm := rm_X11_look) hx hb hml hown hts (s_X11_look l g ad (gset (gset (gset (gset (gset th 37 zg53_za) 40 zg53_zr) 41 zg53_zl) 42 zg53_ze) 36 zg53_zn) _ _ _  hst hT ) cV_X11_look wg_1529 ⟨Nat.le_of_ble_eq_true rfl, Nat.le_of_ble_eq_true rfl⟩ hG hE hA hP hD hS (hst.1 255 (by decide)) hf29 rfl rfl hl.1 (As := []) (rest := []) rfl (Nat.le_of_ble_eq_true rfl) dX11_readsPlan_62 ⟨Nat.le_of_ble_eq_true rfl, Nat.le_of_ble_eq_true rfl⟩) hA hD hS (fun r37 L38 f39 H locs hp40 hP hD hS => ?_)
          obtain ⟨eL41L, eL41T, eL41F, eL41R⟩ := hp40
          have eL41L : L38 = L := eL41L
          rw [eL41L] at hP hD
          obtain ⟨zz42, hzz42, eL41T⟩ := eL41T
          have hT : TI g ad (gset (gset (gset (gset (gset (gset th 37 zg53_za) 40 zg53_zr) 41 zg53_zl) 42 zg53_ze) 36 zg53_zn) 37 zz42) f39 := eL41T
          have hT : TI g ad (gset (gset (gset (gset (gset th 40 zg53_zr) 41 zg53_zl) 42 zg53_ze) 36 zg53_zn) 37 zz42) f39 := TI.cast hT (by funext q; by_cases hq0 : q = 37; (subst hq0; rfl); by_cases hq1 : q = 36; (subst hq1; rfl); by_cases hq2 : q = 42; (subst hq2; rfl); by_cases hq3 : q = 41; (subst hq3; rfl); by_cases hq4 : q = 40; (subst hq4; rfl); simp only [gset, if_neg hq0, if_neg hq1, if_neg hq2, if_neg hq3, if_neg hq4])
          have eL41F : ∀ b, b ≠ (ad 255) → f39 b = f_53 b := eL41F
          have hfr : (∀ b, b ≠ (ad 255) → b ≠ (ad 259) → f39 b = f b) := fun b z0_ z1_ => (eL41F b z0_).trans (hfr b z0_ z1_)
          have eL41R : In r37 (-1) 255 := eL41R
          refine lv_iconst (v := (-1)) hx hb dX11_readsPlan_65 (by decide) ?_
          refine lv_icmp_eq (tgt := 77) hx hb dX11_readsPlan_66 (by decide) (fun c43 => ?_) (fun c43 => ?_)
          ·
            have ocm1 : ((-1) : Int32).toInt = (-1) := by decide
            have cc44 : r37.toInt = ((-1) : Int32).toInt := congrArg Int32.toInt c43
            have hb45 : In r37 (-1) (-1) := In.eq1 eL41R (⟨by decide, by decide⟩ : In (-1) (-1) (-1)) cc44 (by decide) (by decide)
            exact hJ77 zz42 zg53_zr zg53_zl zg53_ze zg53_zn _ _ _ _ (show (0 ≤ zz42 ∧ zz42 ≤ 500) from (by have ob13 : (0 : Int) ≤ (th 13) ∧ (th 13) ≤ 500 := (b0_13 hT :); have ob35 : (0 : Int) ≤ (th 35) ∧ (th 35) ≤ 63 := (b0_35 hT :); have ob36 : (0 : Int) ≤ zg53_zn ∧ zg53_zn ≤ 20 := (b0_36 hT :); have ob37 : (0 : Int) ≤ zz42 ∧ zz42 ≤ 500 := (b0_37 hT :); have ob40 : (0 : Int) ≤ zg53_zr ∧ zg53_zr ≤ 500 := (b0_40 hT :); have ob41 : (0 : Int) ≤ zg53_zl ∧ zg53_zl ≤ 500 := (b0_41 hT :); have ob42 : ((-1) : Int) ≤ zg53_ze ∧ zg53_ze ≤ 500 := (b0_42 hT :); have ob43 : ((-1) : Int) ≤ (th 43) ∧ (th 43) ≤ 1 := (b0_43 hT :); omega)) hP hD hS (TI.cast hT (by funext q; by_cases hq0 : q = 37; (subst hq0; rfl); by_cases hq1 : q = 36; (subst hq1; rfl); by_cases hq2 : q = 42; (subst hq2; rfl); by_cases hq3 : q = 41; (subst hq3; rfl); by_cases hq4 : q = 40; (subst hq4; rfl); simp only [gset, if_neg hq0, if_neg hq1, if_neg hq2, if_neg hq3, if_neg hq4])) hfr (lv_sub hl [0] rfl)
          ·
            have ocm1 : ((-1) : Int32).toInt = (-1) := by decide
            have cc46 : r37.toInt ≠ ((-1) : Int32).toInt := i32_ne c43
            have hb47 : In r37 0 255 := In.ne1 eL41R (⟨by decide, by decide⟩ : In (-1) (-1) (-1)) cc46 (by decide) (by decide)
            refine lv_aload_n hx hb dX11_readsPlan_69 rfl (lv_at hl 0 rfl) ?_
            refine lv_aload_n hx hb dX11_readsPlan_70 rfl (lv_at hl 0 rfl) ?_
            refine M0e hT (fun v0_48 v2_48 v3_48 v4_48 v5_48 v6_48 v8_48 v9_48 v12_48 v13_48 v14_48 v15_48 v16_48 v17_48 v18_48 v19_48 v20_48 v21_48 v22_48 v23_48 v25_48 v36_48 v37_48 v38_48 v39_48 v40_48 v45_48 v46_48 v47_48 v48_48 v50_48 v51_48 v53_48 v55_48 hf49 hv0_48 hv2_48 hg2_48 hv3_48 hg3_48 hv4_48 hg4_48 hv5_48 hg5_48 hv6_48 hg6_48 hv8_48 hg8_48 hv9_48 hg9_48 hv12_48 hv13_48 hg13_48 hv14_48 hg14_48 hv15_48 hg15_48 hv17_48 hg17_48 hv20_48 hg20_48 hv23_48 hg23_48 hv25_48 hg25_48 hv36_48 hg36_48 hv47_48 hg47_48 hv48_48 hg48_48 hv53_48 hg53_48 hv55_48 hg55_48 hrel0_48 => ?_)
            have hg15_48 : v15_48.toInt = th 11 := hg15_48
            have hg20_48 : v20_48.toInt = th 14 := hg20_48
            refine pl_get (v := .int v3_48) hx hb hts (fun w h => mT (inX11 w h)) hown hG.1 hP (hst.1 255 (by decide)) hf49 rfl 3 (by decide) (hts _ (mT wg_1339)) (fun _ h => h) rfl dX11_readsPlan_71 ?_
            have hg3_48 : v3_48.toInt = zz42 := hg3_48
            refine call_v (run_V (rm := rm_X11_fails) hx hb hml hown hts (s_X11_fails l g ad (gset (gset (gset (gset (gset th 40 zg53_zr) 41 zg53_zl) 42 zg53_ze) 36 zg53_zn) 37 zz42) _ _ _ v3_48 hst hT hv3_48) cV_X11_fails wg_1545 ⟨Nat.le_of_ble_eq_true rfl, Nat.le_of_ble_eq_true rfl⟩ hG hE hA hP hD hS (hst.1 255 (by decide)) hf49 rfl rfl hl.1 (As := [.int v3_48]) (rest := []) rfl (Nat.le_of_ble_eq_true rfl) dX11_readsPlan_74 ⟨Nat.le_of_ble_eq_true rfl, Nat.le_of_ble_eq_true rfl⟩) hA hD hS (fun L51 f52 H locs hp53 hP hD hS => ?_)
            obtain ⟨eL54L, eL54T, eL54F⟩ := hp53
            have eL54L : L51 = L := eL54L
            rw [eL54L] at hP hD
            obtain ⟨zz55, hzz55, eL54T⟩ := eL54T
            have hzz55 : 0 ≤ zz55 := hzz55
            have hT : TI g ad (gset (gset (gset (gset (gset (gset th 40 zg53_zr) 41 zg53_zl) 42 zg53_ze) 36 zg53_zn) 37 zz42) 42 zz55) f52 := eL54T
            have hT : TI g ad (gset (gset (gset (gset (gset th 40 zg53_zr) 41 zg53_zl) 36 zg53_zn) 37 zz42) 42 zz55) f52 := TI.cast hT (by funext q; by_cases hq0 : q = 42; (subst hq0; rfl); by_cases hq1 : q = 37; (subst hq1; rfl); by_cases hq2 : q = 36; (subst hq2; rfl); by_cases hq3 : q = 41; (subst hq3; rfl); by_cases hq4 : q = 40; (subst hq4; rfl); simp only [gset, if_neg hq0, if_neg hq1, if_neg hq2, if_neg hq3, if_neg hq4])
            have eL54F : ∀ b, b ≠ (ad 255) → f52 b = f39 b := eL54F
            have hfr : (∀ b, b ≠ (ad 255) → b ≠ (ad 259) → f52 b = f b) := fun b z0_ z1_ => (eL54F b z0_).trans (hfr b z0_ z1_)
            exact hJ77 zz42 zg53_zr zg53_zl zz55 zg53_zn _ _ _ _ (show (0 ≤ zz42 ∧ zz42 ≤ 500) from (by have ob13 : (0 : Int) ≤ (th 13) ∧ (th 13) ≤ 500 := (b0_13 hT :); have ob35 : (0 : Int) ≤ (th 35) ∧ (th 35) ≤ 63 := (b0_35 hT :); have ob36 : (0 : Int) ≤ zg53_zn ∧ zg53_zn ≤ 20 := (b0_36 hT :); have ob37 : (0 : Int) ≤ zz42 ∧ zz42 ≤ 500 := (b0_37 hT :); have ob40 : (0 : Int) ≤ zg53_zr ∧ zg53_zr ≤ 500 := (b0_40 hT :); have ob41 : (0 : Int) ≤ zg53_zl ∧ zg53_zl ≤ 500 := (b0_41 hT :); have ob42 : ((-1) : Int) ≤ zz55 ∧ zz55 ≤ 500 := (b0_42 hT :); have ob43 : ((-1) : Int) ≤ (th 43) ∧ (th 43) ≤ 1 := (b0_43 hT :); omega)) hP hD hS (TI.cast hT (by funext q; by_cases hq0 : q = 42; (subst hq0; rfl); by_cases hq1 : q = 37; (subst hq1; rfl); by_cases hq2 : q = 36; (subst hq2; rfl); by_cases hq3 : q = 41; (subst hq3; rfl); by_cases hq4 : q = 40; (subst hq4; rfl); simp only [gset, if_neg hq0, if_neg hq1, if_neg hq2, if_neg hq3, if_neg hq4])) hfr (lv_sub hl [0] rfl)
      refine lv_icmp_ne (tgt := 53) hx hb dX11_readsPlan_24 (by decide) (fun c56 => ?_) (fun c56 => ?_)
      ·
        have ocm1 : ((-1) : Int32).toInt = (-1) := by decide
        have cc57 : v4_26.toInt ≠ ((-1) : Int32).toInt := i32_ne c56
        have hb58 : In v4_26 0 500 := In.ne1 hv4_26 (⟨by decide, by decide⟩ : In (-1) (-1) (-1)) cc57 (by decide) (by decide)
        exact hJ53 zg19_za zg19_zr zg19_zl zg19_ze zg19_zn _ _ _ _ (show (0 ≤ zg19_za ∧ zg19_za ≤ 500) from (by have ob13 : (0 : Int) ≤ (th 13) ∧ (th 13) ≤ 500 := (b0_13 hT :); have ob35 : (0 : Int) ≤ (th 35) ∧ (th 35) ≤ 63 := (b0_35 hT :); have ob36 : (0 : Int) ≤ zg19_zn ∧ zg19_zn ≤ 20 := (b0_36 hT :); have ob37 : (0 : Int) ≤ zg19_za ∧ zg19_za ≤ 500 := (b0_37 hT :); have ob40 : (0 : Int) ≤ zg19_zr ∧ zg19_zr ≤ 500 := (b0_40 hT :); have ob41 : (0 : Int) ≤ zg19_zl ∧ zg19_zl ≤ 500 := (b0_41 hT :); have ob42 : ((-1) : Int) ≤ zg19_ze ∧ zg19_ze ≤ 500 := (b0_42 hT :); have ob43 : ((-1) : Int) ≤ (th 43) ∧ (th 43) ≤ 1 := (b0_43 hT :); obtain ⟨o0a, o0b⟩ := (hv2_26 : In _ _ _); obtain ⟨o1a, o1b⟩ := (hv3_26 : In _ _ _); obtain ⟨o2a, o2b⟩ := (hb58 : In _ _ _); obtain ⟨o3a, o3b⟩ := (hv5_26 : In _ _ _); obtain ⟨o4a, o4b⟩ := (hv6_26 : In _ _ _); obtain ⟨o5a, o5b⟩ := (hv8_26 : In _ _ _); obtain ⟨o6a, o6b⟩ := (hv9_26 : In _ _ _); obtain ⟨o7a, o7b⟩ := (hv13_26 : In _ _ _); omega)) hP hD hS (TI.cast hT (by funext q; by_cases hq0 : q = 36; (subst hq0; rfl); by_cases hq1 : q = 42; (subst hq1; rfl); by_cases hq2 : q = 41; (subst hq2; rfl); by_cases hq3 : q = 40; (subst hq3; rfl); by_cases hq4 : q = 37; (subst hq4; rfl); simp only [gset, if_neg hq0, if_neg hq1, if_neg hq2, if_neg hq3, if_neg hq4])) hfr (lv_sub hl [0] rfl)
      ·
        have ocm1 : ((-1) : Int32).toInt = (-1) := by decide
        have cc59 : v4_26.toInt = ((-1) : Int32).toInt := congrArg Int32.toInt c56
        have hb60 : In v4_26 (-1) (-1) := In.eq1 hv4_26 (⟨by decide, by decide⟩ : In (-1) (-1) (-1)) cc59 (by decide) (by decide)
        refine lv_aload_n hx hb dX11_readsPlan_27 rfl (lv_at hl 0 rfl) ?_
        refine call_i (run_V (rm := rm_X11_look) hx hb hml hown hts (s_X11_look l g ad (gset (gset (gset (gset (gset th 37 zg19_za) 40 zg19_zr) 41 zg19_zl) 42 zg19_ze) 36 zg19_zn) _ _ _  hst hT ) cV_X11_look wg_1529 ⟨Nat.le_of_ble_eq_true rfl, Nat.le_of_ble_eq_true rfl⟩ hG hE hA hP hD hS (hst.1 255 (by decide)) hf27 rfl rfl hl.1 (As := []) (rest := []) rfl (Nat.le_of_ble_eq_true rfl) dX11_readsPlan_28 ⟨Nat.le_of_ble_eq_true rfl, Nat.le_of_ble_eq_true rfl⟩) hA hD hS (fun r61 L62 f63 H locs hp64 hP hD hS => ?_)
        obtain ⟨eL65L, eL65T, eL65F, eL65R⟩ := hp64
        have eL65L : L62 = L := eL65L
        rw [eL65L] at hP hD
        obtain ⟨zz66, hzz66, eL65T⟩ := eL65T
        have hT : TI g ad (gset (gset (gset (gset (gset (gset th 37 zg19_za) 40 zg19_zr) 41 zg19_zl) 42 zg19_ze) 36 zg19_zn) 37 zz66) f63 := eL65T
        have hT : TI g ad (gset (gset (gset (gset (gset th 40 zg19_zr) 41 zg19_zl) 42 zg19_ze) 36 zg19_zn) 37 zz66) f63 := TI.cast hT (by funext q; by_cases hq0 : q = 37; (subst hq0; rfl); by_cases hq1 : q = 36; (subst hq1; rfl); by_cases hq2 : q = 42; (subst hq2; rfl); by_cases hq3 : q = 41; (subst hq3; rfl); by_cases hq4 : q = 40; (subst hq4; rfl); simp only [gset, if_neg hq0, if_neg hq1, if_neg hq2, if_neg hq3, if_neg hq4])
        have eL65F : ∀ b, b ≠ (ad 255) → f63 b = f_19 b := eL65F
        have hfr : (∀ b, b ≠ (ad 255) → b ≠ (ad 259) → f63 b = f b) := fun b z0_ z1_ => (eL65F b z0_).trans (hfr b z0_ z1_)
        have eL65R : In r61 (-1) 255 := eL65R
        refine lv_bipush (v := 59) hx hb dX11_readsPlan_31 (by decide) ?_
        refine lv_icmp_ne (tgt := 53) hx hb dX11_readsPlan_33 (by decide) (fun c67 => ?_) (fun c67 => ?_)
        ·
          have oc59 : (59 : Int32).toInt = 59 := by decide
          have cc68 : r61.toInt ≠ (59 : Int32).toInt := i32_ne c67
          exact hJ53 zz66 zg19_zr zg19_zl zg19_ze zg19_zn _ _ _ _ (show (0 ≤ zz66 ∧ zz66 ≤ 500) from (by have ob13 : (0 : Int) ≤ (th 13) ∧ (th 13) ≤ 500 := (b0_13 hT :); have ob35 : (0 : Int) ≤ (th 35) ∧ (th 35) ≤ 63 := (b0_35 hT :); have ob36 : (0 : Int) ≤ zg19_zn ∧ zg19_zn ≤ 20 := (b0_36 hT :); have ob37 : (0 : Int) ≤ zz66 ∧ zz66 ≤ 500 := (b0_37 hT :); have ob40 : (0 : Int) ≤ zg19_zr ∧ zg19_zr ≤ 500 := (b0_40 hT :); have ob41 : (0 : Int) ≤ zg19_zl ∧ zg19_zl ≤ 500 := (b0_41 hT :); have ob42 : ((-1) : Int) ≤ zg19_ze ∧ zg19_ze ≤ 500 := (b0_42 hT :); have ob43 : ((-1) : Int) ≤ (th 43) ∧ (th 43) ≤ 1 := (b0_43 hT :); omega)) hP hD hS (TI.cast hT (by funext q; by_cases hq0 : q = 37; (subst hq0; rfl); by_cases hq1 : q = 36; (subst hq1; rfl); by_cases hq2 : q = 42; (subst hq2; rfl); by_cases hq3 : q = 41; (subst hq3; rfl); by_cases hq4 : q = 40; (subst hq4; rfl); simp only [gset, if_neg hq0, if_neg hq1, if_neg hq2, if_neg hq3, if_neg hq4])) hfr (lv_sub hl [0] rfl)
        ·
          have oc59 : (59 : Int32).toInt = 59 := by decide
          have cc69 : r61.toInt = (59 : Int32).toInt := congrArg Int32.toInt c67
          have hb70 : In r61 59 59 := In.eq1 eL65R (⟨by decide, by decide⟩ : In 59 59 59) cc69 (by decide) (by decide)
          refine lv_aload_n hx hb dX11_readsPlan_36 rfl (lv_at hl 0 rfl) ?_
          refine lv_dup hx hb dX11_readsPlan_37 rfl ?_
          refine M0e hT (fun v0_71 v2_71 v3_71 v4_71 v5_71 v6_71 v8_71 v9_71 v12_71 v13_71 v14_71 v15_71 v16_71 v17_71 v18_71 v19_71 v20_71 v21_71 v22_71 v23_71 v25_71 v36_71 v37_71 v38_71 v39_71 v40_71 v45_71 v46_71 v47_71 v48_71 v50_71 v51_71 v53_71 v55_71 hf72 hv0_71 hv2_71 hg2_71 hv3_71 hg3_71 hv4_71 hg4_71 hv5_71 hg5_71 hv6_71 hg6_71 hv8_71 hg8_71 hv9_71 hg9_71 hv12_71 hv13_71 hg13_71 hv14_71 hg14_71 hv15_71 hg15_71 hv17_71 hg17_71 hv20_71 hg20_71 hv23_71 hg23_71 hv25_71 hg25_71 hv36_71 hg36_71 hv47_71 hg47_71 hv48_71 hg48_71 hv53_71 hg53_71 hv55_71 hg55_71 hrel0_71 => ?_)
          have hg15_71 : v15_71.toInt = th 11 := hg15_71
          have hg20_71 : v20_71.toInt = th 14 := hg20_71
          refine pl_get (v := .int v3_71) hx hb hts (fun w h => mT (inX11 w h)) hown hG.1 hP (hst.1 255 (by decide)) hf72 rfl 3 (by decide) (hts _ (mT wg_1339)) (fun _ h => h) rfl dX11_readsPlan_38 ?_
          have hg3_71 : v3_71.toInt = zz66 := hg3_71
          refine lv_iconst (v := 1) hx hb dX11_readsPlan_41 (by decide) ?_
          refine lv_iadd hx hb dX11_readsPlan_42 ?_
          refine lv_topi (fun x73 ex73 => ?_)
          have hb74 : In x73 1 501 := ex73 ▸ In.add hv3_71 (⟨by decide, by decide⟩ : In 1 1 1) (by decide) (by decide) (by decide) (by decide)
          have et75 : x73.toInt = v3_71.toInt + 1 := In.adde ex73 hv3_71 (k := 1) (by decide) (by decide) (by decide)
          refine pl_put (ty := .int) (v := .int x73) (fs' := [.int v0_71, .ref (ad 256), .int v2_71, .int x73, .int v4_71, .int v5_71, .int v6_71, .ref (ad 257), .int v8_71, .int v9_71, .ref (ad 258), .ref (ad 259), .int v12_71, .int v13_71, .int v14_71, .int v15_71, .int v16_71, .int v17_71, .int v18_71, .int v19_71, .int v20_71, .long v21_71, .long v22_71, .int v23_71, .ref (ad 260), .int v25_71, .ref (ad 261), .ref (ad 262), .ref (ad 263), .ref (ad 264), .ref (ad 265), .ref (ad 266), .ref (ad 267), .ref (ad 268), .ref (ad 269), .ref (ad 270), .int v36_71, .int v37_71, .int v38_71, .int v39_71, .int v40_71, .ref (ad 271), .ref (ad 272), .ref (ad 273), .ref (ad 274), .long v45_71, .long v46_71, .int v47_71, .int v48_71, .ref (ad 275), .int v50_71, .int v51_71, .ref (ad 276), .int v53_71, .ref (ad 277), .int v55_71]) hx hb hts (fun w h => mT (inX11 w h)) tyX11 tyX11_ok nmX11 hown hG.1 hP hD hS (hst.1 255 (by decide)) hf72 rfl 3 (by decide) (hts _ (mT wg_1339)) (fun _ h => h) rfl (by decide +kernel) (rfl) (rfl) (Nat.le_of_ble_eq_true rfl) rfl dX11_readsPlan_43 (fun H locs f76 hf77 ho78 hP hD hS => ?_)
          have hfr : (∀ b, b ≠ (ad 255) → b ≠ (ad 259) → f76 b = f b) := fun b z0_ z1_ => (ho78 b z0_).trans (hfr b z0_ z1_)
          refine lv_aload_n hx hb dX11_readsPlan_46 rfl (lv_at hl 0 rfl) ?_
          have hT := TI.updMG (th' := (gset (gset (gset (gset (gset (gset th 40 zg19_zr) 41 zg19_zl) 42 zg19_ze) 36 zg19_zn) 37 zz66) 37 (x73.toInt))) hT hst (k := 0) (by decide) hf77 ho78 ⟨v0_71, v2_71, x73, v4_71, v5_71, v6_71, v8_71, v9_71, v12_71, v13_71, v14_71, v15_71, v16_71, v17_71, v18_71, v19_71, v20_71, v21_71, v22_71, v23_71, v25_71, v36_71, v37_71, v38_71, v39_71, v40_71, v45_71, v46_71, v47_71, v48_71, v50_71, v51_71, v53_71, v55_71, rfl, hv0_71, hv2_71, hg2_71, (In.mk (by have ob13 : (0 : Int) ≤ (th 13) ∧ (th 13) ≤ 500 := (b0_13 hT :); have ob35 : (0 : Int) ≤ (th 35) ∧ (th 35) ≤ 63 := (b0_35 hT :); have ob36 : (0 : Int) ≤ zg19_zn ∧ zg19_zn ≤ 20 := (b0_36 hT :); have ob37 : (0 : Int) ≤ zz66 ∧ zz66 ≤ 500 := (b0_37 hT :); have ob40 : (0 : Int) ≤ zg19_zr ∧ zg19_zr ≤ 500 := (b0_40 hT :); have ob41 : (0 : Int) ≤ zg19_zl ∧ zg19_zl ≤ 500 := (b0_41 hT :); have ob42 : ((-1) : Int) ≤ zg19_ze ∧ zg19_ze ≤ 500 := (b0_42 hT :); have ob43 : ((-1) : Int) ≤ (th 43) ∧ (th 43) ≤ 1 := (b0_43 hT :); obtain ⟨o0a, o0b⟩ := (hb74 : In _ _ _); obtain ⟨o1a, o1b⟩ := (hv2_71 : In _ _ _); obtain ⟨o2a, o2b⟩ := (hv4_71 : In _ _ _); obtain ⟨o3a, o3b⟩ := (hv5_71 : In _ _ _); obtain ⟨o4a, o4b⟩ := (hv6_71 : In _ _ _); obtain ⟨o5a, o5b⟩ := (hv8_71 : In _ _ _); obtain ⟨o6a, o6b⟩ := (hv9_71 : In _ _ _); obtain ⟨o7a, o7b⟩ := (hv13_71 : In _ _ _); obtain ⟨o8a, o8b⟩ := (hv3_71 : In _ _ _); omega) (by have ob13 : (0 : Int) ≤ (th 13) ∧ (th 13) ≤ 500 := (b0_13 hT :); have ob35 : (0 : Int) ≤ (th 35) ∧ (th 35) ≤ 63 := (b0_35 hT :); have ob36 : (0 : Int) ≤ zg19_zn ∧ zg19_zn ≤ 20 := (b0_36 hT :); have ob37 : (0 : Int) ≤ zz66 ∧ zz66 ≤ 500 := (b0_37 hT :); have ob40 : (0 : Int) ≤ zg19_zr ∧ zg19_zr ≤ 500 := (b0_40 hT :); have ob41 : (0 : Int) ≤ zg19_zl ∧ zg19_zl ≤ 500 := (b0_41 hT :); have ob42 : ((-1) : Int) ≤ zg19_ze ∧ zg19_ze ≤ 500 := (b0_42 hT :); have ob43 : ((-1) : Int) ≤ (th 43) ∧ (th 43) ≤ 1 := (b0_43 hT :); obtain ⟨o0a, o0b⟩ := (hb74 : In _ _ _); obtain ⟨o1a, o1b⟩ := (hv2_71 : In _ _ _); obtain ⟨o2a, o2b⟩ := (hv4_71 : In _ _ _); obtain ⟨o3a, o3b⟩ := (hv5_71 : In _ _ _); obtain ⟨o4a, o4b⟩ := (hv6_71 : In _ _ _); obtain ⟨o5a, o5b⟩ := (hv8_71 : In _ _ _); obtain ⟨o6a, o6b⟩ := (hv9_71 : In _ _ _); obtain ⟨o7a, o7b⟩ := (hv13_71 : In _ _ _); obtain ⟨o8a, o8b⟩ := (hv3_71 : In _ _ _); omega)), rfl, hv4_71, hg4_71, hv5_71, hg5_71, hv6_71, hg6_71, hv8_71, hg8_71, hv9_71, hg9_71, hv12_71, hv13_71, hg13_71, hv14_71, hg14_71, hv15_71, hg15_71, hv17_71, hg17_71, hv20_71, hg20_71, hv23_71, hg23_71, hv25_71, hg25_71, hv36_71, hg36_71, hv47_71, hg47_71, hv48_71, hg48_71, hv53_71, hg53_71, hv55_71, hg55_71, hrel0_71⟩ (fun q hq => ((gset_ne (fun e => hq (by subst e; decide))).trans rfl))
          have hT : TI g ad (gset (gset (gset (gset (gset th 40 zg19_zr) 41 zg19_zl) 42 zg19_ze) 36 zg19_zn) 37 x73.toInt) f76 := TI.cast hT (by funext q; by_cases hq0 : q = 37; (subst hq0; rfl); by_cases hq1 : q = 36; (subst hq1; rfl); by_cases hq2 : q = 42; (subst hq2; rfl); by_cases hq3 : q = 41; (subst hq3; rfl); by_cases hq4 : q = 40; (subst hq4; rfl); simp only [gset, if_neg hq0, if_neg hq1, if_neg hq2, if_neg hq3, if_neg hq4])
          refine M0e hT (fun v0_79 v2_79 v3_79 v4_79 v5_79 v6_79 v8_79 v9_79 v12_79 v13_79 v14_79 v15_79 v16_79 v17_79 v18_79 v19_79 v20_79 v21_79 v22_79 v23_79 v25_79 v36_79 v37_79 v38_79 v39_79 v40_79 v45_79 v46_79 v47_79 v48_79 v50_79 v51_79 v53_79 v55_79 hf80 hv0_79 hv2_79 hg2_79 hv3_79 hg3_79 hv4_79 hg4_79 hv5_79 hg5_79 hv6_79 hg6_79 hv8_79 hg8_79 hv9_79 hg9_79 hv12_79 hv13_79 hg13_79 hv14_79 hg14_79 hv15_79 hg15_79 hv17_79 hg17_79 hv20_79 hg20_79 hv23_79 hg23_79 hv25_79 hg25_79 hv36_79 hg36_79 hv47_79 hg47_79 hv48_79 hg48_79 hv53_79 hg53_79 hv55_79 hg55_79 hrel0_79 => ?_)
          have hg15_79 : v15_79.toInt = th 11 := hg15_79
          have hg20_79 : v20_79.toInt = th 14 := hg20_79
          refine call_v (run_V (rm := rm_X11_planLine) hx hb hml hown hts (s_X11_planLine l g ad (gset (gset (gset (gset (gset th 40 zg19_zr) 41 zg19_zl) 42 zg19_ze) 36 zg19_zn) 37 x73.toInt) _ _ _  hst hT ) cV_X11_planLine wg_1596 ⟨Nat.le_of_ble_eq_true rfl, Nat.le_of_ble_eq_true rfl⟩ hG hE hA hP hD hS (hst.1 255 (by decide)) hf80 rfl rfl hl.1 (As := []) (rest := []) rfl (Nat.le_of_ble_eq_true rfl) dX11_readsPlan_47 ⟨Nat.le_of_ble_eq_true rfl, Nat.le_of_ble_eq_true rfl⟩) hA hD hS (fun L82 f83 H locs hp84 hP hD hS => ?_)
          obtain ⟨eL85L, eL85T, eL85F⟩ := hp84
          have eL85L : L82 = L := eL85L
          rw [eL85L] at hP hD
          obtain ⟨zz86, zz87, zz88, zz89, zz90, hzz86, eL85T⟩ := eL85T
          have hzz86 : x73.toInt ≤ zz86 ∧ zz86 ≤ 500 := hzz86
          have hT : TI g ad (gset (gset (gset (gset (gset (gset (gset (gset (gset (gset th 40 zg19_zr) 41 zg19_zl) 42 zg19_ze) 36 zg19_zn) 37 x73.toInt) 37 zz86) 40 zz87) 41 zz88) 42 zz89) 36 zz90) f83 := eL85T
          have hT : TI g ad (gset (gset (gset (gset (gset th 37 zz86) 40 zz87) 41 zz88) 42 zz89) 36 zz90) f83 := TI.cast hT (by funext q; by_cases hq0 : q = 36; (subst hq0; rfl); by_cases hq1 : q = 42; (subst hq1; rfl); by_cases hq2 : q = 41; (subst hq2; rfl); by_cases hq3 : q = 40; (subst hq3; rfl); by_cases hq4 : q = 37; (subst hq4; rfl); simp only [gset, if_neg hq0, if_neg hq1, if_neg hq2, if_neg hq3, if_neg hq4])
          have eL85F : ∀ b, b ≠ (ad 255) → b ≠ (ad 259) → f83 b = f76 b := eL85F
          have hfr : (∀ b, b ≠ (ad 255) → b ≠ (ad 259) → f83 b = f b) := fun b z0_ z1_ => (eL85F b z0_ z1_).trans (hfr b z0_ z1_)
          refine lv_goto (tgt := 19) hx hb dX11_readsPlan_50 (by decide) ?_
          exact ih19 zz86 zz87 zz88 zz89 zz90 _ _ _ _ (show (0 ≤ zz86 ∧ zz86 ≤ 500) from (by have ob13 : (0 : Int) ≤ (th 13) ∧ (th 13) ≤ 500 := (b0_13 hT :); have ob35 : (0 : Int) ≤ (th 35) ∧ (th 35) ≤ 63 := (b0_35 hT :); have ob36 : (0 : Int) ≤ zz90 ∧ zz90 ≤ 20 := (b0_36 hT :); have ob37 : (0 : Int) ≤ zz86 ∧ zz86 ≤ 500 := (b0_37 hT :); have ob40 : (0 : Int) ≤ zz87 ∧ zz87 ≤ 500 := (b0_40 hT :); have ob41 : (0 : Int) ≤ zz88 ∧ zz88 ≤ 500 := (b0_41 hT :); have ob42 : ((-1) : Int) ≤ zz89 ∧ zz89 ≤ 500 := (b0_42 hT :); have ob43 : ((-1) : Int) ≤ (th 43) ∧ (th 43) ≤ 1 := (b0_43 hT :); omega)) hP hD hS (TI.cast hT (by funext q; by_cases hq0 : q = 36; (subst hq0; rfl); by_cases hq1 : q = 42; (subst hq1; rfl); by_cases hq2 : q = 41; (subst hq2; rfl); by_cases hq3 : q = 40; (subst hq3; rfl); by_cases hq4 : q = 37; (subst hq4; rfl); simp only [gset, if_neg hq0, if_neg hq1, if_neg hq2, if_neg hq3, if_neg hq4])) hfr (lv_sub hl [0] rfl) (show 500 - (zz86) < ((k19 : Nat) : Int) from (by have ob13 : (0 : Int) ≤ (th 13) ∧ (th 13) ≤ 500 := (b0_13 hT :); have ob35 : (0 : Int) ≤ (th 35) ∧ (th 35) ≤ 63 := (b0_35 hT :); have ob36 : (0 : Int) ≤ zz90 ∧ zz90 ≤ 20 := (b0_36 hT :); have ob37 : (0 : Int) ≤ zz86 ∧ zz86 ≤ 500 := (b0_37 hT :); have ob40 : (0 : Int) ≤ zz87 ∧ zz87 ≤ 500 := (b0_40 hT :); have ob41 : (0 : Int) ≤ zz88 ∧ zz88 ≤ 500 := (b0_41 hT :); have ob42 : ((-1) : Int) ≤ zz89 ∧ zz89 ≤ 500 := (b0_42 hT :); have ob43 : ((-1) : Int) ≤ (th 43) ∧ (th 43) ≤ 1 := (b0_43 hT :); omega))
  exact hJ19 ((500 - zz21).toNat + 1) zz21 zz22 zz23 zz24 zz25 _ _ _ _ (show (0 ≤ zz21 ∧ zz21 ≤ 500) from (by have ob13 : (0 : Int) ≤ (th 13) ∧ (th 13) ≤ 500 := (b0_13 hT :); have ob35 : (0 : Int) ≤ (th 35) ∧ (th 35) ≤ 63 := (b0_35 hT :); have ob36 : (0 : Int) ≤ zz25 ∧ zz25 ≤ 20 := (b0_36 hT :); have ob37 : (0 : Int) ≤ zz21 ∧ zz21 ≤ 500 := (b0_37 hT :); have ob40 : (0 : Int) ≤ zz22 ∧ zz22 ≤ 500 := (b0_40 hT :); have ob41 : (0 : Int) ≤ zz23 ∧ zz23 ≤ 500 := (b0_41 hT :); have ob42 : ((-1) : Int) ≤ zz24 ∧ zz24 ≤ 500 := (b0_42 hT :); have ob43 : ((-1) : Int) ≤ (th 43) ∧ (th 43) ≤ 1 := (b0_43 hT :); omega)) hP hD hS (TI.cast hT (by funext q; by_cases hq0 : q = 36; (subst hq0; rfl); by_cases hq1 : q = 42; (subst hq1; rfl); by_cases hq2 : q = 41; (subst hq2; rfl); by_cases hq3 : q = 40; (subst hq3; rfl); by_cases hq4 : q = 37; (subst hq4; rfl); simp only [gset, if_neg hq0, if_neg hq1, if_neg hq2, if_neg hq3, if_neg hq4])) hfr (lv_sub hl [0] rfl) (msI _)
