abbrev rm_X10_feed : Room := { frames := 2, cells := 0, slots := 0, locals := 44 }
abbrev po_X10_feed (g : GG) (ad : Nat → Nat) (th : Nat → Int) (L : List Nat) (f : HP) (z1 : Int32) (z2 : Int32) (z3 : Int32) (z4 : Int32) (z5 : Int32) : Int32 → (List Nat × HP) → Prop := fun r u => u.1 = L ∧ TI g ad th u.2 ∧ (∀ b, b ≠ (ad 1) → b ≠ (ad 2) → u.2 b = f b)
set_option maxHeartbeats 4000000 in
set_option maxRecDepth 100000 in
theorem s_X10_feed (l : Launch) (g : GG) (ad : Nat → Nat) (th : Nat → Int) (L : List Nat) (f : HP) (sz : Nat) (z1 : Int32) (z2 : Int32) (z3 : Int32) (z4 : Int32) (z5 : Int32) (hst : ST ad L) (hT : TI g ad th f)  : MtI l g yX10_feed cX10_feed 6 (some .int) rm_X10_feed [.ref (ad 0), .int z1, .int z2, .int z3, .int z4, .int z5] L f sz (po_X10_feed g ad th L f z1 z2 z3 z4 z5) := by
  refine MtI.of (by decide +kernel) (Nat.le_of_ble_eq_true rfl) ?_
  intro p e s m below meth c A hEn hP hD hS ls hl
  obtain ⟨hx, hb, hr, hml, hown, hlocks, hts, hG, hA, hE, hnm⟩ := hEn
  have hown : s.vm.findClass "RulerWord" = some m.cls := hown
  have hl : lv_has ls 6 [(0, .ref (ad 0)), (1, .int z1), (2, .int z2), (3, .int z3), (4, .int z4), (5, .int z5)] := hl
  have hfr : (∀ b, b ≠ (ad 1) → b ≠ (ad 2) → f b = f b) := fun b z0_ z1_ => rfl
  refine lv_aload_n hx hb dX10_feed_0 rfl (lv_at hl 0 rfl) ?_
  obtain ⟨v15_1, v16_1, v17_1, hf2, hv15_1, hv16_1, hg16_1⟩ := hT.1 0 (by decide)
  refine pl_get (v := .ref (ad 1)) hx hb hts (fun w h => mT (inX10 w h)) hown hG.1 hP (hst.1 0 (by decide)) hf2 rfl 0 (by decide) (hts _ (mT wg_475)) (fun _ h => h) rfl dX10_feed_1 ?_
  obtain ⟨v1_3, v2_3, v3_3, v4_3, hf4, hv1_3, hv2_3, hv3_3, hv4_3⟩ := hT.1 1 (by decide)
  refine pl_getN (v := .int v1_3) hx hb hts (fun w h => mT (inX8 w h)) hown hG.1 hP (hst.1 1 (by decide)) hf4 rfl 1 (by decide) (hG.2.1 _ wn_197) (fun _ h => h) rfl dX10_feed_4 ?_
  refine lv_sipush (v := 500) hx hb dX10_feed_7 (by decide) ?_
  refine lv_icmp_le (tgt := 15) hx hb dX10_feed_10 (by decide) (fun c5 => ?_) (fun c5 => ?_)
  ·
    have cc6 : v1_3.toInt ≤ (500 : Int32).toInt := i32_le.mp c5
    have hb7 : In v1_3 0 500 := In.le1 hv1_3 (⟨by decide, by decide⟩ : In 500 500 500) cc6 (by omega) (by omega)
    refine lv_aload_n hx hb dX10_feed_15 rfl (lv_at hl 0 rfl) ?_
    refine pl_get (v := .ref (ad 1)) hx hb hts (fun w h => mT (inX10 w h)) hown hG.1 hP (hst.1 0 (by decide)) hf2 rfl 0 (by decide) (hts _ (mT wg_475)) (fun _ h => h) rfl dX10_feed_16 ?_
    refine lv_iload_n hx hb dX10_feed_19 rfl (lv_at hl 1 rfl) ?_
    refine call_v (run_VN (rm := rm_X8_put) hx hb hml hown hts (s_X8_put l g ad th _ _ _ z1 hst hT ) cV_X8_put wn_534 ⟨Nat.le_of_ble_eq_true rfl, Nat.le_of_ble_eq_true rfl⟩ hG hE hA hP hD hS (hst.1 1 (by decide)) hf4 rfl rfl hl.1 (As := [.int z1]) (rest := []) rfl (Nat.le_of_ble_eq_true rfl) dX10_feed_20 ⟨Nat.le_of_ble_eq_true rfl, Nat.le_of_ble_eq_true rfl⟩) hA hD hS (fun L9 f10 H locs hp11 hP hD hS => ?_)
    obtain ⟨eL12L, eL12T, eL12F⟩ := hp11
    have eL12L : L9 = L := eL12L
    rw [eL12L] at hP hD
    have hT : TI g ad th f10 := eL12T
    have eL12F : ∀ b, b ≠ (ad 1) → b ≠ (ad 2) → f10 b = f b := eL12F
    have hf13 := (eL12F (ad 0) (hst.ne (by decide) (by decide) (by decide)) (hst.ne (by decide) (by decide) (by decide))).trans hf2
    have hfr : (∀ b, b ≠ (ad 1) → b ≠ (ad 2) → f10 b = f b) := fun b z0_ z1_ => (eL12F b z0_ z1_).trans (hfr b z0_ z1_)
    refine lv_aload_n hx hb dX10_feed_23 rfl (lv_at hl 0 rfl) ?_
    refine pl_get (v := .ref (ad 1)) hx hb hts (fun w h => mT (inX10 w h)) hown hG.1 hP (hst.1 0 (by decide)) hf13 rfl 0 (by decide) (hts _ (mT wg_475)) (fun _ h => h) rfl dX10_feed_24 ?_
    refine lv_iload_n hx hb dX10_feed_27 rfl (lv_at hl 2 rfl) ?_
    obtain ⟨v1_14, v2_14, v3_14, v4_14, hf15, hv1_14, hv2_14, hv3_14, hv4_14⟩ := hT.1 1 (by decide)
    refine call_v (run_VN (rm := rm_X8_put) hx hb hml hown hts (s_X8_put l g ad th _ _ _ z2 hst hT ) cV_X8_put wn_534 ⟨Nat.le_of_ble_eq_true rfl, Nat.le_of_ble_eq_true rfl⟩ hG hE hA hP hD hS (hst.1 1 (by decide)) hf15 rfl rfl hl.1 (As := [.int z2]) (rest := []) rfl (Nat.le_of_ble_eq_true rfl) dX10_feed_28 ⟨Nat.le_of_ble_eq_true rfl, Nat.le_of_ble_eq_true rfl⟩) hA hD hS (fun L17 f18 H locs hp19 hP hD hS => ?_)
    obtain ⟨eL20L, eL20T, eL20F⟩ := hp19
    have eL20L : L17 = L := eL20L
    rw [eL20L] at hP hD
    have hT : TI g ad th f18 := eL20T
    have eL20F : ∀ b, b ≠ (ad 1) → b ≠ (ad 2) → f18 b = f10 b := eL20F
    have hf21 := (eL20F (ad 0) (hst.ne (by decide) (by decide) (by decide)) (hst.ne (by decide) (by decide) (by decide))).trans hf13
    have hfr : (∀ b, b ≠ (ad 1) → b ≠ (ad 2) → f18 b = f b) := fun b z0_ z1_ => (eL20F b z0_ z1_).trans (hfr b z0_ z1_)
    refine lv_aload_n hx hb dX10_feed_31 rfl (lv_at hl 0 rfl) ?_
    refine pl_get (v := .ref (ad 1)) hx hb hts (fun w h => mT (inX10 w h)) hown hG.1 hP (hst.1 0 (by decide)) hf21 rfl 0 (by decide) (hts _ (mT wg_475)) (fun _ h => h) rfl dX10_feed_32 ?_
    refine lv_iload_n hx hb dX10_feed_35 rfl (lv_at hl 3 rfl) ?_
    obtain ⟨v1_22, v2_22, v3_22, v4_22, hf23, hv1_22, hv2_22, hv3_22, hv4_22⟩ := hT.1 1 (by decide)
    refine call_v (run_VN (rm := rm_X8_put) hx hb hml hown hts (s_X8_put l g ad th _ _ _ z3 hst hT ) cV_X8_put wn_534 ⟨Nat.le_of_ble_eq_true rfl, Nat.le_of_ble_eq_true rfl⟩ hG hE hA hP hD hS (hst.1 1 (by decide)) hf23 rfl rfl hl.1 (As := [.int z3]) (rest := []) rfl (Nat.le_of_ble_eq_true rfl) dX10_feed_36 ⟨Nat.le_of_ble_eq_true rfl, Nat.le_of_ble_eq_true rfl⟩) hA hD hS (fun L25 f26 H locs hp27 hP hD hS => ?_)
    obtain ⟨eL28L, eL28T, eL28F⟩ := hp27
    have eL28L : L25 = L := eL28L
    rw [eL28L] at hP hD
    have hT : TI g ad th f26 := eL28T
    have eL28F : ∀ b, b ≠ (ad 1) → b ≠ (ad 2) → f26 b = f18 b := eL28F
    have hf29 := (eL28F (ad 0) (hst.ne (by decide) (by decide) (by decide)) (hst.ne (by decide) (by decide) (by decide))).trans hf21
    have hfr : (∀ b, b ≠ (ad 1) → b ≠ (ad 2) → f26 b = f b) := fun b z0_ z1_ => (eL28F b z0_ z1_).trans (hfr b z0_ z1_)
    refine lv_aload_n hx hb dX10_feed_39 rfl (lv_at hl 0 rfl) ?_
    refine pl_get (v := .ref (ad 1)) hx hb hts (fun w h => mT (inX10 w h)) hown hG.1 hP (hst.1 0 (by decide)) hf29 rfl 0 (by decide) (hts _ (mT wg_475)) (fun _ h => h) rfl dX10_feed_40 ?_
    refine lv_iload hx hb dX10_feed_43 (lv_at hl 4 rfl) ?_
    obtain ⟨v1_30, v2_30, v3_30, v4_30, hf31, hv1_30, hv2_30, hv3_30, hv4_30⟩ := hT.1 1 (by decide)
    refine call_v (run_VN (rm := rm_X8_put) hx hb hml hown hts (s_X8_put l g ad th _ _ _ z4 hst hT ) cV_X8_put wn_534 ⟨Nat.le_of_ble_eq_true rfl, Nat.le_of_ble_eq_true rfl⟩ hG hE hA hP hD hS (hst.1 1 (by decide)) hf31 rfl rfl hl.1 (As := [.int z4]) (rest := []) rfl (Nat.le_of_ble_eq_true rfl) dX10_feed_45 ⟨Nat.le_of_ble_eq_true rfl, Nat.le_of_ble_eq_true rfl⟩) hA hD hS (fun L33 f34 H locs hp35 hP hD hS => ?_)
    obtain ⟨eL36L, eL36T, eL36F⟩ := hp35
    have eL36L : L33 = L := eL36L
    rw [eL36L] at hP hD
    have hT : TI g ad th f34 := eL36T
    have eL36F : ∀ b, b ≠ (ad 1) → b ≠ (ad 2) → f34 b = f26 b := eL36F
    have hf37 := (eL36F (ad 0) (hst.ne (by decide) (by decide) (by decide)) (hst.ne (by decide) (by decide) (by decide))).trans hf29
    have hfr : (∀ b, b ≠ (ad 1) → b ≠ (ad 2) → f34 b = f b) := fun b z0_ z1_ => (eL36F b z0_ z1_).trans (hfr b z0_ z1_)
    refine lv_aload_n hx hb dX10_feed_48 rfl (lv_at hl 0 rfl) ?_
    refine pl_get (v := .ref (ad 1)) hx hb hts (fun w h => mT (inX10 w h)) hown hG.1 hP (hst.1 0 (by decide)) hf37 rfl 0 (by decide) (hts _ (mT wg_475)) (fun _ h => h) rfl dX10_feed_49 ?_
    refine lv_iload hx hb dX10_feed_52 (lv_at hl 5 rfl) ?_
    obtain ⟨v1_38, v2_38, v3_38, v4_38, hf39, hv1_38, hv2_38, hv3_38, hv4_38⟩ := hT.1 1 (by decide)
    refine call_v (run_VN (rm := rm_X8_put) hx hb hml hown hts (s_X8_put l g ad th _ _ _ z5 hst hT ) cV_X8_put wn_534 ⟨Nat.le_of_ble_eq_true rfl, Nat.le_of_ble_eq_true rfl⟩ hG hE hA hP hD hS (hst.1 1 (by decide)) hf39 rfl rfl hl.1 (As := [.int z5]) (rest := []) rfl (Nat.le_of_ble_eq_true rfl) dX10_feed_54 ⟨Nat.le_of_ble_eq_true rfl, Nat.le_of_ble_eq_true rfl⟩) hA hD hS (fun L41 f42 H locs hp43 hP hD hS => ?_)
    obtain ⟨eL44L, eL44T, eL44F⟩ := hp43
    have eL44L : L41 = L := eL44L
    rw [eL44L] at hP hD
    have hT : TI g ad th f42 := eL44T
    have eL44F : ∀ b, b ≠ (ad 1) → b ≠ (ad 2) → f42 b = f34 b := eL44F
    have hf45 := (eL44F (ad 0) (hst.ne (by decide) (by decide) (by decide)) (hst.ne (by decide) (by decide) (by decide))).trans hf37
    have hfr : (∀ b, b ≠ (ad 1) → b ≠ (ad 2) → f42 b = f b) := fun b z0_ z1_ => (eL44F b z0_ z1_).trans (hfr b z0_ z1_)
    refine lv_aload_n hx hb dX10_feed_57 rfl (lv_at hl 0 rfl) ?_
    refine pl_get (v := .ref (ad 1)) hx hb hts (fun w h => mT (inX10 w h)) hown hG.1 hP (hst.1 0 (by decide)) hf45 rfl 0 (by decide) (hts _ (mT wg_475)) (fun _ h => h) rfl dX10_feed_58 ?_
    obtain ⟨v1_46, v2_46, v3_46, v4_46, hf47, hv1_46, hv2_46, hv3_46, hv4_46⟩ := hT.1 1 (by decide)
    refine pl_getN (v := .int v1_46) hx hb hts (fun w h => mT (inX8 w h)) hown hG.1 hP (hst.1 1 (by decide)) hf47 rfl 1 (by decide) (hG.2.1 _ wn_197) (fun _ h => h) rfl dX10_feed_61 ?_
    exact ret_i (ty := .int) hx hb hr hlocks (rfl) hP hD hS (Nat.le_of_ble_eq_true rfl) (Nat.le_of_ble_eq_true rfl) (⟨rfl, hT, hfr⟩) dX10_feed_64
  ·
    have cc48 : (500 : Int32).toInt < v1_3.toInt := i32_nle c5
    have hb49 : In v1_3 501 520 := In.gt1 hv1_3 (⟨by decide, by decide⟩ : In 500 500 500) cc48 (by omega) (by omega)
    refine lv_iconst (v := (-1)) hx hb dX10_feed_13 (by decide) ?_
    exact ret_i (ty := .int) hx hb hr hlocks (rfl) hP hD hS (Nat.le_of_ble_eq_true rfl) (Nat.le_of_ble_eq_true rfl) (⟨rfl, hT, hfr⟩) dX10_feed_14

abbrev rm_X10_end : Room := { frames := 0, cells := 0, slots := 0, locals := 0 }
abbrev po_X10_end (g : GG) (ad : Nat → Nat) (th : Nat → Int) (L : List Nat) (f : HP) (z1 : Int32) : Int32 → (List Nat × HP) → Prop := fun r u => u.1 = L ∧ TI g ad th u.2 ∧ (∀ b, b ≠ (ad 1) → u.2 b = f b) ∧ In r 0 1
set_option maxHeartbeats 4000000 in
set_option maxRecDepth 100000 in
theorem s_X10_end (l : Launch) (g : GG) (ad : Nat → Nat) (th : Nat → Int) (L : List Nat) (f : HP) (sz : Nat) (z1 : Int32) (hst : ST ad L) (hT : TI g ad th f)  : MtI l g yX10_end cX10_end 2 (some .boolean) rm_X10_end [.ref (ad 0), .int z1] L f sz (po_X10_end g ad th L f z1) := by
  refine MtI.of (by decide +kernel) (Nat.le_of_ble_eq_true rfl) ?_
  intro p e s m below meth c A hEn hP hD hS ls hl
  obtain ⟨hx, hb, hr, hml, hown, hlocks, hts, hG, hA, hE, hnm⟩ := hEn
  have hown : s.vm.findClass "RulerWord" = some m.cls := hown
  have hl : lv_has ls 2 [(0, .ref (ad 0)), (1, .int z1)] := hl
  have hfr : (∀ b, b ≠ (ad 1) → f b = f b) := fun b z0_ => rfl
  refine lv_iload_n hx hb dX10_end_0 rfl (lv_at hl 1 rfl) ?_
  refine lv_if_lt (tgt := 15) hx hb dX10_end_1 (by decide) (fun c1 => ?_) (fun c1 => ?_)
  ·
    have cc2 : z1.toInt < (0 : Int32).toInt := i32_lt.mp c1
    have hb3 : In z1 (-2147483648) (-1) := In.lt1 (In.full z1) (⟨by decide, by decide⟩ : In 0 0 0) cc2 (by omega) (by omega)
    refine lv_iconst (v := 0) hx hb dX10_end_15 (by decide) ?_
    exact ret_i (ty := .boolean) hx hb hr hlocks (rfl) hP hD hS (Nat.le_of_ble_eq_true rfl) (Nat.le_of_ble_eq_true rfl) (⟨rfl, hT, hfr, (⟨by decide, by decide⟩ : In 0 0 1)⟩) dX10_end_16
  ·
    have cc4 : (0 : Int32).toInt ≤ z1.toInt := i32_nlt c1
    have hb5 : In z1 0 2147483647 := In.ge1 (In.full z1) (⟨by decide, by decide⟩ : In 0 0 0) cc4 (by omega) (by omega)
    refine lv_iload_n hx hb dX10_end_4 rfl (lv_at hl 1 rfl) ?_
    refine lv_aload_n hx hb dX10_end_5 rfl (lv_at hl 0 rfl) ?_
    obtain ⟨v15_6, v16_6, v17_6, hf7, hv15_6, hv16_6, hg16_6⟩ := hT.1 0 (by decide)
    refine pl_get (v := .ref (ad 1)) hx hb hts (fun w h => mT (inX10 w h)) hown hG.1 hP (hst.1 0 (by decide)) hf7 rfl 0 (by decide) (hts _ (mT wg_475)) (fun _ h => h) rfl dX10_end_6 ?_
    obtain ⟨v1_8, v2_8, v3_8, v4_8, hf9, hv1_8, hv2_8, hv3_8, hv4_8⟩ := hT.1 1 (by decide)
    refine pl_getN (v := .int v1_8) hx hb hts (fun w h => mT (inX8 w h)) hown hG.1 hP (hst.1 1 (by decide)) hf9 rfl 1 (by decide) (hG.2.1 _ wn_197) (fun _ h => h) rfl dX10_end_9 ?_
    refine lv_icmp_le (tgt := 17) hx hb dX10_end_12 (by decide) (fun c10 => ?_) (fun c10 => ?_)
    ·
      have cc11 : z1.toInt ≤ v1_8.toInt := i32_le.mp c10
      have hb12 : In z1 0 520 := In.le1 hb5 hv1_8 cc11 (by omega) (by omega)
      refine lv_aload_n hx hb dX10_end_17 rfl (lv_at hl 0 rfl) ?_
      refine pl_get (v := .ref (ad 1)) hx hb hts (fun w h => mT (inX10 w h)) hown hG.1 hP (hst.1 0 (by decide)) hf7 rfl 0 (by decide) (hts _ (mT wg_475)) (fun _ h => h) rfl dX10_end_18 ?_
      refine lv_iload_n hx hb dX10_end_21 rfl (lv_at hl 1 rfl) ?_
      refine pl_putN (ty := .int) (v := .int z1) (fs' := [.ref (ad 2), .int z1, .int v2_8, .int v3_8, .int v4_8]) hx hb hts (fun w h => mT (inX8 w h)) tyX8 tyX8_ok nmX8 hown hG.1 hP hD hS (hst.1 1 (by decide)) hf9 rfl 1 (by decide) (hG.2.1 _ wn_197) (fun _ h => h) rfl (by decide +kernel) (rfl) (rfl) (Nat.le_of_ble_eq_true rfl) rfl dX10_end_22 (fun H locs f13 hf14 ho15 hP hD hS => ?_)
      have hf16 := (ho15 (ad 0) (hst.ne (by decide) (by decide) (by decide))).trans hf7
      have hfr : (∀ b, b ≠ (ad 1) → f13 b = f b) := fun b z0_ => (ho15 b z0_).trans (hfr b z0_)
      refine lv_iconst (v := 1) hx hb dX10_end_25 (by decide) ?_
      have hT := TI.updA hT hst (k := 1) (by decide) hf14 ho15 ⟨z1, v2_8, v3_8, v4_8, rfl, hb12, hv2_8, hv3_8, hv4_8⟩
      exact ret_i (ty := .boolean) hx hb hr hlocks (rfl) hP hD hS (Nat.le_of_ble_eq_true rfl) (Nat.le_of_ble_eq_true rfl) (⟨rfl, hT, hfr, (⟨by decide, by decide⟩ : In 1 0 1)⟩) dX10_end_26
    ·
      have cc17 : v1_8.toInt < z1.toInt := i32_nle c10
      have hb18 : In z1 1 2147483647 := In.gt1 hb5 hv1_8 cc17 (by omega) (by omega)
      refine lv_iconst (v := 0) hx hb dX10_end_15 (by decide) ?_
      exact ret_i (ty := .boolean) hx hb hr hlocks (rfl) hP hD hS (Nat.le_of_ble_eq_true rfl) (Nat.le_of_ble_eq_true rfl) (⟨rfl, hT, hfr, (⟨by decide, by decide⟩ : In 0 0 1)⟩) dX10_end_16

abbrev rm_X10_plan : Room := { frames := 8, cells := 0, slots := 0, locals := 221 }
abbrev po_X10_plan (g : GG) (ad : Nat → Nat) (th : Nat → Int) (L : List Nat) (f : HP)  : Int32 → (List Nat × HP) → Prop := fun r u => u.1 = L ∧ TI g ad th u.2 ∧ (∀ b, b ≠ (ad 1) → b ≠ (ad 10) → b ≠ (ad 11) → b ≠ (ad 12) → b ≠ (ad 9) → u.2 b = f b)
set_option maxHeartbeats 4000000 in
set_option maxRecDepth 100000 in
theorem s_X10_plan (l : Launch) (g : GG) (ad : Nat → Nat) (th : Nat → Int) (L : List Nat) (f : HP) (sz : Nat)  (hst : ST ad L) (hT : TI g ad th f)  : MtI l g yX10_plan cX10_plan 1 (some .int) rm_X10_plan [.ref (ad 0)] L f sz (po_X10_plan g ad th L f ) := by
  refine MtI.of (by decide +kernel) (Nat.le_of_ble_eq_true rfl) ?_
  intro p e s m below meth c A hEn hP hD hS ls hl
  obtain ⟨hx, hb, hr, hml, hown, hlocks, hts, hG, hA, hE, hnm⟩ := hEn
  have hown : s.vm.findClass "RulerWord" = some m.cls := hown
  have hl : lv_has ls 1 [(0, .ref (ad 0))] := hl
  have hfr : (∀ b, b ≠ (ad 1) → b ≠ (ad 10) → b ≠ (ad 11) → b ≠ (ad 12) → b ≠ (ad 9) → f b = f b) := fun b z0_ z1_ z2_ z3_ z4_ => rfl
  refine lv_aload_n hx hb dX10_plan_0 rfl (lv_at hl 0 rfl) ?_
  obtain ⟨v15_1, v16_1, v17_1, hf2, hv15_1, hv16_1, hg16_1⟩ := hT.1 0 (by decide)
  refine pl_get (v := .ref (ad 9)) hx hb hts (fun w h => mT (inX10 w h)) hown hG.1 hP (hst.1 0 (by decide)) hf2 rfl 4 (by decide) (hts _ (mT wg_479)) (fun _ h => h) rfl dX10_plan_1 ?_
  refine lv_aload_n hx hb dX10_plan_4 rfl (lv_at hl 0 rfl) ?_
  refine pl_get (v := .ref (ad 1)) hx hb hts (fun w h => mT (inX10 w h)) hown hG.1 hP (hst.1 0 (by decide)) hf2 rfl 0 (by decide) (hts _ (mT wg_475)) (fun _ h => h) rfl dX10_plan_5 ?_
  obtain ⟨v1_3, hf4, hv1_3⟩ := hT.1 9 (by decide)
  refine call_i (run_VN (rm := rm_X5_readFrom) hx hb hml hown hts (s_X5_readFrom l g ad th _ _ _  hst hT ) cV_X5_readFrom wn_676 ⟨Nat.le_of_ble_eq_true rfl, Nat.le_of_ble_eq_true rfl⟩ hG hE hA hP hD hS (hst.1 9 (by decide)) hf4 rfl rfl hl.1 (As := [.ref (ad 1)]) (rest := []) rfl (Nat.le_of_ble_eq_true rfl) dX10_plan_8 ⟨Nat.le_of_ble_eq_true rfl, Nat.le_of_ble_eq_true rfl⟩) hA hD hS (fun r5 L6 f7 H locs hp8 hP hD hS => ?_)
  obtain ⟨eL9L, eL9T, eL9F⟩ := hp8
  have eL9L : L6 = L := eL9L
  rw [eL9L] at hP hD
  have hT : TI g ad th f7 := eL9T
  have eL9F : ∀ b, b ≠ (ad 1) → b ≠ (ad 10) → b ≠ (ad 9) → f7 b = f b := eL9F
  have hf10 := (eL9F (ad 0) (hst.ne (by decide) (by decide) (by decide)) (hst.ne (by decide) (by decide) (by decide)) (hst.ne (by decide) (by decide) (by decide))).trans hf2
  have hfr : (∀ b, b ≠ (ad 1) → b ≠ (ad 10) → b ≠ (ad 11) → b ≠ (ad 12) → b ≠ (ad 9) → f7 b = f b) := fun b z0_ z1_ z2_ z3_ z4_ => (eL9F b z0_ z1_ z4_).trans (hfr b z0_ z1_ z2_ z3_ z4_)
  refine lv_iconst (v := (-1)) hx hb dX10_plan_11 (by decide) ?_
  refine lv_icmp_eq (tgt := 17) hx hb dX10_plan_12 (by decide) (fun c11 => ?_) (fun c11 => ?_)
  ·
    have cc12 : r5.toInt = ((-1) : Int32).toInt := congrArg Int32.toInt c11
    have hb13 : In r5 (-1) (-1) := In.eq1 (In.full r5) (⟨by decide, by decide⟩ : In (-1) (-1) (-1)) cc12 (by omega) (by omega)
    refine lv_aload_n hx hb dX10_plan_17 rfl (lv_at hl 0 rfl) ?_
    refine pl_get (v := .ref (ad 1)) hx hb hts (fun w h => mT (inX10 w h)) hown hG.1 hP (hst.1 0 (by decide)) hf10 rfl 0 (by decide) (hts _ (mT wg_475)) (fun _ h => h) rfl dX10_plan_18 ?_
    refine lv_iconst (v := 0) hx hb dX10_plan_21 (by decide) ?_
    obtain ⟨v1_14, v2_14, v3_14, v4_14, hf15, hv1_14, hv2_14, hv3_14, hv4_14⟩ := hT.1 1 (by decide)
    refine pl_putN (ty := .int) (v := .int 0) (fs' := [.ref (ad 2), .int 0, .int v2_14, .int v3_14, .int v4_14]) hx hb hts (fun w h => mT (inX8 w h)) tyX8 tyX8_ok nmX8 hown hG.1 hP hD hS (hst.1 1 (by decide)) hf15 rfl 1 (by decide) (hG.2.1 _ wn_197) (fun _ h => h) rfl (by decide +kernel) (rfl) (rfl) (Nat.le_of_ble_eq_true rfl) rfl dX10_plan_22 (fun H locs f16 hf17 ho18 hP hD hS => ?_)
    have hf19 := (ho18 (ad 0) (hst.ne (by decide) (by decide) (by decide))).trans hf10
    have hfr : (∀ b, b ≠ (ad 1) → b ≠ (ad 10) → b ≠ (ad 11) → b ≠ (ad 12) → b ≠ (ad 9) → f16 b = f b) := fun b z0_ z1_ z2_ z3_ z4_ => (ho18 b z0_).trans (hfr b z0_ z1_ z2_ z3_ z4_)
    refine lv_aload_n hx hb dX10_plan_25 rfl (lv_at hl 0 rfl) ?_
    refine pl_get (v := .ref (ad 13)) hx hb hts (fun w h => mT (inX10 w h)) hown hG.1 hP (hst.1 0 (by decide)) hf19 rfl 5 (by decide) (hts _ (mT wg_480)) (fun _ h => h) rfl dX10_plan_26 ?_
    have hT := TI.updA hT hst (k := 1) (by decide) hf17 ho18 ⟨0, v2_14, v3_14, v4_14, rfl, (⟨by decide, by decide⟩ : In 0 0 520), hv2_14, hv3_14, hv4_14⟩
    obtain ⟨v0_20, v1_20, hf21, hv0_20, hv1_20⟩ := hT.1 13 (by decide)
    refine pl_getN (v := .ref (ad 11)) hx hb hts (fun w h => mT (inX6 w h)) hown hG.1 hP (hst.1 13 (by decide)) hf21 rfl 2 (by decide) (hG.2.1 _ wn_289) (fun _ h => h) rfl dX10_plan_29 ?_
    refine lv_aload_n hx hb dX10_plan_32 rfl (lv_at hl 0 rfl) ?_
    refine pl_get (v := .ref (ad 9)) hx hb hts (fun w h => mT (inX10 w h)) hown hG.1 hP (hst.1 0 (by decide)) hf19 rfl 4 (by decide) (hts _ (mT wg_479)) (fun _ h => h) rfl dX10_plan_33 ?_
    obtain ⟨v1_22, hf23, hv1_22⟩ := hT.1 11 (by decide)
    refine call_v (run_VN (rm := rm_X5_copy) hx hb hml hown hts (s_X5_copy l g ad th _ _ _  hst hT ) cV_X5_copy wn_722 ⟨Nat.le_of_ble_eq_true rfl, Nat.le_of_ble_eq_true rfl⟩ hG hE hA hP hD hS (hst.1 11 (by decide)) hf23 rfl rfl hl.1 (As := [.ref (ad 9)]) (rest := []) rfl (Nat.le_of_ble_eq_true rfl) dX10_plan_36 ⟨Nat.le_of_ble_eq_true rfl, Nat.le_of_ble_eq_true rfl⟩) hA hD hS (fun L25 f26 H locs hp27 hP hD hS => ?_)
    obtain ⟨eL28L, eL28T, eL28F⟩ := hp27
    have eL28L : L25 = L := eL28L
    rw [eL28L] at hP hD
    have hT : TI g ad th f26 := eL28T
    have eL28F : ∀ b, b ≠ (ad 11) → b ≠ (ad 12) → f26 b = f16 b := eL28F
    have hf29 := (eL28F (ad 0) (hst.ne (by decide) (by decide) (by decide)) (hst.ne (by decide) (by decide) (by decide))).trans hf19
    have hf30 := (eL28F (ad 1) (hst.ne (by decide) (by decide) (by decide)) (hst.ne (by decide) (by decide) (by decide))).trans hf17
    have hf31 := (eL28F (ad 13) (hst.ne (by decide) (by decide) (by decide)) (hst.ne (by decide) (by decide) (by decide))).trans hf21
    have hfr : (∀ b, b ≠ (ad 1) → b ≠ (ad 10) → b ≠ (ad 11) → b ≠ (ad 12) → b ≠ (ad 9) → f26 b = f b) := fun b z0_ z1_ z2_ z3_ z4_ => (eL28F b z2_ z3_).trans (hfr b z0_ z1_ z2_ z3_ z4_)
    refine lv_aload_n hx hb dX10_plan_39 rfl (lv_at hl 0 rfl) ?_
    refine pl_get (v := .ref (ad 13)) hx hb hts (fun w h => mT (inX10 w h)) hown hG.1 hP (hst.1 0 (by decide)) hf29 rfl 5 (by decide) (hts _ (mT wg_480)) (fun _ h => h) rfl dX10_plan_40 ?_
    refine pl_getN (v := .ref (ad 11)) hx hb hts (fun w h => mT (inX6 w h)) hown hG.1 hP (hst.1 13 (by decide)) hf31 rfl 2 (by decide) (hG.2.1 _ wn_289) (fun _ h => h) rfl dX10_plan_43 ?_
    obtain ⟨v1_32, hf33, hv1_32⟩ := hT.1 11 (by decide)
    refine pl_getN (v := .int v1_32) hx hb hts (fun w h => mT (inX5 w h)) hown hG.1 hP (hst.1 11 (by decide)) hf33 rfl 1 (by decide) (hG.2.1 _ wn_271) (fun _ h => h) rfl dX10_plan_46 ?_
    exact ret_i (ty := .int) hx hb hr hlocks (rfl) hP hD hS (Nat.le_of_ble_eq_true rfl) (Nat.le_of_ble_eq_true rfl) (⟨rfl, hT, hfr⟩) dX10_plan_49
  ·
    refine lv_iconst (v := (-1)) hx hb dX10_plan_15 (by decide) ?_
    exact ret_i (ty := .int) hx hb hr hlocks (rfl) hP hD hS (Nat.le_of_ble_eq_true rfl) (Nat.le_of_ble_eq_true rfl) (⟨rfl, hT, hfr⟩) dX10_plan_16

abbrev rm_X10_rule : Room := { frames := 2, cells := 0, slots := 0, locals := 41 }
abbrev po_X10_rule (g : GG) (ad : Nat → Nat) (th : Nat → Int) (L : List Nat) (f : HP) (z1 : Int32) : Int32 → (List Nat × HP) → Prop := fun _ u => u.1 = L ∧ u.2 = f
set_option maxHeartbeats 4000000 in
set_option maxRecDepth 100000 in
theorem s_X10_rule (l : Launch) (g : GG) (ad : Nat → Nat) (th : Nat → Int) (L : List Nat) (f : HP) (sz : Nat) (z1 : Int32) (hst : ST ad L) (hT : TI g ad th f)  : MtI l g yX10_rule cX10_rule 2 (some .int) rm_X10_rule [.ref (ad 0), .int z1] L f sz (po_X10_rule g ad th L f z1) := by
  refine MtI.of (by decide +kernel) (Nat.le_of_ble_eq_true rfl) ?_
  intro p e s m below meth c A hEn hP hD hS ls hl
  obtain ⟨hx, hb, hr, hml, hown, hlocks, hts, hG, hA, hE, hnm⟩ := hEn
  have hown : s.vm.findClass "RulerWord" = some m.cls := hown
  have hl : lv_has ls 2 [(0, .ref (ad 0)), (1, .int z1)] := hl
  refine lv_iload_n hx hb dX10_rule_0 rfl (lv_at hl 1 rfl) ?_
  refine lv_bipush (v := 10) hx hb dX10_rule_1 (by decide) ?_
  refine lv_icmp_ne (tgt := 17) hx hb dX10_rule_3 (by decide) (fun c1 => ?_) (fun c1 => ?_)
  ·
    refine lv_aload_n hx hb dX10_rule_17 rfl (lv_at hl 0 rfl) ?_
    obtain ⟨v15_2, v16_2, v17_2, hf3, hv15_2, hv16_2, hg16_2⟩ := hT.1 0 (by decide)
    refine pl_get (v := .int v15_2) hx hb hts (fun w h => mT (inX10 w h)) hown hG.1 hP (hst.1 0 (by decide)) hf3 rfl 15 (by decide) (hts _ (mT wg_490)) (fun _ h => h) rfl dX10_rule_18 ?_
    refine lv_if_ne (tgt := 27) hx hb dX10_rule_21 (by decide) (fun c4 => ?_) (fun c4 => ?_)
    ·
      have cc5 : v15_2.toInt ≠ (0 : Int32).toInt := i32_ne c4
      have hb6 : In v15_2 1 1 := In.ne1 hv15_2 (⟨by decide, by decide⟩ : In 0 0 0) cc5 (by omega) (by omega)
      refine lv_iload_n hx hb dX10_rule_27 rfl (lv_at hl 1 rfl) ?_
      by_cases c7 : z1 = 0
      ·
        refine lv_tableIn (off := 64) (tgt := 92) hx hb dX10_rule_28 (by rw [c7]; decide) (by rw [c7]; decide) (by rw [c7]; decide) (by decide) ?_
        have hb8 : In z1 0 0 := by rw [c7]; exact ⟨by decide, by decide⟩
        refine lv_aload_n hx hb dX10_rule_92 rfl (lv_at hl 0 rfl) ?_
        refine pl_get (v := .ref (ad 6)) hx hb hts (fun w h => mT (inX10 w h)) hown hG.1 hP (hst.1 0 (by decide)) hf3 rfl 2 (by decide) (hts _ (mT wg_477)) (fun _ h => h) rfl dX10_rule_93 ?_
        obtain ⟨v0_9, v1_9, v2_9, v3_9, v4_9, v5_9, v6_9, v7_9, hf10, hv0_9, hg0_9, hv1_9, hg1_9, hv2_9, hv3_9, hv5_9, hv6_9, hrel0_9⟩ := hT.1 6 (by decide)
        refine pl_getN (v := .int v0_9) hx hb hts (fun w h => mT (inX2 w h)) hown hG.1 hP (hst.1 6 (by decide)) hf10 rfl 0 (by decide) (hG.2.1 _ wn_226) (fun _ h => h) rfl dX10_rule_96 ?_
        exact ret_i (ty := .int) hx hb hr hlocks (rfl) hP hD hS (Nat.le_of_ble_eq_true rfl) (Nat.le_of_ble_eq_true rfl) (⟨rfl, rfl⟩) dX10_rule_99
      by_cases c11 : z1 = 1
      ·
        refine lv_tableIn (off := 72) (tgt := 100) hx hb dX10_rule_28 (by rw [c11]; decide) (by rw [c11]; decide) (by rw [c11]; decide) (by decide) ?_
        have hb12 : In z1 1 1 := by rw [c11]; exact ⟨by decide, by decide⟩
        refine lv_aload_n hx hb dX10_rule_100 rfl (lv_at hl 0 rfl) ?_
        refine pl_get (v := .ref (ad 6)) hx hb hts (fun w h => mT (inX10 w h)) hown hG.1 hP (hst.1 0 (by decide)) hf3 rfl 2 (by decide) (hts _ (mT wg_477)) (fun _ h => h) rfl dX10_rule_101 ?_
        obtain ⟨v0_13, v1_13, v2_13, v3_13, v4_13, v5_13, v6_13, v7_13, hf14, hv0_13, hg0_13, hv1_13, hg1_13, hv2_13, hv3_13, hv5_13, hv6_13, hrel0_13⟩ := hT.1 6 (by decide)
        refine pl_getN (v := .int v1_13) hx hb hts (fun w h => mT (inX2 w h)) hown hG.1 hP (hst.1 6 (by decide)) hf14 rfl 1 (by decide) (hG.2.1 _ wn_230) (fun _ h => h) rfl dX10_rule_104 ?_
        exact ret_i (ty := .int) hx hb hr hlocks (rfl) hP hD hS (Nat.le_of_ble_eq_true rfl) (Nat.le_of_ble_eq_true rfl) (⟨rfl, rfl⟩) dX10_rule_107
      by_cases c15 : z1 = 2
      ·
        refine lv_tableIn (off := 80) (tgt := 108) hx hb dX10_rule_28 (by rw [c15]; decide) (by rw [c15]; decide) (by rw [c15]; decide) (by decide) ?_
        have hb16 : In z1 2 2 := by rw [c15]; exact ⟨by decide, by decide⟩
        refine lv_aload_n hx hb dX10_rule_108 rfl (lv_at hl 0 rfl) ?_
        refine pl_get (v := .ref (ad 6)) hx hb hts (fun w h => mT (inX10 w h)) hown hG.1 hP (hst.1 0 (by decide)) hf3 rfl 2 (by decide) (hts _ (mT wg_477)) (fun _ h => h) rfl dX10_rule_109 ?_
        obtain ⟨v0_17, v1_17, v2_17, v3_17, v4_17, v5_17, v6_17, v7_17, hf18, hv0_17, hg0_17, hv1_17, hg1_17, hv2_17, hv3_17, hv5_17, hv6_17, hrel0_17⟩ := hT.1 6 (by decide)
        refine pl_getN (v := .int v2_17) hx hb hts (fun w h => mT (inX2 w h)) hown hG.1 hP (hst.1 6 (by decide)) hf18 rfl 2 (by decide) (hG.2.1 _ wn_233) (fun _ h => h) rfl dX10_rule_112 ?_
        exact ret_i (ty := .int) hx hb hr hlocks (rfl) hP hD hS (Nat.le_of_ble_eq_true rfl) (Nat.le_of_ble_eq_true rfl) (⟨rfl, rfl⟩) dX10_rule_115
      by_cases c19 : z1 = 3
      ·
        refine lv_tableIn (off := 88) (tgt := 116) hx hb dX10_rule_28 (by rw [c19]; decide) (by rw [c19]; decide) (by rw [c19]; decide) (by decide) ?_
        have hb20 : In z1 3 3 := by rw [c19]; exact ⟨by decide, by decide⟩
        refine lv_aload_n hx hb dX10_rule_116 rfl (lv_at hl 0 rfl) ?_
        refine pl_get (v := .ref (ad 6)) hx hb hts (fun w h => mT (inX10 w h)) hown hG.1 hP (hst.1 0 (by decide)) hf3 rfl 2 (by decide) (hts _ (mT wg_477)) (fun _ h => h) rfl dX10_rule_117 ?_
        obtain ⟨v0_21, v1_21, v2_21, v3_21, v4_21, v5_21, v6_21, v7_21, hf22, hv0_21, hg0_21, hv1_21, hg1_21, hv2_21, hv3_21, hv5_21, hv6_21, hrel0_21⟩ := hT.1 6 (by decide)
        refine pl_getN (v := .int v3_21) hx hb hts (fun w h => mT (inX2 w h)) hown hG.1 hP (hst.1 6 (by decide)) hf22 rfl 3 (by decide) (hG.2.1 _ wn_235) (fun _ h => h) rfl dX10_rule_120 ?_
        exact ret_i (ty := .int) hx hb hr hlocks (rfl) hP hD hS (Nat.le_of_ble_eq_true rfl) (Nat.le_of_ble_eq_true rfl) (⟨rfl, rfl⟩) dX10_rule_123
      by_cases c23 : z1 = 4
      ·
        refine lv_tableIn (off := 96) (tgt := 124) hx hb dX10_rule_28 (by rw [c23]; decide) (by rw [c23]; decide) (by rw [c23]; decide) (by decide) ?_
        have hb24 : In z1 4 4 := by rw [c23]; exact ⟨by decide, by decide⟩
        refine lv_aload_n hx hb dX10_rule_124 rfl (lv_at hl 0 rfl) ?_
        refine pl_get (v := .ref (cr ad 0 0)) hx hb hts (fun w h => mT (inX10 w h)) hown hG.1 hP (hst.1 0 (by decide)) hf3 rfl 8 (by decide) (hts _ (mT wg_483)) (fun _ h => h) rfl dX10_rule_125 ?_
        obtain ⟨v0_25, v1_25, v2_25, v3_25, v4_25, v5_25, v6_25, v7_25, v8_25, hf26, hv1_25, hg1_25, hv2_25, hg2_25, hv6_25⟩ := hT.2.1 0 (by decide) 0 (by decide)
        refine pl_getN (v := .int v0_25) hx hb hts (fun w h => mT (inX3 w h)) hown hG.1 hP (hst.c (by decide) (by decide)) hf26 rfl 0 (by decide) (hG.2.1 _ wn_336) (fun _ h => h) rfl dX10_rule_128 ?_
        exact ret_i (ty := .int) hx hb hr hlocks (rfl) hP hD hS (Nat.le_of_ble_eq_true rfl) (Nat.le_of_ble_eq_true rfl) (⟨rfl, rfl⟩) dX10_rule_131
      by_cases c27 : z1 = 5
      ·
        refine lv_tableIn (off := 104) (tgt := 132) hx hb dX10_rule_28 (by rw [c27]; decide) (by rw [c27]; decide) (by rw [c27]; decide) (by decide) ?_
        have hb28 : In z1 5 5 := by rw [c27]; exact ⟨by decide, by decide⟩
        refine lv_aload_n hx hb dX10_rule_132 rfl (lv_at hl 0 rfl) ?_
        refine pl_get (v := .ref (cr ad 0 0)) hx hb hts (fun w h => mT (inX10 w h)) hown hG.1 hP (hst.1 0 (by decide)) hf3 rfl 8 (by decide) (hts _ (mT wg_483)) (fun _ h => h) rfl dX10_rule_133 ?_
        obtain ⟨v0_29, v1_29, v2_29, v3_29, v4_29, v5_29, v6_29, v7_29, v8_29, hf30, hv1_29, hg1_29, hv2_29, hg2_29, hv6_29⟩ := hT.2.1 0 (by decide) 0 (by decide)
        refine pl_getN (v := .int v1_29) hx hb hts (fun w h => mT (inX3 w h)) hown hG.1 hP (hst.c (by decide) (by decide)) hf30 rfl 1 (by decide) (hG.2.1 _ wn_339) (fun _ h => h) rfl dX10_rule_136 ?_
        exact ret_i (ty := .int) hx hb hr hlocks (rfl) hP hD hS (Nat.le_of_ble_eq_true rfl) (Nat.le_of_ble_eq_true rfl) (⟨rfl, rfl⟩) dX10_rule_139
      by_cases c31 : z1 = 6
      ·
        refine lv_tableIn (off := 112) (tgt := 140) hx hb dX10_rule_28 (by rw [c31]; decide) (by rw [c31]; decide) (by rw [c31]; decide) (by decide) ?_
        have hb32 : In z1 6 6 := by rw [c31]; exact ⟨by decide, by decide⟩
        refine lv_aload_n hx hb dX10_rule_140 rfl (lv_at hl 0 rfl) ?_
        refine pl_get (v := .ref (ad 6)) hx hb hts (fun w h => mT (inX10 w h)) hown hG.1 hP (hst.1 0 (by decide)) hf3 rfl 2 (by decide) (hts _ (mT wg_477)) (fun _ h => h) rfl dX10_rule_141 ?_
        obtain ⟨v0_33, v1_33, v2_33, v3_33, v4_33, v5_33, v6_33, v7_33, hf34, hv0_33, hg0_33, hv1_33, hg1_33, hv2_33, hv3_33, hv5_33, hv6_33, hrel0_33⟩ := hT.1 6 (by decide)
        refine pl_getN (v := .int v6_33) hx hb hts (fun w h => mT (inX2 w h)) hown hG.1 hP (hst.1 6 (by decide)) hf34 rfl 6 (by decide) (hG.2.1 _ wn_242) (fun _ h => h) rfl dX10_rule_144 ?_
        refine lv_if_eq (tgt := 154) hx hb dX10_rule_147 (by decide) (fun c35 => ?_) (fun c35 => ?_)
        ·
          have cc36 : v6_33.toInt = (0 : Int32).toInt := congrArg Int32.toInt c35
          have hb37 : In v6_33 0 0 := In.eq1 hv6_33 (⟨by decide, by decide⟩ : In 0 0 0) cc36 (by omega) (by omega)
          refine lv_iconst (v := 0) hx hb dX10_rule_154 (by decide) ?_
          exact ret_i (ty := .int) hx hb hr hlocks (rfl) hP hD hS (Nat.le_of_ble_eq_true rfl) (Nat.le_of_ble_eq_true rfl) (⟨rfl, rfl⟩) dX10_rule_155
        ·
          have cc38 : v6_33.toInt ≠ (0 : Int32).toInt := i32_ne c35
          have hb39 : In v6_33 1 1 := In.ne1 hv6_33 (⟨by decide, by decide⟩ : In 0 0 0) cc38 (by omega) (by omega)
          refine lv_iconst (v := 1) hx hb dX10_rule_150 (by decide) ?_
          refine lv_goto (tgt := 155) hx hb dX10_rule_151 (by decide) ?_
          exact ret_i (ty := .int) hx hb hr hlocks (rfl) hP hD hS (Nat.le_of_ble_eq_true rfl) (Nat.le_of_ble_eq_true rfl) (⟨rfl, rfl⟩) dX10_rule_155
      by_cases c40 : z1 = 7
      ·
        refine lv_tableIn (off := 128) (tgt := 156) hx hb dX10_rule_28 (by rw [c40]; decide) (by rw [c40]; decide) (by rw [c40]; decide) (by decide) ?_
        have hb41 : In z1 7 7 := by rw [c40]; exact ⟨by decide, by decide⟩
        refine lv_aload_n hx hb dX10_rule_156 rfl (lv_at hl 0 rfl) ?_
        refine pl_get (v := .ref (ad 6)) hx hb hts (fun w h => mT (inX10 w h)) hown hG.1 hP (hst.1 0 (by decide)) hf3 rfl 2 (by decide) (hts _ (mT wg_477)) (fun _ h => h) rfl dX10_rule_157 ?_
        refine lv_aload_n hx hb dX10_rule_160 rfl (lv_at hl 0 rfl) ?_
        refine pl_get (v := .ref (cr ad 0 0)) hx hb hts (fun w h => mT (inX10 w h)) hown hG.1 hP (hst.1 0 (by decide)) hf3 rfl 8 (by decide) (hts _ (mT wg_483)) (fun _ h => h) rfl dX10_rule_161 ?_
        obtain ⟨v0_42, v1_42, v2_42, v3_42, v4_42, v5_42, v6_42, v7_42, v8_42, hf43, hv1_42, hg1_42, hv2_42, hg2_42, hv6_42⟩ := hT.2.1 0 (by decide) 0 (by decide)
        refine pl_getN (v := .int v2_42) hx hb hts (fun w h => mT (inX3 w h)) hown hG.1 hP (hst.c (by decide) (by decide)) hf43 rfl 2 (by decide) (hG.2.1 _ wn_341) (fun _ h => h) rfl dX10_rule_164 ?_
        obtain ⟨v0_44, v1_44, v2_44, v3_44, v4_44, v5_44, v6_44, v7_44, hf45, hv0_44, hg0_44, hv1_44, hg1_44, hv2_44, hv3_44, hv5_44, hv6_44, hrel0_44⟩ := hT.1 6 (by decide)
        refine call_i (run_VN (rm := rm_X2_phaseAt_co) hx hb hml hown hts (s_X2_phaseAt_co l g ad th _ _ _ v2_42 hst hT hv2_42) cV_X2_phaseAt wn_734 ⟨Nat.le_of_ble_eq_true rfl, Nat.le_of_ble_eq_true rfl⟩ hG hE hA hP hD hS (hst.1 6 (by decide)) hf45 rfl rfl hl.1 (As := [.int v2_42]) (rest := []) rfl (Nat.le_of_ble_eq_true rfl) dX10_rule_167 ⟨Nat.le_of_ble_eq_true rfl, Nat.le_of_ble_eq_true rfl⟩) hA hD hS (fun r46 L47 f48 H locs hp49 hP hD hS => ?_)
        obtain ⟨eL50L, eL50T, eL50R, eL50X0⟩ := hp49
        have eL50L : L47 = L := eL50L
        have eL50T : f48 = f := eL50T
        rw [eL50L, eL50T] at hP hD
        have eL50R : In r46 0 9 := eL50R
        have hph51 : r46.toInt * rnd (th 2) ≤ v2_42.toInt ∧ v2_42.toInt < (r46.toInt + 1) * rnd (th 2) := eL50X0
        exact ret_i (ty := .int) hx hb hr hlocks (rfl) hP hD hS (Nat.le_of_ble_eq_true rfl) (Nat.le_of_ble_eq_true rfl) (⟨rfl, rfl⟩) dX10_rule_170
      by_cases c52 : z1 = 8
      ·
        refine lv_tableIn (off := 143) (tgt := 171) hx hb dX10_rule_28 (by rw [c52]; decide) (by rw [c52]; decide) (by rw [c52]; decide) (by decide) ?_
        have hb53 : In z1 8 8 := by rw [c52]; exact ⟨by decide, by decide⟩
        refine lv_aload_n hx hb dX10_rule_171 rfl (lv_at hl 0 rfl) ?_
        refine pl_get (v := .ref (ad 6)) hx hb hts (fun w h => mT (inX10 w h)) hown hG.1 hP (hst.1 0 (by decide)) hf3 rfl 2 (by decide) (hts _ (mT wg_477)) (fun _ h => h) rfl dX10_rule_172 ?_
        refine lv_aload_n hx hb dX10_rule_175 rfl (lv_at hl 0 rfl) ?_
        refine pl_get (v := .ref (cr ad 0 0)) hx hb hts (fun w h => mT (inX10 w h)) hown hG.1 hP (hst.1 0 (by decide)) hf3 rfl 8 (by decide) (hts _ (mT wg_483)) (fun _ h => h) rfl dX10_rule_176 ?_
        obtain ⟨v0_54, v1_54, v2_54, v3_54, v4_54, v5_54, v6_54, v7_54, v8_54, hf55, hv1_54, hg1_54, hv2_54, hg2_54, hv6_54⟩ := hT.2.1 0 (by decide) 0 (by decide)
        refine pl_getN (v := .int v2_54) hx hb hts (fun w h => mT (inX3 w h)) hown hG.1 hP (hst.c (by decide) (by decide)) hf55 rfl 2 (by decide) (hG.2.1 _ wn_341) (fun _ h => h) rfl dX10_rule_179 ?_
        obtain ⟨v0_56, v1_56, v2_56, v3_56, v4_56, v5_56, v6_56, v7_56, hf57, hv0_56, hg0_56, hv1_56, hg1_56, hv2_56, hv3_56, hv5_56, hv6_56, hrel0_56⟩ := hT.1 6 (by decide)
        refine call_i (run_VN (rm := rm_X2_turnAt_co) hx hb hml hown hts (s_X2_turnAt_co l g ad th _ _ _ v2_54 hst hT hv2_54) cV_X2_turnAt wn_742 ⟨Nat.le_of_ble_eq_true rfl, Nat.le_of_ble_eq_true rfl⟩ hG hE hA hP hD hS (hst.1 6 (by decide)) hf57 rfl rfl hl.1 (As := [.int v2_54]) (rest := []) rfl (Nat.le_of_ble_eq_true rfl) dX10_rule_182 ⟨Nat.le_of_ble_eq_true rfl, Nat.le_of_ble_eq_true rfl⟩) hA hD hS (fun r58 L59 f60 H locs hp61 hP hD hS => ?_)
        obtain ⟨eL62L, eL62T, eL62R⟩ := hp61
        have eL62L : L59 = L := eL62L
        have eL62T : f60 = f := eL62T
        rw [eL62L, eL62T] at hP hD
        have eL62R : In r58 0 2 := eL62R
        exact ret_i (ty := .int) hx hb hr hlocks (rfl) hP hD hS (Nat.le_of_ble_eq_true rfl) (Nat.le_of_ble_eq_true rfl) (⟨rfl, rfl⟩) dX10_rule_185
      by_cases c63 : z1 = 9
      ·
        refine lv_tableIn (off := 158) (tgt := 186) hx hb dX10_rule_28 (by rw [c63]; decide) (by rw [c63]; decide) (by rw [c63]; decide) (by decide) ?_
        have hb64 : In z1 9 9 := by rw [c63]; exact ⟨by decide, by decide⟩
        refine lv_aload_n hx hb dX10_rule_186 rfl (lv_at hl 0 rfl) ?_
        refine pl_get (v := .ref (ad 6)) hx hb hts (fun w h => mT (inX10 w h)) hown hG.1 hP (hst.1 0 (by decide)) hf3 rfl 2 (by decide) (hts _ (mT wg_477)) (fun _ h => h) rfl dX10_rule_187 ?_
        obtain ⟨v0_65, v1_65, v2_65, v3_65, v4_65, v5_65, v6_65, v7_65, hf66, hv0_65, hg0_65, hv1_65, hg1_65, hv2_65, hv3_65, hv5_65, hv6_65, hrel0_65⟩ := hT.1 6 (by decide)
        refine call_i (run_VN (rm := rm_X2_rounds_co) hx hb hml hown hts (s_X2_rounds_co l g ad th _ _ _  hst hT ) cV_X2_rounds wn_746 ⟨Nat.le_of_ble_eq_true rfl, Nat.le_of_ble_eq_true rfl⟩ hG hE hA hP hD hS (hst.1 6 (by decide)) hf66 rfl rfl hl.1 (As := []) (rest := []) rfl (Nat.le_of_ble_eq_true rfl) dX10_rule_190 ⟨Nat.le_of_ble_eq_true rfl, Nat.le_of_ble_eq_true rfl⟩) hA hD hS (fun r67 L68 f69 H locs hp70 hP hD hS => ?_)
        obtain ⟨eL71L, eL71T, eL71R, eL71X0⟩ := hp70
        have eL71L : L68 = L := eL71L
        have eL71T : f69 = f := eL71T
        rw [eL71L, eL71T] at hP hD
        have eL71R : In r67 2 3 := eL71R
        have hrn72 : r67.toInt = rnd (th 2) := eL71X0
        exact ret_i (ty := .int) hx hb hr hlocks (rfl) hP hD hS (Nat.le_of_ble_eq_true rfl) (Nat.le_of_ble_eq_true rfl) (⟨rfl, rfl⟩) dX10_rule_193
      by_cases c73 : z1 = 10
      ·
        refine lv_tableIn (off := 174) (tgt := 202) hx hb dX10_rule_28 (by rw [c73]; decide) (by rw [c73]; decide) (by rw [c73]; decide) (by decide) ?_
        have hb74 : In z1 10 10 := by rw [c73]; exact ⟨by decide, by decide⟩
        refine lv_ldc hx hb hown (hts _ (mT wg_733)) dX10_rule_202 ?_
        exact ret_i (ty := .int) hx hb hr hlocks (rfl) hP hD hS (Nat.le_of_ble_eq_true rfl) (Nat.le_of_ble_eq_true rfl) (⟨rfl, rfl⟩) dX10_rule_204
      by_cases c75 : z1 = 11
      ·
        refine lv_tableIn (off := 166) (tgt := 194) hx hb dX10_rule_28 (by rw [c75]; decide) (by rw [c75]; decide) (by rw [c75]; decide) (by decide) ?_
        have hb76 : In z1 11 11 := by rw [c75]; exact ⟨by decide, by decide⟩
        refine lv_aload_n hx hb dX10_rule_194 rfl (lv_at hl 0 rfl) ?_
        refine pl_get (v := .ref (cr ad 0 0)) hx hb hts (fun w h => mT (inX10 w h)) hown hG.1 hP (hst.1 0 (by decide)) hf3 rfl 8 (by decide) (hts _ (mT wg_483)) (fun _ h => h) rfl dX10_rule_195 ?_
        obtain ⟨v0_77, v1_77, v2_77, v3_77, v4_77, v5_77, v6_77, v7_77, v8_77, hf78, hv1_77, hg1_77, hv2_77, hg2_77, hv6_77⟩ := hT.2.1 0 (by decide) 0 (by decide)
        refine pl_getN (v := .int v6_77) hx hb hts (fun w h => mT (inX3 w h)) hown hG.1 hP (hst.c (by decide) (by decide)) hf78 rfl 6 (by decide) (hG.2.1 _ wn_349) (fun _ h => h) rfl dX10_rule_198 ?_
        exact ret_i (ty := .int) hx hb hr hlocks (rfl) hP hD hS (Nat.le_of_ble_eq_true rfl) (Nat.le_of_ble_eq_true rfl) (⟨rfl, rfl⟩) dX10_rule_201
      refine lv_tableOut (tgt := 202) hx hb dX10_rule_28 (tb_out (by decide) (by decide) (fun k h1 h2 => ?_)) (by decide) ?_
      · rcases (show k = 0 ∨ k = 1 ∨ k = 2 ∨ k = 3 ∨ k = 4 ∨ k = 5 ∨ k = 6 ∨ k = 7 ∨ k = 8 ∨ k = 9 ∨ k = 10 ∨ k = 11 by omega) with rfl | rfl | rfl | rfl | rfl | rfl | rfl | rfl | rfl | rfl | rfl | rfl
        · exact fun e => c7 (e.trans (by decide))
        · exact fun e => c11 (e.trans (by decide))
        · exact fun e => c15 (e.trans (by decide))
        · exact fun e => c19 (e.trans (by decide))
        · exact fun e => c23 (e.trans (by decide))
        · exact fun e => c27 (e.trans (by decide))
        · exact fun e => c31 (e.trans (by decide))
        · exact fun e => c40 (e.trans (by decide))
        · exact fun e => c52 (e.trans (by decide))
        · exact fun e => c63 (e.trans (by decide))
        · exact fun e => c73 (e.trans (by decide))
        · exact fun e => c75 (e.trans (by decide))
      ·
        refine lv_ldc hx hb hown (hts _ (mT wg_733)) dX10_rule_202 ?_
        exact ret_i (ty := .int) hx hb hr hlocks (rfl) hP hD hS (Nat.le_of_ble_eq_true rfl) (Nat.le_of_ble_eq_true rfl) (⟨rfl, rfl⟩) dX10_rule_204
    ·
      have cc79 : v15_2.toInt = (0 : Int32).toInt := congrArg Int32.toInt c4
      have hb80 : In v15_2 0 0 := In.eq1 hv15_2 (⟨by decide, by decide⟩ : In 0 0 0) cc79 (by omega) (by omega)
      refine lv_ldc hx hb hown (hts _ (mT wg_733)) dX10_rule_24 ?_
      exact ret_i (ty := .int) hx hb hr hlocks (rfl) hP hD hS (Nat.le_of_ble_eq_true rfl) (Nat.le_of_ble_eq_true rfl) (⟨rfl, rfl⟩) dX10_rule_26
  ·
    have cc81 : z1.toInt = (10 : Int32).toInt := congrArg Int32.toInt c1
    have hb82 : In z1 10 10 := In.eq1 (In.full z1) (⟨by decide, by decide⟩ : In 10 10 10) cc81 (by omega) (by omega)
    refine lv_aload_n hx hb dX10_rule_6 rfl (lv_at hl 0 rfl) ?_
    obtain ⟨v15_83, v16_83, v17_83, hf84, hv15_83, hv16_83, hg16_83⟩ := hT.1 0 (by decide)
    refine pl_get (v := .ref (ad 13)) hx hb hts (fun w h => mT (inX10 w h)) hown hG.1 hP (hst.1 0 (by decide)) hf84 rfl 5 (by decide) (hts _ (mT wg_480)) (fun _ h => h) rfl dX10_rule_7 ?_
    obtain ⟨v0_85, v1_85, hf86, hv0_85, hv1_85⟩ := hT.1 13 (by decide)
    refine pl_getN (v := .ref (ad 11)) hx hb hts (fun w h => mT (inX6 w h)) hown hG.1 hP (hst.1 13 (by decide)) hf86 rfl 2 (by decide) (hG.2.1 _ wn_289) (fun _ h => h) rfl dX10_rule_10 ?_
    obtain ⟨v1_87, hf88, hv1_87⟩ := hT.1 11 (by decide)
    refine pl_getN (v := .int v1_87) hx hb hts (fun w h => mT (inX5 w h)) hown hG.1 hP (hst.1 11 (by decide)) hf88 rfl 1 (by decide) (hG.2.1 _ wn_271) (fun _ h => h) rfl dX10_rule_13 ?_
    exact ret_i (ty := .int) hx hb hr hlocks (rfl) hP hD hS (Nat.le_of_ble_eq_true rfl) (Nat.le_of_ble_eq_true rfl) (⟨rfl, rfl⟩) dX10_rule_16

abbrev rm_X10_isPeer : Room := { frames := 0, cells := 0, slots := 0, locals := 0 }
abbrev po_X10_isPeer (g : GG) (ad : Nat → Nat) (th : Nat → Int) (L : List Nat) (f : HP) (z1 : Int32) : Int32 → (List Nat × HP) → Prop := fun r u => u.1 = L ∧ u.2 = f ∧ In r 0 1 ∧ (¬ r = 0 → In z1 0 8)
set_option maxHeartbeats 4000000 in
set_option maxRecDepth 100000 in
theorem s_X10_isPeer (l : Launch) (g : GG) (ad : Nat → Nat) (th : Nat → Int) (L : List Nat) (f : HP) (sz : Nat) (z1 : Int32) (hst : ST ad L) (hT : TI g ad th f)  : MtI l g yX10_isPeer cX10_isPeer 2 (some .boolean) rm_X10_isPeer [.ref (ad 0), .int z1] L f sz (po_X10_isPeer g ad th L f z1) := by
  refine MtI.of (by decide +kernel) (Nat.le_of_ble_eq_true rfl) ?_
  intro p e s m below meth c A hEn hP hD hS ls hl
  obtain ⟨hx, hb, hr, hml, hown, hlocks, hts, hG, hA, hE, hnm⟩ := hEn
  have hown : s.vm.findClass "RulerWord" = some m.cls := hown
  have hl : lv_has ls 2 [(0, .ref (ad 0)), (1, .int z1)] := hl
  refine lv_aload_n hx hb dX10_isPeer_0 rfl (lv_at hl 0 rfl) ?_
  obtain ⟨v15_1, v16_1, v17_1, hf2, hv15_1, hv16_1, hg16_1⟩ := hT.1 0 (by decide)
  refine pl_get (v := .int v15_1) hx hb hts (fun w h => mT (inX10 w h)) hown hG.1 hP (hst.1 0 (by decide)) hf2 rfl 15 (by decide) (hts _ (mT wg_490)) (fun _ h => h) rfl dX10_isPeer_1 ?_
  have hJ26 : ∀ (H : Heap) (locs : List Loc) (ls : Array Slot), va_P g.1 vwCl (va_pl L f) H → va_D A (va_pl L f) → va_S A s.heap H locs → lv_has ls 2 [(0, .ref (ad 0)), (1, .int z1)] → W p l e rm_X10_isPeer s m [.ref (ad 0), .int z1].toArray below meth c H locs 0 0 (MQ below (va_Qi (po_X10_isPeer g ad th L f z1) (PstB g A) A) [.ref (ad 0), .int z1].toArray s rm_X10_isPeer.cells rm_X10_isPeer.slots A) (F0 m 26 ls []) := by
    intro H locs ls hP hD hS hl
    refine lv_iconst (v := 0) hx hb dX10_isPeer_26 (by decide) ?_
    exact ret_i (ty := .boolean) hx hb hr hlocks (rfl) hP hD hS (Nat.le_of_ble_eq_true rfl) (Nat.le_of_ble_eq_true rfl) (⟨rfl, rfl, (⟨by decide, by decide⟩ : In 0 0 1), (fun q => absurd rfl q)⟩) dX10_isPeer_27
  refine lv_if_eq (tgt := 26) hx hb dX10_isPeer_4 (by decide) (fun c3 => ?_) (fun c3 => ?_)
  ·
    have cc4 : v15_1.toInt = (0 : Int32).toInt := congrArg Int32.toInt c3
    have hb5 : In v15_1 0 0 := In.eq1 hv15_1 (⟨by decide, by decide⟩ : In 0 0 0) cc4 (by omega) (by omega)
    exact hJ26 _ _ _ hP hD hS (lv_sub hl [0, 1] rfl)
  ·
    have cc6 : v15_1.toInt ≠ (0 : Int32).toInt := i32_ne c3
    have hb7 : In v15_1 1 1 := In.ne1 hv15_1 (⟨by decide, by decide⟩ : In 0 0 0) cc6 (by omega) (by omega)
    refine lv_iload_n hx hb dX10_isPeer_7 rfl (lv_at hl 1 rfl) ?_
    refine lv_if_lt (tgt := 26) hx hb dX10_isPeer_8 (by decide) (fun c8 => ?_) (fun c8 => ?_)
    ·
      have cc9 : z1.toInt < (0 : Int32).toInt := i32_lt.mp c8
      have hb10 : In z1 (-2147483648) (-1) := In.lt1 (In.full z1) (⟨by decide, by decide⟩ : In 0 0 0) cc9 (by omega) (by omega)
      exact hJ26 _ _ _ hP hD hS (lv_sub hl [0, 1] rfl)
    ·
      have cc11 : (0 : Int32).toInt ≤ z1.toInt := i32_nlt c8
      have hb12 : In z1 0 2147483647 := In.ge1 (In.full z1) (⟨by decide, by decide⟩ : In 0 0 0) cc11 (by omega) (by omega)
      refine lv_iload_n hx hb dX10_isPeer_11 rfl (lv_at hl 1 rfl) ?_
      refine lv_aload_n hx hb dX10_isPeer_12 rfl (lv_at hl 0 rfl) ?_
      refine pl_get (v := .ref (ad 6)) hx hb hts (fun w h => mT (inX10 w h)) hown hG.1 hP (hst.1 0 (by decide)) hf2 rfl 2 (by decide) (hts _ (mT wg_477)) (fun _ h => h) rfl dX10_isPeer_13 ?_
      obtain ⟨v0_13, v1_13, v2_13, v3_13, v4_13, v5_13, v6_13, v7_13, hf14, hv0_13, hg0_13, hv1_13, hg1_13, hv2_13, hv3_13, hv5_13, hv6_13, hrel0_13⟩ := hT.1 6 (by decide)
      refine pl_getN (v := .int v1_13) hx hb hts (fun w h => mT (inX2 w h)) hown hG.1 hP (hst.1 6 (by decide)) hf14 rfl 1 (by decide) (hG.2.1 _ wn_230) (fun _ h => h) rfl dX10_isPeer_16 ?_
      refine lv_icmp_ge (tgt := 26) hx hb dX10_isPeer_19 (by decide) (fun c15 => ?_) (fun c15 => ?_)
      ·
        exact hJ26 _ _ _ hP hD hS (lv_sub hl [0, 1] rfl)
      ·
        have cc16 : z1.toInt < v1_13.toInt := i32_nle c15
        have hb17 : In z1 0 8 := In.lt1 hb12 hv1_13 cc16 (by omega) (by omega)
        have hb18 : In v1_13 1 9 := In.lt2 hb12 hv1_13 cc16 (by omega) (by omega)
        refine lv_iconst (v := 1) hx hb dX10_isPeer_22 (by decide) ?_
        refine lv_goto (tgt := 27) hx hb dX10_isPeer_23 (by decide) ?_
        exact ret_i (ty := .boolean) hx hb hr hlocks (rfl) hP hD hS (Nat.le_of_ble_eq_true rfl) (Nat.le_of_ble_eq_true rfl) (⟨rfl, rfl, (⟨by decide, by decide⟩ : In 1 0 1), (fun _ => hb17)⟩) dX10_isPeer_27

abbrev rm_X10_isRound : Room := { frames := 1, cells := 0, slots := 0, locals := 20 }
abbrev po_X10_isRound (g : GG) (ad : Nat → Nat) (th : Nat → Int) (L : List Nat) (f : HP) (z1 : Int32) (z2 : Int32) : Int32 → (List Nat × HP) → Prop := fun r u => u.1 = L ∧ u.2 = f ∧ In r 0 1 ∧ (¬ r = 0 → In z1 0 5) ∧ (¬ r = 0 → In z2 0 2)
set_option maxHeartbeats 4000000 in
set_option maxRecDepth 100000 in
theorem s_X10_isRound (l : Launch) (g : GG) (ad : Nat → Nat) (th : Nat → Int) (L : List Nat) (f : HP) (sz : Nat) (z1 : Int32) (z2 : Int32) (hst : ST ad L) (hT : TI g ad th f)  : MtI l g yX10_isRound cX10_isRound 3 (some .boolean) rm_X10_isRound [.ref (ad 0), .int z1, .int z2] L f sz (po_X10_isRound g ad th L f z1 z2) := by
  refine MtI.of (by decide +kernel) (Nat.le_of_ble_eq_true rfl) ?_
  intro p e s m below meth c A hEn hP hD hS ls hl
  obtain ⟨hx, hb, hr, hml, hown, hlocks, hts, hG, hA, hE, hnm⟩ := hEn
  have hown : s.vm.findClass "RulerWord" = some m.cls := hown
  have hl : lv_has ls 3 [(0, .ref (ad 0)), (1, .int z1), (2, .int z2)] := hl
  refine lv_aload_n hx hb dX10_isRound_0 rfl (lv_at hl 0 rfl) ?_
  obtain ⟨v15_1, v16_1, v17_1, hf2, hv15_1, hv16_1, hg16_1⟩ := hT.1 0 (by decide)
  refine pl_get (v := .int v15_1) hx hb hts (fun w h => mT (inX10 w h)) hown hG.1 hP (hst.1 0 (by decide)) hf2 rfl 15 (by decide) (hts _ (mT wg_490)) (fun _ h => h) rfl dX10_isRound_1 ?_
  have hJ41 : ∀ (H : Heap) (locs : List Loc) (ls : Array Slot), va_P g.1 vwCl (va_pl L f) H → va_D A (va_pl L f) → va_S A s.heap H locs → lv_has ls 3 [(0, .ref (ad 0)), (1, .int z1), (2, .int z2)] → W p l e rm_X10_isRound s m [.ref (ad 0), .int z1, .int z2].toArray below meth c H locs 0 0 (MQ below (va_Qi (po_X10_isRound g ad th L f z1 z2) (PstB g A) A) [.ref (ad 0), .int z1, .int z2].toArray s rm_X10_isRound.cells rm_X10_isRound.slots A) (F0 m 41 ls []) := by
    intro H locs ls hP hD hS hl
    refine lv_iconst (v := 0) hx hb dX10_isRound_41 (by decide) ?_
    exact ret_i (ty := .boolean) hx hb hr hlocks (rfl) hP hD hS (Nat.le_of_ble_eq_true rfl) (Nat.le_of_ble_eq_true rfl) (⟨rfl, rfl, (⟨by decide, by decide⟩ : In 0 0 1), (fun q => absurd rfl q), (fun q => absurd rfl q)⟩) dX10_isRound_42
  refine lv_if_eq (tgt := 41) hx hb dX10_isRound_4 (by decide) (fun c3 => ?_) (fun c3 => ?_)
  ·
    have cc4 : v15_1.toInt = (0 : Int32).toInt := congrArg Int32.toInt c3
    have hb5 : In v15_1 0 0 := In.eq1 hv15_1 (⟨by decide, by decide⟩ : In 0 0 0) cc4 (by omega) (by omega)
    exact hJ41 _ _ _ hP hD hS (lv_sub hl [0, 1, 2] rfl)
  ·
    have cc6 : v15_1.toInt ≠ (0 : Int32).toInt := i32_ne c3
    have hb7 : In v15_1 1 1 := In.ne1 hv15_1 (⟨by decide, by decide⟩ : In 0 0 0) cc6 (by omega) (by omega)
    refine lv_iload_n hx hb dX10_isRound_7 rfl (lv_at hl 1 rfl) ?_
    refine lv_if_lt (tgt := 41) hx hb dX10_isRound_8 (by decide) (fun c8 => ?_) (fun c8 => ?_)
    ·
      have cc9 : z1.toInt < (0 : Int32).toInt := i32_lt.mp c8
      have hb10 : In z1 (-2147483648) (-1) := In.lt1 (In.full z1) (⟨by decide, by decide⟩ : In 0 0 0) cc9 (by omega) (by omega)
      exact hJ41 _ _ _ hP hD hS (lv_sub hl [0, 1, 2] rfl)
    ·
      have cc11 : (0 : Int32).toInt ≤ z1.toInt := i32_nlt c8
      have hb12 : In z1 0 2147483647 := In.ge1 (In.full z1) (⟨by decide, by decide⟩ : In 0 0 0) cc11 (by omega) (by omega)
      refine lv_iload_n hx hb dX10_isRound_11 rfl (lv_at hl 1 rfl) ?_
      refine lv_aload_n hx hb dX10_isRound_12 rfl (lv_at hl 0 rfl) ?_
      refine pl_get (v := .ref (ad 6)) hx hb hts (fun w h => mT (inX10 w h)) hown hG.1 hP (hst.1 0 (by decide)) hf2 rfl 2 (by decide) (hts _ (mT wg_477)) (fun _ h => h) rfl dX10_isRound_13 ?_
      obtain ⟨v0_13, v1_13, v2_13, v3_13, v4_13, v5_13, v6_13, v7_13, hf14, hv0_13, hg0_13, hv1_13, hg1_13, hv2_13, hv3_13, hv5_13, hv6_13, hrel0_13⟩ := hT.1 6 (by decide)
      refine pl_getN (v := .int v3_13) hx hb hts (fun w h => mT (inX2 w h)) hown hG.1 hP (hst.1 6 (by decide)) hf14 rfl 3 (by decide) (hG.2.1 _ wn_235) (fun _ h => h) rfl dX10_isRound_16 ?_
      refine lv_icmp_ge (tgt := 41) hx hb dX10_isRound_19 (by decide) (fun c15 => ?_) (fun c15 => ?_)
      ·
        exact hJ41 _ _ _ hP hD hS (lv_sub hl [0, 1, 2] rfl)
      ·
        have cc16 : z1.toInt < v3_13.toInt := i32_nle c15
        have hb17 : In z1 0 5 := In.lt1 hb12 hv3_13 cc16 (by omega) (by omega)
        have hb18 : In v3_13 1 6 := In.lt2 hb12 hv3_13 cc16 (by omega) (by omega)
        refine lv_iload_n hx hb dX10_isRound_22 rfl (lv_at hl 2 rfl) ?_
        refine lv_if_lt (tgt := 41) hx hb dX10_isRound_23 (by decide) (fun c19 => ?_) (fun c19 => ?_)
        ·
          have cc20 : z2.toInt < (0 : Int32).toInt := i32_lt.mp c19
          have hb21 : In z2 (-2147483648) (-1) := In.lt1 (In.full z2) (⟨by decide, by decide⟩ : In 0 0 0) cc20 (by omega) (by omega)
          exact hJ41 _ _ _ hP hD hS (lv_sub hl [0, 1, 2] rfl)
        ·
          have cc22 : (0 : Int32).toInt ≤ z2.toInt := i32_nlt c19
          have hb23 : In z2 0 2147483647 := In.ge1 (In.full z2) (⟨by decide, by decide⟩ : In 0 0 0) cc22 (by omega) (by omega)
          refine lv_iload_n hx hb dX10_isRound_26 rfl (lv_at hl 2 rfl) ?_
          refine lv_aload_n hx hb dX10_isRound_27 rfl (lv_at hl 0 rfl) ?_
          refine pl_get (v := .ref (ad 6)) hx hb hts (fun w h => mT (inX10 w h)) hown hG.1 hP (hst.1 0 (by decide)) hf2 rfl 2 (by decide) (hts _ (mT wg_477)) (fun _ h => h) rfl dX10_isRound_28 ?_
          refine call_i (run_VN (rm := rm_X2_rounds_co) hx hb hml hown hts (s_X2_rounds_co l g ad th _ _ _  hst hT ) cV_X2_rounds wn_746 ⟨Nat.le_of_ble_eq_true rfl, Nat.le_of_ble_eq_true rfl⟩ hG hE hA hP hD hS (hst.1 6 (by decide)) hf14 rfl rfl hl.1 (As := []) (rest := [.int z2]) rfl (Nat.le_of_ble_eq_true rfl) dX10_isRound_31 ⟨Nat.le_of_ble_eq_true rfl, Nat.le_of_ble_eq_true rfl⟩) hA hD hS (fun r24 L25 f26 H locs hp27 hP hD hS => ?_)
          obtain ⟨eL28L, eL28T, eL28R, eL28X0⟩ := hp27
          have eL28L : L25 = L := eL28L
          have eL28T : f26 = f := eL28T
          rw [eL28L, eL28T] at hP hD
          have eL28R : In r24 2 3 := eL28R
          have hrn29 : r24.toInt = rnd (th 2) := eL28X0
          refine lv_icmp_ge (tgt := 41) hx hb dX10_isRound_34 (by decide) (fun c30 => ?_) (fun c30 => ?_)
          ·
            have cc31 : r24.toInt ≤ z2.toInt := i32_le.mp c30
            have hb32 : In z2 2 2147483647 := In.ge1 hb23 eL28R cc31 (by omega) (by omega)
            exact hJ41 _ _ _ hP hD hS (lv_sub hl [0, 1, 2] rfl)
          ·
            have cc33 : z2.toInt < r24.toInt := i32_nle c30
            have hb34 : In z2 0 2 := In.lt1 hb23 eL28R cc33 (by omega) (by omega)
            refine lv_iconst (v := 1) hx hb dX10_isRound_37 (by decide) ?_
            refine lv_goto (tgt := 42) hx hb dX10_isRound_38 (by decide) ?_
            exact ret_i (ty := .boolean) hx hb hr hlocks (rfl) hP hD hS (Nat.le_of_ble_eq_true rfl) (Nat.le_of_ble_eq_true rfl) (⟨rfl, rfl, (⟨by decide, by decide⟩ : In 1 0 1), (fun _ => hb17), (fun _ => hb34)⟩) dX10_isRound_42

abbrev rm_X10_phasesOver : Room := { frames := 2, cells := 0, slots := 0, locals := 41 }
abbrev po_X10_phasesOver (g : GG) (ad : Nat → Nat) (th : Nat → Int) (L : List Nat) (f : HP)  : Int32 → (List Nat × HP) → Prop := fun r u => u.1 = L ∧ u.2 = f ∧ In r 0 6
set_option maxHeartbeats 4000000 in
set_option maxRecDepth 100000 in
theorem s_X10_phasesOver (l : Launch) (g : GG) (ad : Nat → Nat) (th : Nat → Int) (L : List Nat) (f : HP) (sz : Nat)  (hst : ST ad L) (hT : TI g ad th f)  : MtI l g yX10_phasesOver cX10_phasesOver 1 (some .int) rm_X10_phasesOver [.ref (ad 0)] L f sz (po_X10_phasesOver g ad th L f ) := by
  refine MtI.of (by decide +kernel) (Nat.le_of_ble_eq_true rfl) ?_
  intro p e s m below meth c A hEn hP hD hS ls hl
  obtain ⟨hx, hb, hr, hml, hown, hlocks, hts, hG, hA, hE, hnm⟩ := hEn
  have hown : s.vm.findClass "RulerWord" = some m.cls := hown
  have hl : lv_has ls 1 [(0, .ref (ad 0))] := hl
  refine lv_aload_n hx hb dX10_phasesOver_0 rfl (lv_at hl 0 rfl) ?_
  obtain ⟨v15_1, v16_1, v17_1, hf2, hv15_1, hv16_1, hg16_1⟩ := hT.1 0 (by decide)
  refine pl_get (v := .int v15_1) hx hb hts (fun w h => mT (inX10 w h)) hown hG.1 hP (hst.1 0 (by decide)) hf2 rfl 15 (by decide) (hts _ (mT wg_490)) (fun _ h => h) rfl dX10_phasesOver_1 ?_
  refine lv_if_eq (tgt := 29) hx hb dX10_phasesOver_4 (by decide) (fun c3 => ?_) (fun c3 => ?_)
  ·
    have cc4 : v15_1.toInt = (0 : Int32).toInt := congrArg Int32.toInt c3
    have hb5 : In v15_1 0 0 := In.eq1 hv15_1 (⟨by decide, by decide⟩ : In 0 0 0) cc4 (by omega) (by omega)
    refine lv_iconst (v := 0) hx hb dX10_phasesOver_29 (by decide) ?_
    exact ret_i (ty := .int) hx hb hr hlocks (rfl) hP hD hS (Nat.le_of_ble_eq_true rfl) (Nat.le_of_ble_eq_true rfl) (⟨rfl, rfl, (⟨by decide, by decide⟩ : In 0 0 6)⟩) dX10_phasesOver_30
  ·
    have cc6 : v15_1.toInt ≠ (0 : Int32).toInt := i32_ne c3
    have hb7 : In v15_1 1 1 := In.ne1 hv15_1 (⟨by decide, by decide⟩ : In 0 0 0) cc6 (by omega) (by omega)
    refine lv_aload_n hx hb dX10_phasesOver_7 rfl (lv_at hl 0 rfl) ?_
    refine pl_get (v := .ref (ad 6)) hx hb hts (fun w h => mT (inX10 w h)) hown hG.1 hP (hst.1 0 (by decide)) hf2 rfl 2 (by decide) (hts _ (mT wg_477)) (fun _ h => h) rfl dX10_phasesOver_8 ?_
    refine lv_aload_n hx hb dX10_phasesOver_11 rfl (lv_at hl 0 rfl) ?_
    refine pl_get (v := .ref (cr ad 0 0)) hx hb hts (fun w h => mT (inX10 w h)) hown hG.1 hP (hst.1 0 (by decide)) hf2 rfl 8 (by decide) (hts _ (mT wg_483)) (fun _ h => h) rfl dX10_phasesOver_12 ?_
    obtain ⟨v0_8, v1_8, v2_8, v3_8, v4_8, v5_8, v6_8, v7_8, v8_8, hf9, hv1_8, hg1_8, hv2_8, hg2_8, hv6_8⟩ := hT.2.1 0 (by decide) 0 (by decide)
    refine pl_getN (v := .int v2_8) hx hb hts (fun w h => mT (inX3 w h)) hown hG.1 hP (hst.c (by decide) (by decide)) hf9 rfl 2 (by decide) (hG.2.1 _ wn_341) (fun _ h => h) rfl dX10_phasesOver_15 ?_
    obtain ⟨v0_10, v1_10, v2_10, v3_10, v4_10, v5_10, v6_10, v7_10, hf11, hv0_10, hg0_10, hv1_10, hg1_10, hv2_10, hv3_10, hv5_10, hv6_10, hrel0_10⟩ := hT.1 6 (by decide)
    refine call_i (run_VN (rm := rm_X2_phaseAt_co) hx hb hml hown hts (s_X2_phaseAt_co l g ad th _ _ _ v2_8 hst hT hv2_8) cV_X2_phaseAt wn_734 ⟨Nat.le_of_ble_eq_true rfl, Nat.le_of_ble_eq_true rfl⟩ hG hE hA hP hD hS (hst.1 6 (by decide)) hf11 rfl rfl hl.1 (As := [.int v2_8]) (rest := []) rfl (Nat.le_of_ble_eq_true rfl) dX10_phasesOver_18 ⟨Nat.le_of_ble_eq_true rfl, Nat.le_of_ble_eq_true rfl⟩) hA hD hS (fun r12 L13 f14 H locs hp15 hP hD hS => ?_)
    obtain ⟨eL16L, eL16T, eL16R, eL16X0⟩ := hp15
    have eL16L : L13 = L := eL16L
    have eL16T : f14 = f := eL16T
    rw [eL16L, eL16T] at hP hD
    have eL16R : In r12 0 9 := eL16R
    have hph17 : r12.toInt * rnd (th 2) ≤ v2_8.toInt ∧ v2_8.toInt < (r12.toInt + 1) * rnd (th 2) := eL16X0
    refine lv_bipush (v := 6) hx hb dX10_phasesOver_21 (by decide) ?_
    refine va_mmin hx hb (hml.trans hl.1.symm) hown (hts _ (mT wg_960)) (hts _ (mT wg_769)) (hts _ (mT wg_178)) (hts _ (mT (mG 770 (by decide +kernel) rfl))) (by first | decide | exact Nat.le_of_ble_eq_true rfl) (by first | decide | exact Nat.le_of_ble_eq_true rfl) (by first | decide | exact Nat.le_of_ble_eq_true rfl) (by first | decide | exact Nat.le_of_ble_eq_true rfl) dX10_phasesOver_23 ?_
    refine lv_topi (fun x18 ex18 => ?_)
    have hb19 : In x18 0 6 := ex18 ▸ In.min eL16R (⟨by decide, by decide⟩ : In 6 6 6) (by omega) (by omega)
    refine lv_goto (tgt := 30) hx hb dX10_phasesOver_26 (by decide) ?_
    exact ret_i (ty := .int) hx hb hr hlocks (rfl) hP hD hS (Nat.le_of_ble_eq_true rfl) (Nat.le_of_ble_eq_true rfl) (⟨rfl, rfl, hb19⟩) dX10_phasesOver_30

abbrev rm_X10_isOver : Room := { frames := 3, cells := 0, slots := 0, locals := 61 }
abbrev po_X10_isOver (g : GG) (ad : Nat → Nat) (th : Nat → Int) (L : List Nat) (f : HP) (z1 : Int32) : Int32 → (List Nat × HP) → Prop := fun r u => u.1 = L ∧ u.2 = f ∧ In r 0 1 ∧ (¬ r = 0 → In z1 0 5)
set_option maxHeartbeats 4000000 in
set_option maxRecDepth 100000 in
theorem s_X10_isOver (l : Launch) (g : GG) (ad : Nat → Nat) (th : Nat → Int) (L : List Nat) (f : HP) (sz : Nat) (z1 : Int32) (hst : ST ad L) (hT : TI g ad th f)  : MtI l g yX10_isOver cX10_isOver 2 (some .boolean) rm_X10_isOver [.ref (ad 0), .int z1] L f sz (po_X10_isOver g ad th L f z1) := by
  refine MtI.of (by decide +kernel) (Nat.le_of_ble_eq_true rfl) ?_
  intro p e s m below meth c A hEn hP hD hS ls hl
  obtain ⟨hx, hb, hr, hml, hown, hlocks, hts, hG, hA, hE, hnm⟩ := hEn
  have hown : s.vm.findClass "RulerWord" = some m.cls := hown
  have hl : lv_has ls 2 [(0, .ref (ad 0)), (1, .int z1)] := hl
  refine lv_iload_n hx hb dX10_isOver_0 rfl (lv_at hl 1 rfl) ?_
  have hJ16 : ∀ (H : Heap) (locs : List Loc) (ls : Array Slot), va_P g.1 vwCl (va_pl L f) H → va_D A (va_pl L f) → va_S A s.heap H locs → lv_has ls 2 [(0, .ref (ad 0)), (1, .int z1)] → W p l e rm_X10_isOver s m [.ref (ad 0), .int z1].toArray below meth c H locs 0 0 (MQ below (va_Qi (po_X10_isOver g ad th L f z1) (PstB g A) A) [.ref (ad 0), .int z1].toArray s rm_X10_isOver.cells rm_X10_isOver.slots A) (F0 m 16 ls []) := by
    intro H locs ls hP hD hS hl
    refine lv_iconst (v := 0) hx hb dX10_isOver_16 (by decide) ?_
    exact ret_i (ty := .boolean) hx hb hr hlocks (rfl) hP hD hS (Nat.le_of_ble_eq_true rfl) (Nat.le_of_ble_eq_true rfl) (⟨rfl, rfl, (⟨by decide, by decide⟩ : In 0 0 1), (fun q => absurd rfl q)⟩) dX10_isOver_17
  refine lv_if_lt (tgt := 16) hx hb dX10_isOver_1 (by decide) (fun c1 => ?_) (fun c1 => ?_)
  ·
    have cc2 : z1.toInt < (0 : Int32).toInt := i32_lt.mp c1
    have hb3 : In z1 (-2147483648) (-1) := In.lt1 (In.full z1) (⟨by decide, by decide⟩ : In 0 0 0) cc2 (by omega) (by omega)
    exact hJ16 _ _ _ hP hD hS (lv_sub hl [0, 1] rfl)
  ·
    have cc4 : (0 : Int32).toInt ≤ z1.toInt := i32_nlt c1
    have hb5 : In z1 0 2147483647 := In.ge1 (In.full z1) (⟨by decide, by decide⟩ : In 0 0 0) cc4 (by omega) (by omega)
    refine lv_iload_n hx hb dX10_isOver_4 rfl (lv_at hl 1 rfl) ?_
    refine lv_aload_n hx hb dX10_isOver_5 rfl (lv_at hl 0 rfl) ?_
    obtain ⟨v15_6, v16_6, v17_6, hf7, hv15_6, hv16_6, hg16_6⟩ := hT.1 0 (by decide)
    refine call_i (run_V (rm := rm_X10_phasesOver) hx hb hml hown hts (s_X10_phasesOver l g ad th _ _ _  hst hT ) cV_X10_phasesOver wg_956 ⟨Nat.le_of_ble_eq_true rfl, Nat.le_of_ble_eq_true rfl⟩ hG hE hA hP hD hS (hst.1 0 (by decide)) hf7 rfl rfl hl.1 (As := []) (rest := [.int z1]) rfl (Nat.le_of_ble_eq_true rfl) dX10_isOver_6 ⟨Nat.le_of_ble_eq_true rfl, Nat.le_of_ble_eq_true rfl⟩) hA hD hS (fun r8 L9 f10 H locs hp11 hP hD hS => ?_)
    obtain ⟨eL12L, eL12T, eL12R⟩ := hp11
    have eL12L : L9 = L := eL12L
    have eL12T : f10 = f := eL12T
    rw [eL12L, eL12T] at hP hD
    have eL12R : In r8 0 6 := eL12R
    refine lv_icmp_ge (tgt := 16) hx hb dX10_isOver_9 (by decide) (fun c13 => ?_) (fun c13 => ?_)
    ·
      exact hJ16 _ _ _ hP hD hS (lv_sub hl [0, 1] rfl)
    ·
      have cc14 : z1.toInt < r8.toInt := i32_nle c13
      have hb15 : In z1 0 5 := In.lt1 hb5 eL12R cc14 (by omega) (by omega)
      have hb16 : In r8 1 6 := In.lt2 hb5 eL12R cc14 (by omega) (by omega)
      refine lv_iconst (v := 1) hx hb dX10_isOver_12 (by decide) ?_
      refine lv_goto (tgt := 17) hx hb dX10_isOver_13 (by decide) ?_
      exact ret_i (ty := .boolean) hx hb hr hlocks (rfl) hP hD hS (Nat.le_of_ble_eq_true rfl) (Nat.le_of_ble_eq_true rfl) (⟨rfl, rfl, (⟨by decide, by decide⟩ : In 1 0 1), (fun _ => hb15)⟩) dX10_isOver_17

abbrev rm_X10_isGone : Room := { frames := 1, cells := 0, slots := 0, locals := 20 }
abbrev po_X10_isGone (g : GG) (ad : Nat → Nat) (th : Nat → Int) (L : List Nat) (f : HP) (z1 : Int32) (z2 : Int32) : Int32 → (List Nat × HP) → Prop := fun r u => u.1 = L ∧ u.2 = f ∧ In r 0 1
set_option maxHeartbeats 4000000 in
set_option maxRecDepth 100000 in
theorem s_X10_isGone (l : Launch) (g : GG) (ad : Nat → Nat) (th : Nat → Int) (L : List Nat) (f : HP) (sz : Nat) (z1 : Int32) (z2 : Int32) (hst : ST ad L) (hT : TI g ad th f)  : MtI l g yX10_isGone cX10_isGone 3 (some .boolean) rm_X10_isGone [.ref (ad 0), .int z1, .int z2] L f sz (po_X10_isGone g ad th L f z1 z2) := by
  refine MtI.of (by decide +kernel) (Nat.le_of_ble_eq_true rfl) ?_
  intro p e s m below meth c A hEn hP hD hS ls hl
  obtain ⟨hx, hb, hr, hml, hown, hlocks, hts, hG, hA, hE, hnm⟩ := hEn
  have hown : s.vm.findClass "RulerWord" = some m.cls := hown
  have hl : lv_has ls 3 [(0, .ref (ad 0)), (1, .int z1), (2, .int z2)] := hl
  refine lv_iload_n hx hb dX10_isGone_0 rfl (lv_at hl 1 rfl) ?_
  refine lv_aload_n hx hb dX10_isGone_1 rfl (lv_at hl 0 rfl) ?_
  obtain ⟨v15_1, v16_1, v17_1, hf2, hv15_1, hv16_1, hg16_1⟩ := hT.1 0 (by decide)
  refine pl_get (v := .ref (ad 6)) hx hb hts (fun w h => mT (inX10 w h)) hown hG.1 hP (hst.1 0 (by decide)) hf2 rfl 2 (by decide) (hts _ (mT wg_477)) (fun _ h => h) rfl dX10_isGone_2 ?_
  obtain ⟨v0_3, v1_3, v2_3, v3_3, v4_3, v5_3, v6_3, v7_3, hf4, hv0_3, hg0_3, hv1_3, hg1_3, hv2_3, hv3_3, hv5_3, hv6_3, hrel0_3⟩ := hT.1 6 (by decide)
  refine call_i (run_VN (rm := rm_X2_rounds_co) hx hb hml hown hts (s_X2_rounds_co l g ad th _ _ _  hst hT ) cV_X2_rounds wn_746 ⟨Nat.le_of_ble_eq_true rfl, Nat.le_of_ble_eq_true rfl⟩ hG hE hA hP hD hS (hst.1 6 (by decide)) hf4 rfl rfl hl.1 (As := []) (rest := [.int z1]) rfl (Nat.le_of_ble_eq_true rfl) dX10_isGone_5 ⟨Nat.le_of_ble_eq_true rfl, Nat.le_of_ble_eq_true rfl⟩) hA hD hS (fun r5 L6 f7 H locs hp8 hP hD hS => ?_)
  obtain ⟨eL9L, eL9T, eL9R, eL9X0⟩ := hp8
  have eL9L : L6 = L := eL9L
  have eL9T : f7 = f := eL9T
  rw [eL9L, eL9T] at hP hD
  have eL9R : In r5 2 3 := eL9R
  have hrn10 : r5.toInt = rnd (th 2) := eL9X0
  refine lv_imul hx hb dX10_isGone_8 ?_
  refine lv_topi (fun x11 ex11 => ?_)
  refine lv_iload_n hx hb dX10_isGone_9 rfl (lv_at hl 2 rfl) ?_
  refine lv_iadd hx hb dX10_isGone_10 ?_
  refine lv_topi (fun x12 ex12 => ?_)
  refine lv_aload_n hx hb dX10_isGone_11 rfl (lv_at hl 0 rfl) ?_
  refine pl_get (v := .ref (cr ad 0 0)) hx hb hts (fun w h => mT (inX10 w h)) hown hG.1 hP (hst.1 0 (by decide)) hf2 rfl 8 (by decide) (hts _ (mT wg_483)) (fun _ h => h) rfl dX10_isGone_12 ?_
  obtain ⟨v0_13, v1_13, v2_13, v3_13, v4_13, v5_13, v6_13, v7_13, v8_13, hf14, hv1_13, hg1_13, hv2_13, hg2_13, hv6_13⟩ := hT.2.1 0 (by decide) 0 (by decide)
  refine pl_getN (v := .int v2_13) hx hb hts (fun w h => mT (inX3 w h)) hown hG.1 hP (hst.c (by decide) (by decide)) hf14 rfl 2 (by decide) (hG.2.1 _ wn_341) (fun _ h => h) rfl dX10_isGone_15 ?_
  refine lv_icmp_ge (tgt := 25) hx hb dX10_isGone_18 (by decide) (fun c15 => ?_) (fun c15 => ?_)
  ·
    have cc16 : v2_13.toInt ≤ x12.toInt := i32_le.mp c15
    have hb17 : In x12 0 2147483647 := In.ge1 (In.full x12) hv2_13 cc16 (by omega) (by omega)
    refine lv_iconst (v := 0) hx hb dX10_isGone_25 (by decide) ?_
    exact ret_i (ty := .boolean) hx hb hr hlocks (rfl) hP hD hS (Nat.le_of_ble_eq_true rfl) (Nat.le_of_ble_eq_true rfl) (⟨rfl, rfl, (⟨by decide, by decide⟩ : In 0 0 1)⟩) dX10_isGone_26
  ·
    have cc18 : x12.toInt < v2_13.toInt := i32_nle c15
    have hb19 : In x12 (-2147483648) 17 := In.lt1 (In.full x12) hv2_13 cc18 (by omega) (by omega)
    refine lv_iconst (v := 1) hx hb dX10_isGone_21 (by decide) ?_
    refine lv_goto (tgt := 26) hx hb dX10_isGone_22 (by decide) ?_
    exact ret_i (ty := .boolean) hx hb hr hlocks (rfl) hP hD hS (Nat.le_of_ble_eq_true rfl) (Nat.le_of_ble_eq_true rfl) (⟨rfl, rfl, (⟨by decide, by decide⟩ : In 1 0 1)⟩) dX10_isGone_26

abbrev rm_X10_roundsLeft : Room := { frames := 2, cells := 0, slots := 0, locals := 40 }
abbrev po_X10_roundsLeft (g : GG) (ad : Nat → Nat) (th : Nat → Int) (L : List Nat) (f : HP)  : Int32 → (List Nat × HP) → Prop := fun _ u => u.1 = L ∧ u.2 = f
set_option maxHeartbeats 4000000 in
set_option maxRecDepth 100000 in
theorem s_X10_roundsLeft (l : Launch) (g : GG) (ad : Nat → Nat) (th : Nat → Int) (L : List Nat) (f : HP) (sz : Nat)  (hst : ST ad L) (hT : TI g ad th f)  : MtI l g yX10_roundsLeft cX10_roundsLeft 1 (some .int) rm_X10_roundsLeft [.ref (ad 0)] L f sz (po_X10_roundsLeft g ad th L f ) := by
  refine MtI.of (by decide +kernel) (Nat.le_of_ble_eq_true rfl) ?_
  intro p e s m below meth c A hEn hP hD hS ls hl
  obtain ⟨hx, hb, hr, hml, hown, hlocks, hts, hG, hA, hE, hnm⟩ := hEn
  have hown : s.vm.findClass "RulerWord" = some m.cls := hown
  have hl : lv_has ls 1 [(0, .ref (ad 0))] := hl
  refine lv_aload_n hx hb dX10_roundsLeft_0 rfl (lv_at hl 0 rfl) ?_
  obtain ⟨v15_1, v16_1, v17_1, hf2, hv15_1, hv16_1, hg16_1⟩ := hT.1 0 (by decide)
  refine pl_get (v := .int v15_1) hx hb hts (fun w h => mT (inX10 w h)) hown hG.1 hP (hst.1 0 (by decide)) hf2 rfl 15 (by decide) (hts _ (mT wg_490)) (fun _ h => h) rfl dX10_roundsLeft_1 ?_
  refine lv_if_eq (tgt := 25) hx hb dX10_roundsLeft_4 (by decide) (fun c3 => ?_) (fun c3 => ?_)
  ·
    have cc4 : v15_1.toInt = (0 : Int32).toInt := congrArg Int32.toInt c3
    have hb5 : In v15_1 0 0 := In.eq1 hv15_1 (⟨by decide, by decide⟩ : In 0 0 0) cc4 (by omega) (by omega)
    refine lv_iconst (v := 0) hx hb dX10_roundsLeft_25 (by decide) ?_
    exact ret_i (ty := .int) hx hb hr hlocks (rfl) hP hD hS (Nat.le_of_ble_eq_true rfl) (Nat.le_of_ble_eq_true rfl) (⟨rfl, rfl⟩) dX10_roundsLeft_26
  ·
    have cc6 : v15_1.toInt ≠ (0 : Int32).toInt := i32_ne c3
    have hb7 : In v15_1 1 1 := In.ne1 hv15_1 (⟨by decide, by decide⟩ : In 0 0 0) cc6 (by omega) (by omega)
    refine lv_aload_n hx hb dX10_roundsLeft_7 rfl (lv_at hl 0 rfl) ?_
    refine pl_get (v := .ref (ad 6)) hx hb hts (fun w h => mT (inX10 w h)) hown hG.1 hP (hst.1 0 (by decide)) hf2 rfl 2 (by decide) (hts _ (mT wg_477)) (fun _ h => h) rfl dX10_roundsLeft_8 ?_
    obtain ⟨v0_8, v1_8, v2_8, v3_8, v4_8, v5_8, v6_8, v7_8, hf9, hv0_8, hg0_8, hv1_8, hg1_8, hv2_8, hv3_8, hv5_8, hv6_8, hrel0_8⟩ := hT.1 6 (by decide)
    refine call_i (run_VN (rm := rm_X2_allRounds_co) hx hb hml hown hts (s_X2_allRounds_co l g ad th _ _ _  hst hT ) cV_X2_allRounds wn_755 ⟨Nat.le_of_ble_eq_true rfl, Nat.le_of_ble_eq_true rfl⟩ hG hE hA hP hD hS (hst.1 6 (by decide)) hf9 rfl rfl hl.1 (As := []) (rest := []) rfl (Nat.le_of_ble_eq_true rfl) dX10_roundsLeft_11 ⟨Nat.le_of_ble_eq_true rfl, Nat.le_of_ble_eq_true rfl⟩) hA hD hS (fun r10 L11 f12 H locs hp13 hP hD hS => ?_)
    obtain ⟨eL14L, eL14T⟩ := hp13
    have eL14L : L11 = L := eL14L
    have eL14T : f12 = f := eL14T
    rw [eL14L, eL14T] at hP hD
    refine lv_aload_n hx hb dX10_roundsLeft_14 rfl (lv_at hl 0 rfl) ?_
    refine pl_get (v := .ref (cr ad 0 0)) hx hb hts (fun w h => mT (inX10 w h)) hown hG.1 hP (hst.1 0 (by decide)) hf2 rfl 8 (by decide) (hts _ (mT wg_483)) (fun _ h => h) rfl dX10_roundsLeft_15 ?_
    obtain ⟨v0_15, v1_15, v2_15, v3_15, v4_15, v5_15, v6_15, v7_15, v8_15, hf16, hv1_15, hg1_15, hv2_15, hg2_15, hv6_15⟩ := hT.2.1 0 (by decide) 0 (by decide)
    refine pl_getN (v := .int v2_15) hx hb hts (fun w h => mT (inX3 w h)) hown hG.1 hP (hst.c (by decide) (by decide)) hf16 rfl 2 (by decide) (hG.2.1 _ wn_341) (fun _ h => h) rfl dX10_roundsLeft_18 ?_
    refine lv_isub hx hb dX10_roundsLeft_21 ?_
    refine lv_topi (fun x17 ex17 => ?_)
    refine lv_goto (tgt := 26) hx hb dX10_roundsLeft_22 (by decide) ?_
    exact ret_i (ty := .int) hx hb hr hlocks (rfl) hP hD hS (Nat.le_of_ble_eq_true rfl) (Nat.le_of_ble_eq_true rfl) (⟨rfl, rfl⟩) dX10_roundsLeft_26

abbrev rm_X10_refuse : Room := { frames := 0, cells := 0, slots := 0, locals := 0 }
abbrev po_X10_refuse (g : GG) (ad : Nat → Nat) (th : Nat → Int) (L : List Nat) (f : HP) (z1 : Int32) : Int32 → (List Nat × HP) → Prop := fun r u => u.1 = L ∧ TI g ad th u.2 ∧ (∀ b, b ≠ (ad 24) → u.2 b = f b)
set_option maxHeartbeats 4000000 in
set_option maxRecDepth 100000 in
theorem s_X10_refuse (l : Launch) (g : GG) (ad : Nat → Nat) (th : Nat → Int) (L : List Nat) (f : HP) (sz : Nat) (z1 : Int32) (hst : ST ad L) (hT : TI g ad th f) (hz1 : In z1 0 4) : MtI l g yX10_refuse cX10_refuse 2 (some .int) rm_X10_refuse [.ref (ad 0), .int z1] L f sz (po_X10_refuse g ad th L f z1) := by
  refine MtI.of (by decide +kernel) (Nat.le_of_ble_eq_true rfl) ?_
  intro p e s m below meth c A hEn hP hD hS ls hl
  obtain ⟨hx, hb, hr, hml, hown, hlocks, hts, hG, hA, hE, hnm⟩ := hEn
  have hown : s.vm.findClass "RulerWord" = some m.cls := hown
  have hl : lv_has ls 2 [(0, .ref (ad 0)), (1, .int z1)] := hl
  have hfr : (∀ b, b ≠ (ad 24) → f b = f b) := fun b z0_ => rfl
  refine lv_aload_n hx hb dX10_refuse_0 rfl (lv_at hl 0 rfl) ?_
  obtain ⟨v15_1, v16_1, v17_1, hf2, hv15_1, hv16_1, hg16_1⟩ := hT.1 0 (by decide)
  refine pl_get (v := .ref (ad 24)) hx hb hts (fun w h => mT (inX10 w h)) hown hG.1 hP (hst.1 0 (by decide)) hf2 rfl 14 (by decide) (hts _ (mT wg_489)) (fun _ h => h) rfl dX10_refuse_1 ?_
  refine lv_iload_n hx hb dX10_refuse_4 rfl (lv_at hl 1 rfl) ?_
  refine lv_dup2_11 hx hb dX10_refuse_5 rfl rfl ?_
  obtain ⟨rw3, hf4⟩ := hT.1 24 (by decide)
  have hin5 : vp_in z1 5 := In.inb hz1 (by decide) (by decide)
  refine pl_iald hx hb hG.1 hP (hst.1 24 (by decide)) 0 hf4 rfl hin5 dX10_refuse_6 ?_
  refine lv_topi (fun x6 ex6 => ?_)
  refine lv_iconst (v := 1) hx hb dX10_refuse_7 (by decide) ?_
  refine lv_iadd hx hb dX10_refuse_8 ?_
  refine lv_topi (fun x7 ex7 => ?_)
  refine pl_iastE hx hb hG.1 hP hD hS (hst.1 24 (by decide)) 0 hf4 rfl (In.inb hz1 (by decide) (by decide)) dX10_refuse_9 (fun H locs f8 r11 er11 hf9 ho10 hP hD hS => ?_)
  have hf12 := (ho10 (ad 0) (hst.ne (by decide) (by decide) (by decide))).trans hf2
  have hfr : (∀ b, b ≠ (ad 24) → f8 b = f b) := fun b z0_ => (ho10 b z0_).trans (hfr b z0_)
  refine lv_iconst (v := (-1)) hx hb dX10_refuse_10 (by decide) ?_
  have hT := TI.updA hT hst (k := 24) (by decide) hf9 ho10 ⟨r11, rfl⟩
  exact ret_i (ty := .int) hx hb hr hlocks (rfl) hP hD hS (Nat.le_of_ble_eq_true rfl) (Nat.le_of_ble_eq_true rfl) (⟨rfl, hT, hfr⟩) dX10_refuse_11

abbrev rm_X10_whyNotSaid : Room := { frames := 2, cells := 0, slots := 0, locals := 42 }
abbrev po_X10_whyNotSaid (g : GG) (ad : Nat → Nat) (th : Nat → Int) (L : List Nat) (f : HP) (z1 : Int32) (z2 : Int32) (z3 : Int32) (z4 : Int32) (z5 : Int32) : Int32 → (List Nat × HP) → Prop := fun r u => u.1 = L ∧ u.2 = f ∧ In r (-1) 4
set_option maxHeartbeats 4000000 in
set_option maxRecDepth 100000 in
theorem s_X10_whyNotSaid (l : Launch) (g : GG) (ad : Nat → Nat) (th : Nat → Int) (L : List Nat) (f : HP) (sz : Nat) (z1 : Int32) (z2 : Int32) (z3 : Int32) (z4 : Int32) (z5 : Int32) (hst : ST ad L) (hT : TI g ad th f)  : MtI l g yX10_whyNotSaid cX10_whyNotSaid 6 (some .int) rm_X10_whyNotSaid [.ref (ad 0), .int z1, .int z2, .int z3, .int z4, .int z5] L f sz (po_X10_whyNotSaid g ad th L f z1 z2 z3 z4 z5) := by
  refine MtI.of (by decide +kernel) (Nat.le_of_ble_eq_true rfl) ?_
  intro p e s m below meth c A hEn hP hD hS ls hl
  obtain ⟨hx, hb, hr, hml, hown, hlocks, hts, hG, hA, hE, hnm⟩ := hEn
  have hown : s.vm.findClass "RulerWord" = some m.cls := hown
  have hl : lv_has ls 6 [(0, .ref (ad 0)), (1, .int z1), (2, .int z2), (3, .int z3), (4, .int z4), (5, .int z5)] := hl
  refine lv_aload_n hx hb dX10_whyNotSaid_0 rfl (lv_at hl 0 rfl) ?_
  obtain ⟨v15_1, v16_1, v17_1, hf2, hv15_1, hv16_1, hg16_1⟩ := hT.1 0 (by decide)
  refine pl_get (v := .int v15_1) hx hb hts (fun w h => mT (inX10 w h)) hown hG.1 hP (hst.1 0 (by decide)) hf2 rfl 15 (by decide) (hts _ (mT wg_490)) (fun _ h => h) rfl dX10_whyNotSaid_1 ?_
  refine lv_if_ne (tgt := 9) hx hb dX10_whyNotSaid_4 (by decide) (fun c3 => ?_) (fun c3 => ?_)
  ·
    have cc4 : v15_1.toInt ≠ (0 : Int32).toInt := i32_ne c3
    have hb5 : In v15_1 1 1 := In.ne1 hv15_1 (⟨by decide, by decide⟩ : In 0 0 0) cc4 (by omega) (by omega)
    refine lv_aload_n hx hb dX10_whyNotSaid_9 rfl (lv_at hl 0 rfl) ?_
    refine lv_iload_n hx hb dX10_whyNotSaid_10 rfl (lv_at hl 1 rfl) ?_
    refine lv_iload_n hx hb dX10_whyNotSaid_11 rfl (lv_at hl 2 rfl) ?_
    refine call_i (run_V (rm := rm_X10_isRound) hx hb hml hown hts (s_X10_isRound l g ad th _ _ _ z1 z2 hst hT ) cV_X10_isRound wg_893 ⟨Nat.le_of_ble_eq_true rfl, Nat.le_of_ble_eq_true rfl⟩ hG hE hA hP hD hS (hst.1 0 (by decide)) hf2 rfl rfl hl.1 (As := [.int z1, .int z2]) (rest := []) rfl (Nat.le_of_ble_eq_true rfl) dX10_whyNotSaid_12 ⟨Nat.le_of_ble_eq_true rfl, Nat.le_of_ble_eq_true rfl⟩) hA hD hS (fun r6 L7 f8 H locs hp9 hP hD hS => ?_)
    obtain ⟨eL10L, eL10T, eL10R, eL10W0, eL10W1⟩ := hp9
    have eL10L : L7 = L := eL10L
    have eL10T : f8 = f := eL10T
    rw [eL10L, eL10T] at hP hD
    have eL10R : In r6 0 1 := eL10R
    refine lv_if_eq (tgt := 46) hx hb dX10_whyNotSaid_15 (by decide) (fun c11 => ?_) (fun c11 => ?_)
    ·
      have cc12 : r6.toInt = (0 : Int32).toInt := congrArg Int32.toInt c11
      have hb13 : In r6 0 0 := In.eq1 eL10R (⟨by decide, by decide⟩ : In 0 0 0) cc12 (by omega) (by omega)
      refine lv_iconst (v := 1) hx hb dX10_whyNotSaid_46 (by decide) ?_
      exact ret_i (ty := .int) hx hb hr hlocks (rfl) hP hD hS (Nat.le_of_ble_eq_true rfl) (Nat.le_of_ble_eq_true rfl) (⟨rfl, rfl, (⟨by decide, by decide⟩ : In 1 (-1) 4)⟩) dX10_whyNotSaid_47
    ·
      have cc14 : r6.toInt ≠ (0 : Int32).toInt := i32_ne c11
      have hb15 : In r6 1 1 := In.ne1 eL10R (⟨by decide, by decide⟩ : In 0 0 0) cc14 (by omega) (by omega)
      have hb16 : In z1 0 5 := In.both (eL10W0 c11) (In.full z1) (by decide) (by decide)
      have hb17 : In z2 0 2 := In.both (eL10W1 c11) (In.full z2) (by decide) (by decide)
      refine lv_aload_n hx hb dX10_whyNotSaid_18 rfl (lv_at hl 0 rfl) ?_
      refine lv_iload_n hx hb dX10_whyNotSaid_19 rfl (lv_at hl 3 rfl) ?_
      refine call_i (run_V (rm := rm_X10_isPeer) hx hb hml hown hts (s_X10_isPeer l g ad th _ _ _ z3 hst hT ) cV_X10_isPeer wg_897 ⟨Nat.le_of_ble_eq_true rfl, Nat.le_of_ble_eq_true rfl⟩ hG hE hA hP hD hS (hst.1 0 (by decide)) hf2 rfl rfl hl.1 (As := [.int z3]) (rest := []) rfl (Nat.le_of_ble_eq_true rfl) dX10_whyNotSaid_20 ⟨Nat.le_of_ble_eq_true rfl, Nat.le_of_ble_eq_true rfl⟩) hA hD hS (fun r18 L19 f20 H locs hp21 hP hD hS => ?_)
      obtain ⟨eL22L, eL22T, eL22R, eL22W0⟩ := hp21
      have eL22L : L19 = L := eL22L
      have eL22T : f20 = f := eL22T
      rw [eL22L, eL22T] at hP hD
      have eL22R : In r18 0 1 := eL22R
      refine lv_if_eq (tgt := 46) hx hb dX10_whyNotSaid_23 (by decide) (fun c23 => ?_) (fun c23 => ?_)
      ·
        have cc24 : r18.toInt = (0 : Int32).toInt := congrArg Int32.toInt c23
        have hb25 : In r18 0 0 := In.eq1 eL22R (⟨by decide, by decide⟩ : In 0 0 0) cc24 (by omega) (by omega)
        refine lv_iconst (v := 1) hx hb dX10_whyNotSaid_46 (by decide) ?_
        exact ret_i (ty := .int) hx hb hr hlocks (rfl) hP hD hS (Nat.le_of_ble_eq_true rfl) (Nat.le_of_ble_eq_true rfl) (⟨rfl, rfl, (⟨by decide, by decide⟩ : In 1 (-1) 4)⟩) dX10_whyNotSaid_47
      ·
        have cc26 : r18.toInt ≠ (0 : Int32).toInt := i32_ne c23
        have hb27 : In r18 1 1 := In.ne1 eL22R (⟨by decide, by decide⟩ : In 0 0 0) cc26 (by omega) (by omega)
        have hb28 : In z3 0 8 := In.both (eL22W0 c23) (In.full z3) (by decide) (by decide)
        refine lv_aload_n hx hb dX10_whyNotSaid_26 rfl (lv_at hl 0 rfl) ?_
        refine lv_iload hx hb dX10_whyNotSaid_27 (lv_at hl 4 rfl) ?_
        refine call_i (run_V (rm := rm_X10_isPeer) hx hb hml hown hts (s_X10_isPeer l g ad th _ _ _ z4 hst hT ) cV_X10_isPeer wg_897 ⟨Nat.le_of_ble_eq_true rfl, Nat.le_of_ble_eq_true rfl⟩ hG hE hA hP hD hS (hst.1 0 (by decide)) hf2 rfl rfl hl.1 (As := [.int z4]) (rest := []) rfl (Nat.le_of_ble_eq_true rfl) dX10_whyNotSaid_29 ⟨Nat.le_of_ble_eq_true rfl, Nat.le_of_ble_eq_true rfl⟩) hA hD hS (fun r29 L30 f31 H locs hp32 hP hD hS => ?_)
        obtain ⟨eL33L, eL33T, eL33R, eL33W0⟩ := hp32
        have eL33L : L30 = L := eL33L
        have eL33T : f31 = f := eL33T
        rw [eL33L, eL33T] at hP hD
        have eL33R : In r29 0 1 := eL33R
        refine lv_if_eq (tgt := 46) hx hb dX10_whyNotSaid_32 (by decide) (fun c34 => ?_) (fun c34 => ?_)
        ·
          have cc35 : r29.toInt = (0 : Int32).toInt := congrArg Int32.toInt c34
          have hb36 : In r29 0 0 := In.eq1 eL33R (⟨by decide, by decide⟩ : In 0 0 0) cc35 (by omega) (by omega)
          refine lv_iconst (v := 1) hx hb dX10_whyNotSaid_46 (by decide) ?_
          exact ret_i (ty := .int) hx hb hr hlocks (rfl) hP hD hS (Nat.le_of_ble_eq_true rfl) (Nat.le_of_ble_eq_true rfl) (⟨rfl, rfl, (⟨by decide, by decide⟩ : In 1 (-1) 4)⟩) dX10_whyNotSaid_47
        ·
          have cc37 : r29.toInt ≠ (0 : Int32).toInt := i32_ne c34
          have hb38 : In r29 1 1 := In.ne1 eL33R (⟨by decide, by decide⟩ : In 0 0 0) cc37 (by omega) (by omega)
          have hb39 : In z4 0 8 := In.both (eL33W0 c34) (In.full z4) (by decide) (by decide)
          refine lv_iload hx hb dX10_whyNotSaid_35 (lv_at hl 5 rfl) ?_
          refine lv_if_lt (tgt := 46) hx hb dX10_whyNotSaid_37 (by decide) (fun c40 => ?_) (fun c40 => ?_)
          ·
            have cc41 : z5.toInt < (0 : Int32).toInt := i32_lt.mp c40
            have hb42 : In z5 (-2147483648) (-1) := In.lt1 (In.full z5) (⟨by decide, by decide⟩ : In 0 0 0) cc41 (by omega) (by omega)
            refine lv_iconst (v := 1) hx hb dX10_whyNotSaid_46 (by decide) ?_
            exact ret_i (ty := .int) hx hb hr hlocks (rfl) hP hD hS (Nat.le_of_ble_eq_true rfl) (Nat.le_of_ble_eq_true rfl) (⟨rfl, rfl, (⟨by decide, by decide⟩ : In 1 (-1) 4)⟩) dX10_whyNotSaid_47
          ·
            have cc43 : (0 : Int32).toInt ≤ z5.toInt := i32_nlt c40
            have hb44 : In z5 0 2147483647 := In.ge1 (In.full z5) (⟨by decide, by decide⟩ : In 0 0 0) cc43 (by omega) (by omega)
            refine lv_iload hx hb dX10_whyNotSaid_40 (lv_at hl 5 rfl) ?_
            refine lv_iconst (v := 2) hx hb dX10_whyNotSaid_42 (by decide) ?_
            refine lv_icmp_le (tgt := 48) hx hb dX10_whyNotSaid_43 (by decide) (fun c45 => ?_) (fun c45 => ?_)
            ·
              have cc46 : z5.toInt ≤ (2 : Int32).toInt := i32_le.mp c45
              have hb47 : In z5 0 2 := In.le1 hb44 (⟨by decide, by decide⟩ : In 2 2 2) cc46 (by omega) (by omega)
              refine lv_aload_n hx hb dX10_whyNotSaid_48 rfl (lv_at hl 0 rfl) ?_
              refine pl_get (v := .ref (cr ad 0 0)) hx hb hts (fun w h => mT (inX10 w h)) hown hG.1 hP (hst.1 0 (by decide)) hf2 rfl 8 (by decide) (hts _ (mT wg_483)) (fun _ h => h) rfl dX10_whyNotSaid_49 ?_
              obtain ⟨v0_48, v1_48, v2_48, v3_48, v4_48, v5_48, v6_48, v7_48, v8_48, hf49, hv1_48, hg1_48, hv2_48, hg2_48, hv6_48⟩ := hT.2.1 0 (by decide) 0 (by decide)
              refine pl_getN (v := .int v1_48) hx hb hts (fun w h => mT (inX3 w h)) hown hG.1 hP (hst.c (by decide) (by decide)) hf49 rfl 1 (by decide) (hG.2.1 _ wn_339) (fun _ h => h) rfl dX10_whyNotSaid_52 ?_
              refine lv_iload_n hx hb dX10_whyNotSaid_55 rfl (lv_at hl 3 rfl) ?_
              refine call_i (run_S (rm := rm_X10_bit) hx hb hml hown hts (s_X10_bit l g ad th _ _ _ v1_48 z3 hst hT ) cS_X10_bit wg_901 ⟨Nat.le_of_ble_eq_true rfl, Nat.le_of_ble_eq_true rfl⟩ hG hE hA hP hD hS rfl hl.1 (As := [.int v1_48, .int z3]) (rest := []) rfl (Nat.le_of_ble_eq_true rfl) dX10_whyNotSaid_56 ⟨Nat.le_of_ble_eq_true rfl, Nat.le_of_ble_eq_true rfl⟩) hA hD hS (fun r50 L51 f52 H locs hp53 hP hD hS => ?_)
              obtain ⟨eL54L, eL54T, eL54R, eL54X0⟩ := hp53
              have eL54L : L51 = L := eL54L
              have eL54T : f52 = f := eL54T
              rw [eL54L, eL54T] at hP hD
              have eL54R : In r50 0 1 := eL54R
              refine lv_if_ne (tgt := 64) hx hb dX10_whyNotSaid_59 (by decide) (fun c55 => ?_) (fun c55 => ?_)
              ·
                have cc56 : r50.toInt ≠ (0 : Int32).toInt := i32_ne c55
                have hb57 : In r50 1 1 := In.ne1 eL54R (⟨by decide, by decide⟩ : In 0 0 0) cc56 (by omega) (by omega)
                refine lv_aload_n hx hb dX10_whyNotSaid_64 rfl (lv_at hl 0 rfl) ?_
                refine lv_iload_n hx hb dX10_whyNotSaid_65 rfl (lv_at hl 1 rfl) ?_
                refine lv_iload_n hx hb dX10_whyNotSaid_66 rfl (lv_at hl 2 rfl) ?_
                refine call_i (run_V (rm := rm_X10_isGone) hx hb hml hown hts (s_X10_isGone l g ad th _ _ _ z1 z2 hst hT ) cV_X10_isGone wg_902 ⟨Nat.le_of_ble_eq_true rfl, Nat.le_of_ble_eq_true rfl⟩ hG hE hA hP hD hS (hst.1 0 (by decide)) hf2 rfl rfl hl.1 (As := [.int z1, .int z2]) (rest := []) rfl (Nat.le_of_ble_eq_true rfl) dX10_whyNotSaid_67 ⟨Nat.le_of_ble_eq_true rfl, Nat.le_of_ble_eq_true rfl⟩) hA hD hS (fun r58 L59 f60 H locs hp61 hP hD hS => ?_)
                obtain ⟨eL62L, eL62T, eL62R⟩ := hp61
                have eL62L : L59 = L := eL62L
                have eL62T : f60 = f := eL62T
                rw [eL62L, eL62T] at hP hD
                have eL62R : In r58 0 1 := eL62R
                refine lv_if_eq (tgt := 75) hx hb dX10_whyNotSaid_70 (by decide) (fun c63 => ?_) (fun c63 => ?_)
                ·
                  have cc64 : r58.toInt = (0 : Int32).toInt := congrArg Int32.toInt c63
                  have hb65 : In r58 0 0 := In.eq1 eL62R (⟨by decide, by decide⟩ : In 0 0 0) cc64 (by omega) (by omega)
                  refine lv_aload_n hx hb dX10_whyNotSaid_75 rfl (lv_at hl 0 rfl) ?_
                  refine pl_get (v := .ref (cr ad 0 0)) hx hb hts (fun w h => mT (inX10 w h)) hown hG.1 hP (hst.1 0 (by decide)) hf2 rfl 8 (by decide) (hts _ (mT wg_483)) (fun _ h => h) rfl dX10_whyNotSaid_76 ?_
                  refine pl_getN (v := .int v6_48) hx hb hts (fun w h => mT (inX3 w h)) hown hG.1 hP (hst.c (by decide) (by decide)) hf49 rfl 6 (by decide) (hG.2.1 _ wn_349) (fun _ h => h) rfl dX10_whyNotSaid_79 ?_
                  refine lv_bipush (v := 30) hx hb dX10_whyNotSaid_82 (by decide) ?_
                  refine lv_icmp_lt (tgt := 91) hx hb dX10_whyNotSaid_84 (by decide) (fun c66 => ?_) (fun c66 => ?_)
                  ·
                    have cc67 : v6_48.toInt < (30 : Int32).toInt := i32_lt.mp c66
                    have hb68 : In v6_48 0 29 := In.lt1 hv6_48 (⟨by decide, by decide⟩ : In 30 30 30) cc67 (by omega) (by omega)
                    refine lv_iconst (v := (-1)) hx hb dX10_whyNotSaid_91 (by decide) ?_
                    exact ret_i (ty := .int) hx hb hr hlocks (rfl) hP hD hS (Nat.le_of_ble_eq_true rfl) (Nat.le_of_ble_eq_true rfl) (⟨rfl, rfl, (⟨by decide, by decide⟩ : In (-1) (-1) 4)⟩) dX10_whyNotSaid_92
                  ·
                    have cc69 : (30 : Int32).toInt ≤ v6_48.toInt := i32_nlt c66
                    have hb70 : In v6_48 30 30 := In.ge1 hv6_48 (⟨by decide, by decide⟩ : In 30 30 30) cc69 (by omega) (by omega)
                    refine lv_iconst (v := 4) hx hb dX10_whyNotSaid_87 (by decide) ?_
                    refine lv_goto (tgt := 92) hx hb dX10_whyNotSaid_88 (by decide) ?_
                    exact ret_i (ty := .int) hx hb hr hlocks (rfl) hP hD hS (Nat.le_of_ble_eq_true rfl) (Nat.le_of_ble_eq_true rfl) (⟨rfl, rfl, (⟨by decide, by decide⟩ : In 4 (-1) 4)⟩) dX10_whyNotSaid_92
                ·
                  have cc71 : r58.toInt ≠ (0 : Int32).toInt := i32_ne c63
                  have hb72 : In r58 1 1 := In.ne1 eL62R (⟨by decide, by decide⟩ : In 0 0 0) cc71 (by omega) (by omega)
                  refine lv_iconst (v := 3) hx hb dX10_whyNotSaid_73 (by decide) ?_
                  exact ret_i (ty := .int) hx hb hr hlocks (rfl) hP hD hS (Nat.le_of_ble_eq_true rfl) (Nat.le_of_ble_eq_true rfl) (⟨rfl, rfl, (⟨by decide, by decide⟩ : In 3 (-1) 4)⟩) dX10_whyNotSaid_74
              ·
                have cc73 : r50.toInt = (0 : Int32).toInt := congrArg Int32.toInt c55
                have hb74 : In r50 0 0 := In.eq1 eL54R (⟨by decide, by decide⟩ : In 0 0 0) cc73 (by omega) (by omega)
                refine lv_iconst (v := 2) hx hb dX10_whyNotSaid_62 (by decide) ?_
                exact ret_i (ty := .int) hx hb hr hlocks (rfl) hP hD hS (Nat.le_of_ble_eq_true rfl) (Nat.le_of_ble_eq_true rfl) (⟨rfl, rfl, (⟨by decide, by decide⟩ : In 2 (-1) 4)⟩) dX10_whyNotSaid_63
            ·
              have cc75 : (2 : Int32).toInt < z5.toInt := i32_nle c45
              have hb76 : In z5 3 2147483647 := In.gt1 hb44 (⟨by decide, by decide⟩ : In 2 2 2) cc75 (by omega) (by omega)
              refine lv_iconst (v := 1) hx hb dX10_whyNotSaid_46 (by decide) ?_
              exact ret_i (ty := .int) hx hb hr hlocks (rfl) hP hD hS (Nat.le_of_ble_eq_true rfl) (Nat.le_of_ble_eq_true rfl) (⟨rfl, rfl, (⟨by decide, by decide⟩ : In 1 (-1) 4)⟩) dX10_whyNotSaid_47
  ·
    have cc77 : v15_1.toInt = (0 : Int32).toInt := congrArg Int32.toInt c3
    have hb78 : In v15_1 0 0 := In.eq1 hv15_1 (⟨by decide, by decide⟩ : In 0 0 0) cc77 (by omega) (by omega)
    refine lv_iconst (v := 0) hx hb dX10_whyNotSaid_7 (by decide) ?_
    exact ret_i (ty := .int) hx hb hr hlocks (rfl) hP hD hS (Nat.le_of_ble_eq_true rfl) (Nat.le_of_ble_eq_true rfl) (⟨rfl, rfl, (⟨by decide, by decide⟩ : In 0 (-1) 4)⟩) dX10_whyNotSaid_8

abbrev rm_X10_whyNotTold : Room := { frames := 0, cells := 0, slots := 0, locals := 0 }
abbrev po_X10_whyNotTold (g : GG) (ad : Nat → Nat) (th : Nat → Int) (L : List Nat) (f : HP) (z1 : Int32) (z2 : Int32) : Int32 → (List Nat × HP) → Prop := fun r u => u.1 = L ∧ u.2 = f ∧ In r (-1) 3 ∧ (r.toInt ≠ -1 ∨ (0 ≤ z1.toInt ∧ z1.toInt ≤ z2.toInt))
set_option maxHeartbeats 4000000 in
set_option maxRecDepth 100000 in
theorem s_X10_whyNotTold (l : Launch) (g : GG) (ad : Nat → Nat) (th : Nat → Int) (L : List Nat) (f : HP) (sz : Nat) (z1 : Int32) (z2 : Int32) (hst : ST ad L) (hT : TI g ad th f)  : MtI l g yX10_whyNotTold cX10_whyNotTold 3 (some .int) rm_X10_whyNotTold [.ref (ad 0), .int z1, .int z2] L f sz (po_X10_whyNotTold g ad th L f z1 z2) := by
  refine MtI.of (by decide +kernel) (Nat.le_of_ble_eq_true rfl) ?_
  intro p e s m below meth c A hEn hP hD hS ls hl
  obtain ⟨hx, hb, hr, hml, hown, hlocks, hts, hG, hA, hE, hnm⟩ := hEn
  have hown : s.vm.findClass "RulerWord" = some m.cls := hown
  have hl : lv_has ls 3 [(0, .ref (ad 0)), (1, .int z1), (2, .int z2)] := hl
  refine lv_aload_n hx hb dX10_whyNotTold_0 rfl (lv_at hl 0 rfl) ?_
  obtain ⟨v15_1, v16_1, v17_1, hf2, hv15_1, hv16_1, hg16_1⟩ := hT.1 0 (by decide)
  refine pl_get (v := .int v15_1) hx hb hts (fun w h => mT (inX10 w h)) hown hG.1 hP (hst.1 0 (by decide)) hf2 rfl 15 (by decide) (hts _ (mT wg_490)) (fun _ h => h) rfl dX10_whyNotTold_1 ?_
  refine lv_if_ne (tgt := 9) hx hb dX10_whyNotTold_4 (by decide) (fun c3 => ?_) (fun c3 => ?_)
  ·
    have oc0 : (0 : Int32).toInt = 0 := by decide
    have cc4 : v15_1.toInt ≠ (0 : Int32).toInt := i32_ne c3
    have hb5 : In v15_1 1 1 := In.ne1 hv15_1 (⟨by decide, by decide⟩ : In 0 0 0) cc4 (by omega) (by omega)
    refine lv_iload_n hx hb dX10_whyNotTold_9 rfl (lv_at hl 1 rfl) ?_
    refine lv_if_lt (tgt := 18) hx hb dX10_whyNotTold_10 (by decide) (fun c6 => ?_) (fun c6 => ?_)
    ·
      have oc0 : (0 : Int32).toInt = 0 := by decide
      have cc7 : z1.toInt < (0 : Int32).toInt := i32_lt.mp c6
      have hb8 : In z1 (-2147483648) (-1) := In.lt1 (In.full z1) (⟨by decide, by decide⟩ : In 0 0 0) cc7 (by omega) (by omega)
      refine lv_iconst (v := 1) hx hb dX10_whyNotTold_18 (by decide) ?_
      exact ret_i (ty := .int) hx hb hr hlocks (rfl) hP hD hS (Nat.le_of_ble_eq_true rfl) (Nat.le_of_ble_eq_true rfl) (⟨rfl, rfl, (⟨by decide, by decide⟩ : In 1 (-1) 3), (by have oc1 : (1 : Int32).toInt = 1 := (by decide); obtain ⟨o0a, o0b⟩ := (hb8 : In _ _ _); omega)⟩) dX10_whyNotTold_19
    ·
      have oc0 : (0 : Int32).toInt = 0 := by decide
      have cc9 : (0 : Int32).toInt ≤ z1.toInt := i32_nlt c6
      have hb10 : In z1 0 2147483647 := In.ge1 (In.full z1) (⟨by decide, by decide⟩ : In 0 0 0) cc9 (by omega) (by omega)
      refine lv_iload_n hx hb dX10_whyNotTold_13 rfl (lv_at hl 1 rfl) ?_
      refine lv_iload_n hx hb dX10_whyNotTold_14 rfl (lv_at hl 2 rfl) ?_
      refine lv_icmp_le (tgt := 20) hx hb dX10_whyNotTold_15 (by decide) (fun c11 => ?_) (fun c11 => ?_)
      ·
        have cc12 : z1.toInt ≤ z2.toInt := i32_le.mp c11
        have hb13 : In z2 0 2147483647 := In.le2 hb10 (In.full z2) cc12 (by omega) (by omega)
        refine lv_aload_n hx hb dX10_whyNotTold_20 rfl (lv_at hl 0 rfl) ?_
        refine pl_get (v := .ref (cr ad 0 0)) hx hb hts (fun w h => mT (inX10 w h)) hown hG.1 hP (hst.1 0 (by decide)) hf2 rfl 8 (by decide) (hts _ (mT wg_483)) (fun _ h => h) rfl dX10_whyNotTold_21 ?_
        obtain ⟨v0_14, v1_14, v2_14, v3_14, v4_14, v5_14, v6_14, v7_14, v8_14, hf15, hv1_14, hg1_14, hv2_14, hg2_14, hv6_14⟩ := hT.2.1 0 (by decide) 0 (by decide)
        refine pl_getN (v := .int v2_14) hx hb hts (fun w h => mT (inX3 w h)) hown hG.1 hP (hst.c (by decide) (by decide)) hf15 rfl 2 (by decide) (hG.2.1 _ wn_341) (fun _ h => h) rfl dX10_whyNotTold_24 ?_
        refine lv_if_le (tgt := 34) hx hb dX10_whyNotTold_27 (by decide) (fun c16 => ?_) (fun c16 => ?_)
        ·
          have oc0 : (0 : Int32).toInt = 0 := by decide
          have cc17 : v2_14.toInt ≤ (0 : Int32).toInt := i32_le.mp c16
          have hb18 : In v2_14 0 0 := In.le1 hv2_14 (⟨by decide, by decide⟩ : In 0 0 0) cc17 (by omega) (by omega)
          refine lv_iconst (v := (-1)) hx hb dX10_whyNotTold_34 (by decide) ?_
          exact ret_i (ty := .int) hx hb hr hlocks (rfl) hP hD hS (Nat.le_of_ble_eq_true rfl) (Nat.le_of_ble_eq_true rfl) (⟨rfl, rfl, (⟨by decide, by decide⟩ : In (-1) (-1) 3), (by have ocm1 : ((-1) : Int32).toInt = (-1) := (by decide); obtain ⟨o0a, o0b⟩ := (hb10 : In _ _ _); obtain ⟨o1a, o1b⟩ := (hb13 : In _ _ _); omega)⟩) dX10_whyNotTold_35
        ·
          have oc0 : (0 : Int32).toInt = 0 := by decide
          have cc19 : (0 : Int32).toInt < v2_14.toInt := i32_nle c16
          have hb20 : In v2_14 1 18 := In.gt1 hv2_14 (⟨by decide, by decide⟩ : In 0 0 0) cc19 (by omega) (by omega)
          refine lv_iconst (v := 3) hx hb dX10_whyNotTold_30 (by decide) ?_
          refine lv_goto (tgt := 35) hx hb dX10_whyNotTold_31 (by decide) ?_
          exact ret_i (ty := .int) hx hb hr hlocks (rfl) hP hD hS (Nat.le_of_ble_eq_true rfl) (Nat.le_of_ble_eq_true rfl) (⟨rfl, rfl, (⟨by decide, by decide⟩ : In 3 (-1) 3), (by have oc3 : (3 : Int32).toInt = 3 := (by decide); obtain ⟨o0a, o0b⟩ := (hb10 : In _ _ _); obtain ⟨o1a, o1b⟩ := (hb13 : In _ _ _); omega)⟩) dX10_whyNotTold_35
      ·
        have cc21 : z2.toInt < z1.toInt := i32_nle c11
        have hb22 : In z2 (-2147483648) 2147483646 := In.gt2 hb10 (In.full z2) cc21 (by omega) (by omega)
        refine lv_iconst (v := 1) hx hb dX10_whyNotTold_18 (by decide) ?_
        exact ret_i (ty := .int) hx hb hr hlocks (rfl) hP hD hS (Nat.le_of_ble_eq_true rfl) (Nat.le_of_ble_eq_true rfl) (⟨rfl, rfl, (⟨by decide, by decide⟩ : In 1 (-1) 3), (by have oc1 : (1 : Int32).toInt = 1 := (by decide); obtain ⟨o0a, o0b⟩ := (hb10 : In _ _ _); obtain ⟨o1a, o1b⟩ := (hb22 : In _ _ _); omega)⟩) dX10_whyNotTold_19
  ·
    have oc0 : (0 : Int32).toInt = 0 := by decide
    have cc23 : v15_1.toInt = (0 : Int32).toInt := congrArg Int32.toInt c3
    have hb24 : In v15_1 0 0 := In.eq1 hv15_1 (⟨by decide, by decide⟩ : In 0 0 0) cc23 (by omega) (by omega)
    refine lv_iconst (v := 0) hx hb dX10_whyNotTold_7 (by decide) ?_
    exact ret_i (ty := .int) hx hb hr hlocks (rfl) hP hD hS (Nat.le_of_ble_eq_true rfl) (Nat.le_of_ble_eq_true rfl) (⟨rfl, rfl, (⟨by decide, by decide⟩ : In 0 (-1) 3), (by have oc0 : (0 : Int32).toInt = 0 := (by decide); omega)⟩) dX10_whyNotTold_8

abbrev rm_X10_freeWith : Room := { frames := 2, cells := 0, slots := 0, locals := 47 }
abbrev po_X10_freeWith (g : GG) (ad : Nat → Nat) (th : Nat → Int) (L : List Nat) (f : HP) (z1 : Int32) : Int32 → (List Nat × HP) → Prop := fun _ u => u.1 = L ∧ u.2 = f
set_option maxHeartbeats 4000000 in
set_option maxRecDepth 100000 in
theorem s_X10_freeWith (l : Launch) (g : GG) (ad : Nat → Nat) (th : Nat → Int) (L : List Nat) (f : HP) (sz : Nat) (z1 : Int32) (hst : ST ad L) (hT : TI g ad th f)  : MtI l g yX10_freeWith cX10_freeWith 2 (some .int) rm_X10_freeWith [.ref (ad 0), .int z1] L f sz (po_X10_freeWith g ad th L f z1) := by
  refine MtI.of (by decide +kernel) (Nat.le_of_ble_eq_true rfl) ?_
  intro p e s m below meth c A hEn hP hD hS ls hl
  obtain ⟨hx, hb, hr, hml, hown, hlocks, hts, hG, hA, hE, hnm⟩ := hEn
  have hown : s.vm.findClass "RulerWord" = some m.cls := hown
  have hl : lv_has ls 2 [(0, .ref (ad 0)), (1, .int z1)] := hl
  refine lv_aload_n hx hb dX10_freeWith_0 rfl (lv_at hl 0 rfl) ?_
  obtain ⟨v15_1, v16_1, v17_1, hf2, hv15_1, hv16_1, hg16_1⟩ := hT.1 0 (by decide)
  refine pl_get (v := .ref (ad 6)) hx hb hts (fun w h => mT (inX10 w h)) hown hG.1 hP (hst.1 0 (by decide)) hf2 rfl 2 (by decide) (hts _ (mT wg_477)) (fun _ h => h) rfl dX10_freeWith_1 ?_
  refine lv_iload_n hx hb dX10_freeWith_4 rfl (lv_at hl 1 rfl) ?_
  refine lv_aload_n hx hb dX10_freeWith_5 rfl (lv_at hl 0 rfl) ?_
  refine pl_get (v := .ref (ad 6)) hx hb hts (fun w h => mT (inX10 w h)) hown hG.1 hP (hst.1 0 (by decide)) hf2 rfl 2 (by decide) (hts _ (mT wg_477)) (fun _ h => h) rfl dX10_freeWith_6 ?_
  obtain ⟨v0_3, v1_3, v2_3, v3_3, v4_3, v5_3, v6_3, v7_3, hf4, hv0_3, hg0_3, hv1_3, hg1_3, hv2_3, hv3_3, hv5_3, hv6_3, hrel0_3⟩ := hT.1 6 (by decide)
  refine pl_getN (v := .int v3_3) hx hb hts (fun w h => mT (inX2 w h)) hown hG.1 hP (hst.1 6 (by decide)) hf4 rfl 3 (by decide) (hG.2.1 _ wn_235) (fun _ h => h) rfl dX10_freeWith_9 ?_
  refine call_i (run_VN (rm := rm_X2_freeLetters_co) hx hb hml hown hts (s_X2_freeLetters_co l g ad th _ _ _ z1 v3_3 hst hT hv3_3) cV_X2_freeLetters wn_1022 ⟨Nat.le_of_ble_eq_true rfl, Nat.le_of_ble_eq_true rfl⟩ hG hE hA hP hD hS (hst.1 6 (by decide)) hf4 rfl rfl hl.1 (As := [.int z1, .int v3_3]) (rest := []) rfl (Nat.le_of_ble_eq_true rfl) dX10_freeWith_12 ⟨Nat.le_of_ble_eq_true rfl, Nat.le_of_ble_eq_true rfl⟩) hA hD hS (fun r5 L6 f7 H locs hp8 hP hD hS => ?_)
  obtain ⟨eL9L, eL9T⟩ := hp8
  have eL9L : L6 = L := eL9L
  have eL9T : f7 = f := eL9T
  rw [eL9L, eL9T] at hP hD
  exact ret_i (ty := .int) hx hb hr hlocks (rfl) hP hD hS (Nat.le_of_ble_eq_true rfl) (Nat.le_of_ble_eq_true rfl) (⟨rfl, rfl⟩) dX10_freeWith_15

abbrev rm_X10_isAsked : Room := { frames := 3, cells := 0, slots := 0, locals := 68 }
abbrev po_X10_isAsked (g : GG) (ad : Nat → Nat) (th : Nat → Int) (L : List Nat) (f : HP) (z1 : Int32) : Int32 → (List Nat × HP) → Prop := fun r u => u.1 = L ∧ u.2 = f ∧ In r 0 1
set_option maxHeartbeats 4000000 in
set_option maxRecDepth 100000 in
theorem s_X10_isAsked (l : Launch) (g : GG) (ad : Nat → Nat) (th : Nat → Int) (L : List Nat) (f : HP) (sz : Nat) (z1 : Int32) (hst : ST ad L) (hT : TI g ad th f)  : MtI l g yX10_isAsked cX10_isAsked 2 (some .boolean) rm_X10_isAsked [.ref (ad 0), .int z1] L f sz (po_X10_isAsked g ad th L f z1) := by
  refine MtI.of (by decide +kernel) (Nat.le_of_ble_eq_true rfl) ?_
  intro p e s m below meth c A hEn hP hD hS ls hl
  obtain ⟨hx, hb, hr, hml, hown, hlocks, hts, hG, hA, hE, hnm⟩ := hEn
  have hown : s.vm.findClass "RulerWord" = some m.cls := hown
  have hl : lv_has ls 2 [(0, .ref (ad 0)), (1, .int z1)] := hl
  refine lv_aload_n hx hb dX10_isAsked_0 rfl (lv_at hl 0 rfl) ?_
  obtain ⟨v15_1, v16_1, v17_1, hf2, hv15_1, hv16_1, hg16_1⟩ := hT.1 0 (by decide)
  refine pl_get (v := .int v15_1) hx hb hts (fun w h => mT (inX10 w h)) hown hG.1 hP (hst.1 0 (by decide)) hf2 rfl 15 (by decide) (hts _ (mT wg_490)) (fun _ h => h) rfl dX10_isAsked_1 ?_
  have hJ21 : ∀ (H : Heap) (locs : List Loc) (ls : Array Slot), va_P g.1 vwCl (va_pl L f) H → va_D A (va_pl L f) → va_S A s.heap H locs → lv_has ls 2 [(0, .ref (ad 0)), (1, .int z1)] → W p l e rm_X10_isAsked s m [.ref (ad 0), .int z1].toArray below meth c H locs 0 0 (MQ below (va_Qi (po_X10_isAsked g ad th L f z1) (PstB g A) A) [.ref (ad 0), .int z1].toArray s rm_X10_isAsked.cells rm_X10_isAsked.slots A) (F0 m 21 ls []) := by
    intro H locs ls hP hD hS hl
    refine lv_iconst (v := 0) hx hb dX10_isAsked_21 (by decide) ?_
    exact ret_i (ty := .boolean) hx hb hr hlocks (rfl) hP hD hS (Nat.le_of_ble_eq_true rfl) (Nat.le_of_ble_eq_true rfl) (⟨rfl, rfl, (⟨by decide, by decide⟩ : In 0 0 1)⟩) dX10_isAsked_22
  refine lv_if_eq (tgt := 21) hx hb dX10_isAsked_4 (by decide) (fun c3 => ?_) (fun c3 => ?_)
  ·
    have cc4 : v15_1.toInt = (0 : Int32).toInt := congrArg Int32.toInt c3
    have hb5 : In v15_1 0 0 := In.eq1 hv15_1 (⟨by decide, by decide⟩ : In 0 0 0) cc4 (by omega) (by omega)
    exact hJ21 _ _ _ hP hD hS (lv_sub hl [0, 1] rfl)
  ·
    have cc6 : v15_1.toInt ≠ (0 : Int32).toInt := i32_ne c3
    have hb7 : In v15_1 1 1 := In.ne1 hv15_1 (⟨by decide, by decide⟩ : In 0 0 0) cc6 (by omega) (by omega)
    refine lv_aload_n hx hb dX10_isAsked_7 rfl (lv_at hl 0 rfl) ?_
    refine lv_iload_n hx hb dX10_isAsked_8 rfl (lv_at hl 1 rfl) ?_
    refine call_i (run_V (rm := rm_X10_freeWith) hx hb hml hown hts (s_X10_freeWith l g ad th _ _ _ z1 hst hT ) cV_X10_freeWith wg_1018 ⟨Nat.le_of_ble_eq_true rfl, Nat.le_of_ble_eq_true rfl⟩ hG hE hA hP hD hS (hst.1 0 (by decide)) hf2 rfl rfl hl.1 (As := [.int z1]) (rest := []) rfl (Nat.le_of_ble_eq_true rfl) dX10_isAsked_9 ⟨Nat.le_of_ble_eq_true rfl, Nat.le_of_ble_eq_true rfl⟩) hA hD hS (fun r8 L9 f10 H locs hp11 hP hD hS => ?_)
    obtain ⟨eL12L, eL12T⟩ := hp11
    have eL12L : L9 = L := eL12L
    have eL12T : f10 = f := eL12T
    rw [eL12L, eL12T] at hP hD
    refine lv_bipush (v := 12) hx hb dX10_isAsked_12 (by decide) ?_
    refine lv_icmp_gt (tgt := 21) hx hb dX10_isAsked_14 (by decide) (fun c13 => ?_) (fun c13 => ?_)
    ·
      have cc14 : (12 : Int32).toInt < r8.toInt := i32_lt.mp c13
      have hb15 : In r8 13 2147483647 := In.gt1 (In.full r8) (⟨by decide, by decide⟩ : In 12 12 12) cc14 (by omega) (by omega)
      exact hJ21 _ _ _ hP hD hS (lv_sub hl [0, 1] rfl)
    ·
      have cc16 : r8.toInt ≤ (12 : Int32).toInt := i32_nlt c13
      have hb17 : In r8 (-2147483648) 12 := In.le1 (In.full r8) (⟨by decide, by decide⟩ : In 12 12 12) cc16 (by omega) (by omega)
      refine lv_iconst (v := 1) hx hb dX10_isAsked_17 (by decide) ?_
      refine lv_goto (tgt := 22) hx hb dX10_isAsked_18 (by decide) ?_
      exact ret_i (ty := .boolean) hx hb hr hlocks (rfl) hP hD hS (Nat.le_of_ble_eq_true rfl) (Nat.le_of_ble_eq_true rfl) (⟨rfl, rfl, (⟨by decide, by decide⟩ : In 1 0 1)⟩) dX10_isAsked_22

abbrev rm_X10_isSomeStart : Room := { frames := 2, cells := 0, slots := 0, locals := 41 }
abbrev po_X10_isSomeStart (g : GG) (ad : Nat → Nat) (th : Nat → Int) (L : List Nat) (f : HP) (z1 : Int32) : Int32 → (List Nat × HP) → Prop := fun r u => u.1 = L ∧ u.2 = f ∧ In r 0 1
set_option maxHeartbeats 4000000 in
set_option maxRecDepth 100000 in
theorem s_X10_isSomeStart (l : Launch) (g : GG) (ad : Nat → Nat) (th : Nat → Int) (L : List Nat) (f : HP) (sz : Nat) (z1 : Int32) (hst : ST ad L) (hT : TI g ad th f)  : MtI l g yX10_isSomeStart cX10_isSomeStart 3 (some .boolean) rm_X10_isSomeStart [.ref (ad 0), .int z1] L f sz (po_X10_isSomeStart g ad th L f z1) := by
  refine MtI.of (by decide +kernel) (Nat.le_of_ble_eq_true rfl) ?_
  intro p e s m below meth c A hEn hP hD hS ls hl
  obtain ⟨hx, hb, hr, hml, hown, hlocks, hts, hG, hA, hE, hnm⟩ := hEn
  have hown : s.vm.findClass "RulerWord" = some m.cls := hown
  have hl : lv_has ls 3 [(0, .ref (ad 0)), (1, .int z1)] := hl
  refine lv_aload_n hx hb dX10_isSomeStart_0 rfl (lv_at hl 0 rfl) ?_
  obtain ⟨v15_1, v16_1, v17_1, hf2, hv15_1, hv16_1, hg16_1⟩ := hT.1 0 (by decide)
  refine pl_get (v := .ref (cr ad 0 0)) hx hb hts (fun w h => mT (inX10 w h)) hown hG.1 hP (hst.1 0 (by decide)) hf2 rfl 8 (by decide) (hts _ (mT wg_483)) (fun _ h => h) rfl dX10_isSomeStart_1 ?_
  refine lv_aload_n hx hb dX10_isSomeStart_4 rfl (lv_at hl 0 rfl) ?_
  refine pl_get (v := .ref (ad 6)) hx hb hts (fun w h => mT (inX10 w h)) hown hG.1 hP (hst.1 0 (by decide)) hf2 rfl 2 (by decide) (hts _ (mT wg_477)) (fun _ h => h) rfl dX10_isSomeStart_5 ?_
  obtain ⟨v0_3, v1_3, v2_3, v3_3, v4_3, v5_3, v6_3, v7_3, v8_3, hf4, hv1_3, hg1_3, hv2_3, hg2_3, hv6_3⟩ := hT.2.1 0 (by decide) 0 (by decide)
  refine call_i (run_VN (rm := rm_X3_trues_co) hx hb hml hown hts (s_X3_trues_co l g ad th _ _ _ 0 hst hT (by decide)) cV_X3_trues wn_986 ⟨Nat.le_of_ble_eq_true rfl, Nat.le_of_ble_eq_true rfl⟩ hG hE hA hP hD hS (hst.c (by decide) (by decide)) hf4 rfl rfl hl.1 (As := [.ref (ad 6)]) (rest := []) rfl (Nat.le_of_ble_eq_true rfl) dX10_isSomeStart_8 ⟨Nat.le_of_ble_eq_true rfl, Nat.le_of_ble_eq_true rfl⟩) hA hD hS (fun r5 L6 f7 H locs hp8 hP hD hS => ?_)
  obtain ⟨eL9L, eL9T, eL9R⟩ := hp8
  have eL9L : L6 = L := eL9L
  have eL9T : f7 = f := eL9T
  rw [eL9L, eL9T] at hP hD
  have eL9R : In r5 0 511 := eL9R
  refine lv_istore_n (lv' := [(2, .int r5), (0, .ref (ad 0)), (1, .int z1)]) hx hb dX10_isSomeStart_11 rfl hl (by decide) rfl (fun ls hl => ?_)
  refine lv_iload_n hx hb dX10_isSomeStart_12 rfl (lv_at hl 2 rfl) ?_
  refine lv_iload_n hx hb dX10_isSomeStart_13 rfl (lv_at hl 0 rfl) ?_
  refine lv_iand hx hb dX10_isSomeStart_14 ?_
  refine lv_topi (fun x10 ex10 => ?_)
  have hb11 : In x10 0 511 := ex10 ▸ In.andr eL9R (by decide)
  refine lv_if_eq (tgt := 38) hx hb dX10_isSomeStart_15 (by decide) (fun c12 => ?_) (fun c12 => ?_)
  ·
    have cc13 : x10.toInt = (0 : Int32).toInt := congrArg Int32.toInt c12
    have hb14 : In x10 0 0 := In.eq1 hb11 (⟨by decide, by decide⟩ : In 0 0 0) cc13 (by omega) (by omega)
    refine lv_aload_n hx hb dX10_isSomeStart_38 rfl (lv_at hl 1 rfl) ?_
    refine pl_get (v := .ref (cr ad 0 0)) hx hb hts (fun w h => mT (inX10 w h)) hown hG.1 hP (hst.1 0 (by decide)) hf2 rfl 8 (by decide) (hts _ (mT wg_483)) (fun _ h => h) rfl dX10_isSomeStart_39 ?_
    refine pl_getN (v := .int v0_3) hx hb hts (fun w h => mT (inX3 w h)) hown hG.1 hP (hst.c (by decide) (by decide)) hf4 rfl 0 (by decide) (hG.2.1 _ wn_336) (fun _ h => h) rfl dX10_isSomeStart_42 ?_
    refine lv_iload_n hx hb dX10_isSomeStart_45 rfl (lv_at hl 0 rfl) ?_
    refine lv_iand hx hb dX10_isSomeStart_46 ?_
    refine lv_topi (fun x15 ex15 => ?_)
    have hb16 : In x15 0 511 := ex15 ▸ In.andr eL9R (by decide)
    refine lv_iload_n hx hb dX10_isSomeStart_47 rfl (lv_at hl 0 rfl) ?_
    refine lv_icmp_eq (tgt := 55) hx hb dX10_isSomeStart_48 (by decide) (fun c17 => ?_) (fun c17 => ?_)
    ·
      refine lv_iconst (v := 0) hx hb dX10_isSomeStart_55 (by decide) ?_
      exact ret_i (ty := .boolean) hx hb hr hlocks (rfl) hP hD hS (Nat.le_of_ble_eq_true rfl) (Nat.le_of_ble_eq_true rfl) (⟨rfl, rfl, (⟨by decide, by decide⟩ : In 0 0 1)⟩) dX10_isSomeStart_56
    ·
      refine lv_iconst (v := 1) hx hb dX10_isSomeStart_51 (by decide) ?_
      refine lv_goto (tgt := 56) hx hb dX10_isSomeStart_52 (by decide) ?_
      exact ret_i (ty := .boolean) hx hb hr hlocks (rfl) hP hD hS (Nat.le_of_ble_eq_true rfl) (Nat.le_of_ble_eq_true rfl) (⟨rfl, rfl, (⟨by decide, by decide⟩ : In 1 0 1)⟩) dX10_isSomeStart_56
  ·
    have cc18 : x10.toInt ≠ (0 : Int32).toInt := i32_ne c12
    have hb19 : In x10 1 511 := In.ne1 hb11 (⟨by decide, by decide⟩ : In 0 0 0) cc18 (by omega) (by omega)
    refine lv_aload_n hx hb dX10_isSomeStart_18 rfl (lv_at hl 1 rfl) ?_
    refine pl_get (v := .ref (cr ad 0 0)) hx hb hts (fun w h => mT (inX10 w h)) hown hG.1 hP (hst.1 0 (by decide)) hf2 rfl 8 (by decide) (hts _ (mT wg_483)) (fun _ h => h) rfl dX10_isSomeStart_19 ?_
    refine pl_getN (v := .int v0_3) hx hb hts (fun w h => mT (inX3 w h)) hown hG.1 hP (hst.c (by decide) (by decide)) hf4 rfl 0 (by decide) (hG.2.1 _ wn_336) (fun _ h => h) rfl dX10_isSomeStart_22 ?_
    refine lv_iload_n hx hb dX10_isSomeStart_25 rfl (lv_at hl 0 rfl) ?_
    refine lv_iand hx hb dX10_isSomeStart_26 ?_
    refine lv_topi (fun x20 ex20 => ?_)
    have hb21 : In x20 0 511 := ex20 ▸ In.andr eL9R (by decide)
    refine lv_if_eq (tgt := 34) hx hb dX10_isSomeStart_27 (by decide) (fun c22 => ?_) (fun c22 => ?_)
    ·
      have cc23 : x20.toInt = (0 : Int32).toInt := congrArg Int32.toInt c22
      have hb24 : In x20 0 0 := In.eq1 hb21 (⟨by decide, by decide⟩ : In 0 0 0) cc23 (by omega) (by omega)
      refine lv_iconst (v := 0) hx hb dX10_isSomeStart_34 (by decide) ?_
      refine lv_goto (tgt := 56) hx hb dX10_isSomeStart_35 (by decide) ?_
      exact ret_i (ty := .boolean) hx hb hr hlocks (rfl) hP hD hS (Nat.le_of_ble_eq_true rfl) (Nat.le_of_ble_eq_true rfl) (⟨rfl, rfl, (⟨by decide, by decide⟩ : In 0 0 1)⟩) dX10_isSomeStart_56
    ·
      have cc25 : x20.toInt ≠ (0 : Int32).toInt := i32_ne c22
      have hb26 : In x20 1 511 := In.ne1 hb21 (⟨by decide, by decide⟩ : In 0 0 0) cc25 (by omega) (by omega)
      refine lv_iconst (v := 1) hx hb dX10_isSomeStart_30 (by decide) ?_
      refine lv_goto (tgt := 56) hx hb dX10_isSomeStart_31 (by decide) ?_
      exact ret_i (ty := .boolean) hx hb hr hlocks (rfl) hP hD hS (Nat.le_of_ble_eq_true rfl) (Nat.le_of_ble_eq_true rfl) (⟨rfl, rfl, (⟨by decide, by decide⟩ : In 1 0 1)⟩) dX10_isSomeStart_56

abbrev rm_X10_heard : Room := { frames := 2, cells := 0, slots := 0, locals := 46 }
abbrev po_X10_heard (g : GG) (ad : Nat → Nat) (th : Nat → Int) (L : List Nat) (f : HP) (z1 : Int32) (z2 : Int32) (z3 : Int32) (z4 : Int32) : Int32 → (List Nat × HP) → Prop := fun _ u => u.1 = L ∧ u.2 = f
set_option maxHeartbeats 4000000 in
set_option maxRecDepth 100000 in
theorem s_X10_heard (l : Launch) (g : GG) (ad : Nat → Nat) (th : Nat → Int) (L : List Nat) (f : HP) (sz : Nat) (z1 : Int32) (z2 : Int32) (z3 : Int32) (z4 : Int32) (hst : ST ad L) (hT : TI g ad th f)  : MtI l g yX10_heard cX10_heard 6 (some .int) rm_X10_heard [.ref (ad 0), .int z1, .int z2, .int z3, .int z4] L f sz (po_X10_heard g ad th L f z1 z2 z3 z4) := by
  refine MtI.of (by decide +kernel) (Nat.le_of_ble_eq_true rfl) ?_
  intro p e s m below meth c A hEn hP hD hS ls hl
  obtain ⟨hx, hb, hr, hml, hown, hlocks, hts, hG, hA, hE, hnm⟩ := hEn
  have hown : s.vm.findClass "RulerWord" = some m.cls := hown
  have hl : lv_has ls 6 [(0, .ref (ad 0)), (1, .int z1), (2, .int z2), (3, .int z3), (4, .int z4)] := hl
  refine lv_aload_n hx hb dX10_heard_0 rfl (lv_at hl 0 rfl) ?_
  refine lv_iload_n hx hb dX10_heard_1 rfl (lv_at hl 3 rfl) ?_
  obtain ⟨v15_1, v16_1, v17_1, hf2, hv15_1, hv16_1, hg16_1⟩ := hT.1 0 (by decide)
  refine call_i (run_V (rm := rm_X10_isPeer) hx hb hml hown hts (s_X10_isPeer l g ad th _ _ _ z3 hst hT ) cV_X10_isPeer wg_897 ⟨Nat.le_of_ble_eq_true rfl, Nat.le_of_ble_eq_true rfl⟩ hG hE hA hP hD hS (hst.1 0 (by decide)) hf2 rfl rfl hl.1 (As := [.int z3]) (rest := []) rfl (Nat.le_of_ble_eq_true rfl) dX10_heard_2 ⟨Nat.le_of_ble_eq_true rfl, Nat.le_of_ble_eq_true rfl⟩) hA hD hS (fun r3 L4 f5 H locs hp6 hP hD hS => ?_)
  obtain ⟨eL7L, eL7T, eL7R, eL7W0⟩ := hp6
  have eL7L : L4 = L := eL7L
  have eL7T : f5 = f := eL7T
  rw [eL7L, eL7T] at hP hD
  have eL7R : In r3 0 1 := eL7R
  refine lv_if_eq (tgt := 26) hx hb dX10_heard_5 (by decide) (fun c8 => ?_) (fun c8 => ?_)
  ·
    have cc9 : r3.toInt = (0 : Int32).toInt := congrArg Int32.toInt c8
    have hb10 : In r3 0 0 := In.eq1 eL7R (⟨by decide, by decide⟩ : In 0 0 0) cc9 (by omega) (by omega)
    refine lv_iconst (v := (-1)) hx hb dX10_heard_26 (by decide) ?_
    exact ret_i (ty := .int) hx hb hr hlocks (rfl) hP hD hS (Nat.le_of_ble_eq_true rfl) (Nat.le_of_ble_eq_true rfl) (⟨rfl, rfl⟩) dX10_heard_27
  ·
    have cc11 : r3.toInt ≠ (0 : Int32).toInt := i32_ne c8
    have hb12 : In r3 1 1 := In.ne1 eL7R (⟨by decide, by decide⟩ : In 0 0 0) cc11 (by omega) (by omega)
    have hb13 : In z3 0 8 := In.both (eL7W0 c8) (In.full z3) (by decide) (by decide)
    refine lv_aload_n hx hb dX10_heard_8 rfl (lv_at hl 0 rfl) ?_
    refine lv_iload hx hb dX10_heard_9 (lv_at hl 4 rfl) ?_
    refine call_i (run_V (rm := rm_X10_isPeer) hx hb hml hown hts (s_X10_isPeer l g ad th _ _ _ z4 hst hT ) cV_X10_isPeer wg_897 ⟨Nat.le_of_ble_eq_true rfl, Nat.le_of_ble_eq_true rfl⟩ hG hE hA hP hD hS (hst.1 0 (by decide)) hf2 rfl rfl hl.1 (As := [.int z4]) (rest := []) rfl (Nat.le_of_ble_eq_true rfl) dX10_heard_11 ⟨Nat.le_of_ble_eq_true rfl, Nat.le_of_ble_eq_true rfl⟩) hA hD hS (fun r14 L15 f16 H locs hp17 hP hD hS => ?_)
    obtain ⟨eL18L, eL18T, eL18R, eL18W0⟩ := hp17
    have eL18L : L15 = L := eL18L
    have eL18T : f16 = f := eL18T
    rw [eL18L, eL18T] at hP hD
    have eL18R : In r14 0 1 := eL18R
    refine lv_if_eq (tgt := 26) hx hb dX10_heard_14 (by decide) (fun c19 => ?_) (fun c19 => ?_)
    ·
      have cc20 : r14.toInt = (0 : Int32).toInt := congrArg Int32.toInt c19
      have hb21 : In r14 0 0 := In.eq1 eL18R (⟨by decide, by decide⟩ : In 0 0 0) cc20 (by omega) (by omega)
      refine lv_iconst (v := (-1)) hx hb dX10_heard_26 (by decide) ?_
      exact ret_i (ty := .int) hx hb hr hlocks (rfl) hP hD hS (Nat.le_of_ble_eq_true rfl) (Nat.le_of_ble_eq_true rfl) (⟨rfl, rfl⟩) dX10_heard_27
    ·
      have cc22 : r14.toInt ≠ (0 : Int32).toInt := i32_ne c19
      have hb23 : In r14 1 1 := In.ne1 eL18R (⟨by decide, by decide⟩ : In 0 0 0) cc22 (by omega) (by omega)
      have hb24 : In z4 0 8 := In.both (eL18W0 c19) (In.full z4) (by decide) (by decide)
      refine lv_aload_n hx hb dX10_heard_17 rfl (lv_at hl 0 rfl) ?_
      refine lv_iload_n hx hb dX10_heard_18 rfl (lv_at hl 1 rfl) ?_
      refine lv_iload_n hx hb dX10_heard_19 rfl (lv_at hl 2 rfl) ?_
      refine call_i (run_V (rm := rm_X10_isRound) hx hb hml hown hts (s_X10_isRound l g ad th _ _ _ z1 z2 hst hT ) cV_X10_isRound wg_893 ⟨Nat.le_of_ble_eq_true rfl, Nat.le_of_ble_eq_true rfl⟩ hG hE hA hP hD hS (hst.1 0 (by decide)) hf2 rfl rfl hl.1 (As := [.int z1, .int z2]) (rest := []) rfl (Nat.le_of_ble_eq_true rfl) dX10_heard_20 ⟨Nat.le_of_ble_eq_true rfl, Nat.le_of_ble_eq_true rfl⟩) hA hD hS (fun r25 L26 f27 H locs hp28 hP hD hS => ?_)
      obtain ⟨eL29L, eL29T, eL29R, eL29W0, eL29W1⟩ := hp28
      have eL29L : L26 = L := eL29L
      have eL29T : f27 = f := eL29T
      rw [eL29L, eL29T] at hP hD
      have eL29R : In r25 0 1 := eL29R
      refine lv_if_ne (tgt := 28) hx hb dX10_heard_23 (by decide) (fun c30 => ?_) (fun c30 => ?_)
      ·
        have cc31 : r25.toInt ≠ (0 : Int32).toInt := i32_ne c30
        have hb32 : In r25 1 1 := In.ne1 eL29R (⟨by decide, by decide⟩ : In 0 0 0) cc31 (by omega) (by omega)
        have hb33 : In z1 0 5 := In.both (eL29W0 c30) (In.full z1) (by decide) (by decide)
        have hb34 : In z2 0 2 := In.both (eL29W1 c30) (In.full z2) (by decide) (by decide)
        refine lv_iload_n hx hb dX10_heard_28 rfl (lv_at hl 2 rfl) ?_
        refine lv_aload_n hx hb dX10_heard_29 rfl (lv_at hl 0 rfl) ?_
        refine pl_get (v := .ref (ad 6)) hx hb hts (fun w h => mT (inX10 w h)) hown hG.1 hP (hst.1 0 (by decide)) hf2 rfl 2 (by decide) (hts _ (mT wg_477)) (fun _ h => h) rfl dX10_heard_30 ?_
        obtain ⟨v0_35, v1_35, v2_35, v3_35, v4_35, v5_35, v6_35, v7_35, hf36, hv0_35, hg0_35, hv1_35, hg1_35, hv2_35, hv3_35, hv5_35, hv6_35, hrel0_35⟩ := hT.1 6 (by decide)
        refine call_i (run_VN (rm := rm_X2_rounds_co) hx hb hml hown hts (s_X2_rounds_co l g ad th _ _ _  hst hT ) cV_X2_rounds wn_746 ⟨Nat.le_of_ble_eq_true rfl, Nat.le_of_ble_eq_true rfl⟩ hG hE hA hP hD hS (hst.1 6 (by decide)) hf36 rfl rfl hl.1 (As := []) (rest := [.int z2]) rfl (Nat.le_of_ble_eq_true rfl) dX10_heard_33 ⟨Nat.le_of_ble_eq_true rfl, Nat.le_of_ble_eq_true rfl⟩) hA hD hS (fun r37 L38 f39 H locs hp40 hP hD hS => ?_)
        obtain ⟨eL41L, eL41T, eL41R, eL41X0⟩ := hp40
        have eL41L : L38 = L := eL41L
        have eL41T : f39 = f := eL41T
        rw [eL41L, eL41T] at hP hD
        have eL41R : In r37 2 3 := eL41R
        have hrn42 : r37.toInt = rnd (th 2) := eL41X0
        refine lv_iconst (v := 1) hx hb dX10_heard_36 (by decide) ?_
        refine lv_isub hx hb dX10_heard_37 ?_
        refine lv_topi (fun x43 ex43 => ?_)
        have hb44 : In x43 1 2 := ex43 ▸ In.sub eL41R (⟨by decide, by decide⟩ : In 1 1 1) (by decide) (by decide) (by decide) (by decide)
        have et45 : x43.toInt = r37.toInt + (-1) := In.sube ex43 eL41R (k := 1) (by decide) (by decide) (by decide)
        have hJ58 : ∀ (y58_s0 : Int32) (H : Heap) (locs : List Loc) (ls : Array Slot), In y58_s0 0 1 → va_P g.1 vwCl (va_pl L f) H → va_D A (va_pl L f) → va_S A s.heap H locs → lv_has ls 6 [(0, .ref (ad 0)), (1, .int z1), (2, .int z2), (3, .int z3), (4, .int z4)] → W p l e rm_X10_heard s m [.ref (ad 0), .int z1, .int z2, .int z3, .int z4].toArray below meth c H locs 0 0 (MQ below (va_Qi (po_X10_heard g ad th L f z1 z2 z3 z4) (PstB g A) A) [.ref (ad 0), .int z1, .int z2, .int z3, .int z4].toArray s rm_X10_heard.cells rm_X10_heard.slots A) (F0 m 58 ls [.int y58_s0]) := by
          intro y58_s0 H locs ls hy58_s0 hP hD hS hl
          refine lv_istore (lv' := [(5, .int y58_s0), (0, .ref (ad 0)), (1, .int z1), (2, .int z2), (3, .int z3), (4, .int z4)]) hx hb dX10_heard_58 hl (by decide) rfl (fun ls hl => ?_)
          refine lv_iload hx hb dX10_heard_60 (lv_at hl 0 rfl) ?_
          have hJ74 : ∀ (H : Heap) (locs : List Loc) (ls : Array Slot), va_P g.1 vwCl (va_pl L f) H → va_D A (va_pl L f) → va_S A s.heap H locs → lv_has ls 6 [(0, .ref (ad 0)), (1, .int z1), (2, .int z2), (3, .int z3), (4, .int z4), (5, .int y58_s0)] → W p l e rm_X10_heard s m [.ref (ad 0), .int z1, .int z2, .int z3, .int z4].toArray below meth c H locs 0 0 (MQ below (va_Qi (po_X10_heard g ad th L f z1 z2 z3 z4) (PstB g A) A) [.ref (ad 0), .int z1, .int z2, .int z3, .int z4].toArray s rm_X10_heard.cells rm_X10_heard.slots A) (F0 m 74 ls []) := by
            intro H locs ls hP hD hS hl
            refine lv_iconst (v := (-1)) hx hb dX10_heard_74 (by decide) ?_
            refine lv_goto (tgt := 90) hx hb dX10_heard_75 (by decide) ?_
            exact ret_i (ty := .int) hx hb hr hlocks (rfl) hP hD hS (Nat.le_of_ble_eq_true rfl) (Nat.le_of_ble_eq_true rfl) (⟨rfl, rfl⟩) dX10_heard_90
          refine lv_if_ne (tgt := 74) hx hb dX10_heard_62 (by decide) (fun c46 => ?_) (fun c46 => ?_)
          ·
            have cc47 : y58_s0.toInt ≠ (0 : Int32).toInt := i32_ne c46
            have hb48 : In y58_s0 1 1 := In.ne1 hy58_s0 (⟨by decide, by decide⟩ : In 0 0 0) cc47 (by omega) (by omega)
            exact hJ74 _ _ _ hP hD hS (lv_sub hl [1, 2, 3, 4, 5, 0] rfl)
          ·
            have cc49 : y58_s0.toInt = (0 : Int32).toInt := congrArg Int32.toInt c46
            have hb50 : In y58_s0 0 0 := In.eq1 hy58_s0 (⟨by decide, by decide⟩ : In 0 0 0) cc49 (by omega) (by omega)
            refine lv_aload_n hx hb dX10_heard_65 rfl (lv_at hl 1 rfl) ?_
            refine lv_iload_n hx hb dX10_heard_66 rfl (lv_at hl 2 rfl) ?_
            refine lv_iload_n hx hb dX10_heard_67 rfl (lv_at hl 3 rfl) ?_
            refine call_i (run_V (rm := rm_X10_isGone) hx hb hml hown hts (s_X10_isGone l g ad th _ _ _ z1 z2 hst hT ) cV_X10_isGone wg_902 ⟨Nat.le_of_ble_eq_true rfl, Nat.le_of_ble_eq_true rfl⟩ hG hE hA hP hD hS (hst.1 0 (by decide)) hf2 rfl rfl hl.1 (As := [.int z1, .int z2]) (rest := []) rfl (Nat.le_of_ble_eq_true rfl) dX10_heard_68 ⟨Nat.le_of_ble_eq_true rfl, Nat.le_of_ble_eq_true rfl⟩) hA hD hS (fun r51 L52 f53 H locs hp54 hP hD hS => ?_)
            obtain ⟨eL55L, eL55T, eL55R⟩ := hp54
            have eL55L : L52 = L := eL55L
            have eL55T : f53 = f := eL55T
            rw [eL55L, eL55T] at hP hD
            have eL55R : In r51 0 1 := eL55R
            refine lv_if_ne (tgt := 78) hx hb dX10_heard_71 (by decide) (fun c56 => ?_) (fun c56 => ?_)
            ·
              have cc57 : r51.toInt ≠ (0 : Int32).toInt := i32_ne c56
              have hb58 : In r51 1 1 := In.ne1 eL55R (⟨by decide, by decide⟩ : In 0 0 0) cc57 (by omega) (by omega)
              refine lv_aload_n hx hb dX10_heard_78 rfl (lv_at hl 1 rfl) ?_
              refine pl_get (v := .ref (cr ad 0 0)) hx hb hts (fun w h => mT (inX10 w h)) hown hG.1 hP (hst.1 0 (by decide)) hf2 rfl 8 (by decide) (hts _ (mT wg_483)) (fun _ h => h) rfl dX10_heard_79 ?_
              refine lv_iload_n hx hb dX10_heard_82 rfl (lv_at hl 2 rfl) ?_
              refine lv_iload_n hx hb dX10_heard_83 rfl (lv_at hl 3 rfl) ?_
              refine lv_iload_n hx hb dX10_heard_84 rfl (lv_at hl 4 rfl) ?_
              refine lv_iload hx hb dX10_heard_85 (lv_at hl 5 rfl) ?_
              obtain ⟨v0_59, v1_59, v2_59, v3_59, v4_59, v5_59, v6_59, v7_59, v8_59, hf60, hv1_59, hg1_59, hv2_59, hg2_59, hv6_59⟩ := hT.2.1 0 (by decide) 0 (by decide)
              refine call_i (run_VN (rm := rm_X3_letter) hx hb hml hown hts (s_X3_letter l g ad th _ _ _ 0 z1 z2 z3 z4 hst hT (by decide) hb33 hb34 hb13) cV_X3_letter wn_939 ⟨Nat.le_of_ble_eq_true rfl, Nat.le_of_ble_eq_true rfl⟩ hG hE hA hP hD hS (hst.c (by decide) (by decide)) hf60 rfl rfl hl.1 (As := [.int z1, .int z2, .int z3, .int z4]) (rest := []) rfl (Nat.le_of_ble_eq_true rfl) dX10_heard_87 ⟨Nat.le_of_ble_eq_true rfl, Nat.le_of_ble_eq_true rfl⟩) hA hD hS (fun r61 L62 f63 H locs hp64 hP hD hS => ?_)
              obtain ⟨eL65L, eL65T, eL65R⟩ := hp64
              have eL65L : L62 = L := eL65L
              have eL65T : f63 = f := eL65T
              rw [eL65L, eL65T] at hP hD
              have eL65R : In r61 0 15 := eL65R
              exact ret_i (ty := .int) hx hb hr hlocks (rfl) hP hD hS (Nat.le_of_ble_eq_true rfl) (Nat.le_of_ble_eq_true rfl) (⟨rfl, rfl⟩) dX10_heard_90
            ·
              have cc66 : r51.toInt = (0 : Int32).toInt := congrArg Int32.toInt c56
              have hb67 : In r51 0 0 := In.eq1 eL55R (⟨by decide, by decide⟩ : In 0 0 0) cc66 (by omega) (by omega)
              exact hJ74 _ _ _ hP hD hS (lv_sub hl [1, 2, 3, 4, 5, 0] rfl)
        have hJ57 : ∀ (H : Heap) (locs : List Loc) (ls : Array Slot), va_P g.1 vwCl (va_pl L f) H → va_D A (va_pl L f) → va_S A s.heap H locs → lv_has ls 6 [(0, .ref (ad 0)), (1, .int z1), (2, .int z2), (3, .int z3), (4, .int z4)] → W p l e rm_X10_heard s m [.ref (ad 0), .int z1, .int z2, .int z3, .int z4].toArray below meth c H locs 0 0 (MQ below (va_Qi (po_X10_heard g ad th L f z1 z2 z3 z4) (PstB g A) A) [.ref (ad 0), .int z1, .int z2, .int z3, .int z4].toArray s rm_X10_heard.cells rm_X10_heard.slots A) (F0 m 57 ls []) := by
          intro H locs ls hP hD hS hl
          refine lv_iconst (v := 0) hx hb dX10_heard_57 (by decide) ?_
          exact hJ58 0 _ _ _ (⟨by decide, by decide⟩ : In 0 0 1) hP hD hS (lv_sub hl [0, 1, 2, 3, 4] rfl)
        refine lv_icmp_ne (tgt := 57) hx hb dX10_heard_38 (by decide) (fun c68 => ?_) (fun c68 => ?_)
        ·
          exact hJ57 _ _ _ hP hD hS (lv_sub hl [0, 1, 2, 3, 4] rfl)
        ·
          have cc69 : z2.toInt = x43.toInt := congrArg Int32.toInt c68
          have hb70 : In z2 1 2 := In.eq1 hb34 hb44 cc69 (by omega) (by omega)
          refine lv_iload_n hx hb dX10_heard_41 rfl (lv_at hl 3 rfl) ?_
          refine lv_aload_n hx hb dX10_heard_42 rfl (lv_at hl 0 rfl) ?_
          refine pl_get (v := .ref (ad 6)) hx hb hts (fun w h => mT (inX10 w h)) hown hG.1 hP (hst.1 0 (by decide)) hf2 rfl 2 (by decide) (hts _ (mT wg_477)) (fun _ h => h) rfl dX10_heard_43 ?_
          refine lv_iload_n hx hb dX10_heard_46 rfl (lv_at hl 1 rfl) ?_
          refine call_i (run_VN (rm := rm_X2_ruler_co) hx hb hml hown hts (s_X2_ruler_co l g ad th _ _ _ z1 hst hT (In.mono hb33 (by decide) (by decide))) cV_X2_ruler wn_938 ⟨Nat.le_of_ble_eq_true rfl, Nat.le_of_ble_eq_true rfl⟩ hG hE hA hP hD hS (hst.1 6 (by decide)) hf36 rfl rfl hl.1 (As := [.int z1]) (rest := [.int z3]) rfl (Nat.le_of_ble_eq_true rfl) dX10_heard_47 ⟨Nat.le_of_ble_eq_true rfl, Nat.le_of_ble_eq_true rfl⟩) hA hD hS (fun r71 L72 f73 H locs hp74 hP hD hS => ?_)
          obtain ⟨eL75L, eL75T, eL75R⟩ := hp74
          have eL75L : L72 = L := eL75L
          have eL75T : f73 = f := eL75T
          rw [eL75L, eL75T] at hP hD
          have eL75R : In r71 0 8 := eL75R
          refine lv_icmp_eq (tgt := 57) hx hb dX10_heard_50 (by decide) (fun c76 => ?_) (fun c76 => ?_)
          ·
            exact hJ57 _ _ _ hP hD hS (lv_sub hl [0, 1, 2, 3, 4] rfl)
          ·
            refine lv_iconst (v := 1) hx hb dX10_heard_53 (by decide) ?_
            refine lv_goto (tgt := 58) hx hb dX10_heard_54 (by decide) ?_
            exact hJ58 1 _ _ _ (⟨by decide, by decide⟩ : In 1 0 1) hP hD hS (lv_sub hl [0, 1, 2, 3, 4] rfl)
      ·
        have cc77 : r25.toInt = (0 : Int32).toInt := congrArg Int32.toInt c30
        have hb78 : In r25 0 0 := In.eq1 eL29R (⟨by decide, by decide⟩ : In 0 0 0) cc77 (by omega) (by omega)
        refine lv_iconst (v := (-1)) hx hb dX10_heard_26 (by decide) ?_
        exact ret_i (ty := .int) hx hb hr hlocks (rfl) hP hD hS (Nat.le_of_ble_eq_true rfl) (Nat.le_of_ble_eq_true rfl) (⟨rfl, rfl⟩) dX10_heard_27

abbrev rm_X10_peer : Room := { frames := 2, cells := 0, slots := 0, locals := 44 }
abbrev po_X10_peer (g : GG) (ad : Nat → Nat) (th : Nat → Int) (L : List Nat) (f : HP) (z1 : Int32) (z2 : Int32) : Int32 → (List Nat × HP) → Prop := fun _ u => u.1 = L ∧ u.2 = f
set_option maxHeartbeats 4000000 in
set_option maxRecDepth 100000 in
theorem s_X10_peer (l : Launch) (g : GG) (ad : Nat → Nat) (th : Nat → Int) (L : List Nat) (f : HP) (sz : Nat) (z1 : Int32) (z2 : Int32) (hst : ST ad L) (hT : TI g ad th f)  : MtI l g yX10_peer cX10_peer 3 (some .int) rm_X10_peer [.ref (ad 0), .int z1, .int z2] L f sz (po_X10_peer g ad th L f z1 z2) := by
  refine MtI.of (by decide +kernel) (Nat.le_of_ble_eq_true rfl) ?_
  intro p e s m below meth c A hEn hP hD hS ls hl
  obtain ⟨hx, hb, hr, hml, hown, hlocks, hts, hG, hA, hE, hnm⟩ := hEn
  have hown : s.vm.findClass "RulerWord" = some m.cls := hown
  have hl : lv_has ls 3 [(0, .ref (ad 0)), (1, .int z1), (2, .int z2)] := hl
  refine lv_aload_n hx hb dX10_peer_0 rfl (lv_at hl 0 rfl) ?_
  refine lv_iload_n hx hb dX10_peer_1 rfl (lv_at hl 1 rfl) ?_
  obtain ⟨v15_1, v16_1, v17_1, hf2, hv15_1, hv16_1, hg16_1⟩ := hT.1 0 (by decide)
  refine call_i (run_V (rm := rm_X10_isPeer) hx hb hml hown hts (s_X10_isPeer l g ad th _ _ _ z1 hst hT ) cV_X10_isPeer wg_897 ⟨Nat.le_of_ble_eq_true rfl, Nat.le_of_ble_eq_true rfl⟩ hG hE hA hP hD hS (hst.1 0 (by decide)) hf2 rfl rfl hl.1 (As := [.int z1]) (rest := []) rfl (Nat.le_of_ble_eq_true rfl) dX10_peer_2 ⟨Nat.le_of_ble_eq_true rfl, Nat.le_of_ble_eq_true rfl⟩) hA hD hS (fun r3 L4 f5 H locs hp6 hP hD hS => ?_)
  obtain ⟨eL7L, eL7T, eL7R, eL7W0⟩ := hp6
  have eL7L : L4 = L := eL7L
  have eL7T : f5 = f := eL7T
  rw [eL7L, eL7T] at hP hD
  have eL7R : In r3 0 1 := eL7R
  refine lv_if_ne (tgt := 10) hx hb dX10_peer_5 (by decide) (fun c8 => ?_) (fun c8 => ?_)
  ·
    have cc9 : r3.toInt ≠ (0 : Int32).toInt := i32_ne c8
    have hb10 : In r3 1 1 := In.ne1 eL7R (⟨by decide, by decide⟩ : In 0 0 0) cc9 (by omega) (by omega)
    have hb11 : In z1 0 8 := In.both (eL7W0 c8) (In.full z1) (by decide) (by decide)
    refine lv_iload_n hx hb dX10_peer_10 rfl (lv_at hl 2 rfl) ?_
    by_cases c12 : z2 = 0
    ·
      refine lv_tableIn (off := 29) (tgt := 40) hx hb dX10_peer_11 (by rw [c12]; decide) (by rw [c12]; decide) (by rw [c12]; decide) (by decide) ?_
      have hb13 : In z2 0 0 := by rw [c12]; exact ⟨by decide, by decide⟩
      refine lv_aload_n hx hb dX10_peer_40 rfl (lv_at hl 0 rfl) ?_
      refine pl_get (v := .ref (cr ad 0 0)) hx hb hts (fun w h => mT (inX10 w h)) hown hG.1 hP (hst.1 0 (by decide)) hf2 rfl 8 (by decide) (hts _ (mT wg_483)) (fun _ h => h) rfl dX10_peer_41 ?_
      obtain ⟨v0_14, v1_14, v2_14, v3_14, v4_14, v5_14, v6_14, v7_14, v8_14, hf15, hv1_14, hg1_14, hv2_14, hg2_14, hv6_14⟩ := hT.2.1 0 (by decide) 0 (by decide)
      refine pl_getN (v := .int v3_14) hx hb hts (fun w h => mT (inX3 w h)) hown hG.1 hP (hst.c (by decide) (by decide)) hf15 rfl 3 (by decide) (hG.2.1 _ wn_343) (fun _ h => h) rfl dX10_peer_44 ?_
      refine lv_iload_n hx hb dX10_peer_47 rfl (lv_at hl 1 rfl) ?_
      refine call_i (run_S (rm := rm_X10_bit) hx hb hml hown hts (s_X10_bit l g ad th _ _ _ v3_14 z1 hst hT ) cS_X10_bit wg_901 ⟨Nat.le_of_ble_eq_true rfl, Nat.le_of_ble_eq_true rfl⟩ hG hE hA hP hD hS rfl hl.1 (As := [.int v3_14, .int z1]) (rest := []) rfl (Nat.le_of_ble_eq_true rfl) dX10_peer_48 ⟨Nat.le_of_ble_eq_true rfl, Nat.le_of_ble_eq_true rfl⟩) hA hD hS (fun r16 L17 f18 H locs hp19 hP hD hS => ?_)
      obtain ⟨eL20L, eL20T, eL20R, eL20X0⟩ := hp19
      have eL20L : L17 = L := eL20L
      have eL20T : f18 = f := eL20T
      rw [eL20L, eL20T] at hP hD
      have eL20R : In r16 0 1 := eL20R
      exact ret_i (ty := .int) hx hb hr hlocks (rfl) hP hD hS (Nat.le_of_ble_eq_true rfl) (Nat.le_of_ble_eq_true rfl) (⟨rfl, rfl⟩) dX10_peer_51
    by_cases c21 : z2 = 1
    ·
      refine lv_tableIn (off := 41) (tgt := 52) hx hb dX10_peer_11 (by rw [c21]; decide) (by rw [c21]; decide) (by rw [c21]; decide) (by decide) ?_
      have hb22 : In z2 1 1 := by rw [c21]; exact ⟨by decide, by decide⟩
      refine lv_aload_n hx hb dX10_peer_52 rfl (lv_at hl 0 rfl) ?_
      refine pl_get (v := .ref (cr ad 0 0)) hx hb hts (fun w h => mT (inX10 w h)) hown hG.1 hP (hst.1 0 (by decide)) hf2 rfl 8 (by decide) (hts _ (mT wg_483)) (fun _ h => h) rfl dX10_peer_53 ?_
      refine lv_iload_n hx hb dX10_peer_56 rfl (lv_at hl 1 rfl) ?_
      obtain ⟨v0_23, v1_23, v2_23, v3_23, v4_23, v5_23, v6_23, v7_23, v8_23, hf24, hv1_23, hg1_23, hv2_23, hg2_23, hv6_23⟩ := hT.2.1 0 (by decide) 0 (by decide)
      refine call_i (run_VN (rm := rm_X3_suspectedBy) hx hb hml hown hts (s_X3_suspectedBy l g ad th _ _ _ 0 z1 hst hT (by decide)) cV_X3_suspectedBy wn_944 ⟨Nat.le_of_ble_eq_true rfl, Nat.le_of_ble_eq_true rfl⟩ hG hE hA hP hD hS (hst.c (by decide) (by decide)) hf24 rfl rfl hl.1 (As := [.int z1]) (rest := []) rfl (Nat.le_of_ble_eq_true rfl) dX10_peer_57 ⟨Nat.le_of_ble_eq_true rfl, Nat.le_of_ble_eq_true rfl⟩) hA hD hS (fun r25 L26 f27 H locs hp28 hP hD hS => ?_)
      obtain ⟨eL29L, eL29T⟩ := hp28
      have eL29L : L26 = L := eL29L
      have eL29T : f27 = f := eL29T
      rw [eL29L, eL29T] at hP hD
      exact ret_i (ty := .int) hx hb hr hlocks (rfl) hP hD hS (Nat.le_of_ble_eq_true rfl) (Nat.le_of_ble_eq_true rfl) (⟨rfl, rfl⟩) dX10_peer_60
    by_cases c30 : z2 = 2
    ·
      refine lv_tableIn (off := 50) (tgt := 61) hx hb dX10_peer_11 (by rw [c30]; decide) (by rw [c30]; decide) (by rw [c30]; decide) (by decide) ?_
      have hb31 : In z2 2 2 := by rw [c30]; exact ⟨by decide, by decide⟩
      refine lv_aload_n hx hb dX10_peer_61 rfl (lv_at hl 0 rfl) ?_
      refine pl_get (v := .ref (cr ad 0 0)) hx hb hts (fun w h => mT (inX10 w h)) hown hG.1 hP (hst.1 0 (by decide)) hf2 rfl 8 (by decide) (hts _ (mT wg_483)) (fun _ h => h) rfl dX10_peer_62 ?_
      obtain ⟨v0_32, v1_32, v2_32, v3_32, v4_32, v5_32, v6_32, v7_32, v8_32, hf33, hv1_32, hg1_32, hv2_32, hg2_32, hv6_32⟩ := hT.2.1 0 (by decide) 0 (by decide)
      refine pl_getN (v := .int v1_32) hx hb hts (fun w h => mT (inX3 w h)) hown hG.1 hP (hst.c (by decide) (by decide)) hf33 rfl 1 (by decide) (hG.2.1 _ wn_339) (fun _ h => h) rfl dX10_peer_65 ?_
      refine lv_iload_n hx hb dX10_peer_68 rfl (lv_at hl 1 rfl) ?_
      refine call_i (run_S (rm := rm_X10_bit) hx hb hml hown hts (s_X10_bit l g ad th _ _ _ v1_32 z1 hst hT ) cS_X10_bit wg_901 ⟨Nat.le_of_ble_eq_true rfl, Nat.le_of_ble_eq_true rfl⟩ hG hE hA hP hD hS rfl hl.1 (As := [.int v1_32, .int z1]) (rest := []) rfl (Nat.le_of_ble_eq_true rfl) dX10_peer_69 ⟨Nat.le_of_ble_eq_true rfl, Nat.le_of_ble_eq_true rfl⟩) hA hD hS (fun r34 L35 f36 H locs hp37 hP hD hS => ?_)
      obtain ⟨eL38L, eL38T, eL38R, eL38X0⟩ := hp37
      have eL38L : L35 = L := eL38L
      have eL38T : f36 = f := eL38T
      rw [eL38L, eL38T] at hP hD
      have eL38R : In r34 0 1 := eL38R
      exact ret_i (ty := .int) hx hb hr hlocks (rfl) hP hD hS (Nat.le_of_ble_eq_true rfl) (Nat.le_of_ble_eq_true rfl) (⟨rfl, rfl⟩) dX10_peer_72
    by_cases c39 : z2 = 3
    ·
      refine lv_tableIn (off := 62) (tgt := 73) hx hb dX10_peer_11 (by rw [c39]; decide) (by rw [c39]; decide) (by rw [c39]; decide) (by decide) ?_
      have hb40 : In z2 3 3 := by rw [c39]; exact ⟨by decide, by decide⟩
      refine lv_aload_n hx hb dX10_peer_73 rfl (lv_at hl 0 rfl) ?_
      refine pl_get (v := .ref (cr ad 0 0)) hx hb hts (fun w h => mT (inX10 w h)) hown hG.1 hP (hst.1 0 (by decide)) hf2 rfl 8 (by decide) (hts _ (mT wg_483)) (fun _ h => h) rfl dX10_peer_74 ?_
      obtain ⟨v0_41, v1_41, v2_41, v3_41, v4_41, v5_41, v6_41, v7_41, v8_41, hf42, hv1_41, hg1_41, hv2_41, hg2_41, hv6_41⟩ := hT.2.1 0 (by decide) 0 (by decide)
      refine pl_getN (v := .int v0_41) hx hb hts (fun w h => mT (inX3 w h)) hown hG.1 hP (hst.c (by decide) (by decide)) hf42 rfl 0 (by decide) (hG.2.1 _ wn_336) (fun _ h => h) rfl dX10_peer_77 ?_
      refine lv_iload_n hx hb dX10_peer_80 rfl (lv_at hl 1 rfl) ?_
      refine call_i (run_S (rm := rm_X10_bit) hx hb hml hown hts (s_X10_bit l g ad th _ _ _ v0_41 z1 hst hT ) cS_X10_bit wg_901 ⟨Nat.le_of_ble_eq_true rfl, Nat.le_of_ble_eq_true rfl⟩ hG hE hA hP hD hS rfl hl.1 (As := [.int v0_41, .int z1]) (rest := []) rfl (Nat.le_of_ble_eq_true rfl) dX10_peer_81 ⟨Nat.le_of_ble_eq_true rfl, Nat.le_of_ble_eq_true rfl⟩) hA hD hS (fun r43 L44 f45 H locs hp46 hP hD hS => ?_)
      obtain ⟨eL47L, eL47T, eL47R, eL47X0⟩ := hp46
      have eL47L : L44 = L := eL47L
      have eL47T : f45 = f := eL47T
      rw [eL47L, eL47T] at hP hD
      have eL47R : In r43 0 1 := eL47R
      exact ret_i (ty := .int) hx hb hr hlocks (rfl) hP hD hS (Nat.le_of_ble_eq_true rfl) (Nat.le_of_ble_eq_true rfl) (⟨rfl, rfl⟩) dX10_peer_84
    refine lv_tableOut (tgt := 85) hx hb dX10_peer_11 (tb_out (by decide) (by decide) (fun k h1 h2 => ?_)) (by decide) ?_
    · rcases (show k = 0 ∨ k = 1 ∨ k = 2 ∨ k = 3 by omega) with rfl | rfl | rfl | rfl
      · exact fun e => c12 (e.trans (by decide))
      · exact fun e => c21 (e.trans (by decide))
      · exact fun e => c30 (e.trans (by decide))
      · exact fun e => c39 (e.trans (by decide))
    ·
      refine lv_iconst (v := (-1)) hx hb dX10_peer_85 (by decide) ?_
      exact ret_i (ty := .int) hx hb hr hlocks (rfl) hP hD hS (Nat.le_of_ble_eq_true rfl) (Nat.le_of_ble_eq_true rfl) (⟨rfl, rfl⟩) dX10_peer_86
  ·
    have cc48 : r3.toInt = (0 : Int32).toInt := congrArg Int32.toInt c8
    have hb49 : In r3 0 0 := In.eq1 eL7R (⟨by decide, by decide⟩ : In 0 0 0) cc48 (by omega) (by omega)
    refine lv_iconst (v := (-1)) hx hb dX10_peer_8 (by decide) ?_
    exact ret_i (ty := .int) hx hb hr hlocks (rfl) hP hD hS (Nat.le_of_ble_eq_true rfl) (Nat.le_of_ble_eq_true rfl) (⟨rfl, rfl⟩) dX10_peer_9

abbrev rm_X10_told : Room := { frames := 4, cells := 0, slots := 0, locals := 82 }
abbrev po_X10_told (g : GG) (ad : Nat → Nat) (th : Nat → Int) (L : List Nat) (f : HP) (z1 : Int32) (z2 : Int32) (z3 : Int32) : Int32 → (List Nat × HP) → Prop := fun _ u => u.1 = L ∧ u.2 = f
set_option maxHeartbeats 4000000 in
set_option maxRecDepth 100000 in
theorem s_X10_told (l : Launch) (g : GG) (ad : Nat → Nat) (th : Nat → Int) (L : List Nat) (f : HP) (sz : Nat) (z1 : Int32) (z2 : Int32) (z3 : Int32) (hst : ST ad L) (hT : TI g ad th f)  : MtI l g yX10_told cX10_told 5 (some .int) rm_X10_told [.ref (ad 0), .int z1, .int z2, .int z3] L f sz (po_X10_told g ad th L f z1 z2 z3) := by
  refine MtI.of (by decide +kernel) (Nat.le_of_ble_eq_true rfl) ?_
  intro p e s m below meth c A hEn hP hD hS ls hl
  obtain ⟨hx, hb, hr, hml, hown, hlocks, hts, hG, hA, hE, hnm⟩ := hEn
  have hown : s.vm.findClass "RulerWord" = some m.cls := hown
  have hl : lv_has ls 5 [(0, .ref (ad 0)), (1, .int z1), (2, .int z2), (3, .int z3)] := hl
  refine lv_aload_n hx hb dX10_told_0 rfl (lv_at hl 0 rfl) ?_
  refine lv_iload_n hx hb dX10_told_1 rfl (lv_at hl 1 rfl) ?_
  obtain ⟨v15_1, v16_1, v17_1, hf2, hv15_1, hv16_1, hg16_1⟩ := hT.1 0 (by decide)
  refine call_i (run_V (rm := rm_X10_isPeer) hx hb hml hown hts (s_X10_isPeer l g ad th _ _ _ z1 hst hT ) cV_X10_isPeer wg_897 ⟨Nat.le_of_ble_eq_true rfl, Nat.le_of_ble_eq_true rfl⟩ hG hE hA hP hD hS (hst.1 0 (by decide)) hf2 rfl rfl hl.1 (As := [.int z1]) (rest := []) rfl (Nat.le_of_ble_eq_true rfl) dX10_told_2 ⟨Nat.le_of_ble_eq_true rfl, Nat.le_of_ble_eq_true rfl⟩) hA hD hS (fun r3 L4 f5 H locs hp6 hP hD hS => ?_)
  obtain ⟨eL7L, eL7T, eL7R, eL7W0⟩ := hp6
  have eL7L : L4 = L := eL7L
  have eL7T : f5 = f := eL7T
  rw [eL7L, eL7T] at hP hD
  have eL7R : In r3 0 1 := eL7R
  refine lv_if_eq (tgt := 16) hx hb dX10_told_5 (by decide) (fun c8 => ?_) (fun c8 => ?_)
  ·
    have cc9 : r3.toInt = (0 : Int32).toInt := congrArg Int32.toInt c8
    have hb10 : In r3 0 0 := In.eq1 eL7R (⟨by decide, by decide⟩ : In 0 0 0) cc9 (by omega) (by omega)
    refine lv_iconst (v := (-1)) hx hb dX10_told_16 (by decide) ?_
    exact ret_i (ty := .int) hx hb hr hlocks (rfl) hP hD hS (Nat.le_of_ble_eq_true rfl) (Nat.le_of_ble_eq_true rfl) (⟨rfl, rfl⟩) dX10_told_17
  ·
    have cc11 : r3.toInt ≠ (0 : Int32).toInt := i32_ne c8
    have hb12 : In r3 1 1 := In.ne1 eL7R (⟨by decide, by decide⟩ : In 0 0 0) cc11 (by omega) (by omega)
    have hb13 : In z1 0 8 := In.both (eL7W0 c8) (In.full z1) (by decide) (by decide)
    refine lv_aload_n hx hb dX10_told_8 rfl (lv_at hl 0 rfl) ?_
    refine lv_iload_n hx hb dX10_told_9 rfl (lv_at hl 2 rfl) ?_
    refine call_i (run_V (rm := rm_X10_isOver) hx hb hml hown hts (s_X10_isOver l g ad th _ _ _ z2 hst hT ) cV_X10_isOver wg_952 ⟨Nat.le_of_ble_eq_true rfl, Nat.le_of_ble_eq_true rfl⟩ hG hE hA hP hD hS (hst.1 0 (by decide)) hf2 rfl rfl hl.1 (As := [.int z2]) (rest := []) rfl (Nat.le_of_ble_eq_true rfl) dX10_told_10 ⟨Nat.le_of_ble_eq_true rfl, Nat.le_of_ble_eq_true rfl⟩) hA hD hS (fun r14 L15 f16 H locs hp17 hP hD hS => ?_)
    obtain ⟨eL18L, eL18T, eL18R, eL18W0⟩ := hp17
    have eL18L : L15 = L := eL18L
    have eL18T : f16 = f := eL18T
    rw [eL18L, eL18T] at hP hD
    have eL18R : In r14 0 1 := eL18R
    refine lv_if_ne (tgt := 18) hx hb dX10_told_13 (by decide) (fun c19 => ?_) (fun c19 => ?_)
    ·
      have cc20 : r14.toInt ≠ (0 : Int32).toInt := i32_ne c19
      have hb21 : In r14 1 1 := In.ne1 eL18R (⟨by decide, by decide⟩ : In 0 0 0) cc20 (by omega) (by omega)
      have hb22 : In z2 0 5 := In.both (eL18W0 c19) (In.full z2) (by decide) (by decide)
      refine lv_aload_n hx hb dX10_told_18 rfl (lv_at hl 0 rfl) ?_
      refine pl_get (v := .ref (ad 6)) hx hb hts (fun w h => mT (inX10 w h)) hown hG.1 hP (hst.1 0 (by decide)) hf2 rfl 2 (by decide) (hts _ (mT wg_477)) (fun _ h => h) rfl dX10_told_19 ?_
      obtain ⟨v0_23, v1_23, v2_23, v3_23, v4_23, v5_23, v6_23, v7_23, hf24, hv0_23, hg0_23, hv1_23, hg1_23, hv2_23, hv3_23, hv5_23, hv6_23, hrel0_23⟩ := hT.1 6 (by decide)
      refine pl_getN (v := .int v0_23) hx hb hts (fun w h => mT (inX2 w h)) hown hG.1 hP (hst.1 6 (by decide)) hf24 rfl 0 (by decide) (hG.2.1 _ wn_226) (fun _ h => h) rfl dX10_told_22 ?_
      refine lv_iconst (v := 1) hx hb dX10_told_25 (by decide) ?_
      have hJ34 : ∀ (y34_s0 : Int32) (H : Heap) (locs : List Loc) (ls : Array Slot), In y34_s0 0 1 → va_P g.1 vwCl (va_pl L f) H → va_D A (va_pl L f) → va_S A s.heap H locs → lv_has ls 5 [(0, .ref (ad 0)), (1, .int z1), (2, .int z2), (3, .int z3)] → W p l e rm_X10_told s m [.ref (ad 0), .int z1, .int z2, .int z3].toArray below meth c H locs 0 0 (MQ below (va_Qi (po_X10_told g ad th L f z1 z2 z3) (PstB g A) A) [.ref (ad 0), .int z1, .int z2, .int z3].toArray s rm_X10_told.cells rm_X10_told.slots A) (F0 m 34 ls [.int y34_s0]) := by
        intro y34_s0 H locs ls hy34_s0 hP hD hS hl
        refine lv_istore (lv' := [(4, .int y34_s0), (0, .ref (ad 0)), (1, .int z1), (2, .int z2), (3, .int z3)]) hx hb dX10_told_34 hl (by decide) rfl (fun ls hl => ?_)
        refine lv_iload_n hx hb dX10_told_36 rfl (lv_at hl 4 rfl) ?_
        by_cases c25 : z3 = 0
        ·
          refine lv_tableIn (off := 47) (tgt := 84) hx hb dX10_told_37 (by rw [c25]; decide) (by rw [c25]; decide) (by rw [c25]; decide) (by decide) ?_
          have hb26 : In z3 0 0 := by rw [c25]; exact ⟨by decide, by decide⟩
          refine lv_aload_n hx hb dX10_told_84 rfl (lv_at hl 1 rfl) ?_
          refine pl_get (v := .ref (cr ad 0 0)) hx hb hts (fun w h => mT (inX10 w h)) hown hG.1 hP (hst.1 0 (by decide)) hf2 rfl 8 (by decide) (hts _ (mT wg_483)) (fun _ h => h) rfl dX10_told_85 ?_
          obtain ⟨v0_27, v1_27, v2_27, v3_27, v4_27, v5_27, v6_27, v7_27, v8_27, hf28, hv1_27, hg1_27, hv2_27, hg2_27, hv6_27⟩ := hT.2.1 0 (by decide) 0 (by decide)
          refine pl_getN (v := .ref (cr ad 0 6)) hx hb hts (fun w h => mT (inX3 w h)) hown hG.1 hP (hst.c (by decide) (by decide)) hf28 rfl 14 (by decide) (hG.2.1 _ wn_359) (fun _ h => h) rfl dX10_told_88 ?_
          refine lv_iload_n hx hb dX10_told_91 rfl (lv_at hl 3 rfl) ?_
          obtain ⟨rw29, hf30⟩ := hT.2.1 0 (by decide) 6 (by decide)
          have hin31 : vp_in z2 6 := In.inb hb22 (by decide) (by decide)
          refine pl_iald hx hb hG.1 hP (hst.c (by decide) (by decide)) 0 hf30 rfl hin31 dX10_told_92 ?_
          refine lv_topi (fun x32 ex32 => ?_)
          refine lv_iload_n hx hb dX10_told_93 rfl (lv_at hl 2 rfl) ?_
          refine call_i (run_S (rm := rm_X10_bit) hx hb hml hown hts (s_X10_bit l g ad th _ _ _ x32 z1 hst hT ) cS_X10_bit wg_901 ⟨Nat.le_of_ble_eq_true rfl, Nat.le_of_ble_eq_true rfl⟩ hG hE hA hP hD hS rfl hl.1 (As := [.int x32, .int z1]) (rest := []) rfl (Nat.le_of_ble_eq_true rfl) dX10_told_94 ⟨Nat.le_of_ble_eq_true rfl, Nat.le_of_ble_eq_true rfl⟩) hA hD hS (fun r33 L34 f35 H locs hp36 hP hD hS => ?_)
          obtain ⟨eL37L, eL37T, eL37R, eL37X0⟩ := hp36
          have eL37L : L34 = L := eL37L
          have eL37T : f35 = f := eL37T
          rw [eL37L, eL37T] at hP hD
          have eL37R : In r33 0 1 := eL37R
          exact ret_i (ty := .int) hx hb hr hlocks (rfl) hP hD hS (Nat.le_of_ble_eq_true rfl) (Nat.le_of_ble_eq_true rfl) (⟨rfl, rfl⟩) dX10_told_97
        by_cases c38 : z3 = 1
        ·
          refine lv_tableIn (off := 61) (tgt := 98) hx hb dX10_told_37 (by rw [c38]; decide) (by rw [c38]; decide) (by rw [c38]; decide) (by decide) ?_
          have hb39 : In z3 1 1 := by rw [c38]; exact ⟨by decide, by decide⟩
          refine lv_aload_n hx hb dX10_told_98 rfl (lv_at hl 1 rfl) ?_
          refine pl_get (v := .ref (cr ad 0 0)) hx hb hts (fun w h => mT (inX10 w h)) hown hG.1 hP (hst.1 0 (by decide)) hf2 rfl 8 (by decide) (hts _ (mT wg_483)) (fun _ h => h) rfl dX10_told_99 ?_
          obtain ⟨v0_40, v1_40, v2_40, v3_40, v4_40, v5_40, v6_40, v7_40, v8_40, hf41, hv1_40, hg1_40, hv2_40, hg2_40, hv6_40⟩ := hT.2.1 0 (by decide) 0 (by decide)
          refine pl_getN (v := .ref (cr ad 0 7)) hx hb hts (fun w h => mT (inX3 w h)) hown hG.1 hP (hst.c (by decide) (by decide)) hf41 rfl 15 (by decide) (hG.2.1 _ wn_361) (fun _ h => h) rfl dX10_told_102 ?_
          refine lv_iload_n hx hb dX10_told_105 rfl (lv_at hl 3 rfl) ?_
          obtain ⟨rw42, hf43⟩ := hT.2.1 0 (by decide) 7 (by decide)
          have hin44 : vp_in z2 6 := In.inb hb22 (by decide) (by decide)
          refine pl_iald hx hb hG.1 hP (hst.c (by decide) (by decide)) 0 hf43 rfl hin44 dX10_told_106 ?_
          refine lv_topi (fun x45 ex45 => ?_)
          refine lv_iload_n hx hb dX10_told_107 rfl (lv_at hl 2 rfl) ?_
          refine call_i (run_S (rm := rm_X10_bit) hx hb hml hown hts (s_X10_bit l g ad th _ _ _ x45 z1 hst hT ) cS_X10_bit wg_901 ⟨Nat.le_of_ble_eq_true rfl, Nat.le_of_ble_eq_true rfl⟩ hG hE hA hP hD hS rfl hl.1 (As := [.int x45, .int z1]) (rest := []) rfl (Nat.le_of_ble_eq_true rfl) dX10_told_108 ⟨Nat.le_of_ble_eq_true rfl, Nat.le_of_ble_eq_true rfl⟩) hA hD hS (fun r46 L47 f48 H locs hp49 hP hD hS => ?_)
          obtain ⟨eL50L, eL50T, eL50R, eL50X0⟩ := hp49
          have eL50L : L47 = L := eL50L
          have eL50T : f48 = f := eL50T
          rw [eL50L, eL50T] at hP hD
          have eL50R : In r46 0 1 := eL50R
          exact ret_i (ty := .int) hx hb hr hlocks (rfl) hP hD hS (Nat.le_of_ble_eq_true rfl) (Nat.le_of_ble_eq_true rfl) (⟨rfl, rfl⟩) dX10_told_111
        by_cases c51 : z3 = 2
        ·
          refine lv_tableIn (off := 75) (tgt := 112) hx hb dX10_told_37 (by rw [c51]; decide) (by rw [c51]; decide) (by rw [c51]; decide) (by decide) ?_
          have hb52 : In z3 2 2 := by rw [c51]; exact ⟨by decide, by decide⟩
          refine lv_aload_n hx hb dX10_told_112 rfl (lv_at hl 1 rfl) ?_
          refine pl_get (v := .ref (cr ad 0 0)) hx hb hts (fun w h => mT (inX10 w h)) hown hG.1 hP (hst.1 0 (by decide)) hf2 rfl 8 (by decide) (hts _ (mT wg_483)) (fun _ h => h) rfl dX10_told_113 ?_
          refine lv_aload_n hx hb dX10_told_116 rfl (lv_at hl 1 rfl) ?_
          refine pl_get (v := .ref (ad 6)) hx hb hts (fun w h => mT (inX10 w h)) hown hG.1 hP (hst.1 0 (by decide)) hf2 rfl 2 (by decide) (hts _ (mT wg_477)) (fun _ h => h) rfl dX10_told_117 ?_
          refine lv_iload_n hx hb dX10_told_120 rfl (lv_at hl 3 rfl) ?_
          refine lv_iconst (v := 0) hx hb dX10_told_121 (by decide) ?_
          refine lv_iload_n hx hb dX10_told_122 rfl (lv_at hl 2 rfl) ?_
          obtain ⟨v0_53, v1_53, v2_53, v3_53, v4_53, v5_53, v6_53, v7_53, v8_53, hf54, hv1_53, hg1_53, hv2_53, hg2_53, hv6_53⟩ := hT.2.1 0 (by decide) 0 (by decide)
          refine call_i (run_VN (rm := rm_X3_zerosHeard_co) hx hb hml hown hts (s_X3_zerosHeard_co l g ad th _ _ _ 0 z2 0 z1 hst hT (by decide) hb22 (⟨by decide, by decide⟩ : In 0 0 2)) cV_X3_zerosHeard wn_961 ⟨Nat.le_of_ble_eq_true rfl, Nat.le_of_ble_eq_true rfl⟩ hG hE hA hP hD hS (hst.c (by decide) (by decide)) hf54 rfl rfl hl.1 (As := [.ref (ad 6), .int z2, .int 0, .int z1]) (rest := []) rfl (Nat.le_of_ble_eq_true rfl) dX10_told_123 ⟨Nat.le_of_ble_eq_true rfl, Nat.le_of_ble_eq_true rfl⟩) hA hD hS (fun r55 L56 f57 H locs hp58 hP hD hS => ?_)
          obtain ⟨eL59L, eL59T⟩ := hp58
          have eL59L : L56 = L := eL59L
          have eL59T : f57 = f := eL59T
          rw [eL59L, eL59T] at hP hD
          exact ret_i (ty := .int) hx hb hr hlocks (rfl) hP hD hS (Nat.le_of_ble_eq_true rfl) (Nat.le_of_ble_eq_true rfl) (⟨rfl, rfl⟩) dX10_told_126
        by_cases c60 : z3 = 3
        ·
          refine lv_tableIn (off := 90) (tgt := 127) hx hb dX10_told_37 (by rw [c60]; decide) (by rw [c60]; decide) (by rw [c60]; decide) (by decide) ?_
          have hb61 : In z3 3 3 := by rw [c60]; exact ⟨by decide, by decide⟩
          refine lv_aload_n hx hb dX10_told_127 rfl (lv_at hl 1 rfl) ?_
          refine pl_get (v := .ref (cr ad 0 0)) hx hb hts (fun w h => mT (inX10 w h)) hown hG.1 hP (hst.1 0 (by decide)) hf2 rfl 8 (by decide) (hts _ (mT wg_483)) (fun _ h => h) rfl dX10_told_128 ?_
          refine lv_iload_n hx hb dX10_told_131 rfl (lv_at hl 3 rfl) ?_
          refine lv_iconst (v := 0) hx hb dX10_told_132 (by decide) ?_
          refine lv_iload_n hx hb dX10_told_133 rfl (lv_at hl 2 rfl) ?_
          obtain ⟨v0_62, v1_62, v2_62, v3_62, v4_62, v5_62, v6_62, v7_62, v8_62, hf63, hv1_62, hg1_62, hv2_62, hg2_62, hv6_62⟩ := hT.2.1 0 (by decide) 0 (by decide)
          refine call_i (run_VN (rm := rm_X3_onesHeard) hx hb hml hown hts (s_X3_onesHeard l g ad th _ _ _ 0 z2 0 z1 hst hT (by decide) hb22 (⟨by decide, by decide⟩ : In 0 0 2)) cV_X3_onesHeard wn_962 ⟨Nat.le_of_ble_eq_true rfl, Nat.le_of_ble_eq_true rfl⟩ hG hE hA hP hD hS (hst.c (by decide) (by decide)) hf63 rfl rfl hl.1 (As := [.int z2, .int 0, .int z1]) (rest := []) rfl (Nat.le_of_ble_eq_true rfl) dX10_told_134 ⟨Nat.le_of_ble_eq_true rfl, Nat.le_of_ble_eq_true rfl⟩) hA hD hS (fun r64 L65 f66 H locs hp67 hP hD hS => ?_)
          obtain ⟨eL68L, eL68T, eL68R⟩ := hp67
          have eL68L : L65 = L := eL68L
          have eL68T : f66 = f := eL68T
          rw [eL68L, eL68T] at hP hD
          have eL68R : In r64 0 15 := eL68R
          exact ret_i (ty := .int) hx hb hr hlocks (rfl) hP hD hS (Nat.le_of_ble_eq_true rfl) (Nat.le_of_ble_eq_true rfl) (⟨rfl, rfl⟩) dX10_told_137
        by_cases c69 : z3 = 4
        ·
          refine lv_tableIn (off := 101) (tgt := 138) hx hb dX10_told_37 (by rw [c69]; decide) (by rw [c69]; decide) (by rw [c69]; decide) (by decide) ?_
          have hb70 : In z3 4 4 := by rw [c69]; exact ⟨by decide, by decide⟩
          refine lv_aload_n hx hb dX10_told_138 rfl (lv_at hl 1 rfl) ?_
          refine pl_get (v := .ref (cr ad 0 0)) hx hb hts (fun w h => mT (inX10 w h)) hown hG.1 hP (hst.1 0 (by decide)) hf2 rfl 8 (by decide) (hts _ (mT wg_483)) (fun _ h => h) rfl dX10_told_139 ?_
          obtain ⟨v0_71, v1_71, v2_71, v3_71, v4_71, v5_71, v6_71, v7_71, v8_71, hf72, hv1_71, hg1_71, hv2_71, hg2_71, hv6_71⟩ := hT.2.1 0 (by decide) 0 (by decide)
          refine pl_getN (v := .ref (cr ad 0 5)) hx hb hts (fun w h => mT (inX3 w h)) hown hG.1 hP (hst.c (by decide) (by decide)) hf72 rfl 13 (by decide) (hG.2.1 _ wn_357) (fun _ h => h) rfl dX10_told_142 ?_
          refine lv_iload_n hx hb dX10_told_145 rfl (lv_at hl 3 rfl) ?_
          obtain ⟨rw73, hf74⟩ := hT.2.1 0 (by decide) 5 (by decide)
          have hin75 : vp_in z2 6 := In.inb hb22 (by decide) (by decide)
          refine pl_lald hx hb hG.1 hP (hst.c (by decide) (by decide)) 1 hf74 rfl hin75 dX10_told_146 ?_
          refine lv_topl (fun x76 ex76 => ?_)
          refine lv_iload_n hx hb dX10_told_147 rfl (lv_at hl 2 rfl) ?_
          refine call_i (run_S (rm := rm_X10_nibble) hx hb hml hown hts (s_X10_nibble l g ad th _ _ _ x76 z1 hst hT ) cS_X10_nibble wg_963 ⟨Nat.le_of_ble_eq_true rfl, Nat.le_of_ble_eq_true rfl⟩ hG hE hA hP hD hS rfl hl.1 (As := [.long x76, .int z1]) (rest := []) rfl (Nat.le_of_ble_eq_true rfl) dX10_told_148 ⟨Nat.le_of_ble_eq_true rfl, Nat.le_of_ble_eq_true rfl⟩) hA hD hS (fun r77 L78 f79 H locs hp80 hP hD hS => ?_)
          obtain ⟨eL81L, eL81T, eL81R⟩ := hp80
          have eL81L : L78 = L := eL81L
          have eL81T : f79 = f := eL81T
          rw [eL81L, eL81T] at hP hD
          have eL81R : In r77 0 15 := eL81R
          exact ret_i (ty := .int) hx hb hr hlocks (rfl) hP hD hS (Nat.le_of_ble_eq_true rfl) (Nat.le_of_ble_eq_true rfl) (⟨rfl, rfl⟩) dX10_told_151
        by_cases c82 : z3 = 5
        ·
          refine lv_tableIn (off := 115) (tgt := 152) hx hb dX10_told_37 (by rw [c82]; decide) (by rw [c82]; decide) (by rw [c82]; decide) (by decide) ?_
          have hb83 : In z3 5 5 := by rw [c82]; exact ⟨by decide, by decide⟩
          refine lv_iload hx hb dX10_told_152 (lv_at hl 0 rfl) ?_
          refine lv_if_eq (tgt := 161) hx hb dX10_told_154 (by decide) (fun c84 => ?_) (fun c84 => ?_)
          ·
            have cc85 : y34_s0.toInt = (0 : Int32).toInt := congrArg Int32.toInt c84
            have hb86 : In y34_s0 0 0 := In.eq1 hy34_s0 (⟨by decide, by decide⟩ : In 0 0 0) cc85 (by omega) (by omega)
            refine lv_aload_n hx hb dX10_told_161 rfl (lv_at hl 1 rfl) ?_
            refine pl_get (v := .ref (cr ad 0 0)) hx hb hts (fun w h => mT (inX10 w h)) hown hG.1 hP (hst.1 0 (by decide)) hf2 rfl 8 (by decide) (hts _ (mT wg_483)) (fun _ h => h) rfl dX10_told_162 ?_
            refine lv_aload_n hx hb dX10_told_165 rfl (lv_at hl 1 rfl) ?_
            refine pl_get (v := .ref (ad 6)) hx hb hts (fun w h => mT (inX10 w h)) hown hG.1 hP (hst.1 0 (by decide)) hf2 rfl 2 (by decide) (hts _ (mT wg_477)) (fun _ h => h) rfl dX10_told_166 ?_
            refine lv_iload_n hx hb dX10_told_169 rfl (lv_at hl 3 rfl) ?_
            refine lv_iconst (v := 1) hx hb dX10_told_170 (by decide) ?_
            refine lv_iload_n hx hb dX10_told_171 rfl (lv_at hl 2 rfl) ?_
            obtain ⟨v0_87, v1_87, v2_87, v3_87, v4_87, v5_87, v6_87, v7_87, v8_87, hf88, hv1_87, hg1_87, hv2_87, hg2_87, hv6_87⟩ := hT.2.1 0 (by decide) 0 (by decide)
            refine call_i (run_VN (rm := rm_X3_zerosHeard_co) hx hb hml hown hts (s_X3_zerosHeard_co l g ad th _ _ _ 0 z2 1 z1 hst hT (by decide) hb22 (⟨by decide, by decide⟩ : In 1 0 2)) cV_X3_zerosHeard wn_961 ⟨Nat.le_of_ble_eq_true rfl, Nat.le_of_ble_eq_true rfl⟩ hG hE hA hP hD hS (hst.c (by decide) (by decide)) hf88 rfl rfl hl.1 (As := [.ref (ad 6), .int z2, .int 1, .int z1]) (rest := []) rfl (Nat.le_of_ble_eq_true rfl) dX10_told_172 ⟨Nat.le_of_ble_eq_true rfl, Nat.le_of_ble_eq_true rfl⟩) hA hD hS (fun r89 L90 f91 H locs hp92 hP hD hS => ?_)
            obtain ⟨eL93L, eL93T⟩ := hp92
            have eL93L : L90 = L := eL93L
            have eL93T : f91 = f := eL93T
            rw [eL93L, eL93T] at hP hD
            exact ret_i (ty := .int) hx hb hr hlocks (rfl) hP hD hS (Nat.le_of_ble_eq_true rfl) (Nat.le_of_ble_eq_true rfl) (⟨rfl, rfl⟩) dX10_told_175
          ·
            have cc94 : y34_s0.toInt ≠ (0 : Int32).toInt := i32_ne c84
            have hb95 : In y34_s0 1 1 := In.ne1 hy34_s0 (⟨by decide, by decide⟩ : In 0 0 0) cc94 (by omega) (by omega)
            refine lv_iconst (v := (-1)) hx hb dX10_told_157 (by decide) ?_
            refine lv_goto (tgt := 175) hx hb dX10_told_158 (by decide) ?_
            exact ret_i (ty := .int) hx hb hr hlocks (rfl) hP hD hS (Nat.le_of_ble_eq_true rfl) (Nat.le_of_ble_eq_true rfl) (⟨rfl, rfl⟩) dX10_told_175
        by_cases c96 : z3 = 6
        ·
          refine lv_tableIn (off := 139) (tgt := 176) hx hb dX10_told_37 (by rw [c96]; decide) (by rw [c96]; decide) (by rw [c96]; decide) (by decide) ?_
          have hb97 : In z3 6 6 := by rw [c96]; exact ⟨by decide, by decide⟩
          refine lv_iload hx hb dX10_told_176 (lv_at hl 0 rfl) ?_
          refine lv_if_eq (tgt := 185) hx hb dX10_told_178 (by decide) (fun c98 => ?_) (fun c98 => ?_)
          ·
            have cc99 : y34_s0.toInt = (0 : Int32).toInt := congrArg Int32.toInt c98
            have hb100 : In y34_s0 0 0 := In.eq1 hy34_s0 (⟨by decide, by decide⟩ : In 0 0 0) cc99 (by omega) (by omega)
            refine lv_aload_n hx hb dX10_told_185 rfl (lv_at hl 1 rfl) ?_
            refine pl_get (v := .ref (cr ad 0 0)) hx hb hts (fun w h => mT (inX10 w h)) hown hG.1 hP (hst.1 0 (by decide)) hf2 rfl 8 (by decide) (hts _ (mT wg_483)) (fun _ h => h) rfl dX10_told_186 ?_
            refine lv_iload_n hx hb dX10_told_189 rfl (lv_at hl 3 rfl) ?_
            refine lv_iconst (v := 1) hx hb dX10_told_190 (by decide) ?_
            refine lv_iload_n hx hb dX10_told_191 rfl (lv_at hl 2 rfl) ?_
            obtain ⟨v0_101, v1_101, v2_101, v3_101, v4_101, v5_101, v6_101, v7_101, v8_101, hf102, hv1_101, hg1_101, hv2_101, hg2_101, hv6_101⟩ := hT.2.1 0 (by decide) 0 (by decide)
            refine call_i (run_VN (rm := rm_X3_onesHeard) hx hb hml hown hts (s_X3_onesHeard l g ad th _ _ _ 0 z2 1 z1 hst hT (by decide) hb22 (⟨by decide, by decide⟩ : In 1 0 2)) cV_X3_onesHeard wn_962 ⟨Nat.le_of_ble_eq_true rfl, Nat.le_of_ble_eq_true rfl⟩ hG hE hA hP hD hS (hst.c (by decide) (by decide)) hf102 rfl rfl hl.1 (As := [.int z2, .int 1, .int z1]) (rest := []) rfl (Nat.le_of_ble_eq_true rfl) dX10_told_192 ⟨Nat.le_of_ble_eq_true rfl, Nat.le_of_ble_eq_true rfl⟩) hA hD hS (fun r103 L104 f105 H locs hp106 hP hD hS => ?_)
            obtain ⟨eL107L, eL107T, eL107R⟩ := hp106
            have eL107L : L104 = L := eL107L
            have eL107T : f105 = f := eL107T
            rw [eL107L, eL107T] at hP hD
            have eL107R : In r103 0 15 := eL107R
            exact ret_i (ty := .int) hx hb hr hlocks (rfl) hP hD hS (Nat.le_of_ble_eq_true rfl) (Nat.le_of_ble_eq_true rfl) (⟨rfl, rfl⟩) dX10_told_195
          ·
            have cc108 : y34_s0.toInt ≠ (0 : Int32).toInt := i32_ne c98
            have hb109 : In y34_s0 1 1 := In.ne1 hy34_s0 (⟨by decide, by decide⟩ : In 0 0 0) cc108 (by omega) (by omega)
            refine lv_iconst (v := (-1)) hx hb dX10_told_181 (by decide) ?_
            refine lv_goto (tgt := 195) hx hb dX10_told_182 (by decide) ?_
            exact ret_i (ty := .int) hx hb hr hlocks (rfl) hP hD hS (Nat.le_of_ble_eq_true rfl) (Nat.le_of_ble_eq_true rfl) (⟨rfl, rfl⟩) dX10_told_195
        by_cases c110 : z3 = 7
        ·
          refine lv_tableIn (off := 159) (tgt := 196) hx hb dX10_told_37 (by rw [c110]; decide) (by rw [c110]; decide) (by rw [c110]; decide) (by decide) ?_
          have hb111 : In z3 7 7 := by rw [c110]; exact ⟨by decide, by decide⟩
          refine lv_aload_n hx hb dX10_told_196 rfl (lv_at hl 1 rfl) ?_
          refine pl_get (v := .ref (cr ad 0 0)) hx hb hts (fun w h => mT (inX10 w h)) hown hG.1 hP (hst.1 0 (by decide)) hf2 rfl 8 (by decide) (hts _ (mT wg_483)) (fun _ h => h) rfl dX10_told_197 ?_
          obtain ⟨v0_112, v1_112, v2_112, v3_112, v4_112, v5_112, v6_112, v7_112, v8_112, hf113, hv1_112, hg1_112, hv2_112, hg2_112, hv6_112⟩ := hT.2.1 0 (by decide) 0 (by decide)
          refine pl_getN (v := .ref (cr ad 0 8)) hx hb hts (fun w h => mT (inX3 w h)) hown hG.1 hP (hst.c (by decide) (by decide)) hf113 rfl 16 (by decide) (hG.2.1 _ wn_363) (fun _ h => h) rfl dX10_told_200 ?_
          refine lv_iload_n hx hb dX10_told_203 rfl (lv_at hl 3 rfl) ?_
          obtain ⟨rw114, hf115⟩ := hT.2.1 0 (by decide) 8 (by decide)
          have hin116 : vp_in z2 6 := In.inb hb22 (by decide) (by decide)
          refine pl_iald hx hb hG.1 hP (hst.c (by decide) (by decide)) 0 hf115 rfl hin116 dX10_told_204 ?_
          refine lv_topi (fun x117 ex117 => ?_)
          refine lv_iload_n hx hb dX10_told_205 rfl (lv_at hl 2 rfl) ?_
          refine call_i (run_S (rm := rm_X10_bit) hx hb hml hown hts (s_X10_bit l g ad th _ _ _ x117 z1 hst hT ) cS_X10_bit wg_901 ⟨Nat.le_of_ble_eq_true rfl, Nat.le_of_ble_eq_true rfl⟩ hG hE hA hP hD hS rfl hl.1 (As := [.int x117, .int z1]) (rest := []) rfl (Nat.le_of_ble_eq_true rfl) dX10_told_206 ⟨Nat.le_of_ble_eq_true rfl, Nat.le_of_ble_eq_true rfl⟩) hA hD hS (fun r118 L119 f120 H locs hp121 hP hD hS => ?_)
          obtain ⟨eL122L, eL122T, eL122R, eL122X0⟩ := hp121
          have eL122L : L119 = L := eL122L
          have eL122T : f120 = f := eL122T
          rw [eL122L, eL122T] at hP hD
          have eL122R : In r118 0 1 := eL122R
          exact ret_i (ty := .int) hx hb hr hlocks (rfl) hP hD hS (Nat.le_of_ble_eq_true rfl) (Nat.le_of_ble_eq_true rfl) (⟨rfl, rfl⟩) dX10_told_209
        refine lv_tableOut (tgt := 210) hx hb dX10_told_37 (tb_out (by decide) (by decide) (fun k h1 h2 => ?_)) (by decide) ?_
        · rcases (show k = 0 ∨ k = 1 ∨ k = 2 ∨ k = 3 ∨ k = 4 ∨ k = 5 ∨ k = 6 ∨ k = 7 by omega) with rfl | rfl | rfl | rfl | rfl | rfl | rfl | rfl
          · exact fun e => c25 (e.trans (by decide))
          · exact fun e => c38 (e.trans (by decide))
          · exact fun e => c51 (e.trans (by decide))
          · exact fun e => c60 (e.trans (by decide))
          · exact fun e => c69 (e.trans (by decide))
          · exact fun e => c82 (e.trans (by decide))
          · exact fun e => c96 (e.trans (by decide))
          · exact fun e => c110 (e.trans (by decide))
        ·
          refine lv_iconst (v := (-1)) hx hb dX10_told_210 (by decide) ?_
          exact ret_i (ty := .int) hx hb hr hlocks (rfl) hP hD hS (Nat.le_of_ble_eq_true rfl) (Nat.le_of_ble_eq_true rfl) (⟨rfl, rfl⟩) dX10_told_211
      refine lv_icmp_ne (tgt := 33) hx hb dX10_told_26 (by decide) (fun c123 => ?_) (fun c123 => ?_)
      ·
        have cc124 : v0_23.toInt ≠ (1 : Int32).toInt := i32_ne c123
        have hb125 : In v0_23 0 0 := In.ne1 hv0_23 (⟨by decide, by decide⟩ : In 1 1 1) cc124 (by omega) (by omega)
        refine lv_iconst (v := 0) hx hb dX10_told_33 (by decide) ?_
        exact hJ34 0 _ _ _ (⟨by decide, by decide⟩ : In 0 0 1) hP hD hS (lv_sub hl [0, 1, 2, 3] rfl)
      ·
        have cc126 : v0_23.toInt = (1 : Int32).toInt := congrArg Int32.toInt c123
        have hb127 : In v0_23 1 1 := In.eq1 hv0_23 (⟨by decide, by decide⟩ : In 1 1 1) cc126 (by omega) (by omega)
        refine lv_iconst (v := 1) hx hb dX10_told_29 (by decide) ?_
        refine lv_goto (tgt := 34) hx hb dX10_told_30 (by decide) ?_
        exact hJ34 1 _ _ _ (⟨by decide, by decide⟩ : In 1 0 1) hP hD hS (lv_sub hl [0, 1, 2, 3] rfl)
    ·
      have cc128 : r14.toInt = (0 : Int32).toInt := congrArg Int32.toInt c19
      have hb129 : In r14 0 0 := In.eq1 eL18R (⟨by decide, by decide⟩ : In 0 0 0) cc128 (by omega) (by omega)
      refine lv_iconst (v := (-1)) hx hb dX10_told_16 (by decide) ?_
      exact ret_i (ty := .int) hx hb hr hlocks (rfl) hP hD hS (Nat.le_of_ble_eq_true rfl) (Nat.le_of_ble_eq_true rfl) (⟨rfl, rfl⟩) dX10_told_17

abbrev rm_X10_state : Room := { frames := 3, cells := 0, slots := 0, locals := 64 }
abbrev po_X10_state (g : GG) (ad : Nat → Nat) (th : Nat → Int) (L : List Nat) (f : HP) (z1 : Int32) : Int32 → (List Nat × HP) → Prop := fun _ u => u.1 = L ∧ u.2 = f
set_option maxHeartbeats 4000000 in
set_option maxRecDepth 100000 in
theorem s_X10_state (l : Launch) (g : GG) (ad : Nat → Nat) (th : Nat → Int) (L : List Nat) (f : HP) (sz : Nat) (z1 : Int32) (hst : ST ad L) (hT : TI g ad th f)  : MtI l g yX10_state cX10_state 4 (some .int) rm_X10_state [.ref (ad 0), .int z1] L f sz (po_X10_state g ad th L f z1) := by
  refine MtI.of (by decide +kernel) (Nat.le_of_ble_eq_true rfl) ?_
  intro p e s m below meth c A hEn hP hD hS ls hl
  obtain ⟨hx, hb, hr, hml, hown, hlocks, hts, hG, hA, hE, hnm⟩ := hEn
  have hown : s.vm.findClass "RulerWord" = some m.cls := hown
  have hl : lv_has ls 4 [(0, .ref (ad 0)), (1, .int z1)] := hl
  refine lv_aload_n hx hb dX10_state_0 rfl (lv_at hl 0 rfl) ?_
  obtain ⟨v15_1, v16_1, v17_1, hf2, hv15_1, hv16_1, hg16_1⟩ := hT.1 0 (by decide)
  refine pl_get (v := .int v15_1) hx hb hts (fun w h => mT (inX10 w h)) hown hG.1 hP (hst.1 0 (by decide)) hf2 rfl 15 (by decide) (hts _ (mT wg_490)) (fun _ h => h) rfl dX10_state_1 ?_
  refine lv_if_ne (tgt := 9) hx hb dX10_state_4 (by decide) (fun c3 => ?_) (fun c3 => ?_)
  ·
    have cc4 : v15_1.toInt ≠ (0 : Int32).toInt := i32_ne c3
    have hb5 : In v15_1 1 1 := In.ne1 hv15_1 (⟨by decide, by decide⟩ : In 0 0 0) cc4 (by omega) (by omega)
    refine lv_aload_n hx hb dX10_state_9 rfl (lv_at hl 0 rfl) ?_
    refine call_i (run_V (rm := rm_X10_phasesOver) hx hb hml hown hts (s_X10_phasesOver l g ad th _ _ _  hst hT ) cV_X10_phasesOver wg_956 ⟨Nat.le_of_ble_eq_true rfl, Nat.le_of_ble_eq_true rfl⟩ hG hE hA hP hD hS (hst.1 0 (by decide)) hf2 rfl rfl hl.1 (As := []) (rest := []) rfl (Nat.le_of_ble_eq_true rfl) dX10_state_10 ⟨Nat.le_of_ble_eq_true rfl, Nat.le_of_ble_eq_true rfl⟩) hA hD hS (fun r6 L7 f8 H locs hp9 hP hD hS => ?_)
    obtain ⟨eL10L, eL10T, eL10R⟩ := hp9
    have eL10L : L7 = L := eL10L
    have eL10T : f8 = f := eL10T
    rw [eL10L, eL10T] at hP hD
    have eL10R : In r6 0 6 := eL10R
    refine lv_istore_n (lv' := [(2, .int r6), (0, .ref (ad 0)), (1, .int z1)]) hx hb dX10_state_13 rfl hl (by decide) rfl (fun ls hl => ?_)
    refine lv_iload_n hx hb dX10_state_14 rfl (lv_at hl 0 rfl) ?_
    have hJ39 : ∀ (y39_s0 : Int32) (H : Heap) (locs : List Loc) (ls : Array Slot), In y39_s0 (-2147483648) 2147483647 → va_P g.1 vwCl (va_pl L f) H → va_D A (va_pl L f) → va_S A s.heap H locs → lv_has ls 4 [(0, .ref (ad 0)), (1, .int z1), (2, .int r6)] → W p l e rm_X10_state s m [.ref (ad 0), .int z1].toArray below meth c H locs 0 0 (MQ below (va_Qi (po_X10_state g ad th L f z1) (PstB g A) A) [.ref (ad 0), .int z1].toArray s rm_X10_state.cells rm_X10_state.slots A) (F0 m 39 ls [.int y39_s0]) := by
      intro y39_s0 H locs ls hy39_s0 hP hD hS hl
      refine lv_istore_n (lv' := [(3, .int y39_s0), (0, .ref (ad 0)), (1, .int z1), (2, .int r6)]) hx hb dX10_state_39 rfl hl (by decide) rfl (fun ls hl => ?_)
      refine lv_iload_n hx hb dX10_state_40 rfl (lv_at hl 2 rfl) ?_
      by_cases c11 : z1 = 0
      ·
        refine lv_tableIn (off := 31) (tgt := 72) hx hb dX10_state_41 (by rw [c11]; decide) (by rw [c11]; decide) (by rw [c11]; decide) (by decide) ?_
        have hb12 : In z1 0 0 := by rw [c11]; exact ⟨by decide, by decide⟩
        refine lv_aload_n hx hb dX10_state_72 rfl (lv_at hl 1 rfl) ?_
        refine pl_get (v := .ref (cr ad 0 0)) hx hb hts (fun w h => mT (inX10 w h)) hown hG.1 hP (hst.1 0 (by decide)) hf2 rfl 8 (by decide) (hts _ (mT wg_483)) (fun _ h => h) rfl dX10_state_73 ?_
        refine lv_aload_n hx hb dX10_state_76 rfl (lv_at hl 1 rfl) ?_
        refine pl_get (v := .ref (ad 6)) hx hb hts (fun w h => mT (inX10 w h)) hown hG.1 hP (hst.1 0 (by decide)) hf2 rfl 2 (by decide) (hts _ (mT wg_477)) (fun _ h => h) rfl dX10_state_77 ?_
        refine lv_iload_n hx hb dX10_state_80 rfl (lv_at hl 0 rfl) ?_
        obtain ⟨v0_13, v1_13, v2_13, v3_13, v4_13, v5_13, v6_13, v7_13, v8_13, hf14, hv1_13, hg1_13, hv2_13, hg2_13, hv6_13⟩ := hT.2.1 0 (by decide) 0 (by decide)
        refine call_i (run_VN (rm := rm_X3_alike_co) hx hb hml hown hts (s_X3_alike_co l g ad th _ _ _ 0 y39_s0 hst hT (by decide)) cV_X3_alike wn_985 ⟨Nat.le_of_ble_eq_true rfl, Nat.le_of_ble_eq_true rfl⟩ hG hE hA hP hD hS (hst.c (by decide) (by decide)) hf14 rfl rfl hl.1 (As := [.ref (ad 6), .int y39_s0]) (rest := []) rfl (Nat.le_of_ble_eq_true rfl) dX10_state_81 ⟨Nat.le_of_ble_eq_true rfl, Nat.le_of_ble_eq_true rfl⟩) hA hD hS (fun r15 L16 f17 H locs hp18 hP hD hS => ?_)
        obtain ⟨eL19L, eL19T, eL19R⟩ := hp18
        have eL19L : L16 = L := eL19L
        have eL19T : f17 = f := eL19T
        rw [eL19L, eL19T] at hP hD
        have eL19R : In r15 0 1 := eL19R
        refine lv_if_eq (tgt := 91) hx hb dX10_state_84 (by decide) (fun c20 => ?_) (fun c20 => ?_)
        ·
          have cc21 : r15.toInt = (0 : Int32).toInt := congrArg Int32.toInt c20
          have hb22 : In r15 0 0 := In.eq1 eL19R (⟨by decide, by decide⟩ : In 0 0 0) cc21 (by omega) (by omega)
          refine lv_iconst (v := 0) hx hb dX10_state_91 (by decide) ?_
          exact ret_i (ty := .int) hx hb hr hlocks (rfl) hP hD hS (Nat.le_of_ble_eq_true rfl) (Nat.le_of_ble_eq_true rfl) (⟨rfl, rfl⟩) dX10_state_92
        ·
          have cc23 : r15.toInt ≠ (0 : Int32).toInt := i32_ne c20
          have hb24 : In r15 1 1 := In.ne1 eL19R (⟨by decide, by decide⟩ : In 0 0 0) cc23 (by omega) (by omega)
          refine lv_iconst (v := 1) hx hb dX10_state_87 (by decide) ?_
          refine lv_goto (tgt := 92) hx hb dX10_state_88 (by decide) ?_
          exact ret_i (ty := .int) hx hb hr hlocks (rfl) hP hD hS (Nat.le_of_ble_eq_true rfl) (Nat.le_of_ble_eq_true rfl) (⟨rfl, rfl⟩) dX10_state_92
      by_cases c25 : z1 = 1
      ·
        refine lv_tableIn (off := 52) (tgt := 93) hx hb dX10_state_41 (by rw [c25]; decide) (by rw [c25]; decide) (by rw [c25]; decide) (by decide) ?_
        have hb26 : In z1 1 1 := by rw [c25]; exact ⟨by decide, by decide⟩
        refine lv_iload_n hx hb dX10_state_93 rfl (lv_at hl 0 rfl) ?_
        refine lv_aload_n hx hb dX10_state_94 rfl (lv_at hl 1 rfl) ?_
        refine pl_get (v := .ref (cr ad 0 0)) hx hb hts (fun w h => mT (inX10 w h)) hown hG.1 hP (hst.1 0 (by decide)) hf2 rfl 8 (by decide) (hts _ (mT wg_483)) (fun _ h => h) rfl dX10_state_95 ?_
        refine lv_aload_n hx hb dX10_state_98 rfl (lv_at hl 1 rfl) ?_
        refine pl_get (v := .ref (ad 6)) hx hb hts (fun w h => mT (inX10 w h)) hown hG.1 hP (hst.1 0 (by decide)) hf2 rfl 2 (by decide) (hts _ (mT wg_477)) (fun _ h => h) rfl dX10_state_99 ?_
        obtain ⟨v0_27, v1_27, v2_27, v3_27, v4_27, v5_27, v6_27, v7_27, v8_27, hf28, hv1_27, hg1_27, hv2_27, hg2_27, hv6_27⟩ := hT.2.1 0 (by decide) 0 (by decide)
        refine call_i (run_VN (rm := rm_X3_trues_co) hx hb hml hown hts (s_X3_trues_co l g ad th _ _ _ 0 hst hT (by decide)) cV_X3_trues wn_986 ⟨Nat.le_of_ble_eq_true rfl, Nat.le_of_ble_eq_true rfl⟩ hG hE hA hP hD hS (hst.c (by decide) (by decide)) hf28 rfl rfl hl.1 (As := [.ref (ad 6)]) (rest := [.int y39_s0]) rfl (Nat.le_of_ble_eq_true rfl) dX10_state_102 ⟨Nat.le_of_ble_eq_true rfl, Nat.le_of_ble_eq_true rfl⟩) hA hD hS (fun r29 L30 f31 H locs hp32 hP hD hS => ?_)
        obtain ⟨eL33L, eL33T, eL33R⟩ := hp32
        have eL33L : L30 = L := eL33L
        have eL33T : f31 = f := eL33T
        rw [eL33L, eL33T] at hP hD
        have eL33R : In r29 0 511 := eL33R
        refine lv_iand hx hb dX10_state_105 ?_
        refine lv_topi (fun x34 ex34 => ?_)
        have hb35 : In x34 0 511 := ex34 ▸ In.andr eL33R (by decide)
        refine call_i (run_S (rm := rm_J6_bitCount_0f7a4) hx hb hml hown hts (s_J6_bitCount_0f7a4 l g ad th _ _ _ x34 hst hT ) cS_J6_bitCount_0f7a4 wg_987 ⟨Nat.le_of_ble_eq_true rfl, Nat.le_of_ble_eq_true rfl⟩ hG hE hA hP hD hS rfl hl.1 (As := [.int x34]) (rest := []) rfl (Nat.le_of_ble_eq_true rfl) dX10_state_106 ⟨Nat.le_of_ble_eq_true rfl, Nat.le_of_ble_eq_true rfl⟩) hA hD hS (fun r36 L37 f38 H locs hp39 hP hD hS => ?_)
        obtain ⟨eL40L, eL40T, eL40R, eL40X0⟩ := hp39
        have eL40L : L37 = L := eL40L
        have eL40T : f38 = f := eL40T
        rw [eL40L, eL40T] at hP hD
        have eL40R : In r36 0 63 := eL40R
        have hb41 : In r36 0 9 := bc9 hb35 eL40X0
        exact ret_i (ty := .int) hx hb hr hlocks (rfl) hP hD hS (Nat.le_of_ble_eq_true rfl) (Nat.le_of_ble_eq_true rfl) (⟨rfl, rfl⟩) dX10_state_109
      by_cases c42 : z1 = 2
      ·
        refine lv_tableIn (off := 69) (tgt := 110) hx hb dX10_state_41 (by rw [c42]; decide) (by rw [c42]; decide) (by rw [c42]; decide) (by decide) ?_
        have hb43 : In z1 2 2 := by rw [c42]; exact ⟨by decide, by decide⟩
        refine lv_aload_n hx hb dX10_state_110 rfl (lv_at hl 1 rfl) ?_
        refine pl_get (v := .ref (cr ad 0 0)) hx hb hts (fun w h => mT (inX10 w h)) hown hG.1 hP (hst.1 0 (by decide)) hf2 rfl 8 (by decide) (hts _ (mT wg_483)) (fun _ h => h) rfl dX10_state_111 ?_
        refine lv_aload_n hx hb dX10_state_114 rfl (lv_at hl 1 rfl) ?_
        refine pl_get (v := .ref (ad 6)) hx hb hts (fun w h => mT (inX10 w h)) hown hG.1 hP (hst.1 0 (by decide)) hf2 rfl 2 (by decide) (hts _ (mT wg_477)) (fun _ h => h) rfl dX10_state_115 ?_
        refine lv_iload_n hx hb dX10_state_118 rfl (lv_at hl 0 rfl) ?_
        obtain ⟨v0_44, v1_44, v2_44, v3_44, v4_44, v5_44, v6_44, v7_44, v8_44, hf45, hv1_44, hg1_44, hv2_44, hg2_44, hv6_44⟩ := hT.2.1 0 (by decide) 0 (by decide)
        refine call_i (run_VN (rm := rm_X3_alike_co) hx hb hml hown hts (s_X3_alike_co l g ad th _ _ _ 0 y39_s0 hst hT (by decide)) cV_X3_alike wn_985 ⟨Nat.le_of_ble_eq_true rfl, Nat.le_of_ble_eq_true rfl⟩ hG hE hA hP hD hS (hst.c (by decide) (by decide)) hf45 rfl rfl hl.1 (As := [.ref (ad 6), .int y39_s0]) (rest := []) rfl (Nat.le_of_ble_eq_true rfl) dX10_state_119 ⟨Nat.le_of_ble_eq_true rfl, Nat.le_of_ble_eq_true rfl⟩) hA hD hS (fun r46 L47 f48 H locs hp49 hP hD hS => ?_)
        obtain ⟨eL50L, eL50T, eL50R⟩ := hp49
        have eL50L : L47 = L := eL50L
        have eL50T : f48 = f := eL50T
        rw [eL50L, eL50T] at hP hD
        have eL50R : In r46 0 1 := eL50R
        have hJ137 : ∀ (H : Heap) (locs : List Loc) (ls : Array Slot), va_P g.1 vwCl (va_pl L f) H → va_D A (va_pl L f) → va_S A s.heap H locs → lv_has ls 4 [(0, .ref (ad 0)), (1, .int z1), (2, .int r6), (3, .int y39_s0)] → W p l e rm_X10_state s m [.ref (ad 0), .int z1].toArray below meth c H locs 0 0 (MQ below (va_Qi (po_X10_state g ad th L f z1) (PstB g A) A) [.ref (ad 0), .int z1].toArray s rm_X10_state.cells rm_X10_state.slots A) (F0 m 137 ls []) := by
          intro H locs ls hP hD hS hl
          refine lv_iconst (v := 0) hx hb dX10_state_137 (by decide) ?_
          exact ret_i (ty := .int) hx hb hr hlocks (rfl) hP hD hS (Nat.le_of_ble_eq_true rfl) (Nat.le_of_ble_eq_true rfl) (⟨rfl, rfl⟩) dX10_state_138
        refine lv_if_eq (tgt := 137) hx hb dX10_state_122 (by decide) (fun c51 => ?_) (fun c51 => ?_)
        ·
          have cc52 : r46.toInt = (0 : Int32).toInt := congrArg Int32.toInt c51
          have hb53 : In r46 0 0 := In.eq1 eL50R (⟨by decide, by decide⟩ : In 0 0 0) cc52 (by omega) (by omega)
          exact hJ137 _ _ _ hP hD hS (lv_sub hl [1, 2, 3, 0] rfl)
        ·
          have cc54 : r46.toInt ≠ (0 : Int32).toInt := i32_ne c51
          have hb55 : In r46 1 1 := In.ne1 eL50R (⟨by decide, by decide⟩ : In 0 0 0) cc54 (by omega) (by omega)
          refine lv_aload_n hx hb dX10_state_125 rfl (lv_at hl 1 rfl) ?_
          refine lv_iload_n hx hb dX10_state_126 rfl (lv_at hl 0 rfl) ?_
          refine call_i (run_V (rm := rm_X10_isSomeStart) hx hb hml hown hts (s_X10_isSomeStart l g ad th _ _ _ y39_s0 hst hT ) cV_X10_isSomeStart wg_993 ⟨Nat.le_of_ble_eq_true rfl, Nat.le_of_ble_eq_true rfl⟩ hG hE hA hP hD hS (hst.1 0 (by decide)) hf2 rfl rfl hl.1 (As := [.int y39_s0]) (rest := []) rfl (Nat.le_of_ble_eq_true rfl) dX10_state_127 ⟨Nat.le_of_ble_eq_true rfl, Nat.le_of_ble_eq_true rfl⟩) hA hD hS (fun r56 L57 f58 H locs hp59 hP hD hS => ?_)
          obtain ⟨eL60L, eL60T, eL60R⟩ := hp59
          have eL60L : L57 = L := eL60L
          have eL60T : f58 = f := eL60T
          rw [eL60L, eL60T] at hP hD
          have eL60R : In r56 0 1 := eL60R
          refine lv_if_eq (tgt := 137) hx hb dX10_state_130 (by decide) (fun c61 => ?_) (fun c61 => ?_)
          ·
            have cc62 : r56.toInt = (0 : Int32).toInt := congrArg Int32.toInt c61
            have hb63 : In r56 0 0 := In.eq1 eL60R (⟨by decide, by decide⟩ : In 0 0 0) cc62 (by omega) (by omega)
            exact hJ137 _ _ _ hP hD hS (lv_sub hl [1, 2, 3, 0] rfl)
          ·
            have cc64 : r56.toInt ≠ (0 : Int32).toInt := i32_ne c61
            have hb65 : In r56 1 1 := In.ne1 eL60R (⟨by decide, by decide⟩ : In 0 0 0) cc64 (by omega) (by omega)
            refine lv_iconst (v := 1) hx hb dX10_state_133 (by decide) ?_
            refine lv_goto (tgt := 138) hx hb dX10_state_134 (by decide) ?_
            exact ret_i (ty := .int) hx hb hr hlocks (rfl) hP hD hS (Nat.le_of_ble_eq_true rfl) (Nat.le_of_ble_eq_true rfl) (⟨rfl, rfl⟩) dX10_state_138
      by_cases c66 : z1 = 3
      ·
        refine lv_tableIn (off := 98) (tgt := 139) hx hb dX10_state_41 (by rw [c66]; decide) (by rw [c66]; decide) (by rw [c66]; decide) (by decide) ?_
        have hb67 : In z1 3 3 := by rw [c66]; exact ⟨by decide, by decide⟩
        refine lv_aload_n hx hb dX10_state_139 rfl (lv_at hl 1 rfl) ?_
        refine pl_get (v := .ref (cr ad 0 0)) hx hb hts (fun w h => mT (inX10 w h)) hown hG.1 hP (hst.1 0 (by decide)) hf2 rfl 8 (by decide) (hts _ (mT wg_483)) (fun _ h => h) rfl dX10_state_140 ?_
        refine lv_aload_n hx hb dX10_state_143 rfl (lv_at hl 1 rfl) ?_
        refine pl_get (v := .ref (ad 6)) hx hb hts (fun w h => mT (inX10 w h)) hown hG.1 hP (hst.1 0 (by decide)) hf2 rfl 2 (by decide) (hts _ (mT wg_477)) (fun _ h => h) rfl dX10_state_144 ?_
        refine lv_aload_n hx hb dX10_state_147 rfl (lv_at hl 1 rfl) ?_
        refine pl_get (v := .ref (cr ad 0 0)) hx hb hts (fun w h => mT (inX10 w h)) hown hG.1 hP (hst.1 0 (by decide)) hf2 rfl 8 (by decide) (hts _ (mT wg_483)) (fun _ h => h) rfl dX10_state_148 ?_
        obtain ⟨v0_68, v1_68, v2_68, v3_68, v4_68, v5_68, v6_68, v7_68, v8_68, hf69, hv1_68, hg1_68, hv2_68, hg2_68, hv6_68⟩ := hT.2.1 0 (by decide) 0 (by decide)
        refine pl_getN (v := .int v0_68) hx hb hts (fun w h => mT (inX3 w h)) hown hG.1 hP (hst.c (by decide) (by decide)) hf69 rfl 0 (by decide) (hG.2.1 _ wn_336) (fun _ h => h) rfl dX10_state_151 ?_
        refine call_i (run_VN (rm := rm_X3_alike_co) hx hb hml hown hts (s_X3_alike_co l g ad th _ _ _ 0 v0_68 hst hT (by decide)) cV_X3_alike wn_985 ⟨Nat.le_of_ble_eq_true rfl, Nat.le_of_ble_eq_true rfl⟩ hG hE hA hP hD hS (hst.c (by decide) (by decide)) hf69 rfl rfl hl.1 (As := [.ref (ad 6), .int v0_68]) (rest := []) rfl (Nat.le_of_ble_eq_true rfl) dX10_state_154 ⟨Nat.le_of_ble_eq_true rfl, Nat.le_of_ble_eq_true rfl⟩) hA hD hS (fun r70 L71 f72 H locs hp73 hP hD hS => ?_)
        obtain ⟨eL74L, eL74T, eL74R⟩ := hp73
        have eL74L : L71 = L := eL74L
        have eL74T : f72 = f := eL74T
        rw [eL74L, eL74T] at hP hD
        have eL74R : In r70 0 1 := eL74R
        refine lv_if_eq (tgt := 164) hx hb dX10_state_157 (by decide) (fun c75 => ?_) (fun c75 => ?_)
        ·
          have cc76 : r70.toInt = (0 : Int32).toInt := congrArg Int32.toInt c75
          have hb77 : In r70 0 0 := In.eq1 eL74R (⟨by decide, by decide⟩ : In 0 0 0) cc76 (by omega) (by omega)
          refine lv_iconst (v := 0) hx hb dX10_state_164 (by decide) ?_
          exact ret_i (ty := .int) hx hb hr hlocks (rfl) hP hD hS (Nat.le_of_ble_eq_true rfl) (Nat.le_of_ble_eq_true rfl) (⟨rfl, rfl⟩) dX10_state_165
        ·
          have cc78 : r70.toInt ≠ (0 : Int32).toInt := i32_ne c75
          have hb79 : In r70 1 1 := In.ne1 eL74R (⟨by decide, by decide⟩ : In 0 0 0) cc78 (by omega) (by omega)
          refine lv_iconst (v := 1) hx hb dX10_state_160 (by decide) ?_
          refine lv_goto (tgt := 165) hx hb dX10_state_161 (by decide) ?_
          exact ret_i (ty := .int) hx hb hr hlocks (rfl) hP hD hS (Nat.le_of_ble_eq_true rfl) (Nat.le_of_ble_eq_true rfl) (⟨rfl, rfl⟩) dX10_state_165
      refine lv_tableOut (tgt := 166) hx hb dX10_state_41 (tb_out (by decide) (by decide) (fun k h1 h2 => ?_)) (by decide) ?_
      · rcases (show k = 0 ∨ k = 1 ∨ k = 2 ∨ k = 3 by omega) with rfl | rfl | rfl | rfl
        · exact fun e => c11 (e.trans (by decide))
        · exact fun e => c25 (e.trans (by decide))
        · exact fun e => c42 (e.trans (by decide))
        · exact fun e => c66 (e.trans (by decide))
      ·
        refine lv_iconst (v := (-1)) hx hb dX10_state_166 (by decide) ?_
        exact ret_i (ty := .int) hx hb hr hlocks (rfl) hP hD hS (Nat.le_of_ble_eq_true rfl) (Nat.le_of_ble_eq_true rfl) (⟨rfl, rfl⟩) dX10_state_167
    refine lv_if_le (tgt := 32) hx hb dX10_state_15 (by decide) (fun c80 => ?_) (fun c80 => ?_)
    ·
      have cc81 : r6.toInt ≤ (0 : Int32).toInt := i32_le.mp c80
      have hb82 : In r6 0 0 := In.le1 eL10R (⟨by decide, by decide⟩ : In 0 0 0) cc81 (by omega) (by omega)
      refine lv_aload_n hx hb dX10_state_32 rfl (lv_at hl 1 rfl) ?_
      refine pl_get (v := .ref (cr ad 0 0)) hx hb hts (fun w h => mT (inX10 w h)) hown hG.1 hP (hst.1 0 (by decide)) hf2 rfl 8 (by decide) (hts _ (mT wg_483)) (fun _ h => h) rfl dX10_state_33 ?_
      obtain ⟨v0_83, v1_83, v2_83, v3_83, v4_83, v5_83, v6_83, v7_83, v8_83, hf84, hv1_83, hg1_83, hv2_83, hg2_83, hv6_83⟩ := hT.2.1 0 (by decide) 0 (by decide)
      refine pl_getN (v := .int v0_83) hx hb hts (fun w h => mT (inX3 w h)) hown hG.1 hP (hst.c (by decide) (by decide)) hf84 rfl 0 (by decide) (hG.2.1 _ wn_336) (fun _ h => h) rfl dX10_state_36 ?_
      exact hJ39 v0_83 _ _ _ (In.full v0_83) hP hD hS (lv_sub hl [1, 2, 0] rfl)
    ·
      have cc85 : (0 : Int32).toInt < r6.toInt := i32_nle c80
      have hb86 : In r6 1 6 := In.gt1 eL10R (⟨by decide, by decide⟩ : In 0 0 0) cc85 (by omega) (by omega)
      refine lv_aload_n hx hb dX10_state_18 rfl (lv_at hl 1 rfl) ?_
      refine pl_get (v := .ref (cr ad 0 0)) hx hb hts (fun w h => mT (inX10 w h)) hown hG.1 hP (hst.1 0 (by decide)) hf2 rfl 8 (by decide) (hts _ (mT wg_483)) (fun _ h => h) rfl dX10_state_19 ?_
      obtain ⟨v0_87, v1_87, v2_87, v3_87, v4_87, v5_87, v6_87, v7_87, v8_87, hf88, hv1_87, hg1_87, hv2_87, hg2_87, hv6_87⟩ := hT.2.1 0 (by decide) 0 (by decide)
      refine pl_getN (v := .ref (cr ad 0 6)) hx hb hts (fun w h => mT (inX3 w h)) hown hG.1 hP (hst.c (by decide) (by decide)) hf88 rfl 14 (by decide) (hG.2.1 _ wn_359) (fun _ h => h) rfl dX10_state_22 ?_
      refine lv_iload_n hx hb dX10_state_25 rfl (lv_at hl 0 rfl) ?_
      refine lv_iconst (v := 1) hx hb dX10_state_26 (by decide) ?_
      refine lv_isub hx hb dX10_state_27 ?_
      refine lv_topi (fun x89 ex89 => ?_)
      have hb90 : In x89 0 5 := ex89 ▸ In.sub hb86 (⟨by decide, by decide⟩ : In 1 1 1) (by decide) (by decide) (by decide) (by decide)
      have et91 : x89.toInt = r6.toInt + (-1) := In.sube ex89 hb86 (k := 1) (by decide) (by decide) (by decide)
      obtain ⟨rw92, hf93⟩ := hT.2.1 0 (by decide) 6 (by decide)
      have hin94 : vp_in x89 6 := In.inb hb90 (by decide) (by decide)
      refine pl_iald hx hb hG.1 hP (hst.c (by decide) (by decide)) 0 hf93 rfl hin94 dX10_state_28 ?_
      refine lv_topi (fun x95 ex95 => ?_)
      refine lv_goto (tgt := 39) hx hb dX10_state_29 (by decide) ?_
      exact hJ39 x95 _ _ _ (In.full x95) hP hD hS (lv_sub hl [1, 2, 0] rfl)
  ·
    have cc96 : v15_1.toInt = (0 : Int32).toInt := congrArg Int32.toInt c3
    have hb97 : In v15_1 0 0 := In.eq1 hv15_1 (⟨by decide, by decide⟩ : In 0 0 0) cc96 (by omega) (by omega)
    refine lv_iconst (v := (-1)) hx hb dX10_state_7 (by decide) ?_
    exact ret_i (ty := .int) hx hb hr hlocks (rfl) hP hD hS (Nat.le_of_ble_eq_true rfl) (Nat.le_of_ble_eq_true rfl) (⟨rfl, rfl⟩) dX10_state_8

abbrev rm_X10_letters : Room := { frames := 3, cells := 0, slots := 0, locals := 61 }
abbrev po_X10_letters (g : GG) (ad : Nat → Nat) (th : Nat → Int) (L : List Nat) (f : HP) (z1 : Int32) : Int32 → (List Nat × HP) → Prop := fun _ u => u.1 = L ∧ u.2 = f
set_option maxHeartbeats 4000000 in
set_option maxRecDepth 100000 in
theorem s_X10_letters (l : Launch) (g : GG) (ad : Nat → Nat) (th : Nat → Int) (L : List Nat) (f : HP) (sz : Nat) (z1 : Int32) (hst : ST ad L) (hT : TI g ad th f)  : MtI l g yX10_letters cX10_letters 3 (some .int) rm_X10_letters [.ref (ad 0), .int z1] L f sz (po_X10_letters g ad th L f z1) := by
  refine MtI.of (by decide +kernel) (Nat.le_of_ble_eq_true rfl) ?_
  intro p e s m below meth c A hEn hP hD hS ls hl
  obtain ⟨hx, hb, hr, hml, hown, hlocks, hts, hG, hA, hE, hnm⟩ := hEn
  have hown : s.vm.findClass "RulerWord" = some m.cls := hown
  have hl : lv_has ls 3 [(0, .ref (ad 0)), (1, .int z1)] := hl
  refine lv_aload_n hx hb dX10_letters_0 rfl (lv_at hl 0 rfl) ?_
  obtain ⟨v15_1, v16_1, v17_1, hf2, hv15_1, hv16_1, hg16_1⟩ := hT.1 0 (by decide)
  refine pl_get (v := .int v15_1) hx hb hts (fun w h => mT (inX10 w h)) hown hG.1 hP (hst.1 0 (by decide)) hf2 rfl 15 (by decide) (hts _ (mT wg_490)) (fun _ h => h) rfl dX10_letters_1 ?_
  refine lv_if_ne (tgt := 9) hx hb dX10_letters_4 (by decide) (fun c3 => ?_) (fun c3 => ?_)
  ·
    have cc4 : v15_1.toInt ≠ (0 : Int32).toInt := i32_ne c3
    have hb5 : In v15_1 1 1 := In.ne1 hv15_1 (⟨by decide, by decide⟩ : In 0 0 0) cc4 (by omega) (by omega)
    refine lv_aload_n hx hb dX10_letters_9 rfl (lv_at hl 0 rfl) ?_
    refine call_i (run_V (rm := rm_X10_phasesOver) hx hb hml hown hts (s_X10_phasesOver l g ad th _ _ _  hst hT ) cV_X10_phasesOver wg_956 ⟨Nat.le_of_ble_eq_true rfl, Nat.le_of_ble_eq_true rfl⟩ hG hE hA hP hD hS (hst.1 0 (by decide)) hf2 rfl rfl hl.1 (As := []) (rest := []) rfl (Nat.le_of_ble_eq_true rfl) dX10_letters_10 ⟨Nat.le_of_ble_eq_true rfl, Nat.le_of_ble_eq_true rfl⟩) hA hD hS (fun r6 L7 f8 H locs hp9 hP hD hS => ?_)
    obtain ⟨eL10L, eL10T, eL10R⟩ := hp9
    have eL10L : L7 = L := eL10L
    have eL10T : f8 = f := eL10T
    rw [eL10L, eL10T] at hP hD
    have eL10R : In r6 0 6 := eL10R
    refine lv_istore_n (lv' := [(2, .int r6), (0, .ref (ad 0)), (1, .int z1)]) hx hb dX10_letters_13 rfl hl (by decide) rfl (fun ls hl => ?_)
    refine lv_iload_n hx hb dX10_letters_14 rfl (lv_at hl 2 rfl) ?_
    by_cases c11 : z1 = 0
    ·
      refine lv_tableIn (off := 29) (tgt := 44) hx hb dX10_letters_15 (by rw [c11]; decide) (by rw [c11]; decide) (by rw [c11]; decide) (by decide) ?_
      have hb12 : In z1 0 0 := by rw [c11]; exact ⟨by decide, by decide⟩
      refine lv_aload_n hx hb dX10_letters_44 rfl (lv_at hl 1 rfl) ?_
      refine pl_get (v := .ref (cr ad 0 0)) hx hb hts (fun w h => mT (inX10 w h)) hown hG.1 hP (hst.1 0 (by decide)) hf2 rfl 8 (by decide) (hts _ (mT wg_483)) (fun _ h => h) rfl dX10_letters_45 ?_
      obtain ⟨v0_13, v1_13, v2_13, v3_13, v4_13, v5_13, v6_13, v7_13, v8_13, hf14, hv1_13, hg1_13, hv2_13, hg2_13, hv6_13⟩ := hT.2.1 0 (by decide) 0 (by decide)
      refine pl_getN (v := .int v4_13) hx hb hts (fun w h => mT (inX3 w h)) hown hG.1 hP (hst.c (by decide) (by decide)) hf14 rfl 4 (by decide) (hG.2.1 _ wn_345) (fun _ h => h) rfl dX10_letters_48 ?_
      exact ret_i (ty := .int) hx hb hr hlocks (rfl) hP hD hS (Nat.le_of_ble_eq_true rfl) (Nat.le_of_ble_eq_true rfl) (⟨rfl, rfl⟩) dX10_letters_51
    by_cases c15 : z1 = 1
    ·
      refine lv_tableIn (off := 37) (tgt := 52) hx hb dX10_letters_15 (by rw [c15]; decide) (by rw [c15]; decide) (by rw [c15]; decide) (by decide) ?_
      have hb16 : In z1 1 1 := by rw [c15]; exact ⟨by decide, by decide⟩
      refine lv_aload_n hx hb dX10_letters_52 rfl (lv_at hl 1 rfl) ?_
      refine pl_get (v := .ref (cr ad 0 0)) hx hb hts (fun w h => mT (inX10 w h)) hown hG.1 hP (hst.1 0 (by decide)) hf2 rfl 8 (by decide) (hts _ (mT wg_483)) (fun _ h => h) rfl dX10_letters_53 ?_
      obtain ⟨v0_17, v1_17, v2_17, v3_17, v4_17, v5_17, v6_17, v7_17, v8_17, hf18, hv1_17, hg1_17, hv2_17, hg2_17, hv6_17⟩ := hT.2.1 0 (by decide) 0 (by decide)
      refine pl_getN (v := .int v5_17) hx hb hts (fun w h => mT (inX3 w h)) hown hG.1 hP (hst.c (by decide) (by decide)) hf18 rfl 5 (by decide) (hG.2.1 _ wn_347) (fun _ h => h) rfl dX10_letters_56 ?_
      exact ret_i (ty := .int) hx hb hr hlocks (rfl) hP hD hS (Nat.le_of_ble_eq_true rfl) (Nat.le_of_ble_eq_true rfl) (⟨rfl, rfl⟩) dX10_letters_59
    by_cases c19 : z1 = 2
    ·
      refine lv_tableIn (off := 45) (tgt := 60) hx hb dX10_letters_15 (by rw [c19]; decide) (by rw [c19]; decide) (by rw [c19]; decide) (by decide) ?_
      have hb20 : In z1 2 2 := by rw [c19]; exact ⟨by decide, by decide⟩
      refine lv_aload_n hx hb dX10_letters_60 rfl (lv_at hl 1 rfl) ?_
      refine pl_get (v := .ref (ad 6)) hx hb hts (fun w h => mT (inX10 w h)) hown hG.1 hP (hst.1 0 (by decide)) hf2 rfl 2 (by decide) (hts _ (mT wg_477)) (fun _ h => h) rfl dX10_letters_61 ?_
      obtain ⟨v0_21, v1_21, v2_21, v3_21, v4_21, v5_21, v6_21, v7_21, hf22, hv0_21, hg0_21, hv1_21, hg1_21, hv2_21, hv3_21, hv5_21, hv6_21, hrel0_21⟩ := hT.1 6 (by decide)
      refine call_i (run_VN (rm := rm_X2_foretold_co) hx hb hml hown hts (s_X2_foretold_co l g ad th _ _ _  hst hT ) cV_X2_foretold wn_1001 ⟨Nat.le_of_ble_eq_true rfl, Nat.le_of_ble_eq_true rfl⟩ hG hE hA hP hD hS (hst.1 6 (by decide)) hf22 rfl rfl hl.1 (As := []) (rest := []) rfl (Nat.le_of_ble_eq_true rfl) dX10_letters_64 ⟨Nat.le_of_ble_eq_true rfl, Nat.le_of_ble_eq_true rfl⟩) hA hD hS (fun r23 L24 f25 H locs hp26 hP hD hS => ?_)
      obtain ⟨eL27L, eL27T⟩ := hp26
      have eL27L : L24 = L := eL27L
      have eL27T : f25 = f := eL27T
      rw [eL27L, eL27T] at hP hD
      exact ret_i (ty := .int) hx hb hr hlocks (rfl) hP hD hS (Nat.le_of_ble_eq_true rfl) (Nat.le_of_ble_eq_true rfl) (⟨rfl, rfl⟩) dX10_letters_67
    by_cases c28 : z1 = 3
    ·
      refine lv_tableIn (off := 53) (tgt := 68) hx hb dX10_letters_15 (by rw [c28]; decide) (by rw [c28]; decide) (by rw [c28]; decide) (by decide) ?_
      have hb29 : In z1 3 3 := by rw [c28]; exact ⟨by decide, by decide⟩
      refine lv_iload_n hx hb dX10_letters_68 rfl (lv_at hl 0 rfl) ?_
      refine lv_if_le (tgt := 86) hx hb dX10_letters_69 (by decide) (fun c30 => ?_) (fun c30 => ?_)
      ·
        have cc31 : r6.toInt ≤ (0 : Int32).toInt := i32_le.mp c30
        have hb32 : In r6 0 0 := In.le1 eL10R (⟨by decide, by decide⟩ : In 0 0 0) cc31 (by omega) (by omega)
        refine lv_iconst (v := 0) hx hb dX10_letters_86 (by decide) ?_
        exact ret_i (ty := .int) hx hb hr hlocks (rfl) hP hD hS (Nat.le_of_ble_eq_true rfl) (Nat.le_of_ble_eq_true rfl) (⟨rfl, rfl⟩) dX10_letters_87
      ·
        have cc33 : (0 : Int32).toInt < r6.toInt := i32_nle c30
        have hb34 : In r6 1 6 := In.gt1 eL10R (⟨by decide, by decide⟩ : In 0 0 0) cc33 (by omega) (by omega)
        refine lv_aload_n hx hb dX10_letters_72 rfl (lv_at hl 1 rfl) ?_
        refine pl_get (v := .ref (cr ad 0 0)) hx hb hts (fun w h => mT (inX10 w h)) hown hG.1 hP (hst.1 0 (by decide)) hf2 rfl 8 (by decide) (hts _ (mT wg_483)) (fun _ h => h) rfl dX10_letters_73 ?_
        obtain ⟨v0_35, v1_35, v2_35, v3_35, v4_35, v5_35, v6_35, v7_35, v8_35, hf36, hv1_35, hg1_35, hv2_35, hg2_35, hv6_35⟩ := hT.2.1 0 (by decide) 0 (by decide)
        refine pl_getN (v := .ref (cr ad 0 9)) hx hb hts (fun w h => mT (inX3 w h)) hown hG.1 hP (hst.c (by decide) (by decide)) hf36 rfl 17 (by decide) (hG.2.1 _ wn_365) (fun _ h => h) rfl dX10_letters_76 ?_
        refine lv_iload_n hx hb dX10_letters_79 rfl (lv_at hl 0 rfl) ?_
        refine lv_iconst (v := 1) hx hb dX10_letters_80 (by decide) ?_
        refine lv_isub hx hb dX10_letters_81 ?_
        refine lv_topi (fun x37 ex37 => ?_)
        have hb38 : In x37 0 5 := ex37 ▸ In.sub hb34 (⟨by decide, by decide⟩ : In 1 1 1) (by decide) (by decide) (by decide) (by decide)
        have et39 : x37.toInt = r6.toInt + (-1) := In.sube ex37 hb34 (k := 1) (by decide) (by decide) (by decide)
        obtain ⟨rw40, hf41⟩ := hT.2.1 0 (by decide) 9 (by decide)
        have hin42 : vp_in x37 6 := In.inb hb38 (by decide) (by decide)
        refine pl_iald hx hb hG.1 hP (hst.c (by decide) (by decide)) 0 hf41 rfl hin42 dX10_letters_82 ?_
        refine lv_topi (fun x43 ex43 => ?_)
        refine lv_goto (tgt := 87) hx hb dX10_letters_83 (by decide) ?_
        exact ret_i (ty := .int) hx hb hr hlocks (rfl) hP hD hS (Nat.le_of_ble_eq_true rfl) (Nat.le_of_ble_eq_true rfl) (⟨rfl, rfl⟩) dX10_letters_87
    refine lv_tableOut (tgt := 88) hx hb dX10_letters_15 (tb_out (by decide) (by decide) (fun k h1 h2 => ?_)) (by decide) ?_
    · rcases (show k = 0 ∨ k = 1 ∨ k = 2 ∨ k = 3 by omega) with rfl | rfl | rfl | rfl
      · exact fun e => c11 (e.trans (by decide))
      · exact fun e => c15 (e.trans (by decide))
      · exact fun e => c19 (e.trans (by decide))
      · exact fun e => c28 (e.trans (by decide))
    ·
      refine lv_iconst (v := (-1)) hx hb dX10_letters_88 (by decide) ?_
      exact ret_i (ty := .int) hx hb hr hlocks (rfl) hP hD hS (Nat.le_of_ble_eq_true rfl) (Nat.le_of_ble_eq_true rfl) (⟨rfl, rfl⟩) dX10_letters_89
  ·
    have cc44 : v15_1.toInt = (0 : Int32).toInt := congrArg Int32.toInt c3
    have hb45 : In v15_1 0 0 := In.eq1 hv15_1 (⟨by decide, by decide⟩ : In 0 0 0) cc44 (by omega) (by omega)
    refine lv_iconst (v := (-1)) hx hb dX10_letters_7 (by decide) ?_
    exact ret_i (ty := .int) hx hb hr hlocks (rfl) hP hD hS (Nat.le_of_ble_eq_true rfl) (Nat.le_of_ble_eq_true rfl) (⟨rfl, rfl⟩) dX10_letters_8

abbrev rm_X10_trueRuler : Room := { frames := 1, cells := 0, slots := 0, locals := 21 }
abbrev po_X10_trueRuler (g : GG) (ad : Nat → Nat) (th : Nat → Int) (L : List Nat) (f : HP)  : Int32 → (List Nat × HP) → Prop := fun _ u => u.1 = L ∧ u.2 = f
set_option maxHeartbeats 4000000 in
set_option maxRecDepth 100000 in
theorem s_X10_trueRuler (l : Launch) (g : GG) (ad : Nat → Nat) (th : Nat → Int) (L : List Nat) (f : HP) (sz : Nat)  (hst : ST ad L) (hT : TI g ad th f)  : MtI l g yX10_trueRuler cX10_trueRuler 2 (some .int) rm_X10_trueRuler [.ref (ad 0)] L f sz (po_X10_trueRuler g ad th L f ) := by
  refine MtI.of (by decide +kernel) (Nat.le_of_ble_eq_true rfl) ?_
  intro p e s m below meth c A hEn hP hD hS ls hl
  obtain ⟨hx, hb, hr, hml, hown, hlocks, hts, hG, hA, hE, hnm⟩ := hEn
  have hown : s.vm.findClass "RulerWord" = some m.cls := hown
  have hl : lv_has ls 2 [(0, .ref (ad 0))] := hl
  refine lv_iconst (v := 0) hx hb dX10_trueRuler_0 (by decide) ?_
  refine lv_istore_n (lv' := [(1, .int 0), (0, .ref (ad 0))]) hx hb dX10_trueRuler_1 rfl hl (by decide) rfl (fun ls hl => ?_)
  have hJ2 : ∀ (k2 : Nat) (y2_l1 : Int32) (H : Heap) (locs : List Loc) (ls : Array Slot), In y2_l1 0 6 → va_P g.1 vwCl (va_pl L f) H → va_D A (va_pl L f) → va_S A s.heap H locs → lv_has ls 2 [(0, .ref (ad 0)), (1, .int y2_l1)] → 6 - y2_l1.toInt < ((k2 : Nat) : Int) → W p l e rm_X10_trueRuler s m [.ref (ad 0)].toArray below meth c H locs 0 0 (MQ below (va_Qi (po_X10_trueRuler g ad th L f ) (PstB g A) A) [.ref (ad 0)].toArray s rm_X10_trueRuler.cells rm_X10_trueRuler.slots A) (F0 m 2 ls []) := by
    intro k2
    induction k2 with
    | zero =>
      intro y2_l1 H locs ls hy2_l1 hP hD hS hl hmz2
      exact ms0 hy2_l1 hmz2
    | succ k2 ih2 =>
      intro y2_l1 H locs ls hy2_l1 hP hD hS hl hmz2
      refine lv_aload_n hx hb dX10_trueRuler_2 rfl (lv_at hl 0 rfl) ?_
      obtain ⟨v15_1, v16_1, v17_1, hf2, hv15_1, hv16_1, hg16_1⟩ := hT.1 0 (by decide)
      refine pl_get (v := .int v15_1) hx hb hts (fun w h => mT (inX10 w h)) hown hG.1 hP (hst.1 0 (by decide)) hf2 rfl 15 (by decide) (hts _ (mT wg_490)) (fun _ h => h) rfl dX10_trueRuler_3 ?_
      refine lv_if_eq (tgt := 49) hx hb dX10_trueRuler_6 (by decide) (fun c3 => ?_) (fun c3 => ?_)
      ·
        have cc4 : v15_1.toInt = (0 : Int32).toInt := congrArg Int32.toInt c3
        have hb5 : In v15_1 0 0 := In.eq1 hv15_1 (⟨by decide, by decide⟩ : In 0 0 0) cc4 (by omega) (by omega)
        refine lv_iconst (v := (-1)) hx hb dX10_trueRuler_49 (by decide) ?_
        exact ret_i (ty := .int) hx hb hr hlocks (rfl) hP hD hS (Nat.le_of_ble_eq_true rfl) (Nat.le_of_ble_eq_true rfl) (⟨rfl, rfl⟩) dX10_trueRuler_50
      ·
        have cc6 : v15_1.toInt ≠ (0 : Int32).toInt := i32_ne c3
        have hb7 : In v15_1 1 1 := In.ne1 hv15_1 (⟨by decide, by decide⟩ : In 0 0 0) cc6 (by omega) (by omega)
        refine lv_iload_n hx hb dX10_trueRuler_9 rfl (lv_at hl 1 rfl) ?_
        refine lv_aload_n hx hb dX10_trueRuler_10 rfl (lv_at hl 0 rfl) ?_
        refine pl_get (v := .ref (ad 6)) hx hb hts (fun w h => mT (inX10 w h)) hown hG.1 hP (hst.1 0 (by decide)) hf2 rfl 2 (by decide) (hts _ (mT wg_477)) (fun _ h => h) rfl dX10_trueRuler_11 ?_
        obtain ⟨v0_8, v1_8, v2_8, v3_8, v4_8, v5_8, v6_8, v7_8, hf9, hv0_8, hg0_8, hv1_8, hg1_8, hv2_8, hv3_8, hv5_8, hv6_8, hrel0_8⟩ := hT.1 6 (by decide)
        refine pl_getN (v := .int v3_8) hx hb hts (fun w h => mT (inX2 w h)) hown hG.1 hP (hst.1 6 (by decide)) hf9 rfl 3 (by decide) (hG.2.1 _ wn_235) (fun _ h => h) rfl dX10_trueRuler_14 ?_
        refine lv_icmp_ge (tgt := 49) hx hb dX10_trueRuler_17 (by decide) (fun c10 => ?_) (fun c10 => ?_)
        ·
          refine lv_iconst (v := (-1)) hx hb dX10_trueRuler_49 (by decide) ?_
          exact ret_i (ty := .int) hx hb hr hlocks (rfl) hP hD hS (Nat.le_of_ble_eq_true rfl) (Nat.le_of_ble_eq_true rfl) (⟨rfl, rfl⟩) dX10_trueRuler_50
        ·
          have cc11 : y2_l1.toInt < v3_8.toInt := i32_nle c10
          have hb12 : In y2_l1 0 5 := In.lt1 hy2_l1 hv3_8 cc11 (by omega) (by omega)
          have hb13 : In v3_8 1 6 := In.lt2 hy2_l1 hv3_8 cc11 (by omega) (by omega)
          refine lv_aload_n hx hb dX10_trueRuler_20 rfl (lv_at hl 0 rfl) ?_
          refine pl_get (v := .ref (cr ad 0 0)) hx hb hts (fun w h => mT (inX10 w h)) hown hG.1 hP (hst.1 0 (by decide)) hf2 rfl 8 (by decide) (hts _ (mT wg_483)) (fun _ h => h) rfl dX10_trueRuler_21 ?_
          obtain ⟨v0_14, v1_14, v2_14, v3_14, v4_14, v5_14, v6_14, v7_14, v8_14, hf15, hv1_14, hg1_14, hv2_14, hg2_14, hv6_14⟩ := hT.2.1 0 (by decide) 0 (by decide)
          refine pl_getN (v := .int v1_14) hx hb hts (fun w h => mT (inX3 w h)) hown hG.1 hP (hst.c (by decide) (by decide)) hf15 rfl 1 (by decide) (hG.2.1 _ wn_339) (fun _ h => h) rfl dX10_trueRuler_24 ?_
          refine lv_aload_n hx hb dX10_trueRuler_27 rfl (lv_at hl 0 rfl) ?_
          refine pl_get (v := .ref (ad 6)) hx hb hts (fun w h => mT (inX10 w h)) hown hG.1 hP (hst.1 0 (by decide)) hf2 rfl 2 (by decide) (hts _ (mT wg_477)) (fun _ h => h) rfl dX10_trueRuler_28 ?_
          refine lv_iload_n hx hb dX10_trueRuler_31 rfl (lv_at hl 1 rfl) ?_
          refine call_i (run_VN (rm := rm_X2_ruler_co) hx hb hml hown hts (s_X2_ruler_co l g ad th _ _ _ y2_l1 hst hT (In.mono hb12 (by decide) (by decide))) cV_X2_ruler wn_938 ⟨Nat.le_of_ble_eq_true rfl, Nat.le_of_ble_eq_true rfl⟩ hG hE hA hP hD hS (hst.1 6 (by decide)) hf9 rfl rfl hl.1 (As := [.int y2_l1]) (rest := [.int v1_14]) rfl (Nat.le_of_ble_eq_true rfl) dX10_trueRuler_32 ⟨Nat.le_of_ble_eq_true rfl, Nat.le_of_ble_eq_true rfl⟩) hA hD hS (fun r16 L17 f18 H locs hp19 hP hD hS => ?_)
          obtain ⟨eL20L, eL20T, eL20R⟩ := hp19
          have eL20L : L17 = L := eL20L
          have eL20T : f18 = f := eL20T
          rw [eL20L, eL20T] at hP hD
          have eL20R : In r16 0 8 := eL20R
          refine call_i (run_S (rm := rm_X10_bit) hx hb hml hown hts (s_X10_bit l g ad th _ _ _ v1_14 r16 hst hT ) cS_X10_bit wg_901 ⟨Nat.le_of_ble_eq_true rfl, Nat.le_of_ble_eq_true rfl⟩ hG hE hA hP hD hS rfl hl.1 (As := [.int v1_14, .int r16]) (rest := []) rfl (Nat.le_of_ble_eq_true rfl) dX10_trueRuler_35 ⟨Nat.le_of_ble_eq_true rfl, Nat.le_of_ble_eq_true rfl⟩) hA hD hS (fun r21 L22 f23 H locs hp24 hP hD hS => ?_)
          obtain ⟨eL25L, eL25T, eL25R, eL25X0⟩ := hp24
          have eL25L : L22 = L := eL25L
          have eL25T : f23 = f := eL25T
          rw [eL25L, eL25T] at hP hD
          have eL25R : In r21 0 1 := eL25R
          refine lv_if_ne (tgt := 43) hx hb dX10_trueRuler_38 (by decide) (fun c26 => ?_) (fun c26 => ?_)
          ·
            have cc27 : r21.toInt ≠ (0 : Int32).toInt := i32_ne c26
            have hb28 : In r21 1 1 := In.ne1 eL25R (⟨by decide, by decide⟩ : In 0 0 0) cc27 (by omega) (by omega)
            obtain ⟨x29, ex29⟩ : ∃ y : Int32, y = y2_l1 + 1 := ⟨_, rfl⟩
            have hb30 : In x29 1 6 := ex29 ▸ In.add hb12 (⟨by decide, by decide⟩ : In 1 1 1) (by decide) (by decide) (by decide) (by decide)
            have et31 : x29.toInt = y2_l1.toInt + 1 := In.adde ex29 hb12 (k := 1) (by decide) (by decide) (by decide)
            refine lv_iinc (v := x29) (lv' := [(1, .int x29), (0, .ref (ad 0))]) hx hb dX10_trueRuler_43 hl (k := 1) rfl (by rw [ex29]; rfl) (by decide) rfl (fun ls hl => ?_)
            refine lv_goto (tgt := 2) hx hb dX10_trueRuler_46 (by decide) ?_
            exact ih2 x29 _ _ _ (In.mono hb30 (by decide) (by decide)) hP hD hS (lv_sub hl [1, 0] rfl) (msu et31 (by decide) hmz2)
          ·
            have cc32 : r21.toInt = (0 : Int32).toInt := congrArg Int32.toInt c26
            have hb33 : In r21 0 0 := In.eq1 eL25R (⟨by decide, by decide⟩ : In 0 0 0) cc32 (by omega) (by omega)
            refine lv_iload_n hx hb dX10_trueRuler_41 rfl (lv_at hl 1 rfl) ?_
            exact ret_i (ty := .int) hx hb hr hlocks (rfl) hP hD hS (Nat.le_of_ble_eq_true rfl) (Nat.le_of_ble_eq_true rfl) (⟨rfl, rfl⟩) dX10_trueRuler_42
  exact hJ2 ((6 - (0 : Int32).toInt).toNat + 1) 0 _ _ _ (⟨by decide, by decide⟩ : In 0 0 6) hP hD hS (lv_sub hl [1, 0] rfl) (msI _)

abbrev rm_X10_greatest : Room := { frames := 1, cells := 0, slots := 0, locals := 21 }
abbrev po_X10_greatest (g : GG) (ad : Nat → Nat) (th : Nat → Int) (L : List Nat) (f : HP) (z1 : Int32) (z2 : Int32) : Int32 → (List Nat × HP) → Prop := fun r u => u.1 = L ∧ u.2 = f ∧ r = GB z1 z2
set_option maxHeartbeats 4000000 in
set_option maxRecDepth 100000 in
theorem s_X10_greatest (l : Launch) (g : GG) (ad : Nat → Nat) (th : Nat → Int) (L : List Nat) (f : HP) (sz : Nat) (z1 : Int32) (z2 : Int32) (hst : ST ad L) (hT : TI g ad th f)  : MtI l g yX10_greatest cX10_greatest 3 (some .int) rm_X10_greatest [.ref (ad 0), .int z1, .int z2] L f sz (po_X10_greatest g ad th L f z1 z2) := by
  refine MtI.of (by decide +kernel) (Nat.le_of_ble_eq_true rfl) ?_
  intro p e s m below meth c A hEn hP hD hS ls hl
  obtain ⟨hx, hb, hr, hml, hown, hlocks, hts, hG, hA, hE, hnm⟩ := hEn
  have hown : s.vm.findClass "RulerWord" = some m.cls := hown
  have hl : lv_has ls 3 [(0, .ref (ad 0)), (1, .int z1), (2, .int z2)] := hl
  refine lv_iload_n hx hb dX10_greatest_0 rfl (lv_at hl 1 rfl) ?_
  refine lv_if_lt (tgt := 20) hx hb dX10_greatest_1 (by decide) (fun c1 => ?_) (fun c1 => ?_)
  ·
    have oc0 : (0 : Int32).toInt = 0 := by decide
    have cc2 : z1.toInt < (0 : Int32).toInt := i32_lt.mp c1
    have hb3 : In z1 (-2147483648) (-1) := In.lt1 (In.full z1) (⟨by decide, by decide⟩ : In 0 0 0) cc2 (by omega) (by omega)
    refine lv_iconst (v := (-1)) hx hb dX10_greatest_20 (by decide) ?_
    exact ret_i (ty := .int) hx hb hr hlocks (rfl) hP hD hS (Nat.le_of_ble_eq_true rfl) (Nat.le_of_ble_eq_true rfl) (⟨rfl, rfl, (by unfold GB; rw [if_neg (by obtain ⟨o0a, o0b⟩ := (hb3 : In _ _ _); omega)])⟩) dX10_greatest_21
  ·
    have oc0 : (0 : Int32).toInt = 0 := by decide
    have cc4 : (0 : Int32).toInt ≤ z1.toInt := i32_nlt c1
    have hb5 : In z1 0 2147483647 := In.ge1 (In.full z1) (⟨by decide, by decide⟩ : In 0 0 0) cc4 (by omega) (by omega)
    refine lv_iload_n hx hb dX10_greatest_4 rfl (lv_at hl 1 rfl) ?_
    refine lv_iconst (v := 1) hx hb dX10_greatest_5 (by decide) ?_
    refine lv_icmp_gt (tgt := 20) hx hb dX10_greatest_6 (by decide) (fun c6 => ?_) (fun c6 => ?_)
    ·
      have oc1 : (1 : Int32).toInt = 1 := by decide
      have cc7 : (1 : Int32).toInt < z1.toInt := i32_lt.mp c6
      have hb8 : In z1 2 2147483647 := In.gt1 hb5 (⟨by decide, by decide⟩ : In 1 1 1) cc7 (by omega) (by omega)
      refine lv_iconst (v := (-1)) hx hb dX10_greatest_20 (by decide) ?_
      exact ret_i (ty := .int) hx hb hr hlocks (rfl) hP hD hS (Nat.le_of_ble_eq_true rfl) (Nat.le_of_ble_eq_true rfl) (⟨rfl, rfl, (by unfold GB; rw [if_neg (by obtain ⟨o0a, o0b⟩ := (hb8 : In _ _ _); omega)])⟩) dX10_greatest_21
    ·
      have oc1 : (1 : Int32).toInt = 1 := by decide
      have cc9 : z1.toInt ≤ (1 : Int32).toInt := i32_nlt c6
      have hb10 : In z1 0 1 := In.le1 hb5 (⟨by decide, by decide⟩ : In 1 1 1) cc9 (by omega) (by omega)
      refine lv_iload_n hx hb dX10_greatest_9 rfl (lv_at hl 2 rfl) ?_
      refine lv_iconst (v := 1) hx hb dX10_greatest_10 (by decide) ?_
      refine lv_icmp_lt (tgt := 20) hx hb dX10_greatest_11 (by decide) (fun c11 => ?_) (fun c11 => ?_)
      ·
        have oc1 : (1 : Int32).toInt = 1 := by decide
        have cc12 : z2.toInt < (1 : Int32).toInt := i32_lt.mp c11
        have hb13 : In z2 (-2147483648) 0 := In.lt1 (In.full z2) (⟨by decide, by decide⟩ : In 1 1 1) cc12 (by omega) (by omega)
        refine lv_iconst (v := (-1)) hx hb dX10_greatest_20 (by decide) ?_
        exact ret_i (ty := .int) hx hb hr hlocks (rfl) hP hD hS (Nat.le_of_ble_eq_true rfl) (Nat.le_of_ble_eq_true rfl) (⟨rfl, rfl, (by unfold GB; rw [if_neg (by obtain ⟨o0a, o0b⟩ := (hb10 : In _ _ _); obtain ⟨o1a, o1b⟩ := (hb13 : In _ _ _); omega)])⟩) dX10_greatest_21
      ·
        have oc1 : (1 : Int32).toInt = 1 := by decide
        have cc14 : (1 : Int32).toInt ≤ z2.toInt := i32_nlt c11
        have hb15 : In z2 1 2147483647 := In.ge1 (In.full z2) (⟨by decide, by decide⟩ : In 1 1 1) cc14 (by omega) (by omega)
        refine lv_iload_n hx hb dX10_greatest_14 rfl (lv_at hl 2 rfl) ?_
        refine lv_bipush (v := 100) hx hb dX10_greatest_15 (by decide) ?_
        refine lv_icmp_le (tgt := 22) hx hb dX10_greatest_17 (by decide) (fun c16 => ?_) (fun c16 => ?_)
        ·
          have oc100 : (100 : Int32).toInt = 100 := by decide
          have cc17 : z2.toInt ≤ (100 : Int32).toInt := i32_le.mp c16
          have hb18 : In z2 1 100 := In.le1 hb15 (⟨by decide, by decide⟩ : In 100 100 100) cc17 (by omega) (by omega)
          refine lv_iload_n hx hb dX10_greatest_22 rfl (lv_at hl 1 rfl) ?_
          refine lv_iload_n hx hb dX10_greatest_23 rfl (lv_at hl 2 rfl) ?_
          refine call_i (run_S (rm := rm_X10_greatestBound) hx hb hml hown hts (s_X10_greatestBound l g ad th _ _ _ z1 z2 hst hT hb18) cS_X10_greatestBound wg_1013 ⟨Nat.le_of_ble_eq_true rfl, Nat.le_of_ble_eq_true rfl⟩ hG hE hA hP hD hS rfl hl.1 (As := [.int z1, .int z2]) (rest := []) rfl (Nat.le_of_ble_eq_true rfl) dX10_greatest_24 ⟨Nat.le_of_ble_eq_true rfl, Nat.le_of_ble_eq_true rfl⟩) hA hD hS (fun r19 L20 f21 H locs hp22 hP hD hS => ?_)
          obtain ⟨eL23L, eL23T, eL23R, eL23X0⟩ := hp22
          have eL23L : L20 = L := eL23L
          have eL23T : f21 = f := eL23T
          rw [eL23L, eL23T] at hP hD
          have eL23R : In r19 0 33 := eL23R
          exact ret_i (ty := .int) hx hb hr hlocks (rfl) hP hD hS (Nat.le_of_ble_eq_true rfl) (Nat.le_of_ble_eq_true rfl) (⟨rfl, rfl, (by unfold GB; rw [if_pos (by obtain ⟨o0a, o0b⟩ := (hb10 : In _ _ _); obtain ⟨o1a, o1b⟩ := (hb18 : In _ _ _); omega)]; exact eL23X0)⟩) dX10_greatest_27
        ·
          have oc100 : (100 : Int32).toInt = 100 := by decide
          have cc24 : (100 : Int32).toInt < z2.toInt := i32_nle c16
          have hb25 : In z2 101 2147483647 := In.gt1 hb15 (⟨by decide, by decide⟩ : In 100 100 100) cc24 (by omega) (by omega)
          refine lv_iconst (v := (-1)) hx hb dX10_greatest_20 (by decide) ?_
          exact ret_i (ty := .int) hx hb hr hlocks (rfl) hP hD hS (Nat.le_of_ble_eq_true rfl) (Nat.le_of_ble_eq_true rfl) (⟨rfl, rfl, (by unfold GB; rw [if_neg (by obtain ⟨o0a, o0b⟩ := (hb10 : In _ _ _); obtain ⟨o1a, o1b⟩ := (hb25 : In _ _ _); omega)])⟩) dX10_greatest_21

abbrev rm_X10_free : Room := { frames := 3, cells := 0, slots := 0, locals := 68 }
abbrev po_X10_free (g : GG) (ad : Nat → Nat) (th : Nat → Int) (L : List Nat) (f : HP)  : Int32 → (List Nat × HP) → Prop := fun _ u => u.1 = L ∧ u.2 = f
set_option maxHeartbeats 4000000 in
set_option maxRecDepth 100000 in
theorem s_X10_free (l : Launch) (g : GG) (ad : Nat → Nat) (th : Nat → Int) (L : List Nat) (f : HP) (sz : Nat)  (hst : ST ad L) (hT : TI g ad th f)  : MtI l g yX10_free cX10_free 1 (some .int) rm_X10_free [.ref (ad 0)] L f sz (po_X10_free g ad th L f ) := by
  refine MtI.of (by decide +kernel) (Nat.le_of_ble_eq_true rfl) ?_
  intro p e s m below meth c A hEn hP hD hS ls hl
  obtain ⟨hx, hb, hr, hml, hown, hlocks, hts, hG, hA, hE, hnm⟩ := hEn
  have hown : s.vm.findClass "RulerWord" = some m.cls := hown
  have hl : lv_has ls 1 [(0, .ref (ad 0))] := hl
  refine lv_aload_n hx hb dX10_free_0 rfl (lv_at hl 0 rfl) ?_
  obtain ⟨v15_1, v16_1, v17_1, hf2, hv15_1, hv16_1, hg16_1⟩ := hT.1 0 (by decide)
  refine pl_get (v := .int v15_1) hx hb hts (fun w h => mT (inX10 w h)) hown hG.1 hP (hst.1 0 (by decide)) hf2 rfl 15 (by decide) (hts _ (mT wg_490)) (fun _ h => h) rfl dX10_free_1 ?_
  refine lv_if_eq (tgt := 21) hx hb dX10_free_4 (by decide) (fun c3 => ?_) (fun c3 => ?_)
  ·
    have cc4 : v15_1.toInt = (0 : Int32).toInt := congrArg Int32.toInt c3
    have hb5 : In v15_1 0 0 := In.eq1 hv15_1 (⟨by decide, by decide⟩ : In 0 0 0) cc4 (by omega) (by omega)
    refine lv_iconst (v := (-1)) hx hb dX10_free_21 (by decide) ?_
    exact ret_i (ty := .int) hx hb hr hlocks (rfl) hP hD hS (Nat.le_of_ble_eq_true rfl) (Nat.le_of_ble_eq_true rfl) (⟨rfl, rfl⟩) dX10_free_22
  ·
    have cc6 : v15_1.toInt ≠ (0 : Int32).toInt := i32_ne c3
    have hb7 : In v15_1 1 1 := In.ne1 hv15_1 (⟨by decide, by decide⟩ : In 0 0 0) cc6 (by omega) (by omega)
    refine lv_aload_n hx hb dX10_free_7 rfl (lv_at hl 0 rfl) ?_
    refine lv_aload_n hx hb dX10_free_8 rfl (lv_at hl 0 rfl) ?_
    refine pl_get (v := .ref (cr ad 0 0)) hx hb hts (fun w h => mT (inX10 w h)) hown hG.1 hP (hst.1 0 (by decide)) hf2 rfl 8 (by decide) (hts _ (mT wg_483)) (fun _ h => h) rfl dX10_free_9 ?_
    obtain ⟨v0_8, v1_8, v2_8, v3_8, v4_8, v5_8, v6_8, v7_8, v8_8, hf9, hv1_8, hg1_8, hv2_8, hg2_8, hv6_8⟩ := hT.2.1 0 (by decide) 0 (by decide)
    refine pl_getN (v := .int v1_8) hx hb hts (fun w h => mT (inX3 w h)) hown hG.1 hP (hst.c (by decide) (by decide)) hf9 rfl 1 (by decide) (hG.2.1 _ wn_339) (fun _ h => h) rfl dX10_free_12 ?_
    refine call_i (run_V (rm := rm_X10_freeWith) hx hb hml hown hts (s_X10_freeWith l g ad th _ _ _ v1_8 hst hT ) cV_X10_freeWith wg_1018 ⟨Nat.le_of_ble_eq_true rfl, Nat.le_of_ble_eq_true rfl⟩ hG hE hA hP hD hS (hst.1 0 (by decide)) hf2 rfl rfl hl.1 (As := [.int v1_8]) (rest := []) rfl (Nat.le_of_ble_eq_true rfl) dX10_free_15 ⟨Nat.le_of_ble_eq_true rfl, Nat.le_of_ble_eq_true rfl⟩) hA hD hS (fun r10 L11 f12 H locs hp13 hP hD hS => ?_)
    obtain ⟨eL14L, eL14T⟩ := hp13
    have eL14L : L11 = L := eL14L
    have eL14T : f12 = f := eL14T
    rw [eL14L, eL14T] at hP hD
    refine lv_goto (tgt := 22) hx hb dX10_free_18 (by decide) ?_
    exact ret_i (ty := .int) hx hb hr hlocks (rfl) hP hD hS (Nat.le_of_ble_eq_true rfl) (Nat.le_of_ble_eq_true rfl) (⟨rfl, rfl⟩) dX10_free_22

abbrev rm_X10_countBrokenStarts : Room := { frames := 27, cells := 0, slots := 0, locals := 916 }
abbrev po_X10_countBrokenStarts (g : GG) (ad : Nat → Nat) (th : Nat → Int) (L : List Nat) (f : HP) (z1 : Int32) : Int32 → (List Nat × HP) → Prop := fun r u => u.1 = L ∧ TI g ad th u.2 ∧ (∀ b, b ≠ (ad 18) → b ≠ (ad 19) → b ≠ (ad 20) → b ≠ (ad 21) → b ≠ (ad 22) → b ≠ (ad 23) → b ≠ (ad 8) → u.2 b = f b)
set_option maxHeartbeats 4000000 in
set_option maxRecDepth 100000 in
theorem s_X10_countBrokenStarts (l : Launch) (g : GG) (ad : Nat → Nat) (th : Nat → Int) (L : List Nat) (f : HP) (sz : Nat) (z1 : Int32) (hst : ST ad L) (hT : TI g ad th f) (hz1 : In z1 0 510) : MtI l g yX10_countBrokenStarts cX10_countBrokenStarts 4 (some .int) rm_X10_countBrokenStarts [.ref (ad 0), .int z1] L f sz (po_X10_countBrokenStarts g ad th L f z1) := by
  refine MtI.of (by decide +kernel) (Nat.le_of_ble_eq_true rfl) ?_
  intro p e s m below meth c A hEn hP hD hS ls hl
  obtain ⟨hx, hb, hr, hml, hown, hlocks, hts, hG, hA, hE, hnm⟩ := hEn
  have hown : s.vm.findClass "RulerWord" = some m.cls := hown
  have hl : lv_has ls 4 [(0, .ref (ad 0)), (1, .int z1)] := hl
  have hfr : (∀ b, b ≠ (ad 18) → b ≠ (ad 19) → b ≠ (ad 20) → b ≠ (ad 21) → b ≠ (ad 22) → b ≠ (ad 23) → b ≠ (ad 8) → f b = f b) := fun b z0_ z1_ z2_ z3_ z4_ z5_ z6_ => rfl
  refine lv_iconst (v := 0) hx hb dX10_countBrokenStarts_0 (by decide) ?_
  refine lv_istore_n (lv' := [(2, .int 0), (0, .ref (ad 0)), (1, .int z1)]) hx hb dX10_countBrokenStarts_1 rfl hl (by decide) rfl (fun ls hl => ?_)
  refine lv_aload_n hx hb dX10_countBrokenStarts_2 rfl (lv_at hl 1 rfl) ?_
  obtain ⟨v15_1, v16_1, v17_1, hf2, hv15_1, hv16_1, hg16_1⟩ := hT.1 0 (by decide)
  refine pl_get (v := .ref (ad 18)) hx hb hts (fun w h => mT (inX10 w h)) hown hG.1 hP (hst.1 0 (by decide)) hf2 rfl 12 (by decide) (hts _ (mT wg_487)) (fun _ h => h) rfl dX10_countBrokenStarts_3 ?_
  refine lv_aload_n hx hb dX10_countBrokenStarts_6 rfl (lv_at hl 1 rfl) ?_
  refine pl_get (v := .ref (ad 6)) hx hb hts (fun w h => mT (inX10 w h)) hown hG.1 hP (hst.1 0 (by decide)) hf2 rfl 2 (by decide) (hts _ (mT wg_477)) (fun _ h => h) rfl dX10_countBrokenStarts_7 ?_
  refine lv_iload_n hx hb dX10_countBrokenStarts_10 rfl (lv_at hl 2 rfl) ?_
  refine lv_aload_n hx hb dX10_countBrokenStarts_11 rfl (lv_at hl 1 rfl) ?_
  refine pl_get (v := .ref (ad 6)) hx hb hts (fun w h => mT (inX10 w h)) hown hG.1 hP (hst.1 0 (by decide)) hf2 rfl 2 (by decide) (hts _ (mT wg_477)) (fun _ h => h) rfl dX10_countBrokenStarts_12 ?_
  obtain ⟨v0_3, v1_3, v2_3, v3_3, v4_3, v5_3, v6_3, v7_3, hf4, hv0_3, hg0_3, hv1_3, hg1_3, hv2_3, hv3_3, hv5_3, hv6_3, hrel0_3⟩ := hT.1 6 (by decide)
  refine pl_getN (v := .int v3_3) hx hb hts (fun w h => mT (inX2 w h)) hown hG.1 hP (hst.1 6 (by decide)) hf4 rfl 3 (by decide) (hG.2.1 _ wn_235) (fun _ h => h) rfl dX10_countBrokenStarts_15 ?_
  obtain ⟨v6_5, v7_5, v8_5, v9_5, v10_5, v11_5, v12_5, v13_5, hf6, hv8_5, hv9_5, hv10_5, hv11_5, hv13_5⟩ := hT.1 18 (by decide)
  refine call_v (run_VN (rm := rm_X7_prepare) hx hb hml hown hts (s_X7_prepare l g ad th _ _ _ z1 v3_3 hst hT hz1) cV_X7_prepare wn_1036 ⟨Nat.le_of_ble_eq_true rfl, Nat.le_of_ble_eq_true rfl⟩ hG hE hA hP hD hS (hst.1 18 (by decide)) hf6 rfl rfl hl.1 (As := [.ref (ad 6), .int z1, .int v3_3]) (rest := []) rfl (Nat.le_of_ble_eq_true rfl) dX10_countBrokenStarts_18 ⟨Nat.le_of_ble_eq_true rfl, Nat.le_of_ble_eq_true rfl⟩) hA hD hS (fun L8 f9 H locs hp10 hP hD hS => ?_)
  obtain ⟨eL11L, eL11T, eL11F⟩ := hp10
  have eL11L : L8 = L := eL11L
  rw [eL11L] at hP hD
  have hT : TI g ad th f9 := eL11T
  have eL11F : ∀ b, b ≠ (ad 18) → b ≠ (ad 19) → b ≠ (ad 20) → b ≠ (ad 23) → b ≠ (ad 8) → f9 b = f b := eL11F
  have hf12 := (eL11F (ad 0) (hst.ne (by decide) (by decide) (by decide)) (hst.ne (by decide) (by decide) (by decide)) (hst.ne (by decide) (by decide) (by decide)) (hst.ne (by decide) (by decide) (by decide)) (hst.ne (by decide) (by decide) (by decide))).trans hf2
  have hf13 := (eL11F (ad 6) (hst.ne (by decide) (by decide) (by decide)) (hst.ne (by decide) (by decide) (by decide)) (hst.ne (by decide) (by decide) (by decide)) (hst.ne (by decide) (by decide) (by decide)) (hst.ne (by decide) (by decide) (by decide))).trans hf4
  have hfr : (∀ b, b ≠ (ad 18) → b ≠ (ad 19) → b ≠ (ad 20) → b ≠ (ad 21) → b ≠ (ad 22) → b ≠ (ad 23) → b ≠ (ad 8) → f9 b = f b) := fun b z0_ z1_ z2_ z3_ z4_ z5_ z6_ => (eL11F b z0_ z1_ z2_ z5_ z6_).trans (hfr b z0_ z1_ z2_ z3_ z4_ z5_ z6_)
  refine lv_iconst (v := 0) hx hb dX10_countBrokenStarts_21 (by decide) ?_
  refine lv_istore_n (lv' := [(3, .int 0), (2, .int 0), (0, .ref (ad 0)), (1, .int z1)]) hx hb dX10_countBrokenStarts_22 rfl hl (by decide) rfl (fun ls hl => ?_)
  have hJ23 : ∀ (k23 : Nat) (y23_l2 : Int32) (y23_l3 : Int32) (f_23 : HP) (H : Heap) (locs : List Loc) (ls : Array Slot), In y23_l2 (-2147483648) 2147483647 → In y23_l3 0 2147483647 → va_P g.1 vwCl (va_pl L f_23) H → va_D A (va_pl L f_23) → va_S A s.heap H locs → TI g ad th f_23 → (∀ b, b ≠ (ad 18) → b ≠ (ad 19) → b ≠ (ad 20) → b ≠ (ad 21) → b ≠ (ad 22) → b ≠ (ad 23) → b ≠ (ad 8) → f_23 b = f b) → f_23 (ad 0) = .inr (9, [.ref (ad 1), .ref (ad 5), .ref (ad 6), .ref (ad 7), .ref (ad 9), .ref (ad 13), .ref (ad 14), .ref (ad 15), .ref (cr ad 0 0), .ref (cr ad 1 0), .ref (cr ad 2 0), .ref (ad 16), .ref (ad 18), .ref (ad 3), .ref (ad 24), .int v15_1, .int v16_1, .long v17_1]) → f_23 (ad 6) = .inr (2, [.int v0_3, .int v1_3, .int v2_3, .int v3_3, .int v4_3, .int v5_3, .int v6_3, .int v7_3]) → lv_has ls 4 [(0, .ref (ad 0)), (1, .int z1), (2, .int y23_l2), (3, .int y23_l3)] → 2147483647 - y23_l3.toInt < ((k23 : Nat) : Int) → W p l e rm_X10_countBrokenStarts s m [.ref (ad 0), .int z1].toArray below meth c H locs 0 0 (MQ below (va_Qi (po_X10_countBrokenStarts g ad th L f z1) (PstB g A) A) [.ref (ad 0), .int z1].toArray s rm_X10_countBrokenStarts.cells rm_X10_countBrokenStarts.slots A) (F0 m 23 ls []) := by
    intro k23
    induction k23 with
    | zero =>
      intro y23_l2 y23_l3 f_23 H locs ls hy23_l2 hy23_l3 hP hD hS hT hfr hf14 hf15 hl hmz23
      exact ms0 hy23_l3 hmz23
    | succ k23 ih23 =>
      intro y23_l2 y23_l3 f_23 H locs ls hy23_l2 hy23_l3 hP hD hS hT hfr hf14 hf15 hl hmz23
      refine lv_iload_n hx hb dX10_countBrokenStarts_23 rfl (lv_at hl 3 rfl) ?_
      refine lv_aload_n hx hb dX10_countBrokenStarts_24 rfl (lv_at hl 0 rfl) ?_
      refine pl_get (v := .ref (ad 6)) hx hb hts (fun w h => mT (inX10 w h)) hown hG.1 hP (hst.1 0 (by decide)) hf14 rfl 2 (by decide) (hts _ (mT wg_477)) (fun _ h => h) rfl dX10_countBrokenStarts_25 ?_
      refine call_i (run_VN (rm := rm_X2_everybody_co) hx hb hml hown hts (s_X2_everybody_co l g ad th _ _ _  hst hT ) cV_X2_everybody wn_918 ⟨Nat.le_of_ble_eq_true rfl, Nat.le_of_ble_eq_true rfl⟩ hG hE hA hP hD hS (hst.1 6 (by decide)) hf15 rfl rfl hl.1 (As := []) (rest := [.int y23_l3]) rfl (Nat.le_of_ble_eq_true rfl) dX10_countBrokenStarts_28 ⟨Nat.le_of_ble_eq_true rfl, Nat.le_of_ble_eq_true rfl⟩) hA hD hS (fun r16 L17 f18 H locs hp19 hP hD hS => ?_)
      obtain ⟨eL20L, eL20T, eL20R, eL20X0⟩ := hp19
      have eL20L : L17 = L := eL20L
      have eL20T : f18 = f_23 := eL20T
      rw [eL20L, eL20T] at hP hD
      have eL20R : In r16 0 511 := eL20R
      have hev21 : r16.toInt = 2 ^ (th 3).toNat - 1 := eL20X0
      refine lv_icmp_gt (tgt := 59) hx hb dX10_countBrokenStarts_31 (by decide) (fun c22 => ?_) (fun c22 => ?_)
      ·
        have cc23 : r16.toInt < y23_l3.toInt := i32_lt.mp c22
        have hb24 : In y23_l3 1 2147483647 := In.gt1 hy23_l3 eL20R cc23 (by omega) (by omega)
        refine lv_iload_n hx hb dX10_countBrokenStarts_59 rfl (lv_at hl 2 rfl) ?_
        exact ret_i (ty := .int) hx hb hr hlocks (rfl) hP hD hS (Nat.le_of_ble_eq_true rfl) (Nat.le_of_ble_eq_true rfl) (⟨rfl, hT, hfr⟩) dX10_countBrokenStarts_60
      ·
        have cc25 : y23_l3.toInt ≤ r16.toInt := i32_nlt c22
        have hb26 : In y23_l3 0 511 := In.le1 hy23_l3 eL20R cc25 (by omega) (by omega)
        refine lv_iload_n hx hb dX10_countBrokenStarts_34 rfl (lv_at hl 2 rfl) ?_
        refine lv_aload_n hx hb dX10_countBrokenStarts_35 rfl (lv_at hl 0 rfl) ?_
        refine pl_get (v := .ref (ad 18)) hx hb hts (fun w h => mT (inX10 w h)) hown hG.1 hP (hst.1 0 (by decide)) hf14 rfl 12 (by decide) (hts _ (mT wg_487)) (fun _ h => h) rfl dX10_countBrokenStarts_36 ?_
        refine lv_iload_n hx hb dX10_countBrokenStarts_39 rfl (lv_at hl 3 rfl) ?_
        obtain ⟨v6_27, v7_27, v8_27, v9_27, v10_27, v11_27, v12_27, v13_27, hf28, hv8_27, hv9_27, hv10_27, hv11_27, hv13_27⟩ := hT.1 18 (by decide)
        refine call_i (run_VN (rm := rm_X7_isBroken) hx hb hml hown hts (s_X7_isBroken l g ad th _ _ _ y23_l3 hst hT ) cV_X7_isBroken wn_1110 ⟨Nat.le_of_ble_eq_true rfl, Nat.le_of_ble_eq_true rfl⟩ hG hE hA hP hD hS (hst.1 18 (by decide)) hf28 rfl rfl hl.1 (As := [.int y23_l3]) (rest := [.int y23_l2]) rfl (Nat.le_of_ble_eq_true rfl) dX10_countBrokenStarts_40 ⟨Nat.le_of_ble_eq_true rfl, Nat.le_of_ble_eq_true rfl⟩) hA hD hS (fun r29 L30 f31 H locs hp32 hP hD hS => ?_)
        obtain ⟨eL33L, eL33T, eL33F, eL33R⟩ := hp32
        have eL33L : L30 = L := eL33L
        rw [eL33L] at hP hD
        have hT : TI g ad th f31 := eL33T
        have eL33F : ∀ b, b ≠ (ad 18) → b ≠ (ad 21) → b ≠ (ad 22) → b ≠ (ad 23) → f31 b = f_23 b := eL33F
        have hf34 := (eL33F (ad 0) (hst.ne (by decide) (by decide) (by decide)) (hst.ne (by decide) (by decide) (by decide)) (hst.ne (by decide) (by decide) (by decide)) (hst.ne (by decide) (by decide) (by decide))).trans hf14
        have hf35 := (eL33F (ad 6) (hst.ne (by decide) (by decide) (by decide)) (hst.ne (by decide) (by decide) (by decide)) (hst.ne (by decide) (by decide) (by decide)) (hst.ne (by decide) (by decide) (by decide))).trans hf15
        have hfr : (∀ b, b ≠ (ad 18) → b ≠ (ad 19) → b ≠ (ad 20) → b ≠ (ad 21) → b ≠ (ad 22) → b ≠ (ad 23) → b ≠ (ad 8) → f31 b = f b) := fun b z0_ z1_ z2_ z3_ z4_ z5_ z6_ => (eL33F b z0_ z3_ z4_ z5_).trans (hfr b z0_ z1_ z2_ z3_ z4_ z5_ z6_)
        have eL33R : In r29 0 1 := eL33R
        have hJ51 : ∀ (y51_s0 : Int32) (H : Heap) (locs : List Loc) (ls : Array Slot), In y51_s0 0 1 → va_P g.1 vwCl (va_pl L f31) H → va_D A (va_pl L f31) → va_S A s.heap H locs → lv_has ls 4 [(0, .ref (ad 0)), (1, .int z1), (2, .int y23_l2), (3, .int y23_l3)] → W p l e rm_X10_countBrokenStarts s m [.ref (ad 0), .int z1].toArray below meth c H locs 0 0 (MQ below (va_Qi (po_X10_countBrokenStarts g ad th L f z1) (PstB g A) A) [.ref (ad 0), .int z1].toArray s rm_X10_countBrokenStarts.cells rm_X10_countBrokenStarts.slots A) (F0 m 51 ls [.int y51_s0, .int y23_l2]) := by
          intro y51_s0 H locs ls hy51_s0 hP hD hS hl
          refine lv_iadd hx hb dX10_countBrokenStarts_51 ?_
          refine lv_topi (fun x36 ex36 => ?_)
          refine lv_istore_n (lv' := [(2, .int x36), (0, .ref (ad 0)), (1, .int z1), (3, .int y23_l3)]) hx hb dX10_countBrokenStarts_52 rfl hl (by decide) rfl (fun ls hl => ?_)
          obtain ⟨x37, ex37⟩ : ∃ y : Int32, y = y23_l3 + 1 := ⟨_, rfl⟩
          have hb38 : In x37 1 512 := ex37 ▸ In.add hb26 (⟨by decide, by decide⟩ : In 1 1 1) (by decide) (by decide) (by decide) (by decide)
          have et39 : x37.toInt = y23_l3.toInt + 1 := In.adde ex37 hb26 (k := 1) (by decide) (by decide) (by decide)
          refine lv_iinc (v := x37) (lv' := [(3, .int x37), (2, .int x36), (0, .ref (ad 0)), (1, .int z1)]) hx hb dX10_countBrokenStarts_53 hl (k := 3) rfl (by rw [ex37]; rfl) (by decide) rfl (fun ls hl => ?_)
          refine lv_goto (tgt := 23) hx hb dX10_countBrokenStarts_56 (by decide) ?_
          exact ih23 x36 x37 _ _ _ _ (In.full x36) (In.mono hb38 (by decide) (by decide)) hP hD hS hT hfr hf34 hf35 (lv_sub hl [2, 3, 1, 0] rfl) (msu et39 (by decide) hmz23)
        refine lv_if_eq (tgt := 50) hx hb dX10_countBrokenStarts_43 (by decide) (fun c40 => ?_) (fun c40 => ?_)
        ·
          have cc41 : r29.toInt = (0 : Int32).toInt := congrArg Int32.toInt c40
          have hb42 : In r29 0 0 := In.eq1 eL33R (⟨by decide, by decide⟩ : In 0 0 0) cc41 (by omega) (by omega)
          refine lv_iconst (v := 0) hx hb dX10_countBrokenStarts_50 (by decide) ?_
          exact hJ51 0 _ _ _ (⟨by decide, by decide⟩ : In 0 0 1) hP hD hS (lv_sub hl [0, 1, 2, 3] rfl)
        ·
          have cc43 : r29.toInt ≠ (0 : Int32).toInt := i32_ne c40
          have hb44 : In r29 1 1 := In.ne1 eL33R (⟨by decide, by decide⟩ : In 0 0 0) cc43 (by omega) (by omega)
          refine lv_iconst (v := 1) hx hb dX10_countBrokenStarts_46 (by decide) ?_
          refine lv_goto (tgt := 51) hx hb dX10_countBrokenStarts_47 (by decide) ?_
          exact hJ51 1 _ _ _ (⟨by decide, by decide⟩ : In 1 0 1) hP hD hS (lv_sub hl [0, 1, 2, 3] rfl)
  exact hJ23 ((2147483647 - (0 : Int32).toInt).toNat + 1) 0 0 _ _ _ _ (⟨by decide, by decide⟩ : In 0 (-2147483648) 2147483647) (⟨by decide, by decide⟩ : In 0 0 2147483647) hP hD hS hT hfr hf12 hf13 (lv_sub hl [2, 3, 1, 0] rfl) (msI _)

abbrev rm_X10_leastBrokenStart : Room := { frames := 27, cells := 0, slots := 0, locals := 916 }
abbrev po_X10_leastBrokenStart (g : GG) (ad : Nat → Nat) (th : Nat → Int) (L : List Nat) (f : HP) (z1 : Int32) : Int32 → (List Nat × HP) → Prop := fun r u => u.1 = L ∧ TI g ad th u.2 ∧ (∀ b, b ≠ (ad 18) → b ≠ (ad 19) → b ≠ (ad 20) → b ≠ (ad 21) → b ≠ (ad 22) → b ≠ (ad 23) → b ≠ (ad 8) → u.2 b = f b)
set_option maxHeartbeats 4000000 in
set_option maxRecDepth 100000 in
theorem s_X10_leastBrokenStart (l : Launch) (g : GG) (ad : Nat → Nat) (th : Nat → Int) (L : List Nat) (f : HP) (sz : Nat) (z1 : Int32) (hst : ST ad L) (hT : TI g ad th f) (hz1 : In z1 0 510) : MtI l g yX10_leastBrokenStart cX10_leastBrokenStart 3 (some .int) rm_X10_leastBrokenStart [.ref (ad 0), .int z1] L f sz (po_X10_leastBrokenStart g ad th L f z1) := by
  refine MtI.of (by decide +kernel) (Nat.le_of_ble_eq_true rfl) ?_
  intro p e s m below meth c A hEn hP hD hS ls hl
  obtain ⟨hx, hb, hr, hml, hown, hlocks, hts, hG, hA, hE, hnm⟩ := hEn
  have hown : s.vm.findClass "RulerWord" = some m.cls := hown
  have hl : lv_has ls 3 [(0, .ref (ad 0)), (1, .int z1)] := hl
  have hfr : (∀ b, b ≠ (ad 18) → b ≠ (ad 19) → b ≠ (ad 20) → b ≠ (ad 21) → b ≠ (ad 22) → b ≠ (ad 23) → b ≠ (ad 8) → f b = f b) := fun b z0_ z1_ z2_ z3_ z4_ z5_ z6_ => rfl
  refine lv_aload_n hx hb dX10_leastBrokenStart_0 rfl (lv_at hl 0 rfl) ?_
  obtain ⟨v15_1, v16_1, v17_1, hf2, hv15_1, hv16_1, hg16_1⟩ := hT.1 0 (by decide)
  refine pl_get (v := .ref (ad 18)) hx hb hts (fun w h => mT (inX10 w h)) hown hG.1 hP (hst.1 0 (by decide)) hf2 rfl 12 (by decide) (hts _ (mT wg_487)) (fun _ h => h) rfl dX10_leastBrokenStart_1 ?_
  refine lv_aload_n hx hb dX10_leastBrokenStart_4 rfl (lv_at hl 0 rfl) ?_
  refine pl_get (v := .ref (ad 6)) hx hb hts (fun w h => mT (inX10 w h)) hown hG.1 hP (hst.1 0 (by decide)) hf2 rfl 2 (by decide) (hts _ (mT wg_477)) (fun _ h => h) rfl dX10_leastBrokenStart_5 ?_
  refine lv_iload_n hx hb dX10_leastBrokenStart_8 rfl (lv_at hl 1 rfl) ?_
  refine lv_aload_n hx hb dX10_leastBrokenStart_9 rfl (lv_at hl 0 rfl) ?_
  refine pl_get (v := .ref (ad 6)) hx hb hts (fun w h => mT (inX10 w h)) hown hG.1 hP (hst.1 0 (by decide)) hf2 rfl 2 (by decide) (hts _ (mT wg_477)) (fun _ h => h) rfl dX10_leastBrokenStart_10 ?_
  obtain ⟨v0_3, v1_3, v2_3, v3_3, v4_3, v5_3, v6_3, v7_3, hf4, hv0_3, hg0_3, hv1_3, hg1_3, hv2_3, hv3_3, hv5_3, hv6_3, hrel0_3⟩ := hT.1 6 (by decide)
  refine pl_getN (v := .int v3_3) hx hb hts (fun w h => mT (inX2 w h)) hown hG.1 hP (hst.1 6 (by decide)) hf4 rfl 3 (by decide) (hG.2.1 _ wn_235) (fun _ h => h) rfl dX10_leastBrokenStart_13 ?_
  obtain ⟨v6_5, v7_5, v8_5, v9_5, v10_5, v11_5, v12_5, v13_5, hf6, hv8_5, hv9_5, hv10_5, hv11_5, hv13_5⟩ := hT.1 18 (by decide)
  refine call_v (run_VN (rm := rm_X7_prepare) hx hb hml hown hts (s_X7_prepare l g ad th _ _ _ z1 v3_3 hst hT hz1) cV_X7_prepare wn_1036 ⟨Nat.le_of_ble_eq_true rfl, Nat.le_of_ble_eq_true rfl⟩ hG hE hA hP hD hS (hst.1 18 (by decide)) hf6 rfl rfl hl.1 (As := [.ref (ad 6), .int z1, .int v3_3]) (rest := []) rfl (Nat.le_of_ble_eq_true rfl) dX10_leastBrokenStart_16 ⟨Nat.le_of_ble_eq_true rfl, Nat.le_of_ble_eq_true rfl⟩) hA hD hS (fun L8 f9 H locs hp10 hP hD hS => ?_)
  obtain ⟨eL11L, eL11T, eL11F⟩ := hp10
  have eL11L : L8 = L := eL11L
  rw [eL11L] at hP hD
  have hT : TI g ad th f9 := eL11T
  have eL11F : ∀ b, b ≠ (ad 18) → b ≠ (ad 19) → b ≠ (ad 20) → b ≠ (ad 23) → b ≠ (ad 8) → f9 b = f b := eL11F
  have hf12 := (eL11F (ad 0) (hst.ne (by decide) (by decide) (by decide)) (hst.ne (by decide) (by decide) (by decide)) (hst.ne (by decide) (by decide) (by decide)) (hst.ne (by decide) (by decide) (by decide)) (hst.ne (by decide) (by decide) (by decide))).trans hf2
  have hf13 := (eL11F (ad 6) (hst.ne (by decide) (by decide) (by decide)) (hst.ne (by decide) (by decide) (by decide)) (hst.ne (by decide) (by decide) (by decide)) (hst.ne (by decide) (by decide) (by decide)) (hst.ne (by decide) (by decide) (by decide))).trans hf4
  have hfr : (∀ b, b ≠ (ad 18) → b ≠ (ad 19) → b ≠ (ad 20) → b ≠ (ad 21) → b ≠ (ad 22) → b ≠ (ad 23) → b ≠ (ad 8) → f9 b = f b) := fun b z0_ z1_ z2_ z3_ z4_ z5_ z6_ => (eL11F b z0_ z1_ z2_ z5_ z6_).trans (hfr b z0_ z1_ z2_ z3_ z4_ z5_ z6_)
  refine lv_iconst (v := 0) hx hb dX10_leastBrokenStart_19 (by decide) ?_
  refine lv_istore_n (lv' := [(2, .int 0), (0, .ref (ad 0)), (1, .int z1)]) hx hb dX10_leastBrokenStart_20 rfl hl (by decide) rfl (fun ls hl => ?_)
  have hJ21 : ∀ (k21 : Nat) (y21_l2 : Int32) (f_21 : HP) (H : Heap) (locs : List Loc) (ls : Array Slot), In y21_l2 0 2147483647 → va_P g.1 vwCl (va_pl L f_21) H → va_D A (va_pl L f_21) → va_S A s.heap H locs → TI g ad th f_21 → (∀ b, b ≠ (ad 18) → b ≠ (ad 19) → b ≠ (ad 20) → b ≠ (ad 21) → b ≠ (ad 22) → b ≠ (ad 23) → b ≠ (ad 8) → f_21 b = f b) → f_21 (ad 0) = .inr (9, [.ref (ad 1), .ref (ad 5), .ref (ad 6), .ref (ad 7), .ref (ad 9), .ref (ad 13), .ref (ad 14), .ref (ad 15), .ref (cr ad 0 0), .ref (cr ad 1 0), .ref (cr ad 2 0), .ref (ad 16), .ref (ad 18), .ref (ad 3), .ref (ad 24), .int v15_1, .int v16_1, .long v17_1]) → f_21 (ad 6) = .inr (2, [.int v0_3, .int v1_3, .int v2_3, .int v3_3, .int v4_3, .int v5_3, .int v6_3, .int v7_3]) → lv_has ls 3 [(0, .ref (ad 0)), (1, .int z1), (2, .int y21_l2)] → 2147483647 - y21_l2.toInt < ((k21 : Nat) : Int) → W p l e rm_X10_leastBrokenStart s m [.ref (ad 0), .int z1].toArray below meth c H locs 0 0 (MQ below (va_Qi (po_X10_leastBrokenStart g ad th L f z1) (PstB g A) A) [.ref (ad 0), .int z1].toArray s rm_X10_leastBrokenStart.cells rm_X10_leastBrokenStart.slots A) (F0 m 21 ls []) := by
    intro k21
    induction k21 with
    | zero =>
      intro y21_l2 f_21 H locs ls hy21_l2 hP hD hS hT hfr hf14 hf15 hl hmz21
      exact ms0 hy21_l2 hmz21
    | succ k21 ih21 =>
      intro y21_l2 f_21 H locs ls hy21_l2 hP hD hS hT hfr hf14 hf15 hl hmz21
      refine lv_iload_n hx hb dX10_leastBrokenStart_21 rfl (lv_at hl 2 rfl) ?_
      refine lv_aload_n hx hb dX10_leastBrokenStart_22 rfl (lv_at hl 0 rfl) ?_
      refine pl_get (v := .ref (ad 6)) hx hb hts (fun w h => mT (inX10 w h)) hown hG.1 hP (hst.1 0 (by decide)) hf14 rfl 2 (by decide) (hts _ (mT wg_477)) (fun _ h => h) rfl dX10_leastBrokenStart_23 ?_
      refine call_i (run_VN (rm := rm_X2_everybody_co) hx hb hml hown hts (s_X2_everybody_co l g ad th _ _ _  hst hT ) cV_X2_everybody wn_918 ⟨Nat.le_of_ble_eq_true rfl, Nat.le_of_ble_eq_true rfl⟩ hG hE hA hP hD hS (hst.1 6 (by decide)) hf15 rfl rfl hl.1 (As := []) (rest := [.int y21_l2]) rfl (Nat.le_of_ble_eq_true rfl) dX10_leastBrokenStart_26 ⟨Nat.le_of_ble_eq_true rfl, Nat.le_of_ble_eq_true rfl⟩) hA hD hS (fun r16 L17 f18 H locs hp19 hP hD hS => ?_)
      obtain ⟨eL20L, eL20T, eL20R, eL20X0⟩ := hp19
      have eL20L : L17 = L := eL20L
      have eL20T : f18 = f_21 := eL20T
      rw [eL20L, eL20T] at hP hD
      have eL20R : In r16 0 511 := eL20R
      have hev21 : r16.toInt = 2 ^ (th 3).toNat - 1 := eL20X0
      refine lv_icmp_gt (tgt := 51) hx hb dX10_leastBrokenStart_29 (by decide) (fun c22 => ?_) (fun c22 => ?_)
      ·
        have cc23 : r16.toInt < y21_l2.toInt := i32_lt.mp c22
        have hb24 : In y21_l2 1 2147483647 := In.gt1 hy21_l2 eL20R cc23 (by omega) (by omega)
        refine lv_iconst (v := (-1)) hx hb dX10_leastBrokenStart_51 (by decide) ?_
        exact ret_i (ty := .int) hx hb hr hlocks (rfl) hP hD hS (Nat.le_of_ble_eq_true rfl) (Nat.le_of_ble_eq_true rfl) (⟨rfl, hT, hfr⟩) dX10_leastBrokenStart_52
      ·
        have cc25 : y21_l2.toInt ≤ r16.toInt := i32_nlt c22
        have hb26 : In y21_l2 0 511 := In.le1 hy21_l2 eL20R cc25 (by omega) (by omega)
        refine lv_aload_n hx hb dX10_leastBrokenStart_32 rfl (lv_at hl 0 rfl) ?_
        refine pl_get (v := .ref (ad 18)) hx hb hts (fun w h => mT (inX10 w h)) hown hG.1 hP (hst.1 0 (by decide)) hf14 rfl 12 (by decide) (hts _ (mT wg_487)) (fun _ h => h) rfl dX10_leastBrokenStart_33 ?_
        refine lv_iload_n hx hb dX10_leastBrokenStart_36 rfl (lv_at hl 2 rfl) ?_
        obtain ⟨v6_27, v7_27, v8_27, v9_27, v10_27, v11_27, v12_27, v13_27, hf28, hv8_27, hv9_27, hv10_27, hv11_27, hv13_27⟩ := hT.1 18 (by decide)
        refine call_i (run_VN (rm := rm_X7_isBroken) hx hb hml hown hts (s_X7_isBroken l g ad th _ _ _ y21_l2 hst hT ) cV_X7_isBroken wn_1110 ⟨Nat.le_of_ble_eq_true rfl, Nat.le_of_ble_eq_true rfl⟩ hG hE hA hP hD hS (hst.1 18 (by decide)) hf28 rfl rfl hl.1 (As := [.int y21_l2]) (rest := []) rfl (Nat.le_of_ble_eq_true rfl) dX10_leastBrokenStart_37 ⟨Nat.le_of_ble_eq_true rfl, Nat.le_of_ble_eq_true rfl⟩) hA hD hS (fun r29 L30 f31 H locs hp32 hP hD hS => ?_)
        obtain ⟨eL33L, eL33T, eL33F, eL33R⟩ := hp32
        have eL33L : L30 = L := eL33L
        rw [eL33L] at hP hD
        have hT : TI g ad th f31 := eL33T
        have eL33F : ∀ b, b ≠ (ad 18) → b ≠ (ad 21) → b ≠ (ad 22) → b ≠ (ad 23) → f31 b = f_21 b := eL33F
        have hf34 := (eL33F (ad 0) (hst.ne (by decide) (by decide) (by decide)) (hst.ne (by decide) (by decide) (by decide)) (hst.ne (by decide) (by decide) (by decide)) (hst.ne (by decide) (by decide) (by decide))).trans hf14
        have hf35 := (eL33F (ad 6) (hst.ne (by decide) (by decide) (by decide)) (hst.ne (by decide) (by decide) (by decide)) (hst.ne (by decide) (by decide) (by decide)) (hst.ne (by decide) (by decide) (by decide))).trans hf15
        have hfr : (∀ b, b ≠ (ad 18) → b ≠ (ad 19) → b ≠ (ad 20) → b ≠ (ad 21) → b ≠ (ad 22) → b ≠ (ad 23) → b ≠ (ad 8) → f31 b = f b) := fun b z0_ z1_ z2_ z3_ z4_ z5_ z6_ => (eL33F b z0_ z3_ z4_ z5_).trans (hfr b z0_ z1_ z2_ z3_ z4_ z5_ z6_)
        have eL33R : In r29 0 1 := eL33R
        refine lv_if_eq (tgt := 45) hx hb dX10_leastBrokenStart_40 (by decide) (fun c36 => ?_) (fun c36 => ?_)
        ·
          have cc37 : r29.toInt = (0 : Int32).toInt := congrArg Int32.toInt c36
          have hb38 : In r29 0 0 := In.eq1 eL33R (⟨by decide, by decide⟩ : In 0 0 0) cc37 (by omega) (by omega)
          obtain ⟨x39, ex39⟩ : ∃ y : Int32, y = y21_l2 + 1 := ⟨_, rfl⟩
          have hb40 : In x39 1 512 := ex39 ▸ In.add hb26 (⟨by decide, by decide⟩ : In 1 1 1) (by decide) (by decide) (by decide) (by decide)
          have et41 : x39.toInt = y21_l2.toInt + 1 := In.adde ex39 hb26 (k := 1) (by decide) (by decide) (by decide)
          refine lv_iinc (v := x39) (lv' := [(2, .int x39), (0, .ref (ad 0)), (1, .int z1)]) hx hb dX10_leastBrokenStart_45 hl (k := 2) rfl (by rw [ex39]; rfl) (by decide) rfl (fun ls hl => ?_)
          refine lv_goto (tgt := 21) hx hb dX10_leastBrokenStart_48 (by decide) ?_
          exact ih21 x39 _ _ _ _ (In.mono hb40 (by decide) (by decide)) hP hD hS hT hfr hf34 hf35 (lv_sub hl [1, 2, 0] rfl) (msu et41 (by decide) hmz21)
        ·
          have cc42 : r29.toInt ≠ (0 : Int32).toInt := i32_ne c36
          have hb43 : In r29 1 1 := In.ne1 eL33R (⟨by decide, by decide⟩ : In 0 0 0) cc42 (by omega) (by omega)
          refine lv_iload_n hx hb dX10_leastBrokenStart_43 rfl (lv_at hl 2 rfl) ?_
          exact ret_i (ty := .int) hx hb hr hlocks (rfl) hP hD hS (Nat.le_of_ble_eq_true rfl) (Nat.le_of_ble_eq_true rfl) (⟨rfl, hT, hfr⟩) dX10_leastBrokenStart_44
  exact hJ21 ((2147483647 - (0 : Int32).toInt).toNat + 1) 0 _ _ _ _ (⟨by decide, by decide⟩ : In 0 0 2147483647) hP hD hS hT hfr hf12 hf13 (lv_sub hl [1, 2, 0] rfl) (msI _)

abbrev rm_X10_broken : Room := { frames := 27, cells := 0, slots := 0, locals := 916 }
abbrev po_X10_broken (g : GG) (ad : Nat → Nat) (th : Nat → Int) (L : List Nat) (f : HP)  : Int32 → (List Nat × HP) → Prop := fun r u => u.1 = L ∧ TI g ad th u.2 ∧ (∀ b, b ≠ (ad 18) → b ≠ (ad 19) → b ≠ (ad 20) → b ≠ (ad 21) → b ≠ (ad 22) → b ≠ (ad 23) → b ≠ (ad 8) → u.2 b = f b)
set_option maxHeartbeats 4000000 in
set_option maxRecDepth 100000 in
theorem s_X10_broken (l : Launch) (g : GG) (ad : Nat → Nat) (th : Nat → Int) (L : List Nat) (f : HP) (sz : Nat)  (hst : ST ad L) (hT : TI g ad th f)  : MtI l g yX10_broken cX10_broken 1 (some .int) rm_X10_broken [.ref (ad 0)] L f sz (po_X10_broken g ad th L f ) := by
  refine MtI.of (by decide +kernel) (Nat.le_of_ble_eq_true rfl) ?_
  intro p e s m below meth c A hEn hP hD hS ls hl
  obtain ⟨hx, hb, hr, hml, hown, hlocks, hts, hG, hA, hE, hnm⟩ := hEn
  have hown : s.vm.findClass "RulerWord" = some m.cls := hown
  have hl : lv_has ls 1 [(0, .ref (ad 0))] := hl
  have hfr : (∀ b, b ≠ (ad 18) → b ≠ (ad 19) → b ≠ (ad 20) → b ≠ (ad 21) → b ≠ (ad 22) → b ≠ (ad 23) → b ≠ (ad 8) → f b = f b) := fun b z0_ z1_ z2_ z3_ z4_ z5_ z6_ => rfl
  refine lv_aload_n hx hb dX10_broken_0 rfl (lv_at hl 0 rfl) ?_
  refine lv_aload_n hx hb dX10_broken_1 rfl (lv_at hl 0 rfl) ?_
  obtain ⟨v15_1, v16_1, v17_1, hf2, hv15_1, hv16_1, hg16_1⟩ := hT.1 0 (by decide)
  refine pl_get (v := .ref (cr ad 0 0)) hx hb hts (fun w h => mT (inX10 w h)) hown hG.1 hP (hst.1 0 (by decide)) hf2 rfl 8 (by decide) (hts _ (mT wg_483)) (fun _ h => h) rfl dX10_broken_2 ?_
  obtain ⟨v0_3, v1_3, v2_3, v3_3, v4_3, v5_3, v6_3, v7_3, v8_3, hf4, hv1_3, hg1_3, hv2_3, hg2_3, hv6_3⟩ := hT.2.1 0 (by decide) 0 (by decide)
  refine pl_getN (v := .int v1_3) hx hb hts (fun w h => mT (inX3 w h)) hown hG.1 hP (hst.c (by decide) (by decide)) hf4 rfl 1 (by decide) (hG.2.1 _ wn_339) (fun _ h => h) rfl dX10_broken_5 ?_
  refine call_i (run_V (rm := rm_X10_isAsked) hx hb hml hown hts (s_X10_isAsked l g ad th _ _ _ v1_3 hst hT ) cV_X10_isAsked wg_1032 ⟨Nat.le_of_ble_eq_true rfl, Nat.le_of_ble_eq_true rfl⟩ hG hE hA hP hD hS (hst.1 0 (by decide)) hf2 rfl rfl hl.1 (As := [.int v1_3]) (rest := []) rfl (Nat.le_of_ble_eq_true rfl) dX10_broken_8 ⟨Nat.le_of_ble_eq_true rfl, Nat.le_of_ble_eq_true rfl⟩) hA hD hS (fun r5 L6 f7 H locs hp8 hP hD hS => ?_)
  obtain ⟨eL9L, eL9T, eL9R⟩ := hp8
  have eL9L : L6 = L := eL9L
  have eL9T : f7 = f := eL9T
  rw [eL9L, eL9T] at hP hD
  have eL9R : In r5 0 1 := eL9R
  refine lv_if_ne (tgt := 17) hx hb dX10_broken_11 (by decide) (fun c10 => ?_) (fun c10 => ?_)
  ·
    have cc11 : r5.toInt ≠ (0 : Int32).toInt := i32_ne c10
    have hb12 : In r5 1 1 := In.ne1 eL9R (⟨by decide, by decide⟩ : In 0 0 0) cc11 (by omega) (by omega)
    refine lv_aload_n hx hb dX10_broken_17 rfl (lv_at hl 0 rfl) ?_
    refine pl_get (v := .ref (ad 18)) hx hb hts (fun w h => mT (inX10 w h)) hown hG.1 hP (hst.1 0 (by decide)) hf2 rfl 12 (by decide) (hts _ (mT wg_487)) (fun _ h => h) rfl dX10_broken_18 ?_
    refine lv_aload_n hx hb dX10_broken_21 rfl (lv_at hl 0 rfl) ?_
    refine pl_get (v := .ref (ad 6)) hx hb hts (fun w h => mT (inX10 w h)) hown hG.1 hP (hst.1 0 (by decide)) hf2 rfl 2 (by decide) (hts _ (mT wg_477)) (fun _ h => h) rfl dX10_broken_22 ?_
    refine lv_aload_n hx hb dX10_broken_25 rfl (lv_at hl 0 rfl) ?_
    refine pl_get (v := .ref (cr ad 0 0)) hx hb hts (fun w h => mT (inX10 w h)) hown hG.1 hP (hst.1 0 (by decide)) hf2 rfl 8 (by decide) (hts _ (mT wg_483)) (fun _ h => h) rfl dX10_broken_26 ?_
    refine pl_getN (v := .int v1_3) hx hb hts (fun w h => mT (inX3 w h)) hown hG.1 hP (hst.c (by decide) (by decide)) hf4 rfl 1 (by decide) (hG.2.1 _ wn_339) (fun _ h => h) rfl dX10_broken_29 ?_
    refine lv_aload_n hx hb dX10_broken_32 rfl (lv_at hl 0 rfl) ?_
    refine pl_get (v := .ref (ad 6)) hx hb hts (fun w h => mT (inX10 w h)) hown hG.1 hP (hst.1 0 (by decide)) hf2 rfl 2 (by decide) (hts _ (mT wg_477)) (fun _ h => h) rfl dX10_broken_33 ?_
    obtain ⟨v0_13, v1_13, v2_13, v3_13, v4_13, v5_13, v6_13, v7_13, hf14, hv0_13, hg0_13, hv1_13, hg1_13, hv2_13, hv3_13, hv5_13, hv6_13, hrel0_13⟩ := hT.1 6 (by decide)
    refine pl_getN (v := .int v3_13) hx hb hts (fun w h => mT (inX2 w h)) hown hG.1 hP (hst.1 6 (by decide)) hf14 rfl 3 (by decide) (hG.2.1 _ wn_235) (fun _ h => h) rfl dX10_broken_36 ?_
    obtain ⟨v6_15, v7_15, v8_15, v9_15, v10_15, v11_15, v12_15, v13_15, hf16, hv8_15, hv9_15, hv10_15, hv11_15, hv13_15⟩ := hT.1 18 (by decide)
    refine call_v (run_VN (rm := rm_X7_prepare) hx hb hml hown hts (s_X7_prepare l g ad th _ _ _ v1_3 v3_13 hst hT hv1_3) cV_X7_prepare wn_1036 ⟨Nat.le_of_ble_eq_true rfl, Nat.le_of_ble_eq_true rfl⟩ hG hE hA hP hD hS (hst.1 18 (by decide)) hf16 rfl rfl hl.1 (As := [.ref (ad 6), .int v1_3, .int v3_13]) (rest := []) rfl (Nat.le_of_ble_eq_true rfl) dX10_broken_39 ⟨Nat.le_of_ble_eq_true rfl, Nat.le_of_ble_eq_true rfl⟩) hA hD hS (fun L18 f19 H locs hp20 hP hD hS => ?_)
    obtain ⟨eL21L, eL21T, eL21F⟩ := hp20
    have eL21L : L18 = L := eL21L
    rw [eL21L] at hP hD
    have hT : TI g ad th f19 := eL21T
    have eL21F : ∀ b, b ≠ (ad 18) → b ≠ (ad 19) → b ≠ (ad 20) → b ≠ (ad 23) → b ≠ (ad 8) → f19 b = f b := eL21F
    have hf22 := (eL21F (ad 0) (hst.ne (by decide) (by decide) (by decide)) (hst.ne (by decide) (by decide) (by decide)) (hst.ne (by decide) (by decide) (by decide)) (hst.ne (by decide) (by decide) (by decide)) (hst.ne (by decide) (by decide) (by decide))).trans hf2
    have hf23 := (eL21F (cr ad 0 0) (hst.ne (by omega) (by omega) (by omega)) (hst.ne (by omega) (by omega) (by omega)) (hst.ne (by omega) (by omega) (by omega)) (hst.ne (by omega) (by omega) (by omega)) (hst.ne (by omega) (by omega) (by omega))).trans hf4
    have hf24 := (eL21F (ad 6) (hst.ne (by decide) (by decide) (by decide)) (hst.ne (by decide) (by decide) (by decide)) (hst.ne (by decide) (by decide) (by decide)) (hst.ne (by decide) (by decide) (by decide)) (hst.ne (by decide) (by decide) (by decide))).trans hf14
    have hfr : (∀ b, b ≠ (ad 18) → b ≠ (ad 19) → b ≠ (ad 20) → b ≠ (ad 21) → b ≠ (ad 22) → b ≠ (ad 23) → b ≠ (ad 8) → f19 b = f b) := fun b z0_ z1_ z2_ z3_ z4_ z5_ z6_ => (eL21F b z0_ z1_ z2_ z5_ z6_).trans (hfr b z0_ z1_ z2_ z3_ z4_ z5_ z6_)
    refine lv_aload_n hx hb dX10_broken_42 rfl (lv_at hl 0 rfl) ?_
    refine pl_get (v := .ref (ad 18)) hx hb hts (fun w h => mT (inX10 w h)) hown hG.1 hP (hst.1 0 (by decide)) hf22 rfl 12 (by decide) (hts _ (mT wg_487)) (fun _ h => h) rfl dX10_broken_43 ?_
    refine lv_aload_n hx hb dX10_broken_46 rfl (lv_at hl 0 rfl) ?_
    refine pl_get (v := .ref (cr ad 0 0)) hx hb hts (fun w h => mT (inX10 w h)) hown hG.1 hP (hst.1 0 (by decide)) hf22 rfl 8 (by decide) (hts _ (mT wg_483)) (fun _ h => h) rfl dX10_broken_47 ?_
    refine pl_getN (v := .int v0_3) hx hb hts (fun w h => mT (inX3 w h)) hown hG.1 hP (hst.c (by decide) (by decide)) hf23 rfl 0 (by decide) (hG.2.1 _ wn_336) (fun _ h => h) rfl dX10_broken_50 ?_
    obtain ⟨v6_25, v7_25, v8_25, v9_25, v10_25, v11_25, v12_25, v13_25, hf26, hv8_25, hv9_25, hv10_25, hv11_25, hv13_25⟩ := hT.1 18 (by decide)
    refine call_i (run_VN (rm := rm_X7_least) hx hb hml hown hts (s_X7_least l g ad th _ _ _ v0_3 hst hT ) cV_X7_least wn_1045 ⟨Nat.le_of_ble_eq_true rfl, Nat.le_of_ble_eq_true rfl⟩ hG hE hA hP hD hS (hst.1 18 (by decide)) hf26 rfl rfl hl.1 (As := [.int v0_3]) (rest := []) rfl (Nat.le_of_ble_eq_true rfl) dX10_broken_53 ⟨Nat.le_of_ble_eq_true rfl, Nat.le_of_ble_eq_true rfl⟩) hA hD hS (fun r27 L28 f29 H locs hp30 hP hD hS => ?_)
    obtain ⟨eL31L, eL31T, eL31F⟩ := hp30
    have eL31L : L28 = L := eL31L
    rw [eL31L] at hP hD
    have hT : TI g ad th f29 := eL31T
    have eL31F : ∀ b, b ≠ (ad 18) → b ≠ (ad 21) → b ≠ (ad 22) → b ≠ (ad 23) → f29 b = f19 b := eL31F
    have hf32 := (eL31F (ad 0) (hst.ne (by decide) (by decide) (by decide)) (hst.ne (by decide) (by decide) (by decide)) (hst.ne (by decide) (by decide) (by decide)) (hst.ne (by decide) (by decide) (by decide))).trans hf22
    have hf33 := (eL31F (cr ad 0 0) (hst.ne (by omega) (by omega) (by omega)) (hst.ne (by omega) (by omega) (by omega)) (hst.ne (by omega) (by omega) (by omega)) (hst.ne (by omega) (by omega) (by omega))).trans hf23
    have hf34 := (eL31F (ad 6) (hst.ne (by decide) (by decide) (by decide)) (hst.ne (by decide) (by decide) (by decide)) (hst.ne (by decide) (by decide) (by decide)) (hst.ne (by decide) (by decide) (by decide))).trans hf24
    have hfr : (∀ b, b ≠ (ad 18) → b ≠ (ad 19) → b ≠ (ad 20) → b ≠ (ad 21) → b ≠ (ad 22) → b ≠ (ad 23) → b ≠ (ad 8) → f29 b = f b) := fun b z0_ z1_ z2_ z3_ z4_ z5_ z6_ => (eL31F b z0_ z3_ z4_ z5_).trans (hfr b z0_ z1_ z2_ z3_ z4_ z5_ z6_)
    exact ret_i (ty := .int) hx hb hr hlocks (rfl) hP hD hS (Nat.le_of_ble_eq_true rfl) (Nat.le_of_ble_eq_true rfl) (⟨rfl, hT, hfr⟩) dX10_broken_56
  ·
    have cc35 : r5.toInt = (0 : Int32).toInt := congrArg Int32.toInt c10
    have hb36 : In r5 0 0 := In.eq1 eL9R (⟨by decide, by decide⟩ : In 0 0 0) cc35 (by omega) (by omega)
    refine lv_bipush (v := (-2)) hx hb dX10_broken_14 (by decide) ?_
    exact ret_i (ty := .int) hx hb hr hlocks (rfl) hP hD hS (Nat.le_of_ble_eq_true rfl) (Nat.le_of_ble_eq_true rfl) (⟨rfl, hT, hfr⟩) dX10_broken_16

abbrev rm_X10_brokenStarts : Room := { frames := 28, cells := 0, slots := 0, locals := 939 }
abbrev po_X10_brokenStarts (g : GG) (ad : Nat → Nat) (th : Nat → Int) (L : List Nat) (f : HP) (z1 : Int32) : Int32 → (List Nat × HP) → Prop := fun r u => u.1 = L ∧ TI g ad th u.2 ∧ (∀ b, b ≠ (ad 18) → b ≠ (ad 19) → b ≠ (ad 20) → b ≠ (ad 21) → b ≠ (ad 22) → b ≠ (ad 23) → b ≠ (ad 8) → u.2 b = f b)
set_option maxHeartbeats 4000000 in
set_option maxRecDepth 100000 in
theorem s_X10_brokenStarts (l : Launch) (g : GG) (ad : Nat → Nat) (th : Nat → Int) (L : List Nat) (f : HP) (sz : Nat) (z1 : Int32) (hst : ST ad L) (hT : TI g ad th f)  : MtI l g yX10_brokenStarts cX10_brokenStarts 2 (some .int) rm_X10_brokenStarts [.ref (ad 0), .int z1] L f sz (po_X10_brokenStarts g ad th L f z1) := by
  refine MtI.of (by decide +kernel) (Nat.le_of_ble_eq_true rfl) ?_
  intro p e s m below meth c A hEn hP hD hS ls hl
  obtain ⟨hx, hb, hr, hml, hown, hlocks, hts, hG, hA, hE, hnm⟩ := hEn
  have hown : s.vm.findClass "RulerWord" = some m.cls := hown
  have hl : lv_has ls 2 [(0, .ref (ad 0)), (1, .int z1)] := hl
  have hfr : (∀ b, b ≠ (ad 18) → b ≠ (ad 19) → b ≠ (ad 20) → b ≠ (ad 21) → b ≠ (ad 22) → b ≠ (ad 23) → b ≠ (ad 8) → f b = f b) := fun b z0_ z1_ z2_ z3_ z4_ z5_ z6_ => rfl
  refine lv_iload_n hx hb dX10_brokenStarts_0 rfl (lv_at hl 1 rfl) ?_
  have hJ23 : ∀ (H : Heap) (locs : List Loc) (ls : Array Slot), va_P g.1 vwCl (va_pl L f) H → va_D A (va_pl L f) → va_S A s.heap H locs → lv_has ls 2 [(0, .ref (ad 0)), (1, .int z1)] → W p l e rm_X10_brokenStarts s m [.ref (ad 0), .int z1].toArray below meth c H locs 0 0 (MQ below (va_Qi (po_X10_brokenStarts g ad th L f z1) (PstB g A) A) [.ref (ad 0), .int z1].toArray s rm_X10_brokenStarts.cells rm_X10_brokenStarts.slots A) (F0 m 23 ls []) := by
    intro H locs ls hP hD hS hl
    refine lv_bipush (v := (-2)) hx hb dX10_brokenStarts_23 (by decide) ?_
    exact ret_i (ty := .int) hx hb hr hlocks (rfl) hP hD hS (Nat.le_of_ble_eq_true rfl) (Nat.le_of_ble_eq_true rfl) (⟨rfl, hT, hfr⟩) dX10_brokenStarts_25
  refine lv_if_lt (tgt := 23) hx hb dX10_brokenStarts_1 (by decide) (fun c1 => ?_) (fun c1 => ?_)
  ·
    have cc2 : z1.toInt < (0 : Int32).toInt := i32_lt.mp c1
    have hb3 : In z1 (-2147483648) (-1) := In.lt1 (In.full z1) (⟨by decide, by decide⟩ : In 0 0 0) cc2 (by omega) (by omega)
    exact hJ23 _ _ _ hP hD hS (lv_sub hl [0, 1] rfl)
  ·
    have cc4 : (0 : Int32).toInt ≤ z1.toInt := i32_nlt c1
    have hb5 : In z1 0 2147483647 := In.ge1 (In.full z1) (⟨by decide, by decide⟩ : In 0 0 0) cc4 (by omega) (by omega)
    refine lv_iload_n hx hb dX10_brokenStarts_4 rfl (lv_at hl 1 rfl) ?_
    refine lv_iconst (v := 1) hx hb dX10_brokenStarts_5 (by decide) ?_
    refine lv_icmp_gt (tgt := 23) hx hb dX10_brokenStarts_6 (by decide) (fun c6 => ?_) (fun c6 => ?_)
    ·
      have cc7 : (1 : Int32).toInt < z1.toInt := i32_lt.mp c6
      have hb8 : In z1 2 2147483647 := In.gt1 hb5 (⟨by decide, by decide⟩ : In 1 1 1) cc7 (by omega) (by omega)
      exact hJ23 _ _ _ hP hD hS (lv_sub hl [0, 1] rfl)
    ·
      have cc9 : z1.toInt ≤ (1 : Int32).toInt := i32_nlt c6
      have hb10 : In z1 0 1 := In.le1 hb5 (⟨by decide, by decide⟩ : In 1 1 1) cc9 (by omega) (by omega)
      refine lv_aload_n hx hb dX10_brokenStarts_9 rfl (lv_at hl 0 rfl) ?_
      refine lv_aload_n hx hb dX10_brokenStarts_10 rfl (lv_at hl 0 rfl) ?_
      obtain ⟨v15_11, v16_11, v17_11, hf12, hv15_11, hv16_11, hg16_11⟩ := hT.1 0 (by decide)
      refine pl_get (v := .ref (cr ad 0 0)) hx hb hts (fun w h => mT (inX10 w h)) hown hG.1 hP (hst.1 0 (by decide)) hf12 rfl 8 (by decide) (hts _ (mT wg_483)) (fun _ h => h) rfl dX10_brokenStarts_11 ?_
      obtain ⟨v0_13, v1_13, v2_13, v3_13, v4_13, v5_13, v6_13, v7_13, v8_13, hf14, hv1_13, hg1_13, hv2_13, hg2_13, hv6_13⟩ := hT.2.1 0 (by decide) 0 (by decide)
      refine pl_getN (v := .int v1_13) hx hb hts (fun w h => mT (inX3 w h)) hown hG.1 hP (hst.c (by decide) (by decide)) hf14 rfl 1 (by decide) (hG.2.1 _ wn_339) (fun _ h => h) rfl dX10_brokenStarts_14 ?_
      refine call_i (run_V (rm := rm_X10_isAsked) hx hb hml hown hts (s_X10_isAsked l g ad th _ _ _ v1_13 hst hT ) cV_X10_isAsked wg_1032 ⟨Nat.le_of_ble_eq_true rfl, Nat.le_of_ble_eq_true rfl⟩ hG hE hA hP hD hS (hst.1 0 (by decide)) hf12 rfl rfl hl.1 (As := [.int v1_13]) (rest := []) rfl (Nat.le_of_ble_eq_true rfl) dX10_brokenStarts_17 ⟨Nat.le_of_ble_eq_true rfl, Nat.le_of_ble_eq_true rfl⟩) hA hD hS (fun r15 L16 f17 H locs hp18 hP hD hS => ?_)
      obtain ⟨eL19L, eL19T, eL19R⟩ := hp18
      have eL19L : L16 = L := eL19L
      have eL19T : f17 = f := eL19T
      rw [eL19L, eL19T] at hP hD
      have eL19R : In r15 0 1 := eL19R
      refine lv_if_ne (tgt := 26) hx hb dX10_brokenStarts_20 (by decide) (fun c20 => ?_) (fun c20 => ?_)
      ·
        have cc21 : r15.toInt ≠ (0 : Int32).toInt := i32_ne c20
        have hb22 : In r15 1 1 := In.ne1 eL19R (⟨by decide, by decide⟩ : In 0 0 0) cc21 (by omega) (by omega)
        refine lv_iload_n hx hb dX10_brokenStarts_26 rfl (lv_at hl 1 rfl) ?_
        refine lv_if_ne (tgt := 44) hx hb dX10_brokenStarts_27 (by decide) (fun c23 => ?_) (fun c23 => ?_)
        ·
          have cc24 : z1.toInt ≠ (0 : Int32).toInt := i32_ne c23
          have hb25 : In z1 1 1 := In.ne1 hb10 (⟨by decide, by decide⟩ : In 0 0 0) cc24 (by omega) (by omega)
          refine lv_aload_n hx hb dX10_brokenStarts_44 rfl (lv_at hl 0 rfl) ?_
          refine lv_aload_n hx hb dX10_brokenStarts_45 rfl (lv_at hl 0 rfl) ?_
          refine pl_get (v := .ref (cr ad 0 0)) hx hb hts (fun w h => mT (inX10 w h)) hown hG.1 hP (hst.1 0 (by decide)) hf12 rfl 8 (by decide) (hts _ (mT wg_483)) (fun _ h => h) rfl dX10_brokenStarts_46 ?_
          refine pl_getN (v := .int v1_13) hx hb hts (fun w h => mT (inX3 w h)) hown hG.1 hP (hst.c (by decide) (by decide)) hf14 rfl 1 (by decide) (hG.2.1 _ wn_339) (fun _ h => h) rfl dX10_brokenStarts_49 ?_
          refine call_i (run_V (rm := rm_X10_leastBrokenStart) hx hb hml hown hts (s_X10_leastBrokenStart l g ad th _ _ _ v1_13 hst hT hv1_13) cV_X10_leastBrokenStart wg_1114 ⟨Nat.le_of_ble_eq_true rfl, Nat.le_of_ble_eq_true rfl⟩ hG hE hA hP hD hS (hst.1 0 (by decide)) hf12 rfl rfl hl.1 (As := [.int v1_13]) (rest := []) rfl (Nat.le_of_ble_eq_true rfl) dX10_brokenStarts_52 ⟨Nat.le_of_ble_eq_true rfl, Nat.le_of_ble_eq_true rfl⟩) hA hD hS (fun r26 L27 f28 H locs hp29 hP hD hS => ?_)
          obtain ⟨eL30L, eL30T, eL30F⟩ := hp29
          have eL30L : L27 = L := eL30L
          rw [eL30L] at hP hD
          have hT : TI g ad th f28 := eL30T
          have eL30F : ∀ b, b ≠ (ad 18) → b ≠ (ad 19) → b ≠ (ad 20) → b ≠ (ad 21) → b ≠ (ad 22) → b ≠ (ad 23) → b ≠ (ad 8) → f28 b = f b := eL30F
          have hf31 := (eL30F (ad 0) (hst.ne (by decide) (by decide) (by decide)) (hst.ne (by decide) (by decide) (by decide)) (hst.ne (by decide) (by decide) (by decide)) (hst.ne (by decide) (by decide) (by decide)) (hst.ne (by decide) (by decide) (by decide)) (hst.ne (by decide) (by decide) (by decide)) (hst.ne (by decide) (by decide) (by decide))).trans hf12
          have hf32 := (eL30F (cr ad 0 0) (hst.ne (by omega) (by omega) (by omega)) (hst.ne (by omega) (by omega) (by omega)) (hst.ne (by omega) (by omega) (by omega)) (hst.ne (by omega) (by omega) (by omega)) (hst.ne (by omega) (by omega) (by omega)) (hst.ne (by omega) (by omega) (by omega)) (hst.ne (by omega) (by omega) (by omega))).trans hf14
          have hfr : (∀ b, b ≠ (ad 18) → b ≠ (ad 19) → b ≠ (ad 20) → b ≠ (ad 21) → b ≠ (ad 22) → b ≠ (ad 23) → b ≠ (ad 8) → f28 b = f b) := fun b z0_ z1_ z2_ z3_ z4_ z5_ z6_ => (eL30F b z0_ z1_ z2_ z3_ z4_ z5_ z6_).trans (hfr b z0_ z1_ z2_ z3_ z4_ z5_ z6_)
          exact ret_i (ty := .int) hx hb hr hlocks (rfl) hP hD hS (Nat.le_of_ble_eq_true rfl) (Nat.le_of_ble_eq_true rfl) (⟨rfl, hT, hfr⟩) dX10_brokenStarts_55
        ·
          have cc33 : z1.toInt = (0 : Int32).toInt := congrArg Int32.toInt c23
          have hb34 : In z1 0 0 := In.eq1 hb10 (⟨by decide, by decide⟩ : In 0 0 0) cc33 (by omega) (by omega)
          refine lv_aload_n hx hb dX10_brokenStarts_30 rfl (lv_at hl 0 rfl) ?_
          refine lv_aload_n hx hb dX10_brokenStarts_31 rfl (lv_at hl 0 rfl) ?_
          refine pl_get (v := .ref (cr ad 0 0)) hx hb hts (fun w h => mT (inX10 w h)) hown hG.1 hP (hst.1 0 (by decide)) hf12 rfl 8 (by decide) (hts _ (mT wg_483)) (fun _ h => h) rfl dX10_brokenStarts_32 ?_
          refine pl_getN (v := .int v1_13) hx hb hts (fun w h => mT (inX3 w h)) hown hG.1 hP (hst.c (by decide) (by decide)) hf14 rfl 1 (by decide) (hG.2.1 _ wn_339) (fun _ h => h) rfl dX10_brokenStarts_35 ?_
          refine call_i (run_V (rm := rm_X10_countBrokenStarts) hx hb hml hown hts (s_X10_countBrokenStarts l g ad th _ _ _ v1_13 hst hT hv1_13) cV_X10_countBrokenStarts wg_1106 ⟨Nat.le_of_ble_eq_true rfl, Nat.le_of_ble_eq_true rfl⟩ hG hE hA hP hD hS (hst.1 0 (by decide)) hf12 rfl rfl hl.1 (As := [.int v1_13]) (rest := []) rfl (Nat.le_of_ble_eq_true rfl) dX10_brokenStarts_38 ⟨Nat.le_of_ble_eq_true rfl, Nat.le_of_ble_eq_true rfl⟩) hA hD hS (fun r35 L36 f37 H locs hp38 hP hD hS => ?_)
          obtain ⟨eL39L, eL39T, eL39F⟩ := hp38
          have eL39L : L36 = L := eL39L
          rw [eL39L] at hP hD
          have hT : TI g ad th f37 := eL39T
          have eL39F : ∀ b, b ≠ (ad 18) → b ≠ (ad 19) → b ≠ (ad 20) → b ≠ (ad 21) → b ≠ (ad 22) → b ≠ (ad 23) → b ≠ (ad 8) → f37 b = f b := eL39F
          have hf40 := (eL39F (ad 0) (hst.ne (by decide) (by decide) (by decide)) (hst.ne (by decide) (by decide) (by decide)) (hst.ne (by decide) (by decide) (by decide)) (hst.ne (by decide) (by decide) (by decide)) (hst.ne (by decide) (by decide) (by decide)) (hst.ne (by decide) (by decide) (by decide)) (hst.ne (by decide) (by decide) (by decide))).trans hf12
          have hf41 := (eL39F (cr ad 0 0) (hst.ne (by omega) (by omega) (by omega)) (hst.ne (by omega) (by omega) (by omega)) (hst.ne (by omega) (by omega) (by omega)) (hst.ne (by omega) (by omega) (by omega)) (hst.ne (by omega) (by omega) (by omega)) (hst.ne (by omega) (by omega) (by omega)) (hst.ne (by omega) (by omega) (by omega))).trans hf14
          have hfr : (∀ b, b ≠ (ad 18) → b ≠ (ad 19) → b ≠ (ad 20) → b ≠ (ad 21) → b ≠ (ad 22) → b ≠ (ad 23) → b ≠ (ad 8) → f37 b = f b) := fun b z0_ z1_ z2_ z3_ z4_ z5_ z6_ => (eL39F b z0_ z1_ z2_ z3_ z4_ z5_ z6_).trans (hfr b z0_ z1_ z2_ z3_ z4_ z5_ z6_)
          refine lv_goto (tgt := 55) hx hb dX10_brokenStarts_41 (by decide) ?_
          exact ret_i (ty := .int) hx hb hr hlocks (rfl) hP hD hS (Nat.le_of_ble_eq_true rfl) (Nat.le_of_ble_eq_true rfl) (⟨rfl, hT, hfr⟩) dX10_brokenStarts_55
      ·
        have cc42 : r15.toInt = (0 : Int32).toInt := congrArg Int32.toInt c20
        have hb43 : In r15 0 0 := In.eq1 eL19R (⟨by decide, by decide⟩ : In 0 0 0) cc42 (by omega) (by omega)
        exact hJ23 _ _ _ hP hD hS (lv_sub hl [0, 1] rfl)

abbrev rm_X10_canBreak : Room := { frames := 28, cells := 0, slots := 0, locals := 938 }
abbrev po_X10_canBreak (g : GG) (ad : Nat → Nat) (th : Nat → Int) (L : List Nat) (f : HP) (z1 : Int32) : Int32 → (List Nat × HP) → Prop := fun r u => u.1 = L ∧ TI g ad th u.2 ∧ (∀ b, b ≠ (ad 18) → b ≠ (ad 19) → b ≠ (ad 20) → b ≠ (ad 21) → b ≠ (ad 22) → b ≠ (ad 23) → b ≠ (ad 8) → u.2 b = f b)
set_option maxHeartbeats 4000000 in
set_option maxRecDepth 100000 in
theorem s_X10_canBreak (l : Launch) (g : GG) (ad : Nat → Nat) (th : Nat → Int) (L : List Nat) (f : HP) (sz : Nat) (z1 : Int32) (hst : ST ad L) (hT : TI g ad th f)  : MtI l g yX10_canBreak cX10_canBreak 5 (some .int) rm_X10_canBreak [.ref (ad 0), .int z1] L f sz (po_X10_canBreak g ad th L f z1) := by
  refine MtI.of (by decide +kernel) (Nat.le_of_ble_eq_true rfl) ?_
  intro p e s m below meth c A hEn hP hD hS ls hl
  obtain ⟨hx, hb, hr, hml, hown, hlocks, hts, hG, hA, hE, hnm⟩ := hEn
  have hown : s.vm.findClass "RulerWord" = some m.cls := hown
  have hl : lv_has ls 5 [(0, .ref (ad 0)), (1, .int z1)] := hl
  have hfr : (∀ b, b ≠ (ad 18) → b ≠ (ad 19) → b ≠ (ad 20) → b ≠ (ad 21) → b ≠ (ad 22) → b ≠ (ad 23) → b ≠ (ad 8) → f b = f b) := fun b z0_ z1_ z2_ z3_ z4_ z5_ z6_ => rfl
  refine lv_iload_n hx hb dX10_canBreak_0 rfl (lv_at hl 1 rfl) ?_
  have hJ27 : ∀ (H : Heap) (locs : List Loc) (ls : Array Slot), va_P g.1 vwCl (va_pl L f) H → va_D A (va_pl L f) → va_S A s.heap H locs → lv_has ls 5 [(0, .ref (ad 0)), (1, .int z1)] → W p l e rm_X10_canBreak s m [.ref (ad 0), .int z1].toArray below meth c H locs 0 0 (MQ below (va_Qi (po_X10_canBreak g ad th L f z1) (PstB g A) A) [.ref (ad 0), .int z1].toArray s rm_X10_canBreak.cells rm_X10_canBreak.slots A) (F0 m 27 ls []) := by
    intro H locs ls hP hD hS hl
    refine lv_bipush (v := (-2)) hx hb dX10_canBreak_27 (by decide) ?_
    exact ret_i (ty := .int) hx hb hr hlocks (rfl) hP hD hS (Nat.le_of_ble_eq_true rfl) (Nat.le_of_ble_eq_true rfl) (⟨rfl, hT, hfr⟩) dX10_canBreak_29
  refine lv_if_lt (tgt := 27) hx hb dX10_canBreak_1 (by decide) (fun c1 => ?_) (fun c1 => ?_)
  ·
    have cc2 : z1.toInt < (0 : Int32).toInt := i32_lt.mp c1
    have hb3 : In z1 (-2147483648) (-1) := In.lt1 (In.full z1) (⟨by decide, by decide⟩ : In 0 0 0) cc2 (by omega) (by omega)
    exact hJ27 _ _ _ hP hD hS (lv_sub hl [0, 1] rfl)
  ·
    have cc4 : (0 : Int32).toInt ≤ z1.toInt := i32_nlt c1
    have hb5 : In z1 0 2147483647 := In.ge1 (In.full z1) (⟨by decide, by decide⟩ : In 0 0 0) cc4 (by omega) (by omega)
    refine lv_iload_n hx hb dX10_canBreak_4 rfl (lv_at hl 1 rfl) ?_
    refine lv_iconst (v := 1) hx hb dX10_canBreak_5 (by decide) ?_
    refine lv_icmp_gt (tgt := 27) hx hb dX10_canBreak_6 (by decide) (fun c6 => ?_) (fun c6 => ?_)
    ·
      have cc7 : (1 : Int32).toInt < z1.toInt := i32_lt.mp c6
      have hb8 : In z1 2 2147483647 := In.gt1 hb5 (⟨by decide, by decide⟩ : In 1 1 1) cc7 (by omega) (by omega)
      exact hJ27 _ _ _ hP hD hS (lv_sub hl [0, 1] rfl)
    ·
      have cc9 : z1.toInt ≤ (1 : Int32).toInt := i32_nlt c6
      have hb10 : In z1 0 1 := In.le1 hb5 (⟨by decide, by decide⟩ : In 1 1 1) cc9 (by omega) (by omega)
      refine lv_aload_n hx hb dX10_canBreak_9 rfl (lv_at hl 0 rfl) ?_
      obtain ⟨v15_11, v16_11, v17_11, hf12, hv15_11, hv16_11, hg16_11⟩ := hT.1 0 (by decide)
      refine pl_get (v := .int v15_11) hx hb hts (fun w h => mT (inX10 w h)) hown hG.1 hP (hst.1 0 (by decide)) hf12 rfl 15 (by decide) (hts _ (mT wg_490)) (fun _ h => h) rfl dX10_canBreak_10 ?_
      refine lv_if_eq (tgt := 27) hx hb dX10_canBreak_13 (by decide) (fun c13 => ?_) (fun c13 => ?_)
      ·
        have cc14 : v15_11.toInt = (0 : Int32).toInt := congrArg Int32.toInt c13
        have hb15 : In v15_11 0 0 := In.eq1 hv15_11 (⟨by decide, by decide⟩ : In 0 0 0) cc14 (by omega) (by omega)
        exact hJ27 _ _ _ hP hD hS (lv_sub hl [0, 1] rfl)
      ·
        have cc16 : v15_11.toInt ≠ (0 : Int32).toInt := i32_ne c13
        have hb17 : In v15_11 1 1 := In.ne1 hv15_11 (⟨by decide, by decide⟩ : In 0 0 0) cc16 (by omega) (by omega)
        refine lv_aload_n hx hb dX10_canBreak_16 rfl (lv_at hl 0 rfl) ?_
        refine pl_get (v := .ref (ad 6)) hx hb hts (fun w h => mT (inX10 w h)) hown hG.1 hP (hst.1 0 (by decide)) hf12 rfl 2 (by decide) (hts _ (mT wg_477)) (fun _ h => h) rfl dX10_canBreak_17 ?_
        obtain ⟨v0_18, v1_18, v2_18, v3_18, v4_18, v5_18, v6_18, v7_18, hf19, hv0_18, hg0_18, hv1_18, hg1_18, hv2_18, hv3_18, hv5_18, hv6_18, hrel0_18⟩ := hT.1 6 (by decide)
        refine pl_getN (v := .int v1_18) hx hb hts (fun w h => mT (inX2 w h)) hown hG.1 hP (hst.1 6 (by decide)) hf19 rfl 1 (by decide) (hG.2.1 _ wn_230) (fun _ h => h) rfl dX10_canBreak_20 ?_
        refine lv_iconst (v := 5) hx hb dX10_canBreak_23 (by decide) ?_
        refine lv_icmp_le (tgt := 30) hx hb dX10_canBreak_24 (by decide) (fun c20 => ?_) (fun c20 => ?_)
        ·
          have cc21 : v1_18.toInt ≤ (5 : Int32).toInt := i32_le.mp c20
          have hb22 : In v1_18 0 5 := In.le1 hv1_18 (⟨by decide, by decide⟩ : In 5 5 5) cc21 (by omega) (by omega)
          refine lv_iconst (v := 0) hx hb dX10_canBreak_30 (by decide) ?_
          refine lv_istore_n (lv' := [(2, .int 0), (0, .ref (ad 0)), (1, .int z1)]) hx hb dX10_canBreak_31 rfl hl (by decide) rfl (fun ls hl => ?_)
          refine lv_iconst (v := (-1)) hx hb dX10_canBreak_32 (by decide) ?_
          refine lv_istore_n (lv' := [(3, .int (-1)), (2, .int 0), (0, .ref (ad 0)), (1, .int z1)]) hx hb dX10_canBreak_33 rfl hl (by decide) rfl (fun ls hl => ?_)
          refine lv_iconst (v := 0) hx hb dX10_canBreak_34 (by decide) ?_
          refine lv_istore (lv' := [(4, .int 0), (3, .int (-1)), (2, .int 0), (0, .ref (ad 0)), (1, .int z1)]) hx hb dX10_canBreak_35 hl (by decide) rfl (fun ls hl => ?_)
          have hJ37 : ∀ (k37 : Nat) (y37_l2 : Int32) (y37_l3 : Int32) (y37_l4 : Int32) (f_37 : HP) (H : Heap) (locs : List Loc) (ls : Array Slot), In y37_l2 (-2147483648) 2147483647 → In y37_l3 (-1) 2147483647 → In y37_l4 0 2147483647 → va_P g.1 vwCl (va_pl L f_37) H → va_D A (va_pl L f_37) → va_S A s.heap H locs → TI g ad th f_37 → (∀ b, b ≠ (ad 18) → b ≠ (ad 19) → b ≠ (ad 20) → b ≠ (ad 21) → b ≠ (ad 22) → b ≠ (ad 23) → b ≠ (ad 8) → f_37 b = f b) → f_37 (ad 0) = .inr (9, [.ref (ad 1), .ref (ad 5), .ref (ad 6), .ref (ad 7), .ref (ad 9), .ref (ad 13), .ref (ad 14), .ref (ad 15), .ref (cr ad 0 0), .ref (cr ad 1 0), .ref (cr ad 2 0), .ref (ad 16), .ref (ad 18), .ref (ad 3), .ref (ad 24), .int v15_11, .int v16_11, .long v17_11]) → f_37 (ad 6) = .inr (2, [.int v0_18, .int v1_18, .int v2_18, .int v3_18, .int v4_18, .int v5_18, .int v6_18, .int v7_18]) → lv_has ls 5 [(0, .ref (ad 0)), (1, .int z1), (2, .int y37_l2), (3, .int y37_l3), (4, .int y37_l4)] → 2147483647 - y37_l4.toInt < ((k37 : Nat) : Int) → W p l e rm_X10_canBreak s m [.ref (ad 0), .int z1].toArray below meth c H locs 0 0 (MQ below (va_Qi (po_X10_canBreak g ad th L f z1) (PstB g A) A) [.ref (ad 0), .int z1].toArray s rm_X10_canBreak.cells rm_X10_canBreak.slots A) (F0 m 37 ls []) := by
            intro k37
            induction k37 with
            | zero =>
              intro y37_l2 y37_l3 y37_l4 f_37 H locs ls hy37_l2 hy37_l3 hy37_l4 hP hD hS hT hfr hf23 hf24 hl hmz37
              exact ms0 hy37_l4 hmz37
            | succ k37 ih37 =>
              intro y37_l2 y37_l3 y37_l4 f_37 H locs ls hy37_l2 hy37_l3 hy37_l4 hP hD hS hT hfr hf23 hf24 hl hmz37
              refine lv_iload hx hb dX10_canBreak_37 (lv_at hl 4 rfl) ?_
              refine lv_aload_n hx hb dX10_canBreak_39 rfl (lv_at hl 0 rfl) ?_
              refine pl_get (v := .ref (ad 6)) hx hb hts (fun w h => mT (inX10 w h)) hown hG.1 hP (hst.1 0 (by decide)) hf23 rfl 2 (by decide) (hts _ (mT wg_477)) (fun _ h => h) rfl dX10_canBreak_40 ?_
              refine call_i (run_VN (rm := rm_X2_everybody_co) hx hb hml hown hts (s_X2_everybody_co l g ad th _ _ _  hst hT ) cV_X2_everybody wn_918 ⟨Nat.le_of_ble_eq_true rfl, Nat.le_of_ble_eq_true rfl⟩ hG hE hA hP hD hS (hst.1 6 (by decide)) hf24 rfl rfl hl.1 (As := []) (rest := [.int y37_l4]) rfl (Nat.le_of_ble_eq_true rfl) dX10_canBreak_43 ⟨Nat.le_of_ble_eq_true rfl, Nat.le_of_ble_eq_true rfl⟩) hA hD hS (fun r25 L26 f27 H locs hp28 hP hD hS => ?_)
              obtain ⟨eL29L, eL29T, eL29R, eL29X0⟩ := hp28
              have eL29L : L26 = L := eL29L
              have eL29T : f27 = f_37 := eL29T
              rw [eL29L, eL29T] at hP hD
              have eL29R : In r25 0 511 := eL29R
              have hev30 : r25.toInt = 2 ^ (th 3).toNat - 1 := eL29X0
              refine lv_icmp_ge (tgt := 113) hx hb dX10_canBreak_46 (by decide) (fun c31 => ?_) (fun c31 => ?_)
              ·
                refine lv_iload_n hx hb dX10_canBreak_113 rfl (lv_at hl 1 rfl) ?_
                refine lv_if_ne (tgt := 121) hx hb dX10_canBreak_114 (by decide) (fun c32 => ?_) (fun c32 => ?_)
                ·
                  have cc33 : z1.toInt ≠ (0 : Int32).toInt := i32_ne c32
                  have hb34 : In z1 1 1 := In.ne1 hb10 (⟨by decide, by decide⟩ : In 0 0 0) cc33 (by omega) (by omega)
                  refine lv_iload_n hx hb dX10_canBreak_121 rfl (lv_at hl 3 rfl) ?_
                  exact ret_i (ty := .int) hx hb hr hlocks (rfl) hP hD hS (Nat.le_of_ble_eq_true rfl) (Nat.le_of_ble_eq_true rfl) (⟨rfl, hT, hfr⟩) dX10_canBreak_122
                ·
                  have cc35 : z1.toInt = (0 : Int32).toInt := congrArg Int32.toInt c32
                  have hb36 : In z1 0 0 := In.eq1 hb10 (⟨by decide, by decide⟩ : In 0 0 0) cc35 (by omega) (by omega)
                  refine lv_iload_n hx hb dX10_canBreak_117 rfl (lv_at hl 2 rfl) ?_
                  refine lv_goto (tgt := 122) hx hb dX10_canBreak_118 (by decide) ?_
                  exact ret_i (ty := .int) hx hb hr hlocks (rfl) hP hD hS (Nat.le_of_ble_eq_true rfl) (Nat.le_of_ble_eq_true rfl) (⟨rfl, hT, hfr⟩) dX10_canBreak_122
              ·
                have cc37 : y37_l4.toInt < r25.toInt := i32_nle c31
                have hb38 : In y37_l4 0 510 := In.lt1 hy37_l4 eL29R cc37 (by omega) (by omega)
                have hb39 : In r25 1 511 := In.lt2 hy37_l4 eL29R cc37 (by omega) (by omega)
                refine lv_iload hx hb dX10_canBreak_49 (lv_at hl 4 rfl) ?_
                refine call_i (run_S (rm := rm_J6_bitCount_0f7a4) hx hb hml hown hts (s_J6_bitCount_0f7a4 l g ad th _ _ _ y37_l4 hst hT ) cS_J6_bitCount_0f7a4 wg_987 ⟨Nat.le_of_ble_eq_true rfl, Nat.le_of_ble_eq_true rfl⟩ hG hE hA hP hD hS rfl hl.1 (As := [.int y37_l4]) (rest := []) rfl (Nat.le_of_ble_eq_true rfl) dX10_canBreak_51 ⟨Nat.le_of_ble_eq_true rfl, Nat.le_of_ble_eq_true rfl⟩) hA hD hS (fun r40 L41 f42 H locs hp43 hP hD hS => ?_)
                obtain ⟨eL44L, eL44T, eL44R, eL44X0⟩ := hp43
                have eL44L : L41 = L := eL44L
                have eL44T : f42 = f_37 := eL44T
                rw [eL44L, eL44T] at hP hD
                have eL44R : In r40 0 63 := eL44R
                have hb45 : In r40 0 8 := bc8 hb38 eL44X0
                refine lv_aload_n hx hb dX10_canBreak_54 rfl (lv_at hl 0 rfl) ?_
                refine pl_get (v := .ref (cr ad 0 0)) hx hb hts (fun w h => mT (inX10 w h)) hown hG.1 hP (hst.1 0 (by decide)) hf23 rfl 8 (by decide) (hts _ (mT wg_483)) (fun _ h => h) rfl dX10_canBreak_55 ?_
                obtain ⟨v0_46, v1_46, v2_46, v3_46, v4_46, v5_46, v6_46, v7_46, v8_46, hf47, hv1_46, hg1_46, hv2_46, hg2_46, hv6_46⟩ := hT.2.1 0 (by decide) 0 (by decide)
                refine pl_getN (v := .int v1_46) hx hb hts (fun w h => mT (inX3 w h)) hown hG.1 hP (hst.c (by decide) (by decide)) hf47 rfl 1 (by decide) (hG.2.1 _ wn_339) (fun _ h => h) rfl dX10_canBreak_58 ?_
                refine call_i (run_S (rm := rm_J6_bitCount_0f7a4) hx hb hml hown hts (s_J6_bitCount_0f7a4 l g ad th _ _ _ v1_46 hst hT ) cS_J6_bitCount_0f7a4 wg_987 ⟨Nat.le_of_ble_eq_true rfl, Nat.le_of_ble_eq_true rfl⟩ hG hE hA hP hD hS rfl hl.1 (As := [.int v1_46]) (rest := [.int r40]) rfl (Nat.le_of_ble_eq_true rfl) dX10_canBreak_61 ⟨Nat.le_of_ble_eq_true rfl, Nat.le_of_ble_eq_true rfl⟩) hA hD hS (fun r48 L49 f50 H locs hp51 hP hD hS => ?_)
                obtain ⟨eL52L, eL52T, eL52R, eL52X0⟩ := hp51
                have eL52L : L49 = L := eL52L
                have eL52T : f50 = f_37 := eL52T
                rw [eL52L, eL52T] at hP hD
                have eL52R : In r48 0 63 := eL52R
                have hb53 : In r48 0 8 := bc8 hv1_46 eL52X0
                have hJ107 : ∀ (y107_l2 : Int32) (y107_l3 : Int32) (f_107 : HP) (H : Heap) (locs : List Loc) (ls : Array Slot), In y107_l2 (-2147483648) 2147483647 → In y107_l3 (-1) 2147483647 → va_P g.1 vwCl (va_pl L f_107) H → va_D A (va_pl L f_107) → va_S A s.heap H locs → TI g ad th f_107 → (∀ b, b ≠ (ad 18) → b ≠ (ad 19) → b ≠ (ad 20) → b ≠ (ad 21) → b ≠ (ad 22) → b ≠ (ad 23) → b ≠ (ad 8) → f_107 b = f b) → f_107 (ad 0) = .inr (9, [.ref (ad 1), .ref (ad 5), .ref (ad 6), .ref (ad 7), .ref (ad 9), .ref (ad 13), .ref (ad 14), .ref (ad 15), .ref (cr ad 0 0), .ref (cr ad 1 0), .ref (cr ad 2 0), .ref (ad 16), .ref (ad 18), .ref (ad 3), .ref (ad 24), .int v15_11, .int v16_11, .long v17_11]) → f_107 (ad 6) = .inr (2, [.int v0_18, .int v1_18, .int v2_18, .int v3_18, .int v4_18, .int v5_18, .int v6_18, .int v7_18]) → f_107 (cr ad 0 0) = .inr (3, [.int v0_46, .int v1_46, .int v2_46, .int v3_46, .int v4_46, .int v5_46, .int v6_46, .long v7_46, .long v8_46, .ref (cr ad 0 1), .ref (cr ad 0 2), .ref (cr ad 0 3), .ref (cr ad 0 4), .ref (cr ad 0 5), .ref (cr ad 0 6), .ref (cr ad 0 7), .ref (cr ad 0 8), .ref (cr ad 0 9)]) → lv_has ls 5 [(0, .ref (ad 0)), (1, .int z1), (2, .int y107_l2), (3, .int y107_l3), (4, .int y37_l4)] → W p l e rm_X10_canBreak s m [.ref (ad 0), .int z1].toArray below meth c H locs 0 0 (MQ below (va_Qi (po_X10_canBreak g ad th L f z1) (PstB g A) A) [.ref (ad 0), .int z1].toArray s rm_X10_canBreak.cells rm_X10_canBreak.slots A) (F0 m 107 ls []) := by
                  intro y107_l2 y107_l3 f_107 H locs ls hy107_l2 hy107_l3 hP hD hS hT hfr hf54 hf55 hf56 hl
                  obtain ⟨x57, ex57⟩ : ∃ y : Int32, y = y37_l4 + 1 := ⟨_, rfl⟩
                  have hb58 : In x57 1 511 := ex57 ▸ In.add hb38 (⟨by decide, by decide⟩ : In 1 1 1) (by decide) (by decide) (by decide) (by decide)
                  have et59 : x57.toInt = y37_l4.toInt + 1 := In.adde ex57 hb38 (k := 1) (by decide) (by decide) (by decide)
                  refine lv_iinc (v := x57) (lv' := [(4, .int x57), (0, .ref (ad 0)), (1, .int z1), (2, .int y107_l2), (3, .int y107_l3)]) hx hb dX10_canBreak_107 hl (k := 4) rfl (by rw [ex57]; rfl) (by decide) rfl (fun ls hl => ?_)
                  refine lv_goto (tgt := 37) hx hb dX10_canBreak_110 (by decide) ?_
                  exact ih37 y107_l2 y107_l3 x57 _ _ _ _ hy107_l2 hy107_l3 (In.mono hb58 (by decide) (by decide)) hP hD hS hT hfr hf54 hf55 (lv_sub hl [1, 2, 3, 4, 0] rfl) (msu et59 (by decide) hmz37)
                refine lv_icmp_eq (tgt := 70) hx hb dX10_canBreak_64 (by decide) (fun c60 => ?_) (fun c60 => ?_)
                ·
                  refine lv_aload_n hx hb dX10_canBreak_70 rfl (lv_at hl 0 rfl) ?_
                  refine lv_iload hx hb dX10_canBreak_71 (lv_at hl 4 rfl) ?_
                  refine call_i (run_V (rm := rm_X10_isAsked) hx hb hml hown hts (s_X10_isAsked l g ad th _ _ _ y37_l4 hst hT ) cV_X10_isAsked wg_1032 ⟨Nat.le_of_ble_eq_true rfl, Nat.le_of_ble_eq_true rfl⟩ hG hE hA hP hD hS (hst.1 0 (by decide)) hf23 rfl rfl hl.1 (As := [.int y37_l4]) (rest := []) rfl (Nat.le_of_ble_eq_true rfl) dX10_canBreak_73 ⟨Nat.le_of_ble_eq_true rfl, Nat.le_of_ble_eq_true rfl⟩) hA hD hS (fun r61 L62 f63 H locs hp64 hP hD hS => ?_)
                  obtain ⟨eL65L, eL65T, eL65R⟩ := hp64
                  have eL65L : L62 = L := eL65L
                  have eL65T : f63 = f_37 := eL65T
                  rw [eL65L, eL65T] at hP hD
                  have eL65R : In r61 0 1 := eL65R
                  refine lv_if_ne (tgt := 82) hx hb dX10_canBreak_76 (by decide) (fun c66 => ?_) (fun c66 => ?_)
                  ·
                    have cc67 : r61.toInt ≠ (0 : Int32).toInt := i32_ne c66
                    have hb68 : In r61 1 1 := In.ne1 eL65R (⟨by decide, by decide⟩ : In 0 0 0) cc67 (by omega) (by omega)
                    refine lv_aload_n hx hb dX10_canBreak_82 rfl (lv_at hl 0 rfl) ?_
                    refine lv_iload hx hb dX10_canBreak_83 (lv_at hl 4 rfl) ?_
                    refine call_i (run_V (rm := rm_X10_leastBrokenStart) hx hb hml hown hts (s_X10_leastBrokenStart l g ad th _ _ _ y37_l4 hst hT hb38) cV_X10_leastBrokenStart wg_1114 ⟨Nat.le_of_ble_eq_true rfl, Nat.le_of_ble_eq_true rfl⟩ hG hE hA hP hD hS (hst.1 0 (by decide)) hf23 rfl rfl hl.1 (As := [.int y37_l4]) (rest := []) rfl (Nat.le_of_ble_eq_true rfl) dX10_canBreak_85 ⟨Nat.le_of_ble_eq_true rfl, Nat.le_of_ble_eq_true rfl⟩) hA hD hS (fun r69 L70 f71 H locs hp72 hP hD hS => ?_)
                    obtain ⟨eL73L, eL73T, eL73F⟩ := hp72
                    have eL73L : L70 = L := eL73L
                    rw [eL73L] at hP hD
                    have hT : TI g ad th f71 := eL73T
                    have eL73F : ∀ b, b ≠ (ad 18) → b ≠ (ad 19) → b ≠ (ad 20) → b ≠ (ad 21) → b ≠ (ad 22) → b ≠ (ad 23) → b ≠ (ad 8) → f71 b = f_37 b := eL73F
                    have hf74 := (eL73F (ad 0) (hst.ne (by decide) (by decide) (by decide)) (hst.ne (by decide) (by decide) (by decide)) (hst.ne (by decide) (by decide) (by decide)) (hst.ne (by decide) (by decide) (by decide)) (hst.ne (by decide) (by decide) (by decide)) (hst.ne (by decide) (by decide) (by decide)) (hst.ne (by decide) (by decide) (by decide))).trans hf23
                    have hf75 := (eL73F (ad 6) (hst.ne (by decide) (by decide) (by decide)) (hst.ne (by decide) (by decide) (by decide)) (hst.ne (by decide) (by decide) (by decide)) (hst.ne (by decide) (by decide) (by decide)) (hst.ne (by decide) (by decide) (by decide)) (hst.ne (by decide) (by decide) (by decide)) (hst.ne (by decide) (by decide) (by decide))).trans hf24
                    have hf76 := (eL73F (cr ad 0 0) (hst.ne (by omega) (by omega) (by omega)) (hst.ne (by omega) (by omega) (by omega)) (hst.ne (by omega) (by omega) (by omega)) (hst.ne (by omega) (by omega) (by omega)) (hst.ne (by omega) (by omega) (by omega)) (hst.ne (by omega) (by omega) (by omega)) (hst.ne (by omega) (by omega) (by omega))).trans hf47
                    have hfr : (∀ b, b ≠ (ad 18) → b ≠ (ad 19) → b ≠ (ad 20) → b ≠ (ad 21) → b ≠ (ad 22) → b ≠ (ad 23) → b ≠ (ad 8) → f71 b = f b) := fun b z0_ z1_ z2_ z3_ z4_ z5_ z6_ => (eL73F b z0_ z1_ z2_ z3_ z4_ z5_ z6_).trans (hfr b z0_ z1_ z2_ z3_ z4_ z5_ z6_)
                    refine lv_iconst (v := (-1)) hx hb dX10_canBreak_88 (by decide) ?_
                    refine lv_icmp_eq (tgt := 107) hx hb dX10_canBreak_89 (by decide) (fun c77 => ?_) (fun c77 => ?_)
                    ·
                      have cc78 : r69.toInt = ((-1) : Int32).toInt := congrArg Int32.toInt c77
                      have hb79 : In r69 (-1) (-1) := In.eq1 (In.full r69) (⟨by decide, by decide⟩ : In (-1) (-1) (-1)) cc78 (by omega) (by omega)
                      exact hJ107 y37_l2 y37_l3 _ _ _ _ hy37_l2 hy37_l3 hP hD hS hT hfr hf74 hf75 hf76 (lv_sub hl [0, 1, 2, 3, 4] rfl)
                    ·
                      obtain ⟨x80, ex80⟩ : ∃ y : Int32, y = y37_l2 + 1 := ⟨_, rfl⟩
                      refine lv_iinc (v := x80) (lv' := [(2, .int x80), (0, .ref (ad 0)), (1, .int z1), (3, .int y37_l3), (4, .int y37_l4)]) hx hb dX10_canBreak_92 hl (k := 2) rfl (by rw [ex80]; rfl) (by decide) rfl (fun ls hl => ?_)
                      refine lv_iload_n hx hb dX10_canBreak_95 rfl (lv_at hl 3 rfl) ?_
                      refine lv_iconst (v := (-1)) hx hb dX10_canBreak_96 (by decide) ?_
                      have hJ106 : ∀ (y106_s0 : Int32) (H : Heap) (locs : List Loc) (ls : Array Slot), In y106_s0 0 2147483647 → va_P g.1 vwCl (va_pl L f71) H → va_D A (va_pl L f71) → va_S A s.heap H locs → lv_has ls 5 [(0, .ref (ad 0)), (1, .int z1), (2, .int x80), (3, .int y37_l3), (4, .int y37_l4)] → W p l e rm_X10_canBreak s m [.ref (ad 0), .int z1].toArray below meth c H locs 0 0 (MQ below (va_Qi (po_X10_canBreak g ad th L f z1) (PstB g A) A) [.ref (ad 0), .int z1].toArray s rm_X10_canBreak.cells rm_X10_canBreak.slots A) (F0 m 106 ls [.int y106_s0]) := by
                        intro y106_s0 H locs ls hy106_s0 hP hD hS hl
                        refine lv_istore_n (lv' := [(3, .int y106_s0), (0, .ref (ad 0)), (1, .int z1), (2, .int x80), (4, .int y37_l4)]) hx hb dX10_canBreak_106 rfl hl (by decide) rfl (fun ls hl => ?_)
                        exact hJ107 x80 y106_s0 _ _ _ _ (In.full x80) (In.mono hy106_s0 (by decide) (by decide)) hP hD hS hT hfr hf74 hf75 hf76 (lv_sub hl [1, 2, 3, 0, 4] rfl)
                      refine lv_icmp_ne (tgt := 105) hx hb dX10_canBreak_97 (by decide) (fun c81 => ?_) (fun c81 => ?_)
                      ·
                        have cc82 : y37_l3.toInt ≠ ((-1) : Int32).toInt := i32_ne c81
                        have hb83 : In y37_l3 0 2147483647 := In.ne1 hy37_l3 (⟨by decide, by decide⟩ : In (-1) (-1) (-1)) cc82 (by omega) (by omega)
                        refine lv_iload_n hx hb dX10_canBreak_105 rfl (lv_at hl 3 rfl) ?_
                        exact hJ106 y37_l3 _ _ _ hb83 hP hD hS (lv_sub hl [1, 2, 0, 3, 4] rfl)
                      ·
                        have cc84 : y37_l3.toInt = ((-1) : Int32).toInt := congrArg Int32.toInt c81
                        have hb85 : In y37_l3 (-1) (-1) := In.eq1 hy37_l3 (⟨by decide, by decide⟩ : In (-1) (-1) (-1)) cc84 (by omega) (by omega)
                        refine lv_iload hx hb dX10_canBreak_100 (lv_at hl 4 rfl) ?_
                        refine lv_goto (tgt := 106) hx hb dX10_canBreak_102 (by decide) ?_
                        exact hJ106 y37_l4 _ _ _ (In.mono hb38 (by decide) (by decide)) hP hD hS (lv_sub hl [1, 2, 0, 3, 4] rfl)
                  ·
                    have cc86 : r61.toInt = (0 : Int32).toInt := congrArg Int32.toInt c66
                    have hb87 : In r61 0 0 := In.eq1 eL65R (⟨by decide, by decide⟩ : In 0 0 0) cc86 (by omega) (by omega)
                    refine lv_bipush (v := (-2)) hx hb dX10_canBreak_79 (by decide) ?_
                    exact ret_i (ty := .int) hx hb hr hlocks (rfl) hP hD hS (Nat.le_of_ble_eq_true rfl) (Nat.le_of_ble_eq_true rfl) (⟨rfl, hT, hfr⟩) dX10_canBreak_81
                ·
                  refine lv_goto (tgt := 107) hx hb dX10_canBreak_67 (by decide) ?_
                  exact hJ107 y37_l2 y37_l3 _ _ _ _ hy37_l2 hy37_l3 hP hD hS hT hfr hf23 hf24 hf47 (lv_sub hl [0, 1, 2, 3, 4] rfl)
          exact hJ37 ((2147483647 - (0 : Int32).toInt).toNat + 1) 0 (-1) 0 _ _ _ _ (⟨by decide, by decide⟩ : In 0 (-2147483648) 2147483647) (⟨by decide, by decide⟩ : In (-1) (-1) 2147483647) (⟨by decide, by decide⟩ : In 0 0 2147483647) hP hD hS hT hfr hf12 hf19 (lv_sub hl [3, 4, 2, 1, 0] rfl) (msI _)
        ·
          have cc88 : (5 : Int32).toInt < v1_18.toInt := i32_nle c20
          have hb89 : In v1_18 6 9 := In.gt1 hv1_18 (⟨by decide, by decide⟩ : In 5 5 5) cc88 (by omega) (by omega)
          exact hJ27 _ _ _ hP hD hS (lv_sub hl [0, 1] rfl)

abbrev rm_X10_needed : Room := { frames := 27, cells := 0, slots := 0, locals := 916 }
abbrev po_X10_needed (g : GG) (ad : Nat → Nat) (th : Nat → Int) (L : List Nat) (f : HP)  : Int32 → (List Nat × HP) → Prop := fun r u => u.1 = L ∧ TI g ad th u.2 ∧ (∀ b, b ≠ (ad 18) → b ≠ (ad 19) → b ≠ (ad 20) → b ≠ (ad 21) → b ≠ (ad 22) → b ≠ (ad 23) → b ≠ (ad 8) → u.2 b = f b)
set_option maxHeartbeats 4000000 in
set_option maxRecDepth 100000 in
theorem s_X10_needed (l : Launch) (g : GG) (ad : Nat → Nat) (th : Nat → Int) (L : List Nat) (f : HP) (sz : Nat)  (hst : ST ad L) (hT : TI g ad th f)  : MtI l g yX10_needed cX10_needed 2 (some .int) rm_X10_needed [.ref (ad 0)] L f sz (po_X10_needed g ad th L f ) := by
  refine MtI.of (by decide +kernel) (Nat.le_of_ble_eq_true rfl) ?_
  intro p e s m below meth c A hEn hP hD hS ls hl
  obtain ⟨hx, hb, hr, hml, hown, hlocks, hts, hG, hA, hE, hnm⟩ := hEn
  have hown : s.vm.findClass "RulerWord" = some m.cls := hown
  have hl : lv_has ls 2 [(0, .ref (ad 0))] := hl
  have hfr : (∀ b, b ≠ (ad 18) → b ≠ (ad 19) → b ≠ (ad 20) → b ≠ (ad 21) → b ≠ (ad 22) → b ≠ (ad 23) → b ≠ (ad 8) → f b = f b) := fun b z0_ z1_ z2_ z3_ z4_ z5_ z6_ => rfl
  refine lv_iconst (v := 1) hx hb dX10_needed_0 (by decide) ?_
  refine lv_istore_n (lv' := [(1, .int 1), (0, .ref (ad 0))]) hx hb dX10_needed_1 rfl hl (by decide) rfl (fun ls hl => ?_)
  have hJ2 : ∀ (k2 : Nat) (y2_l1 : Int32) (f_2 : HP) (H : Heap) (locs : List Loc) (ls : Array Slot), In y2_l1 1 7 → va_P g.1 vwCl (va_pl L f_2) H → va_D A (va_pl L f_2) → va_S A s.heap H locs → TI g ad th f_2 → (∀ b, b ≠ (ad 18) → b ≠ (ad 19) → b ≠ (ad 20) → b ≠ (ad 21) → b ≠ (ad 22) → b ≠ (ad 23) → b ≠ (ad 8) → f_2 b = f b) → lv_has ls 2 [(0, .ref (ad 0)), (1, .int y2_l1)] → 7 - y2_l1.toInt < ((k2 : Nat) : Int) → W p l e rm_X10_needed s m [.ref (ad 0)].toArray below meth c H locs 0 0 (MQ below (va_Qi (po_X10_needed g ad th L f ) (PstB g A) A) [.ref (ad 0)].toArray s rm_X10_needed.cells rm_X10_needed.slots A) (F0 m 2 ls []) := by
    intro k2
    induction k2 with
    | zero =>
      intro y2_l1 f_2 H locs ls hy2_l1 hP hD hS hT hfr hl hmz2
      exact ms0 hy2_l1 hmz2
    | succ k2 ih2 =>
      intro y2_l1 f_2 H locs ls hy2_l1 hP hD hS hT hfr hl hmz2
      refine lv_aload_n hx hb dX10_needed_2 rfl (lv_at hl 0 rfl) ?_
      obtain ⟨v15_1, v16_1, v17_1, hf2, hv15_1, hv16_1, hg16_1⟩ := hT.1 0 (by decide)
      refine pl_get (v := .int v15_1) hx hb hts (fun w h => mT (inX10 w h)) hown hG.1 hP (hst.1 0 (by decide)) hf2 rfl 15 (by decide) (hts _ (mT wg_490)) (fun _ h => h) rfl dX10_needed_3 ?_
      refine lv_if_eq (tgt := 81) hx hb dX10_needed_6 (by decide) (fun c3 => ?_) (fun c3 => ?_)
      ·
        have cc4 : v15_1.toInt = (0 : Int32).toInt := congrArg Int32.toInt c3
        have hb5 : In v15_1 0 0 := In.eq1 hv15_1 (⟨by decide, by decide⟩ : In 0 0 0) cc4 (by omega) (by omega)
        refine lv_iconst (v := (-1)) hx hb dX10_needed_81 (by decide) ?_
        exact ret_i (ty := .int) hx hb hr hlocks (rfl) hP hD hS (Nat.le_of_ble_eq_true rfl) (Nat.le_of_ble_eq_true rfl) (⟨rfl, hT, hfr⟩) dX10_needed_82
      ·
        have cc6 : v15_1.toInt ≠ (0 : Int32).toInt := i32_ne c3
        have hb7 : In v15_1 1 1 := In.ne1 hv15_1 (⟨by decide, by decide⟩ : In 0 0 0) cc6 (by omega) (by omega)
        refine lv_iload_n hx hb dX10_needed_9 rfl (lv_at hl 1 rfl) ?_
        refine lv_bipush (v := 6) hx hb dX10_needed_10 (by decide) ?_
        refine lv_icmp_gt (tgt := 81) hx hb dX10_needed_12 (by decide) (fun c8 => ?_) (fun c8 => ?_)
        ·
          have cc9 : (6 : Int32).toInt < y2_l1.toInt := i32_lt.mp c8
          have hb10 : In y2_l1 7 7 := In.gt1 hy2_l1 (⟨by decide, by decide⟩ : In 6 6 6) cc9 (by omega) (by omega)
          refine lv_iconst (v := (-1)) hx hb dX10_needed_81 (by decide) ?_
          exact ret_i (ty := .int) hx hb hr hlocks (rfl) hP hD hS (Nat.le_of_ble_eq_true rfl) (Nat.le_of_ble_eq_true rfl) (⟨rfl, hT, hfr⟩) dX10_needed_82
        ·
          have cc11 : y2_l1.toInt ≤ (6 : Int32).toInt := i32_nlt c8
          have hb12 : In y2_l1 1 6 := In.le1 hy2_l1 (⟨by decide, by decide⟩ : In 6 6 6) cc11 (by omega) (by omega)
          refine lv_aload_n hx hb dX10_needed_15 rfl (lv_at hl 0 rfl) ?_
          refine pl_get (v := .ref (ad 6)) hx hb hts (fun w h => mT (inX10 w h)) hown hG.1 hP (hst.1 0 (by decide)) hf2 rfl 2 (by decide) (hts _ (mT wg_477)) (fun _ h => h) rfl dX10_needed_16 ?_
          refine lv_aload_n hx hb dX10_needed_19 rfl (lv_at hl 0 rfl) ?_
          refine pl_get (v := .ref (cr ad 0 0)) hx hb hts (fun w h => mT (inX10 w h)) hown hG.1 hP (hst.1 0 (by decide)) hf2 rfl 8 (by decide) (hts _ (mT wg_483)) (fun _ h => h) rfl dX10_needed_20 ?_
          obtain ⟨v0_13, v1_13, v2_13, v3_13, v4_13, v5_13, v6_13, v7_13, v8_13, hf14, hv1_13, hg1_13, hv2_13, hg2_13, hv6_13⟩ := hT.2.1 0 (by decide) 0 (by decide)
          refine pl_getN (v := .int v1_13) hx hb hts (fun w h => mT (inX3 w h)) hown hG.1 hP (hst.c (by decide) (by decide)) hf14 rfl 1 (by decide) (hG.2.1 _ wn_339) (fun _ h => h) rfl dX10_needed_23 ?_
          refine lv_iload_n hx hb dX10_needed_26 rfl (lv_at hl 1 rfl) ?_
          obtain ⟨v0_15, v1_15, v2_15, v3_15, v4_15, v5_15, v6_15, v7_15, hf16, hv0_15, hg0_15, hv1_15, hg1_15, hv2_15, hv3_15, hv5_15, hv6_15, hrel0_15⟩ := hT.1 6 (by decide)
          refine call_i (run_VN (rm := rm_X2_freeLetters_co) hx hb hml hown hts (s_X2_freeLetters_co l g ad th _ _ _ v1_13 y2_l1 hst hT (In.mono hb12 (by decide) (by decide))) cV_X2_freeLetters wn_1022 ⟨Nat.le_of_ble_eq_true rfl, Nat.le_of_ble_eq_true rfl⟩ hG hE hA hP hD hS (hst.1 6 (by decide)) hf16 rfl rfl hl.1 (As := [.int v1_13, .int y2_l1]) (rest := []) rfl (Nat.le_of_ble_eq_true rfl) dX10_needed_27 ⟨Nat.le_of_ble_eq_true rfl, Nat.le_of_ble_eq_true rfl⟩) hA hD hS (fun r17 L18 f19 H locs hp20 hP hD hS => ?_)
          obtain ⟨eL21L, eL21T⟩ := hp20
          have eL21L : L18 = L := eL21L
          have eL21T : f19 = f_2 := eL21T
          rw [eL21L, eL21T] at hP hD
          refine lv_bipush (v := 12) hx hb dX10_needed_30 (by decide) ?_
          refine lv_icmp_le (tgt := 37) hx hb dX10_needed_32 (by decide) (fun c22 => ?_) (fun c22 => ?_)
          ·
            have cc23 : r17.toInt ≤ (12 : Int32).toInt := i32_le.mp c22
            have hb24 : In r17 (-2147483648) 12 := In.le1 (In.full r17) (⟨by decide, by decide⟩ : In 12 12 12) cc23 (by omega) (by omega)
            refine lv_aload_n hx hb dX10_needed_37 rfl (lv_at hl 0 rfl) ?_
            refine pl_get (v := .ref (ad 18)) hx hb hts (fun w h => mT (inX10 w h)) hown hG.1 hP (hst.1 0 (by decide)) hf2 rfl 12 (by decide) (hts _ (mT wg_487)) (fun _ h => h) rfl dX10_needed_38 ?_
            refine lv_aload_n hx hb dX10_needed_41 rfl (lv_at hl 0 rfl) ?_
            refine pl_get (v := .ref (ad 6)) hx hb hts (fun w h => mT (inX10 w h)) hown hG.1 hP (hst.1 0 (by decide)) hf2 rfl 2 (by decide) (hts _ (mT wg_477)) (fun _ h => h) rfl dX10_needed_42 ?_
            refine lv_aload_n hx hb dX10_needed_45 rfl (lv_at hl 0 rfl) ?_
            refine pl_get (v := .ref (cr ad 0 0)) hx hb hts (fun w h => mT (inX10 w h)) hown hG.1 hP (hst.1 0 (by decide)) hf2 rfl 8 (by decide) (hts _ (mT wg_483)) (fun _ h => h) rfl dX10_needed_46 ?_
            refine pl_getN (v := .int v1_13) hx hb hts (fun w h => mT (inX3 w h)) hown hG.1 hP (hst.c (by decide) (by decide)) hf14 rfl 1 (by decide) (hG.2.1 _ wn_339) (fun _ h => h) rfl dX10_needed_49 ?_
            refine lv_iload_n hx hb dX10_needed_52 rfl (lv_at hl 1 rfl) ?_
            obtain ⟨v6_25, v7_25, v8_25, v9_25, v10_25, v11_25, v12_25, v13_25, hf26, hv8_25, hv9_25, hv10_25, hv11_25, hv13_25⟩ := hT.1 18 (by decide)
            refine call_v (run_VN (rm := rm_X7_prepare) hx hb hml hown hts (s_X7_prepare l g ad th _ _ _ v1_13 y2_l1 hst hT hv1_13) cV_X7_prepare wn_1036 ⟨Nat.le_of_ble_eq_true rfl, Nat.le_of_ble_eq_true rfl⟩ hG hE hA hP hD hS (hst.1 18 (by decide)) hf26 rfl rfl hl.1 (As := [.ref (ad 6), .int v1_13, .int y2_l1]) (rest := []) rfl (Nat.le_of_ble_eq_true rfl) dX10_needed_53 ⟨Nat.le_of_ble_eq_true rfl, Nat.le_of_ble_eq_true rfl⟩) hA hD hS (fun L28 f29 H locs hp30 hP hD hS => ?_)
            obtain ⟨eL31L, eL31T, eL31F⟩ := hp30
            have eL31L : L28 = L := eL31L
            rw [eL31L] at hP hD
            have hT : TI g ad th f29 := eL31T
            have eL31F : ∀ b, b ≠ (ad 18) → b ≠ (ad 19) → b ≠ (ad 20) → b ≠ (ad 23) → b ≠ (ad 8) → f29 b = f_2 b := eL31F
            have hf32 := (eL31F (ad 0) (hst.ne (by decide) (by decide) (by decide)) (hst.ne (by decide) (by decide) (by decide)) (hst.ne (by decide) (by decide) (by decide)) (hst.ne (by decide) (by decide) (by decide)) (hst.ne (by decide) (by decide) (by decide))).trans hf2
            have hf33 := (eL31F (cr ad 0 0) (hst.ne (by omega) (by omega) (by omega)) (hst.ne (by omega) (by omega) (by omega)) (hst.ne (by omega) (by omega) (by omega)) (hst.ne (by omega) (by omega) (by omega)) (hst.ne (by omega) (by omega) (by omega))).trans hf14
            have hf34 := (eL31F (ad 6) (hst.ne (by decide) (by decide) (by decide)) (hst.ne (by decide) (by decide) (by decide)) (hst.ne (by decide) (by decide) (by decide)) (hst.ne (by decide) (by decide) (by decide)) (hst.ne (by decide) (by decide) (by decide))).trans hf16
            have hfr : (∀ b, b ≠ (ad 18) → b ≠ (ad 19) → b ≠ (ad 20) → b ≠ (ad 21) → b ≠ (ad 22) → b ≠ (ad 23) → b ≠ (ad 8) → f29 b = f b) := fun b z0_ z1_ z2_ z3_ z4_ z5_ z6_ => (eL31F b z0_ z1_ z2_ z5_ z6_).trans (hfr b z0_ z1_ z2_ z3_ z4_ z5_ z6_)
            refine lv_aload_n hx hb dX10_needed_56 rfl (lv_at hl 0 rfl) ?_
            refine pl_get (v := .ref (ad 18)) hx hb hts (fun w h => mT (inX10 w h)) hown hG.1 hP (hst.1 0 (by decide)) hf32 rfl 12 (by decide) (hts _ (mT wg_487)) (fun _ h => h) rfl dX10_needed_57 ?_
            refine lv_aload_n hx hb dX10_needed_60 rfl (lv_at hl 0 rfl) ?_
            refine pl_get (v := .ref (cr ad 0 0)) hx hb hts (fun w h => mT (inX10 w h)) hown hG.1 hP (hst.1 0 (by decide)) hf32 rfl 8 (by decide) (hts _ (mT wg_483)) (fun _ h => h) rfl dX10_needed_61 ?_
            refine pl_getN (v := .int v0_13) hx hb hts (fun w h => mT (inX3 w h)) hown hG.1 hP (hst.c (by decide) (by decide)) hf33 rfl 0 (by decide) (hG.2.1 _ wn_336) (fun _ h => h) rfl dX10_needed_64 ?_
            obtain ⟨v6_35, v7_35, v8_35, v9_35, v10_35, v11_35, v12_35, v13_35, hf36, hv8_35, hv9_35, hv10_35, hv11_35, hv13_35⟩ := hT.1 18 (by decide)
            refine call_i (run_VN (rm := rm_X7_isBroken) hx hb hml hown hts (s_X7_isBroken l g ad th _ _ _ v0_13 hst hT ) cV_X7_isBroken wn_1110 ⟨Nat.le_of_ble_eq_true rfl, Nat.le_of_ble_eq_true rfl⟩ hG hE hA hP hD hS (hst.1 18 (by decide)) hf36 rfl rfl hl.1 (As := [.int v0_13]) (rest := []) rfl (Nat.le_of_ble_eq_true rfl) dX10_needed_67 ⟨Nat.le_of_ble_eq_true rfl, Nat.le_of_ble_eq_true rfl⟩) hA hD hS (fun r37 L38 f39 H locs hp40 hP hD hS => ?_)
            obtain ⟨eL41L, eL41T, eL41F, eL41R⟩ := hp40
            have eL41L : L38 = L := eL41L
            rw [eL41L] at hP hD
            have hT : TI g ad th f39 := eL41T
            have eL41F : ∀ b, b ≠ (ad 18) → b ≠ (ad 21) → b ≠ (ad 22) → b ≠ (ad 23) → f39 b = f29 b := eL41F
            have hf42 := (eL41F (ad 0) (hst.ne (by decide) (by decide) (by decide)) (hst.ne (by decide) (by decide) (by decide)) (hst.ne (by decide) (by decide) (by decide)) (hst.ne (by decide) (by decide) (by decide))).trans hf32
            have hf43 := (eL41F (cr ad 0 0) (hst.ne (by omega) (by omega) (by omega)) (hst.ne (by omega) (by omega) (by omega)) (hst.ne (by omega) (by omega) (by omega)) (hst.ne (by omega) (by omega) (by omega))).trans hf33
            have hf44 := (eL41F (ad 6) (hst.ne (by decide) (by decide) (by decide)) (hst.ne (by decide) (by decide) (by decide)) (hst.ne (by decide) (by decide) (by decide)) (hst.ne (by decide) (by decide) (by decide))).trans hf34
            have hfr : (∀ b, b ≠ (ad 18) → b ≠ (ad 19) → b ≠ (ad 20) → b ≠ (ad 21) → b ≠ (ad 22) → b ≠ (ad 23) → b ≠ (ad 8) → f39 b = f b) := fun b z0_ z1_ z2_ z3_ z4_ z5_ z6_ => (eL41F b z0_ z3_ z4_ z5_).trans (hfr b z0_ z1_ z2_ z3_ z4_ z5_ z6_)
            have eL41R : In r37 0 1 := eL41R
            refine lv_if_ne (tgt := 75) hx hb dX10_needed_70 (by decide) (fun c45 => ?_) (fun c45 => ?_)
            ·
              have cc46 : r37.toInt ≠ (0 : Int32).toInt := i32_ne c45
              have hb47 : In r37 1 1 := In.ne1 eL41R (⟨by decide, by decide⟩ : In 0 0 0) cc46 (by omega) (by omega)
              obtain ⟨x48, ex48⟩ : ∃ y : Int32, y = y2_l1 + 1 := ⟨_, rfl⟩
              have hb49 : In x48 2 7 := ex48 ▸ In.add hb12 (⟨by decide, by decide⟩ : In 1 1 1) (by decide) (by decide) (by decide) (by decide)
              have et50 : x48.toInt = y2_l1.toInt + 1 := In.adde ex48 hb12 (k := 1) (by decide) (by decide) (by decide)
              refine lv_iinc (v := x48) (lv' := [(1, .int x48), (0, .ref (ad 0))]) hx hb dX10_needed_75 hl (k := 1) rfl (by rw [ex48]; rfl) (by decide) rfl (fun ls hl => ?_)
              refine lv_goto (tgt := 2) hx hb dX10_needed_78 (by decide) ?_
              exact ih2 x48 _ _ _ _ (In.mono hb49 (by decide) (by decide)) hP hD hS hT hfr (lv_sub hl [1, 0] rfl) (msu et50 (by decide) hmz2)
            ·
              have cc51 : r37.toInt = (0 : Int32).toInt := congrArg Int32.toInt c45
              have hb52 : In r37 0 0 := In.eq1 eL41R (⟨by decide, by decide⟩ : In 0 0 0) cc51 (by omega) (by omega)
              refine lv_iload_n hx hb dX10_needed_73 rfl (lv_at hl 1 rfl) ?_
              exact ret_i (ty := .int) hx hb hr hlocks (rfl) hP hD hS (Nat.le_of_ble_eq_true rfl) (Nat.le_of_ble_eq_true rfl) (⟨rfl, hT, hfr⟩) dX10_needed_74
          ·
            have cc53 : (12 : Int32).toInt < r17.toInt := i32_nle c22
            have hb54 : In r17 13 2147483647 := In.gt1 (In.full r17) (⟨by decide, by decide⟩ : In 12 12 12) cc53 (by omega) (by omega)
            refine lv_iconst (v := (-1)) hx hb dX10_needed_35 (by decide) ?_
            exact ret_i (ty := .int) hx hb hr hlocks (rfl) hP hD hS (Nat.le_of_ble_eq_true rfl) (Nat.le_of_ble_eq_true rfl) (⟨rfl, hT, hfr⟩) dX10_needed_36
  exact hJ2 ((7 - (1 : Int32).toInt).toNat + 1) 1 _ _ _ _ (⟨by decide, by decide⟩ : In 1 1 7) hP hD hS hT hfr (lv_sub hl [1, 0] rfl) (msI _)

abbrev rm_X10_freeBefore : Room := { frames := 2, cells := 0, slots := 0, locals := 47 }
abbrev po_X10_freeBefore (g : GG) (ad : Nat → Nat) (th : Nat → Int) (L : List Nat) (f : HP) (z1 : Int32) (z2 : Int32) : Int32 → (List Nat × HP) → Prop := fun _ u => u.1 = L ∧ u.2 = f
set_option maxHeartbeats 4000000 in
set_option maxRecDepth 100000 in
theorem s_X10_freeBefore (l : Launch) (g : GG) (ad : Nat → Nat) (th : Nat → Int) (L : List Nat) (f : HP) (sz : Nat) (z1 : Int32) (z2 : Int32) (hst : ST ad L) (hT : TI g ad th f) (hz1 : In z1 0 6) : MtI l g yX10_freeBefore cX10_freeBefore 4 (some .int) rm_X10_freeBefore [.ref (ad 0), .int z1, .int z2] L f sz (po_X10_freeBefore g ad th L f z1 z2) := by
  refine MtI.of (by decide +kernel) (Nat.le_of_ble_eq_true rfl) ?_
  intro p e s m below meth c A hEn hP hD hS ls hl
  obtain ⟨hx, hb, hr, hml, hown, hlocks, hts, hG, hA, hE, hnm⟩ := hEn
  have hown : s.vm.findClass "RulerWord" = some m.cls := hown
  have hl : lv_has ls 4 [(0, .ref (ad 0)), (1, .int z1), (2, .int z2)] := hl
  refine lv_aload_n hx hb dX10_freeBefore_0 rfl (lv_at hl 0 rfl) ?_
  obtain ⟨v15_1, v16_1, v17_1, hf2, hv15_1, hv16_1, hg16_1⟩ := hT.1 0 (by decide)
  refine pl_get (v := .ref (cr ad 0 0)) hx hb hts (fun w h => mT (inX10 w h)) hown hG.1 hP (hst.1 0 (by decide)) hf2 rfl 8 (by decide) (hts _ (mT wg_483)) (fun _ h => h) rfl dX10_freeBefore_1 ?_
  obtain ⟨v0_3, v1_3, v2_3, v3_3, v4_3, v5_3, v6_3, v7_3, v8_3, hf4, hv1_3, hg1_3, hv2_3, hg2_3, hv6_3⟩ := hT.2.1 0 (by decide) 0 (by decide)
  refine pl_getN (v := .int v1_3) hx hb hts (fun w h => mT (inX3 w h)) hown hG.1 hP (hst.c (by decide) (by decide)) hf4 rfl 1 (by decide) (hG.2.1 _ wn_339) (fun _ h => h) rfl dX10_freeBefore_4 ?_
  refine call_i (run_S (rm := rm_J6_bitCount_0f7a4) hx hb hml hown hts (s_J6_bitCount_0f7a4 l g ad th _ _ _ v1_3 hst hT ) cS_J6_bitCount_0f7a4 wg_987 ⟨Nat.le_of_ble_eq_true rfl, Nat.le_of_ble_eq_true rfl⟩ hG hE hA hP hD hS rfl hl.1 (As := [.int v1_3]) (rest := []) rfl (Nat.le_of_ble_eq_true rfl) dX10_freeBefore_7 ⟨Nat.le_of_ble_eq_true rfl, Nat.le_of_ble_eq_true rfl⟩) hA hD hS (fun r5 L6 f7 H locs hp8 hP hD hS => ?_)
  obtain ⟨eL9L, eL9T, eL9R, eL9X0⟩ := hp8
  have eL9L : L6 = L := eL9L
  have eL9T : f7 = f := eL9T
  rw [eL9L, eL9T] at hP hD
  have eL9R : In r5 0 63 := eL9R
  have hb10 : In r5 0 8 := bc8 hv1_3 eL9X0
  refine lv_istore_n (lv' := [(3, .int r5), (0, .ref (ad 0)), (1, .int z1), (2, .int z2)]) hx hb dX10_freeBefore_10 rfl hl (by decide) rfl (fun ls hl => ?_)
  refine lv_aload_n hx hb dX10_freeBefore_11 rfl (lv_at hl 1 rfl) ?_
  refine pl_get (v := .ref (ad 6)) hx hb hts (fun w h => mT (inX10 w h)) hown hG.1 hP (hst.1 0 (by decide)) hf2 rfl 2 (by decide) (hts _ (mT wg_477)) (fun _ h => h) rfl dX10_freeBefore_12 ?_
  refine lv_aload_n hx hb dX10_freeBefore_15 rfl (lv_at hl 1 rfl) ?_
  refine pl_get (v := .ref (cr ad 0 0)) hx hb hts (fun w h => mT (inX10 w h)) hown hG.1 hP (hst.1 0 (by decide)) hf2 rfl 8 (by decide) (hts _ (mT wg_483)) (fun _ h => h) rfl dX10_freeBefore_16 ?_
  refine pl_getN (v := .int v1_3) hx hb hts (fun w h => mT (inX3 w h)) hown hG.1 hP (hst.c (by decide) (by decide)) hf4 rfl 1 (by decide) (hG.2.1 _ wn_339) (fun _ h => h) rfl dX10_freeBefore_19 ?_
  refine lv_iload_n hx hb dX10_freeBefore_22 rfl (lv_at hl 2 rfl) ?_
  obtain ⟨v0_11, v1_11, v2_11, v3_11, v4_11, v5_11, v6_11, v7_11, hf12, hv0_11, hg0_11, hv1_11, hg1_11, hv2_11, hv3_11, hv5_11, hv6_11, hrel0_11⟩ := hT.1 6 (by decide)
  refine call_i (run_VN (rm := rm_X2_freeLetters_co) hx hb hml hown hts (s_X2_freeLetters_co l g ad th _ _ _ v1_3 z1 hst hT (In.mono hz1 (by decide) (by decide))) cV_X2_freeLetters wn_1022 ⟨Nat.le_of_ble_eq_true rfl, Nat.le_of_ble_eq_true rfl⟩ hG hE hA hP hD hS (hst.1 6 (by decide)) hf12 rfl rfl hl.1 (As := [.int v1_3, .int z1]) (rest := []) rfl (Nat.le_of_ble_eq_true rfl) dX10_freeBefore_23 ⟨Nat.le_of_ble_eq_true rfl, Nat.le_of_ble_eq_true rfl⟩) hA hD hS (fun r13 L14 f15 H locs hp16 hP hD hS => ?_)
  obtain ⟨eL17L, eL17T⟩ := hp16
  have eL17L : L14 = L := eL17L
  have eL17T : f15 = f := eL17T
  rw [eL17L, eL17T] at hP hD
  refine lv_iload_n hx hb dX10_freeBefore_26 rfl (lv_at hl 3 rfl) ?_
  refine lv_iload_n hx hb dX10_freeBefore_27 rfl (lv_at hl 0 rfl) ?_
  refine lv_imul hx hb dX10_freeBefore_28 ?_
  refine lv_topi (fun x18 ex18 => ?_)
  refine lv_aload_n hx hb dX10_freeBefore_29 rfl (lv_at hl 1 rfl) ?_
  refine pl_get (v := .ref (ad 6)) hx hb hts (fun w h => mT (inX10 w h)) hown hG.1 hP (hst.1 0 (by decide)) hf2 rfl 2 (by decide) (hts _ (mT wg_477)) (fun _ h => h) rfl dX10_freeBefore_30 ?_
  refine pl_getN (v := .int v1_11) hx hb hts (fun w h => mT (inX2 w h)) hown hG.1 hP (hst.1 6 (by decide)) hf12 rfl 1 (by decide) (hG.2.1 _ wn_230) (fun _ h => h) rfl dX10_freeBefore_33 ?_
  refine lv_iload_n hx hb dX10_freeBefore_36 rfl (lv_at hl 0 rfl) ?_
  refine lv_isub hx hb dX10_freeBefore_37 ?_
  refine lv_topi (fun x19 ex19 => ?_)
  have hb20 : In x19 (-8) 9 := ex19 ▸ In.sub hv1_11 hb10 (by decide) (by decide) (by decide) (by decide)
  have et21 : x19.toInt = v1_11.toInt - r5.toInt := In.sub2e ex19 hv1_11 hb10 (by decide) (by decide)
  refine lv_imul hx hb dX10_freeBefore_38 ?_
  refine lv_topi (fun x22 ex22 => ?_)
  refine lv_iadd hx hb dX10_freeBefore_39 ?_
  refine lv_topi (fun x23 ex23 => ?_)
  exact ret_i (ty := .int) hx hb hr hlocks (rfl) hP hD hS (Nat.le_of_ble_eq_true rfl) (Nat.le_of_ble_eq_true rfl) (⟨rfl, rfl⟩) dX10_freeBefore_40

abbrev rm_X10_writeBrokenRound : Room := { frames := 6, cells := 0, slots := 0, locals := 129 }
abbrev po_X10_writeBrokenRound (g : GG) (ad : Nat → Nat) (th : Nat → Int) (L : List Nat) (f : HP) (z1 : Int32) (z2 : Int32) (z3 : Int32) : (List Nat × HP) → Prop := fun u => u.1 = L ∧ TI g ad th u.2 ∧ (∀ b, b ≠ (ad 3) → b ≠ (ad 4) → u.2 b = f b)
set_option maxHeartbeats 4000000 in
set_option maxRecDepth 100000 in
theorem s_X10_writeBrokenRound (l : Launch) (g : GG) (ad : Nat → Nat) (th : Nat → Int) (L : List Nat) (f : HP) (sz : Nat) (z1 : Int32) (z2 : Int32) (z3 : Int32) (hst : ST ad L) (hT : TI g ad th f) (hz1 : In z1 0 5) (hz2 : In z2 0 2) : MtV l g yX10_writeBrokenRound cX10_writeBrokenRound 8 rm_X10_writeBrokenRound [.ref (ad 0), .int z1, .int z2, .int z3] L f sz (po_X10_writeBrokenRound g ad th L f z1 z2 z3) := by
  refine MtV.of (by decide +kernel) (Nat.le_of_ble_eq_true rfl) ?_
  intro p e s m below meth c A hEn hP hD hS ls hl
  obtain ⟨hx, hb, hr, hml, hown, hlocks, hts, hG, hA, hE, hnm⟩ := hEn
  have hown : s.vm.findClass "RulerWord" = some m.cls := hown
  have hl : lv_has ls 8 [(0, .ref (ad 0)), (1, .int z1), (2, .int z2), (3, .int z3)] := hl
  have hfr : (∀ b, b ≠ (ad 3) → b ≠ (ad 4) → f b = f b) := fun b z0_ z1_ => rfl
  refine lv_aload_n hx hb dX10_writeBrokenRound_0 rfl (lv_at hl 0 rfl) ?_
  refine lv_iload_n hx hb dX10_writeBrokenRound_1 rfl (lv_at hl 1 rfl) ?_
  refine lv_iload_n hx hb dX10_writeBrokenRound_2 rfl (lv_at hl 2 rfl) ?_
  obtain ⟨v15_1, v16_1, v17_1, hf2, hv15_1, hv16_1, hg16_1⟩ := hT.1 0 (by decide)
  refine call_i (run_V (rm := rm_X10_freeBefore) hx hb hml hown hts (s_X10_freeBefore l g ad th _ _ _ z1 z2 hst hT (In.mono hz1 (by decide) (by decide))) cV_X10_freeBefore wg_1131 ⟨Nat.le_of_ble_eq_true rfl, Nat.le_of_ble_eq_true rfl⟩ hG hE hA hP hD hS (hst.1 0 (by decide)) hf2 rfl rfl hl.1 (As := [.int z1, .int z2]) (rest := []) rfl (Nat.le_of_ble_eq_true rfl) dX10_writeBrokenRound_3 ⟨Nat.le_of_ble_eq_true rfl, Nat.le_of_ble_eq_true rfl⟩) hA hD hS (fun r3 L4 f5 H locs hp6 hP hD hS => ?_)
  obtain ⟨eL7L, eL7T⟩ := hp6
  have eL7L : L4 = L := eL7L
  have eL7T : f5 = f := eL7T
  rw [eL7L, eL7T] at hP hD
  refine lv_istore (lv' := [(4, .int r3), (0, .ref (ad 0)), (1, .int z1), (2, .int z2), (3, .int z3)]) hx hb dX10_writeBrokenRound_6 hl (by decide) rfl (fun ls hl => ?_)
  refine lv_iconst (v := 0) hx hb dX10_writeBrokenRound_8 (by decide) ?_
  refine lv_istore (lv' := [(5, .int 0), (4, .int r3), (0, .ref (ad 0)), (1, .int z1), (2, .int z2), (3, .int z3)]) hx hb dX10_writeBrokenRound_9 hl (by decide) rfl (fun ls hl => ?_)
  have hJ11 : ∀ (k11 : Nat) (y11_l4 : Int32) (y11_l5 : Int32) (f_11 : HP) (H : Heap) (locs : List Loc) (ls : Array Slot), In y11_l4 (-2147483648) 2147483647 → In y11_l5 0 9 → va_P g.1 vwCl (va_pl L f_11) H → va_D A (va_pl L f_11) → va_S A s.heap H locs → TI g ad th f_11 → (∀ b, b ≠ (ad 3) → b ≠ (ad 4) → f_11 b = f b) → f_11 (ad 0) = .inr (9, [.ref (ad 1), .ref (ad 5), .ref (ad 6), .ref (ad 7), .ref (ad 9), .ref (ad 13), .ref (ad 14), .ref (ad 15), .ref (cr ad 0 0), .ref (cr ad 1 0), .ref (cr ad 2 0), .ref (ad 16), .ref (ad 18), .ref (ad 3), .ref (ad 24), .int v15_1, .int v16_1, .long v17_1]) → lv_has ls 8 [(0, .ref (ad 0)), (1, .int z1), (2, .int z2), (3, .int z3), (4, .int y11_l4), (5, .int y11_l5)] → 9 - y11_l5.toInt < ((k11 : Nat) : Int) → W p l e rm_X10_writeBrokenRound s m [.ref (ad 0), .int z1, .int z2, .int z3].toArray below meth c H locs 0 0 (MQ below (va_Qv (po_X10_writeBrokenRound g ad th L f z1 z2 z3) (PstB g A) A) [.ref (ad 0), .int z1, .int z2, .int z3].toArray s rm_X10_writeBrokenRound.cells rm_X10_writeBrokenRound.slots A) (F0 m 11 ls []) := by
    intro k11
    induction k11 with
    | zero =>
      intro y11_l4 y11_l5 f_11 H locs ls hy11_l4 hy11_l5 hP hD hS hT hfr hf8 hl hmz11
      exact ms0 hy11_l5 hmz11
    | succ k11 ih11 =>
      intro y11_l4 y11_l5 f_11 H locs ls hy11_l4 hy11_l5 hP hD hS hT hfr hf8 hl hmz11
      refine lv_iload hx hb dX10_writeBrokenRound_11 (lv_at hl 5 rfl) ?_
      refine lv_aload_n hx hb dX10_writeBrokenRound_13 rfl (lv_at hl 0 rfl) ?_
      refine pl_get (v := .ref (ad 6)) hx hb hts (fun w h => mT (inX10 w h)) hown hG.1 hP (hst.1 0 (by decide)) hf8 rfl 2 (by decide) (hts _ (mT wg_477)) (fun _ h => h) rfl dX10_writeBrokenRound_14 ?_
      obtain ⟨v0_9, v1_9, v2_9, v3_9, v4_9, v5_9, v6_9, v7_9, hf10, hv0_9, hg0_9, hv1_9, hg1_9, hv2_9, hv3_9, hv5_9, hv6_9, hrel0_9⟩ := hT.1 6 (by decide)
      refine pl_getN (v := .int v1_9) hx hb hts (fun w h => mT (inX2 w h)) hown hG.1 hP (hst.1 6 (by decide)) hf10 rfl 1 (by decide) (hG.2.1 _ wn_230) (fun _ h => h) rfl dX10_writeBrokenRound_17 ?_
      refine lv_icmp_ge (tgt := 197) hx hb dX10_writeBrokenRound_20 (by decide) (fun c11 => ?_) (fun c11 => ?_)
      ·
        exact ret_v hx hb hr hlocks hP hD hS (Nat.le_of_ble_eq_true rfl) (Nat.le_of_ble_eq_true rfl) (⟨rfl, hT, hfr⟩) dX10_writeBrokenRound_197
      ·
        have cc12 : y11_l5.toInt < v1_9.toInt := i32_nle c11
        have hb13 : In y11_l5 0 8 := In.lt1 hy11_l5 hv1_9 cc12 (by omega) (by omega)
        have hb14 : In v1_9 1 9 := In.lt2 hy11_l5 hv1_9 cc12 (by omega) (by omega)
        refine lv_iload_n hx hb dX10_writeBrokenRound_23 rfl (lv_at hl 2 rfl) ?_
        refine lv_aload_n hx hb dX10_writeBrokenRound_24 rfl (lv_at hl 0 rfl) ?_
        refine pl_get (v := .ref (ad 6)) hx hb hts (fun w h => mT (inX10 w h)) hown hG.1 hP (hst.1 0 (by decide)) hf8 rfl 2 (by decide) (hts _ (mT wg_477)) (fun _ h => h) rfl dX10_writeBrokenRound_25 ?_
        refine call_i (run_VN (rm := rm_X2_rounds_co) hx hb hml hown hts (s_X2_rounds_co l g ad th _ _ _  hst hT ) cV_X2_rounds wn_746 ⟨Nat.le_of_ble_eq_true rfl, Nat.le_of_ble_eq_true rfl⟩ hG hE hA hP hD hS (hst.1 6 (by decide)) hf10 rfl rfl hl.1 (As := []) (rest := [.int z2]) rfl (Nat.le_of_ble_eq_true rfl) dX10_writeBrokenRound_28 ⟨Nat.le_of_ble_eq_true rfl, Nat.le_of_ble_eq_true rfl⟩) hA hD hS (fun r15 L16 f17 H locs hp18 hP hD hS => ?_)
        obtain ⟨eL19L, eL19T, eL19R, eL19X0⟩ := hp18
        have eL19L : L16 = L := eL19L
        have eL19T : f17 = f_11 := eL19T
        rw [eL19L, eL19T] at hP hD
        have eL19R : In r15 2 3 := eL19R
        have hrn20 : r15.toInt = rnd (th 2) := eL19X0
        refine lv_iconst (v := 1) hx hb dX10_writeBrokenRound_31 (by decide) ?_
        refine lv_isub hx hb dX10_writeBrokenRound_32 ?_
        refine lv_topi (fun x21 ex21 => ?_)
        have hb22 : In x21 1 2 := ex21 ▸ In.sub eL19R (⟨by decide, by decide⟩ : In 1 1 1) (by decide) (by decide) (by decide) (by decide)
        have et23 : x21.toInt = r15.toInt + (-1) := In.sube ex21 eL19R (k := 1) (by decide) (by decide) (by decide)
        have hJ54 : ∀ (y54_s0 : Int32) (H : Heap) (locs : List Loc) (ls : Array Slot), In y54_s0 0 1 → va_P g.1 vwCl (va_pl L f_11) H → va_D A (va_pl L f_11) → va_S A s.heap H locs → lv_has ls 8 [(0, .ref (ad 0)), (1, .int z1), (2, .int z2), (3, .int z3), (4, .int y11_l4), (5, .int y11_l5)] → W p l e rm_X10_writeBrokenRound s m [.ref (ad 0), .int z1, .int z2, .int z3].toArray below meth c H locs 0 0 (MQ below (va_Qv (po_X10_writeBrokenRound g ad th L f z1 z2 z3) (PstB g A) A) [.ref (ad 0), .int z1, .int z2, .int z3].toArray s rm_X10_writeBrokenRound.cells rm_X10_writeBrokenRound.slots A) (F0 m 54 ls [.int y54_s0]) := by
          intro y54_s0 H locs ls hy54_s0 hP hD hS hl
          refine lv_istore (lv' := [(6, .int y54_s0), (0, .ref (ad 0)), (1, .int z1), (2, .int z2), (3, .int z3), (4, .int y11_l4), (5, .int y11_l5)]) hx hb dX10_writeBrokenRound_54 hl (by decide) rfl (fun ls hl => ?_)
          refine lv_iload hx hb dX10_writeBrokenRound_56 (lv_at hl 0 rfl) ?_
          have hJ191 : ∀ (y191_l4 : Int32) (f_191 : HP) (H : Heap) (locs : List Loc) (ls : Array Slot), In y191_l4 (-2147483648) 2147483647 → va_P g.1 vwCl (va_pl L f_191) H → va_D A (va_pl L f_191) → va_S A s.heap H locs → TI g ad th f_191 → (∀ b, b ≠ (ad 3) → b ≠ (ad 4) → f_191 b = f b) → f_191 (ad 0) = .inr (9, [.ref (ad 1), .ref (ad 5), .ref (ad 6), .ref (ad 7), .ref (ad 9), .ref (ad 13), .ref (ad 14), .ref (ad 15), .ref (cr ad 0 0), .ref (cr ad 1 0), .ref (cr ad 2 0), .ref (ad 16), .ref (ad 18), .ref (ad 3), .ref (ad 24), .int v15_1, .int v16_1, .long v17_1]) → f_191 (ad 6) = .inr (2, [.int v0_9, .int v1_9, .int v2_9, .int v3_9, .int v4_9, .int v5_9, .int v6_9, .int v7_9]) → lv_has ls 8 [(0, .ref (ad 0)), (1, .int z1), (2, .int z2), (3, .int z3), (4, .int y191_l4), (5, .int y11_l5), (6, .int y54_s0)] → W p l e rm_X10_writeBrokenRound s m [.ref (ad 0), .int z1, .int z2, .int z3].toArray below meth c H locs 0 0 (MQ below (va_Qv (po_X10_writeBrokenRound g ad th L f z1 z2 z3) (PstB g A) A) [.ref (ad 0), .int z1, .int z2, .int z3].toArray s rm_X10_writeBrokenRound.cells rm_X10_writeBrokenRound.slots A) (F0 m 191 ls []) := by
            intro y191_l4 f_191 H locs ls hy191_l4 hP hD hS hT hfr hf24 hf25 hl
            obtain ⟨x26, ex26⟩ : ∃ y : Int32, y = y11_l5 + 1 := ⟨_, rfl⟩
            have hb27 : In x26 1 9 := ex26 ▸ In.add hb13 (⟨by decide, by decide⟩ : In 1 1 1) (by decide) (by decide) (by decide) (by decide)
            have et28 : x26.toInt = y11_l5.toInt + 1 := In.adde ex26 hb13 (k := 1) (by decide) (by decide) (by decide)
            refine lv_iinc (v := x26) (lv' := [(5, .int x26), (0, .ref (ad 0)), (1, .int z1), (2, .int z2), (3, .int z3), (4, .int y191_l4), (6, .int y54_s0)]) hx hb dX10_writeBrokenRound_191 hl (k := 5) rfl (by rw [ex26]; rfl) (by decide) rfl (fun ls hl => ?_)
            refine lv_goto (tgt := 11) hx hb dX10_writeBrokenRound_194 (by decide) ?_
            exact ih11 y191_l4 x26 _ _ _ _ hy191_l4 (In.mono hb27 (by decide) (by decide)) hP hD hS hT hfr hf24 (lv_sub hl [1, 2, 3, 4, 5, 0] rfl) (msu et28 (by decide) hmz11)
          refine lv_if_ne (tgt := 191) hx hb dX10_writeBrokenRound_58 (by decide) (fun c29 => ?_) (fun c29 => ?_)
          ·
            have cc30 : y54_s0.toInt ≠ (0 : Int32).toInt := i32_ne c29
            have hb31 : In y54_s0 1 1 := In.ne1 hy54_s0 (⟨by decide, by decide⟩ : In 0 0 0) cc30 (by omega) (by omega)
            exact hJ191 y11_l4 _ _ _ _ hy11_l4 hP hD hS hT hfr hf8 hf10 (lv_sub hl [1, 2, 3, 4, 5, 6, 0] rfl)
          ·
            have cc32 : y54_s0.toInt = (0 : Int32).toInt := congrArg Int32.toInt c29
            have hb33 : In y54_s0 0 0 := In.eq1 hy54_s0 (⟨by decide, by decide⟩ : In 0 0 0) cc32 (by omega) (by omega)
            refine lv_aload_n hx hb dX10_writeBrokenRound_61 rfl (lv_at hl 1 rfl) ?_
            refine pl_get (v := .ref (cr ad 0 0)) hx hb hts (fun w h => mT (inX10 w h)) hown hG.1 hP (hst.1 0 (by decide)) hf8 rfl 8 (by decide) (hts _ (mT wg_483)) (fun _ h => h) rfl dX10_writeBrokenRound_62 ?_
            obtain ⟨v0_34, v1_34, v2_34, v3_34, v4_34, v5_34, v6_34, v7_34, v8_34, hf35, hv1_34, hg1_34, hv2_34, hg2_34, hv6_34⟩ := hT.2.1 0 (by decide) 0 (by decide)
            refine pl_getN (v := .int v1_34) hx hb hts (fun w h => mT (inX3 w h)) hown hG.1 hP (hst.c (by decide) (by decide)) hf35 rfl 1 (by decide) (hG.2.1 _ wn_339) (fun _ h => h) rfl dX10_writeBrokenRound_65 ?_
            refine lv_iload hx hb dX10_writeBrokenRound_68 (lv_at hl 6 rfl) ?_
            refine call_i (run_S (rm := rm_X10_bit) hx hb hml hown hts (s_X10_bit l g ad th _ _ _ v1_34 y11_l5 hst hT ) cS_X10_bit wg_901 ⟨Nat.le_of_ble_eq_true rfl, Nat.le_of_ble_eq_true rfl⟩ hG hE hA hP hD hS rfl hl.1 (As := [.int v1_34, .int y11_l5]) (rest := []) rfl (Nat.le_of_ble_eq_true rfl) dX10_writeBrokenRound_70 ⟨Nat.le_of_ble_eq_true rfl, Nat.le_of_ble_eq_true rfl⟩) hA hD hS (fun r36 L37 f38 H locs hp39 hP hD hS => ?_)
            obtain ⟨eL40L, eL40T, eL40R, eL40X0⟩ := hp39
            have eL40L : L37 = L := eL40L
            have eL40T : f38 = f_11 := eL40T
            rw [eL40L, eL40T] at hP hD
            have eL40R : In r36 0 1 := eL40R
            refine lv_if_ne (tgt := 79) hx hb dX10_writeBrokenRound_73 (by decide) (fun c41 => ?_) (fun c41 => ?_)
            ·
              have cc42 : r36.toInt ≠ (0 : Int32).toInt := i32_ne c41
              have hb43 : In r36 1 1 := In.ne1 eL40R (⟨by decide, by decide⟩ : In 0 0 0) cc42 (by omega) (by omega)
              refine lv_iconst (v := 0) hx hb dX10_writeBrokenRound_79 (by decide) ?_
              refine lv_istore (lv' := [(7, .int 0), (6, .int y54_s0), (0, .ref (ad 0)), (1, .int z1), (2, .int z2), (3, .int z3), (4, .int y11_l4), (5, .int y11_l5)]) hx hb dX10_writeBrokenRound_80 hl (by decide) rfl (fun ls hl => ?_)
              have hJ82 : ∀ (k82 : Nat) (y82_l4 : Int32) (y82_l7 : Int32) (f_82 : HP) (H : Heap) (locs : List Loc) (ls : Array Slot), In y82_l4 (-2147483648) 2147483647 → In y82_l7 0 9 → va_P g.1 vwCl (va_pl L f_82) H → va_D A (va_pl L f_82) → va_S A s.heap H locs → TI g ad th f_82 → (∀ b, b ≠ (ad 3) → b ≠ (ad 4) → f_82 b = f b) → f_82 (ad 0) = .inr (9, [.ref (ad 1), .ref (ad 5), .ref (ad 6), .ref (ad 7), .ref (ad 9), .ref (ad 13), .ref (ad 14), .ref (ad 15), .ref (cr ad 0 0), .ref (cr ad 1 0), .ref (cr ad 2 0), .ref (ad 16), .ref (ad 18), .ref (ad 3), .ref (ad 24), .int v15_1, .int v16_1, .long v17_1]) → f_82 (ad 6) = .inr (2, [.int v0_9, .int v1_9, .int v2_9, .int v3_9, .int v4_9, .int v5_9, .int v6_9, .int v7_9]) → f_82 (cr ad 0 0) = .inr (3, [.int v0_34, .int v1_34, .int v2_34, .int v3_34, .int v4_34, .int v5_34, .int v6_34, .long v7_34, .long v8_34, .ref (cr ad 0 1), .ref (cr ad 0 2), .ref (cr ad 0 3), .ref (cr ad 0 4), .ref (cr ad 0 5), .ref (cr ad 0 6), .ref (cr ad 0 7), .ref (cr ad 0 8), .ref (cr ad 0 9)]) → lv_has ls 8 [(0, .ref (ad 0)), (1, .int z1), (2, .int z2), (3, .int z3), (4, .int y82_l4), (5, .int y11_l5), (6, .int y54_s0), (7, .int y82_l7)] → 9 - y82_l7.toInt < ((k82 : Nat) : Int) → W p l e rm_X10_writeBrokenRound s m [.ref (ad 0), .int z1, .int z2, .int z3].toArray below meth c H locs 0 0 (MQ below (va_Qv (po_X10_writeBrokenRound g ad th L f z1 z2 z3) (PstB g A) A) [.ref (ad 0), .int z1, .int z2, .int z3].toArray s rm_X10_writeBrokenRound.cells rm_X10_writeBrokenRound.slots A) (F0 m 82 ls []) := by
                intro k82
                induction k82 with
                | zero =>
                  intro y82_l4 y82_l7 f_82 H locs ls hy82_l4 hy82_l7 hP hD hS hT hfr hf44 hf45 hf46 hl hmz82
                  exact ms0 hy82_l7 hmz82
                | succ k82 ih82 =>
                  intro y82_l4 y82_l7 f_82 H locs ls hy82_l4 hy82_l7 hP hD hS hT hfr hf44 hf45 hf46 hl hmz82
                  refine lv_iload hx hb dX10_writeBrokenRound_82 (lv_at hl 7 rfl) ?_
                  refine lv_aload_n hx hb dX10_writeBrokenRound_84 rfl (lv_at hl 0 rfl) ?_
                  refine pl_get (v := .ref (ad 6)) hx hb hts (fun w h => mT (inX10 w h)) hown hG.1 hP (hst.1 0 (by decide)) hf44 rfl 2 (by decide) (hts _ (mT wg_477)) (fun _ h => h) rfl dX10_writeBrokenRound_85 ?_
                  refine pl_getN (v := .int v1_9) hx hb hts (fun w h => mT (inX2 w h)) hown hG.1 hP (hst.1 6 (by decide)) hf45 rfl 1 (by decide) (hG.2.1 _ wn_230) (fun _ h => h) rfl dX10_writeBrokenRound_88 ?_
                  refine lv_icmp_ge (tgt := 191) hx hb dX10_writeBrokenRound_91 (by decide) (fun c47 => ?_) (fun c47 => ?_)
                  ·
                    have cc48 : v1_9.toInt ≤ y82_l7.toInt := i32_le.mp c47
                    have hb49 : In y82_l7 1 9 := In.ge1 hy82_l7 hb14 cc48 (by omega) (by omega)
                    exact hJ191 y82_l4 _ _ _ _ hy82_l4 hP hD hS hT hfr hf44 hf45 (lv_sub hl [0, 1, 2, 3, 4, 5, 6] rfl)
                  ·
                    have cc50 : y82_l7.toInt < v1_9.toInt := i32_nle c47
                    have hb51 : In y82_l7 0 8 := In.lt1 hy82_l7 hb14 cc50 (by omega) (by omega)
                    refine lv_aload_n hx hb dX10_writeBrokenRound_94 rfl (lv_at hl 0 rfl) ?_
                    refine pl_get (v := .ref (cr ad 0 0)) hx hb hts (fun w h => mT (inX10 w h)) hown hG.1 hP (hst.1 0 (by decide)) hf44 rfl 8 (by decide) (hts _ (mT wg_483)) (fun _ h => h) rfl dX10_writeBrokenRound_95 ?_
                    refine pl_getN (v := .int v1_34) hx hb hts (fun w h => mT (inX3 w h)) hown hG.1 hP (hst.c (by decide) (by decide)) hf46 rfl 1 (by decide) (hG.2.1 _ wn_339) (fun _ h => h) rfl dX10_writeBrokenRound_98 ?_
                    refine lv_iload hx hb dX10_writeBrokenRound_101 (lv_at hl 7 rfl) ?_
                    refine call_i (run_S (rm := rm_X10_bit) hx hb hml hown hts (s_X10_bit l g ad th _ _ _ v1_34 y82_l7 hst hT ) cS_X10_bit wg_901 ⟨Nat.le_of_ble_eq_true rfl, Nat.le_of_ble_eq_true rfl⟩ hG hE hA hP hD hS rfl hl.1 (As := [.int v1_34, .int y82_l7]) (rest := []) rfl (Nat.le_of_ble_eq_true rfl) dX10_writeBrokenRound_103 ⟨Nat.le_of_ble_eq_true rfl, Nat.le_of_ble_eq_true rfl⟩) hA hD hS (fun r52 L53 f54 H locs hp55 hP hD hS => ?_)
                    obtain ⟨eL56L, eL56T, eL56R, eL56X0⟩ := hp55
                    have eL56L : L53 = L := eL56L
                    have eL56T : f54 = f_82 := eL56T
                    rw [eL56L, eL56T] at hP hD
                    have eL56R : In r52 0 1 := eL56R
                    have hJ185 : ∀ (y185_l4 : Int32) (f_185 : HP) (H : Heap) (locs : List Loc) (ls : Array Slot), In y185_l4 (-2147483648) 2147483647 → va_P g.1 vwCl (va_pl L f_185) H → va_D A (va_pl L f_185) → va_S A s.heap H locs → TI g ad th f_185 → (∀ b, b ≠ (ad 3) → b ≠ (ad 4) → f_185 b = f b) → f_185 (ad 0) = .inr (9, [.ref (ad 1), .ref (ad 5), .ref (ad 6), .ref (ad 7), .ref (ad 9), .ref (ad 13), .ref (ad 14), .ref (ad 15), .ref (cr ad 0 0), .ref (cr ad 1 0), .ref (cr ad 2 0), .ref (ad 16), .ref (ad 18), .ref (ad 3), .ref (ad 24), .int v15_1, .int v16_1, .long v17_1]) → f_185 (ad 6) = .inr (2, [.int v0_9, .int v1_9, .int v2_9, .int v3_9, .int v4_9, .int v5_9, .int v6_9, .int v7_9]) → f_185 (cr ad 0 0) = .inr (3, [.int v0_34, .int v1_34, .int v2_34, .int v3_34, .int v4_34, .int v5_34, .int v6_34, .long v7_34, .long v8_34, .ref (cr ad 0 1), .ref (cr ad 0 2), .ref (cr ad 0 3), .ref (cr ad 0 4), .ref (cr ad 0 5), .ref (cr ad 0 6), .ref (cr ad 0 7), .ref (cr ad 0 8), .ref (cr ad 0 9)]) → lv_has ls 8 [(0, .ref (ad 0)), (1, .int z1), (2, .int z2), (3, .int z3), (4, .int y185_l4), (5, .int y11_l5), (6, .int y54_s0), (7, .int y82_l7)] → W p l e rm_X10_writeBrokenRound s m [.ref (ad 0), .int z1, .int z2, .int z3].toArray below meth c H locs 0 0 (MQ below (va_Qv (po_X10_writeBrokenRound g ad th L f z1 z2 z3) (PstB g A) A) [.ref (ad 0), .int z1, .int z2, .int z3].toArray s rm_X10_writeBrokenRound.cells rm_X10_writeBrokenRound.slots A) (F0 m 185 ls []) := by
                      intro y185_l4 f_185 H locs ls hy185_l4 hP hD hS hT hfr hf57 hf58 hf59 hl
                      obtain ⟨x60, ex60⟩ : ∃ y : Int32, y = y82_l7 + 1 := ⟨_, rfl⟩
                      have hb61 : In x60 1 9 := ex60 ▸ In.add hb51 (⟨by decide, by decide⟩ : In 1 1 1) (by decide) (by decide) (by decide) (by decide)
                      have et62 : x60.toInt = y82_l7.toInt + 1 := In.adde ex60 hb51 (k := 1) (by decide) (by decide) (by decide)
                      refine lv_iinc (v := x60) (lv' := [(7, .int x60), (0, .ref (ad 0)), (1, .int z1), (2, .int z2), (3, .int z3), (4, .int y185_l4), (5, .int y11_l5), (6, .int y54_s0)]) hx hb dX10_writeBrokenRound_185 hl (k := 7) rfl (by rw [ex60]; rfl) (by decide) rfl (fun ls hl => ?_)
                      refine lv_goto (tgt := 82) hx hb dX10_writeBrokenRound_188 (by decide) ?_
                      exact ih82 y185_l4 x60 _ _ _ _ hy185_l4 (In.mono hb61 (by decide) (by decide)) hP hD hS hT hfr hf57 hf58 hf59 (lv_sub hl [1, 2, 3, 4, 5, 6, 7, 0] rfl) (msu et62 (by decide) hmz82)
                    refine lv_if_ne (tgt := 185) hx hb dX10_writeBrokenRound_106 (by decide) (fun c63 => ?_) (fun c63 => ?_)
                    ·
                      have cc64 : r52.toInt ≠ (0 : Int32).toInt := i32_ne c63
                      have hb65 : In r52 1 1 := In.ne1 eL56R (⟨by decide, by decide⟩ : In 0 0 0) cc64 (by omega) (by omega)
                      exact hJ185 y82_l4 _ _ _ _ hy82_l4 hP hD hS hT hfr hf44 hf45 hf46 (lv_sub hl [0, 1, 2, 3, 4, 5, 6, 7] rfl)
                    ·
                      have cc66 : r52.toInt = (0 : Int32).toInt := congrArg Int32.toInt c63
                      have hb67 : In r52 0 0 := In.eq1 eL56R (⟨by decide, by decide⟩ : In 0 0 0) cc66 (by omega) (by omega)
                      refine lv_aload_n hx hb dX10_writeBrokenRound_109 rfl (lv_at hl 0 rfl) ?_
                      refine pl_get (v := .ref (ad 3)) hx hb hts (fun w h => mT (inX10 w h)) hown hG.1 hP (hst.1 0 (by decide)) hf44 rfl 13 (by decide) (hts _ (mT wg_488)) (fun _ h => h) rfl dX10_writeBrokenRound_110 ?_
                      refine lv_iload hx hb dX10_writeBrokenRound_113 (lv_at hl 4 rfl) ?_
                      have hJ127 : ∀ (y127_s0 : Nat) (H : Heap) (locs : List Loc) (ls : Array Slot), y127_s0 < nS → va_P g.1 vwCl (va_pl L f_82) H → va_D A (va_pl L f_82) → va_S A s.heap H locs → lv_has ls 8 [(0, .ref (ad 0)), (1, .int z1), (2, .int z2), (3, .int z3), (4, .int y82_l4), (5, .int y11_l5), (6, .int y54_s0), (7, .int y82_l7)] → W p l e rm_X10_writeBrokenRound s m [.ref (ad 0), .int z1, .int z2, .int z3].toArray below meth c H locs 0 0 (MQ below (va_Qv (po_X10_writeBrokenRound g ad th L f z1 z2 z3) (PstB g A) A) [.ref (ad 0), .int z1, .int z2, .int z3].toArray s rm_X10_writeBrokenRound.cells rm_X10_writeBrokenRound.slots A) (F0 m 127 ls [.ref (g.2.2.1 y127_s0), .ref (ad 3)]) := by
                        intro y127_s0 H locs ls hi_y127_s0 hP hD hS hl
                        refine lv_iload_n hx hb dX10_writeBrokenRound_127 rfl (lv_at hl 1 rfl) ?_
                        obtain ⟨v1_68, v2_68, v3_68, v4_68, hf69, hv1_68, hv2_68, hv3_68, hv4_68⟩ := hT.1 3 (by decide)
                        refine call_v (run_VN (rm := rm_X8_writeNumber) hx hb hml hown hts (s_X8_writeNumber l g ad th _ _ _ y127_s0 z1 hst hT hi_y127_s0) cV_X8_writeNumber wn_1137 ⟨Nat.le_of_ble_eq_true rfl, Nat.le_of_ble_eq_true rfl⟩ hG hE hA hP hD hS (hst.1 3 (by decide)) hf69 rfl rfl hl.1 (As := [.ref (g.2.2.1 y127_s0), .int z1]) (rest := []) rfl (Nat.le_of_ble_eq_true rfl) dX10_writeBrokenRound_128 ⟨Nat.le_of_ble_eq_true rfl, Nat.le_of_ble_eq_true rfl⟩) hA hD hS (fun L71 f72 H locs hp73 hP hD hS => ?_)
                        obtain ⟨eL74L, eL74T, eL74F⟩ := hp73
                        have eL74L : L71 = L := eL74L
                        rw [eL74L] at hP hD
                        have hT : TI g ad th f72 := eL74T
                        have eL74F : ∀ b, b ≠ (ad 3) → b ≠ (ad 4) → f72 b = f_82 b := eL74F
                        have hf75 := (eL74F (ad 0) (hst.ne (by decide) (by decide) (by decide)) (hst.ne (by decide) (by decide) (by decide))).trans hf44
                        have hf76 := (eL74F (ad 6) (hst.ne (by decide) (by decide) (by decide)) (hst.ne (by decide) (by decide) (by decide))).trans hf45
                        have hf77 := (eL74F (cr ad 0 0) (hst.ne (by omega) (by omega) (by omega)) (hst.ne (by omega) (by omega) (by omega))).trans hf46
                        have hfr : (∀ b, b ≠ (ad 3) → b ≠ (ad 4) → f72 b = f b) := fun b z0_ z1_ => (eL74F b z0_ z1_).trans (hfr b z0_ z1_)
                        refine lv_aload_n hx hb dX10_writeBrokenRound_131 rfl (lv_at hl 0 rfl) ?_
                        refine pl_get (v := .ref (ad 3)) hx hb hts (fun w h => mT (inX10 w h)) hown hG.1 hP (hst.1 0 (by decide)) hf75 rfl 13 (by decide) (hts _ (mT wg_488)) (fun _ h => h) rfl dX10_writeBrokenRound_132 ?_
                        refine va_ldcSw hx hb hown (hG.2.2.1 ("RulerWord", 414, " round ", 18) (by decide +kernel)) dX10_writeBrokenRound_135 ?_
                        refine lv_iload_n hx hb dX10_writeBrokenRound_138 rfl (lv_at hl 2 rfl) ?_
                        obtain ⟨v1_78, v2_78, v3_78, v4_78, hf79, hv1_78, hv2_78, hv3_78, hv4_78⟩ := hT.1 3 (by decide)
                        refine call_v (run_VN (rm := rm_X8_writeNumber) hx hb hml hown hts (s_X8_writeNumber l g ad th _ _ _ 18 z2 hst hT (by decide)) cV_X8_writeNumber wn_1137 ⟨Nat.le_of_ble_eq_true rfl, Nat.le_of_ble_eq_true rfl⟩ hG hE hA hP hD hS (hst.1 3 (by decide)) hf79 rfl rfl hl.1 (As := [.ref (g.2.2.1 18), .int z2]) (rest := []) rfl (Nat.le_of_ble_eq_true rfl) dX10_writeBrokenRound_139 ⟨Nat.le_of_ble_eq_true rfl, Nat.le_of_ble_eq_true rfl⟩) hA hD hS (fun L81 f82 H locs hp83 hP hD hS => ?_)
                        obtain ⟨eL84L, eL84T, eL84F⟩ := hp83
                        have eL84L : L81 = L := eL84L
                        rw [eL84L] at hP hD
                        have hT : TI g ad th f82 := eL84T
                        have eL84F : ∀ b, b ≠ (ad 3) → b ≠ (ad 4) → f82 b = f72 b := eL84F
                        have hf85 := (eL84F (ad 0) (hst.ne (by decide) (by decide) (by decide)) (hst.ne (by decide) (by decide) (by decide))).trans hf75
                        have hf86 := (eL84F (ad 6) (hst.ne (by decide) (by decide) (by decide)) (hst.ne (by decide) (by decide) (by decide))).trans hf76
                        have hf87 := (eL84F (cr ad 0 0) (hst.ne (by omega) (by omega) (by omega)) (hst.ne (by omega) (by omega) (by omega))).trans hf77
                        have hfr : (∀ b, b ≠ (ad 3) → b ≠ (ad 4) → f82 b = f b) := fun b z0_ z1_ => (eL84F b z0_ z1_).trans (hfr b z0_ z1_)
                        refine lv_aload_n hx hb dX10_writeBrokenRound_142 rfl (lv_at hl 0 rfl) ?_
                        refine pl_get (v := .ref (ad 3)) hx hb hts (fun w h => mT (inX10 w h)) hown hG.1 hP (hst.1 0 (by decide)) hf85 rfl 13 (by decide) (hts _ (mT wg_488)) (fun _ h => h) rfl dX10_writeBrokenRound_143 ?_
                        refine va_ldcSw hx hb hown (hG.2.2.1 ("RulerWord", 416, " from ", 19) (by decide +kernel)) dX10_writeBrokenRound_146 ?_
                        refine lv_iload hx hb dX10_writeBrokenRound_149 (lv_at hl 5 rfl) ?_
                        obtain ⟨v1_88, v2_88, v3_88, v4_88, hf89, hv1_88, hv2_88, hv3_88, hv4_88⟩ := hT.1 3 (by decide)
                        refine call_v (run_VN (rm := rm_X8_writeNumber) hx hb hml hown hts (s_X8_writeNumber l g ad th _ _ _ 19 y11_l5 hst hT (by decide)) cV_X8_writeNumber wn_1137 ⟨Nat.le_of_ble_eq_true rfl, Nat.le_of_ble_eq_true rfl⟩ hG hE hA hP hD hS (hst.1 3 (by decide)) hf89 rfl rfl hl.1 (As := [.ref (g.2.2.1 19), .int y11_l5]) (rest := []) rfl (Nat.le_of_ble_eq_true rfl) dX10_writeBrokenRound_151 ⟨Nat.le_of_ble_eq_true rfl, Nat.le_of_ble_eq_true rfl⟩) hA hD hS (fun L91 f92 H locs hp93 hP hD hS => ?_)
                        obtain ⟨eL94L, eL94T, eL94F⟩ := hp93
                        have eL94L : L91 = L := eL94L
                        rw [eL94L] at hP hD
                        have hT : TI g ad th f92 := eL94T
                        have eL94F : ∀ b, b ≠ (ad 3) → b ≠ (ad 4) → f92 b = f82 b := eL94F
                        have hf95 := (eL94F (ad 0) (hst.ne (by decide) (by decide) (by decide)) (hst.ne (by decide) (by decide) (by decide))).trans hf85
                        have hf96 := (eL94F (ad 6) (hst.ne (by decide) (by decide) (by decide)) (hst.ne (by decide) (by decide) (by decide))).trans hf86
                        have hf97 := (eL94F (cr ad 0 0) (hst.ne (by omega) (by omega) (by omega)) (hst.ne (by omega) (by omega) (by omega))).trans hf87
                        have hfr : (∀ b, b ≠ (ad 3) → b ≠ (ad 4) → f92 b = f b) := fun b z0_ z1_ => (eL94F b z0_ z1_).trans (hfr b z0_ z1_)
                        refine lv_aload_n hx hb dX10_writeBrokenRound_154 rfl (lv_at hl 0 rfl) ?_
                        refine pl_get (v := .ref (ad 3)) hx hb hts (fun w h => mT (inX10 w h)) hown hG.1 hP (hst.1 0 (by decide)) hf95 rfl 13 (by decide) (hts _ (mT wg_488)) (fun _ h => h) rfl dX10_writeBrokenRound_155 ?_
                        refine va_ldcSw hx hb hown (hG.2.2.1 ("RulerWord", 418, " to ", 20) (by decide +kernel)) dX10_writeBrokenRound_158 ?_
                        refine lv_iload hx hb dX10_writeBrokenRound_161 (lv_at hl 7 rfl) ?_
                        obtain ⟨v1_98, v2_98, v3_98, v4_98, hf99, hv1_98, hv2_98, hv3_98, hv4_98⟩ := hT.1 3 (by decide)
                        refine call_v (run_VN (rm := rm_X8_writeNumber) hx hb hml hown hts (s_X8_writeNumber l g ad th _ _ _ 20 y82_l7 hst hT (by decide)) cV_X8_writeNumber wn_1137 ⟨Nat.le_of_ble_eq_true rfl, Nat.le_of_ble_eq_true rfl⟩ hG hE hA hP hD hS (hst.1 3 (by decide)) hf99 rfl rfl hl.1 (As := [.ref (g.2.2.1 20), .int y82_l7]) (rest := []) rfl (Nat.le_of_ble_eq_true rfl) dX10_writeBrokenRound_163 ⟨Nat.le_of_ble_eq_true rfl, Nat.le_of_ble_eq_true rfl⟩) hA hD hS (fun L101 f102 H locs hp103 hP hD hS => ?_)
                        obtain ⟨eL104L, eL104T, eL104F⟩ := hp103
                        have eL104L : L101 = L := eL104L
                        rw [eL104L] at hP hD
                        have hT : TI g ad th f102 := eL104T
                        have eL104F : ∀ b, b ≠ (ad 3) → b ≠ (ad 4) → f102 b = f92 b := eL104F
                        have hf105 := (eL104F (ad 0) (hst.ne (by decide) (by decide) (by decide)) (hst.ne (by decide) (by decide) (by decide))).trans hf95
                        have hf106 := (eL104F (ad 6) (hst.ne (by decide) (by decide) (by decide)) (hst.ne (by decide) (by decide) (by decide))).trans hf96
                        have hf107 := (eL104F (cr ad 0 0) (hst.ne (by omega) (by omega) (by omega)) (hst.ne (by omega) (by omega) (by omega))).trans hf97
                        have hfr : (∀ b, b ≠ (ad 3) → b ≠ (ad 4) → f102 b = f b) := fun b z0_ z1_ => (eL104F b z0_ z1_).trans (hfr b z0_ z1_)
                        refine lv_aload_n hx hb dX10_writeBrokenRound_166 rfl (lv_at hl 0 rfl) ?_
                        refine pl_get (v := .ref (ad 3)) hx hb hts (fun w h => mT (inX10 w h)) hown hG.1 hP (hst.1 0 (by decide)) hf105 rfl 13 (by decide) (hts _ (mT wg_488)) (fun _ h => h) rfl dX10_writeBrokenRound_167 ?_
                        refine va_ldcSw hx hb hown (hG.2.2.1 ("RulerWord", 420, " ", 21) (by decide +kernel)) dX10_writeBrokenRound_170 ?_
                        refine lv_iload_n hx hb dX10_writeBrokenRound_173 rfl (lv_at hl 3 rfl) ?_
                        refine lv_iload hx hb dX10_writeBrokenRound_174 (lv_at hl 4 rfl) ?_
                        refine call_i (run_S (rm := rm_X10_bit) hx hb hml hown hts (s_X10_bit l g ad th _ _ _ z3 y82_l4 hst hT ) cS_X10_bit wg_901 ⟨Nat.le_of_ble_eq_true rfl, Nat.le_of_ble_eq_true rfl⟩ hG hE hA hP hD hS rfl hl.1 (As := [.int z3, .int y82_l4]) (rest := [.ref (g.2.2.1 21), .ref (ad 3)]) rfl (Nat.le_of_ble_eq_true rfl) dX10_writeBrokenRound_176 ⟨Nat.le_of_ble_eq_true rfl, Nat.le_of_ble_eq_true rfl⟩) hA hD hS (fun r108 L109 f110 H locs hp111 hP hD hS => ?_)
                        obtain ⟨eL112L, eL112T, eL112R, eL112X0⟩ := hp111
                        have eL112L : L109 = L := eL112L
                        have eL112T : f110 = f102 := eL112T
                        rw [eL112L, eL112T] at hP hD
                        have eL112R : In r108 0 1 := eL112R
                        obtain ⟨v1_113, v2_113, v3_113, v4_113, hf114, hv1_113, hv2_113, hv3_113, hv4_113⟩ := hT.1 3 (by decide)
                        refine call_v (run_VN (rm := rm_X8_writeNumber) hx hb hml hown hts (s_X8_writeNumber l g ad th _ _ _ 21 r108 hst hT (by decide)) cV_X8_writeNumber wn_1137 ⟨Nat.le_of_ble_eq_true rfl, Nat.le_of_ble_eq_true rfl⟩ hG hE hA hP hD hS (hst.1 3 (by decide)) hf114 rfl rfl hl.1 (As := [.ref (g.2.2.1 21), .int r108]) (rest := []) rfl (Nat.le_of_ble_eq_true rfl) dX10_writeBrokenRound_179 ⟨Nat.le_of_ble_eq_true rfl, Nat.le_of_ble_eq_true rfl⟩) hA hD hS (fun L116 f117 H locs hp118 hP hD hS => ?_)
                        obtain ⟨eL119L, eL119T, eL119F⟩ := hp118
                        have eL119L : L116 = L := eL119L
                        rw [eL119L] at hP hD
                        have hT : TI g ad th f117 := eL119T
                        have eL119F : ∀ b, b ≠ (ad 3) → b ≠ (ad 4) → f117 b = f102 b := eL119F
                        have hf120 := (eL119F (ad 0) (hst.ne (by decide) (by decide) (by decide)) (hst.ne (by decide) (by decide) (by decide))).trans hf105
                        have hf121 := (eL119F (ad 6) (hst.ne (by decide) (by decide) (by decide)) (hst.ne (by decide) (by decide) (by decide))).trans hf106
                        have hf122 := (eL119F (cr ad 0 0) (hst.ne (by omega) (by omega) (by omega)) (hst.ne (by omega) (by omega) (by omega))).trans hf107
                        have hfr : (∀ b, b ≠ (ad 3) → b ≠ (ad 4) → f117 b = f b) := fun b z0_ z1_ => (eL119F b z0_ z1_).trans (hfr b z0_ z1_)
                        obtain ⟨x123, ex123⟩ : ∃ y : Int32, y = y82_l4 + 1 := ⟨_, rfl⟩
                        refine lv_iinc (v := x123) (lv' := [(4, .int x123), (0, .ref (ad 0)), (1, .int z1), (2, .int z2), (3, .int z3), (5, .int y11_l5), (6, .int y54_s0), (7, .int y82_l7)]) hx hb dX10_writeBrokenRound_182 hl (k := 4) rfl (by rw [ex123]; rfl) (by decide) rfl (fun ls hl => ?_)
                        exact hJ185 x123 _ _ _ _ (In.full x123) hP hD hS hT hfr hf120 hf121 hf122 (lv_sub hl [1, 2, 3, 4, 0, 5, 6, 7] rfl)
                      refine lv_if_ne (tgt := 124) hx hb dX10_writeBrokenRound_115 (by decide) (fun c124 => ?_) (fun c124 => ?_)
                      ·
                        refine va_ldcSw hx hb hown (hG.2.2.1 ("RulerWord", 412, ";phase ", 17) (by decide +kernel)) dX10_writeBrokenRound_124 ?_
                        exact hJ127 17 _ _ _ (by decide) hP hD hS (lv_sub hl [0, 1, 2, 3, 4, 5, 6, 7] rfl)
                      ·
                        have cc125 : y82_l4.toInt = (0 : Int32).toInt := congrArg Int32.toInt c124
                        have hb126 : In y82_l4 0 0 := In.eq1 hy82_l4 (⟨by decide, by decide⟩ : In 0 0 0) cc125 (by omega) (by omega)
                        refine va_ldcSw hx hb hown (hG.2.2.1 ("RulerWord", 354, "phase ", 16) (by decide +kernel)) dX10_writeBrokenRound_118 ?_
                        refine lv_goto (tgt := 127) hx hb dX10_writeBrokenRound_121 (by decide) ?_
                        exact hJ127 16 _ _ _ (by decide) hP hD hS (lv_sub hl [0, 1, 2, 3, 4, 5, 6, 7] rfl)
              exact hJ82 ((9 - (0 : Int32).toInt).toNat + 1) y11_l4 0 _ _ _ _ hy11_l4 (⟨by decide, by decide⟩ : In 0 0 9) hP hD hS hT hfr hf8 hf10 hf35 (lv_sub hl [2, 3, 4, 5, 6, 7, 1, 0] rfl) (msI _)
            ·
              have cc127 : r36.toInt = (0 : Int32).toInt := congrArg Int32.toInt c41
              have hb128 : In r36 0 0 := In.eq1 eL40R (⟨by decide, by decide⟩ : In 0 0 0) cc127 (by omega) (by omega)
              refine lv_goto (tgt := 191) hx hb dX10_writeBrokenRound_76 (by decide) ?_
              exact hJ191 y11_l4 _ _ _ _ hy11_l4 hP hD hS hT hfr hf8 hf10 (lv_sub hl [1, 2, 3, 4, 5, 6, 0] rfl)
        have hJ53 : ∀ (H : Heap) (locs : List Loc) (ls : Array Slot), va_P g.1 vwCl (va_pl L f_11) H → va_D A (va_pl L f_11) → va_S A s.heap H locs → lv_has ls 8 [(0, .ref (ad 0)), (1, .int z1), (2, .int z2), (3, .int z3), (4, .int y11_l4), (5, .int y11_l5)] → W p l e rm_X10_writeBrokenRound s m [.ref (ad 0), .int z1, .int z2, .int z3].toArray below meth c H locs 0 0 (MQ below (va_Qv (po_X10_writeBrokenRound g ad th L f z1 z2 z3) (PstB g A) A) [.ref (ad 0), .int z1, .int z2, .int z3].toArray s rm_X10_writeBrokenRound.cells rm_X10_writeBrokenRound.slots A) (F0 m 53 ls []) := by
          intro H locs ls hP hD hS hl
          refine lv_iconst (v := 0) hx hb dX10_writeBrokenRound_53 (by decide) ?_
          exact hJ54 0 _ _ _ (⟨by decide, by decide⟩ : In 0 0 1) hP hD hS (lv_sub hl [0, 1, 2, 3, 4, 5] rfl)
        refine lv_icmp_ne (tgt := 53) hx hb dX10_writeBrokenRound_33 (by decide) (fun c129 => ?_) (fun c129 => ?_)
        ·
          exact hJ53 _ _ _ hP hD hS (lv_sub hl [0, 1, 2, 3, 4, 5] rfl)
        ·
          have cc130 : z2.toInt = x21.toInt := congrArg Int32.toInt c129
          have hb131 : In z2 1 2 := In.eq1 hz2 hb22 cc130 (by omega) (by omega)
          refine lv_iload hx hb dX10_writeBrokenRound_36 (lv_at hl 5 rfl) ?_
          refine lv_aload_n hx hb dX10_writeBrokenRound_38 rfl (lv_at hl 0 rfl) ?_
          refine pl_get (v := .ref (ad 6)) hx hb hts (fun w h => mT (inX10 w h)) hown hG.1 hP (hst.1 0 (by decide)) hf8 rfl 2 (by decide) (hts _ (mT wg_477)) (fun _ h => h) rfl dX10_writeBrokenRound_39 ?_
          refine lv_iload_n hx hb dX10_writeBrokenRound_42 rfl (lv_at hl 1 rfl) ?_
          refine call_i (run_VN (rm := rm_X2_ruler_co) hx hb hml hown hts (s_X2_ruler_co l g ad th _ _ _ z1 hst hT (In.mono hz1 (by decide) (by decide))) cV_X2_ruler wn_938 ⟨Nat.le_of_ble_eq_true rfl, Nat.le_of_ble_eq_true rfl⟩ hG hE hA hP hD hS (hst.1 6 (by decide)) hf10 rfl rfl hl.1 (As := [.int z1]) (rest := [.int y11_l5]) rfl (Nat.le_of_ble_eq_true rfl) dX10_writeBrokenRound_43 ⟨Nat.le_of_ble_eq_true rfl, Nat.le_of_ble_eq_true rfl⟩) hA hD hS (fun r132 L133 f134 H locs hp135 hP hD hS => ?_)
          obtain ⟨eL136L, eL136T, eL136R⟩ := hp135
          have eL136L : L133 = L := eL136L
          have eL136T : f134 = f_11 := eL136T
          rw [eL136L, eL136T] at hP hD
          have eL136R : In r132 0 8 := eL136R
          refine lv_icmp_eq (tgt := 53) hx hb dX10_writeBrokenRound_46 (by decide) (fun c137 => ?_) (fun c137 => ?_)
          ·
            exact hJ53 _ _ _ hP hD hS (lv_sub hl [0, 1, 2, 3, 4, 5] rfl)
          ·
            refine lv_iconst (v := 1) hx hb dX10_writeBrokenRound_49 (by decide) ?_
            refine lv_goto (tgt := 54) hx hb dX10_writeBrokenRound_50 (by decide) ?_
            exact hJ54 1 _ _ _ (⟨by decide, by decide⟩ : In 1 0 1) hP hD hS (lv_sub hl [0, 1, 2, 3, 4, 5] rfl)
  exact hJ11 ((9 - (0 : Int32).toInt).toNat + 1) r3 0 _ _ _ _ (In.full r3) (⟨by decide, by decide⟩ : In 0 0 9) hP hD hS hT hfr hf2 (lv_sub hl [2, 3, 4, 5, 1, 0] rfl) (msI _)

abbrev rm_X10_byteOfText : Room := { frames := 0, cells := 0, slots := 0, locals := 0 }
abbrev po_X10_byteOfText (g : GG) (ad : Nat → Nat) (th : Nat → Int) (L : List Nat) (f : HP) (z1 : Int32) : Int32 → (List Nat × HP) → Prop := fun _ u => u.1 = L ∧ u.2 = f
set_option maxHeartbeats 4000000 in
set_option maxRecDepth 100000 in
theorem s_X10_byteOfText (l : Launch) (g : GG) (ad : Nat → Nat) (th : Nat → Int) (L : List Nat) (f : HP) (sz : Nat) (z1 : Int32) (hst : ST ad L) (hT : TI g ad th f)  : MtI l g yX10_byteOfText cX10_byteOfText 2 (some .int) rm_X10_byteOfText [.ref (ad 0), .int z1] L f sz (po_X10_byteOfText g ad th L f z1) := by
  refine MtI.of (by decide +kernel) (Nat.le_of_ble_eq_true rfl) ?_
  intro p e s m below meth c A hEn hP hD hS ls hl
  obtain ⟨hx, hb, hr, hml, hown, hlocks, hts, hG, hA, hE, hnm⟩ := hEn
  have hown : s.vm.findClass "RulerWord" = some m.cls := hown
  have hl : lv_has ls 2 [(0, .ref (ad 0)), (1, .int z1)] := hl
  refine lv_iload_n hx hb dX10_byteOfText_0 rfl (lv_at hl 1 rfl) ?_
  refine lv_iconst (v := (-1)) hx hb dX10_byteOfText_1 (by decide) ?_
  refine lv_icmp_ne (tgt := 13) hx hb dX10_byteOfText_2 (by decide) (fun c1 => ?_) (fun c1 => ?_)
  ·
    refine lv_iload_n hx hb dX10_byteOfText_13 rfl (lv_at hl 1 rfl) ?_
    have hJ28 : ∀ (H : Heap) (locs : List Loc) (ls : Array Slot), va_P g.1 vwCl (va_pl L f) H → va_D A (va_pl L f) → va_S A s.heap H locs → lv_has ls 2 [(0, .ref (ad 0)), (1, .int z1)] → W p l e rm_X10_byteOfText s m [.ref (ad 0), .int z1].toArray below meth c H locs 0 0 (MQ below (va_Qi (po_X10_byteOfText g ad th L f z1) (PstB g A) A) [.ref (ad 0), .int z1].toArray s rm_X10_byteOfText.cells rm_X10_byteOfText.slots A) (F0 m 28 ls []) := by
      intro H locs ls hP hD hS hl
      refine lv_iconst (v := (-1)) hx hb dX10_byteOfText_28 (by decide) ?_
      refine lv_goto (tgt := 41) hx hb dX10_byteOfText_29 (by decide) ?_
      exact ret_i (ty := .int) hx hb hr hlocks (rfl) hP hD hS (Nat.le_of_ble_eq_true rfl) (Nat.le_of_ble_eq_true rfl) (⟨rfl, rfl⟩) dX10_byteOfText_41
    refine lv_if_lt (tgt := 28) hx hb dX10_byteOfText_14 (by decide) (fun c2 => ?_) (fun c2 => ?_)
    ·
      have cc3 : z1.toInt < (0 : Int32).toInt := i32_lt.mp c2
      have hb4 : In z1 (-2147483648) (-1) := In.lt1 (In.full z1) (⟨by decide, by decide⟩ : In 0 0 0) cc3 (by omega) (by omega)
      exact hJ28 _ _ _ hP hD hS (lv_sub hl [0, 1] rfl)
    ·
      have cc5 : (0 : Int32).toInt ≤ z1.toInt := i32_nlt c2
      have hb6 : In z1 0 2147483647 := In.ge1 (In.full z1) (⟨by decide, by decide⟩ : In 0 0 0) cc5 (by omega) (by omega)
      refine lv_iload_n hx hb dX10_byteOfText_17 rfl (lv_at hl 1 rfl) ?_
      refine lv_aload_n hx hb dX10_byteOfText_18 rfl (lv_at hl 0 rfl) ?_
      obtain ⟨v15_7, v16_7, v17_7, hf8, hv15_7, hv16_7, hg16_7⟩ := hT.1 0 (by decide)
      refine pl_get (v := .ref (ad 3)) hx hb hts (fun w h => mT (inX10 w h)) hown hG.1 hP (hst.1 0 (by decide)) hf8 rfl 13 (by decide) (hts _ (mT wg_488)) (fun _ h => h) rfl dX10_byteOfText_19 ?_
      obtain ⟨v1_9, v2_9, v3_9, v4_9, hf10, hv1_9, hv2_9, hv3_9, hv4_9⟩ := hT.1 3 (by decide)
      refine pl_getN (v := .int v1_9) hx hb hts (fun w h => mT (inX8 w h)) hown hG.1 hP (hst.1 3 (by decide)) hf10 rfl 1 (by decide) (hG.2.1 _ wn_197) (fun _ h => h) rfl dX10_byteOfText_22 ?_
      refine lv_icmp_lt (tgt := 32) hx hb dX10_byteOfText_25 (by decide) (fun c11 => ?_) (fun c11 => ?_)
      ·
        have cc12 : z1.toInt < v1_9.toInt := i32_lt.mp c11
        have hb13 : In z1 0 519 := In.lt1 hb6 hv1_9 cc12 (by omega) (by omega)
        have hb14 : In v1_9 1 520 := In.lt2 hb6 hv1_9 cc12 (by omega) (by omega)
        refine lv_aload_n hx hb dX10_byteOfText_32 rfl (lv_at hl 0 rfl) ?_
        refine pl_get (v := .ref (ad 3)) hx hb hts (fun w h => mT (inX10 w h)) hown hG.1 hP (hst.1 0 (by decide)) hf8 rfl 13 (by decide) (hts _ (mT wg_488)) (fun _ h => h) rfl dX10_byteOfText_33 ?_
        refine pl_getN (v := .ref (ad 4)) hx hb hts (fun w h => mT (inX8 w h)) hown hG.1 hP (hst.1 3 (by decide)) hf10 rfl 0 (by decide) (hG.2.1 _ wn_196) (fun _ h => h) rfl dX10_byteOfText_36 ?_
        refine lv_iload_n hx hb dX10_byteOfText_39 rfl (lv_at hl 1 rfl) ?_
        obtain ⟨rw15, hf16⟩ := hT.1 4 (by decide)
        have hin17 : vp_in z1 520 := In.inb hb13 (by decide) (by decide)
        refine pl_iald hx hb hG.1 hP (hst.1 4 (by decide)) 0 hf16 rfl hin17 dX10_byteOfText_40 ?_
        refine lv_topi (fun x18 ex18 => ?_)
        exact ret_i (ty := .int) hx hb hr hlocks (rfl) hP hD hS (Nat.le_of_ble_eq_true rfl) (Nat.le_of_ble_eq_true rfl) (⟨rfl, rfl⟩) dX10_byteOfText_41
      ·
        exact hJ28 _ _ _ hP hD hS (lv_sub hl [0, 1] rfl)
  ·
    have cc19 : z1.toInt = ((-1) : Int32).toInt := congrArg Int32.toInt c1
    have hb20 : In z1 (-1) (-1) := In.eq1 (In.full z1) (⟨by decide, by decide⟩ : In (-1) (-1) (-1)) cc19 (by omega) (by omega)
    refine lv_aload_n hx hb dX10_byteOfText_5 rfl (lv_at hl 0 rfl) ?_
    obtain ⟨v15_21, v16_21, v17_21, hf22, hv15_21, hv16_21, hg16_21⟩ := hT.1 0 (by decide)
    refine pl_get (v := .ref (ad 3)) hx hb hts (fun w h => mT (inX10 w h)) hown hG.1 hP (hst.1 0 (by decide)) hf22 rfl 13 (by decide) (hts _ (mT wg_488)) (fun _ h => h) rfl dX10_byteOfText_6 ?_
    obtain ⟨v1_23, v2_23, v3_23, v4_23, hf24, hv1_23, hv2_23, hv3_23, hv4_23⟩ := hT.1 3 (by decide)
    refine pl_getN (v := .int v1_23) hx hb hts (fun w h => mT (inX8 w h)) hown hG.1 hP (hst.1 3 (by decide)) hf24 rfl 1 (by decide) (hG.2.1 _ wn_197) (fun _ h => h) rfl dX10_byteOfText_9 ?_
    exact ret_i (ty := .int) hx hb hr hlocks (rfl) hP hD hS (Nat.le_of_ble_eq_true rfl) (Nat.le_of_ble_eq_true rfl) (⟨rfl, rfl⟩) dX10_byteOfText_12

abbrev rm_X10_brokenPlan : Room := { frames := 28, cells := 0, slots := 0, locals := 936 }
abbrev po_X10_brokenPlan (g : GG) (ad : Nat → Nat) (th : Nat → Int) (L : List Nat) (f : HP) (z1 : Int32) : Int32 → (List Nat × HP) → Prop := fun r u => u.1 = L ∧ TI g ad th u.2 ∧ (∀ b, b ≠ (ad 18) → b ≠ (ad 19) → b ≠ (ad 20) → b ≠ (ad 21) → b ≠ (ad 22) → b ≠ (ad 23) → b ≠ (ad 3) → b ≠ (ad 4) → b ≠ (ad 8) → u.2 b = f b)
set_option maxHeartbeats 4000000 in
set_option maxRecDepth 100000 in
theorem s_X10_brokenPlan (l : Launch) (g : GG) (ad : Nat → Nat) (th : Nat → Int) (L : List Nat) (f : HP) (sz : Nat) (z1 : Int32) (hst : ST ad L) (hT : TI g ad th f)  : MtI l g yX10_brokenPlan cX10_brokenPlan 5 (some .int) rm_X10_brokenPlan [.ref (ad 0), .int z1] L f sz (po_X10_brokenPlan g ad th L f z1) := by
  refine MtI.of (by decide +kernel) (Nat.le_of_ble_eq_true rfl) ?_
  intro p e s m below meth c A hEn hP hD hS ls hl
  obtain ⟨hx, hb, hr, hml, hown, hlocks, hts, hG, hA, hE, hnm⟩ := hEn
  have hown : s.vm.findClass "RulerWord" = some m.cls := hown
  have hl : lv_has ls 5 [(0, .ref (ad 0)), (1, .int z1)] := hl
  have hfr : (∀ b, b ≠ (ad 18) → b ≠ (ad 19) → b ≠ (ad 20) → b ≠ (ad 21) → b ≠ (ad 22) → b ≠ (ad 23) → b ≠ (ad 3) → b ≠ (ad 4) → b ≠ (ad 8) → f b = f b) := fun b z0_ z1_ z2_ z3_ z4_ z5_ z6_ z7_ z8_ => rfl
  refine lv_aload_n hx hb dX10_brokenPlan_0 rfl (lv_at hl 0 rfl) ?_
  obtain ⟨v15_1, v16_1, v17_1, hf2, hv15_1, hv16_1, hg16_1⟩ := hT.1 0 (by decide)
  refine call_i (run_V (rm := rm_X10_broken) hx hb hml hown hts (s_X10_broken l g ad th _ _ _  hst hT ) cV_X10_broken wg_1126 ⟨Nat.le_of_ble_eq_true rfl, Nat.le_of_ble_eq_true rfl⟩ hG hE hA hP hD hS (hst.1 0 (by decide)) hf2 rfl rfl hl.1 (As := []) (rest := []) rfl (Nat.le_of_ble_eq_true rfl) dX10_brokenPlan_1 ⟨Nat.le_of_ble_eq_true rfl, Nat.le_of_ble_eq_true rfl⟩) hA hD hS (fun r3 L4 f5 H locs hp6 hP hD hS => ?_)
  obtain ⟨eL7L, eL7T, eL7F⟩ := hp6
  have eL7L : L4 = L := eL7L
  rw [eL7L] at hP hD
  have hT : TI g ad th f5 := eL7T
  have eL7F : ∀ b, b ≠ (ad 18) → b ≠ (ad 19) → b ≠ (ad 20) → b ≠ (ad 21) → b ≠ (ad 22) → b ≠ (ad 23) → b ≠ (ad 8) → f5 b = f b := eL7F
  have hf8 := (eL7F (ad 0) (hst.ne (by decide) (by decide) (by decide)) (hst.ne (by decide) (by decide) (by decide)) (hst.ne (by decide) (by decide) (by decide)) (hst.ne (by decide) (by decide) (by decide)) (hst.ne (by decide) (by decide) (by decide)) (hst.ne (by decide) (by decide) (by decide)) (hst.ne (by decide) (by decide) (by decide))).trans hf2
  have hfr : (∀ b, b ≠ (ad 18) → b ≠ (ad 19) → b ≠ (ad 20) → b ≠ (ad 21) → b ≠ (ad 22) → b ≠ (ad 23) → b ≠ (ad 3) → b ≠ (ad 4) → b ≠ (ad 8) → f5 b = f b) := fun b z0_ z1_ z2_ z3_ z4_ z5_ z6_ z7_ z8_ => (eL7F b z0_ z1_ z2_ z3_ z4_ z5_ z8_).trans (hfr b z0_ z1_ z2_ z3_ z4_ z5_ z6_ z7_ z8_)
  refine lv_istore_n (lv' := [(2, .int r3), (0, .ref (ad 0)), (1, .int z1)]) hx hb dX10_brokenPlan_4 rfl hl (by decide) rfl (fun ls hl => ?_)
  refine lv_iload_n hx hb dX10_brokenPlan_5 rfl (lv_at hl 0 rfl) ?_
  refine lv_if_ge (tgt := 11) hx hb dX10_brokenPlan_6 (by decide) (fun c9 => ?_) (fun c9 => ?_)
  ·
    have cc10 : (0 : Int32).toInt ≤ r3.toInt := i32_le.mp c9
    have hb11 : In r3 0 2147483647 := In.ge1 (In.full r3) (⟨by decide, by decide⟩ : In 0 0 0) cc10 (by omega) (by omega)
    refine lv_aload_n hx hb dX10_brokenPlan_11 rfl (lv_at hl 1 rfl) ?_
    refine pl_get (v := .ref (ad 3)) hx hb hts (fun w h => mT (inX10 w h)) hown hG.1 hP (hst.1 0 (by decide)) hf8 rfl 13 (by decide) (hts _ (mT wg_488)) (fun _ h => h) rfl dX10_brokenPlan_12 ?_
    refine lv_iconst (v := 0) hx hb dX10_brokenPlan_15 (by decide) ?_
    obtain ⟨v1_12, v2_12, v3_12, v4_12, hf13, hv1_12, hv2_12, hv3_12, hv4_12⟩ := hT.1 3 (by decide)
    refine pl_putN (ty := .int) (v := .int 0) (fs' := [.ref (ad 4), .int 0, .int v2_12, .int v3_12, .int v4_12]) hx hb hts (fun w h => mT (inX8 w h)) tyX8 tyX8_ok nmX8 hown hG.1 hP hD hS (hst.1 3 (by decide)) hf13 rfl 1 (by decide) (hG.2.1 _ wn_197) (fun _ h => h) rfl (by decide +kernel) (rfl) (rfl) (Nat.le_of_ble_eq_true rfl) rfl dX10_brokenPlan_16 (fun H locs f14 hf15 ho16 hP hD hS => ?_)
    have hf17 := (ho16 (ad 0) (hst.ne (by decide) (by decide) (by decide))).trans hf8
    have hfr : (∀ b, b ≠ (ad 18) → b ≠ (ad 19) → b ≠ (ad 20) → b ≠ (ad 21) → b ≠ (ad 22) → b ≠ (ad 23) → b ≠ (ad 3) → b ≠ (ad 4) → b ≠ (ad 8) → f14 b = f b) := fun b z0_ z1_ z2_ z3_ z4_ z5_ z6_ z7_ z8_ => (ho16 b z6_).trans (hfr b z0_ z1_ z2_ z3_ z4_ z5_ z6_ z7_ z8_)
    refine lv_iconst (v := 0) hx hb dX10_brokenPlan_19 (by decide) ?_
    refine lv_istore_n (lv' := [(3, .int 0), (2, .int r3), (0, .ref (ad 0)), (1, .int z1)]) hx hb dX10_brokenPlan_20 rfl hl (by decide) rfl (fun ls hl => ?_)
    have hT := TI.updA hT hst (k := 3) (by decide) hf15 ho16 ⟨0, v2_12, v3_12, v4_12, rfl, (⟨by decide, by decide⟩ : In 0 0 520), hv2_12, hv3_12, hv4_12⟩
    have hJ21 : ∀ (k21 : Nat) (y21_l3 : Int32) (f_21 : HP) (H : Heap) (locs : List Loc) (ls : Array Slot), In y21_l3 0 6 → va_P g.1 vwCl (va_pl L f_21) H → va_D A (va_pl L f_21) → va_S A s.heap H locs → TI g ad th f_21 → (∀ b, b ≠ (ad 18) → b ≠ (ad 19) → b ≠ (ad 20) → b ≠ (ad 21) → b ≠ (ad 22) → b ≠ (ad 23) → b ≠ (ad 3) → b ≠ (ad 4) → b ≠ (ad 8) → f_21 b = f b) → f_21 (ad 0) = .inr (9, [.ref (ad 1), .ref (ad 5), .ref (ad 6), .ref (ad 7), .ref (ad 9), .ref (ad 13), .ref (ad 14), .ref (ad 15), .ref (cr ad 0 0), .ref (cr ad 1 0), .ref (cr ad 2 0), .ref (ad 16), .ref (ad 18), .ref (ad 3), .ref (ad 24), .int v15_1, .int v16_1, .long v17_1]) → lv_has ls 5 [(0, .ref (ad 0)), (1, .int z1), (2, .int r3), (3, .int y21_l3)] → 6 - y21_l3.toInt < ((k21 : Nat) : Int) → W p l e rm_X10_brokenPlan s m [.ref (ad 0), .int z1].toArray below meth c H locs 0 0 (MQ below (va_Qi (po_X10_brokenPlan g ad th L f z1) (PstB g A) A) [.ref (ad 0), .int z1].toArray s rm_X10_brokenPlan.cells rm_X10_brokenPlan.slots A) (F0 m 21 ls []) := by
      intro k21
      induction k21 with
      | zero =>
        intro y21_l3 f_21 H locs ls hy21_l3 hP hD hS hT hfr hf18 hl hmz21
        exact ms0 hy21_l3 hmz21
      | succ k21 ih21 =>
        intro y21_l3 f_21 H locs ls hy21_l3 hP hD hS hT hfr hf18 hl hmz21
        refine lv_iload_n hx hb dX10_brokenPlan_21 rfl (lv_at hl 3 rfl) ?_
        refine lv_aload_n hx hb dX10_brokenPlan_22 rfl (lv_at hl 0 rfl) ?_
        refine pl_get (v := .ref (ad 6)) hx hb hts (fun w h => mT (inX10 w h)) hown hG.1 hP (hst.1 0 (by decide)) hf18 rfl 2 (by decide) (hts _ (mT wg_477)) (fun _ h => h) rfl dX10_brokenPlan_23 ?_
        obtain ⟨v0_19, v1_19, v2_19, v3_19, v4_19, v5_19, v6_19, v7_19, hf20, hv0_19, hg0_19, hv1_19, hg1_19, hv2_19, hv3_19, hv5_19, hv6_19, hrel0_19⟩ := hT.1 6 (by decide)
        refine pl_getN (v := .int v3_19) hx hb hts (fun w h => mT (inX2 w h)) hown hG.1 hP (hst.1 6 (by decide)) hf20 rfl 3 (by decide) (hG.2.1 _ wn_235) (fun _ h => h) rfl dX10_brokenPlan_26 ?_
        refine lv_icmp_ge (tgt := 67) hx hb dX10_brokenPlan_29 (by decide) (fun c21 => ?_) (fun c21 => ?_)
        ·
          refine lv_aload_n hx hb dX10_brokenPlan_67 rfl (lv_at hl 0 rfl) ?_
          refine lv_iload_n hx hb dX10_brokenPlan_68 rfl (lv_at hl 1 rfl) ?_
          refine call_i (run_V (rm := rm_X10_byteOfText) hx hb hml hown hts (s_X10_byteOfText l g ad th _ _ _ z1 hst hT ) cV_X10_byteOfText wg_1149 ⟨Nat.le_of_ble_eq_true rfl, Nat.le_of_ble_eq_true rfl⟩ hG hE hA hP hD hS (hst.1 0 (by decide)) hf18 rfl rfl hl.1 (As := [.int z1]) (rest := []) rfl (Nat.le_of_ble_eq_true rfl) dX10_brokenPlan_69 ⟨Nat.le_of_ble_eq_true rfl, Nat.le_of_ble_eq_true rfl⟩) hA hD hS (fun r22 L23 f24 H locs hp25 hP hD hS => ?_)
          obtain ⟨eL26L, eL26T⟩ := hp25
          have eL26L : L23 = L := eL26L
          have eL26T : f24 = f_21 := eL26T
          rw [eL26L, eL26T] at hP hD
          exact ret_i (ty := .int) hx hb hr hlocks (rfl) hP hD hS (Nat.le_of_ble_eq_true rfl) (Nat.le_of_ble_eq_true rfl) (⟨rfl, hT, hfr⟩) dX10_brokenPlan_72
        ·
          have cc27 : y21_l3.toInt < v3_19.toInt := i32_nle c21
          have hb28 : In y21_l3 0 5 := In.lt1 hy21_l3 hv3_19 cc27 (by omega) (by omega)
          have hb29 : In v3_19 1 6 := In.lt2 hy21_l3 hv3_19 cc27 (by omega) (by omega)
          refine lv_iconst (v := 0) hx hb dX10_brokenPlan_32 (by decide) ?_
          refine lv_istore (lv' := [(4, .int 0), (0, .ref (ad 0)), (1, .int z1), (2, .int r3), (3, .int y21_l3)]) hx hb dX10_brokenPlan_33 hl (by decide) rfl (fun ls hl => ?_)
          have hJ35 : ∀ (k35 : Nat) (y35_l4 : Int32) (f_35 : HP) (H : Heap) (locs : List Loc) (ls : Array Slot), In y35_l4 0 3 → va_P g.1 vwCl (va_pl L f_35) H → va_D A (va_pl L f_35) → va_S A s.heap H locs → TI g ad th f_35 → (∀ b, b ≠ (ad 18) → b ≠ (ad 19) → b ≠ (ad 20) → b ≠ (ad 21) → b ≠ (ad 22) → b ≠ (ad 23) → b ≠ (ad 3) → b ≠ (ad 4) → b ≠ (ad 8) → f_35 b = f b) → f_35 (ad 0) = .inr (9, [.ref (ad 1), .ref (ad 5), .ref (ad 6), .ref (ad 7), .ref (ad 9), .ref (ad 13), .ref (ad 14), .ref (ad 15), .ref (cr ad 0 0), .ref (cr ad 1 0), .ref (cr ad 2 0), .ref (ad 16), .ref (ad 18), .ref (ad 3), .ref (ad 24), .int v15_1, .int v16_1, .long v17_1]) → f_35 (ad 6) = .inr (2, [.int v0_19, .int v1_19, .int v2_19, .int v3_19, .int v4_19, .int v5_19, .int v6_19, .int v7_19]) → lv_has ls 5 [(0, .ref (ad 0)), (1, .int z1), (2, .int r3), (3, .int y21_l3), (4, .int y35_l4)] → 3 - y35_l4.toInt < ((k35 : Nat) : Int) → W p l e rm_X10_brokenPlan s m [.ref (ad 0), .int z1].toArray below meth c H locs 0 0 (MQ below (va_Qi (po_X10_brokenPlan g ad th L f z1) (PstB g A) A) [.ref (ad 0), .int z1].toArray s rm_X10_brokenPlan.cells rm_X10_brokenPlan.slots A) (F0 m 35 ls []) := by
            intro k35
            induction k35 with
            | zero =>
              intro y35_l4 f_35 H locs ls hy35_l4 hP hD hS hT hfr hf30 hf31 hl hmz35
              exact ms0 hy35_l4 hmz35
            | succ k35 ih35 =>
              intro y35_l4 f_35 H locs ls hy35_l4 hP hD hS hT hfr hf30 hf31 hl hmz35
              refine lv_iload hx hb dX10_brokenPlan_35 (lv_at hl 4 rfl) ?_
              refine lv_aload_n hx hb dX10_brokenPlan_37 rfl (lv_at hl 0 rfl) ?_
              refine pl_get (v := .ref (ad 6)) hx hb hts (fun w h => mT (inX10 w h)) hown hG.1 hP (hst.1 0 (by decide)) hf30 rfl 2 (by decide) (hts _ (mT wg_477)) (fun _ h => h) rfl dX10_brokenPlan_38 ?_
              refine call_i (run_VN (rm := rm_X2_rounds_co) hx hb hml hown hts (s_X2_rounds_co l g ad th _ _ _  hst hT ) cV_X2_rounds wn_746 ⟨Nat.le_of_ble_eq_true rfl, Nat.le_of_ble_eq_true rfl⟩ hG hE hA hP hD hS (hst.1 6 (by decide)) hf31 rfl rfl hl.1 (As := []) (rest := [.int y35_l4]) rfl (Nat.le_of_ble_eq_true rfl) dX10_brokenPlan_41 ⟨Nat.le_of_ble_eq_true rfl, Nat.le_of_ble_eq_true rfl⟩) hA hD hS (fun r32 L33 f34 H locs hp35 hP hD hS => ?_)
              obtain ⟨eL36L, eL36T, eL36R, eL36X0⟩ := hp35
              have eL36L : L33 = L := eL36L
              have eL36T : f34 = f_35 := eL36T
              rw [eL36L, eL36T] at hP hD
              have eL36R : In r32 2 3 := eL36R
              have hrn37 : r32.toInt = rnd (th 2) := eL36X0
              refine lv_icmp_ge (tgt := 61) hx hb dX10_brokenPlan_44 (by decide) (fun c38 => ?_) (fun c38 => ?_)
              ·
                have cc39 : r32.toInt ≤ y35_l4.toInt := i32_le.mp c38
                have hb40 : In y35_l4 2 3 := In.ge1 hy35_l4 eL36R cc39 (by omega) (by omega)
                obtain ⟨x41, ex41⟩ : ∃ y : Int32, y = y21_l3 + 1 := ⟨_, rfl⟩
                have hb42 : In x41 1 6 := ex41 ▸ In.add hb28 (⟨by decide, by decide⟩ : In 1 1 1) (by decide) (by decide) (by decide) (by decide)
                have et43 : x41.toInt = y21_l3.toInt + 1 := In.adde ex41 hb28 (k := 1) (by decide) (by decide) (by decide)
                refine lv_iinc (v := x41) (lv' := [(3, .int x41), (0, .ref (ad 0)), (1, .int z1), (2, .int r3), (4, .int y35_l4)]) hx hb dX10_brokenPlan_61 hl (k := 3) rfl (by rw [ex41]; rfl) (by decide) rfl (fun ls hl => ?_)
                refine lv_goto (tgt := 21) hx hb dX10_brokenPlan_64 (by decide) ?_
                exact ih21 x41 _ _ _ _ (In.mono hb42 (by decide) (by decide)) hP hD hS hT hfr hf30 (lv_sub hl [1, 2, 3, 0] rfl) (msu et43 (by decide) hmz21)
              ·
                have cc44 : y35_l4.toInt < r32.toInt := i32_nle c38
                have hb45 : In y35_l4 0 2 := In.lt1 hy35_l4 eL36R cc44 (by omega) (by omega)
                refine lv_aload_n hx hb dX10_brokenPlan_47 rfl (lv_at hl 0 rfl) ?_
                refine lv_iload_n hx hb dX10_brokenPlan_48 rfl (lv_at hl 3 rfl) ?_
                refine lv_iload hx hb dX10_brokenPlan_49 (lv_at hl 4 rfl) ?_
                refine lv_iload_n hx hb dX10_brokenPlan_51 rfl (lv_at hl 2 rfl) ?_
                refine call_v (run_V (rm := rm_X10_writeBrokenRound) hx hb hml hown hts (s_X10_writeBrokenRound l g ad th _ _ _ y21_l3 y35_l4 r3 hst hT hb28 hb45) cV_X10_writeBrokenRound wg_1127 ⟨Nat.le_of_ble_eq_true rfl, Nat.le_of_ble_eq_true rfl⟩ hG hE hA hP hD hS (hst.1 0 (by decide)) hf30 rfl rfl hl.1 (As := [.int y21_l3, .int y35_l4, .int r3]) (rest := []) rfl (Nat.le_of_ble_eq_true rfl) dX10_brokenPlan_52 ⟨Nat.le_of_ble_eq_true rfl, Nat.le_of_ble_eq_true rfl⟩) hA hD hS (fun L47 f48 H locs hp49 hP hD hS => ?_)
                obtain ⟨eL50L, eL50T, eL50F⟩ := hp49
                have eL50L : L47 = L := eL50L
                rw [eL50L] at hP hD
                have hT : TI g ad th f48 := eL50T
                have eL50F : ∀ b, b ≠ (ad 3) → b ≠ (ad 4) → f48 b = f_35 b := eL50F
                have hf51 := (eL50F (ad 0) (hst.ne (by decide) (by decide) (by decide)) (hst.ne (by decide) (by decide) (by decide))).trans hf30
                have hf52 := (eL50F (ad 6) (hst.ne (by decide) (by decide) (by decide)) (hst.ne (by decide) (by decide) (by decide))).trans hf31
                have hfr : (∀ b, b ≠ (ad 18) → b ≠ (ad 19) → b ≠ (ad 20) → b ≠ (ad 21) → b ≠ (ad 22) → b ≠ (ad 23) → b ≠ (ad 3) → b ≠ (ad 4) → b ≠ (ad 8) → f48 b = f b) := fun b z0_ z1_ z2_ z3_ z4_ z5_ z6_ z7_ z8_ => (eL50F b z6_ z7_).trans (hfr b z0_ z1_ z2_ z3_ z4_ z5_ z6_ z7_ z8_)
                obtain ⟨x53, ex53⟩ : ∃ y : Int32, y = y35_l4 + 1 := ⟨_, rfl⟩
                have hb54 : In x53 1 3 := ex53 ▸ In.add hb45 (⟨by decide, by decide⟩ : In 1 1 1) (by decide) (by decide) (by decide) (by decide)
                have et55 : x53.toInt = y35_l4.toInt + 1 := In.adde ex53 hb45 (k := 1) (by decide) (by decide) (by decide)
                refine lv_iinc (v := x53) (lv' := [(4, .int x53), (0, .ref (ad 0)), (1, .int z1), (2, .int r3), (3, .int y21_l3)]) hx hb dX10_brokenPlan_55 hl (k := 4) rfl (by rw [ex53]; rfl) (by decide) rfl (fun ls hl => ?_)
                refine lv_goto (tgt := 35) hx hb dX10_brokenPlan_58 (by decide) ?_
                exact ih35 x53 _ _ _ _ (In.mono hb54 (by decide) (by decide)) hP hD hS hT hfr hf51 hf52 (lv_sub hl [1, 2, 3, 4, 0] rfl) (msu et55 (by decide) hmz35)
          exact hJ35 ((3 - (0 : Int32).toInt).toNat + 1) 0 _ _ _ _ (⟨by decide, by decide⟩ : In 0 0 3) hP hD hS hT hfr hf18 hf20 (lv_sub hl [1, 2, 3, 4, 0] rfl) (msI _)
    exact hJ21 ((6 - (0 : Int32).toInt).toNat + 1) 0 _ _ _ _ (⟨by decide, by decide⟩ : In 0 0 6) hP hD hS hT hfr hf17 (lv_sub hl [2, 3, 1, 0] rfl) (msI _)
  ·
    have cc56 : r3.toInt < (0 : Int32).toInt := i32_nle c9
    have hb57 : In r3 (-2147483648) (-1) := In.lt1 (In.full r3) (⟨by decide, by decide⟩ : In 0 0 0) cc56 (by omega) (by omega)
    refine lv_iload_n hx hb dX10_brokenPlan_9 rfl (lv_at hl 0 rfl) ?_
    exact ret_i (ty := .int) hx hb hr hlocks (rfl) hP hD hS (Nat.le_of_ble_eq_true rfl) (Nat.le_of_ble_eq_true rfl) (⟨rfl, hT, hfr⟩) dX10_brokenPlan_10

abbrev rm_X10_reachedByRuler : Room := { frames := 2, cells := 0, slots := 0, locals := 46 }
abbrev po_X10_reachedByRuler (g : GG) (ad : Nat → Nat) (th : Nat → Int) (L : List Nat) (f : HP) (z1 : Int32) (z2 : Int32) : Int32 → (List Nat × HP) → Prop := fun _ u => u.1 = L ∧ u.2 = f
set_option maxHeartbeats 4000000 in
set_option maxRecDepth 100000 in
theorem s_X10_reachedByRuler (l : Launch) (g : GG) (ad : Nat → Nat) (th : Nat → Int) (L : List Nat) (f : HP) (sz : Nat) (z1 : Int32) (z2 : Int32) (hst : ST ad L) (hT : TI g ad th f) (hz1 : In z1 0 5) (hz2 : In z2 0 8) : MtI l g yX10_reachedByRuler cX10_reachedByRuler 6 (some .int) rm_X10_reachedByRuler [.ref (ad 0), .int z1, .int z2] L f sz (po_X10_reachedByRuler g ad th L f z1 z2) := by
  refine MtI.of (by decide +kernel) (Nat.le_of_ble_eq_true rfl) ?_
  intro p e s m below meth c A hEn hP hD hS ls hl
  obtain ⟨hx, hb, hr, hml, hown, hlocks, hts, hG, hA, hE, hnm⟩ := hEn
  have hown : s.vm.findClass "RulerWord" = some m.cls := hown
  have hl : lv_has ls 6 [(0, .ref (ad 0)), (1, .int z1), (2, .int z2)] := hl
  refine lv_iconst (v := 0) hx hb dX10_reachedByRuler_0 (by decide) ?_
  refine lv_istore_n (lv' := [(3, .int 0), (0, .ref (ad 0)), (1, .int z1), (2, .int z2)]) hx hb dX10_reachedByRuler_1 rfl hl (by decide) rfl (fun ls hl => ?_)
  refine lv_iconst (v := 0) hx hb dX10_reachedByRuler_2 (by decide) ?_
  refine lv_istore (lv' := [(4, .int 0), (3, .int 0), (0, .ref (ad 0)), (1, .int z1), (2, .int z2)]) hx hb dX10_reachedByRuler_3 hl (by decide) rfl (fun ls hl => ?_)
  have hJ5 : ∀ (k5 : Nat) (y5_l3 : Int32) (y5_l4 : Int32) (H : Heap) (locs : List Loc) (ls : Array Slot), In y5_l3 (-2147483648) 2147483647 → In y5_l4 0 9 → va_P g.1 vwCl (va_pl L f) H → va_D A (va_pl L f) → va_S A s.heap H locs → lv_has ls 6 [(0, .ref (ad 0)), (1, .int z1), (2, .int z2), (3, .int y5_l3), (4, .int y5_l4)] → 9 - y5_l4.toInt < ((k5 : Nat) : Int) → W p l e rm_X10_reachedByRuler s m [.ref (ad 0), .int z1, .int z2].toArray below meth c H locs 0 0 (MQ below (va_Qi (po_X10_reachedByRuler g ad th L f z1 z2) (PstB g A) A) [.ref (ad 0), .int z1, .int z2].toArray s rm_X10_reachedByRuler.cells rm_X10_reachedByRuler.slots A) (F0 m 5 ls []) := by
    intro k5
    induction k5 with
    | zero =>
      intro y5_l3 y5_l4 H locs ls hy5_l3 hy5_l4 hP hD hS hl hmz5
      exact ms0 hy5_l4 hmz5
    | succ k5 ih5 =>
      intro y5_l3 y5_l4 H locs ls hy5_l3 hy5_l4 hP hD hS hl hmz5
      refine lv_iload hx hb dX10_reachedByRuler_5 (lv_at hl 4 rfl) ?_
      refine lv_aload_n hx hb dX10_reachedByRuler_7 rfl (lv_at hl 0 rfl) ?_
      obtain ⟨v15_1, v16_1, v17_1, hf2, hv15_1, hv16_1, hg16_1⟩ := hT.1 0 (by decide)
      refine pl_get (v := .ref (ad 6)) hx hb hts (fun w h => mT (inX10 w h)) hown hG.1 hP (hst.1 0 (by decide)) hf2 rfl 2 (by decide) (hts _ (mT wg_477)) (fun _ h => h) rfl dX10_reachedByRuler_8 ?_
      obtain ⟨v0_3, v1_3, v2_3, v3_3, v4_3, v5_3, v6_3, v7_3, hf4, hv0_3, hg0_3, hv1_3, hg1_3, hv2_3, hv3_3, hv5_3, hv6_3, hrel0_3⟩ := hT.1 6 (by decide)
      refine pl_getN (v := .int v1_3) hx hb hts (fun w h => mT (inX2 w h)) hown hG.1 hP (hst.1 6 (by decide)) hf4 rfl 1 (by decide) (hG.2.1 _ wn_230) (fun _ h => h) rfl dX10_reachedByRuler_11 ?_
      refine lv_icmp_ge (tgt := 73) hx hb dX10_reachedByRuler_14 (by decide) (fun c5 => ?_) (fun c5 => ?_)
      ·
        refine lv_iload_n hx hb dX10_reachedByRuler_73 rfl (lv_at hl 3 rfl) ?_
        exact ret_i (ty := .int) hx hb hr hlocks (rfl) hP hD hS (Nat.le_of_ble_eq_true rfl) (Nat.le_of_ble_eq_true rfl) (⟨rfl, rfl⟩) dX10_reachedByRuler_74
      ·
        have cc6 : y5_l4.toInt < v1_3.toInt := i32_nle c5
        have hb7 : In y5_l4 0 8 := In.lt1 hy5_l4 hv1_3 cc6 (by omega) (by omega)
        have hb8 : In v1_3 1 9 := In.lt2 hy5_l4 hv1_3 cc6 (by omega) (by omega)
        refine lv_iload hx hb dX10_reachedByRuler_17 (lv_at hl 4 rfl) ?_
        refine lv_iload_n hx hb dX10_reachedByRuler_19 rfl (lv_at hl 2 rfl) ?_
        have hJ52 : ∀ (y52_s0 : Int32) (H : Heap) (locs : List Loc) (ls : Array Slot), In y52_s0 0 1 → va_P g.1 vwCl (va_pl L f) H → va_D A (va_pl L f) → va_S A s.heap H locs → lv_has ls 6 [(0, .ref (ad 0)), (1, .int z1), (2, .int z2), (3, .int y5_l3), (4, .int y5_l4)] → W p l e rm_X10_reachedByRuler s m [.ref (ad 0), .int z1, .int z2].toArray below meth c H locs 0 0 (MQ below (va_Qi (po_X10_reachedByRuler g ad th L f z1 z2) (PstB g A) A) [.ref (ad 0), .int z1, .int z2].toArray s rm_X10_reachedByRuler.cells rm_X10_reachedByRuler.slots A) (F0 m 52 ls [.int y52_s0]) := by
          intro y52_s0 H locs ls hy52_s0 hP hD hS hl
          refine lv_istore (lv' := [(5, .int y52_s0), (0, .ref (ad 0)), (1, .int z1), (2, .int z2), (3, .int y5_l3), (4, .int y5_l4)]) hx hb dX10_reachedByRuler_52 hl (by decide) rfl (fun ls hl => ?_)
          refine lv_iload_n hx hb dX10_reachedByRuler_54 rfl (lv_at hl 4 rfl) ?_
          refine lv_iload hx hb dX10_reachedByRuler_55 (lv_at hl 0 rfl) ?_
          have hJ65 : ∀ (y65_s0 : Int32) (H : Heap) (locs : List Loc) (ls : Array Slot), In y65_s0 0 1 → va_P g.1 vwCl (va_pl L f) H → va_D A (va_pl L f) → va_S A s.heap H locs → lv_has ls 6 [(0, .ref (ad 0)), (1, .int z1), (2, .int z2), (3, .int y5_l3), (4, .int y5_l4), (5, .int y52_s0)] → W p l e rm_X10_reachedByRuler s m [.ref (ad 0), .int z1, .int z2].toArray below meth c H locs 0 0 (MQ below (va_Qi (po_X10_reachedByRuler g ad th L f z1 z2) (PstB g A) A) [.ref (ad 0), .int z1, .int z2].toArray s rm_X10_reachedByRuler.cells rm_X10_reachedByRuler.slots A) (F0 m 65 ls [.int y65_s0, .int y5_l3]) := by
            intro y65_s0 H locs ls hy65_s0 hP hD hS hl
            refine lv_iadd hx hb dX10_reachedByRuler_65 ?_
            refine lv_topi (fun x9 ex9 => ?_)
            refine lv_istore_n (lv' := [(3, .int x9), (0, .ref (ad 0)), (1, .int z1), (2, .int z2), (4, .int y5_l4), (5, .int y52_s0)]) hx hb dX10_reachedByRuler_66 rfl hl (by decide) rfl (fun ls hl => ?_)
            obtain ⟨x10, ex10⟩ : ∃ y : Int32, y = y5_l4 + 1 := ⟨_, rfl⟩
            have hb11 : In x10 1 9 := ex10 ▸ In.add hb7 (⟨by decide, by decide⟩ : In 1 1 1) (by decide) (by decide) (by decide) (by decide)
            have et12 : x10.toInt = y5_l4.toInt + 1 := In.adde ex10 hb7 (k := 1) (by decide) (by decide) (by decide)
            refine lv_iinc (v := x10) (lv' := [(4, .int x10), (3, .int x9), (0, .ref (ad 0)), (1, .int z1), (2, .int z2), (5, .int y52_s0)]) hx hb dX10_reachedByRuler_67 hl (k := 4) rfl (by rw [ex10]; rfl) (by decide) rfl (fun ls hl => ?_)
            refine lv_goto (tgt := 5) hx hb dX10_reachedByRuler_70 (by decide) ?_
            exact ih5 x9 x10 _ _ _ (In.full x9) (In.mono hb11 (by decide) (by decide)) hP hD hS (lv_sub hl [2, 3, 4, 1, 0] rfl) (msu et12 (by decide) hmz5)
          refine lv_if_eq (tgt := 64) hx hb dX10_reachedByRuler_57 (by decide) (fun c13 => ?_) (fun c13 => ?_)
          ·
            have cc14 : y52_s0.toInt = (0 : Int32).toInt := congrArg Int32.toInt c13
            have hb15 : In y52_s0 0 0 := In.eq1 hy52_s0 (⟨by decide, by decide⟩ : In 0 0 0) cc14 (by omega) (by omega)
            refine lv_iconst (v := 0) hx hb dX10_reachedByRuler_64 (by decide) ?_
            exact hJ65 0 _ _ _ (⟨by decide, by decide⟩ : In 0 0 1) hP hD hS (lv_sub hl [1, 2, 3, 4, 5, 0] rfl)
          ·
            have cc16 : y52_s0.toInt ≠ (0 : Int32).toInt := i32_ne c13
            have hb17 : In y52_s0 1 1 := In.ne1 hy52_s0 (⟨by decide, by decide⟩ : In 0 0 0) cc16 (by omega) (by omega)
            refine lv_iconst (v := 1) hx hb dX10_reachedByRuler_60 (by decide) ?_
            refine lv_goto (tgt := 65) hx hb dX10_reachedByRuler_61 (by decide) ?_
            exact hJ65 1 _ _ _ (⟨by decide, by decide⟩ : In 1 0 1) hP hD hS (lv_sub hl [1, 2, 3, 4, 5, 0] rfl)
        have hJ51 : ∀ (H : Heap) (locs : List Loc) (ls : Array Slot), va_P g.1 vwCl (va_pl L f) H → va_D A (va_pl L f) → va_S A s.heap H locs → lv_has ls 6 [(0, .ref (ad 0)), (1, .int z1), (2, .int z2), (3, .int y5_l3), (4, .int y5_l4)] → W p l e rm_X10_reachedByRuler s m [.ref (ad 0), .int z1, .int z2].toArray below meth c H locs 0 0 (MQ below (va_Qi (po_X10_reachedByRuler g ad th L f z1 z2) (PstB g A) A) [.ref (ad 0), .int z1, .int z2].toArray s rm_X10_reachedByRuler.cells rm_X10_reachedByRuler.slots A) (F0 m 51 ls []) := by
          intro H locs ls hP hD hS hl
          refine lv_iconst (v := 0) hx hb dX10_reachedByRuler_51 (by decide) ?_
          exact hJ52 0 _ _ _ (⟨by decide, by decide⟩ : In 0 0 1) hP hD hS (lv_sub hl [0, 1, 2, 3, 4] rfl)
        refine lv_icmp_eq (tgt := 51) hx hb dX10_reachedByRuler_20 (by decide) (fun c18 => ?_) (fun c18 => ?_)
        ·
          exact hJ51 _ _ _ hP hD hS (lv_sub hl [0, 1, 2, 3, 4] rfl)
        ·
          refine lv_aload_n hx hb dX10_reachedByRuler_23 rfl (lv_at hl 0 rfl) ?_
          refine pl_get (v := .ref (cr ad 0 0)) hx hb hts (fun w h => mT (inX10 w h)) hown hG.1 hP (hst.1 0 (by decide)) hf2 rfl 8 (by decide) (hts _ (mT wg_483)) (fun _ h => h) rfl dX10_reachedByRuler_24 ?_
          refine lv_iload_n hx hb dX10_reachedByRuler_27 rfl (lv_at hl 1 rfl) ?_
          refine lv_aload_n hx hb dX10_reachedByRuler_28 rfl (lv_at hl 0 rfl) ?_
          refine pl_get (v := .ref (ad 6)) hx hb hts (fun w h => mT (inX10 w h)) hown hG.1 hP (hst.1 0 (by decide)) hf2 rfl 2 (by decide) (hts _ (mT wg_477)) (fun _ h => h) rfl dX10_reachedByRuler_29 ?_
          refine call_i (run_VN (rm := rm_X2_rounds_co) hx hb hml hown hts (s_X2_rounds_co l g ad th _ _ _  hst hT ) cV_X2_rounds wn_746 ⟨Nat.le_of_ble_eq_true rfl, Nat.le_of_ble_eq_true rfl⟩ hG hE hA hP hD hS (hst.1 6 (by decide)) hf4 rfl rfl hl.1 (As := []) (rest := [.int z1, .ref (cr ad 0 0)]) rfl (Nat.le_of_ble_eq_true rfl) dX10_reachedByRuler_32 ⟨Nat.le_of_ble_eq_true rfl, Nat.le_of_ble_eq_true rfl⟩) hA hD hS (fun r19 L20 f21 H locs hp22 hP hD hS => ?_)
          obtain ⟨eL23L, eL23T, eL23R, eL23X0⟩ := hp22
          have eL23L : L20 = L := eL23L
          have eL23T : f21 = f := eL23T
          rw [eL23L, eL23T] at hP hD
          have eL23R : In r19 2 3 := eL23R
          have hrn24 : r19.toInt = rnd (th 2) := eL23X0
          refine lv_iconst (v := 1) hx hb dX10_reachedByRuler_35 (by decide) ?_
          refine lv_isub hx hb dX10_reachedByRuler_36 ?_
          refine lv_topi (fun x25 ex25 => ?_)
          have hb26 : In x25 1 2 := ex25 ▸ In.sub eL23R (⟨by decide, by decide⟩ : In 1 1 1) (by decide) (by decide) (by decide) (by decide)
          have et27 : x25.toInt = r19.toInt + (-1) := In.sube ex25 eL23R (k := 1) (by decide) (by decide) (by decide)
          refine lv_iload_n hx hb dX10_reachedByRuler_37 rfl (lv_at hl 2 rfl) ?_
          refine lv_iload hx hb dX10_reachedByRuler_38 (lv_at hl 4 rfl) ?_
          obtain ⟨v0_28, v1_28, v2_28, v3_28, v4_28, v5_28, v6_28, v7_28, v8_28, hf29, hv1_28, hg1_28, hv2_28, hg2_28, hv6_28⟩ := hT.2.1 0 (by decide) 0 (by decide)
          refine call_i (run_VN (rm := rm_X3_letter) hx hb hml hown hts (s_X3_letter l g ad th _ _ _ 0 z1 x25 z2 y5_l4 hst hT (by decide) hz1 (In.mono hb26 (by decide) (by decide)) hz2) cV_X3_letter wn_939 ⟨Nat.le_of_ble_eq_true rfl, Nat.le_of_ble_eq_true rfl⟩ hG hE hA hP hD hS (hst.c (by decide) (by decide)) hf29 rfl rfl hl.1 (As := [.int z1, .int x25, .int z2, .int y5_l4]) (rest := []) rfl (Nat.le_of_ble_eq_true rfl) dX10_reachedByRuler_40 ⟨Nat.le_of_ble_eq_true rfl, Nat.le_of_ble_eq_true rfl⟩) hA hD hS (fun r30 L31 f32 H locs hp33 hP hD hS => ?_)
          obtain ⟨eL34L, eL34T, eL34R⟩ := hp33
          have eL34L : L31 = L := eL34L
          have eL34T : f32 = f := eL34T
          rw [eL34L, eL34T] at hP hD
          have eL34R : In r30 0 15 := eL34R
          refine lv_iconst (v := 2) hx hb dX10_reachedByRuler_43 (by decide) ?_
          refine lv_icmp_eq (tgt := 51) hx hb dX10_reachedByRuler_44 (by decide) (fun c35 => ?_) (fun c35 => ?_)
          ·
            have cc36 : r30.toInt = (2 : Int32).toInt := congrArg Int32.toInt c35
            have hb37 : In r30 2 2 := In.eq1 eL34R (⟨by decide, by decide⟩ : In 2 2 2) cc36 (by omega) (by omega)
            exact hJ51 _ _ _ hP hD hS (lv_sub hl [0, 1, 2, 3, 4] rfl)
          ·
            refine lv_iconst (v := 1) hx hb dX10_reachedByRuler_47 (by decide) ?_
            refine lv_goto (tgt := 52) hx hb dX10_reachedByRuler_48 (by decide) ?_
            exact hJ52 1 _ _ _ (⟨by decide, by decide⟩ : In 1 0 1) hP hD hS (lv_sub hl [0, 1, 2, 3, 4] rfl)
  exact hJ5 ((9 - (0 : Int32).toInt).toNat + 1) 0 0 _ _ _ (⟨by decide, by decide⟩ : In 0 (-2147483648) 2147483647) (⟨by decide, by decide⟩ : In 0 0 9) hP hD hS (lv_sub hl [2, 3, 4, 1, 0] rfl) (msI _)

abbrev rm_X10_ruledIn : Room := { frames := 3, cells := 0, slots := 0, locals := 73 }
abbrev po_X10_ruledIn (g : GG) (ad : Nat → Nat) (th : Nat → Int) (L : List Nat) (f : HP) (z1 : Int32) (z2 : Int32) (z3 : Int32) : Int32 → (List Nat × HP) → Prop := fun _ u => u.1 = L ∧ u.2 = f
set_option maxHeartbeats 4000000 in
set_option maxRecDepth 100000 in
theorem s_X10_ruledIn (l : Launch) (g : GG) (ad : Nat → Nat) (th : Nat → Int) (L : List Nat) (f : HP) (sz : Nat) (z1 : Int32) (z2 : Int32) (z3 : Int32) (hst : ST ad L) (hT : TI g ad th f) (hz1 : In z1 0 5) (hz2 : In z2 0 8) : MtI l g yX10_ruledIn cX10_ruledIn 4 (some .int) rm_X10_ruledIn [.ref (ad 0), .int z1, .int z2, .int z3] L f sz (po_X10_ruledIn g ad th L f z1 z2 z3) := by
  refine MtI.of (by decide +kernel) (Nat.le_of_ble_eq_true rfl) ?_
  intro p e s m below meth c A hEn hP hD hS ls hl
  obtain ⟨hx, hb, hr, hml, hown, hlocks, hts, hG, hA, hE, hnm⟩ := hEn
  have hown : s.vm.findClass "RulerWord" = some m.cls := hown
  have hl : lv_has ls 4 [(0, .ref (ad 0)), (1, .int z1), (2, .int z2), (3, .int z3)] := hl
  refine lv_iload_n hx hb dX10_ruledIn_0 rfl (lv_at hl 3 rfl) ?_
  by_cases c1 : z3 = 0
  ·
    refine lv_tableIn (off := 27) (tgt := 28) hx hb dX10_ruledIn_1 (by rw [c1]; decide) (by rw [c1]; decide) (by rw [c1]; decide) (by decide) ?_
    have hb2 : In z3 0 0 := by rw [c1]; exact ⟨by decide, by decide⟩
    refine lv_iconst (v := 1) hx hb dX10_ruledIn_28 (by decide) ?_
    exact ret_i (ty := .int) hx hb hr hlocks (rfl) hP hD hS (Nat.le_of_ble_eq_true rfl) (Nat.le_of_ble_eq_true rfl) (⟨rfl, rfl⟩) dX10_ruledIn_29
  by_cases c3 : z3 = 1
  ·
    refine lv_tableIn (off := 29) (tgt := 30) hx hb dX10_ruledIn_1 (by rw [c3]; decide) (by rw [c3]; decide) (by rw [c3]; decide) (by decide) ?_
    have hb4 : In z3 1 1 := by rw [c3]; exact ⟨by decide, by decide⟩
    refine lv_aload_n hx hb dX10_ruledIn_30 rfl (lv_at hl 0 rfl) ?_
    obtain ⟨v15_5, v16_5, v17_5, hf6, hv15_5, hv16_5, hg16_5⟩ := hT.1 0 (by decide)
    refine pl_get (v := .ref (cr ad 0 0)) hx hb hts (fun w h => mT (inX10 w h)) hown hG.1 hP (hst.1 0 (by decide)) hf6 rfl 8 (by decide) (hts _ (mT wg_483)) (fun _ h => h) rfl dX10_ruledIn_31 ?_
    obtain ⟨v0_7, v1_7, v2_7, v3_7, v4_7, v5_7, v6_7, v7_7, v8_7, hf8, hv1_7, hg1_7, hv2_7, hg2_7, hv6_7⟩ := hT.2.1 0 (by decide) 0 (by decide)
    refine pl_getN (v := .ref (cr ad 0 8)) hx hb hts (fun w h => mT (inX3 w h)) hown hG.1 hP (hst.c (by decide) (by decide)) hf8 rfl 16 (by decide) (hG.2.1 _ wn_363) (fun _ h => h) rfl dX10_ruledIn_34 ?_
    refine lv_iload_n hx hb dX10_ruledIn_37 rfl (lv_at hl 1 rfl) ?_
    obtain ⟨rw9, hf10⟩ := hT.2.1 0 (by decide) 8 (by decide)
    have hin11 : vp_in z1 6 := In.inb hz1 (by decide) (by decide)
    refine pl_iald hx hb hG.1 hP (hst.c (by decide) (by decide)) 0 hf10 rfl hin11 dX10_ruledIn_38 ?_
    refine lv_topi (fun x12 ex12 => ?_)
    refine lv_aload_n hx hb dX10_ruledIn_39 rfl (lv_at hl 0 rfl) ?_
    refine pl_get (v := .ref (cr ad 0 0)) hx hb hts (fun w h => mT (inX10 w h)) hown hG.1 hP (hst.1 0 (by decide)) hf6 rfl 8 (by decide) (hts _ (mT wg_483)) (fun _ h => h) rfl dX10_ruledIn_40 ?_
    refine lv_aload_n hx hb dX10_ruledIn_43 rfl (lv_at hl 0 rfl) ?_
    refine pl_get (v := .ref (ad 6)) hx hb hts (fun w h => mT (inX10 w h)) hown hG.1 hP (hst.1 0 (by decide)) hf6 rfl 2 (by decide) (hts _ (mT wg_477)) (fun _ h => h) rfl dX10_ruledIn_44 ?_
    refine call_i (run_VN (rm := rm_X3_trues_co) hx hb hml hown hts (s_X3_trues_co l g ad th _ _ _ 0 hst hT (by decide)) cV_X3_trues wn_986 ⟨Nat.le_of_ble_eq_true rfl, Nat.le_of_ble_eq_true rfl⟩ hG hE hA hP hD hS (hst.c (by decide) (by decide)) hf8 rfl rfl hl.1 (As := [.ref (ad 6)]) (rest := [.int x12]) rfl (Nat.le_of_ble_eq_true rfl) dX10_ruledIn_47 ⟨Nat.le_of_ble_eq_true rfl, Nat.le_of_ble_eq_true rfl⟩) hA hD hS (fun r13 L14 f15 H locs hp16 hP hD hS => ?_)
    obtain ⟨eL17L, eL17T, eL17R⟩ := hp16
    have eL17L : L14 = L := eL17L
    have eL17T : f15 = f := eL17T
    rw [eL17L, eL17T] at hP hD
    have eL17R : In r13 0 511 := eL17R
    refine lv_iand hx hb dX10_ruledIn_50 ?_
    refine lv_topi (fun x18 ex18 => ?_)
    have hb19 : In x18 0 511 := ex18 ▸ In.andr eL17R (by decide)
    refine call_i (run_S (rm := rm_J6_bitCount_0f7a4) hx hb hml hown hts (s_J6_bitCount_0f7a4 l g ad th _ _ _ x18 hst hT ) cS_J6_bitCount_0f7a4 wg_987 ⟨Nat.le_of_ble_eq_true rfl, Nat.le_of_ble_eq_true rfl⟩ hG hE hA hP hD hS rfl hl.1 (As := [.int x18]) (rest := []) rfl (Nat.le_of_ble_eq_true rfl) dX10_ruledIn_51 ⟨Nat.le_of_ble_eq_true rfl, Nat.le_of_ble_eq_true rfl⟩) hA hD hS (fun r20 L21 f22 H locs hp23 hP hD hS => ?_)
    obtain ⟨eL24L, eL24T, eL24R, eL24X0⟩ := hp23
    have eL24L : L21 = L := eL24L
    have eL24T : f22 = f := eL24T
    rw [eL24L, eL24T] at hP hD
    have eL24R : In r20 0 63 := eL24R
    have hb25 : In r20 0 9 := bc9 hb19 eL24X0
    exact ret_i (ty := .int) hx hb hr hlocks (rfl) hP hD hS (Nat.le_of_ble_eq_true rfl) (Nat.le_of_ble_eq_true rfl) (⟨rfl, rfl⟩) dX10_ruledIn_54
  by_cases c26 : z3 = 2
  ·
    refine lv_tableIn (off := 54) (tgt := 55) hx hb dX10_ruledIn_1 (by rw [c26]; decide) (by rw [c26]; decide) (by rw [c26]; decide) (by decide) ?_
    have hb27 : In z3 2 2 := by rw [c26]; exact ⟨by decide, by decide⟩
    refine lv_aload_n hx hb dX10_ruledIn_55 rfl (lv_at hl 0 rfl) ?_
    obtain ⟨v15_28, v16_28, v17_28, hf29, hv15_28, hv16_28, hg16_28⟩ := hT.1 0 (by decide)
    refine pl_get (v := .ref (cr ad 0 0)) hx hb hts (fun w h => mT (inX10 w h)) hown hG.1 hP (hst.1 0 (by decide)) hf29 rfl 8 (by decide) (hts _ (mT wg_483)) (fun _ h => h) rfl dX10_ruledIn_56 ?_
    refine lv_aload_n hx hb dX10_ruledIn_59 rfl (lv_at hl 0 rfl) ?_
    refine pl_get (v := .ref (ad 6)) hx hb hts (fun w h => mT (inX10 w h)) hown hG.1 hP (hst.1 0 (by decide)) hf29 rfl 2 (by decide) (hts _ (mT wg_477)) (fun _ h => h) rfl dX10_ruledIn_60 ?_
    refine lv_iload_n hx hb dX10_ruledIn_63 rfl (lv_at hl 1 rfl) ?_
    obtain ⟨v0_30, v1_30, v2_30, v3_30, v4_30, v5_30, v6_30, v7_30, v8_30, hf31, hv1_30, hg1_30, hv2_30, hg2_30, hv6_30⟩ := hT.2.1 0 (by decide) 0 (by decide)
    refine call_i (run_VN (rm := rm_X3_crossedIn_co) hx hb hml hown hts (s_X3_crossedIn_co l g ad th _ _ _ 0 z1 hst hT (by decide) hz1) cV_X3_crossedIn wn_1165 ⟨Nat.le_of_ble_eq_true rfl, Nat.le_of_ble_eq_true rfl⟩ hG hE hA hP hD hS (hst.c (by decide) (by decide)) hf31 rfl rfl hl.1 (As := [.ref (ad 6), .int z1]) (rest := []) rfl (Nat.le_of_ble_eq_true rfl) dX10_ruledIn_64 ⟨Nat.le_of_ble_eq_true rfl, Nat.le_of_ble_eq_true rfl⟩) hA hD hS (fun r32 L33 f34 H locs hp35 hP hD hS => ?_)
    obtain ⟨eL36L, eL36T⟩ := hp35
    have eL36L : L33 = L := eL36L
    have eL36T : f34 = f := eL36T
    rw [eL36L, eL36T] at hP hD
    exact ret_i (ty := .int) hx hb hr hlocks (rfl) hP hD hS (Nat.le_of_ble_eq_true rfl) (Nat.le_of_ble_eq_true rfl) (⟨rfl, rfl⟩) dX10_ruledIn_67
  refine lv_tableOut (tgt := 68) hx hb dX10_ruledIn_1 (tb_out (by decide) (by decide) (fun k h1 h2 => ?_)) (by decide) ?_
  · rcases (show k = 0 ∨ k = 1 ∨ k = 2 by omega) with rfl | rfl | rfl
    · exact fun e => c1 (e.trans (by decide))
    · exact fun e => c3 (e.trans (by decide))
    · exact fun e => c26 (e.trans (by decide))
  ·
    refine lv_aload_n hx hb dX10_ruledIn_68 rfl (lv_at hl 0 rfl) ?_
    refine lv_iload_n hx hb dX10_ruledIn_69 rfl (lv_at hl 1 rfl) ?_
    refine lv_iload_n hx hb dX10_ruledIn_70 rfl (lv_at hl 2 rfl) ?_
    obtain ⟨v15_37, v16_37, v17_37, hf38, hv15_37, hv16_37, hg16_37⟩ := hT.1 0 (by decide)
    refine call_i (run_V (rm := rm_X10_reachedByRuler) hx hb hml hown hts (s_X10_reachedByRuler l g ad th _ _ _ z1 z2 hst hT hz1 hz2) cV_X10_reachedByRuler wg_1169 ⟨Nat.le_of_ble_eq_true rfl, Nat.le_of_ble_eq_true rfl⟩ hG hE hA hP hD hS (hst.1 0 (by decide)) hf38 rfl rfl hl.1 (As := [.int z1, .int z2]) (rest := []) rfl (Nat.le_of_ble_eq_true rfl) dX10_ruledIn_71 ⟨Nat.le_of_ble_eq_true rfl, Nat.le_of_ble_eq_true rfl⟩) hA hD hS (fun r39 L40 f41 H locs hp42 hP hD hS => ?_)
    obtain ⟨eL43L, eL43T⟩ := hp42
    have eL43L : L40 = L := eL43L
    have eL43T : f41 = f := eL43T
    rw [eL43L, eL43T] at hP hD
    exact ret_i (ty := .int) hx hb hr hlocks (rfl) hP hD hS (Nat.le_of_ble_eq_true rfl) (Nat.le_of_ble_eq_true rfl) (⟨rfl, rfl⟩) dX10_ruledIn_74

abbrev rm_X10_ruled : Room := { frames := 4, cells := 0, slots := 0, locals := 96 }
abbrev po_X10_ruled (g : GG) (ad : Nat → Nat) (th : Nat → Int) (L : List Nat) (f : HP) (z1 : Int32) (z2 : Int32) : Int32 → (List Nat × HP) → Prop := fun _ u => u.1 = L ∧ u.2 = f
set_option maxHeartbeats 4000000 in
set_option maxRecDepth 100000 in
theorem s_X10_ruled (l : Launch) (g : GG) (ad : Nat → Nat) (th : Nat → Int) (L : List Nat) (f : HP) (sz : Nat) (z1 : Int32) (z2 : Int32) (hst : ST ad L) (hT : TI g ad th f)  : MtI l g yX10_ruled cX10_ruled 5 (some .int) rm_X10_ruled [.ref (ad 0), .int z1, .int z2] L f sz (po_X10_ruled g ad th L f z1 z2) := by
  refine MtI.of (by decide +kernel) (Nat.le_of_ble_eq_true rfl) ?_
  intro p e s m below meth c A hEn hP hD hS ls hl
  obtain ⟨hx, hb, hr, hml, hown, hlocks, hts, hG, hA, hE, hnm⟩ := hEn
  have hown : s.vm.findClass "RulerWord" = some m.cls := hown
  have hl : lv_has ls 5 [(0, .ref (ad 0)), (1, .int z1), (2, .int z2)] := hl
  refine lv_aload_n hx hb dX10_ruled_0 rfl (lv_at hl 0 rfl) ?_
  refine lv_iload_n hx hb dX10_ruled_1 rfl (lv_at hl 1 rfl) ?_
  obtain ⟨v15_1, v16_1, v17_1, hf2, hv15_1, hv16_1, hg16_1⟩ := hT.1 0 (by decide)
  refine call_i (run_V (rm := rm_X10_isPeer) hx hb hml hown hts (s_X10_isPeer l g ad th _ _ _ z1 hst hT ) cV_X10_isPeer wg_897 ⟨Nat.le_of_ble_eq_true rfl, Nat.le_of_ble_eq_true rfl⟩ hG hE hA hP hD hS (hst.1 0 (by decide)) hf2 rfl rfl hl.1 (As := [.int z1]) (rest := []) rfl (Nat.le_of_ble_eq_true rfl) dX10_ruled_2 ⟨Nat.le_of_ble_eq_true rfl, Nat.le_of_ble_eq_true rfl⟩) hA hD hS (fun r3 L4 f5 H locs hp6 hP hD hS => ?_)
  obtain ⟨eL7L, eL7T, eL7R, eL7W0⟩ := hp6
  have eL7L : L4 = L := eL7L
  have eL7T : f5 = f := eL7T
  rw [eL7L, eL7T] at hP hD
  have eL7R : In r3 0 1 := eL7R
  refine lv_if_eq (tgt := 17) hx hb dX10_ruled_5 (by decide) (fun c8 => ?_) (fun c8 => ?_)
  ·
    have cc9 : r3.toInt = (0 : Int32).toInt := congrArg Int32.toInt c8
    have hb10 : In r3 0 0 := In.eq1 eL7R (⟨by decide, by decide⟩ : In 0 0 0) cc9 (by omega) (by omega)
    refine lv_iconst (v := (-1)) hx hb dX10_ruled_17 (by decide) ?_
    exact ret_i (ty := .int) hx hb hr hlocks (rfl) hP hD hS (Nat.le_of_ble_eq_true rfl) (Nat.le_of_ble_eq_true rfl) (⟨rfl, rfl⟩) dX10_ruled_18
  ·
    have cc11 : r3.toInt ≠ (0 : Int32).toInt := i32_ne c8
    have hb12 : In r3 1 1 := In.ne1 eL7R (⟨by decide, by decide⟩ : In 0 0 0) cc11 (by omega) (by omega)
    have hb13 : In z1 0 8 := In.both (eL7W0 c8) (In.full z1) (by decide) (by decide)
    refine lv_iload_n hx hb dX10_ruled_8 rfl (lv_at hl 2 rfl) ?_
    refine lv_if_lt (tgt := 17) hx hb dX10_ruled_9 (by decide) (fun c14 => ?_) (fun c14 => ?_)
    ·
      have cc15 : z2.toInt < (0 : Int32).toInt := i32_lt.mp c14
      have hb16 : In z2 (-2147483648) (-1) := In.lt1 (In.full z2) (⟨by decide, by decide⟩ : In 0 0 0) cc15 (by omega) (by omega)
      refine lv_iconst (v := (-1)) hx hb dX10_ruled_17 (by decide) ?_
      exact ret_i (ty := .int) hx hb hr hlocks (rfl) hP hD hS (Nat.le_of_ble_eq_true rfl) (Nat.le_of_ble_eq_true rfl) (⟨rfl, rfl⟩) dX10_ruled_18
    ·
      have cc17 : (0 : Int32).toInt ≤ z2.toInt := i32_nlt c14
      have hb18 : In z2 0 2147483647 := In.ge1 (In.full z2) (⟨by decide, by decide⟩ : In 0 0 0) cc17 (by omega) (by omega)
      refine lv_iload_n hx hb dX10_ruled_12 rfl (lv_at hl 2 rfl) ?_
      refine lv_iconst (v := 3) hx hb dX10_ruled_13 (by decide) ?_
      refine lv_icmp_le (tgt := 19) hx hb dX10_ruled_14 (by decide) (fun c19 => ?_) (fun c19 => ?_)
      ·
        have cc20 : z2.toInt ≤ (3 : Int32).toInt := i32_le.mp c19
        have hb21 : In z2 0 3 := In.le1 hb18 (⟨by decide, by decide⟩ : In 3 3 3) cc20 (by omega) (by omega)
        refine lv_iconst (v := 0) hx hb dX10_ruled_19 (by decide) ?_
        refine lv_istore_n (lv' := [(3, .int 0), (0, .ref (ad 0)), (1, .int z1), (2, .int z2)]) hx hb dX10_ruled_20 rfl hl (by decide) rfl (fun ls hl => ?_)
        refine lv_iconst (v := 0) hx hb dX10_ruled_21 (by decide) ?_
        refine lv_istore (lv' := [(4, .int 0), (3, .int 0), (0, .ref (ad 0)), (1, .int z1), (2, .int z2)]) hx hb dX10_ruled_22 hl (by decide) rfl (fun ls hl => ?_)
        have hJ24 : ∀ (k24 : Nat) (y24_l3 : Int32) (y24_l4 : Int32) (H : Heap) (locs : List Loc) (ls : Array Slot), In y24_l3 (-2147483648) 2147483647 → In y24_l4 0 6 → va_P g.1 vwCl (va_pl L f) H → va_D A (va_pl L f) → va_S A s.heap H locs → lv_has ls 5 [(0, .ref (ad 0)), (1, .int z1), (2, .int z2), (3, .int y24_l3), (4, .int y24_l4)] → 6 - y24_l4.toInt < ((k24 : Nat) : Int) → W p l e rm_X10_ruled s m [.ref (ad 0), .int z1, .int z2].toArray below meth c H locs 0 0 (MQ below (va_Qi (po_X10_ruled g ad th L f z1 z2) (PstB g A) A) [.ref (ad 0), .int z1, .int z2].toArray s rm_X10_ruled.cells rm_X10_ruled.slots A) (F0 m 24 ls []) := by
          intro k24
          induction k24 with
          | zero =>
            intro y24_l3 y24_l4 H locs ls hy24_l3 hy24_l4 hP hD hS hl hmz24
            exact ms0 hy24_l4 hmz24
          | succ k24 ih24 =>
            intro y24_l3 y24_l4 H locs ls hy24_l3 hy24_l4 hP hD hS hl hmz24
            refine lv_iload hx hb dX10_ruled_24 (lv_at hl 4 rfl) ?_
            refine lv_aload_n hx hb dX10_ruled_26 rfl (lv_at hl 0 rfl) ?_
            refine call_i (run_V (rm := rm_X10_phasesOver) hx hb hml hown hts (s_X10_phasesOver l g ad th _ _ _  hst hT ) cV_X10_phasesOver wg_956 ⟨Nat.le_of_ble_eq_true rfl, Nat.le_of_ble_eq_true rfl⟩ hG hE hA hP hD hS (hst.1 0 (by decide)) hf2 rfl rfl hl.1 (As := []) (rest := [.int y24_l4]) rfl (Nat.le_of_ble_eq_true rfl) dX10_ruled_27 ⟨Nat.le_of_ble_eq_true rfl, Nat.le_of_ble_eq_true rfl⟩) hA hD hS (fun r22 L23 f24 H locs hp25 hP hD hS => ?_)
            obtain ⟨eL26L, eL26T, eL26R⟩ := hp25
            have eL26L : L23 = L := eL26L
            have eL26T : f24 = f := eL26T
            rw [eL26L, eL26T] at hP hD
            have eL26R : In r22 0 6 := eL26R
            refine lv_icmp_ge (tgt := 63) hx hb dX10_ruled_30 (by decide) (fun c27 => ?_) (fun c27 => ?_)
            ·
              refine lv_iload_n hx hb dX10_ruled_63 rfl (lv_at hl 3 rfl) ?_
              exact ret_i (ty := .int) hx hb hr hlocks (rfl) hP hD hS (Nat.le_of_ble_eq_true rfl) (Nat.le_of_ble_eq_true rfl) (⟨rfl, rfl⟩) dX10_ruled_64
            ·
              have cc28 : y24_l4.toInt < r22.toInt := i32_nle c27
              have hb29 : In y24_l4 0 5 := In.lt1 hy24_l4 eL26R cc28 (by omega) (by omega)
              have hb30 : In r22 1 6 := In.lt2 hy24_l4 eL26R cc28 (by omega) (by omega)
              refine lv_aload_n hx hb dX10_ruled_33 rfl (lv_at hl 0 rfl) ?_
              refine pl_get (v := .ref (ad 6)) hx hb hts (fun w h => mT (inX10 w h)) hown hG.1 hP (hst.1 0 (by decide)) hf2 rfl 2 (by decide) (hts _ (mT wg_477)) (fun _ h => h) rfl dX10_ruled_34 ?_
              refine lv_iload hx hb dX10_ruled_37 (lv_at hl 4 rfl) ?_
              obtain ⟨v0_31, v1_31, v2_31, v3_31, v4_31, v5_31, v6_31, v7_31, hf32, hv0_31, hg0_31, hv1_31, hg1_31, hv2_31, hv3_31, hv5_31, hv6_31, hrel0_31⟩ := hT.1 6 (by decide)
              refine call_i (run_VN (rm := rm_X2_ruler_co) hx hb hml hown hts (s_X2_ruler_co l g ad th _ _ _ y24_l4 hst hT (In.mono hb29 (by decide) (by decide))) cV_X2_ruler wn_938 ⟨Nat.le_of_ble_eq_true rfl, Nat.le_of_ble_eq_true rfl⟩ hG hE hA hP hD hS (hst.1 6 (by decide)) hf32 rfl rfl hl.1 (As := [.int y24_l4]) (rest := []) rfl (Nat.le_of_ble_eq_true rfl) dX10_ruled_39 ⟨Nat.le_of_ble_eq_true rfl, Nat.le_of_ble_eq_true rfl⟩) hA hD hS (fun r33 L34 f35 H locs hp36 hP hD hS => ?_)
              obtain ⟨eL37L, eL37T, eL37R⟩ := hp36
              have eL37L : L34 = L := eL37L
              have eL37T : f35 = f := eL37T
              rw [eL37L, eL37T] at hP hD
              have eL37R : In r33 0 8 := eL37R
              refine lv_iload_n hx hb dX10_ruled_42 rfl (lv_at hl 1 rfl) ?_
              have hJ57 : ∀ (y57_l3 : Int32) (H : Heap) (locs : List Loc) (ls : Array Slot), In y57_l3 (-2147483648) 2147483647 → va_P g.1 vwCl (va_pl L f) H → va_D A (va_pl L f) → va_S A s.heap H locs → lv_has ls 5 [(0, .ref (ad 0)), (1, .int z1), (2, .int z2), (3, .int y57_l3), (4, .int y24_l4)] → W p l e rm_X10_ruled s m [.ref (ad 0), .int z1, .int z2].toArray below meth c H locs 0 0 (MQ below (va_Qi (po_X10_ruled g ad th L f z1 z2) (PstB g A) A) [.ref (ad 0), .int z1, .int z2].toArray s rm_X10_ruled.cells rm_X10_ruled.slots A) (F0 m 57 ls []) := by
                intro y57_l3 H locs ls hy57_l3 hP hD hS hl
                obtain ⟨x38, ex38⟩ : ∃ y : Int32, y = y24_l4 + 1 := ⟨_, rfl⟩
                have hb39 : In x38 1 6 := ex38 ▸ In.add hb29 (⟨by decide, by decide⟩ : In 1 1 1) (by decide) (by decide) (by decide) (by decide)
                have et40 : x38.toInt = y24_l4.toInt + 1 := In.adde ex38 hb29 (k := 1) (by decide) (by decide) (by decide)
                refine lv_iinc (v := x38) (lv' := [(4, .int x38), (0, .ref (ad 0)), (1, .int z1), (2, .int z2), (3, .int y57_l3)]) hx hb dX10_ruled_57 hl (k := 4) rfl (by rw [ex38]; rfl) (by decide) rfl (fun ls hl => ?_)
                refine lv_goto (tgt := 24) hx hb dX10_ruled_60 (by decide) ?_
                exact ih24 y57_l3 x38 _ _ _ hy57_l3 (In.mono hb39 (by decide) (by decide)) hP hD hS (lv_sub hl [1, 2, 3, 4, 0] rfl) (msu et40 (by decide) hmz24)
              refine lv_icmp_ne (tgt := 57) hx hb dX10_ruled_43 (by decide) (fun c41 => ?_) (fun c41 => ?_)
              ·
                exact hJ57 y24_l3 _ _ _ hy24_l3 hP hD hS (lv_sub hl [0, 1, 2, 3, 4] rfl)
              ·
                refine lv_iload_n hx hb dX10_ruled_46 rfl (lv_at hl 3 rfl) ?_
                refine lv_aload_n hx hb dX10_ruled_47 rfl (lv_at hl 0 rfl) ?_
                refine lv_iload hx hb dX10_ruled_48 (lv_at hl 4 rfl) ?_
                refine lv_iload_n hx hb dX10_ruled_50 rfl (lv_at hl 1 rfl) ?_
                refine lv_iload_n hx hb dX10_ruled_51 rfl (lv_at hl 2 rfl) ?_
                refine call_i (run_V (rm := rm_X10_ruledIn) hx hb hml hown hts (s_X10_ruledIn l g ad th _ _ _ y24_l4 z1 z2 hst hT hb29 hb13) cV_X10_ruledIn wg_1161 ⟨Nat.le_of_ble_eq_true rfl, Nat.le_of_ble_eq_true rfl⟩ hG hE hA hP hD hS (hst.1 0 (by decide)) hf2 rfl rfl hl.1 (As := [.int y24_l4, .int z1, .int z2]) (rest := [.int y24_l3]) rfl (Nat.le_of_ble_eq_true rfl) dX10_ruled_52 ⟨Nat.le_of_ble_eq_true rfl, Nat.le_of_ble_eq_true rfl⟩) hA hD hS (fun r42 L43 f44 H locs hp45 hP hD hS => ?_)
                obtain ⟨eL46L, eL46T⟩ := hp45
                have eL46L : L43 = L := eL46L
                have eL46T : f44 = f := eL46T
                rw [eL46L, eL46T] at hP hD
                refine lv_iadd hx hb dX10_ruled_55 ?_
                refine lv_topi (fun x47 ex47 => ?_)
                refine lv_istore_n (lv' := [(3, .int x47), (0, .ref (ad 0)), (1, .int z1), (2, .int z2), (4, .int y24_l4)]) hx hb dX10_ruled_56 rfl hl (by decide) rfl (fun ls hl => ?_)
                exact hJ57 x47 _ _ _ (In.full x47) hP hD hS (lv_sub hl [1, 2, 3, 0, 4] rfl)
        exact hJ24 ((6 - (0 : Int32).toInt).toNat + 1) 0 0 _ _ _ (⟨by decide, by decide⟩ : In 0 (-2147483648) 2147483647) (⟨by decide, by decide⟩ : In 0 0 6) hP hD hS (lv_sub hl [2, 3, 4, 1, 0] rfl) (msI _)
      ·
        have cc48 : (3 : Int32).toInt < z2.toInt := i32_nle c19
        have hb49 : In z2 4 2147483647 := In.gt1 hb18 (⟨by decide, by decide⟩ : In 3 3 3) cc48 (by omega) (by omega)
        refine lv_iconst (v := (-1)) hx hb dX10_ruled_17 (by decide) ?_
        exact ret_i (ty := .int) hx hb hr hlocks (rfl) hP hD hS (Nat.le_of_ble_eq_true rfl) (Nat.le_of_ble_eq_true rfl) (⟨rfl, rfl⟩) dX10_ruled_18

abbrev rm_X10_shown : Room := { frames := 6, cells := 0, slots := 0, locals := 129 }
abbrev po_X10_shown (g : GG) (ad : Nat → Nat) (th : Nat → Int) (L : List Nat) (f : HP) (z1 : Int32) (z2 : Int32) : Int32 → (List Nat × HP) → Prop := fun r u => u.1 = L ∧ TI g ad th u.2 ∧ (∀ b, b ≠ (ad 3) → b ≠ (ad 4) → u.2 b = f b)
set_option maxHeartbeats 4000000 in
set_option maxRecDepth 100000 in
theorem s_X10_shown (l : Launch) (g : GG) (ad : Nat → Nat) (th : Nat → Int) (L : List Nat) (f : HP) (sz : Nat) (z1 : Int32) (z2 : Int32) (hst : ST ad L) (hT : TI g ad th f)  : MtI l g yX10_shown cX10_shown 5 (some .int) rm_X10_shown [.ref (ad 0), .int z1, .int z2] L f sz (po_X10_shown g ad th L f z1 z2) := by
  refine MtI.of (by decide +kernel) (Nat.le_of_ble_eq_true rfl) ?_
  intro p e s m below meth c A hEn hP hD hS ls hl
  obtain ⟨hx, hb, hr, hml, hown, hlocks, hts, hG, hA, hE, hnm⟩ := hEn
  have hown : s.vm.findClass "RulerWord" = some m.cls := hown
  have hl : lv_has ls 5 [(0, .ref (ad 0)), (1, .int z1), (2, .int z2)] := hl
  have hfr : (∀ b, b ≠ (ad 3) → b ≠ (ad 4) → f b = f b) := fun b z0_ z1_ => rfl
  refine lv_aload_n hx hb dX10_shown_0 rfl (lv_at hl 0 rfl) ?_
  refine lv_iload_n hx hb dX10_shown_1 rfl (lv_at hl 1 rfl) ?_
  obtain ⟨v15_1, v16_1, v17_1, hf2, hv15_1, hv16_1, hg16_1⟩ := hT.1 0 (by decide)
  refine call_i (run_V (rm := rm_X10_isOver) hx hb hml hown hts (s_X10_isOver l g ad th _ _ _ z1 hst hT ) cV_X10_isOver wg_952 ⟨Nat.le_of_ble_eq_true rfl, Nat.le_of_ble_eq_true rfl⟩ hG hE hA hP hD hS (hst.1 0 (by decide)) hf2 rfl rfl hl.1 (As := [.int z1]) (rest := []) rfl (Nat.le_of_ble_eq_true rfl) dX10_shown_2 ⟨Nat.le_of_ble_eq_true rfl, Nat.le_of_ble_eq_true rfl⟩) hA hD hS (fun r3 L4 f5 H locs hp6 hP hD hS => ?_)
  obtain ⟨eL7L, eL7T, eL7R, eL7W0⟩ := hp6
  have eL7L : L4 = L := eL7L
  have eL7T : f5 = f := eL7T
  rw [eL7L, eL7T] at hP hD
  have eL7R : In r3 0 1 := eL7R
  refine lv_if_ne (tgt := 10) hx hb dX10_shown_5 (by decide) (fun c8 => ?_) (fun c8 => ?_)
  ·
    have cc9 : r3.toInt ≠ (0 : Int32).toInt := i32_ne c8
    have hb10 : In r3 1 1 := In.ne1 eL7R (⟨by decide, by decide⟩ : In 0 0 0) cc9 (by omega) (by omega)
    have hb11 : In z1 0 5 := In.both (eL7W0 c8) (In.full z1) (by decide) (by decide)
    refine lv_aload_n hx hb dX10_shown_10 rfl (lv_at hl 0 rfl) ?_
    refine pl_get (v := .ref (ad 6)) hx hb hts (fun w h => mT (inX10 w h)) hown hG.1 hP (hst.1 0 (by decide)) hf2 rfl 2 (by decide) (hts _ (mT wg_477)) (fun _ h => h) rfl dX10_shown_11 ?_
    refine lv_iload_n hx hb dX10_shown_14 rfl (lv_at hl 1 rfl) ?_
    obtain ⟨v0_12, v1_12, v2_12, v3_12, v4_12, v5_12, v6_12, v7_12, hf13, hv0_12, hg0_12, hv1_12, hg1_12, hv2_12, hv3_12, hv5_12, hv6_12, hrel0_12⟩ := hT.1 6 (by decide)
    refine call_i (run_VN (rm := rm_X2_ruler_co) hx hb hml hown hts (s_X2_ruler_co l g ad th _ _ _ z1 hst hT (In.mono hb11 (by decide) (by decide))) cV_X2_ruler wn_938 ⟨Nat.le_of_ble_eq_true rfl, Nat.le_of_ble_eq_true rfl⟩ hG hE hA hP hD hS (hst.1 6 (by decide)) hf13 rfl rfl hl.1 (As := [.int z1]) (rest := []) rfl (Nat.le_of_ble_eq_true rfl) dX10_shown_15 ⟨Nat.le_of_ble_eq_true rfl, Nat.le_of_ble_eq_true rfl⟩) hA hD hS (fun r14 L15 f16 H locs hp17 hP hD hS => ?_)
    obtain ⟨eL18L, eL18T, eL18R⟩ := hp17
    have eL18L : L15 = L := eL18L
    have eL18T : f16 = f := eL18T
    rw [eL18L, eL18T] at hP hD
    have eL18R : In r14 0 8 := eL18R
    refine lv_istore_n (lv' := [(3, .int r14), (0, .ref (ad 0)), (1, .int z1), (2, .int z2)]) hx hb dX10_shown_18 rfl hl (by decide) rfl (fun ls hl => ?_)
    refine lv_aload_n hx hb dX10_shown_19 rfl (lv_at hl 1 rfl) ?_
    refine pl_get (v := .ref (ad 3)) hx hb hts (fun w h => mT (inX10 w h)) hown hG.1 hP (hst.1 0 (by decide)) hf2 rfl 13 (by decide) (hts _ (mT wg_488)) (fun _ h => h) rfl dX10_shown_20 ?_
    refine lv_iconst (v := 0) hx hb dX10_shown_23 (by decide) ?_
    obtain ⟨v1_19, v2_19, v3_19, v4_19, hf20, hv1_19, hv2_19, hv3_19, hv4_19⟩ := hT.1 3 (by decide)
    refine pl_putN (ty := .int) (v := .int 0) (fs' := [.ref (ad 4), .int 0, .int v2_19, .int v3_19, .int v4_19]) hx hb hts (fun w h => mT (inX8 w h)) tyX8 tyX8_ok nmX8 hown hG.1 hP hD hS (hst.1 3 (by decide)) hf20 rfl 1 (by decide) (hG.2.1 _ wn_197) (fun _ h => h) rfl (by decide +kernel) (rfl) (rfl) (Nat.le_of_ble_eq_true rfl) rfl dX10_shown_24 (fun H locs f21 hf22 ho23 hP hD hS => ?_)
    have hf24 := (ho23 (ad 0) (hst.ne (by decide) (by decide) (by decide))).trans hf2
    have hf25 := (ho23 (ad 6) (hst.ne (by decide) (by decide) (by decide))).trans hf13
    have hfr : (∀ b, b ≠ (ad 3) → b ≠ (ad 4) → f21 b = f b) := fun b z0_ z1_ => (ho23 b z0_).trans (hfr b z0_ z1_)
    refine lv_aload_n hx hb dX10_shown_27 rfl (lv_at hl 1 rfl) ?_
    refine pl_get (v := .ref (ad 3)) hx hb hts (fun w h => mT (inX10 w h)) hown hG.1 hP (hst.1 0 (by decide)) hf24 rfl 13 (by decide) (hts _ (mT wg_488)) (fun _ h => h) rfl dX10_shown_28 ?_
    refine va_ldcSw hx hb hown (hG.2.2.1 ("RulerWord", 354, "phase ", 16) (by decide +kernel)) dX10_shown_31 ?_
    refine lv_iload_n hx hb dX10_shown_34 rfl (lv_at hl 2 rfl) ?_
    have hT := TI.updA hT hst (k := 3) (by decide) hf22 ho23 ⟨0, v2_19, v3_19, v4_19, rfl, (⟨by decide, by decide⟩ : In 0 0 520), hv2_19, hv3_19, hv4_19⟩
    refine call_v (run_VN (rm := rm_X8_writeNumber) hx hb hml hown hts (s_X8_writeNumber l g ad th _ _ _ 16 z1 hst hT (by decide)) cV_X8_writeNumber wn_1137 ⟨Nat.le_of_ble_eq_true rfl, Nat.le_of_ble_eq_true rfl⟩ hG hE hA hP hD hS (hst.1 3 (by decide)) hf22 rfl rfl hl.1 (As := [.ref (g.2.2.1 16), .int z1]) (rest := []) rfl (Nat.le_of_ble_eq_true rfl) dX10_shown_35 ⟨Nat.le_of_ble_eq_true rfl, Nat.le_of_ble_eq_true rfl⟩) hA hD hS (fun L27 f28 H locs hp29 hP hD hS => ?_)
    obtain ⟨eL30L, eL30T, eL30F⟩ := hp29
    have eL30L : L27 = L := eL30L
    rw [eL30L] at hP hD
    have hT : TI g ad th f28 := eL30T
    have eL30F : ∀ b, b ≠ (ad 3) → b ≠ (ad 4) → f28 b = f21 b := eL30F
    have hf31 := (eL30F (ad 0) (hst.ne (by decide) (by decide) (by decide)) (hst.ne (by decide) (by decide) (by decide))).trans hf24
    have hf32 := (eL30F (ad 6) (hst.ne (by decide) (by decide) (by decide)) (hst.ne (by decide) (by decide) (by decide))).trans hf25
    have hfr : (∀ b, b ≠ (ad 3) → b ≠ (ad 4) → f28 b = f b) := fun b z0_ z1_ => (eL30F b z0_ z1_).trans (hfr b z0_ z1_)
    refine lv_aload_n hx hb dX10_shown_38 rfl (lv_at hl 1 rfl) ?_
    refine pl_get (v := .ref (ad 3)) hx hb hts (fun w h => mT (inX10 w h)) hown hG.1 hP (hst.1 0 (by decide)) hf31 rfl 13 (by decide) (hts _ (mT wg_488)) (fun _ h => h) rfl dX10_shown_39 ?_
    refine va_ldcSw hx hb hown (hG.2.2.1 ("RulerWord", 360, " ruler ", 22) (by decide +kernel)) dX10_shown_42 ?_
    refine lv_iload_n hx hb dX10_shown_45 rfl (lv_at hl 0 rfl) ?_
    obtain ⟨v1_33, v2_33, v3_33, v4_33, hf34, hv1_33, hv2_33, hv3_33, hv4_33⟩ := hT.1 3 (by decide)
    refine call_v (run_VN (rm := rm_X8_writeNumber) hx hb hml hown hts (s_X8_writeNumber l g ad th _ _ _ 22 r14 hst hT (by decide)) cV_X8_writeNumber wn_1137 ⟨Nat.le_of_ble_eq_true rfl, Nat.le_of_ble_eq_true rfl⟩ hG hE hA hP hD hS (hst.1 3 (by decide)) hf34 rfl rfl hl.1 (As := [.ref (g.2.2.1 22), .int r14]) (rest := []) rfl (Nat.le_of_ble_eq_true rfl) dX10_shown_46 ⟨Nat.le_of_ble_eq_true rfl, Nat.le_of_ble_eq_true rfl⟩) hA hD hS (fun L36 f37 H locs hp38 hP hD hS => ?_)
    obtain ⟨eL39L, eL39T, eL39F⟩ := hp38
    have eL39L : L36 = L := eL39L
    rw [eL39L] at hP hD
    have hT : TI g ad th f37 := eL39T
    have eL39F : ∀ b, b ≠ (ad 3) → b ≠ (ad 4) → f37 b = f28 b := eL39F
    have hf40 := (eL39F (ad 0) (hst.ne (by decide) (by decide) (by decide)) (hst.ne (by decide) (by decide) (by decide))).trans hf31
    have hf41 := (eL39F (ad 6) (hst.ne (by decide) (by decide) (by decide)) (hst.ne (by decide) (by decide) (by decide))).trans hf32
    have hfr : (∀ b, b ≠ (ad 3) → b ≠ (ad 4) → f37 b = f b) := fun b z0_ z1_ => (eL39F b z0_ z1_).trans (hfr b z0_ z1_)
    refine lv_iconst (v := 0) hx hb dX10_shown_49 (by decide) ?_
    refine lv_istore (lv' := [(4, .int 0), (3, .int r14), (0, .ref (ad 0)), (1, .int z1), (2, .int z2)]) hx hb dX10_shown_50 hl (by decide) rfl (fun ls hl => ?_)
    have hJ52 : ∀ (k52 : Nat) (y52_l4 : Int32) (f_52 : HP) (H : Heap) (locs : List Loc) (ls : Array Slot), In y52_l4 0 9 → va_P g.1 vwCl (va_pl L f_52) H → va_D A (va_pl L f_52) → va_S A s.heap H locs → TI g ad th f_52 → (∀ b, b ≠ (ad 3) → b ≠ (ad 4) → f_52 b = f b) → f_52 (ad 0) = .inr (9, [.ref (ad 1), .ref (ad 5), .ref (ad 6), .ref (ad 7), .ref (ad 9), .ref (ad 13), .ref (ad 14), .ref (ad 15), .ref (cr ad 0 0), .ref (cr ad 1 0), .ref (cr ad 2 0), .ref (ad 16), .ref (ad 18), .ref (ad 3), .ref (ad 24), .int v15_1, .int v16_1, .long v17_1]) → f_52 (ad 6) = .inr (2, [.int v0_12, .int v1_12, .int v2_12, .int v3_12, .int v4_12, .int v5_12, .int v6_12, .int v7_12]) → lv_has ls 5 [(0, .ref (ad 0)), (1, .int z1), (2, .int z2), (3, .int r14), (4, .int y52_l4)] → 9 - y52_l4.toInt < ((k52 : Nat) : Int) → W p l e rm_X10_shown s m [.ref (ad 0), .int z1, .int z2].toArray below meth c H locs 0 0 (MQ below (va_Qi (po_X10_shown g ad th L f z1 z2) (PstB g A) A) [.ref (ad 0), .int z1, .int z2].toArray s rm_X10_shown.cells rm_X10_shown.slots A) (F0 m 52 ls []) := by
      intro k52
      induction k52 with
      | zero =>
        intro y52_l4 f_52 H locs ls hy52_l4 hP hD hS hT hfr hf42 hf43 hl hmz52
        exact ms0 hy52_l4 hmz52
      | succ k52 ih52 =>
        intro y52_l4 f_52 H locs ls hy52_l4 hP hD hS hT hfr hf42 hf43 hl hmz52
        refine lv_iload hx hb dX10_shown_52 (lv_at hl 4 rfl) ?_
        refine lv_aload_n hx hb dX10_shown_54 rfl (lv_at hl 0 rfl) ?_
        refine pl_get (v := .ref (ad 6)) hx hb hts (fun w h => mT (inX10 w h)) hown hG.1 hP (hst.1 0 (by decide)) hf42 rfl 2 (by decide) (hts _ (mT wg_477)) (fun _ h => h) rfl dX10_shown_55 ?_
        refine pl_getN (v := .int v1_12) hx hb hts (fun w h => mT (inX2 w h)) hown hG.1 hP (hst.1 6 (by decide)) hf43 rfl 1 (by decide) (hG.2.1 _ wn_230) (fun _ h => h) rfl dX10_shown_58 ?_
        refine lv_icmp_ge (tgt := 229) hx hb dX10_shown_61 (by decide) (fun c44 => ?_) (fun c44 => ?_)
        ·
          refine lv_aload_n hx hb dX10_shown_229 rfl (lv_at hl 0 rfl) ?_
          refine lv_iload_n hx hb dX10_shown_230 rfl (lv_at hl 2 rfl) ?_
          refine call_i (run_V (rm := rm_X10_byteOfText) hx hb hml hown hts (s_X10_byteOfText l g ad th _ _ _ z2 hst hT ) cV_X10_byteOfText wg_1149 ⟨Nat.le_of_ble_eq_true rfl, Nat.le_of_ble_eq_true rfl⟩ hG hE hA hP hD hS (hst.1 0 (by decide)) hf42 rfl rfl hl.1 (As := [.int z2]) (rest := []) rfl (Nat.le_of_ble_eq_true rfl) dX10_shown_231 ⟨Nat.le_of_ble_eq_true rfl, Nat.le_of_ble_eq_true rfl⟩) hA hD hS (fun r45 L46 f47 H locs hp48 hP hD hS => ?_)
          obtain ⟨eL49L, eL49T⟩ := hp48
          have eL49L : L46 = L := eL49L
          have eL49T : f47 = f_52 := eL49T
          rw [eL49L, eL49T] at hP hD
          exact ret_i (ty := .int) hx hb hr hlocks (rfl) hP hD hS (Nat.le_of_ble_eq_true rfl) (Nat.le_of_ble_eq_true rfl) (⟨rfl, hT, hfr⟩) dX10_shown_234
        ·
          have cc50 : y52_l4.toInt < v1_12.toInt := i32_nle c44
          have hb51 : In y52_l4 0 8 := In.lt1 hy52_l4 hv1_12 cc50 (by omega) (by omega)
          have hb52 : In v1_12 1 9 := In.lt2 hy52_l4 hv1_12 cc50 (by omega) (by omega)
          refine lv_aload_n hx hb dX10_shown_64 rfl (lv_at hl 0 rfl) ?_
          refine pl_get (v := .ref (ad 3)) hx hb hts (fun w h => mT (inX10 w h)) hown hG.1 hP (hst.1 0 (by decide)) hf42 rfl 13 (by decide) (hts _ (mT wg_488)) (fun _ h => h) rfl dX10_shown_65 ?_
          refine lv_aload_n hx hb dX10_shown_68 rfl (lv_at hl 0 rfl) ?_
          refine pl_get (v := .ref (cr ad 0 0)) hx hb hts (fun w h => mT (inX10 w h)) hown hG.1 hP (hst.1 0 (by decide)) hf42 rfl 8 (by decide) (hts _ (mT wg_483)) (fun _ h => h) rfl dX10_shown_69 ?_
          obtain ⟨v0_53, v1_53, v2_53, v3_53, v4_53, v5_53, v6_53, v7_53, v8_53, hf54, hv1_53, hg1_53, hv2_53, hg2_53, hv6_53⟩ := hT.2.1 0 (by decide) 0 (by decide)
          refine pl_getN (v := .int v1_53) hx hb hts (fun w h => mT (inX3 w h)) hown hG.1 hP (hst.c (by decide) (by decide)) hf54 rfl 1 (by decide) (hG.2.1 _ wn_339) (fun _ h => h) rfl dX10_shown_72 ?_
          refine lv_iload hx hb dX10_shown_75 (lv_at hl 4 rfl) ?_
          refine call_i (run_S (rm := rm_X10_bit) hx hb hml hown hts (s_X10_bit l g ad th _ _ _ v1_53 y52_l4 hst hT ) cS_X10_bit wg_901 ⟨Nat.le_of_ble_eq_true rfl, Nat.le_of_ble_eq_true rfl⟩ hG hE hA hP hD hS rfl hl.1 (As := [.int v1_53, .int y52_l4]) (rest := [.ref (ad 3)]) rfl (Nat.le_of_ble_eq_true rfl) dX10_shown_77 ⟨Nat.le_of_ble_eq_true rfl, Nat.le_of_ble_eq_true rfl⟩) hA hD hS (fun r55 L56 f57 H locs hp58 hP hD hS => ?_)
          obtain ⟨eL59L, eL59T, eL59R, eL59X0⟩ := hp58
          have eL59L : L56 = L := eL59L
          have eL59T : f57 = f_52 := eL59T
          rw [eL59L, eL59T] at hP hD
          have eL59R : In r55 0 1 := eL59R
          refine lv_iconst (v := 1) hx hb dX10_shown_80 (by decide) ?_
          have hJ93 : ∀ (y93_s0 : Nat) (H : Heap) (locs : List Loc) (ls : Array Slot), y93_s0 < nS → va_P g.1 vwCl (va_pl L f_52) H → va_D A (va_pl L f_52) → va_S A s.heap H locs → lv_has ls 5 [(0, .ref (ad 0)), (1, .int z1), (2, .int z2), (3, .int r14), (4, .int y52_l4)] → W p l e rm_X10_shown s m [.ref (ad 0), .int z1, .int z2].toArray below meth c H locs 0 0 (MQ below (va_Qi (po_X10_shown g ad th L f z1 z2) (PstB g A) A) [.ref (ad 0), .int z1, .int z2].toArray s rm_X10_shown.cells rm_X10_shown.slots A) (F0 m 93 ls [.ref (g.2.2.1 y93_s0), .ref (ad 3)]) := by
            intro y93_s0 H locs ls hi_y93_s0 hP hD hS hl
            refine lv_iload hx hb dX10_shown_93 (lv_at hl 4 rfl) ?_
            obtain ⟨v1_60, v2_60, v3_60, v4_60, hf61, hv1_60, hv2_60, hv3_60, hv4_60⟩ := hT.1 3 (by decide)
            refine call_v (run_VN (rm := rm_X8_writeNumber) hx hb hml hown hts (s_X8_writeNumber l g ad th _ _ _ y93_s0 y52_l4 hst hT hi_y93_s0) cV_X8_writeNumber wn_1137 ⟨Nat.le_of_ble_eq_true rfl, Nat.le_of_ble_eq_true rfl⟩ hG hE hA hP hD hS (hst.1 3 (by decide)) hf61 rfl rfl hl.1 (As := [.ref (g.2.2.1 y93_s0), .int y52_l4]) (rest := []) rfl (Nat.le_of_ble_eq_true rfl) dX10_shown_95 ⟨Nat.le_of_ble_eq_true rfl, Nat.le_of_ble_eq_true rfl⟩) hA hD hS (fun L63 f64 H locs hp65 hP hD hS => ?_)
            obtain ⟨eL66L, eL66T, eL66F⟩ := hp65
            have eL66L : L63 = L := eL66L
            rw [eL66L] at hP hD
            have hT : TI g ad th f64 := eL66T
            have eL66F : ∀ b, b ≠ (ad 3) → b ≠ (ad 4) → f64 b = f_52 b := eL66F
            have hf67 := (eL66F (ad 0) (hst.ne (by decide) (by decide) (by decide)) (hst.ne (by decide) (by decide) (by decide))).trans hf42
            have hf68 := (eL66F (ad 6) (hst.ne (by decide) (by decide) (by decide)) (hst.ne (by decide) (by decide) (by decide))).trans hf43
            have hf69 := (eL66F (cr ad 0 0) (hst.ne (by omega) (by omega) (by omega)) (hst.ne (by omega) (by omega) (by omega))).trans hf54
            have hfr : (∀ b, b ≠ (ad 3) → b ≠ (ad 4) → f64 b = f b) := fun b z0_ z1_ => (eL66F b z0_ z1_).trans (hfr b z0_ z1_)
            refine lv_aload_n hx hb dX10_shown_98 rfl (lv_at hl 0 rfl) ?_
            refine pl_get (v := .ref (ad 3)) hx hb hts (fun w h => mT (inX10 w h)) hown hG.1 hP (hst.1 0 (by decide)) hf67 rfl 13 (by decide) (hts _ (mT wg_488)) (fun _ h => h) rfl dX10_shown_99 ?_
            refine va_ldcSw hx hb hown (hG.2.2.1 ("RulerWord", 366, "=", 25) (by decide +kernel)) dX10_shown_102 ?_
            refine lv_aload_n hx hb dX10_shown_105 rfl (lv_at hl 0 rfl) ?_
            refine pl_get (v := .ref (cr ad 0 0)) hx hb hts (fun w h => mT (inX10 w h)) hown hG.1 hP (hst.1 0 (by decide)) hf67 rfl 8 (by decide) (hts _ (mT wg_483)) (fun _ h => h) rfl dX10_shown_106 ?_
            refine pl_getN (v := .ref (cr ad 0 6)) hx hb hts (fun w h => mT (inX3 w h)) hown hG.1 hP (hst.c (by decide) (by decide)) hf69 rfl 14 (by decide) (hG.2.1 _ wn_359) (fun _ h => h) rfl dX10_shown_109 ?_
            refine lv_iload_n hx hb dX10_shown_112 rfl (lv_at hl 1 rfl) ?_
            obtain ⟨rw70, hf71⟩ := hT.2.1 0 (by decide) 6 (by decide)
            have hin72 : vp_in z1 6 := In.inb hb11 (by decide) (by decide)
            refine pl_iald hx hb hG.1 hP (hst.c (by decide) (by decide)) 0 hf71 rfl hin72 dX10_shown_113 ?_
            refine lv_topi (fun x73 ex73 => ?_)
            refine lv_iload hx hb dX10_shown_114 (lv_at hl 4 rfl) ?_
            refine call_i (run_S (rm := rm_X10_bit) hx hb hml hown hts (s_X10_bit l g ad th _ _ _ x73 y52_l4 hst hT ) cS_X10_bit wg_901 ⟨Nat.le_of_ble_eq_true rfl, Nat.le_of_ble_eq_true rfl⟩ hG hE hA hP hD hS rfl hl.1 (As := [.int x73, .int y52_l4]) (rest := [.ref (g.2.2.1 25), .ref (ad 3)]) rfl (Nat.le_of_ble_eq_true rfl) dX10_shown_116 ⟨Nat.le_of_ble_eq_true rfl, Nat.le_of_ble_eq_true rfl⟩) hA hD hS (fun r74 L75 f76 H locs hp77 hP hD hS => ?_)
            obtain ⟨eL78L, eL78T, eL78R, eL78X0⟩ := hp77
            have eL78L : L75 = L := eL78L
            have eL78T : f76 = f64 := eL78T
            rw [eL78L, eL78T] at hP hD
            have eL78R : In r74 0 1 := eL78R
            obtain ⟨v1_79, v2_79, v3_79, v4_79, hf80, hv1_79, hv2_79, hv3_79, hv4_79⟩ := hT.1 3 (by decide)
            refine call_v (run_VN (rm := rm_X8_writeNumber) hx hb hml hown hts (s_X8_writeNumber l g ad th _ _ _ 25 r74 hst hT (by decide)) cV_X8_writeNumber wn_1137 ⟨Nat.le_of_ble_eq_true rfl, Nat.le_of_ble_eq_true rfl⟩ hG hE hA hP hD hS (hst.1 3 (by decide)) hf80 rfl rfl hl.1 (As := [.ref (g.2.2.1 25), .int r74]) (rest := []) rfl (Nat.le_of_ble_eq_true rfl) dX10_shown_119 ⟨Nat.le_of_ble_eq_true rfl, Nat.le_of_ble_eq_true rfl⟩) hA hD hS (fun L82 f83 H locs hp84 hP hD hS => ?_)
            obtain ⟨eL85L, eL85T, eL85F⟩ := hp84
            have eL85L : L82 = L := eL85L
            rw [eL85L] at hP hD
            have hT : TI g ad th f83 := eL85T
            have eL85F : ∀ b, b ≠ (ad 3) → b ≠ (ad 4) → f83 b = f64 b := eL85F
            have hf86 := (eL85F (ad 0) (hst.ne (by decide) (by decide) (by decide)) (hst.ne (by decide) (by decide) (by decide))).trans hf67
            have hf87 := (eL85F (ad 6) (hst.ne (by decide) (by decide) (by decide)) (hst.ne (by decide) (by decide) (by decide))).trans hf68
            have hf88 := (eL85F (cr ad 0 0) (hst.ne (by omega) (by omega) (by omega)) (hst.ne (by omega) (by omega) (by omega))).trans hf69
            have hf89 := (eL85F (cr ad 0 6) (hst.ne (by omega) (by omega) (by omega)) (hst.ne (by omega) (by omega) (by omega))).trans hf71
            have hfr : (∀ b, b ≠ (ad 3) → b ≠ (ad 4) → f83 b = f b) := fun b z0_ z1_ => (eL85F b z0_ z1_).trans (hfr b z0_ z1_)
            refine lv_aload_n hx hb dX10_shown_122 rfl (lv_at hl 0 rfl) ?_
            refine pl_get (v := .ref (ad 3)) hx hb hts (fun w h => mT (inX10 w h)) hown hG.1 hP (hst.1 0 (by decide)) hf86 rfl 13 (by decide) (hts _ (mT wg_488)) (fun _ h => h) rfl dX10_shown_123 ?_
            refine lv_aload_n hx hb dX10_shown_126 rfl (lv_at hl 0 rfl) ?_
            refine pl_get (v := .ref (cr ad 0 0)) hx hb hts (fun w h => mT (inX10 w h)) hown hG.1 hP (hst.1 0 (by decide)) hf86 rfl 8 (by decide) (hts _ (mT wg_483)) (fun _ h => h) rfl dX10_shown_127 ?_
            refine pl_getN (v := .ref (cr ad 0 7)) hx hb hts (fun w h => mT (inX3 w h)) hown hG.1 hP (hst.c (by decide) (by decide)) hf88 rfl 15 (by decide) (hG.2.1 _ wn_361) (fun _ h => h) rfl dX10_shown_130 ?_
            refine lv_iload_n hx hb dX10_shown_133 rfl (lv_at hl 1 rfl) ?_
            obtain ⟨rw90, hf91⟩ := hT.2.1 0 (by decide) 7 (by decide)
            have hin92 : vp_in z1 6 := In.inb hb11 (by decide) (by decide)
            refine pl_iald hx hb hG.1 hP (hst.c (by decide) (by decide)) 0 hf91 rfl hin92 dX10_shown_134 ?_
            refine lv_topi (fun x93 ex93 => ?_)
            refine lv_iload hx hb dX10_shown_135 (lv_at hl 4 rfl) ?_
            refine call_i (run_S (rm := rm_X10_bit) hx hb hml hown hts (s_X10_bit l g ad th _ _ _ x93 y52_l4 hst hT ) cS_X10_bit wg_901 ⟨Nat.le_of_ble_eq_true rfl, Nat.le_of_ble_eq_true rfl⟩ hG hE hA hP hD hS rfl hl.1 (As := [.int x93, .int y52_l4]) (rest := [.ref (ad 3)]) rfl (Nat.le_of_ble_eq_true rfl) dX10_shown_137 ⟨Nat.le_of_ble_eq_true rfl, Nat.le_of_ble_eq_true rfl⟩) hA hD hS (fun r94 L95 f96 H locs hp97 hP hD hS => ?_)
            obtain ⟨eL98L, eL98T, eL98R, eL98X0⟩ := hp97
            have eL98L : L95 = L := eL98L
            have eL98T : f96 = f83 := eL98T
            rw [eL98L, eL98T] at hP hD
            have eL98R : In r94 0 1 := eL98R
            refine lv_iconst (v := 1) hx hb dX10_shown_140 (by decide) ?_
            have hJ153 : ∀ (y153_s0 : Nat) (H : Heap) (locs : List Loc) (ls : Array Slot), y153_s0 < nS → va_P g.1 vwCl (va_pl L f83) H → va_D A (va_pl L f83) → va_S A s.heap H locs → lv_has ls 5 [(0, .ref (ad 0)), (1, .int z1), (2, .int z2), (3, .int r14), (4, .int y52_l4)] → W p l e rm_X10_shown s m [.ref (ad 0), .int z1, .int z2].toArray below meth c H locs 0 0 (MQ below (va_Qi (po_X10_shown g ad th L f z1 z2) (PstB g A) A) [.ref (ad 0), .int z1, .int z2].toArray s rm_X10_shown.cells rm_X10_shown.slots A) (F0 m 153 ls [.ref (g.2.2.1 y153_s0), .ref (ad 3)]) := by
              intro y153_s0 H locs ls hi_y153_s0 hP hD hS hl
              obtain ⟨v1_99, v2_99, v3_99, v4_99, hf100, hv1_99, hv2_99, hv3_99, hv4_99⟩ := hT.1 3 (by decide)
              refine call_v (run_VN (rm := rm_X8_write) hx hb hml hown hts (s_X8_write l g ad th _ _ _ y153_s0 hst hT hi_y153_s0) cV_X8_write wn_1203 ⟨Nat.le_of_ble_eq_true rfl, Nat.le_of_ble_eq_true rfl⟩ hG hE hA hP hD hS (hst.1 3 (by decide)) hf100 rfl rfl hl.1 (As := [.ref (g.2.2.1 y153_s0)]) (rest := []) rfl (Nat.le_of_ble_eq_true rfl) dX10_shown_153 ⟨Nat.le_of_ble_eq_true rfl, Nat.le_of_ble_eq_true rfl⟩) hA hD hS (fun L102 f103 H locs hp104 hP hD hS => ?_)
              obtain ⟨eL105L, eL105T, eL105F⟩ := hp104
              have eL105L : L102 = L := eL105L
              rw [eL105L] at hP hD
              have hT : TI g ad th f103 := eL105T
              have eL105F : ∀ b, b ≠ (ad 3) → b ≠ (ad 4) → f103 b = f83 b := eL105F
              have hf106 := (eL105F (ad 0) (hst.ne (by decide) (by decide) (by decide)) (hst.ne (by decide) (by decide) (by decide))).trans hf86
              have hf107 := (eL105F (ad 6) (hst.ne (by decide) (by decide) (by decide)) (hst.ne (by decide) (by decide) (by decide))).trans hf87
              have hf108 := (eL105F (cr ad 0 0) (hst.ne (by omega) (by omega) (by omega)) (hst.ne (by omega) (by omega) (by omega))).trans hf88
              have hf109 := (eL105F (cr ad 0 6) (hst.ne (by omega) (by omega) (by omega)) (hst.ne (by omega) (by omega) (by omega))).trans hf89
              have hf110 := (eL105F (cr ad 0 7) (hst.ne (by omega) (by omega) (by omega)) (hst.ne (by omega) (by omega) (by omega))).trans hf91
              have hfr : (∀ b, b ≠ (ad 3) → b ≠ (ad 4) → f103 b = f b) := fun b z0_ z1_ => (eL105F b z0_ z1_).trans (hfr b z0_ z1_)
              refine lv_aload_n hx hb dX10_shown_156 rfl (lv_at hl 0 rfl) ?_
              refine pl_get (v := .ref (ad 3)) hx hb hts (fun w h => mT (inX10 w h)) hown hG.1 hP (hst.1 0 (by decide)) hf106 rfl 13 (by decide) (hts _ (mT wg_488)) (fun _ h => h) rfl dX10_shown_157 ?_
              refine lv_aload_n hx hb dX10_shown_160 rfl (lv_at hl 0 rfl) ?_
              refine pl_get (v := .ref (cr ad 0 0)) hx hb hts (fun w h => mT (inX10 w h)) hown hG.1 hP (hst.1 0 (by decide)) hf106 rfl 8 (by decide) (hts _ (mT wg_483)) (fun _ h => h) rfl dX10_shown_161 ?_
              refine pl_getN (v := .ref (cr ad 0 8)) hx hb hts (fun w h => mT (inX3 w h)) hown hG.1 hP (hst.c (by decide) (by decide)) hf108 rfl 16 (by decide) (hG.2.1 _ wn_363) (fun _ h => h) rfl dX10_shown_164 ?_
              refine lv_iload_n hx hb dX10_shown_167 rfl (lv_at hl 1 rfl) ?_
              obtain ⟨rw111, hf112⟩ := hT.2.1 0 (by decide) 8 (by decide)
              have hin113 : vp_in z1 6 := In.inb hb11 (by decide) (by decide)
              refine pl_iald hx hb hG.1 hP (hst.c (by decide) (by decide)) 0 hf112 rfl hin113 dX10_shown_168 ?_
              refine lv_topi (fun x114 ex114 => ?_)
              refine lv_iload hx hb dX10_shown_169 (lv_at hl 4 rfl) ?_
              refine call_i (run_S (rm := rm_X10_bit) hx hb hml hown hts (s_X10_bit l g ad th _ _ _ x114 y52_l4 hst hT ) cS_X10_bit wg_901 ⟨Nat.le_of_ble_eq_true rfl, Nat.le_of_ble_eq_true rfl⟩ hG hE hA hP hD hS rfl hl.1 (As := [.int x114, .int y52_l4]) (rest := [.ref (ad 3)]) rfl (Nat.le_of_ble_eq_true rfl) dX10_shown_171 ⟨Nat.le_of_ble_eq_true rfl, Nat.le_of_ble_eq_true rfl⟩) hA hD hS (fun r115 L116 f117 H locs hp118 hP hD hS => ?_)
              obtain ⟨eL119L, eL119T, eL119R, eL119X0⟩ := hp118
              have eL119L : L116 = L := eL119L
              have eL119T : f117 = f103 := eL119T
              rw [eL119L, eL119T] at hP hD
              have eL119R : In r115 0 1 := eL119R
              refine lv_iconst (v := 1) hx hb dX10_shown_174 (by decide) ?_
              have hJ187 : ∀ (y187_s0 : Nat) (H : Heap) (locs : List Loc) (ls : Array Slot), y187_s0 < nS → va_P g.1 vwCl (va_pl L f103) H → va_D A (va_pl L f103) → va_S A s.heap H locs → lv_has ls 5 [(0, .ref (ad 0)), (1, .int z1), (2, .int z2), (3, .int r14), (4, .int y52_l4)] → W p l e rm_X10_shown s m [.ref (ad 0), .int z1, .int z2].toArray below meth c H locs 0 0 (MQ below (va_Qi (po_X10_shown g ad th L f z1 z2) (PstB g A) A) [.ref (ad 0), .int z1, .int z2].toArray s rm_X10_shown.cells rm_X10_shown.slots A) (F0 m 187 ls [.ref (g.2.2.1 y187_s0), .ref (ad 3)]) := by
                intro y187_s0 H locs ls hi_y187_s0 hP hD hS hl
                obtain ⟨v1_120, v2_120, v3_120, v4_120, hf121, hv1_120, hv2_120, hv3_120, hv4_120⟩ := hT.1 3 (by decide)
                refine call_v (run_VN (rm := rm_X8_write) hx hb hml hown hts (s_X8_write l g ad th _ _ _ y187_s0 hst hT hi_y187_s0) cV_X8_write wn_1203 ⟨Nat.le_of_ble_eq_true rfl, Nat.le_of_ble_eq_true rfl⟩ hG hE hA hP hD hS (hst.1 3 (by decide)) hf121 rfl rfl hl.1 (As := [.ref (g.2.2.1 y187_s0)]) (rest := []) rfl (Nat.le_of_ble_eq_true rfl) dX10_shown_187 ⟨Nat.le_of_ble_eq_true rfl, Nat.le_of_ble_eq_true rfl⟩) hA hD hS (fun L123 f124 H locs hp125 hP hD hS => ?_)
                obtain ⟨eL126L, eL126T, eL126F⟩ := hp125
                have eL126L : L123 = L := eL126L
                rw [eL126L] at hP hD
                have hT : TI g ad th f124 := eL126T
                have eL126F : ∀ b, b ≠ (ad 3) → b ≠ (ad 4) → f124 b = f103 b := eL126F
                have hf127 := (eL126F (ad 0) (hst.ne (by decide) (by decide) (by decide)) (hst.ne (by decide) (by decide) (by decide))).trans hf106
                have hf128 := (eL126F (ad 6) (hst.ne (by decide) (by decide) (by decide)) (hst.ne (by decide) (by decide) (by decide))).trans hf107
                have hf129 := (eL126F (cr ad 0 0) (hst.ne (by omega) (by omega) (by omega)) (hst.ne (by omega) (by omega) (by omega))).trans hf108
                have hf130 := (eL126F (cr ad 0 6) (hst.ne (by omega) (by omega) (by omega)) (hst.ne (by omega) (by omega) (by omega))).trans hf109
                have hf131 := (eL126F (cr ad 0 7) (hst.ne (by omega) (by omega) (by omega)) (hst.ne (by omega) (by omega) (by omega))).trans hf110
                have hf132 := (eL126F (cr ad 0 8) (hst.ne (by omega) (by omega) (by omega)) (hst.ne (by omega) (by omega) (by omega))).trans hf112
                have hfr : (∀ b, b ≠ (ad 3) → b ≠ (ad 4) → f124 b = f b) := fun b z0_ z1_ => (eL126F b z0_ z1_).trans (hfr b z0_ z1_)
                refine lv_aload_n hx hb dX10_shown_190 rfl (lv_at hl 0 rfl) ?_
                refine pl_get (v := .ref (ad 3)) hx hb hts (fun w h => mT (inX10 w h)) hown hG.1 hP (hst.1 0 (by decide)) hf127 rfl 13 (by decide) (hts _ (mT wg_488)) (fun _ h => h) rfl dX10_shown_191 ?_
                refine lv_aload_n hx hb dX10_shown_194 rfl (lv_at hl 0 rfl) ?_
                refine pl_get (v := .ref (cr ad 0 0)) hx hb hts (fun w h => mT (inX10 w h)) hown hG.1 hP (hst.1 0 (by decide)) hf127 rfl 8 (by decide) (hts _ (mT wg_483)) (fun _ h => h) rfl dX10_shown_195 ?_
                refine lv_iload hx hb dX10_shown_198 (lv_at hl 4 rfl) ?_
                refine call_i (run_VN (rm := rm_X3_suspectedBy) hx hb hml hown hts (s_X3_suspectedBy l g ad th _ _ _ 0 y52_l4 hst hT (by decide)) cV_X3_suspectedBy wn_944 ⟨Nat.le_of_ble_eq_true rfl, Nat.le_of_ble_eq_true rfl⟩ hG hE hA hP hD hS (hst.c (by decide) (by decide)) hf129 rfl rfl hl.1 (As := [.int y52_l4]) (rest := [.ref (ad 3)]) rfl (Nat.le_of_ble_eq_true rfl) dX10_shown_200 ⟨Nat.le_of_ble_eq_true rfl, Nat.le_of_ble_eq_true rfl⟩) hA hD hS (fun r133 L134 f135 H locs hp136 hP hD hS => ?_)
                obtain ⟨eL137L, eL137T⟩ := hp136
                have eL137L : L134 = L := eL137L
                have eL137T : f135 = f124 := eL137T
                rw [eL137L, eL137T] at hP hD
                refine lv_iload_n hx hb dX10_shown_203 rfl (lv_at hl 3 rfl) ?_
                refine call_i (run_S (rm := rm_X10_bit) hx hb hml hown hts (s_X10_bit l g ad th _ _ _ r133 r14 hst hT ) cS_X10_bit wg_901 ⟨Nat.le_of_ble_eq_true rfl, Nat.le_of_ble_eq_true rfl⟩ hG hE hA hP hD hS rfl hl.1 (As := [.int r133, .int r14]) (rest := [.ref (ad 3)]) rfl (Nat.le_of_ble_eq_true rfl) dX10_shown_204 ⟨Nat.le_of_ble_eq_true rfl, Nat.le_of_ble_eq_true rfl⟩) hA hD hS (fun r138 L139 f140 H locs hp141 hP hD hS => ?_)
                obtain ⟨eL142L, eL142T, eL142R, eL142X0⟩ := hp141
                have eL142L : L139 = L := eL142L
                have eL142T : f140 = f124 := eL142T
                rw [eL142L, eL142T] at hP hD
                have eL142R : In r138 0 1 := eL142R
                refine lv_iconst (v := 1) hx hb dX10_shown_207 (by decide) ?_
                have hJ220 : ∀ (y220_s0 : Nat) (H : Heap) (locs : List Loc) (ls : Array Slot), y220_s0 < nS → va_P g.1 vwCl (va_pl L f124) H → va_D A (va_pl L f124) → va_S A s.heap H locs → lv_has ls 5 [(0, .ref (ad 0)), (1, .int z1), (2, .int z2), (3, .int r14), (4, .int y52_l4)] → W p l e rm_X10_shown s m [.ref (ad 0), .int z1, .int z2].toArray below meth c H locs 0 0 (MQ below (va_Qi (po_X10_shown g ad th L f z1 z2) (PstB g A) A) [.ref (ad 0), .int z1, .int z2].toArray s rm_X10_shown.cells rm_X10_shown.slots A) (F0 m 220 ls [.ref (g.2.2.1 y220_s0), .ref (ad 3)]) := by
                  intro y220_s0 H locs ls hi_y220_s0 hP hD hS hl
                  obtain ⟨v1_143, v2_143, v3_143, v4_143, hf144, hv1_143, hv2_143, hv3_143, hv4_143⟩ := hT.1 3 (by decide)
                  refine call_v (run_VN (rm := rm_X8_write) hx hb hml hown hts (s_X8_write l g ad th _ _ _ y220_s0 hst hT hi_y220_s0) cV_X8_write wn_1203 ⟨Nat.le_of_ble_eq_true rfl, Nat.le_of_ble_eq_true rfl⟩ hG hE hA hP hD hS (hst.1 3 (by decide)) hf144 rfl rfl hl.1 (As := [.ref (g.2.2.1 y220_s0)]) (rest := []) rfl (Nat.le_of_ble_eq_true rfl) dX10_shown_220 ⟨Nat.le_of_ble_eq_true rfl, Nat.le_of_ble_eq_true rfl⟩) hA hD hS (fun L146 f147 H locs hp148 hP hD hS => ?_)
                  obtain ⟨eL149L, eL149T, eL149F⟩ := hp148
                  have eL149L : L146 = L := eL149L
                  rw [eL149L] at hP hD
                  have hT : TI g ad th f147 := eL149T
                  have eL149F : ∀ b, b ≠ (ad 3) → b ≠ (ad 4) → f147 b = f124 b := eL149F
                  have hf150 := (eL149F (ad 0) (hst.ne (by decide) (by decide) (by decide)) (hst.ne (by decide) (by decide) (by decide))).trans hf127
                  have hf151 := (eL149F (ad 6) (hst.ne (by decide) (by decide) (by decide)) (hst.ne (by decide) (by decide) (by decide))).trans hf128
                  have hf152 := (eL149F (cr ad 0 0) (hst.ne (by omega) (by omega) (by omega)) (hst.ne (by omega) (by omega) (by omega))).trans hf129
                  have hf153 := (eL149F (cr ad 0 6) (hst.ne (by omega) (by omega) (by omega)) (hst.ne (by omega) (by omega) (by omega))).trans hf130
                  have hf154 := (eL149F (cr ad 0 7) (hst.ne (by omega) (by omega) (by omega)) (hst.ne (by omega) (by omega) (by omega))).trans hf131
                  have hf155 := (eL149F (cr ad 0 8) (hst.ne (by omega) (by omega) (by omega)) (hst.ne (by omega) (by omega) (by omega))).trans hf132
                  have hfr : (∀ b, b ≠ (ad 3) → b ≠ (ad 4) → f147 b = f b) := fun b z0_ z1_ => (eL149F b z0_ z1_).trans (hfr b z0_ z1_)
                  obtain ⟨x156, ex156⟩ : ∃ y : Int32, y = y52_l4 + 1 := ⟨_, rfl⟩
                  have hb157 : In x156 1 9 := ex156 ▸ In.add hb51 (⟨by decide, by decide⟩ : In 1 1 1) (by decide) (by decide) (by decide) (by decide)
                  have et158 : x156.toInt = y52_l4.toInt + 1 := In.adde ex156 hb51 (k := 1) (by decide) (by decide) (by decide)
                  refine lv_iinc (v := x156) (lv' := [(4, .int x156), (0, .ref (ad 0)), (1, .int z1), (2, .int z2), (3, .int r14)]) hx hb dX10_shown_223 hl (k := 4) rfl (by rw [ex156]; rfl) (by decide) rfl (fun ls hl => ?_)
                  refine lv_goto (tgt := 52) hx hb dX10_shown_226 (by decide) ?_
                  exact ih52 x156 _ _ _ _ (In.mono hb157 (by decide) (by decide)) hP hD hS hT hfr hf150 hf151 (lv_sub hl [1, 2, 3, 4, 0] rfl) (msu et158 (by decide) hmz52)
                refine lv_icmp_ne (tgt := 217) hx hb dX10_shown_208 (by decide) (fun c159 => ?_) (fun c159 => ?_)
                ·
                  have cc160 : r138.toInt ≠ (1 : Int32).toInt := i32_ne c159
                  have hb161 : In r138 0 0 := In.ne1 eL142R (⟨by decide, by decide⟩ : In 1 1 1) cc160 (by omega) (by omega)
                  refine va_ldcSw hx hb hown (hG.2.2.1 ("RulerWord", 370, "", 27) (by decide +kernel)) dX10_shown_217 ?_
                  exact hJ220 27 _ _ _ (by decide) hP hD hS (lv_sub hl [0, 1, 2, 3, 4] rfl)
                ·
                  have cc162 : r138.toInt = (1 : Int32).toInt := congrArg Int32.toInt c159
                  have hb163 : In r138 1 1 := In.eq1 eL142R (⟨by decide, by decide⟩ : In 1 1 1) cc162 (by omega) (by omega)
                  refine va_ldcSw hx hb hown (hG.2.2.1 ("RulerWord", 378, "?", 29) (by decide +kernel)) dX10_shown_211 ?_
                  refine lv_goto (tgt := 220) hx hb dX10_shown_214 (by decide) ?_
                  exact hJ220 29 _ _ _ (by decide) hP hD hS (lv_sub hl [0, 1, 2, 3, 4] rfl)
              refine lv_icmp_ne (tgt := 184) hx hb dX10_shown_175 (by decide) (fun c164 => ?_) (fun c164 => ?_)
              ·
                have cc165 : r115.toInt ≠ (1 : Int32).toInt := i32_ne c164
                have hb166 : In r115 0 0 := In.ne1 eL119R (⟨by decide, by decide⟩ : In 1 1 1) cc165 (by omega) (by omega)
                refine va_ldcSw hx hb hown (hG.2.2.1 ("RulerWord", 370, "", 27) (by decide +kernel)) dX10_shown_184 ?_
                exact hJ187 27 _ _ _ (by decide) hP hD hS (lv_sub hl [0, 1, 2, 3, 4] rfl)
              ·
                have cc167 : r115.toInt = (1 : Int32).toInt := congrArg Int32.toInt c164
                have hb168 : In r115 1 1 := In.eq1 eL119R (⟨by decide, by decide⟩ : In 1 1 1) cc167 (by omega) (by omega)
                refine va_ldcSw hx hb hown (hG.2.2.1 ("RulerWord", 376, "<", 28) (by decide +kernel)) dX10_shown_178 ?_
                refine lv_goto (tgt := 187) hx hb dX10_shown_181 (by decide) ?_
                exact hJ187 28 _ _ _ (by decide) hP hD hS (lv_sub hl [0, 1, 2, 3, 4] rfl)
            refine lv_icmp_ne (tgt := 150) hx hb dX10_shown_141 (by decide) (fun c169 => ?_) (fun c169 => ?_)
            ·
              have cc170 : r94.toInt ≠ (1 : Int32).toInt := i32_ne c169
              have hb171 : In r94 0 0 := In.ne1 eL98R (⟨by decide, by decide⟩ : In 1 1 1) cc170 (by omega) (by omega)
              refine va_ldcSw hx hb hown (hG.2.2.1 ("RulerWord", 370, "", 27) (by decide +kernel)) dX10_shown_150 ?_
              exact hJ153 27 _ _ _ (by decide) hP hD hS (lv_sub hl [0, 1, 2, 3, 4] rfl)
            ·
              have cc172 : r94.toInt = (1 : Int32).toInt := congrArg Int32.toInt c169
              have hb173 : In r94 1 1 := In.eq1 eL98R (⟨by decide, by decide⟩ : In 1 1 1) cc172 (by omega) (by omega)
              refine va_ldcSw hx hb hown (hG.2.2.1 ("RulerWord", 368, "!", 26) (by decide +kernel)) dX10_shown_144 ?_
              refine lv_goto (tgt := 153) hx hb dX10_shown_147 (by decide) ?_
              exact hJ153 26 _ _ _ (by decide) hP hD hS (lv_sub hl [0, 1, 2, 3, 4] rfl)
          refine lv_icmp_ne (tgt := 90) hx hb dX10_shown_81 (by decide) (fun c174 => ?_) (fun c174 => ?_)
          ·
            have cc175 : r55.toInt ≠ (1 : Int32).toInt := i32_ne c174
            have hb176 : In r55 0 0 := In.ne1 eL59R (⟨by decide, by decide⟩ : In 1 1 1) cc175 (by omega) (by omega)
            refine va_ldcSw hx hb hown (hG.2.2.1 ("RulerWord", 364, ", ", 24) (by decide +kernel)) dX10_shown_90 ?_
            exact hJ93 24 _ _ _ (by decide) hP hD hS (lv_sub hl [0, 1, 2, 3, 4] rfl)
          ·
            have cc177 : r55.toInt = (1 : Int32).toInt := congrArg Int32.toInt c174
            have hb178 : In r55 1 1 := In.eq1 eL59R (⟨by decide, by decide⟩ : In 1 1 1) cc177 (by omega) (by omega)
            refine va_ldcSw hx hb hown (hG.2.2.1 ("RulerWord", 362, ", x", 23) (by decide +kernel)) dX10_shown_84 ?_
            refine lv_goto (tgt := 93) hx hb dX10_shown_87 (by decide) ?_
            exact hJ93 23 _ _ _ (by decide) hP hD hS (lv_sub hl [0, 1, 2, 3, 4] rfl)
    exact hJ52 ((9 - (0 : Int32).toInt).toNat + 1) 0 _ _ _ _ (⟨by decide, by decide⟩ : In 0 0 9) hP hD hS hT hfr hf40 hf41 (lv_sub hl [2, 3, 4, 1, 0] rfl) (msI _)
  ·
    have cc179 : r3.toInt = (0 : Int32).toInt := congrArg Int32.toInt c8
    have hb180 : In r3 0 0 := In.eq1 eL7R (⟨by decide, by decide⟩ : In 0 0 0) cc179 (by omega) (by omega)
    refine lv_iconst (v := (-1)) hx hb dX10_shown_8 (by decide) ?_
    exact ret_i (ty := .int) hx hb hr hlocks (rfl) hP hD hS (Nat.le_of_ble_eq_true rfl) (Nat.le_of_ble_eq_true rfl) (⟨rfl, hT, hfr⟩) dX10_shown_9

abbrev rm_X10_status : Room := { frames := 0, cells := 0, slots := 0, locals := 0 }
abbrev po_X10_status (g : GG) (ad : Nat → Nat) (th : Nat → Int) (L : List Nat) (f : HP) (z1 : Int32) : Int32 → (List Nat × HP) → Prop := fun _ u => u.1 = L ∧ u.2 = f
set_option maxHeartbeats 4000000 in
set_option maxRecDepth 100000 in
theorem s_X10_status (l : Launch) (g : GG) (ad : Nat → Nat) (th : Nat → Int) (L : List Nat) (f : HP) (sz : Nat) (z1 : Int32) (hst : ST ad L) (hT : TI g ad th f)  : MtI l g yX10_status cX10_status 2 (some .int) rm_X10_status [.ref (ad 0), .int z1] L f sz (po_X10_status g ad th L f z1) := by
  refine MtI.of (by decide +kernel) (Nat.le_of_ble_eq_true rfl) ?_
  intro p e s m below meth c A hEn hP hD hS ls hl
  obtain ⟨hx, hb, hr, hml, hown, hlocks, hts, hG, hA, hE, hnm⟩ := hEn
  have hown : s.vm.findClass "RulerWord" = some m.cls := hown
  have hl : lv_has ls 2 [(0, .ref (ad 0)), (1, .int z1)] := hl
  refine lv_iload_n hx hb dX10_status_0 rfl (lv_at hl 1 rfl) ?_
  have hJ13 : ∀ (H : Heap) (locs : List Loc) (ls : Array Slot), va_P g.1 vwCl (va_pl L f) H → va_D A (va_pl L f) → va_S A s.heap H locs → lv_has ls 2 [(0, .ref (ad 0)), (1, .int z1)] → W p l e rm_X10_status s m [.ref (ad 0), .int z1].toArray below meth c H locs 0 0 (MQ below (va_Qi (po_X10_status g ad th L f z1) (PstB g A) A) [.ref (ad 0), .int z1].toArray s rm_X10_status.cells rm_X10_status.slots A) (F0 m 13 ls []) := by
    intro H locs ls hP hD hS hl
    refine lv_iconst (v := (-1)) hx hb dX10_status_13 (by decide) ?_
    refine lv_goto (tgt := 23) hx hb dX10_status_14 (by decide) ?_
    exact ret_i (ty := .int) hx hb hr hlocks (rfl) hP hD hS (Nat.le_of_ble_eq_true rfl) (Nat.le_of_ble_eq_true rfl) (⟨rfl, rfl⟩) dX10_status_23
  refine lv_if_lt (tgt := 13) hx hb dX10_status_1 (by decide) (fun c1 => ?_) (fun c1 => ?_)
  ·
    have cc2 : z1.toInt < (0 : Int32).toInt := i32_lt.mp c1
    have hb3 : In z1 (-2147483648) (-1) := In.lt1 (In.full z1) (⟨by decide, by decide⟩ : In 0 0 0) cc2 (by omega) (by omega)
    exact hJ13 _ _ _ hP hD hS (lv_sub hl [0, 1] rfl)
  ·
    have cc4 : (0 : Int32).toInt ≤ z1.toInt := i32_nlt c1
    have hb5 : In z1 0 2147483647 := In.ge1 (In.full z1) (⟨by decide, by decide⟩ : In 0 0 0) cc4 (by omega) (by omega)
    refine lv_iload_n hx hb dX10_status_4 rfl (lv_at hl 1 rfl) ?_
    refine lv_aload_n hx hb dX10_status_5 rfl (lv_at hl 0 rfl) ?_
    obtain ⟨v15_6, v16_6, v17_6, hf7, hv15_6, hv16_6, hg16_6⟩ := hT.1 0 (by decide)
    refine pl_get (v := .ref (ad 24)) hx hb hts (fun w h => mT (inX10 w h)) hown hG.1 hP (hst.1 0 (by decide)) hf7 rfl 14 (by decide) (hts _ (mT wg_489)) (fun _ h => h) rfl dX10_status_6 ?_
    obtain ⟨rw8, hf9⟩ := hT.1 24 (by decide)
    refine pl_alen (v := 5) hx hb hG.1 hP (hst.1 24 (by decide)) 0 hf9 rfl (rfl) dX10_status_9 ?_
    refine lv_icmp_lt (tgt := 17) hx hb dX10_status_10 (by decide) (fun c10 => ?_) (fun c10 => ?_)
    ·
      have cc11 : z1.toInt < (5 : Int32).toInt := i32_lt.mp c10
      have hb12 : In z1 0 4 := In.lt1 hb5 (⟨by decide, by decide⟩ : In 5 5 5) cc11 (by omega) (by omega)
      refine lv_aload_n hx hb dX10_status_17 rfl (lv_at hl 0 rfl) ?_
      refine pl_get (v := .ref (ad 24)) hx hb hts (fun w h => mT (inX10 w h)) hown hG.1 hP (hst.1 0 (by decide)) hf7 rfl 14 (by decide) (hts _ (mT wg_489)) (fun _ h => h) rfl dX10_status_18 ?_
      refine lv_iload_n hx hb dX10_status_21 rfl (lv_at hl 1 rfl) ?_
      have hin13 : vp_in z1 5 := In.inb hb12 (by decide) (by decide)
      refine pl_iald hx hb hG.1 hP (hst.1 24 (by decide)) 0 hf9 rfl hin13 dX10_status_22 ?_
      refine lv_topi (fun x14 ex14 => ?_)
      exact ret_i (ty := .int) hx hb hr hlocks (rfl) hP hD hS (Nat.le_of_ble_eq_true rfl) (Nat.le_of_ble_eq_true rfl) (⟨rfl, rfl⟩) dX10_status_23
    ·
      have cc15 : (5 : Int32).toInt ≤ z1.toInt := i32_nlt c10
      have hb16 : In z1 5 2147483647 := In.ge1 hb5 (⟨by decide, by decide⟩ : In 5 5 5) cc15 (by omega) (by omega)
      exact hJ13 _ _ _ hP hD hS (lv_sub hl [0, 1] rfl)

abbrev rm_X10_mostWary : Room := { frames := 2, cells := 0, slots := 0, locals := 44 }
abbrev po_X10_mostWary (g : GG) (ad : Nat → Nat) (th : Nat → Int) (L : List Nat) (f : HP)  : Int32 → (List Nat × HP) → Prop := fun _ u => u.1 = L ∧ u.2 = f
set_option maxHeartbeats 4000000 in
set_option maxRecDepth 100000 in
theorem s_X10_mostWary (l : Launch) (g : GG) (ad : Nat → Nat) (th : Nat → Int) (L : List Nat) (f : HP) (sz : Nat)  (hst : ST ad L) (hT : TI g ad th f)  : MtI l g yX10_mostWary cX10_mostWary 5 (some .int) rm_X10_mostWary [.ref (ad 0)] L f sz (po_X10_mostWary g ad th L f ) := by
  refine MtI.of (by decide +kernel) (Nat.le_of_ble_eq_true rfl) ?_
  intro p e s m below meth c A hEn hP hD hS ls hl
  obtain ⟨hx, hb, hr, hml, hown, hlocks, hts, hG, hA, hE, hnm⟩ := hEn
  have hown : s.vm.findClass "RulerWord" = some m.cls := hown
  have hl : lv_has ls 5 [(0, .ref (ad 0))] := hl
  refine lv_iconst (v := (-1)) hx hb dX10_mostWary_0 (by decide) ?_
  refine lv_istore_n (lv' := [(1, .int (-1)), (0, .ref (ad 0))]) hx hb dX10_mostWary_1 rfl hl (by decide) rfl (fun ls hl => ?_)
  refine lv_iconst (v := 0) hx hb dX10_mostWary_2 (by decide) ?_
  refine lv_istore_n (lv' := [(2, .int 0), (1, .int (-1)), (0, .ref (ad 0))]) hx hb dX10_mostWary_3 rfl hl (by decide) rfl (fun ls hl => ?_)
  refine lv_iconst (v := 0) hx hb dX10_mostWary_4 (by decide) ?_
  refine lv_istore_n (lv' := [(3, .int 0), (2, .int 0), (1, .int (-1)), (0, .ref (ad 0))]) hx hb dX10_mostWary_5 rfl hl (by decide) rfl (fun ls hl => ?_)
  have hJ6 : ∀ (k6 : Nat) (y6_l1 : Int32) (y6_l2 : Int32) (y6_l3 : Int32) (H : Heap) (locs : List Loc) (ls : Array Slot), In y6_l1 (-1) 8 → In y6_l2 0 63 → In y6_l3 0 9 → va_P g.1 vwCl (va_pl L f) H → va_D A (va_pl L f) → va_S A s.heap H locs → lv_has ls 5 [(0, .ref (ad 0)), (1, .int y6_l1), (2, .int y6_l2), (3, .int y6_l3)] → 9 - y6_l3.toInt < ((k6 : Nat) : Int) → W p l e rm_X10_mostWary s m [.ref (ad 0)].toArray below meth c H locs 0 0 (MQ below (va_Qi (po_X10_mostWary g ad th L f ) (PstB g A) A) [.ref (ad 0)].toArray s rm_X10_mostWary.cells rm_X10_mostWary.slots A) (F0 m 6 ls []) := by
    intro k6
    induction k6 with
    | zero =>
      intro y6_l1 y6_l2 y6_l3 H locs ls hy6_l1 hy6_l2 hy6_l3 hP hD hS hl hmz6
      exact ms0 hy6_l3 hmz6
    | succ k6 ih6 =>
      intro y6_l1 y6_l2 y6_l3 H locs ls hy6_l1 hy6_l2 hy6_l3 hP hD hS hl hmz6
      refine lv_iload_n hx hb dX10_mostWary_6 rfl (lv_at hl 3 rfl) ?_
      refine lv_aload_n hx hb dX10_mostWary_7 rfl (lv_at hl 0 rfl) ?_
      obtain ⟨v15_1, v16_1, v17_1, hf2, hv15_1, hv16_1, hg16_1⟩ := hT.1 0 (by decide)
      refine pl_get (v := .ref (ad 6)) hx hb hts (fun w h => mT (inX10 w h)) hown hG.1 hP (hst.1 0 (by decide)) hf2 rfl 2 (by decide) (hts _ (mT wg_477)) (fun _ h => h) rfl dX10_mostWary_8 ?_
      obtain ⟨v0_3, v1_3, v2_3, v3_3, v4_3, v5_3, v6_3, v7_3, hf4, hv0_3, hg0_3, hv1_3, hg1_3, hv2_3, hv3_3, hv5_3, hv6_3, hrel0_3⟩ := hT.1 6 (by decide)
      refine pl_getN (v := .int v1_3) hx hb hts (fun w h => mT (inX2 w h)) hown hG.1 hP (hst.1 6 (by decide)) hf4 rfl 1 (by decide) (hG.2.1 _ wn_230) (fun _ h => h) rfl dX10_mostWary_11 ?_
      refine lv_icmp_ge (tgt := 47) hx hb dX10_mostWary_14 (by decide) (fun c5 => ?_) (fun c5 => ?_)
      ·
        refine lv_iload_n hx hb dX10_mostWary_47 rfl (lv_at hl 1 rfl) ?_
        exact ret_i (ty := .int) hx hb hr hlocks (rfl) hP hD hS (Nat.le_of_ble_eq_true rfl) (Nat.le_of_ble_eq_true rfl) (⟨rfl, rfl⟩) dX10_mostWary_48
      ·
        have cc6 : y6_l3.toInt < v1_3.toInt := i32_nle c5
        have hb7 : In y6_l3 0 8 := In.lt1 hy6_l3 hv1_3 cc6 (by omega) (by omega)
        have hb8 : In v1_3 1 9 := In.lt2 hy6_l3 hv1_3 cc6 (by omega) (by omega)
        refine lv_aload_n hx hb dX10_mostWary_17 rfl (lv_at hl 0 rfl) ?_
        refine pl_get (v := .ref (cr ad 0 0)) hx hb hts (fun w h => mT (inX10 w h)) hown hG.1 hP (hst.1 0 (by decide)) hf2 rfl 8 (by decide) (hts _ (mT wg_483)) (fun _ h => h) rfl dX10_mostWary_18 ?_
        refine lv_iload_n hx hb dX10_mostWary_21 rfl (lv_at hl 3 rfl) ?_
        obtain ⟨v0_9, v1_9, v2_9, v3_9, v4_9, v5_9, v6_9, v7_9, v8_9, hf10, hv1_9, hg1_9, hv2_9, hg2_9, hv6_9⟩ := hT.2.1 0 (by decide) 0 (by decide)
        refine call_i (run_VN (rm := rm_X3_suspectedBy) hx hb hml hown hts (s_X3_suspectedBy l g ad th _ _ _ 0 y6_l3 hst hT (by decide)) cV_X3_suspectedBy wn_944 ⟨Nat.le_of_ble_eq_true rfl, Nat.le_of_ble_eq_true rfl⟩ hG hE hA hP hD hS (hst.c (by decide) (by decide)) hf10 rfl rfl hl.1 (As := [.int y6_l3]) (rest := []) rfl (Nat.le_of_ble_eq_true rfl) dX10_mostWary_22 ⟨Nat.le_of_ble_eq_true rfl, Nat.le_of_ble_eq_true rfl⟩) hA hD hS (fun r11 L12 f13 H locs hp14 hP hD hS => ?_)
        obtain ⟨eL15L, eL15T⟩ := hp14
        have eL15L : L12 = L := eL15L
        have eL15T : f13 = f := eL15T
        rw [eL15L, eL15T] at hP hD
        refine call_i (run_S (rm := rm_J6_bitCount_0f7a4) hx hb hml hown hts (s_J6_bitCount_0f7a4 l g ad th _ _ _ r11 hst hT ) cS_J6_bitCount_0f7a4 wg_987 ⟨Nat.le_of_ble_eq_true rfl, Nat.le_of_ble_eq_true rfl⟩ hG hE hA hP hD hS rfl hl.1 (As := [.int r11]) (rest := []) rfl (Nat.le_of_ble_eq_true rfl) dX10_mostWary_25 ⟨Nat.le_of_ble_eq_true rfl, Nat.le_of_ble_eq_true rfl⟩) hA hD hS (fun r16 L17 f18 H locs hp19 hP hD hS => ?_)
        obtain ⟨eL20L, eL20T, eL20R, eL20X0⟩ := hp19
        have eL20L : L17 = L := eL20L
        have eL20T : f18 = f := eL20T
        rw [eL20L, eL20T] at hP hD
        have eL20R : In r16 0 63 := eL20R
        refine lv_istore (lv' := [(4, .int r16), (0, .ref (ad 0)), (1, .int y6_l1), (2, .int y6_l2), (3, .int y6_l3)]) hx hb dX10_mostWary_28 hl (by decide) rfl (fun ls hl => ?_)
        refine lv_iload hx hb dX10_mostWary_30 (lv_at hl 0 rfl) ?_
        refine lv_iload_n hx hb dX10_mostWary_32 rfl (lv_at hl 3 rfl) ?_
        have hJ41 : ∀ (y41_l1 : Int32) (y41_l2 : Int32) (H : Heap) (locs : List Loc) (ls : Array Slot), In y41_l1 (-1) 8 → In y41_l2 0 63 → va_P g.1 vwCl (va_pl L f) H → va_D A (va_pl L f) → va_S A s.heap H locs → lv_has ls 5 [(0, .ref (ad 0)), (1, .int y41_l1), (2, .int y41_l2), (3, .int y6_l3), (4, .int r16)] → W p l e rm_X10_mostWary s m [.ref (ad 0)].toArray below meth c H locs 0 0 (MQ below (va_Qi (po_X10_mostWary g ad th L f ) (PstB g A) A) [.ref (ad 0)].toArray s rm_X10_mostWary.cells rm_X10_mostWary.slots A) (F0 m 41 ls []) := by
          intro y41_l1 y41_l2 H locs ls hy41_l1 hy41_l2 hP hD hS hl
          obtain ⟨x21, ex21⟩ : ∃ y : Int32, y = y6_l3 + 1 := ⟨_, rfl⟩
          have hb22 : In x21 1 9 := ex21 ▸ In.add hb7 (⟨by decide, by decide⟩ : In 1 1 1) (by decide) (by decide) (by decide) (by decide)
          have et23 : x21.toInt = y6_l3.toInt + 1 := In.adde ex21 hb7 (k := 1) (by decide) (by decide) (by decide)
          refine lv_iinc (v := x21) (lv' := [(3, .int x21), (0, .ref (ad 0)), (1, .int y41_l1), (2, .int y41_l2), (4, .int r16)]) hx hb dX10_mostWary_41 hl (k := 3) rfl (by rw [ex21]; rfl) (by decide) rfl (fun ls hl => ?_)
          refine lv_goto (tgt := 6) hx hb dX10_mostWary_44 (by decide) ?_
          exact ih6 y41_l1 y41_l2 x21 _ _ _ hy41_l1 hy41_l2 (In.mono hb22 (by decide) (by decide)) hP hD hS (lv_sub hl [1, 2, 3, 0] rfl) (msu et23 (by decide) hmz6)
        refine lv_icmp_le (tgt := 41) hx hb dX10_mostWary_33 (by decide) (fun c24 => ?_) (fun c24 => ?_)
        ·
          exact hJ41 y6_l1 y6_l2 _ _ _ hy6_l1 hy6_l2 hP hD hS (lv_sub hl [1, 2, 3, 4, 0] rfl)
        ·
          have cc25 : y6_l2.toInt < r16.toInt := i32_nle c24
          have hb26 : In r16 1 63 := In.gt1 eL20R hy6_l2 cc25 (by omega) (by omega)
          have hb27 : In y6_l2 0 62 := In.gt2 eL20R hy6_l2 cc25 (by omega) (by omega)
          refine lv_iload hx hb dX10_mostWary_36 (lv_at hl 0 rfl) ?_
          refine lv_istore_n (lv' := [(2, .int r16), (4, .int r16), (0, .ref (ad 0)), (1, .int y6_l1), (3, .int y6_l3)]) hx hb dX10_mostWary_38 rfl hl (by decide) rfl (fun ls hl => ?_)
          refine lv_iload_n hx hb dX10_mostWary_39 rfl (lv_at hl 4 rfl) ?_
          refine lv_istore_n (lv' := [(1, .int y6_l3), (2, .int r16), (4, .int r16), (0, .ref (ad 0)), (3, .int y6_l3)]) hx hb dX10_mostWary_40 rfl hl (by decide) rfl (fun ls hl => ?_)
          exact hJ41 y6_l3 r16 _ _ _ (In.mono hb7 (by decide) (by decide)) (In.mono hb26 (by decide) (by decide)) hP hD hS (lv_sub hl [3, 0, 1, 4, 2] rfl)
  exact hJ6 ((9 - (0 : Int32).toInt).toNat + 1) (-1) 0 0 _ _ _ (⟨by decide, by decide⟩ : In (-1) (-1) 8) (⟨by decide, by decide⟩ : In 0 0 63) (⟨by decide, by decide⟩ : In 0 0 9) hP hD hS (lv_sub hl [3, 2, 1, 0] rfl) (msI _)

abbrev rm_X10_mostSuspected : Room := { frames := 1, cells := 0, slots := 0, locals := 21 }
abbrev po_X10_mostSuspected (g : GG) (ad : Nat → Nat) (th : Nat → Int) (L : List Nat) (f : HP)  : Int32 → (List Nat × HP) → Prop := fun _ u => u.1 = L ∧ u.2 = f
set_option maxHeartbeats 4000000 in
set_option maxRecDepth 100000 in
theorem s_X10_mostSuspected (l : Launch) (g : GG) (ad : Nat → Nat) (th : Nat → Int) (L : List Nat) (f : HP) (sz : Nat)  (hst : ST ad L) (hT : TI g ad th f)  : MtI l g yX10_mostSuspected cX10_mostSuspected 5 (some .int) rm_X10_mostSuspected [.ref (ad 0)] L f sz (po_X10_mostSuspected g ad th L f ) := by
  refine MtI.of (by decide +kernel) (Nat.le_of_ble_eq_true rfl) ?_
  intro p e s m below meth c A hEn hP hD hS ls hl
  obtain ⟨hx, hb, hr, hml, hown, hlocks, hts, hG, hA, hE, hnm⟩ := hEn
  have hown : s.vm.findClass "RulerWord" = some m.cls := hown
  have hl : lv_has ls 5 [(0, .ref (ad 0))] := hl
  refine lv_iconst (v := (-1)) hx hb dX10_mostSuspected_0 (by decide) ?_
  refine lv_istore_n (lv' := [(1, .int (-1)), (0, .ref (ad 0))]) hx hb dX10_mostSuspected_1 rfl hl (by decide) rfl (fun ls hl => ?_)
  refine lv_iconst (v := 0) hx hb dX10_mostSuspected_2 (by decide) ?_
  refine lv_istore_n (lv' := [(2, .int 0), (1, .int (-1)), (0, .ref (ad 0))]) hx hb dX10_mostSuspected_3 rfl hl (by decide) rfl (fun ls hl => ?_)
  refine lv_iconst (v := 0) hx hb dX10_mostSuspected_4 (by decide) ?_
  refine lv_istore_n (lv' := [(3, .int 0), (2, .int 0), (1, .int (-1)), (0, .ref (ad 0))]) hx hb dX10_mostSuspected_5 rfl hl (by decide) rfl (fun ls hl => ?_)
  have hJ6 : ∀ (k6 : Nat) (y6_l1 : Int32) (y6_l2 : Int32) (y6_l3 : Int32) (H : Heap) (locs : List Loc) (ls : Array Slot), In y6_l1 (-1) 5 → In y6_l2 0 9 → In y6_l3 0 6 → va_P g.1 vwCl (va_pl L f) H → va_D A (va_pl L f) → va_S A s.heap H locs → lv_has ls 5 [(0, .ref (ad 0)), (1, .int y6_l1), (2, .int y6_l2), (3, .int y6_l3)] → 6 - y6_l3.toInt < ((k6 : Nat) : Int) → W p l e rm_X10_mostSuspected s m [.ref (ad 0)].toArray below meth c H locs 0 0 (MQ below (va_Qi (po_X10_mostSuspected g ad th L f ) (PstB g A) A) [.ref (ad 0)].toArray s rm_X10_mostSuspected.cells rm_X10_mostSuspected.slots A) (F0 m 6 ls []) := by
    intro k6
    induction k6 with
    | zero =>
      intro y6_l1 y6_l2 y6_l3 H locs ls hy6_l1 hy6_l2 hy6_l3 hP hD hS hl hmz6
      exact ms0 hy6_l3 hmz6
    | succ k6 ih6 =>
      intro y6_l1 y6_l2 y6_l3 H locs ls hy6_l1 hy6_l2 hy6_l3 hP hD hS hl hmz6
      refine lv_iload_n hx hb dX10_mostSuspected_6 rfl (lv_at hl 3 rfl) ?_
      refine lv_bipush (v := 6) hx hb dX10_mostSuspected_7 (by decide) ?_
      refine lv_icmp_ge (tgt := 42) hx hb dX10_mostSuspected_9 (by decide) (fun c1 => ?_) (fun c1 => ?_)
      ·
        have cc2 : (6 : Int32).toInt ≤ y6_l3.toInt := i32_le.mp c1
        have hb3 : In y6_l3 6 6 := In.ge1 hy6_l3 (⟨by decide, by decide⟩ : In 6 6 6) cc2 (by omega) (by omega)
        refine lv_iload_n hx hb dX10_mostSuspected_42 rfl (lv_at hl 1 rfl) ?_
        exact ret_i (ty := .int) hx hb hr hlocks (rfl) hP hD hS (Nat.le_of_ble_eq_true rfl) (Nat.le_of_ble_eq_true rfl) (⟨rfl, rfl⟩) dX10_mostSuspected_43
      ·
        have cc4 : y6_l3.toInt < (6 : Int32).toInt := i32_nle c1
        have hb5 : In y6_l3 0 5 := In.lt1 hy6_l3 (⟨by decide, by decide⟩ : In 6 6 6) cc4 (by omega) (by omega)
        refine lv_aload_n hx hb dX10_mostSuspected_12 rfl (lv_at hl 0 rfl) ?_
        obtain ⟨v15_6, v16_6, v17_6, hf7, hv15_6, hv16_6, hg16_6⟩ := hT.1 0 (by decide)
        refine pl_get (v := .ref (cr ad 0 0)) hx hb hts (fun w h => mT (inX10 w h)) hown hG.1 hP (hst.1 0 (by decide)) hf7 rfl 8 (by decide) (hts _ (mT wg_483)) (fun _ h => h) rfl dX10_mostSuspected_13 ?_
        refine lv_iload_n hx hb dX10_mostSuspected_16 rfl (lv_at hl 3 rfl) ?_
        obtain ⟨v0_8, v1_8, v2_8, v3_8, v4_8, v5_8, v6_8, v7_8, v8_8, hf9, hv1_8, hg1_8, hv2_8, hg2_8, hv6_8⟩ := hT.2.1 0 (by decide) 0 (by decide)
        refine call_i (run_VN (rm := rm_X3_waryOf) hx hb hml hown hts (s_X3_waryOf l g ad th _ _ _ 0 y6_l3 hst hT (by decide)) cV_X3_waryOf wn_1239 ⟨Nat.le_of_ble_eq_true rfl, Nat.le_of_ble_eq_true rfl⟩ hG hE hA hP hD hS (hst.c (by decide) (by decide)) hf9 rfl rfl hl.1 (As := [.int y6_l3]) (rest := []) rfl (Nat.le_of_ble_eq_true rfl) dX10_mostSuspected_17 ⟨Nat.le_of_ble_eq_true rfl, Nat.le_of_ble_eq_true rfl⟩) hA hD hS (fun r10 L11 f12 H locs hp13 hP hD hS => ?_)
        obtain ⟨eL14L, eL14T, eL14R⟩ := hp13
        have eL14L : L11 = L := eL14L
        have eL14T : f12 = f := eL14T
        rw [eL14L, eL14T] at hP hD
        have eL14R : In r10 0 511 := eL14R
        refine call_i (run_S (rm := rm_J6_bitCount_0f7a4) hx hb hml hown hts (s_J6_bitCount_0f7a4 l g ad th _ _ _ r10 hst hT ) cS_J6_bitCount_0f7a4 wg_987 ⟨Nat.le_of_ble_eq_true rfl, Nat.le_of_ble_eq_true rfl⟩ hG hE hA hP hD hS rfl hl.1 (As := [.int r10]) (rest := []) rfl (Nat.le_of_ble_eq_true rfl) dX10_mostSuspected_20 ⟨Nat.le_of_ble_eq_true rfl, Nat.le_of_ble_eq_true rfl⟩) hA hD hS (fun r15 L16 f17 H locs hp18 hP hD hS => ?_)
        obtain ⟨eL19L, eL19T, eL19R, eL19X0⟩ := hp18
        have eL19L : L16 = L := eL19L
        have eL19T : f17 = f := eL19T
        rw [eL19L, eL19T] at hP hD
        have eL19R : In r15 0 63 := eL19R
        have hb20 : In r15 0 9 := bc9 eL14R eL19X0
        refine lv_istore (lv' := [(4, .int r15), (0, .ref (ad 0)), (1, .int y6_l1), (2, .int y6_l2), (3, .int y6_l3)]) hx hb dX10_mostSuspected_23 hl (by decide) rfl (fun ls hl => ?_)
        refine lv_iload hx hb dX10_mostSuspected_25 (lv_at hl 0 rfl) ?_
        refine lv_iload_n hx hb dX10_mostSuspected_27 rfl (lv_at hl 3 rfl) ?_
        have hJ36 : ∀ (y36_l1 : Int32) (y36_l2 : Int32) (H : Heap) (locs : List Loc) (ls : Array Slot), In y36_l1 (-1) 5 → In y36_l2 0 9 → va_P g.1 vwCl (va_pl L f) H → va_D A (va_pl L f) → va_S A s.heap H locs → lv_has ls 5 [(0, .ref (ad 0)), (1, .int y36_l1), (2, .int y36_l2), (3, .int y6_l3), (4, .int r15)] → W p l e rm_X10_mostSuspected s m [.ref (ad 0)].toArray below meth c H locs 0 0 (MQ below (va_Qi (po_X10_mostSuspected g ad th L f ) (PstB g A) A) [.ref (ad 0)].toArray s rm_X10_mostSuspected.cells rm_X10_mostSuspected.slots A) (F0 m 36 ls []) := by
          intro y36_l1 y36_l2 H locs ls hy36_l1 hy36_l2 hP hD hS hl
          obtain ⟨x21, ex21⟩ : ∃ y : Int32, y = y6_l3 + 1 := ⟨_, rfl⟩
          have hb22 : In x21 1 6 := ex21 ▸ In.add hb5 (⟨by decide, by decide⟩ : In 1 1 1) (by decide) (by decide) (by decide) (by decide)
          have et23 : x21.toInt = y6_l3.toInt + 1 := In.adde ex21 hb5 (k := 1) (by decide) (by decide) (by decide)
          refine lv_iinc (v := x21) (lv' := [(3, .int x21), (0, .ref (ad 0)), (1, .int y36_l1), (2, .int y36_l2), (4, .int r15)]) hx hb dX10_mostSuspected_36 hl (k := 3) rfl (by rw [ex21]; rfl) (by decide) rfl (fun ls hl => ?_)
          refine lv_goto (tgt := 6) hx hb dX10_mostSuspected_39 (by decide) ?_
          exact ih6 y36_l1 y36_l2 x21 _ _ _ hy36_l1 hy36_l2 (In.mono hb22 (by decide) (by decide)) hP hD hS (lv_sub hl [1, 2, 3, 0] rfl) (msu et23 (by decide) hmz6)
        refine lv_icmp_le (tgt := 36) hx hb dX10_mostSuspected_28 (by decide) (fun c24 => ?_) (fun c24 => ?_)
        ·
          exact hJ36 y6_l1 y6_l2 _ _ _ hy6_l1 hy6_l2 hP hD hS (lv_sub hl [1, 2, 3, 4, 0] rfl)
        ·
          have cc25 : y6_l2.toInt < r15.toInt := i32_nle c24
          have hb26 : In r15 1 9 := In.gt1 hb20 hy6_l2 cc25 (by omega) (by omega)
          have hb27 : In y6_l2 0 8 := In.gt2 hb20 hy6_l2 cc25 (by omega) (by omega)
          refine lv_iload hx hb dX10_mostSuspected_31 (lv_at hl 0 rfl) ?_
          refine lv_istore_n (lv' := [(2, .int r15), (4, .int r15), (0, .ref (ad 0)), (1, .int y6_l1), (3, .int y6_l3)]) hx hb dX10_mostSuspected_33 rfl hl (by decide) rfl (fun ls hl => ?_)
          refine lv_iload_n hx hb dX10_mostSuspected_34 rfl (lv_at hl 4 rfl) ?_
          refine lv_istore_n (lv' := [(1, .int y6_l3), (2, .int r15), (4, .int r15), (0, .ref (ad 0)), (3, .int y6_l3)]) hx hb dX10_mostSuspected_35 rfl hl (by decide) rfl (fun ls hl => ?_)
          exact hJ36 y6_l3 r15 _ _ _ (In.mono hb5 (by decide) (by decide)) (In.mono hb26 (by decide) (by decide)) hP hD hS (lv_sub hl [3, 0, 1, 4, 2] rfl)
  exact hJ6 ((6 - (0 : Int32).toInt).toNat + 1) (-1) 0 0 _ _ _ (⟨by decide, by decide⟩ : In (-1) (-1) 5) (⟨by decide, by decide⟩ : In 0 0 9) (⟨by decide, by decide⟩ : In 0 0 6) hP hD hS (lv_sub hl [3, 2, 1, 0] rfl) (msI _)

abbrev rm_X10_phasesInDoubt : Room := { frames := 3, cells := 0, slots := 0, locals := 61 }
abbrev po_X10_phasesInDoubt (g : GG) (ad : Nat → Nat) (th : Nat → Int) (L : List Nat) (f : HP)  : Int32 → (List Nat × HP) → Prop := fun _ u => u.1 = L ∧ u.2 = f
set_option maxHeartbeats 4000000 in
set_option maxRecDepth 100000 in
theorem s_X10_phasesInDoubt (l : Launch) (g : GG) (ad : Nat → Nat) (th : Nat → Int) (L : List Nat) (f : HP) (sz : Nat)  (hst : ST ad L) (hT : TI g ad th f)  : MtI l g yX10_phasesInDoubt cX10_phasesInDoubt 3 (some .int) rm_X10_phasesInDoubt [.ref (ad 0)] L f sz (po_X10_phasesInDoubt g ad th L f ) := by
  refine MtI.of (by decide +kernel) (Nat.le_of_ble_eq_true rfl) ?_
  intro p e s m below meth c A hEn hP hD hS ls hl
  obtain ⟨hx, hb, hr, hml, hown, hlocks, hts, hG, hA, hE, hnm⟩ := hEn
  have hown : s.vm.findClass "RulerWord" = some m.cls := hown
  have hl : lv_has ls 3 [(0, .ref (ad 0))] := hl
  refine lv_iconst (v := 0) hx hb dX10_phasesInDoubt_0 (by decide) ?_
  refine lv_istore_n (lv' := [(1, .int 0), (0, .ref (ad 0))]) hx hb dX10_phasesInDoubt_1 rfl hl (by decide) rfl (fun ls hl => ?_)
  refine lv_iconst (v := 0) hx hb dX10_phasesInDoubt_2 (by decide) ?_
  refine lv_istore_n (lv' := [(2, .int 0), (1, .int 0), (0, .ref (ad 0))]) hx hb dX10_phasesInDoubt_3 rfl hl (by decide) rfl (fun ls hl => ?_)
  have hJ4 : ∀ (k4 : Nat) (y4_l1 : Int32) (y4_l2 : Int32) (H : Heap) (locs : List Loc) (ls : Array Slot), In y4_l1 (-2147483648) 2147483647 → In y4_l2 0 6 → va_P g.1 vwCl (va_pl L f) H → va_D A (va_pl L f) → va_S A s.heap H locs → lv_has ls 3 [(0, .ref (ad 0)), (1, .int y4_l1), (2, .int y4_l2)] → 6 - y4_l2.toInt < ((k4 : Nat) : Int) → W p l e rm_X10_phasesInDoubt s m [.ref (ad 0)].toArray below meth c H locs 0 0 (MQ below (va_Qi (po_X10_phasesInDoubt g ad th L f ) (PstB g A) A) [.ref (ad 0)].toArray s rm_X10_phasesInDoubt.cells rm_X10_phasesInDoubt.slots A) (F0 m 4 ls []) := by
    intro k4
    induction k4 with
    | zero =>
      intro y4_l1 y4_l2 H locs ls hy4_l1 hy4_l2 hP hD hS hl hmz4
      exact ms0 hy4_l2 hmz4
    | succ k4 ih4 =>
      intro y4_l1 y4_l2 H locs ls hy4_l1 hy4_l2 hP hD hS hl hmz4
      refine lv_iload_n hx hb dX10_phasesInDoubt_4 rfl (lv_at hl 2 rfl) ?_
      refine lv_aload_n hx hb dX10_phasesInDoubt_5 rfl (lv_at hl 0 rfl) ?_
      obtain ⟨v15_1, v16_1, v17_1, hf2, hv15_1, hv16_1, hg16_1⟩ := hT.1 0 (by decide)
      refine call_i (run_V (rm := rm_X10_phasesOver) hx hb hml hown hts (s_X10_phasesOver l g ad th _ _ _  hst hT ) cV_X10_phasesOver wg_956 ⟨Nat.le_of_ble_eq_true rfl, Nat.le_of_ble_eq_true rfl⟩ hG hE hA hP hD hS (hst.1 0 (by decide)) hf2 rfl rfl hl.1 (As := []) (rest := [.int y4_l2]) rfl (Nat.le_of_ble_eq_true rfl) dX10_phasesInDoubt_6 ⟨Nat.le_of_ble_eq_true rfl, Nat.le_of_ble_eq_true rfl⟩) hA hD hS (fun r3 L4 f5 H locs hp6 hP hD hS => ?_)
      obtain ⟨eL7L, eL7T, eL7R⟩ := hp6
      have eL7L : L4 = L := eL7L
      have eL7T : f5 = f := eL7T
      rw [eL7L, eL7T] at hP hD
      have eL7R : In r3 0 6 := eL7R
      refine lv_icmp_ge (tgt := 52) hx hb dX10_phasesInDoubt_9 (by decide) (fun c8 => ?_) (fun c8 => ?_)
      ·
        refine lv_iload_n hx hb dX10_phasesInDoubt_52 rfl (lv_at hl 1 rfl) ?_
        exact ret_i (ty := .int) hx hb hr hlocks (rfl) hP hD hS (Nat.le_of_ble_eq_true rfl) (Nat.le_of_ble_eq_true rfl) (⟨rfl, rfl⟩) dX10_phasesInDoubt_53
      ·
        have cc9 : y4_l2.toInt < r3.toInt := i32_nle c8
        have hb10 : In y4_l2 0 5 := In.lt1 hy4_l2 eL7R cc9 (by omega) (by omega)
        have hb11 : In r3 1 6 := In.lt2 hy4_l2 eL7R cc9 (by omega) (by omega)
        refine lv_iload_n hx hb dX10_phasesInDoubt_12 rfl (lv_at hl 1 rfl) ?_
        refine lv_aload_n hx hb dX10_phasesInDoubt_13 rfl (lv_at hl 0 rfl) ?_
        refine pl_get (v := .ref (cr ad 0 0)) hx hb hts (fun w h => mT (inX10 w h)) hown hG.1 hP (hst.1 0 (by decide)) hf2 rfl 8 (by decide) (hts _ (mT wg_483)) (fun _ h => h) rfl dX10_phasesInDoubt_14 ?_
        refine lv_aload_n hx hb dX10_phasesInDoubt_17 rfl (lv_at hl 0 rfl) ?_
        refine pl_get (v := .ref (ad 6)) hx hb hts (fun w h => mT (inX10 w h)) hown hG.1 hP (hst.1 0 (by decide)) hf2 rfl 2 (by decide) (hts _ (mT wg_477)) (fun _ h => h) rfl dX10_phasesInDoubt_18 ?_
        obtain ⟨v0_12, v1_12, v2_12, v3_12, v4_12, v5_12, v6_12, v7_12, v8_12, hf13, hv1_12, hg1_12, hv2_12, hg2_12, hv6_12⟩ := hT.2.1 0 (by decide) 0 (by decide)
        refine call_i (run_VN (rm := rm_X3_trues_co) hx hb hml hown hts (s_X3_trues_co l g ad th _ _ _ 0 hst hT (by decide)) cV_X3_trues wn_986 ⟨Nat.le_of_ble_eq_true rfl, Nat.le_of_ble_eq_true rfl⟩ hG hE hA hP hD hS (hst.c (by decide) (by decide)) hf13 rfl rfl hl.1 (As := [.ref (ad 6)]) (rest := [.int y4_l1]) rfl (Nat.le_of_ble_eq_true rfl) dX10_phasesInDoubt_21 ⟨Nat.le_of_ble_eq_true rfl, Nat.le_of_ble_eq_true rfl⟩) hA hD hS (fun r14 L15 f16 H locs hp17 hP hD hS => ?_)
        obtain ⟨eL18L, eL18T, eL18R⟩ := hp17
        have eL18L : L15 = L := eL18L
        have eL18T : f16 = f := eL18T
        rw [eL18L, eL18T] at hP hD
        have eL18R : In r14 0 511 := eL18R
        refine lv_aload_n hx hb dX10_phasesInDoubt_24 rfl (lv_at hl 0 rfl) ?_
        refine pl_get (v := .ref (cr ad 0 0)) hx hb hts (fun w h => mT (inX10 w h)) hown hG.1 hP (hst.1 0 (by decide)) hf2 rfl 8 (by decide) (hts _ (mT wg_483)) (fun _ h => h) rfl dX10_phasesInDoubt_25 ?_
        refine pl_getN (v := .ref (cr ad 0 7)) hx hb hts (fun w h => mT (inX3 w h)) hown hG.1 hP (hst.c (by decide) (by decide)) hf13 rfl 15 (by decide) (hG.2.1 _ wn_361) (fun _ h => h) rfl dX10_phasesInDoubt_28 ?_
        refine lv_iload_n hx hb dX10_phasesInDoubt_31 rfl (lv_at hl 2 rfl) ?_
        obtain ⟨rw19, hf20⟩ := hT.2.1 0 (by decide) 7 (by decide)
        have hin21 : vp_in y4_l2 6 := In.inb hb10 (by decide) (by decide)
        refine pl_iald hx hb hG.1 hP (hst.c (by decide) (by decide)) 0 hf20 rfl hin21 dX10_phasesInDoubt_32 ?_
        refine lv_topi (fun x22 ex22 => ?_)
        refine lv_iconst (v := (-1)) hx hb dX10_phasesInDoubt_33 (by decide) ?_
        refine lv_ixor hx hb dX10_phasesInDoubt_34 ?_
        refine lv_topi (fun x23 ex23 => ?_)
        refine lv_iand hx hb dX10_phasesInDoubt_35 ?_
        refine lv_topi (fun x24 ex24 => ?_)
        have hb25 : In x24 0 511 := ex24 ▸ In.andl eL18R (by decide)
        have hJ44 : ∀ (y44_s0 : Int32) (H : Heap) (locs : List Loc) (ls : Array Slot), In y44_s0 0 1 → va_P g.1 vwCl (va_pl L f) H → va_D A (va_pl L f) → va_S A s.heap H locs → lv_has ls 3 [(0, .ref (ad 0)), (1, .int y4_l1), (2, .int y4_l2)] → W p l e rm_X10_phasesInDoubt s m [.ref (ad 0)].toArray below meth c H locs 0 0 (MQ below (va_Qi (po_X10_phasesInDoubt g ad th L f ) (PstB g A) A) [.ref (ad 0)].toArray s rm_X10_phasesInDoubt.cells rm_X10_phasesInDoubt.slots A) (F0 m 44 ls [.int y44_s0, .int y4_l1]) := by
          intro y44_s0 H locs ls hy44_s0 hP hD hS hl
          refine lv_iadd hx hb dX10_phasesInDoubt_44 ?_
          refine lv_topi (fun x26 ex26 => ?_)
          refine lv_istore_n (lv' := [(1, .int x26), (0, .ref (ad 0)), (2, .int y4_l2)]) hx hb dX10_phasesInDoubt_45 rfl hl (by decide) rfl (fun ls hl => ?_)
          obtain ⟨x27, ex27⟩ : ∃ y : Int32, y = y4_l2 + 1 := ⟨_, rfl⟩
          have hb28 : In x27 1 6 := ex27 ▸ In.add hb10 (⟨by decide, by decide⟩ : In 1 1 1) (by decide) (by decide) (by decide) (by decide)
          have et29 : x27.toInt = y4_l2.toInt + 1 := In.adde ex27 hb10 (k := 1) (by decide) (by decide) (by decide)
          refine lv_iinc (v := x27) (lv' := [(2, .int x27), (1, .int x26), (0, .ref (ad 0))]) hx hb dX10_phasesInDoubt_46 hl (k := 2) rfl (by rw [ex27]; rfl) (by decide) rfl (fun ls hl => ?_)
          refine lv_goto (tgt := 4) hx hb dX10_phasesInDoubt_49 (by decide) ?_
          exact ih4 x26 x27 _ _ _ (In.full x26) (In.mono hb28 (by decide) (by decide)) hP hD hS (lv_sub hl [2, 1, 0] rfl) (msu et29 (by decide) hmz4)
        refine lv_if_eq (tgt := 43) hx hb dX10_phasesInDoubt_36 (by decide) (fun c30 => ?_) (fun c30 => ?_)
        ·
          have cc31 : x24.toInt = (0 : Int32).toInt := congrArg Int32.toInt c30
          have hb32 : In x24 0 0 := In.eq1 hb25 (⟨by decide, by decide⟩ : In 0 0 0) cc31 (by omega) (by omega)
          refine lv_iconst (v := 0) hx hb dX10_phasesInDoubt_43 (by decide) ?_
          exact hJ44 0 _ _ _ (⟨by decide, by decide⟩ : In 0 0 1) hP hD hS (lv_sub hl [0, 1, 2] rfl)
        ·
          have cc33 : x24.toInt ≠ (0 : Int32).toInt := i32_ne c30
          have hb34 : In x24 1 511 := In.ne1 hb25 (⟨by decide, by decide⟩ : In 0 0 0) cc33 (by omega) (by omega)
          refine lv_iconst (v := 1) hx hb dX10_phasesInDoubt_39 (by decide) ?_
          refine lv_goto (tgt := 44) hx hb dX10_phasesInDoubt_40 (by decide) ?_
          exact hJ44 1 _ _ _ (⟨by decide, by decide⟩ : In 1 0 1) hP hD hS (lv_sub hl [0, 1, 2] rfl)
  exact hJ4 ((6 - (0 : Int32).toInt).toNat + 1) 0 0 _ _ _ (⟨by decide, by decide⟩ : In 0 (-2147483648) 2147483647) (⟨by decide, by decide⟩ : In 0 0 6) hP hD hS (lv_sub hl [2, 1, 0] rfl) (msI _)

abbrev rm_X10_changesOfTrueOnes : Room := { frames := 3, cells := 0, slots := 0, locals := 61 }
abbrev po_X10_changesOfTrueOnes (g : GG) (ad : Nat → Nat) (th : Nat → Int) (L : List Nat) (f : HP)  : Int32 → (List Nat × HP) → Prop := fun _ u => u.1 = L ∧ u.2 = f
set_option maxHeartbeats 4000000 in
set_option maxRecDepth 100000 in
theorem s_X10_changesOfTrueOnes (l : Launch) (g : GG) (ad : Nat → Nat) (th : Nat → Int) (L : List Nat) (f : HP) (sz : Nat)  (hst : ST ad L) (hT : TI g ad th f)  : MtI l g yX10_changesOfTrueOnes cX10_changesOfTrueOnes 4 (some .int) rm_X10_changesOfTrueOnes [.ref (ad 0)] L f sz (po_X10_changesOfTrueOnes g ad th L f ) := by
  refine MtI.of (by decide +kernel) (Nat.le_of_ble_eq_true rfl) ?_
  intro p e s m below meth c A hEn hP hD hS ls hl
  obtain ⟨hx, hb, hr, hml, hown, hlocks, hts, hG, hA, hE, hnm⟩ := hEn
  have hown : s.vm.findClass "RulerWord" = some m.cls := hown
  have hl : lv_has ls 4 [(0, .ref (ad 0))] := hl
  refine lv_iconst (v := 0) hx hb dX10_changesOfTrueOnes_0 (by decide) ?_
  refine lv_istore_n (lv' := [(1, .int 0), (0, .ref (ad 0))]) hx hb dX10_changesOfTrueOnes_1 rfl hl (by decide) rfl (fun ls hl => ?_)
  refine lv_aload_n hx hb dX10_changesOfTrueOnes_2 rfl (lv_at hl 1 rfl) ?_
  obtain ⟨v15_1, v16_1, v17_1, hf2, hv15_1, hv16_1, hg16_1⟩ := hT.1 0 (by decide)
  refine pl_get (v := .ref (cr ad 0 0)) hx hb hts (fun w h => mT (inX10 w h)) hown hG.1 hP (hst.1 0 (by decide)) hf2 rfl 8 (by decide) (hts _ (mT wg_483)) (fun _ h => h) rfl dX10_changesOfTrueOnes_3 ?_
  obtain ⟨v0_3, v1_3, v2_3, v3_3, v4_3, v5_3, v6_3, v7_3, v8_3, hf4, hv1_3, hg1_3, hv2_3, hg2_3, hv6_3⟩ := hT.2.1 0 (by decide) 0 (by decide)
  refine pl_getN (v := .int v0_3) hx hb hts (fun w h => mT (inX3 w h)) hown hG.1 hP (hst.c (by decide) (by decide)) hf4 rfl 0 (by decide) (hG.2.1 _ wn_336) (fun _ h => h) rfl dX10_changesOfTrueOnes_6 ?_
  refine lv_istore_n (lv' := [(2, .int v0_3), (1, .int 0), (0, .ref (ad 0))]) hx hb dX10_changesOfTrueOnes_9 rfl hl (by decide) rfl (fun ls hl => ?_)
  refine lv_iconst (v := 0) hx hb dX10_changesOfTrueOnes_10 (by decide) ?_
  refine lv_istore_n (lv' := [(3, .int 0), (2, .int v0_3), (1, .int 0), (0, .ref (ad 0))]) hx hb dX10_changesOfTrueOnes_11 rfl hl (by decide) rfl (fun ls hl => ?_)
  have hJ12 : ∀ (k12 : Nat) (y12_l1 : Int32) (y12_l2 : Int32) (y12_l3 : Int32) (H : Heap) (locs : List Loc) (ls : Array Slot), In y12_l1 (-2147483648) 2147483647 → In y12_l2 (-2147483648) 2147483647 → In y12_l3 0 6 → va_P g.1 vwCl (va_pl L f) H → va_D A (va_pl L f) → va_S A s.heap H locs → lv_has ls 4 [(0, .ref (ad 0)), (1, .int y12_l1), (2, .int y12_l2), (3, .int y12_l3)] → 6 - y12_l3.toInt < ((k12 : Nat) : Int) → W p l e rm_X10_changesOfTrueOnes s m [.ref (ad 0)].toArray below meth c H locs 0 0 (MQ below (va_Qi (po_X10_changesOfTrueOnes g ad th L f ) (PstB g A) A) [.ref (ad 0)].toArray s rm_X10_changesOfTrueOnes.cells rm_X10_changesOfTrueOnes.slots A) (F0 m 12 ls []) := by
    intro k12
    induction k12 with
    | zero =>
      intro y12_l1 y12_l2 y12_l3 H locs ls hy12_l1 hy12_l2 hy12_l3 hP hD hS hl hmz12
      exact ms0 hy12_l3 hmz12
    | succ k12 ih12 =>
      intro y12_l1 y12_l2 y12_l3 H locs ls hy12_l1 hy12_l2 hy12_l3 hP hD hS hl hmz12
      refine lv_iload_n hx hb dX10_changesOfTrueOnes_12 rfl (lv_at hl 3 rfl) ?_
      refine lv_aload_n hx hb dX10_changesOfTrueOnes_13 rfl (lv_at hl 0 rfl) ?_
      refine call_i (run_V (rm := rm_X10_phasesOver) hx hb hml hown hts (s_X10_phasesOver l g ad th _ _ _  hst hT ) cV_X10_phasesOver wg_956 ⟨Nat.le_of_ble_eq_true rfl, Nat.le_of_ble_eq_true rfl⟩ hG hE hA hP hD hS (hst.1 0 (by decide)) hf2 rfl rfl hl.1 (As := []) (rest := [.int y12_l3]) rfl (Nat.le_of_ble_eq_true rfl) dX10_changesOfTrueOnes_14 ⟨Nat.le_of_ble_eq_true rfl, Nat.le_of_ble_eq_true rfl⟩) hA hD hS (fun r5 L6 f7 H locs hp8 hP hD hS => ?_)
      obtain ⟨eL9L, eL9T, eL9R⟩ := hp8
      have eL9L : L6 = L := eL9L
      have eL9T : f7 = f := eL9T
      rw [eL9L, eL9T] at hP hD
      have eL9R : In r5 0 6 := eL9R
      refine lv_icmp_ge (tgt := 65) hx hb dX10_changesOfTrueOnes_17 (by decide) (fun c10 => ?_) (fun c10 => ?_)
      ·
        refine lv_iload_n hx hb dX10_changesOfTrueOnes_65 rfl (lv_at hl 1 rfl) ?_
        exact ret_i (ty := .int) hx hb hr hlocks (rfl) hP hD hS (Nat.le_of_ble_eq_true rfl) (Nat.le_of_ble_eq_true rfl) (⟨rfl, rfl⟩) dX10_changesOfTrueOnes_66
      ·
        have cc11 : y12_l3.toInt < r5.toInt := i32_nle c10
        have hb12 : In y12_l3 0 5 := In.lt1 hy12_l3 eL9R cc11 (by omega) (by omega)
        have hb13 : In r5 1 6 := In.lt2 hy12_l3 eL9R cc11 (by omega) (by omega)
        refine lv_iload_n hx hb dX10_changesOfTrueOnes_20 rfl (lv_at hl 1 rfl) ?_
        refine lv_iload_n hx hb dX10_changesOfTrueOnes_21 rfl (lv_at hl 2 rfl) ?_
        refine lv_aload_n hx hb dX10_changesOfTrueOnes_22 rfl (lv_at hl 0 rfl) ?_
        refine pl_get (v := .ref (cr ad 0 0)) hx hb hts (fun w h => mT (inX10 w h)) hown hG.1 hP (hst.1 0 (by decide)) hf2 rfl 8 (by decide) (hts _ (mT wg_483)) (fun _ h => h) rfl dX10_changesOfTrueOnes_23 ?_
        refine pl_getN (v := .ref (cr ad 0 6)) hx hb hts (fun w h => mT (inX3 w h)) hown hG.1 hP (hst.c (by decide) (by decide)) hf4 rfl 14 (by decide) (hG.2.1 _ wn_359) (fun _ h => h) rfl dX10_changesOfTrueOnes_26 ?_
        refine lv_iload_n hx hb dX10_changesOfTrueOnes_29 rfl (lv_at hl 3 rfl) ?_
        obtain ⟨rw14, hf15⟩ := hT.2.1 0 (by decide) 6 (by decide)
        have hin16 : vp_in y12_l3 6 := In.inb hb12 (by decide) (by decide)
        refine pl_iald hx hb hG.1 hP (hst.c (by decide) (by decide)) 0 hf15 rfl hin16 dX10_changesOfTrueOnes_30 ?_
        refine lv_topi (fun x17 ex17 => ?_)
        refine lv_ixor hx hb dX10_changesOfTrueOnes_31 ?_
        refine lv_topi (fun x18 ex18 => ?_)
        refine lv_aload_n hx hb dX10_changesOfTrueOnes_32 rfl (lv_at hl 0 rfl) ?_
        refine pl_get (v := .ref (cr ad 0 0)) hx hb hts (fun w h => mT (inX10 w h)) hown hG.1 hP (hst.1 0 (by decide)) hf2 rfl 8 (by decide) (hts _ (mT wg_483)) (fun _ h => h) rfl dX10_changesOfTrueOnes_33 ?_
        refine lv_aload_n hx hb dX10_changesOfTrueOnes_36 rfl (lv_at hl 0 rfl) ?_
        refine pl_get (v := .ref (ad 6)) hx hb hts (fun w h => mT (inX10 w h)) hown hG.1 hP (hst.1 0 (by decide)) hf2 rfl 2 (by decide) (hts _ (mT wg_477)) (fun _ h => h) rfl dX10_changesOfTrueOnes_37 ?_
        refine call_i (run_VN (rm := rm_X3_trues_co) hx hb hml hown hts (s_X3_trues_co l g ad th _ _ _ 0 hst hT (by decide)) cV_X3_trues wn_986 ⟨Nat.le_of_ble_eq_true rfl, Nat.le_of_ble_eq_true rfl⟩ hG hE hA hP hD hS (hst.c (by decide) (by decide)) hf4 rfl rfl hl.1 (As := [.ref (ad 6)]) (rest := [.int x18, .int y12_l1]) rfl (Nat.le_of_ble_eq_true rfl) dX10_changesOfTrueOnes_40 ⟨Nat.le_of_ble_eq_true rfl, Nat.le_of_ble_eq_true rfl⟩) hA hD hS (fun r19 L20 f21 H locs hp22 hP hD hS => ?_)
        obtain ⟨eL23L, eL23T, eL23R⟩ := hp22
        have eL23L : L20 = L := eL23L
        have eL23T : f21 = f := eL23T
        rw [eL23L, eL23T] at hP hD
        have eL23R : In r19 0 511 := eL23R
        refine lv_iand hx hb dX10_changesOfTrueOnes_43 ?_
        refine lv_topi (fun x24 ex24 => ?_)
        have hb25 : In x24 0 511 := ex24 ▸ In.andr eL23R (by decide)
        refine call_i (run_S (rm := rm_J6_bitCount_0f7a4) hx hb hml hown hts (s_J6_bitCount_0f7a4 l g ad th _ _ _ x24 hst hT ) cS_J6_bitCount_0f7a4 wg_987 ⟨Nat.le_of_ble_eq_true rfl, Nat.le_of_ble_eq_true rfl⟩ hG hE hA hP hD hS rfl hl.1 (As := [.int x24]) (rest := [.int y12_l1]) rfl (Nat.le_of_ble_eq_true rfl) dX10_changesOfTrueOnes_44 ⟨Nat.le_of_ble_eq_true rfl, Nat.le_of_ble_eq_true rfl⟩) hA hD hS (fun r26 L27 f28 H locs hp29 hP hD hS => ?_)
        obtain ⟨eL30L, eL30T, eL30R, eL30X0⟩ := hp29
        have eL30L : L27 = L := eL30L
        have eL30T : f28 = f := eL30T
        rw [eL30L, eL30T] at hP hD
        have eL30R : In r26 0 63 := eL30R
        have hb31 : In r26 0 9 := bc9 hb25 eL30X0
        refine lv_iadd hx hb dX10_changesOfTrueOnes_47 ?_
        refine lv_topi (fun x32 ex32 => ?_)
        refine lv_istore_n (lv' := [(1, .int x32), (0, .ref (ad 0)), (2, .int y12_l2), (3, .int y12_l3)]) hx hb dX10_changesOfTrueOnes_48 rfl hl (by decide) rfl (fun ls hl => ?_)
        refine lv_aload_n hx hb dX10_changesOfTrueOnes_49 rfl (lv_at hl 1 rfl) ?_
        refine pl_get (v := .ref (cr ad 0 0)) hx hb hts (fun w h => mT (inX10 w h)) hown hG.1 hP (hst.1 0 (by decide)) hf2 rfl 8 (by decide) (hts _ (mT wg_483)) (fun _ h => h) rfl dX10_changesOfTrueOnes_50 ?_
        refine pl_getN (v := .ref (cr ad 0 6)) hx hb hts (fun w h => mT (inX3 w h)) hown hG.1 hP (hst.c (by decide) (by decide)) hf4 rfl 14 (by decide) (hG.2.1 _ wn_359) (fun _ h => h) rfl dX10_changesOfTrueOnes_53 ?_
        refine lv_iload_n hx hb dX10_changesOfTrueOnes_56 rfl (lv_at hl 3 rfl) ?_
        have hin33 : vp_in y12_l3 6 := In.inb hb12 (by decide) (by decide)
        refine pl_iald hx hb hG.1 hP (hst.c (by decide) (by decide)) 0 hf15 rfl hin33 dX10_changesOfTrueOnes_57 ?_
        refine lv_topi (fun x34 ex34 => ?_)
        obtain rfl : x17 = x34 := ex17.trans ex34.symm
        refine lv_istore_n (lv' := [(2, .int x17), (1, .int x32), (0, .ref (ad 0)), (3, .int y12_l3)]) hx hb dX10_changesOfTrueOnes_58 rfl hl (by decide) rfl (fun ls hl => ?_)
        obtain ⟨x35, ex35⟩ : ∃ y : Int32, y = y12_l3 + 1 := ⟨_, rfl⟩
        have hb36 : In x35 1 6 := ex35 ▸ In.add hb12 (⟨by decide, by decide⟩ : In 1 1 1) (by decide) (by decide) (by decide) (by decide)
        have et37 : x35.toInt = y12_l3.toInt + 1 := In.adde ex35 hb12 (k := 1) (by decide) (by decide) (by decide)
        refine lv_iinc (v := x35) (lv' := [(3, .int x35), (2, .int x17), (1, .int x32), (0, .ref (ad 0))]) hx hb dX10_changesOfTrueOnes_59 hl (k := 3) rfl (by rw [ex35]; rfl) (by decide) rfl (fun ls hl => ?_)
        refine lv_goto (tgt := 12) hx hb dX10_changesOfTrueOnes_62 (by decide) ?_
        exact ih12 x32 x17 x35 _ _ _ (In.full x32) (In.full x17) (In.mono hb36 (by decide) (by decide)) hP hD hS (lv_sub hl [3, 2, 1, 0] rfl) (msu et37 (by decide) hmz12)
  exact hJ12 ((6 - (0 : Int32).toInt).toNat + 1) 0 v0_3 0 _ _ _ (⟨by decide, by decide⟩ : In 0 (-2147483648) 2147483647) (In.full v0_3) (⟨by decide, by decide⟩ : In 0 0 6) hP hD hS (lv_sub hl [3, 2, 1, 0] rfl) (msI _)

abbrev rm_X10_mostObedientPhase : Room := { frames := 3, cells := 0, slots := 0, locals := 61 }
abbrev po_X10_mostObedientPhase (g : GG) (ad : Nat → Nat) (th : Nat → Int) (L : List Nat) (f : HP)  : Int32 → (List Nat × HP) → Prop := fun _ u => u.1 = L ∧ u.2 = f
set_option maxHeartbeats 4000000 in
set_option maxRecDepth 100000 in
theorem s_X10_mostObedientPhase (l : Launch) (g : GG) (ad : Nat → Nat) (th : Nat → Int) (L : List Nat) (f : HP) (sz : Nat)  (hst : ST ad L) (hT : TI g ad th f)  : MtI l g yX10_mostObedientPhase cX10_mostObedientPhase 5 (some .int) rm_X10_mostObedientPhase [.ref (ad 0)] L f sz (po_X10_mostObedientPhase g ad th L f ) := by
  refine MtI.of (by decide +kernel) (Nat.le_of_ble_eq_true rfl) ?_
  intro p e s m below meth c A hEn hP hD hS ls hl
  obtain ⟨hx, hb, hr, hml, hown, hlocks, hts, hG, hA, hE, hnm⟩ := hEn
  have hown : s.vm.findClass "RulerWord" = some m.cls := hown
  have hl : lv_has ls 5 [(0, .ref (ad 0))] := hl
  refine lv_iconst (v := (-1)) hx hb dX10_mostObedientPhase_0 (by decide) ?_
  refine lv_istore_n (lv' := [(1, .int (-1)), (0, .ref (ad 0))]) hx hb dX10_mostObedientPhase_1 rfl hl (by decide) rfl (fun ls hl => ?_)
  refine lv_iconst (v := (-1)) hx hb dX10_mostObedientPhase_2 (by decide) ?_
  refine lv_istore_n (lv' := [(2, .int (-1)), (1, .int (-1)), (0, .ref (ad 0))]) hx hb dX10_mostObedientPhase_3 rfl hl (by decide) rfl (fun ls hl => ?_)
  refine lv_iconst (v := 0) hx hb dX10_mostObedientPhase_4 (by decide) ?_
  refine lv_istore_n (lv' := [(3, .int 0), (2, .int (-1)), (1, .int (-1)), (0, .ref (ad 0))]) hx hb dX10_mostObedientPhase_5 rfl hl (by decide) rfl (fun ls hl => ?_)
  have hJ6 : ∀ (k6 : Nat) (y6_l1 : Int32) (y6_l2 : Int32) (y6_l3 : Int32) (H : Heap) (locs : List Loc) (ls : Array Slot), In y6_l1 (-1) 5 → In y6_l2 (-1) 9 → In y6_l3 0 6 → va_P g.1 vwCl (va_pl L f) H → va_D A (va_pl L f) → va_S A s.heap H locs → lv_has ls 5 [(0, .ref (ad 0)), (1, .int y6_l1), (2, .int y6_l2), (3, .int y6_l3)] → 6 - y6_l3.toInt < ((k6 : Nat) : Int) → W p l e rm_X10_mostObedientPhase s m [.ref (ad 0)].toArray below meth c H locs 0 0 (MQ below (va_Qi (po_X10_mostObedientPhase g ad th L f ) (PstB g A) A) [.ref (ad 0)].toArray s rm_X10_mostObedientPhase.cells rm_X10_mostObedientPhase.slots A) (F0 m 6 ls []) := by
    intro k6
    induction k6 with
    | zero =>
      intro y6_l1 y6_l2 y6_l3 H locs ls hy6_l1 hy6_l2 hy6_l3 hP hD hS hl hmz6
      exact ms0 hy6_l3 hmz6
    | succ k6 ih6 =>
      intro y6_l1 y6_l2 y6_l3 H locs ls hy6_l1 hy6_l2 hy6_l3 hP hD hS hl hmz6
      refine lv_iload_n hx hb dX10_mostObedientPhase_6 rfl (lv_at hl 3 rfl) ?_
      refine lv_aload_n hx hb dX10_mostObedientPhase_7 rfl (lv_at hl 0 rfl) ?_
      obtain ⟨v15_1, v16_1, v17_1, hf2, hv15_1, hv16_1, hg16_1⟩ := hT.1 0 (by decide)
      refine call_i (run_V (rm := rm_X10_phasesOver) hx hb hml hown hts (s_X10_phasesOver l g ad th _ _ _  hst hT ) cV_X10_phasesOver wg_956 ⟨Nat.le_of_ble_eq_true rfl, Nat.le_of_ble_eq_true rfl⟩ hG hE hA hP hD hS (hst.1 0 (by decide)) hf2 rfl rfl hl.1 (As := []) (rest := [.int y6_l3]) rfl (Nat.le_of_ble_eq_true rfl) dX10_mostObedientPhase_8 ⟨Nat.le_of_ble_eq_true rfl, Nat.le_of_ble_eq_true rfl⟩) hA hD hS (fun r3 L4 f5 H locs hp6 hP hD hS => ?_)
      obtain ⟨eL7L, eL7T, eL7R⟩ := hp6
      have eL7L : L4 = L := eL7L
      have eL7T : f5 = f := eL7T
      rw [eL7L, eL7T] at hP hD
      have eL7R : In r3 0 6 := eL7R
      refine lv_icmp_ge (tgt := 57) hx hb dX10_mostObedientPhase_11 (by decide) (fun c8 => ?_) (fun c8 => ?_)
      ·
        refine lv_iload_n hx hb dX10_mostObedientPhase_57 rfl (lv_at hl 1 rfl) ?_
        exact ret_i (ty := .int) hx hb hr hlocks (rfl) hP hD hS (Nat.le_of_ble_eq_true rfl) (Nat.le_of_ble_eq_true rfl) (⟨rfl, rfl⟩) dX10_mostObedientPhase_58
      ·
        have cc9 : y6_l3.toInt < r3.toInt := i32_nle c8
        have hb10 : In y6_l3 0 5 := In.lt1 hy6_l3 eL7R cc9 (by omega) (by omega)
        have hb11 : In r3 1 6 := In.lt2 hy6_l3 eL7R cc9 (by omega) (by omega)
        refine lv_aload_n hx hb dX10_mostObedientPhase_14 rfl (lv_at hl 0 rfl) ?_
        refine pl_get (v := .ref (cr ad 0 0)) hx hb hts (fun w h => mT (inX10 w h)) hown hG.1 hP (hst.1 0 (by decide)) hf2 rfl 8 (by decide) (hts _ (mT wg_483)) (fun _ h => h) rfl dX10_mostObedientPhase_15 ?_
        obtain ⟨v0_12, v1_12, v2_12, v3_12, v4_12, v5_12, v6_12, v7_12, v8_12, hf13, hv1_12, hg1_12, hv2_12, hg2_12, hv6_12⟩ := hT.2.1 0 (by decide) 0 (by decide)
        refine pl_getN (v := .ref (cr ad 0 8)) hx hb hts (fun w h => mT (inX3 w h)) hown hG.1 hP (hst.c (by decide) (by decide)) hf13 rfl 16 (by decide) (hG.2.1 _ wn_363) (fun _ h => h) rfl dX10_mostObedientPhase_18 ?_
        refine lv_iload_n hx hb dX10_mostObedientPhase_21 rfl (lv_at hl 3 rfl) ?_
        obtain ⟨rw14, hf15⟩ := hT.2.1 0 (by decide) 8 (by decide)
        have hin16 : vp_in y6_l3 6 := In.inb hb10 (by decide) (by decide)
        refine pl_iald hx hb hG.1 hP (hst.c (by decide) (by decide)) 0 hf15 rfl hin16 dX10_mostObedientPhase_22 ?_
        refine lv_topi (fun x17 ex17 => ?_)
        refine lv_aload_n hx hb dX10_mostObedientPhase_23 rfl (lv_at hl 0 rfl) ?_
        refine pl_get (v := .ref (cr ad 0 0)) hx hb hts (fun w h => mT (inX10 w h)) hown hG.1 hP (hst.1 0 (by decide)) hf2 rfl 8 (by decide) (hts _ (mT wg_483)) (fun _ h => h) rfl dX10_mostObedientPhase_24 ?_
        refine lv_aload_n hx hb dX10_mostObedientPhase_27 rfl (lv_at hl 0 rfl) ?_
        refine pl_get (v := .ref (ad 6)) hx hb hts (fun w h => mT (inX10 w h)) hown hG.1 hP (hst.1 0 (by decide)) hf2 rfl 2 (by decide) (hts _ (mT wg_477)) (fun _ h => h) rfl dX10_mostObedientPhase_28 ?_
        refine call_i (run_VN (rm := rm_X3_trues_co) hx hb hml hown hts (s_X3_trues_co l g ad th _ _ _ 0 hst hT (by decide)) cV_X3_trues wn_986 ⟨Nat.le_of_ble_eq_true rfl, Nat.le_of_ble_eq_true rfl⟩ hG hE hA hP hD hS (hst.c (by decide) (by decide)) hf13 rfl rfl hl.1 (As := [.ref (ad 6)]) (rest := [.int x17]) rfl (Nat.le_of_ble_eq_true rfl) dX10_mostObedientPhase_31 ⟨Nat.le_of_ble_eq_true rfl, Nat.le_of_ble_eq_true rfl⟩) hA hD hS (fun r18 L19 f20 H locs hp21 hP hD hS => ?_)
        obtain ⟨eL22L, eL22T, eL22R⟩ := hp21
        have eL22L : L19 = L := eL22L
        have eL22T : f20 = f := eL22T
        rw [eL22L, eL22T] at hP hD
        have eL22R : In r18 0 511 := eL22R
        refine lv_iand hx hb dX10_mostObedientPhase_34 ?_
        refine lv_topi (fun x23 ex23 => ?_)
        have hb24 : In x23 0 511 := ex23 ▸ In.andr eL22R (by decide)
        refine call_i (run_S (rm := rm_J6_bitCount_0f7a4) hx hb hml hown hts (s_J6_bitCount_0f7a4 l g ad th _ _ _ x23 hst hT ) cS_J6_bitCount_0f7a4 wg_987 ⟨Nat.le_of_ble_eq_true rfl, Nat.le_of_ble_eq_true rfl⟩ hG hE hA hP hD hS rfl hl.1 (As := [.int x23]) (rest := []) rfl (Nat.le_of_ble_eq_true rfl) dX10_mostObedientPhase_35 ⟨Nat.le_of_ble_eq_true rfl, Nat.le_of_ble_eq_true rfl⟩) hA hD hS (fun r25 L26 f27 H locs hp28 hP hD hS => ?_)
        obtain ⟨eL29L, eL29T, eL29R, eL29X0⟩ := hp28
        have eL29L : L26 = L := eL29L
        have eL29T : f27 = f := eL29T
        rw [eL29L, eL29T] at hP hD
        have eL29R : In r25 0 63 := eL29R
        have hb30 : In r25 0 9 := bc9 hb24 eL29X0
        refine lv_istore (lv' := [(4, .int r25), (0, .ref (ad 0)), (1, .int y6_l1), (2, .int y6_l2), (3, .int y6_l3)]) hx hb dX10_mostObedientPhase_38 hl (by decide) rfl (fun ls hl => ?_)
        refine lv_iload hx hb dX10_mostObedientPhase_40 (lv_at hl 0 rfl) ?_
        refine lv_iload_n hx hb dX10_mostObedientPhase_42 rfl (lv_at hl 3 rfl) ?_
        have hJ51 : ∀ (y51_l1 : Int32) (y51_l2 : Int32) (H : Heap) (locs : List Loc) (ls : Array Slot), In y51_l1 (-1) 5 → In y51_l2 0 9 → va_P g.1 vwCl (va_pl L f) H → va_D A (va_pl L f) → va_S A s.heap H locs → lv_has ls 5 [(0, .ref (ad 0)), (1, .int y51_l1), (2, .int y51_l2), (3, .int y6_l3), (4, .int r25)] → W p l e rm_X10_mostObedientPhase s m [.ref (ad 0)].toArray below meth c H locs 0 0 (MQ below (va_Qi (po_X10_mostObedientPhase g ad th L f ) (PstB g A) A) [.ref (ad 0)].toArray s rm_X10_mostObedientPhase.cells rm_X10_mostObedientPhase.slots A) (F0 m 51 ls []) := by
          intro y51_l1 y51_l2 H locs ls hy51_l1 hy51_l2 hP hD hS hl
          obtain ⟨x31, ex31⟩ : ∃ y : Int32, y = y6_l3 + 1 := ⟨_, rfl⟩
          have hb32 : In x31 1 6 := ex31 ▸ In.add hb10 (⟨by decide, by decide⟩ : In 1 1 1) (by decide) (by decide) (by decide) (by decide)
          have et33 : x31.toInt = y6_l3.toInt + 1 := In.adde ex31 hb10 (k := 1) (by decide) (by decide) (by decide)
          refine lv_iinc (v := x31) (lv' := [(3, .int x31), (0, .ref (ad 0)), (1, .int y51_l1), (2, .int y51_l2), (4, .int r25)]) hx hb dX10_mostObedientPhase_51 hl (k := 3) rfl (by rw [ex31]; rfl) (by decide) rfl (fun ls hl => ?_)
          refine lv_goto (tgt := 6) hx hb dX10_mostObedientPhase_54 (by decide) ?_
          exact ih6 y51_l1 y51_l2 x31 _ _ _ hy51_l1 (In.mono hy51_l2 (by decide) (by decide)) (In.mono hb32 (by decide) (by decide)) hP hD hS (lv_sub hl [1, 2, 3, 0] rfl) (msu et33 (by decide) hmz6)
        refine lv_icmp_le (tgt := 51) hx hb dX10_mostObedientPhase_43 (by decide) (fun c34 => ?_) (fun c34 => ?_)
        ·
          have cc35 : r25.toInt ≤ y6_l2.toInt := i32_le.mp c34
          have hb36 : In y6_l2 0 9 := In.le2 hb30 hy6_l2 cc35 (by omega) (by omega)
          exact hJ51 y6_l1 y6_l2 _ _ _ hy6_l1 hb36 hP hD hS (lv_sub hl [1, 2, 3, 4, 0] rfl)
        ·
          have cc37 : y6_l2.toInt < r25.toInt := i32_nle c34
          have hb38 : In y6_l2 (-1) 8 := In.gt2 hb30 hy6_l2 cc37 (by omega) (by omega)
          refine lv_iload hx hb dX10_mostObedientPhase_46 (lv_at hl 0 rfl) ?_
          refine lv_istore_n (lv' := [(2, .int r25), (4, .int r25), (0, .ref (ad 0)), (1, .int y6_l1), (3, .int y6_l3)]) hx hb dX10_mostObedientPhase_48 rfl hl (by decide) rfl (fun ls hl => ?_)
          refine lv_iload_n hx hb dX10_mostObedientPhase_49 rfl (lv_at hl 4 rfl) ?_
          refine lv_istore_n (lv' := [(1, .int y6_l3), (2, .int r25), (4, .int r25), (0, .ref (ad 0)), (3, .int y6_l3)]) hx hb dX10_mostObedientPhase_50 rfl hl (by decide) rfl (fun ls hl => ?_)
          exact hJ51 y6_l3 r25 _ _ _ (In.mono hb10 (by decide) (by decide)) hb30 hP hD hS (lv_sub hl [3, 0, 1, 4, 2] rfl)
  exact hJ6 ((6 - (0 : Int32).toInt).toNat + 1) (-1) (-1) 0 _ _ _ (⟨by decide, by decide⟩ : In (-1) (-1) 5) (⟨by decide, by decide⟩ : In (-1) (-1) 9) (⟨by decide, by decide⟩ : In 0 0 6) hP hD hS (lv_sub hl [3, 2, 1, 0] rfl) (msI _)

abbrev rm_X10_most : Room := { frames := 4, cells := 0, slots := 0, locals := 85 }
abbrev po_X10_most (g : GG) (ad : Nat → Nat) (th : Nat → Int) (L : List Nat) (f : HP) (z1 : Int32) : Int32 → (List Nat × HP) → Prop := fun _ u => u.1 = L ∧ u.2 = f
set_option maxHeartbeats 4000000 in
set_option maxRecDepth 100000 in
theorem s_X10_most (l : Launch) (g : GG) (ad : Nat → Nat) (th : Nat → Int) (L : List Nat) (f : HP) (sz : Nat) (z1 : Int32) (hst : ST ad L) (hT : TI g ad th f)  : MtI l g yX10_most cX10_most 2 (some .int) rm_X10_most [.ref (ad 0), .int z1] L f sz (po_X10_most g ad th L f z1) := by
  refine MtI.of (by decide +kernel) (Nat.le_of_ble_eq_true rfl) ?_
  intro p e s m below meth c A hEn hP hD hS ls hl
  obtain ⟨hx, hb, hr, hml, hown, hlocks, hts, hG, hA, hE, hnm⟩ := hEn
  have hown : s.vm.findClass "RulerWord" = some m.cls := hown
  have hl : lv_has ls 2 [(0, .ref (ad 0)), (1, .int z1)] := hl
  refine lv_aload_n hx hb dX10_most_0 rfl (lv_at hl 0 rfl) ?_
  obtain ⟨v15_1, v16_1, v17_1, hf2, hv15_1, hv16_1, hg16_1⟩ := hT.1 0 (by decide)
  refine pl_get (v := .int v15_1) hx hb hts (fun w h => mT (inX10 w h)) hown hG.1 hP (hst.1 0 (by decide)) hf2 rfl 15 (by decide) (hts _ (mT wg_490)) (fun _ h => h) rfl dX10_most_1 ?_
  refine lv_if_ne (tgt := 9) hx hb dX10_most_4 (by decide) (fun c3 => ?_) (fun c3 => ?_)
  ·
    have cc4 : v15_1.toInt ≠ (0 : Int32).toInt := i32_ne c3
    have hb5 : In v15_1 1 1 := In.ne1 hv15_1 (⟨by decide, by decide⟩ : In 0 0 0) cc4 (by omega) (by omega)
    refine lv_iload_n hx hb dX10_most_9 rfl (lv_at hl 1 rfl) ?_
    by_cases c6 : z1 = 0
    ·
      refine lv_tableIn (off := 34) (tgt := 44) hx hb dX10_most_10 (by rw [c6]; decide) (by rw [c6]; decide) (by rw [c6]; decide) (by decide) ?_
      have hb7 : In z1 0 0 := by rw [c6]; exact ⟨by decide, by decide⟩
      refine lv_aload_n hx hb dX10_most_44 rfl (lv_at hl 0 rfl) ?_
      refine call_i (run_V (rm := rm_X10_mostWary) hx hb hml hown hts (s_X10_mostWary l g ad th _ _ _  hst hT ) cV_X10_mostWary wg_1231 ⟨Nat.le_of_ble_eq_true rfl, Nat.le_of_ble_eq_true rfl⟩ hG hE hA hP hD hS (hst.1 0 (by decide)) hf2 rfl rfl hl.1 (As := []) (rest := []) rfl (Nat.le_of_ble_eq_true rfl) dX10_most_45 ⟨Nat.le_of_ble_eq_true rfl, Nat.le_of_ble_eq_true rfl⟩) hA hD hS (fun r8 L9 f10 H locs hp11 hP hD hS => ?_)
      obtain ⟨eL12L, eL12T⟩ := hp11
      have eL12L : L9 = L := eL12L
      have eL12T : f10 = f := eL12T
      rw [eL12L, eL12T] at hP hD
      exact ret_i (ty := .int) hx hb hr hlocks (rfl) hP hD hS (Nat.le_of_ble_eq_true rfl) (Nat.le_of_ble_eq_true rfl) (⟨rfl, rfl⟩) dX10_most_48
    by_cases c13 : z1 = 1
    ·
      refine lv_tableIn (off := 39) (tgt := 49) hx hb dX10_most_10 (by rw [c13]; decide) (by rw [c13]; decide) (by rw [c13]; decide) (by decide) ?_
      have hb14 : In z1 1 1 := by rw [c13]; exact ⟨by decide, by decide⟩
      refine lv_aload_n hx hb dX10_most_49 rfl (lv_at hl 0 rfl) ?_
      refine call_i (run_V (rm := rm_X10_mostSuspected) hx hb hml hown hts (s_X10_mostSuspected l g ad th _ _ _  hst hT ) cV_X10_mostSuspected wg_1235 ⟨Nat.le_of_ble_eq_true rfl, Nat.le_of_ble_eq_true rfl⟩ hG hE hA hP hD hS (hst.1 0 (by decide)) hf2 rfl rfl hl.1 (As := []) (rest := []) rfl (Nat.le_of_ble_eq_true rfl) dX10_most_50 ⟨Nat.le_of_ble_eq_true rfl, Nat.le_of_ble_eq_true rfl⟩) hA hD hS (fun r15 L16 f17 H locs hp18 hP hD hS => ?_)
      obtain ⟨eL19L, eL19T⟩ := hp18
      have eL19L : L16 = L := eL19L
      have eL19T : f17 = f := eL19T
      rw [eL19L, eL19T] at hP hD
      exact ret_i (ty := .int) hx hb hr hlocks (rfl) hP hD hS (Nat.le_of_ble_eq_true rfl) (Nat.le_of_ble_eq_true rfl) (⟨rfl, rfl⟩) dX10_most_53
    by_cases c20 : z1 = 2
    ·
      refine lv_tableIn (off := 44) (tgt := 54) hx hb dX10_most_10 (by rw [c20]; decide) (by rw [c20]; decide) (by rw [c20]; decide) (by decide) ?_
      have hb21 : In z1 2 2 := by rw [c20]; exact ⟨by decide, by decide⟩
      refine lv_aload_n hx hb dX10_most_54 rfl (lv_at hl 0 rfl) ?_
      refine call_i (run_V (rm := rm_X10_phasesInDoubt) hx hb hml hown hts (s_X10_phasesInDoubt l g ad th _ _ _  hst hT ) cV_X10_phasesInDoubt wg_1240 ⟨Nat.le_of_ble_eq_true rfl, Nat.le_of_ble_eq_true rfl⟩ hG hE hA hP hD hS (hst.1 0 (by decide)) hf2 rfl rfl hl.1 (As := []) (rest := []) rfl (Nat.le_of_ble_eq_true rfl) dX10_most_55 ⟨Nat.le_of_ble_eq_true rfl, Nat.le_of_ble_eq_true rfl⟩) hA hD hS (fun r22 L23 f24 H locs hp25 hP hD hS => ?_)
      obtain ⟨eL26L, eL26T⟩ := hp25
      have eL26L : L23 = L := eL26L
      have eL26T : f24 = f := eL26T
      rw [eL26L, eL26T] at hP hD
      exact ret_i (ty := .int) hx hb hr hlocks (rfl) hP hD hS (Nat.le_of_ble_eq_true rfl) (Nat.le_of_ble_eq_true rfl) (⟨rfl, rfl⟩) dX10_most_58
    by_cases c27 : z1 = 3
    ·
      refine lv_tableIn (off := 49) (tgt := 59) hx hb dX10_most_10 (by rw [c27]; decide) (by rw [c27]; decide) (by rw [c27]; decide) (by decide) ?_
      have hb28 : In z1 3 3 := by rw [c27]; exact ⟨by decide, by decide⟩
      refine lv_aload_n hx hb dX10_most_59 rfl (lv_at hl 0 rfl) ?_
      refine call_i (run_V (rm := rm_X10_changesOfTrueOnes) hx hb hml hown hts (s_X10_changesOfTrueOnes l g ad th _ _ _  hst hT ) cV_X10_changesOfTrueOnes wg_1244 ⟨Nat.le_of_ble_eq_true rfl, Nat.le_of_ble_eq_true rfl⟩ hG hE hA hP hD hS (hst.1 0 (by decide)) hf2 rfl rfl hl.1 (As := []) (rest := []) rfl (Nat.le_of_ble_eq_true rfl) dX10_most_60 ⟨Nat.le_of_ble_eq_true rfl, Nat.le_of_ble_eq_true rfl⟩) hA hD hS (fun r29 L30 f31 H locs hp32 hP hD hS => ?_)
      obtain ⟨eL33L, eL33T⟩ := hp32
      have eL33L : L30 = L := eL33L
      have eL33T : f31 = f := eL33T
      rw [eL33L, eL33T] at hP hD
      exact ret_i (ty := .int) hx hb hr hlocks (rfl) hP hD hS (Nat.le_of_ble_eq_true rfl) (Nat.le_of_ble_eq_true rfl) (⟨rfl, rfl⟩) dX10_most_63
    by_cases c34 : z1 = 4
    ·
      refine lv_tableIn (off := 54) (tgt := 64) hx hb dX10_most_10 (by rw [c34]; decide) (by rw [c34]; decide) (by rw [c34]; decide) (by decide) ?_
      have hb35 : In z1 4 4 := by rw [c34]; exact ⟨by decide, by decide⟩
      refine lv_aload_n hx hb dX10_most_64 rfl (lv_at hl 0 rfl) ?_
      refine call_i (run_V (rm := rm_X10_mostObedientPhase) hx hb hml hown hts (s_X10_mostObedientPhase l g ad th _ _ _  hst hT ) cV_X10_mostObedientPhase wg_1248 ⟨Nat.le_of_ble_eq_true rfl, Nat.le_of_ble_eq_true rfl⟩ hG hE hA hP hD hS (hst.1 0 (by decide)) hf2 rfl rfl hl.1 (As := []) (rest := []) rfl (Nat.le_of_ble_eq_true rfl) dX10_most_65 ⟨Nat.le_of_ble_eq_true rfl, Nat.le_of_ble_eq_true rfl⟩) hA hD hS (fun r36 L37 f38 H locs hp39 hP hD hS => ?_)
      obtain ⟨eL40L, eL40T⟩ := hp39
      have eL40L : L37 = L := eL40L
      have eL40T : f38 = f := eL40T
      rw [eL40L, eL40T] at hP hD
      exact ret_i (ty := .int) hx hb hr hlocks (rfl) hP hD hS (Nat.le_of_ble_eq_true rfl) (Nat.le_of_ble_eq_true rfl) (⟨rfl, rfl⟩) dX10_most_68
    refine lv_tableOut (tgt := 69) hx hb dX10_most_10 (tb_out (by decide) (by decide) (fun k h1 h2 => ?_)) (by decide) ?_
    · rcases (show k = 0 ∨ k = 1 ∨ k = 2 ∨ k = 3 ∨ k = 4 by omega) with rfl | rfl | rfl | rfl | rfl
      · exact fun e => c6 (e.trans (by decide))
      · exact fun e => c13 (e.trans (by decide))
      · exact fun e => c20 (e.trans (by decide))
      · exact fun e => c27 (e.trans (by decide))
      · exact fun e => c34 (e.trans (by decide))
    ·
      refine lv_iconst (v := (-1)) hx hb dX10_most_69 (by decide) ?_
      exact ret_i (ty := .int) hx hb hr hlocks (rfl) hP hD hS (Nat.le_of_ble_eq_true rfl) (Nat.le_of_ble_eq_true rfl) (⟨rfl, rfl⟩) dX10_most_70
  ·
    have cc41 : v15_1.toInt = (0 : Int32).toInt := congrArg Int32.toInt c3
    have hb42 : In v15_1 0 0 := In.eq1 hv15_1 (⟨by decide, by decide⟩ : In 0 0 0) cc41 (by omega) (by omega)
    refine lv_iconst (v := (-1)) hx hb dX10_most_7 (by decide) ?_
    exact ret_i (ty := .int) hx hb hr hlocks (rfl) hP hD hS (Nat.le_of_ble_eq_true rfl) (Nat.le_of_ble_eq_true rfl) (⟨rfl, rfl⟩) dX10_most_8

abbrev rm_X10_count : Room := { frames := 0, cells := 0, slots := 0, locals := 0 }
abbrev po_X10_count (g : GG) (ad : Nat → Nat) (th : Nat → Int) (L : List Nat) (f : HP) (z1 : Int32) : Int32 → (List Nat × HP) → Prop := fun _ u => u.1 = L ∧ u.2 = f
set_option maxHeartbeats 4000000 in
set_option maxRecDepth 100000 in
theorem s_X10_count (l : Launch) (g : GG) (ad : Nat → Nat) (th : Nat → Int) (L : List Nat) (f : HP) (sz : Nat) (z1 : Int32) (hst : ST ad L) (hT : TI g ad th f)  : MtI l g yX10_count cX10_count 2 (some .int) rm_X10_count [.ref (ad 0), .int z1] L f sz (po_X10_count g ad th L f z1) := by
  refine MtI.of (by decide +kernel) (Nat.le_of_ble_eq_true rfl) ?_
  intro p e s m below meth c A hEn hP hD hS ls hl
  obtain ⟨hx, hb, hr, hml, hown, hlocks, hts, hG, hA, hE, hnm⟩ := hEn
  have hown : s.vm.findClass "RulerWord" = some m.cls := hown
  have hl : lv_has ls 2 [(0, .ref (ad 0)), (1, .int z1)] := hl
  refine lv_iload_n hx hb dX10_count_0 rfl (lv_at hl 1 rfl) ?_
  by_cases c1 : z1 = 0
  ·
    refine lv_tableIn (off := 27) (tgt := 28) hx hb dX10_count_1 (by rw [c1]; decide) (by rw [c1]; decide) (by rw [c1]; decide) (by decide) ?_
    have hb2 : In z1 0 0 := by rw [c1]; exact ⟨by decide, by decide⟩
    refine lv_aload_n hx hb dX10_count_28 rfl (lv_at hl 0 rfl) ?_
    obtain ⟨v15_3, v16_3, v17_3, hf4, hv15_3, hv16_3, hg16_3⟩ := hT.1 0 (by decide)
    refine pl_get (v := .ref (ad 1)) hx hb hts (fun w h => mT (inX10 w h)) hown hG.1 hP (hst.1 0 (by decide)) hf4 rfl 0 (by decide) (hts _ (mT wg_475)) (fun _ h => h) rfl dX10_count_29 ?_
    obtain ⟨v1_5, v2_5, v3_5, v4_5, hf6, hv1_5, hv2_5, hv3_5, hv4_5⟩ := hT.1 1 (by decide)
    refine pl_getN (v := .int v1_5) hx hb hts (fun w h => mT (inX8 w h)) hown hG.1 hP (hst.1 1 (by decide)) hf6 rfl 1 (by decide) (hG.2.1 _ wn_197) (fun _ h => h) rfl dX10_count_32 ?_
    exact ret_i (ty := .int) hx hb hr hlocks (rfl) hP hD hS (Nat.le_of_ble_eq_true rfl) (Nat.le_of_ble_eq_true rfl) (⟨rfl, rfl⟩) dX10_count_35
  by_cases c7 : z1 = 1
  ·
    refine lv_tableIn (off := 35) (tgt := 36) hx hb dX10_count_1 (by rw [c7]; decide) (by rw [c7]; decide) (by rw [c7]; decide) (by decide) ?_
    have hb8 : In z1 1 1 := by rw [c7]; exact ⟨by decide, by decide⟩
    refine lv_aload_n hx hb dX10_count_36 rfl (lv_at hl 0 rfl) ?_
    obtain ⟨v15_9, v16_9, v17_9, hf10, hv15_9, hv16_9, hg16_9⟩ := hT.1 0 (by decide)
    refine pl_get (v := .ref (ad 16)) hx hb hts (fun w h => mT (inX10 w h)) hown hG.1 hP (hst.1 0 (by decide)) hf10 rfl 11 (by decide) (hts _ (mT wg_486)) (fun _ h => h) rfl dX10_count_37 ?_
    obtain ⟨v1_11, v2_11, hf12, hv1_11, hg1_11, hv2_11, hg2_11⟩ := hT.1 16 (by decide)
    refine pl_getN (v := .int v2_11) hx hb hts (fun w h => mT (inX0 w h)) hown hG.1 hP (hst.1 16 (by decide)) hf12 rfl 2 (by decide) (hG.2.1 _ wn_416) (fun _ h => h) rfl dX10_count_40 ?_
    exact ret_i (ty := .int) hx hb hr hlocks (rfl) hP hD hS (Nat.le_of_ble_eq_true rfl) (Nat.le_of_ble_eq_true rfl) (⟨rfl, rfl⟩) dX10_count_43
  by_cases c13 : z1 = 2
  ·
    refine lv_tableIn (off := 43) (tgt := 44) hx hb dX10_count_1 (by rw [c13]; decide) (by rw [c13]; decide) (by rw [c13]; decide) (by decide) ?_
    have hb14 : In z1 2 2 := by rw [c13]; exact ⟨by decide, by decide⟩
    refine lv_aload_n hx hb dX10_count_44 rfl (lv_at hl 0 rfl) ?_
    obtain ⟨v15_15, v16_15, v17_15, hf16, hv15_15, hv16_15, hg16_15⟩ := hT.1 0 (by decide)
    refine pl_get (v := .ref (cr ad 0 0)) hx hb hts (fun w h => mT (inX10 w h)) hown hG.1 hP (hst.1 0 (by decide)) hf16 rfl 8 (by decide) (hts _ (mT wg_483)) (fun _ h => h) rfl dX10_count_45 ?_
    obtain ⟨v0_17, v1_17, v2_17, v3_17, v4_17, v5_17, v6_17, v7_17, v8_17, hf18, hv1_17, hg1_17, hv2_17, hg2_17, hv6_17⟩ := hT.2.1 0 (by decide) 0 (by decide)
    refine pl_getN (v := .int v2_17) hx hb hts (fun w h => mT (inX3 w h)) hown hG.1 hP (hst.c (by decide) (by decide)) hf18 rfl 2 (by decide) (hG.2.1 _ wn_341) (fun _ h => h) rfl dX10_count_48 ?_
    exact ret_i (ty := .int) hx hb hr hlocks (rfl) hP hD hS (Nat.le_of_ble_eq_true rfl) (Nat.le_of_ble_eq_true rfl) (⟨rfl, rfl⟩) dX10_count_51
  refine lv_tableOut (tgt := 52) hx hb dX10_count_1 (tb_out (by decide) (by decide) (fun k h1 h2 => ?_)) (by decide) ?_
  · rcases (show k = 0 ∨ k = 1 ∨ k = 2 by omega) with rfl | rfl | rfl
    · exact fun e => c1 (e.trans (by decide))
    · exact fun e => c7 (e.trans (by decide))
    · exact fun e => c13 (e.trans (by decide))
  ·
    refine lv_iconst (v := (-1)) hx hb dX10_count_52 (by decide) ?_
    exact ret_i (ty := .int) hx hb hr hlocks (rfl) hP hD hS (Nat.le_of_ble_eq_true rfl) (Nat.le_of_ble_eq_true rfl) (⟨rfl, rfl⟩) dX10_count_53
