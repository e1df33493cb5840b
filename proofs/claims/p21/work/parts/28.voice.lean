abbrev rm_X6_choose : Room := { frames := 2, cells := 0, slots := 0, locals := 49 }
abbrev po_X6_choose (g : GG) (ad : Nat → Nat) (th : Nat → Int) (L : List Nat) (f : HP) (j : Nat) (z2 : Int32) (z3 : Int32) (z4 : Int32) : Int32 → (List Nat × HP) → Prop := fun r u => u.1 = L ∧ TI g ad th u.2 ∧ (∀ b, b ≠ (cr ad j 0) → u.2 b = f b)
set_option maxHeartbeats 4000000 in
set_option maxRecDepth 100000 in
theorem s_X6_choose (l : Launch) (g : GG) (ad : Nat → Nat) (th : Nat → Int) (L : List Nat) (f : HP) (sz : Nat) (j : Nat) (z2 : Int32) (z3 : Int32) (z4 : Int32) (hst : ST ad L) (hT : TI g ad th f) (hj : j < 23) : MtI l g yX6_choose cX6_choose 7 (some .int) rm_X6_choose [.ref (ad 13), .ref (cr ad j 0), .int z2, .int z3, .int z4] L f sz (po_X6_choose g ad th L f j z2 z3 z4) := by
  refine MtI.of (by decide +kernel) (Nat.le_of_ble_eq_true rfl) ?_
  intro p e s m below meth c A hEn hP hD hS ls hl
  obtain ⟨hx, hb, hr, hml, hown, hlocks, hts, hG, hA, hE, hnm⟩ := hEn
  have hown : s.vm.findClass "RulerWord$Planned" = some m.cls := hown
  have hl : lv_has ls 7 [(0, .ref (ad 13)), (1, .ref (cr ad j 0)), (2, .int z2), (3, .int z3), (4, .int z4)] := hl
  have hfr : (∀ b, b ≠ (cr ad j 0) → f b = f b) := fun b z0_ => rfl
  refine lv_aload_n hx hb dX6_choose_0 rfl (lv_at hl 1 rfl) ?_
  refine lv_aload_n hx hb dX6_choose_1 rfl (lv_at hl 0 rfl) ?_
  obtain ⟨v0_1, v1_1, hf2, hv0_1, hv1_1⟩ := hT.1 13 (by decide)
  refine pl_get (v := .int v0_1) hx hb hts (fun w h => mT (inX6 w h)) hown hG.1 hP (hst.1 13 (by decide)) hf2 rfl 0 (by decide) (hts _ (mT wg_290)) (fun x9 h9 => u_same (hts _ (mT wg_291)) x9 h9) rfl dX6_choose_2 ?_
  refine lv_aload_n hx hb dX6_choose_5 rfl (lv_at hl 0 rfl) ?_
  refine pl_get (v := .int v1_1) hx hb hts (fun w h => mT (inX6 w h)) hown hG.1 hP (hst.1 13 (by decide)) hf2 rfl 1 (by decide) (hts _ (mT wg_293)) (fun x9 h9 => u_same (hts _ (mT wg_294)) x9 h9) rfl dX6_choose_6 ?_
  refine lv_iload_n hx hb dX6_choose_9 rfl (lv_at hl 2 rfl) ?_
  refine lv_iload_n hx hb dX6_choose_10 rfl (lv_at hl 3 rfl) ?_
  obtain ⟨v0_3, v1_3, v2_3, v3_3, v4_3, v5_3, v6_3, v7_3, v8_3, hf4, hv1_3, hg1_3, hv2_3, hg2_3, hv6_3⟩ := hT.2.1 j hj 0 (by decide)
  refine call_i (run_VN (rm := rm_X3_saidLetter) hx hb hml hown hts (s_X3_saidLetter l g ad th _ _ _ j v0_1 v1_1 z2 z3 hst hT hj) cV_X3_saidLetter wn_819 ⟨Nat.le_of_ble_eq_true rfl, Nat.le_of_ble_eq_true rfl⟩ hG hE hA hP hD hS (hst.c hj (by decide)) hf4 rfl rfl hl.1 (As := [.int v0_1, .int v1_1, .int z2, .int z3]) (rest := []) rfl (Nat.le_of_ble_eq_true rfl) dX6_choose_11 ⟨Nat.le_of_ble_eq_true rfl, Nat.le_of_ble_eq_true rfl⟩) hA hD hS (fun r5 L6 f7 H locs hp8 hP hD hS => ?_)
  obtain ⟨eL9L, eL9T⟩ := hp8
  have eL9L : L6 = L := eL9L
  have eL9T : f7 = f := eL9T
  rw [eL9L, eL9T] at hP hD
  refine lv_istore (lv' := [(5, .int r5), (0, .ref (ad 13)), (1, .ref (cr ad j 0)), (2, .int z2), (3, .int z3), (4, .int z4)]) hx hb dX6_choose_14 hl (by decide) rfl (fun ls hl => ?_)
  refine lv_iload hx hb dX6_choose_16 (lv_at hl 0 rfl) ?_
  refine lv_iconst (v := (-1)) hx hb dX6_choose_18 (by decide) ?_
  refine lv_icmp_eq (tgt := 25) hx hb dX6_choose_19 (by decide) (fun c10 => ?_) (fun c10 => ?_)
  ·
    have cc11 : r5.toInt = ((-1) : Int32).toInt := congrArg Int32.toInt c10
    have hb12 : In r5 (-1) (-1) := In.eq1 (In.full r5) (⟨by decide, by decide⟩ : In (-1) (-1) (-1)) cc11 (by omega) (by omega)
    refine lv_aload_n hx hb dX6_choose_25 rfl (lv_at hl 1 rfl) ?_
    refine pl_get (v := .ref (ad 11)) hx hb hts (fun w h => mT (inX6 w h)) hown hG.1 hP (hst.1 13 (by decide)) hf2 rfl 2 (by decide) (hts _ (mT wg_288)) (fun _ h => h) rfl dX6_choose_26 ?_
    refine lv_aload_n hx hb dX6_choose_29 rfl (lv_at hl 1 rfl) ?_
    refine pl_get (v := .int v0_1) hx hb hts (fun w h => mT (inX6 w h)) hown hG.1 hP (hst.1 13 (by decide)) hf2 rfl 0 (by decide) (hts _ (mT wg_290)) (fun x9 h9 => u_same (hts _ (mT wg_291)) x9 h9) rfl dX6_choose_30 ?_
    refine lv_aload_n hx hb dX6_choose_33 rfl (lv_at hl 1 rfl) ?_
    refine pl_get (v := .int v1_1) hx hb hts (fun w h => mT (inX6 w h)) hown hG.1 hP (hst.1 13 (by decide)) hf2 rfl 1 (by decide) (hts _ (mT wg_293)) (fun x9 h9 => u_same (hts _ (mT wg_294)) x9 h9) rfl dX6_choose_34 ?_
    refine lv_iload_n hx hb dX6_choose_37 rfl (lv_at hl 3 rfl) ?_
    refine lv_iload_n hx hb dX6_choose_38 rfl (lv_at hl 4 rfl) ?_
    obtain ⟨v1_13, hf14, hv1_13⟩ := hT.1 11 (by decide)
    refine call_i (run_VN (rm := rm_X5_actFor) hx hb hml hown hts (s_X5_actFor l g ad th _ _ _ v0_1 v1_1 z2 z3 hst hT ) cV_X5_actFor wn_826 ⟨Nat.le_of_ble_eq_true rfl, Nat.le_of_ble_eq_true rfl⟩ hG hE hA hP hD hS (hst.1 11 (by decide)) hf14 rfl rfl hl.1 (As := [.int v0_1, .int v1_1, .int z2, .int z3]) (rest := []) rfl (Nat.le_of_ble_eq_true rfl) dX6_choose_39 ⟨Nat.le_of_ble_eq_true rfl, Nat.le_of_ble_eq_true rfl⟩) hA hD hS (fun r15 L16 f17 H locs hp18 hP hD hS => ?_)
    obtain ⟨eL19L, eL19T⟩ := hp18
    have eL19L : L16 = L := eL19L
    have eL19T : f17 = f := eL19T
    rw [eL19L, eL19T] at hP hD
    refine lv_istore (lv' := [(6, .int r15), (5, .int r5), (0, .ref (ad 13)), (1, .ref (cr ad j 0)), (2, .int z2), (3, .int z3), (4, .int z4)]) hx hb dX6_choose_42 hl (by decide) rfl (fun ls hl => ?_)
    refine lv_iload hx hb dX6_choose_44 (lv_at hl 0 rfl) ?_
    by_cases c20 : r15 = 3
    ·
      refine lv_tableIn (off := 30) (tgt := 76) hx hb dX6_choose_46 (by rw [c20]; decide) (by rw [c20]; decide) (by rw [c20]; decide) (by decide) ?_
      have hb21 : In r15 3 3 := by rw [c20]; exact ⟨by decide, by decide⟩
      refine lv_iload hx hb dX6_choose_76 (lv_at hl 6 rfl) ?_
      exact ret_i (ty := .int) hx hb hr hlocks (rfl) hP hD hS (Nat.le_of_ble_eq_true rfl) (Nat.le_of_ble_eq_true rfl) (⟨rfl, hT, hfr⟩) dX6_choose_78
    by_cases c22 : r15 = 4
    ·
      refine lv_tableIn (off := 33) (tgt := 79) hx hb dX6_choose_46 (by rw [c22]; decide) (by rw [c22]; decide) (by rw [c22]; decide) (by decide) ?_
      have hb23 : In r15 4 4 := by rw [c22]; exact ⟨by decide, by decide⟩
      refine lv_iload hx hb dX6_choose_79 (lv_at hl 6 rfl) ?_
      refine lv_iconst (v := 2) hx hb dX6_choose_81 (by decide) ?_
      refine lv_icmp_ne (tgt := 89) hx hb dX6_choose_82 (by decide) (fun c24 => ?_) (fun c24 => ?_)
      ·
        refine lv_iconst (v := 1) hx hb dX6_choose_89 (by decide) ?_
        refine lv_iload hx hb dX6_choose_90 (lv_at hl 6 rfl) ?_
        refine lv_isub hx hb dX6_choose_92 ?_
        refine lv_topi (fun x25 ex25 => ?_)
        exact ret_i (ty := .int) hx hb hr hlocks (rfl) hP hD hS (Nat.le_of_ble_eq_true rfl) (Nat.le_of_ble_eq_true rfl) (⟨rfl, hT, hfr⟩) dX6_choose_93
      ·
        have cc26 : z4.toInt = (2 : Int32).toInt := congrArg Int32.toInt c24
        have hb27 : In z4 2 2 := In.eq1 (In.full z4) (⟨by decide, by decide⟩ : In 2 2 2) cc26 (by omega) (by omega)
        refine lv_iconst (v := 2) hx hb dX6_choose_85 (by decide) ?_
        refine lv_goto (tgt := 93) hx hb dX6_choose_86 (by decide) ?_
        exact ret_i (ty := .int) hx hb hr hlocks (rfl) hP hD hS (Nat.le_of_ble_eq_true rfl) (Nat.le_of_ble_eq_true rfl) (⟨rfl, hT, hfr⟩) dX6_choose_93
    by_cases c28 : r15 = 5
    ·
      refine lv_tableIn (off := 48) (tgt := 94) hx hb dX6_choose_46 (by rw [c28]; decide) (by rw [c28]; decide) (by rw [c28]; decide) (by decide) ?_
      have hb29 : In r15 5 5 := by rw [c28]; exact ⟨by decide, by decide⟩
      refine lv_iload_n hx hb dX6_choose_94 rfl (lv_at hl 5 rfl) ?_
      refine lv_iconst (v := 2) hx hb dX6_choose_95 (by decide) ?_
      refine lv_irem hx hb dX6_choose_96 (In.ne0 (⟨by decide, by decide⟩ : In 2 2 2) (by decide)) ?_
      refine lv_topi (fun x30 ex30 => ?_)
      exact ret_i (ty := .int) hx hb hr hlocks (rfl) hP hD hS (Nat.le_of_ble_eq_true rfl) (Nat.le_of_ble_eq_true rfl) (⟨rfl, hT, hfr⟩) dX6_choose_97
    by_cases c31 : r15 = 6
    ·
      refine lv_tableIn (off := 52) (tgt := 98) hx hb dX6_choose_46 (by rw [c31]; decide) (by rw [c31]; decide) (by rw [c31]; decide) (by decide) ?_
      have hb32 : In r15 6 6 := by rw [c31]; exact ⟨by decide, by decide⟩
      refine lv_aload_n hx hb dX6_choose_98 rfl (lv_at hl 3 rfl) ?_
      refine call_i (run_VN (rm := rm_X3_draw) hx hb hml hown hts (s_X3_draw l g ad th _ _ _ j hst hT hj) cV_X3_draw wn_830 ⟨Nat.le_of_ble_eq_true rfl, Nat.le_of_ble_eq_true rfl⟩ hG hE hA hP hD hS (hst.c hj (by decide)) hf4 rfl rfl hl.1 (As := []) (rest := []) rfl (Nat.le_of_ble_eq_true rfl) dX6_choose_99 ⟨Nat.le_of_ble_eq_true rfl, Nat.le_of_ble_eq_true rfl⟩) hA hD hS (fun r33 L34 f35 H locs hp36 hP hD hS => ?_)
      obtain ⟨eL37L, eL37T, eL37F⟩ := hp36
      have eL37L : L34 = L := eL37L
      rw [eL37L] at hP hD
      have hT : TI g ad th f35 := eL37T
      have eL37F : ∀ b, b ≠ (cr ad j 0) → f35 b = f b := eL37F
      have hf38 := (eL37F (ad 13) (hst.ne (by omega) (by omega) (by omega))).trans hf2
      have hf39 := (eL37F (ad 11) (hst.ne (by omega) (by omega) (by omega))).trans hf14
      have hfr : (∀ b, b ≠ (cr ad j 0) → f35 b = f b) := fun b z0_ => (eL37F b z0_).trans (hfr b z0_)
      exact ret_i (ty := .int) hx hb hr hlocks (rfl) hP hD hS (Nat.le_of_ble_eq_true rfl) (Nat.le_of_ble_eq_true rfl) (⟨rfl, hT, hfr⟩) dX6_choose_102
    refine lv_tableOut (tgt := 103) hx hb dX6_choose_46 (tb_out (by decide) (by decide) (fun k h1 h2 => ?_)) (by decide) ?_
    · rcases (show k = 3 ∨ k = 4 ∨ k = 5 ∨ k = 6 by omega) with rfl | rfl | rfl | rfl
      · exact fun e => c20 (e.trans (by decide))
      · exact fun e => c22 (e.trans (by decide))
      · exact fun e => c28 (e.trans (by decide))
      · exact fun e => c31 (e.trans (by decide))
    ·
      refine lv_iload hx hb dX6_choose_103 (lv_at hl 0 rfl) ?_
      exact ret_i (ty := .int) hx hb hr hlocks (rfl) hP hD hS (Nat.le_of_ble_eq_true rfl) (Nat.le_of_ble_eq_true rfl) (⟨rfl, hT, hfr⟩) dX6_choose_105
  ·
    refine lv_iload hx hb dX6_choose_22 (lv_at hl 0 rfl) ?_
    exact ret_i (ty := .int) hx hb hr hlocks (rfl) hP hD hS (Nat.le_of_ble_eq_true rfl) (Nat.le_of_ble_eq_true rfl) (⟨rfl, hT, hfr⟩) dX6_choose_24

abbrev rm_X1_choose : Room := { frames := 1, cells := 0, slots := 0, locals := 20 }
abbrev po_X1_choose (g : GG) (ad : Nat → Nat) (th : Nat → Int) (L : List Nat) (f : HP) (j : Nat) (z2 : Int32) (z3 : Int32) (z4 : Int32) : Int32 → (List Nat × HP) → Prop := fun r u => u.1 = L ∧ TI g ad th u.2 ∧ (∀ b, b ≠ (cr ad j 0) → u.2 b = f b)
set_option maxHeartbeats 4000000 in
set_option maxRecDepth 100000 in
theorem s_X1_choose (l : Launch) (g : GG) (ad : Nat → Nat) (th : Nat → Int) (L : List Nat) (f : HP) (sz : Nat) (j : Nat) (z2 : Int32) (z3 : Int32) (z4 : Int32) (hst : ST ad L) (hT : TI g ad th f) (hj : j < 23) : MtI l g yX1_choose cX1_choose 5 (some .int) rm_X1_choose [.ref (ad 14), .ref (cr ad j 0), .int z2, .int z3, .int z4] L f sz (po_X1_choose g ad th L f j z2 z3 z4) := by
  refine MtI.of (by decide +kernel) (Nat.le_of_ble_eq_true rfl) ?_
  intro p e s m below meth c A hEn hP hD hS ls hl
  obtain ⟨hx, hb, hr, hml, hown, hlocks, hts, hG, hA, hE, hnm⟩ := hEn
  have hown : s.vm.findClass "RulerWord$Chance" = some m.cls := hown
  have hl : lv_has ls 5 [(0, .ref (ad 14)), (1, .ref (cr ad j 0)), (2, .int z2), (3, .int z3), (4, .int z4)] := hl
  have hfr : (∀ b, b ≠ (cr ad j 0) → f b = f b) := fun b z0_ => rfl
  refine lv_aload_n hx hb dX1_choose_0 rfl (lv_at hl 1 rfl) ?_
  obtain ⟨v0_1, v1_1, v2_1, v3_1, v4_1, v5_1, v6_1, v7_1, v8_1, hf2, hv1_1, hg1_1, hv2_1, hg2_1, hv6_1⟩ := hT.2.1 j hj 0 (by decide)
  refine call_i (run_VN (rm := rm_X3_draw) hx hb hml hown hts (s_X3_draw l g ad th _ _ _ j hst hT hj) cV_X3_draw wn_805 ⟨Nat.le_of_ble_eq_true rfl, Nat.le_of_ble_eq_true rfl⟩ hG hE hA hP hD hS (hst.c hj (by decide)) hf2 rfl rfl hl.1 (As := []) (rest := []) rfl (Nat.le_of_ble_eq_true rfl) dX1_choose_1 ⟨Nat.le_of_ble_eq_true rfl, Nat.le_of_ble_eq_true rfl⟩) hA hD hS (fun r3 L4 f5 H locs hp6 hP hD hS => ?_)
  obtain ⟨eL7L, eL7T, eL7F⟩ := hp6
  have eL7L : L4 = L := eL7L
  rw [eL7L] at hP hD
  have hT : TI g ad th f5 := eL7T
  have eL7F : ∀ b, b ≠ (cr ad j 0) → f5 b = f b := eL7F
  have hfr : (∀ b, b ≠ (cr ad j 0) → f5 b = f b) := fun b z0_ => (eL7F b z0_).trans (hfr b z0_)
  exact ret_i (ty := .int) hx hb hr hlocks (rfl) hP hD hS (Nat.le_of_ble_eq_true rfl) (Nat.le_of_ble_eq_true rfl) (⟨rfl, hT, hfr⟩) dX1_choose_4

abbrev rm_X4_choose : Room := { frames := 1, cells := 0, slots := 0, locals := 21 }
abbrev po_X4_choose (g : GG) (ad : Nat → Nat) (th : Nat → Int) (L : List Nat) (f : HP) (j : Nat) (z2 : Int32) (z3 : Int32) (z4 : Int32) : Int32 → (List Nat × HP) → Prop := fun r u => u.1 = L ∧ TI g ad th u.2 ∧ (∀ b, b ≠ (ad 15) → u.2 b = f b)
set_option maxHeartbeats 4000000 in
set_option maxRecDepth 100000 in
theorem s_X4_choose (l : Launch) (g : GG) (ad : Nat → Nat) (th : Nat → Int) (L : List Nat) (f : HP) (sz : Nat) (j : Nat) (z2 : Int32) (z3 : Int32) (z4 : Int32) (hst : ST ad L) (hT : TI g ad th f) (hj : j < 23) : MtI l g yX4_choose cX4_choose 6 (some .int) rm_X4_choose [.ref (ad 15), .ref (cr ad j 0), .int z2, .int z3, .int z4] L f sz (po_X4_choose g ad th L f j z2 z3 z4) := by
  refine MtI.of (by decide +kernel) (Nat.le_of_ble_eq_true rfl) ?_
  intro p e s m below meth c A hEn hP hD hS ls hl
  obtain ⟨hx, hb, hr, hml, hown, hlocks, hts, hG, hA, hE, hnm⟩ := hEn
  have hown : s.vm.findClass "RulerWord$Free" = some m.cls := hown
  have hl : lv_has ls 6 [(0, .ref (ad 15)), (1, .ref (cr ad j 0)), (2, .int z2), (3, .int z3), (4, .int z4)] := hl
  have hfr : (∀ b, b ≠ (ad 15) → f b = f b) := fun b z0_ => rfl
  refine lv_aload_n hx hb dX4_choose_0 rfl (lv_at hl 1 rfl) ?_
  obtain ⟨v0_1, v1_1, v2_1, v3_1, v4_1, v5_1, v6_1, v7_1, v8_1, hf2, hv1_1, hg1_1, hv2_1, hg2_1, hv6_1⟩ := hT.2.1 j hj 0 (by decide)
  refine pl_getN (v := .int v1_1) hx hb hts (fun w h => mT (inX3 w h)) hown hG.1 hP (hst.c hj (by decide)) hf2 rfl 1 (by decide) (hG.2.1 _ wn_337) (fun _ h => h) rfl dX4_choose_1 ?_
  refine lv_iload_n hx hb dX4_choose_4 rfl (lv_at hl 3 rfl) ?_
  refine call_i (run_SN (rm := rm_X10_bit) hx hb hml hown hts (s_X10_bit l g ad th _ _ _ v1_1 z3 hst hT ) cS_X10_bit wn_815 ⟨Nat.le_of_ble_eq_true rfl, Nat.le_of_ble_eq_true rfl⟩ hG hE hA hP hD hS rfl hl.1 (As := [.int v1_1, .int z3]) (rest := []) rfl (Nat.le_of_ble_eq_true rfl) dX4_choose_5 ⟨Nat.le_of_ble_eq_true rfl, Nat.le_of_ble_eq_true rfl⟩) hA hD hS (fun r3 L4 f5 H locs hp6 hP hD hS => ?_)
  obtain ⟨eL7L, eL7T, eL7R, eL7X0⟩ := hp6
  have eL7L : L4 = L := eL7L
  have eL7T : f5 = f := eL7T
  rw [eL7L, eL7T] at hP hD
  have eL7R : In r3 0 1 := eL7R
  refine lv_iconst (v := 1) hx hb dX4_choose_8 (by decide) ?_
  refine lv_icmp_ne (tgt := 15) hx hb dX4_choose_9 (by decide) (fun c8 => ?_) (fun c8 => ?_)
  ·
    have cc9 : r3.toInt ≠ (1 : Int32).toInt := i32_ne c8
    have hb10 : In r3 0 0 := In.ne1 eL7R (⟨by decide, by decide⟩ : In 1 1 1) cc9 (by omega) (by omega)
    refine lv_aload_n hx hb dX4_choose_15 rfl (lv_at hl 0 rfl) ?_
    obtain ⟨v0_11, v1_11, v2_11, v3_11, hf12, hv0_11, hv1_11⟩ := hT.1 15 (by decide)
    refine pl_get (v := .int v2_11) hx hb hts (fun w h => mT (inX4 w h)) hown hG.1 hP (hst.1 15 (by decide)) hf12 rfl 2 (by decide) (hts _ (mT wg_318)) (fun _ h => h) rfl dX4_choose_16 ?_
    refine lv_aload_n hx hb dX4_choose_19 rfl (lv_at hl 0 rfl) ?_
    refine pl_get (v := .int v3_11) hx hb hts (fun w h => mT (inX4 w h)) hown hG.1 hP (hst.1 15 (by decide)) hf12 rfl 3 (by decide) (hts _ (mT wg_320)) (fun _ h => h) rfl dX4_choose_20 ?_
    refine call_i (run_SN (rm := rm_X10_bit) hx hb hml hown hts (s_X10_bit l g ad th _ _ _ v2_11 v3_11 hst hT ) cS_X10_bit wn_815 ⟨Nat.le_of_ble_eq_true rfl, Nat.le_of_ble_eq_true rfl⟩ hG hE hA hP hD hS rfl hl.1 (As := [.int v2_11, .int v3_11]) (rest := []) rfl (Nat.le_of_ble_eq_true rfl) dX4_choose_23 ⟨Nat.le_of_ble_eq_true rfl, Nat.le_of_ble_eq_true rfl⟩) hA hD hS (fun r13 L14 f15 H locs hp16 hP hD hS => ?_)
    obtain ⟨eL17L, eL17T, eL17R, eL17X0⟩ := hp16
    have eL17L : L14 = L := eL17L
    have eL17T : f15 = f := eL17T
    rw [eL17L, eL17T] at hP hD
    have eL17R : In r13 0 1 := eL17R
    refine lv_istore (lv' := [(5, .int r13), (0, .ref (ad 15)), (1, .ref (cr ad j 0)), (2, .int z2), (3, .int z3), (4, .int z4)]) hx hb dX4_choose_26 hl (by decide) rfl (fun ls hl => ?_)
    refine lv_aload_n hx hb dX4_choose_28 rfl (lv_at hl 1 rfl) ?_
    refine lv_dup hx hb dX4_choose_29 rfl ?_
    refine pl_get (v := .int v3_11) hx hb hts (fun w h => mT (inX4 w h)) hown hG.1 hP (hst.1 15 (by decide)) hf12 rfl 3 (by decide) (hts _ (mT wg_320)) (fun _ h => h) rfl dX4_choose_30 ?_
    refine lv_iconst (v := 1) hx hb dX4_choose_33 (by decide) ?_
    refine lv_iadd hx hb dX4_choose_34 ?_
    refine lv_topi (fun x18 ex18 => ?_)
    refine pl_put (ty := .int) (v := .int x18) (fs' := [.int v0_11, .int v1_11, .int v2_11, .int x18]) hx hb hts (fun w h => mT (inX4 w h)) tyX4 tyX4_ok nmX4 hown hG.1 hP hD hS (hst.1 15 (by decide)) hf12 rfl 3 (by decide) (hts _ (mT wg_320)) (fun _ h => h) rfl (by decide +kernel) (rfl) (rfl) (Nat.le_of_ble_eq_true rfl) rfl dX4_choose_35 (fun H locs f19 hf20 ho21 hP hD hS => ?_)
    have hf22 := (ho21 (cr ad j 0) (hst.ne (by omega) (by omega) (by omega))).trans hf2
    have hfr : (∀ b, b ≠ (ad 15) → f19 b = f b) := fun b z0_ => (ho21 b z0_).trans (hfr b z0_)
    refine lv_iload hx hb dX4_choose_38 (lv_at hl 0 rfl) ?_
    have hT := TI.updA hT hst (k := 15) (by decide) hf20 ho21 ⟨v0_11, v1_11, v2_11, x18, rfl, hv0_11, hv1_11⟩
    exact ret_i (ty := .int) hx hb hr hlocks (rfl) hP hD hS (Nat.le_of_ble_eq_true rfl) (Nat.le_of_ble_eq_true rfl) (⟨rfl, hT, hfr⟩) dX4_choose_40
  ·
    have cc23 : r3.toInt = (1 : Int32).toInt := congrArg Int32.toInt c8
    have hb24 : In r3 1 1 := In.eq1 eL7R (⟨by decide, by decide⟩ : In 1 1 1) cc23 (by omega) (by omega)
    refine lv_iload hx hb dX4_choose_12 (lv_at hl 4 rfl) ?_
    exact ret_i (ty := .int) hx hb hr hlocks (rfl) hP hD hS (Nat.le_of_ble_eq_true rfl) (Nat.le_of_ble_eq_true rfl) (⟨rfl, hT, hfr⟩) dX4_choose_14

abbrev rm_X3_rowOf_co_pn : Room := { frames := 3, cells := 0, slots := 0, locals := 75 }
abbrev po_X3_rowOf_co_pn (g : GG) (ad : Nat → Nat) (th : Nat → Int) (L : List Nat) (f : HP) (j : Nat) (z3 : Int32) : Int64 → (List Nat × HP) → Prop := fun r u => u.1 = L ∧ TI g ad th u.2 ∧ (∀ b, b ≠ (cr ad j 0) → u.2 b = f b)
set_option maxHeartbeats 4000000 in
set_option maxRecDepth 100000 in
theorem s_X3_rowOf_co_pn (l : Launch) (g : GG) (ad : Nat → Nat) (th : Nat → Int) (L : List Nat) (f : HP) (sz : Nat) (j : Nat) (z3 : Int32) (hst : ST ad L) (hT : TI g ad th f) (hj : j < 23) (hz3 : In z3 0 8) : MtL l g yX3_rowOf cX3_rowOf 8 (some .long) rm_X3_rowOf_co_pn [.ref (cr ad j 0), .ref (ad 6), .ref (ad 13), .int z3] L f sz (po_X3_rowOf_co_pn g ad th L f j z3) := by
  refine MtL.of (by decide +kernel) (Nat.le_of_ble_eq_true rfl) ?_
  intro p e s m below meth c A hEn hP hD hS ls hl
  obtain ⟨hx, hb, hr, hml, hown, hlocks, hts, hG, hA, hE, hnm⟩ := hEn
  have hown : s.vm.findClass "RulerWord$Course" = some m.cls := hown
  have hl : lv_has ls 8 [(0, .ref (cr ad j 0)), (1, .ref (ad 6)), (2, .ref (ad 13)), (3, .int z3)] := hl
  have hfr : (∀ b, b ≠ (cr ad j 0) → f b = f b) := fun b z0_ => rfl
  refine lv_aload_n hx hb dX3_rowOf_0 rfl (lv_at hl 0 rfl) ?_
  refine lv_aload_n hx hb dX3_rowOf_1 rfl (lv_at hl 1 rfl) ?_
  refine lv_aload_n hx hb dX3_rowOf_2 rfl (lv_at hl 2 rfl) ?_
  refine lv_iload_n hx hb dX3_rowOf_3 rfl (lv_at hl 3 rfl) ?_
  obtain ⟨v0_1, v1_1, v2_1, v3_1, v4_1, v5_1, v6_1, v7_1, v8_1, hf2, hv1_1, hg1_1, hv2_1, hg2_1, hv6_1⟩ := hT.2.1 j hj 0 (by decide)
  refine call_i (run_V (rm := rm_X3_trueLetter_co_pn) hx hb hml hown hts (s_X3_trueLetter_co_pn l g ad th _ _ _ j z3 hst hT hj) cV_X3_trueLetter wg_790 ⟨Nat.le_of_ble_eq_true rfl, Nat.le_of_ble_eq_true rfl⟩ hG hE hA hP hD hS (hst.c hj (by decide)) hf2 rfl rfl hl.1 (As := [.ref (ad 6), .ref (ad 13), .int z3]) (rest := []) rfl (Nat.le_of_ble_eq_true rfl) dX3_rowOf_4 ⟨Nat.le_of_ble_eq_true rfl, Nat.le_of_ble_eq_true rfl⟩) hA hD hS (fun r3 L4 f5 H locs hp6 hP hD hS => ?_)
  obtain ⟨eL7L, eL7T⟩ := hp6
  have eL7L : L4 = L := eL7L
  have eL7T : f5 = f := eL7T
  rw [eL7L, eL7T] at hP hD
  refine lv_istore (lv' := [(4, .int r3), (0, .ref (cr ad j 0)), (1, .ref (ad 6)), (2, .ref (ad 13)), (3, .int z3)]) hx hb dX3_rowOf_7 hl (by decide) rfl (fun ls hl => ?_)
  refine lv_aload_n hx hb dX3_rowOf_9 rfl (lv_at hl 1 rfl) ?_
  refine pl_get (v := .int v1_1) hx hb hts (fun w h => mT (inX3 w h)) hown hG.1 hP (hst.c hj (by decide)) hf2 rfl 1 (by decide) (hts _ (mT wg_338)) (fun _ h => h) rfl dX3_rowOf_10 ?_
  refine lv_iload_n hx hb dX3_rowOf_13 rfl (lv_at hl 4 rfl) ?_
  refine call_i (run_SN (rm := rm_X10_bit) hx hb hml hown hts (s_X10_bit l g ad th _ _ _ v1_1 z3 hst hT ) cS_X10_bit wn_794 ⟨Nat.le_of_ble_eq_true rfl, Nat.le_of_ble_eq_true rfl⟩ hG hE hA hP hD hS rfl hl.1 (As := [.int v1_1, .int z3]) (rest := []) rfl (Nat.le_of_ble_eq_true rfl) dX3_rowOf_14 ⟨Nat.le_of_ble_eq_true rfl, Nat.le_of_ble_eq_true rfl⟩) hA hD hS (fun r8 L9 f10 H locs hp11 hP hD hS => ?_)
  obtain ⟨eL12L, eL12T, eL12R, eL12X0⟩ := hp11
  have eL12L : L9 = L := eL12L
  have eL12T : f10 = f := eL12T
  rw [eL12L, eL12T] at hP hD
  have eL12R : In r8 0 1 := eL12R
  refine lv_if_ne (tgt := 28) hx hb dX3_rowOf_17 (by decide) (fun c13 => ?_) (fun c13 => ?_)
  ·
    have cc14 : r8.toInt ≠ (0 : Int32).toInt := i32_ne c13
    have hb15 : In r8 1 1 := In.ne1 eL12R (⟨by decide, by decide⟩ : In 0 0 0) cc14 (by omega) (by omega)
    refine lv_lconst (v := 0) hx hb dX3_rowOf_28 (by decide) ?_
    refine lv_lstore (lv' := [(5, .long 0), (4, .int r3), (0, .ref (cr ad j 0)), (1, .ref (ad 6)), (2, .ref (ad 13)), (3, .int z3)]) hx hb dX3_rowOf_29 hl (by decide) rfl (fun ls hl => ?_)
    refine lv_iconst (v := 0) hx hb dX3_rowOf_31 (by decide) ?_
    refine lv_istore (lv' := [(7, .int 0), (5, .long 0), (4, .int r3), (0, .ref (cr ad j 0)), (1, .ref (ad 6)), (2, .ref (ad 13)), (3, .int z3)]) hx hb dX3_rowOf_32 hl (by decide) rfl (fun ls hl => ?_)
    have hJ34 : ∀ (k34 : Nat) (y34_l5 : Int64) (y34_l7 : Int32) (f_34 : HP) (H : Heap) (locs : List Loc) (ls : Array Slot), In y34_l7 0 9 → va_P g.1 vwCl (va_pl L f_34) H → va_D A (va_pl L f_34) → va_S A s.heap H locs → TI g ad th f_34 → (∀ b, b ≠ (cr ad j 0) → f_34 b = f b) → lv_has ls 8 [(0, .ref (cr ad j 0)), (1, .ref (ad 6)), (2, .ref (ad 13)), (3, .int z3), (4, .int r3), (5, .long y34_l5), (7, .int y34_l7)] → 9 - y34_l7.toInt < ((k34 : Nat) : Int) → W p l e rm_X3_rowOf_co_pn s m [.ref (cr ad j 0), .ref (ad 6), .ref (ad 13), .int z3].toArray below meth c H locs 0 0 (MQ below (va_Ql (po_X3_rowOf_co_pn g ad th L f j z3) (PstB g A) A) [.ref (cr ad j 0), .ref (ad 6), .ref (ad 13), .int z3].toArray s rm_X3_rowOf_co_pn.cells rm_X3_rowOf_co_pn.slots A) (F0 m 34 ls []) := by
      intro k34
      induction k34 with
      | zero =>
        intro y34_l5 y34_l7 f_34 H locs ls hy34_l7 hP hD hS hT hfr hl hmz34
        exact ms0 hy34_l7 hmz34
      | succ k34 ih34 =>
        intro y34_l5 y34_l7 f_34 H locs ls hy34_l7 hP hD hS hT hfr hl hmz34
        refine lv_iload hx hb dX3_rowOf_34 (lv_at hl 6 rfl) ?_
        refine lv_aload_n hx hb dX3_rowOf_36 rfl (lv_at hl 1 rfl) ?_
        obtain ⟨v0_16, v1_16, v2_16, v3_16, v4_16, v5_16, v6_16, v7_16, hf17, hv0_16, hg0_16, hv1_16, hg1_16, hv2_16, hv3_16, hv5_16, hv6_16, hrel0_16⟩ := hT.1 6 (by decide)
        refine pl_getN (v := .int v1_16) hx hb hts (fun w h => mT (inX2 w h)) hown hG.1 hP (hst.1 6 (by decide)) hf17 rfl 1 (by decide) (hG.2.1 _ wn_231) (fun _ h => h) rfl dX3_rowOf_37 ?_
        refine lv_icmp_ge (tgt := 70) hx hb dX3_rowOf_40 (by decide) (fun c18 => ?_) (fun c18 => ?_)
        ·
          refine lv_lload hx hb dX3_rowOf_70 (lv_at hl 5 rfl) ?_
          exact ret_l hx hb hr hlocks hP hD hS (Nat.le_of_ble_eq_true rfl) (Nat.le_of_ble_eq_true rfl) (⟨rfl, hT, hfr⟩) dX3_rowOf_72
        ·
          have cc19 : y34_l7.toInt < v1_16.toInt := i32_nle c18
          have hb20 : In y34_l7 0 8 := In.lt1 hy34_l7 hv1_16 cc19 (by omega) (by omega)
          have hb21 : In v1_16 1 9 := In.lt2 hy34_l7 hv1_16 cc19 (by omega) (by omega)
          refine lv_lload hx hb dX3_rowOf_43 (lv_at hl 5 rfl) ?_
          refine lv_aload_n hx hb dX3_rowOf_45 rfl (lv_at hl 2 rfl) ?_
          refine lv_aload_n hx hb dX3_rowOf_46 rfl (lv_at hl 0 rfl) ?_
          refine lv_iload_n hx hb dX3_rowOf_47 rfl (lv_at hl 3 rfl) ?_
          refine lv_iload hx hb dX3_rowOf_48 (lv_at hl 6 rfl) ?_
          refine lv_iload hx hb dX3_rowOf_50 (lv_at hl 4 rfl) ?_
          obtain ⟨v0_22, v1_22, hf23, hv0_22, hv1_22⟩ := hT.1 13 (by decide)
          refine call_i (run_VA (rm := rm_X6_choose) (owner := "RulerWord$Voice") hx hb hml hown hts (s_X6_choose l g ad th _ _ _ j z3 y34_l7 r3 hst hT hj) (mG 818 (by decide +kernel) rfl) wg_799 wg_801 wg_816 wg_817 wg_162 wn_800 ⟨by decide +kernel, by decide +kernel, by decide +kernel⟩ ⟨Nat.le_of_ble_eq_true rfl, Nat.le_of_ble_eq_true rfl⟩ hG hE hA hP hD hS (hst.1 13 (by decide)) hf23 rfl rfl hl.1 (n := 4) (As := [.ref (cr ad j 0), .int z3, .int y34_l7, .int r3]) (rest := [.long y34_l5]) rfl (Nat.le_of_ble_eq_true rfl) dX3_rowOf_52 ⟨Nat.le_of_ble_eq_true rfl, Nat.le_of_ble_eq_true rfl⟩) hA hD hS (fun r24 L25 f26 H locs hp27 hP hD hS => ?_)
          obtain ⟨eL28L, eL28T, eL28F⟩ := hp27
          have eL28L : L25 = L := eL28L
          rw [eL28L] at hP hD
          have hT : TI g ad th f26 := eL28T
          have eL28F : ∀ b, b ≠ (cr ad j 0) → f26 b = f_34 b := eL28F
          have hf29 := (eL28F (ad 6) (hst.ne (by omega) (by omega) (by omega))).trans hf17
          have hf30 := (eL28F (ad 13) (hst.ne (by omega) (by omega) (by omega))).trans hf23
          have hfr : (∀ b, b ≠ (cr ad j 0) → f26 b = f b) := fun b z0_ => (eL28F b z0_).trans (hfr b z0_)
          refine lv_i2l hx hb dX3_rowOf_55 rfl ?_
          refine lv_iconst (v := 4) hx hb dX3_rowOf_56 (by decide) ?_
          refine lv_iload hx hb dX3_rowOf_57 (lv_at hl 6 rfl) ?_
          refine lv_imul hx hb dX3_rowOf_59 ?_
          refine lv_topi (fun x31 ex31 => ?_)
          have hb32 : In x31 0 32 := ex31 ▸ In.mul (⟨by decide, by decide⟩ : In 4 4 4) hb20 (by decide) (by decide) (by decide) (by decide) (by decide)
          refine lv_lshl hx hb dX3_rowOf_60 rfl ?_
          refine lv_topl (fun x33 ex33 => ?_)
          refine lv_lor hx hb dX3_rowOf_61 ?_
          refine lv_topl (fun x34 ex34 => ?_)
          refine lv_lstore (lv' := [(5, .long x34), (0, .ref (cr ad j 0)), (1, .ref (ad 6)), (2, .ref (ad 13)), (3, .int z3), (4, .int r3), (7, .int y34_l7)]) hx hb dX3_rowOf_62 hl (by decide) rfl (fun ls hl => ?_)
          obtain ⟨x35, ex35⟩ : ∃ y : Int32, y = y34_l7 + 1 := ⟨_, rfl⟩
          have hb36 : In x35 1 9 := ex35 ▸ In.add hb20 (⟨by decide, by decide⟩ : In 1 1 1) (by decide) (by decide) (by decide) (by decide)
          have et37 : x35.toInt = y34_l7.toInt + 1 := In.adde ex35 hb20 (k := 1) (by decide) (by decide) (by decide)
          refine lv_iinc (v := x35) (lv' := [(7, .int x35), (5, .long x34), (0, .ref (cr ad j 0)), (1, .ref (ad 6)), (2, .ref (ad 13)), (3, .int z3), (4, .int r3)]) hx hb dX3_rowOf_64 hl (k := 6) rfl (by rw [ex35]; rfl) (by decide) rfl (fun ls hl => ?_)
          refine lv_goto (tgt := 34) hx hb dX3_rowOf_67 (by decide) ?_
          exact ih34 x34 x35 _ _ _ _ (In.mono hb36 (by decide) (by decide)) hP hD hS hT hfr (lv_sub hl [2, 3, 4, 5, 6, 1, 0] rfl) (msu et37 (by decide) hmz34)
    exact hJ34 ((9 - (0 : Int32).toInt).toNat + 1) 0 0 _ _ _ _ (⟨by decide, by decide⟩ : In 0 0 9) hP hD hS hT hfr (lv_sub hl [3, 4, 5, 6, 2, 1, 0] rfl) (msI _)
  ·
    have cc38 : r8.toInt = (0 : Int32).toInt := congrArg Int32.toInt c13
    have hb39 : In r8 0 0 := In.eq1 eL12R (⟨by decide, by decide⟩ : In 0 0 0) cc38 (by omega) (by omega)
    refine lv_iload hx hb dX3_rowOf_20 (lv_at hl 0 rfl) ?_
    refine lv_i2l hx hb dX3_rowOf_22 rfl ?_
    refine lv_ldc2 hx hb hown (hts _ (mT wg_798)) dX3_rowOf_23 ?_
    refine lv_lmul hx hb dX3_rowOf_26 ?_
    refine lv_topl (fun x40 ex40 => ?_)
    exact ret_l hx hb hr hlocks hP hD hS (Nat.le_of_ble_eq_true rfl) (Nat.le_of_ble_eq_true rfl) (⟨rfl, hT, hfr⟩) dX3_rowOf_27

abbrev rm_X3_send_co_pn : Room := { frames := 4, cells := 0, slots := 0, locals := 102 }
abbrev po_X3_send_co_pn (g : GG) (ad : Nat → Nat) (th : Nat → Int) (L : List Nat) (f : HP) (j : Nat) (z3 : Int32) (z4 : Int32) : (List Nat × HP) → Prop := fun u => u.1 = L ∧ TI g ad th u.2 ∧ (∀ b, b ≠ (cr ad j 0) → b ≠ (cr ad j 2) → b ≠ (cr ad j 3) → b ≠ (cr ad j 4) → u.2 b = f b)
set_option maxHeartbeats 4000000 in
set_option maxRecDepth 100000 in
theorem s_X3_send_co_pn (l : Launch) (g : GG) (ad : Nat → Nat) (th : Nat → Int) (L : List Nat) (f : HP) (sz : Nat) (j : Nat) (z3 : Int32) (z4 : Int32) (hst : ST ad L) (hT : TI g ad th f) (hj : j < 23) (hz3 : In z3 0 8) (hz4 : In z4 (-1) 8) : MtV l g yX3_send cX3_send 10 rm_X3_send_co_pn [.ref (cr ad j 0), .ref (ad 6), .ref (ad 13), .int z3, .int z4] L f sz (po_X3_send_co_pn g ad th L f j z3 z4) := by
  refine MtV.of (by decide +kernel) (Nat.le_of_ble_eq_true rfl) ?_
  intro p e s m below meth c A hEn hP hD hS ls hl
  obtain ⟨hx, hb, hr, hml, hown, hlocks, hts, hG, hA, hE, hnm⟩ := hEn
  have hown : s.vm.findClass "RulerWord$Course" = some m.cls := hown
  have hl : lv_has ls 10 [(0, .ref (cr ad j 0)), (1, .ref (ad 6)), (2, .ref (ad 13)), (3, .int z3), (4, .int z4)] := hl
  have hfr : (∀ b, b ≠ (cr ad j 0) → b ≠ (cr ad j 2) → b ≠ (cr ad j 3) → b ≠ (cr ad j 4) → f b = f b) := fun b z0_ z1_ z2_ z3_ => rfl
  refine lv_aload_n hx hb dX3_send_0 rfl (lv_at hl 2 rfl) ?_
  obtain ⟨v0_1, v1_1, hf2, hv0_1, hv1_1⟩ := hT.1 13 (by decide)
  refine pl_get (v := .int v0_1) hx hb hts (fun w h => mT (inX6 w h)) hown hG.1 hP (hst.1 13 (by decide)) hf2 rfl 0 (by decide) (hts _ (mT wg_292)) (fun _ h => h) rfl dX3_send_1 ?_
  refine lv_iconst (v := 3) hx hb dX3_send_4 (by decide) ?_
  refine lv_imul hx hb dX3_send_5 ?_
  refine lv_topi (fun x3 ex3 => ?_)
  have hb4 : In x3 0 15 := ex3 ▸ In.mul hv0_1 (⟨by decide, by decide⟩ : In 3 3 3) (by decide) (by decide) (by decide) (by decide) (by decide)
  refine lv_aload_n hx hb dX3_send_6 rfl (lv_at hl 2 rfl) ?_
  refine pl_get (v := .int v1_1) hx hb hts (fun w h => mT (inX6 w h)) hown hG.1 hP (hst.1 13 (by decide)) hf2 rfl 1 (by decide) (hts _ (mT wg_295)) (fun _ h => h) rfl dX3_send_7 ?_
  refine lv_iadd hx hb dX3_send_10 ?_
  refine lv_topi (fun x5 ex5 => ?_)
  have hb6 : In x5 0 17 := ex5 ▸ In.add hb4 hv1_1 (by decide) (by decide) (by decide) (by decide)
  have et7 : x5.toInt = x3.toInt + v1_1.toInt := In.add2e ex5 hb4 hv1_1 (by decide) (by decide)
  refine lv_istore (lv' := [(5, .int x5), (0, .ref (cr ad j 0)), (1, .ref (ad 6)), (2, .ref (ad 13)), (3, .int z3), (4, .int z4)]) hx hb dX3_send_11 hl (by decide) rfl (fun ls hl => ?_)
  refine lv_aload_n hx hb dX3_send_13 rfl (lv_at hl 1 rfl) ?_
  obtain ⟨v0_8, v1_8, v2_8, v3_8, v4_8, v5_8, v6_8, v7_8, v8_8, hf9, hv1_8, hg1_8, hv2_8, hg2_8, hv6_8⟩ := hT.2.1 j hj 0 (by decide)
  refine pl_get (v := .ref (cr ad j 3)) hx hb hts (fun w h => mT (inX3 w h)) hown hG.1 hP (hst.c hj (by decide)) hf9 rfl 11 (by decide) (hts _ (mT wg_354)) (fun _ h => h) rfl dX3_send_14 ?_
  refine lv_iload hx hb dX3_send_17 (lv_at hl 0 rfl) ?_
  refine lv_lconst (v := 0) hx hb dX3_send_19 (by decide) ?_
  obtain ⟨rw10, hf11⟩ := hT.2.1 j hj 3 (by decide)
  refine pl_lastE hx hb hG.1 hP hD hS (hst.c hj (by decide)) 1 hf11 rfl (In.inb hb6 (by decide) (by decide)) dX3_send_20 (fun H locs f12 r15 er15 hf13 ho14 hP hD hS => ?_)
  have hf16 := (ho14 (ad 13) (hst.ne (by omega) (by omega) (by omega))).trans hf2
  have hf17 := (ho14 (cr ad j 0) (hst.ne (by omega) (by omega) (by omega))).trans hf9
  have hfr : (∀ b, b ≠ (cr ad j 0) → b ≠ (cr ad j 2) → b ≠ (cr ad j 3) → b ≠ (cr ad j 4) → f12 b = f b) := fun b z0_ z1_ z2_ z3_ => (ho14 b z2_).trans (hfr b z0_ z1_ z2_ z3_)
  refine lv_aload_n hx hb dX3_send_21 rfl (lv_at hl 1 rfl) ?_
  refine pl_get (v := .ref (cr ad j 4)) hx hb hts (fun w h => mT (inX3 w h)) hown hG.1 hP (hst.c hj (by decide)) hf17 rfl 12 (by decide) (hts _ (mT wg_355)) (fun _ h => h) rfl dX3_send_22 ?_
  refine lv_iload hx hb dX3_send_25 (lv_at hl 0 rfl) ?_
  refine lv_lconst (v := 0) hx hb dX3_send_27 (by decide) ?_
  have hT := TI.updC hT hst hj (k := 3) (by decide) hf13 ho14 ⟨r15, rfl⟩
  obtain ⟨rw18, hf19⟩ := hT.2.1 j hj 4 (by decide)
  refine pl_lastE hx hb hG.1 hP hD hS (hst.c hj (by decide)) 1 hf19 rfl (In.inb hb6 (by decide) (by decide)) dX3_send_28 (fun H locs f20 r23 er23 hf21 ho22 hP hD hS => ?_)
  have hf24 := (ho22 (ad 13) (hst.ne (by omega) (by omega) (by omega))).trans hf16
  have hf25 := (ho22 (cr ad j 0) (hst.ne (by omega) (by omega) (by omega))).trans hf17
  have hf26 := (ho22 (cr ad j 3) (hst.ne (by omega) (by omega) (by omega))).trans hf13
  have hfr : (∀ b, b ≠ (cr ad j 0) → b ≠ (cr ad j 2) → b ≠ (cr ad j 3) → b ≠ (cr ad j 4) → f20 b = f b) := fun b z0_ z1_ z2_ z3_ => (ho22 b z3_).trans (hfr b z0_ z1_ z2_ z3_)
  refine lv_iload_n hx hb dX3_send_29 rfl (lv_at hl 4 rfl) ?_
  refine lv_istore (lv' := [(6, .int z3), (5, .int x5), (0, .ref (cr ad j 0)), (1, .ref (ad 6)), (2, .ref (ad 13)), (3, .int z3), (4, .int z4)]) hx hb dX3_send_30 hl (by decide) rfl (fun ls hl => ?_)
  have hT := TI.updC hT hst hj (k := 4) (by decide) hf21 ho22 ⟨r23, rfl⟩
  have hJ32 : ∀ (k32 : Nat) (y32_l6 : Int32) (f_32 : HP) (H : Heap) (locs : List Loc) (ls : Array Slot), In y32_l6 0 9 → va_P g.1 vwCl (va_pl L f_32) H → va_D A (va_pl L f_32) → va_S A s.heap H locs → TI g ad th f_32 → (∀ b, b ≠ (cr ad j 0) → b ≠ (cr ad j 2) → b ≠ (cr ad j 3) → b ≠ (cr ad j 4) → f_32 b = f b) → f_32 (ad 13) = .inr (6, [.int v0_1, .int v1_1, .ref (ad 11)]) → lv_has ls 10 [(0, .ref (cr ad j 0)), (1, .ref (ad 6)), (2, .ref (ad 13)), (3, .int z3), (4, .int z4), (5, .int x5), (6, .int y32_l6)] → 9 - y32_l6.toInt < ((k32 : Nat) : Int) → W p l e rm_X3_send_co_pn s m [.ref (cr ad j 0), .ref (ad 6), .ref (ad 13), .int z3, .int z4].toArray below meth c H locs 0 0 (MQ below (va_Qv (po_X3_send_co_pn g ad th L f j z3 z4) (PstB g A) A) [.ref (cr ad j 0), .ref (ad 6), .ref (ad 13), .int z3, .int z4].toArray s rm_X3_send_co_pn.cells rm_X3_send_co_pn.slots A) (F0 m 32 ls []) := by
    intro k32
    induction k32 with
    | zero =>
      intro y32_l6 f_32 H locs ls hy32_l6 hP hD hS hT hfr hf27 hl hmz32
      exact ms0 hy32_l6 hmz32
    | succ k32 ih32 =>
      intro y32_l6 f_32 H locs ls hy32_l6 hP hD hS hT hfr hf27 hl hmz32
      refine lv_iload hx hb dX3_send_32 (lv_at hl 6 rfl) ?_
      refine lv_iload hx hb dX3_send_34 (lv_at hl 4 rfl) ?_
      refine lv_icmp_gt (tgt := 155) hx hb dX3_send_36 (by decide) (fun c28 => ?_) (fun c28 => ?_)
      ·
        exact ret_v hx hb hr hlocks hP hD hS (Nat.le_of_ble_eq_true rfl) (Nat.le_of_ble_eq_true rfl) (⟨rfl, hT, hfr⟩) dX3_send_155
      ·
        have cc29 : y32_l6.toInt ≤ z4.toInt := i32_nlt c28
        have hb30 : In y32_l6 0 8 := In.le1 hy32_l6 hz4 cc29 (by omega) (by omega)
        have hb31 : In z4 0 8 := In.le2 hy32_l6 hz4 cc29 (by omega) (by omega)
        refine lv_aload_n hx hb dX3_send_39 rfl (lv_at hl 0 rfl) ?_
        refine lv_aload_n hx hb dX3_send_40 rfl (lv_at hl 1 rfl) ?_
        refine lv_aload_n hx hb dX3_send_41 rfl (lv_at hl 2 rfl) ?_
        refine lv_iload hx hb dX3_send_42 (lv_at hl 6 rfl) ?_
        obtain ⟨v0_32, v1_32, v2_32, v3_32, v4_32, v5_32, v6_32, v7_32, v8_32, hf33, hv1_32, hg1_32, hv2_32, hg2_32, hv6_32⟩ := hT.2.1 j hj 0 (by decide)
        refine call_l (run_V (rm := rm_X3_rowOf_co_pn) hx hb hml hown hts (s_X3_rowOf_co_pn l g ad th _ _ _ j y32_l6 hst hT hj hb30) cV_X3_rowOf wg_786 ⟨Nat.le_of_ble_eq_true rfl, Nat.le_of_ble_eq_true rfl⟩ hG hE hA hP hD hS (hst.c hj (by decide)) hf33 rfl rfl hl.1 (As := [.ref (ad 6), .ref (ad 13), .int y32_l6]) (rest := []) rfl (Nat.le_of_ble_eq_true rfl) dX3_send_44 ⟨Nat.le_of_ble_eq_true rfl, Nat.le_of_ble_eq_true rfl⟩) hA hD hS (fun r34 L35 f36 H locs hp37 hP hD hS => ?_)
        obtain ⟨eL38L, eL38T, eL38F⟩ := hp37
        have eL38L : L35 = L := eL38L
        rw [eL38L] at hP hD
        have hT : TI g ad th f36 := eL38T
        have eL38F : ∀ b, b ≠ (cr ad j 0) → f36 b = f_32 b := eL38F
        have hf39 := (eL38F (ad 13) (hst.ne (by omega) (by omega) (by omega))).trans hf27
        have hfr : (∀ b, b ≠ (cr ad j 0) → b ≠ (cr ad j 2) → b ≠ (cr ad j 3) → b ≠ (cr ad j 4) → f36 b = f b) := fun b z0_ z1_ z2_ z3_ => (eL38F b z0_).trans (hfr b z0_ z1_ z2_ z3_)
        refine lv_lstore (lv' := [(7, .long r34), (0, .ref (cr ad j 0)), (1, .ref (ad 6)), (2, .ref (ad 13)), (3, .int z3), (4, .int z4), (5, .int x5), (6, .int y32_l6)]) hx hb dX3_send_47 hl (by decide) rfl (fun ls hl => ?_)
        refine lv_aload_n hx hb dX3_send_49 rfl (lv_at hl 1 rfl) ?_
        obtain ⟨v0_40, v1_40, v2_40, v3_40, v4_40, v5_40, v6_40, v7_40, v8_40, hf41, hv1_40, hg1_40, hv2_40, hg2_40, hv6_40⟩ := hT.2.1 j hj 0 (by decide)
        refine pl_get (v := .ref (cr ad j 2)) hx hb hts (fun w h => mT (inX3 w h)) hown hG.1 hP (hst.c hj (by decide)) hf41 rfl 10 (by decide) (hts _ (mT wg_353)) (fun _ h => h) rfl dX3_send_50 ?_
        refine lv_iload hx hb dX3_send_53 (lv_at hl 6 rfl) ?_
        refine lv_bipush (v := 9) hx hb dX3_send_55 (by decide) ?_
        refine lv_imul hx hb dX3_send_57 ?_
        refine lv_topi (fun x42 ex42 => ?_)
        have hb43 : In x42 0 153 := ex42 ▸ In.mul hb6 (⟨by decide, by decide⟩ : In 9 9 9) (by decide) (by decide) (by decide) (by decide) (by decide)
        refine lv_iload hx hb dX3_send_58 (lv_at hl 7 rfl) ?_
        refine lv_iadd hx hb dX3_send_60 ?_
        refine lv_topi (fun x44 ex44 => ?_)
        have hb45 : In x44 0 161 := ex44 ▸ In.add hb43 hb30 (by decide) (by decide) (by decide) (by decide)
        have et46 : x44.toInt = x42.toInt + y32_l6.toInt := In.add2e ex44 hb43 hb30 (by decide) (by decide)
        refine lv_lload hx hb dX3_send_61 (lv_at hl 0 rfl) ?_
        obtain ⟨rw47, hf48⟩ := hT.2.1 j hj 2 (by decide)
        refine pl_lastE hx hb hG.1 hP hD hS (hst.c hj (by decide)) 1 hf48 rfl (In.inb hb45 (by decide) (by decide)) dX3_send_63 (fun H locs f49 r52 er52 hf50 ho51 hP hD hS => ?_)
        have hf53 := (ho51 (ad 13) (hst.ne (by omega) (by omega) (by omega))).trans hf39
        have hf54 := (ho51 (cr ad j 0) (hst.ne (by omega) (by omega) (by omega))).trans hf41
        have hfr : (∀ b, b ≠ (cr ad j 0) → b ≠ (cr ad j 2) → b ≠ (cr ad j 3) → b ≠ (cr ad j 4) → f49 b = f b) := fun b z0_ z1_ z2_ z3_ => (ho51 b z1_).trans (hfr b z0_ z1_ z2_ z3_)
        refine lv_aload_n hx hb dX3_send_64 rfl (lv_at hl 1 rfl) ?_
        refine pl_get (v := .ref (cr ad j 3)) hx hb hts (fun w h => mT (inX3 w h)) hown hG.1 hP (hst.c hj (by decide)) hf54 rfl 11 (by decide) (hts _ (mT wg_354)) (fun _ h => h) rfl dX3_send_65 ?_
        refine lv_iload hx hb dX3_send_68 (lv_at hl 6 rfl) ?_
        refine lv_dup2_11 hx hb dX3_send_70 rfl rfl ?_
        have hT := TI.updC hT hst hj (k := 2) (by decide) hf50 ho51 ⟨r52, rfl⟩
        obtain ⟨rw55, hf56⟩ := hT.2.1 j hj 3 (by decide)
        have hin57 : vp_in x5 18 := In.inb hb6 (by decide) (by decide)
        refine pl_lald hx hb hG.1 hP (hst.c hj (by decide)) 1 hf56 rfl hin57 dX3_send_71 ?_
        refine lv_topl (fun x58 ex58 => ?_)
        refine lv_lload hx hb dX3_send_72 (lv_at hl 0 rfl) ?_
        refine lv_ldc2 hx hb hown (hts _ (mT wg_798)) dX3_send_74 ?_
        refine lv_land hx hb dX3_send_77 ?_
        refine lv_topl (fun x59 ex59 => ?_)
        refine lv_ladd hx hb dX3_send_78 ?_
        refine lv_topl (fun x60 ex60 => ?_)
        refine pl_lastE hx hb hG.1 hP hD hS (hst.c hj (by decide)) 1 hf56 rfl (In.inb hb6 (by decide) (by decide)) dX3_send_79 (fun H locs f61 r64 er64 hf62 ho63 hP hD hS => ?_)
        have hf65 := (ho63 (ad 13) (hst.ne (by omega) (by omega) (by omega))).trans hf53
        have hf66 := (ho63 (cr ad j 0) (hst.ne (by omega) (by omega) (by omega))).trans hf54
        have hf67 := (ho63 (cr ad j 2) (hst.ne (by omega) (by omega) (by omega))).trans hf50
        have hfr : (∀ b, b ≠ (cr ad j 0) → b ≠ (cr ad j 2) → b ≠ (cr ad j 3) → b ≠ (cr ad j 4) → f61 b = f b) := fun b z0_ z1_ z2_ z3_ => (ho63 b z2_).trans (hfr b z0_ z1_ z2_ z3_)
        refine lv_aload_n hx hb dX3_send_80 rfl (lv_at hl 1 rfl) ?_
        refine pl_get (v := .ref (cr ad j 4)) hx hb hts (fun w h => mT (inX3 w h)) hown hG.1 hP (hst.c hj (by decide)) hf66 rfl 12 (by decide) (hts _ (mT wg_355)) (fun _ h => h) rfl dX3_send_81 ?_
        refine lv_iload hx hb dX3_send_84 (lv_at hl 6 rfl) ?_
        refine lv_dup2_11 hx hb dX3_send_86 rfl rfl ?_
        have hT := TI.updC hT hst hj (k := 3) (by decide) hf62 ho63 ⟨r64, rfl⟩
        obtain ⟨rw68, hf69⟩ := hT.2.1 j hj 4 (by decide)
        have hin70 : vp_in x5 18 := In.inb hb6 (by decide) (by decide)
        refine pl_lald hx hb hG.1 hP (hst.c hj (by decide)) 1 hf69 rfl hin70 dX3_send_87 ?_
        refine lv_topl (fun x71 ex71 => ?_)
        refine lv_lload hx hb dX3_send_88 (lv_at hl 0 rfl) ?_
        refine lv_iconst (v := 1) hx hb dX3_send_90 (by decide) ?_
        refine lv_lushr hx hb dX3_send_91 rfl ?_
        refine lv_topl (fun x72 ex72 => ?_)
        refine lv_ldc2 hx hb hown (hts _ (mT wg_798)) dX3_send_92 ?_
        refine lv_land hx hb dX3_send_95 ?_
        refine lv_topl (fun x73 ex73 => ?_)
        refine lv_ladd hx hb dX3_send_96 ?_
        refine lv_topl (fun x74 ex74 => ?_)
        refine pl_lastE hx hb hG.1 hP hD hS (hst.c hj (by decide)) 1 hf69 rfl (In.inb hb6 (by decide) (by decide)) dX3_send_97 (fun H locs f75 r78 er78 hf76 ho77 hP hD hS => ?_)
        have hf79 := (ho77 (ad 13) (hst.ne (by omega) (by omega) (by omega))).trans hf65
        have hf80 := (ho77 (cr ad j 0) (hst.ne (by omega) (by omega) (by omega))).trans hf66
        have hf81 := (ho77 (cr ad j 2) (hst.ne (by omega) (by omega) (by omega))).trans hf67
        have hf82 := (ho77 (cr ad j 3) (hst.ne (by omega) (by omega) (by omega))).trans hf62
        have hfr : (∀ b, b ≠ (cr ad j 0) → b ≠ (cr ad j 2) → b ≠ (cr ad j 3) → b ≠ (cr ad j 4) → f75 b = f b) := fun b z0_ z1_ z2_ z3_ => (ho77 b z3_).trans (hfr b z0_ z1_ z2_ z3_)
        refine lv_lload hx hb dX3_send_98 (lv_at hl 0 rfl) ?_
        refine lv_aload_n hx hb dX3_send_100 rfl (lv_at hl 2 rfl) ?_
        have hT := TI.updC hT hst hj (k := 4) (by decide) hf76 ho77 ⟨r78, rfl⟩
        obtain ⟨v0_83, v1_83, v2_83, v3_83, v4_83, v5_83, v6_83, v7_83, hf84, hv0_83, hg0_83, hv1_83, hg1_83, hv2_83, hv3_83, hv5_83, hv6_83, hrel0_83⟩ := hT.1 6 (by decide)
        refine pl_getN (v := .int v1_83) hx hb hts (fun w h => mT (inX2 w h)) hown hG.1 hP (hst.1 6 (by decide)) hf84 rfl 1 (by decide) (hG.2.1 _ wn_231) (fun _ h => h) rfl dX3_send_101 ?_
        refine lv_iload hx hb dX3_send_104 (lv_at hl 7 rfl) ?_
        refine call_i (run_S (rm := rm_X3_reachedBy) hx hb hml hown hts (s_X3_reachedBy l g ad th _ _ _ r34 v1_83 y32_l6 hst hT ) cS_X3_reachedBy wg_831 ⟨Nat.le_of_ble_eq_true rfl, Nat.le_of_ble_eq_true rfl⟩ hG hE hA hP hD hS rfl hl.1 (As := [.long r34, .int v1_83, .int y32_l6]) (rest := []) rfl (Nat.le_of_ble_eq_true rfl) dX3_send_106 ⟨Nat.le_of_ble_eq_true rfl, Nat.le_of_ble_eq_true rfl⟩) hA hD hS (fun r85 L86 f87 H locs hp88 hP hD hS => ?_)
        obtain ⟨eL89L, eL89T⟩ := hp88
        have eL89L : L86 = L := eL89L
        have eL89T : f87 = f75 := eL89T
        rw [eL89L, eL89T] at hP hD
        refine lv_istore (lv' := [(9, .int r85), (7, .long r34), (0, .ref (cr ad j 0)), (1, .ref (ad 6)), (2, .ref (ad 13)), (3, .int z3), (4, .int z4), (5, .int x5), (6, .int y32_l6)]) hx hb dX3_send_109 hl (by decide) rfl (fun ls hl => ?_)
        refine lv_aload_n hx hb dX3_send_111 rfl (lv_at hl 2 rfl) ?_
        refine lv_dup hx hb dX3_send_112 rfl ?_
        refine pl_get (v := .int v4_40) hx hb hts (fun w h => mT (inX3 w h)) hown hG.1 hP (hst.c hj (by decide)) hf80 rfl 4 (by decide) (hts _ (mT wg_344)) (fun _ h => h) rfl dX3_send_113 ?_
        refine lv_iload hx hb dX3_send_116 (lv_at hl 0 rfl) ?_
        refine lv_iadd hx hb dX3_send_118 ?_
        refine lv_topi (fun x90 ex90 => ?_)
        refine pl_put (ty := .int) (v := .int x90) (fs' := [.int v0_40, .int v1_40, .int v2_40, .int v3_40, .int x90, .int v5_40, .int v6_40, .long v7_40, .long v8_40, .ref (cr ad j 1), .ref (cr ad j 2), .ref (cr ad j 3), .ref (cr ad j 4), .ref (cr ad j 5), .ref (cr ad j 6), .ref (cr ad j 7), .ref (cr ad j 8), .ref (cr ad j 9)]) hx hb hts (fun w h => mT (inX3 w h)) tyX3 tyX3_ok nmX3 hown hG.1 hP hD hS (hst.c hj (by decide)) hf80 rfl 4 (by decide) (hts _ (mT wg_344)) (fun _ h => h) rfl (by decide +kernel) (rfl) (rfl) (Nat.le_of_ble_eq_true rfl) rfl dX3_send_119 (fun H locs f91 hf92 ho93 hP hD hS => ?_)
        have hf94 := (ho93 (ad 13) (hst.ne (by omega) (by omega) (by omega))).trans hf79
        have hf95 := (ho93 (cr ad j 2) (hst.ne (by omega) (by omega) (by omega))).trans hf81
        have hf96 := (ho93 (cr ad j 3) (hst.ne (by omega) (by omega) (by omega))).trans hf82
        have hf97 := (ho93 (cr ad j 4) (hst.ne (by omega) (by omega) (by omega))).trans hf76
        have hf98 := (ho93 (ad 6) (hst.ne (by omega) (by omega) (by omega))).trans hf84
        have hfr : (∀ b, b ≠ (cr ad j 0) → b ≠ (cr ad j 2) → b ≠ (cr ad j 3) → b ≠ (cr ad j 4) → f91 b = f b) := fun b z0_ z1_ z2_ z3_ => (ho93 b z0_).trans (hfr b z0_ z1_ z2_ z3_)
        refine lv_aload_n hx hb dX3_send_122 rfl (lv_at hl 2 rfl) ?_
        refine lv_dup hx hb dX3_send_123 rfl ?_
        refine pl_get (v := .int v5_40) hx hb hts (fun w h => mT (inX3 w h)) hown hG.1 hP (hst.c hj (by decide)) hf92 rfl 5 (by decide) (hts _ (mT wg_346)) (fun _ h => h) rfl dX3_send_124 ?_
        refine lv_aload_n hx hb dX3_send_127 rfl (lv_at hl 2 rfl) ?_
        refine pl_get (v := .int v1_40) hx hb hts (fun w h => mT (inX3 w h)) hown hG.1 hP (hst.c hj (by decide)) hf92 rfl 1 (by decide) (hts _ (mT wg_338)) (fun _ h => h) rfl dX3_send_128 ?_
        refine lv_iload hx hb dX3_send_131 (lv_at hl 8 rfl) ?_
        have hT := TI.updC hT hst hj (k := 0) (by decide) hf92 ho93 ⟨v0_40, v1_40, v2_40, v3_40, x90, v5_40, v6_40, v7_40, v8_40, rfl, hv1_40, hg1_40, hv2_40, hg2_40, hv6_40⟩
        refine call_i (run_SN (rm := rm_X10_bit) hx hb hml hown hts (s_X10_bit l g ad th _ _ _ v1_40 y32_l6 hst hT ) cS_X10_bit wn_794 ⟨Nat.le_of_ble_eq_true rfl, Nat.le_of_ble_eq_true rfl⟩ hG hE hA hP hD hS rfl hl.1 (As := [.int v1_40, .int y32_l6]) (rest := [.int v5_40, .ref (cr ad j 0)]) rfl (Nat.le_of_ble_eq_true rfl) dX3_send_133 ⟨Nat.le_of_ble_eq_true rfl, Nat.le_of_ble_eq_true rfl⟩) hA hD hS (fun r99 L100 f101 H locs hp102 hP hD hS => ?_)
        obtain ⟨eL103L, eL103T, eL103R, eL103X0⟩ := hp102
        have eL103L : L100 = L := eL103L
        have eL103T : f101 = f91 := eL103T
        rw [eL103L, eL103T] at hP hD
        have eL103R : In r99 0 1 := eL103R
        have hJ145 : ∀ (y145_s0 : Int32) (H : Heap) (locs : List Loc) (ls : Array Slot), In y145_s0 (-2147483648) 2147483647 → va_P g.1 vwCl (va_pl L f91) H → va_D A (va_pl L f91) → va_S A s.heap H locs → lv_has ls 10 [(0, .ref (cr ad j 0)), (1, .ref (ad 6)), (2, .ref (ad 13)), (3, .int z3), (4, .int z4), (5, .int x5), (6, .int y32_l6), (7, .long r34), (9, .int r85)] → W p l e rm_X3_send_co_pn s m [.ref (cr ad j 0), .ref (ad 6), .ref (ad 13), .int z3, .int z4].toArray below meth c H locs 0 0 (MQ below (va_Qv (po_X3_send_co_pn g ad th L f j z3 z4) (PstB g A) A) [.ref (cr ad j 0), .ref (ad 6), .ref (ad 13), .int z3, .int z4].toArray s rm_X3_send_co_pn.cells rm_X3_send_co_pn.slots A) (F0 m 145 ls [.int y145_s0, .int v5_40, .ref (cr ad j 0)]) := by
          intro y145_s0 H locs ls hy145_s0 hP hD hS hl
          refine lv_iadd hx hb dX3_send_145 ?_
          refine lv_topi (fun x104 ex104 => ?_)
          refine pl_put (ty := .int) (v := .int x104) (fs' := [.int v0_40, .int v1_40, .int v2_40, .int v3_40, .int x90, .int x104, .int v6_40, .long v7_40, .long v8_40, .ref (cr ad j 1), .ref (cr ad j 2), .ref (cr ad j 3), .ref (cr ad j 4), .ref (cr ad j 5), .ref (cr ad j 6), .ref (cr ad j 7), .ref (cr ad j 8), .ref (cr ad j 9)]) hx hb hts (fun w h => mT (inX3 w h)) tyX3 tyX3_ok nmX3 hown hG.1 hP hD hS (hst.c hj (by decide)) hf92 rfl 5 (by decide) (hts _ (mT wg_346)) (fun _ h => h) rfl (by decide +kernel) (rfl) (rfl) (Nat.le_of_ble_eq_true rfl) rfl dX3_send_146 (fun H locs f105 hf106 ho107 hP hD hS => ?_)
          have hf108 := (ho107 (ad 13) (hst.ne (by omega) (by omega) (by omega))).trans hf94
          have hf109 := (ho107 (cr ad j 2) (hst.ne (by omega) (by omega) (by omega))).trans hf95
          have hf110 := (ho107 (cr ad j 3) (hst.ne (by omega) (by omega) (by omega))).trans hf96
          have hf111 := (ho107 (cr ad j 4) (hst.ne (by omega) (by omega) (by omega))).trans hf97
          have hf112 := (ho107 (ad 6) (hst.ne (by omega) (by omega) (by omega))).trans hf98
          have hfr : (∀ b, b ≠ (cr ad j 0) → b ≠ (cr ad j 2) → b ≠ (cr ad j 3) → b ≠ (cr ad j 4) → f105 b = f b) := fun b z0_ z1_ z2_ z3_ => (ho107 b z0_).trans (hfr b z0_ z1_ z2_ z3_)
          obtain ⟨x113, ex113⟩ : ∃ y : Int32, y = y32_l6 + 1 := ⟨_, rfl⟩
          have hb114 : In x113 1 9 := ex113 ▸ In.add hb30 (⟨by decide, by decide⟩ : In 1 1 1) (by decide) (by decide) (by decide) (by decide)
          have et115 : x113.toInt = y32_l6.toInt + 1 := In.adde ex113 hb30 (k := 1) (by decide) (by decide) (by decide)
          refine lv_iinc (v := x113) (lv' := [(6, .int x113), (0, .ref (cr ad j 0)), (1, .ref (ad 6)), (2, .ref (ad 13)), (3, .int z3), (4, .int z4), (5, .int x5), (7, .long r34), (9, .int r85)]) hx hb dX3_send_149 hl (k := 6) rfl (by rw [ex113]; rfl) (by decide) rfl (fun ls hl => ?_)
          have hT := TI.updC hT hst hj (k := 0) (by decide) hf106 ho107 ⟨v0_40, v1_40, v2_40, v3_40, x90, x104, v6_40, v7_40, v8_40, rfl, hv1_40, hg1_40, hv2_40, hg2_40, hv6_40⟩
          refine lv_goto (tgt := 32) hx hb dX3_send_152 (by decide) ?_
          exact ih32 x113 _ _ _ _ (In.mono hb114 (by decide) (by decide)) hP hD hS hT hfr hf108 (lv_sub hl [1, 2, 3, 4, 5, 6, 0] rfl) (msu et115 (by decide) hmz32)
        refine lv_if_ne (tgt := 144) hx hb dX3_send_136 (by decide) (fun c116 => ?_) (fun c116 => ?_)
        ·
          have cc117 : r99.toInt ≠ (0 : Int32).toInt := i32_ne c116
          have hb118 : In r99 1 1 := In.ne1 eL103R (⟨by decide, by decide⟩ : In 0 0 0) cc117 (by omega) (by omega)
          refine lv_iconst (v := 0) hx hb dX3_send_144 (by decide) ?_
          exact hJ145 0 _ _ _ (⟨by decide, by decide⟩ : In 0 (-2147483648) 2147483647) hP hD hS (lv_sub hl [2, 3, 4, 5, 6, 7, 8, 1, 0] rfl)
        ·
          have cc119 : r99.toInt = (0 : Int32).toInt := congrArg Int32.toInt c116
          have hb120 : In r99 0 0 := In.eq1 eL103R (⟨by decide, by decide⟩ : In 0 0 0) cc119 (by omega) (by omega)
          refine lv_iload hx hb dX3_send_139 (lv_at hl 0 rfl) ?_
          refine lv_goto (tgt := 145) hx hb dX3_send_141 (by decide) ?_
          exact hJ145 r85 _ _ _ (In.full r85) hP hD hS (lv_sub hl [2, 3, 4, 5, 6, 7, 8, 1, 0] rfl)
  exact hJ32 ((9 - z3.toInt).toNat + 1) z3 _ _ _ _ (In.mono hz3 (by decide) (by decide)) hP hD hS hT hfr hf24 (lv_sub hl [2, 3, 4, 5, 6, 1, 0] rfl) (msI _)

abbrev rm_X3_play_co_pn : Room := { frames := 5, cells := 0, slots := 0, locals := 131 }
abbrev po_X3_play_co_pn (g : GG) (ad : Nat → Nat) (th : Nat → Int) (L : List Nat) (f : HP) (j : Nat) : (List Nat × HP) → Prop := fun u => u.1 = L ∧ (∃ zz : Int, (0 ≤ zz ∧ zz ≤ 6 * rnd (th 2)) ∧ TI g ad (gset th (300 + j) zz) u.2) ∧ (∀ b, b ≠ (ad 13) → b ≠ (cr ad j 0) → b ≠ (cr ad j 2) → b ≠ (cr ad j 3) → b ≠ (cr ad j 4) → b ≠ (cr ad j 5) → b ≠ (cr ad j 6) → b ≠ (cr ad j 7) → b ≠ (cr ad j 8) → b ≠ (cr ad j 9) → u.2 b = f b)
set_option maxHeartbeats 4000000 in
set_option maxRecDepth 100000 in
theorem s_X3_play_co_pn (l : Launch) (g : GG) (ad : Nat → Nat) (th : Nat → Int) (L : List Nat) (f : HP) (sz : Nat) (j : Nat) (hst : ST ad L) (hT : TI g ad th f) (hj : j < 23) (h3a : 0 ≤ th (300 + j)) (h3b : th (300 + j) ≤ 6 * rnd (th 2)) : MtV l g yX3_play cX3_play 6 rm_X3_play_co_pn [.ref (cr ad j 0), .ref (ad 6), .ref (ad 13)] L f sz (po_X3_play_co_pn g ad th L f j) := by
  refine MtV.of (by decide +kernel) (Nat.le_of_ble_eq_true rfl) ?_
  intro p e s m below meth c A hEn hP hD hS ls hl
  obtain ⟨hx, hb, hr, hml, hown, hlocks, hts, hG, hA, hE, hnm⟩ := hEn
  have hown : s.vm.findClass "RulerWord$Course" = some m.cls := hown
  have hl : lv_has ls 6 [(0, .ref (cr ad j 0)), (1, .ref (ad 6)), (2, .ref (ad 13))] := hl
  have hfr : (∀ b, b ≠ (ad 13) → b ≠ (cr ad j 0) → b ≠ (cr ad j 2) → b ≠ (cr ad j 3) → b ≠ (cr ad j 4) → b ≠ (cr ad j 5) → b ≠ (cr ad j 6) → b ≠ (cr ad j 7) → b ≠ (cr ad j 8) → b ≠ (cr ad j 9) → f b = f b) := fun b z0_ z1_ z2_ z3_ z4_ z5_ z6_ z7_ z8_ z9_ => rfl
  refine lv_aload_n hx hb dX3_play_0 rfl (lv_at hl 1 rfl) ?_
  refine lv_aload_n hx hb dX3_play_1 rfl (lv_at hl 0 rfl) ?_
  obtain ⟨v0_1, v1_1, v2_1, v3_1, v4_1, v5_1, v6_1, v7_1, v8_1, hf2, hv1_1, hg1_1, hv2_1, hg2_1, hv6_1⟩ := hT.2.1 j hj 0 (by decide)
  refine pl_get (v := .int v2_1) hx hb hts (fun w h => mT (inX3 w h)) hown hG.1 hP (hst.c hj (by decide)) hf2 rfl 2 (by decide) (hts _ (mT wg_340)) (fun _ h => h) rfl dX3_play_2 ?_
  obtain ⟨v0_3, v1_3, v2_3, v3_3, v4_3, v5_3, v6_3, v7_3, hf4, hv0_3, hg0_3, hv1_3, hg1_3, hv2_3, hv3_3, hv5_3, hv6_3, hrel0_3⟩ := hT.1 6 (by decide)
  refine call_i (run_VN (rm := rm_X2_phaseAt_co) hx hb hml hown hts (s_X2_phaseAt_co l g ad th _ _ _ v2_1 hst hT hv2_1) cV_X2_phaseAt wn_775 ⟨Nat.le_of_ble_eq_true rfl, Nat.le_of_ble_eq_true rfl⟩ hG hE hA hP hD hS (hst.1 6 (by decide)) hf4 rfl rfl hl.1 (As := [.int v2_1]) (rest := []) rfl (Nat.le_of_ble_eq_true rfl) dX3_play_5 ⟨Nat.le_of_ble_eq_true rfl, Nat.le_of_ble_eq_true rfl⟩) hA hD hS (fun r5 L6 f7 H locs hp8 hP hD hS => ?_)
  obtain ⟨eL9L, eL9T, eL9R, eL9X0⟩ := hp8
  have eL9L : L6 = L := eL9L
  have eL9T : f7 = f := eL9T
  rw [eL9L, eL9T] at hP hD
  have eL9R : In r5 0 9 := eL9R
  have hph10 : r5.toInt * rnd (th 2) ≤ v2_1.toInt ∧ v2_1.toInt < (r5.toInt + 1) * rnd (th 2) := eL9X0
  refine lv_istore_n (lv' := [(3, .int r5), (0, .ref (cr ad j 0)), (1, .ref (ad 6)), (2, .ref (ad 13))]) hx hb dX3_play_8 rfl hl (by decide) rfl (fun ls hl => ?_)
  refine lv_iload_n hx hb dX3_play_9 rfl (lv_at hl 0 rfl) ?_
  refine lv_aload_n hx hb dX3_play_10 rfl (lv_at hl 2 rfl) ?_
  refine pl_getN (v := .int v3_3) hx hb hts (fun w h => mT (inX2 w h)) hown hG.1 hP (hst.1 6 (by decide)) hf4 rfl 3 (by decide) (hG.2.1 _ wn_236) (fun _ h => h) rfl dX3_play_11 ?_
  refine lv_icmp_ge (tgt := 23) hx hb dX3_play_14 (by decide) (fun c11 => ?_) (fun c11 => ?_)
  ·
    exact ret_v hx hb hr hlocks hP hD hS (Nat.le_of_ble_eq_true rfl) (Nat.le_of_ble_eq_true rfl) (⟨rfl, ⟨th (300 + j), ⟨h3a, h3b⟩, by rw [gset_same]; exact hT⟩, hfr⟩) dX3_play_23
  ·
    have cc12 : r5.toInt < v3_3.toInt := i32_nle c11
    have hb13 : In r5 0 5 := In.lt1 eL9R hv3_3 cc12 (by omega) (by omega)
    have hb14 : In v3_3 1 6 := In.lt2 eL9R hv3_3 cc12 (by omega) (by omega)
    refine lv_iload_n hx hb dX3_play_17 rfl (lv_at hl 0 rfl) ?_
    refine lv_bipush (v := 6) hx hb dX3_play_18 (by decide) ?_
    refine lv_icmp_lt (tgt := 24) hx hb dX3_play_20 (by decide) (fun c15 => ?_) (fun c15 => ?_)
    ·
      refine lv_aload_n hx hb dX3_play_24 rfl (lv_at hl 1 rfl) ?_
      refine pl_get (v := .int v4_1) hx hb hts (fun w h => mT (inX3 w h)) hown hG.1 hP (hst.c hj (by decide)) hf2 rfl 4 (by decide) (hts _ (mT wg_344)) (fun _ h => h) rfl dX3_play_25 ?_
      refine lv_istore (lv' := [(4, .int v4_1), (3, .int r5), (0, .ref (cr ad j 0)), (1, .ref (ad 6)), (2, .ref (ad 13))]) hx hb dX3_play_28 hl (by decide) rfl (fun ls hl => ?_)
      refine lv_aload_n hx hb dX3_play_30 rfl (lv_at hl 4 rfl) ?_
      refine lv_iload_n hx hb dX3_play_31 rfl (lv_at hl 1 rfl) ?_
      obtain ⟨v0_16, v1_16, hf17, hv0_16, hv1_16⟩ := hT.1 13 (by decide)
      refine pl_put (ty := .int) (v := .int r5) (fs' := [.int r5, .int v1_16, .ref (ad 11)]) hx hb hts (fun w h => mT (inX6 w h)) tyX6 tyX6_ok nmX6 hown hG.1 hP hD hS (hst.1 13 (by decide)) hf17 rfl 0 (by decide) (hts _ (mT wg_292)) (fun _ h => h) rfl (by decide +kernel) (rfl) (rfl) (Nat.le_of_ble_eq_true rfl) rfl dX3_play_32 (fun H locs f18 hf19 ho20 hP hD hS => ?_)
      have hf21 := (ho20 (cr ad j 0) (hst.ne (by omega) (by omega) (by omega))).trans hf2
      have hf22 := (ho20 (ad 6) (hst.ne (by decide) (by decide) (by decide))).trans hf4
      have hfr : (∀ b, b ≠ (ad 13) → b ≠ (cr ad j 0) → b ≠ (cr ad j 2) → b ≠ (cr ad j 3) → b ≠ (cr ad j 4) → b ≠ (cr ad j 5) → b ≠ (cr ad j 6) → b ≠ (cr ad j 7) → b ≠ (cr ad j 8) → b ≠ (cr ad j 9) → f18 b = f b) := fun b z0_ z1_ z2_ z3_ z4_ z5_ z6_ z7_ z8_ z9_ => (ho20 b z0_).trans (hfr b z0_ z1_ z2_ z3_ z4_ z5_ z6_ z7_ z8_ z9_)
      refine lv_aload_n hx hb dX3_play_35 rfl (lv_at hl 4 rfl) ?_
      refine lv_aload_n hx hb dX3_play_36 rfl (lv_at hl 3 rfl) ?_
      refine lv_aload_n hx hb dX3_play_37 rfl (lv_at hl 2 rfl) ?_
      refine pl_get (v := .int v2_1) hx hb hts (fun w h => mT (inX3 w h)) hown hG.1 hP (hst.c hj (by decide)) hf21 rfl 2 (by decide) (hts _ (mT wg_340)) (fun _ h => h) rfl dX3_play_38 ?_
      have hT := TI.updA hT hst (k := 13) (by decide) hf19 ho20 ⟨r5, v1_16, rfl, hb13, hv1_16⟩
      refine call_i (run_VN (rm := rm_X2_turnAt_co) hx hb hml hown hts (s_X2_turnAt_co l g ad th _ _ _ v2_1 hst hT hv2_1) cV_X2_turnAt wn_776 ⟨Nat.le_of_ble_eq_true rfl, Nat.le_of_ble_eq_true rfl⟩ hG hE hA hP hD hS (hst.1 6 (by decide)) hf22 rfl rfl hl.1 (As := [.int v2_1]) (rest := [.ref (ad 13)]) rfl (Nat.le_of_ble_eq_true rfl) dX3_play_41 ⟨Nat.le_of_ble_eq_true rfl, Nat.le_of_ble_eq_true rfl⟩) hA hD hS (fun r23 L24 f25 H locs hp26 hP hD hS => ?_)
      obtain ⟨eL27L, eL27T, eL27R⟩ := hp26
      have eL27L : L24 = L := eL27L
      have eL27T : f25 = f18 := eL27T
      rw [eL27L, eL27T] at hP hD
      have eL27R : In r23 0 2 := eL27R
      refine pl_put (ty := .int) (v := .int r23) (fs' := [.int r5, .int r23, .ref (ad 11)]) hx hb hts (fun w h => mT (inX6 w h)) tyX6 tyX6_ok nmX6 hown hG.1 hP hD hS (hst.1 13 (by decide)) hf19 rfl 1 (by decide) (hts _ (mT wg_295)) (fun _ h => h) rfl (by decide +kernel) (rfl) (rfl) (Nat.le_of_ble_eq_true rfl) rfl dX3_play_44 (fun H locs f28 hf29 ho30 hP hD hS => ?_)
      have hf31 := (ho30 (cr ad j 0) (hst.ne (by omega) (by omega) (by omega))).trans hf21
      have hf32 := (ho30 (ad 6) (hst.ne (by decide) (by decide) (by decide))).trans hf22
      have hfr : (∀ b, b ≠ (ad 13) → b ≠ (cr ad j 0) → b ≠ (cr ad j 2) → b ≠ (cr ad j 3) → b ≠ (cr ad j 4) → b ≠ (cr ad j 5) → b ≠ (cr ad j 6) → b ≠ (cr ad j 7) → b ≠ (cr ad j 8) → b ≠ (cr ad j 9) → f28 b = f b) := fun b z0_ z1_ z2_ z3_ z4_ z5_ z6_ z7_ z8_ z9_ => (ho30 b z0_).trans (hfr b z0_ z1_ z2_ z3_ z4_ z5_ z6_ z7_ z8_ z9_)
      refine lv_aload_n hx hb dX3_play_47 rfl (lv_at hl 4 rfl) ?_
      refine pl_get (v := .int r23) hx hb hts (fun w h => mT (inX6 w h)) hown hG.1 hP (hst.1 13 (by decide)) hf29 rfl 1 (by decide) (hts _ (mT wg_295)) (fun _ h => h) rfl dX3_play_48 ?_
      refine lv_aload_n hx hb dX3_play_51 rfl (lv_at hl 3 rfl) ?_
      have hT := TI.updA hT hst (k := 13) (by decide) hf29 ho30 ⟨r5, r23, rfl, hb13, eL27R⟩
      refine call_i (run_VN (rm := rm_X2_rounds_co) hx hb hml hown hts (s_X2_rounds_co l g ad th _ _ _  hst hT ) cV_X2_rounds wn_777 ⟨Nat.le_of_ble_eq_true rfl, Nat.le_of_ble_eq_true rfl⟩ hG hE hA hP hD hS (hst.1 6 (by decide)) hf32 rfl rfl hl.1 (As := []) (rest := [.int r23]) rfl (Nat.le_of_ble_eq_true rfl) dX3_play_52 ⟨Nat.le_of_ble_eq_true rfl, Nat.le_of_ble_eq_true rfl⟩) hA hD hS (fun r33 L34 f35 H locs hp36 hP hD hS => ?_)
      obtain ⟨eL37L, eL37T, eL37R, eL37X0⟩ := hp36
      have eL37L : L34 = L := eL37L
      have eL37T : f35 = f28 := eL37T
      rw [eL37L, eL37T] at hP hD
      have eL37R : In r33 2 3 := eL37R
      have hrn38 : r33.toInt = rnd (th 2) := eL37X0
      refine lv_iconst (v := 1) hx hb dX3_play_55 (by decide) ?_
      refine lv_isub hx hb dX3_play_56 ?_
      refine lv_topi (fun x39 ex39 => ?_)
      have hb40 : In x39 1 2 := ex39 ▸ In.sub eL37R (⟨by decide, by decide⟩ : In 1 1 1) (by decide) (by decide) (by decide) (by decide)
      have et41 : x39.toInt = r33.toInt + (-1) := In.sube ex39 eL37R (k := 1) (by decide) (by decide) (by decide)
      have hJ111 : ∀ (f_111 : HP) (H : Heap) (locs : List Loc) (ls : Array Slot), va_P g.1 vwCl (va_pl L f_111) H → va_D A (va_pl L f_111) → va_S A s.heap H locs → TI g ad th f_111 → (∀ b, b ≠ (ad 13) → b ≠ (cr ad j 0) → b ≠ (cr ad j 2) → b ≠ (cr ad j 3) → b ≠ (cr ad j 4) → b ≠ (cr ad j 5) → b ≠ (cr ad j 6) → b ≠ (cr ad j 7) → b ≠ (cr ad j 8) → b ≠ (cr ad j 9) → f_111 b = f b) → f_111 (ad 13) = .inr (6, [.int r5, .int r23, .ref (ad 11)]) → f_111 (ad 6) = .inr (2, [.int v0_3, .int v1_3, .int v2_3, .int v3_3, .int v4_3, .int v5_3, .int v6_3, .int v7_3]) → lv_has ls 6 [(0, .ref (cr ad j 0)), (1, .ref (ad 6)), (2, .ref (ad 13)), (3, .int r5), (4, .int v4_1)] → W p l e rm_X3_play_co_pn s m [.ref (cr ad j 0), .ref (ad 6), .ref (ad 13)].toArray below meth c H locs 0 0 (MQ below (va_Qv (po_X3_play_co_pn g ad th L f j) (PstB g A) A) [.ref (cr ad j 0), .ref (ad 6), .ref (ad 13)].toArray s rm_X3_play_co_pn.cells rm_X3_play_co_pn.slots A) (F0 m 111 ls []) := by
        intro f_111 H locs ls hP hD hS hT hfr hf42 hf43 hl
        refine lv_aload_n hx hb dX3_play_111 rfl (lv_at hl 0 rfl) ?_
        obtain ⟨v0_44, v1_44, v2_44, v3_44, v4_44, v5_44, v6_44, v7_44, v8_44, hf45, hv1_44, hg1_44, hv2_44, hg2_44, hv6_44⟩ := hT.2.1 j hj 0 (by decide)
        refine pl_get (v := .ref (cr ad j 9)) hx hb hts (fun w h => mT (inX3 w h)) hown hG.1 hP (hst.c hj (by decide)) hf45 rfl 17 (by decide) (hts _ (mT wg_364)) (fun _ h => h) rfl dX3_play_112 ?_
        refine lv_iload_n hx hb dX3_play_115 rfl (lv_at hl 3 rfl) ?_
        refine lv_aload_n hx hb dX3_play_116 rfl (lv_at hl 2 rfl) ?_
        refine pl_get (v := .int r23) hx hb hts (fun w h => mT (inX6 w h)) hown hG.1 hP (hst.1 13 (by decide)) hf42 rfl 1 (by decide) (hts _ (mT wg_295)) (fun _ h => h) rfl dX3_play_117 ?_
        have hJ147 : ∀ (y147_s0 : Int32) (H : Heap) (locs : List Loc) (ls : Array Slot), In y147_s0 (-2147483648) 2147483647 → va_P g.1 vwCl (va_pl L f_111) H → va_D A (va_pl L f_111) → va_S A s.heap H locs → lv_has ls 6 [(0, .ref (cr ad j 0)), (1, .ref (ad 6)), (2, .ref (ad 13)), (3, .int r5), (4, .int v4_1)] → W p l e rm_X3_play_co_pn s m [.ref (cr ad j 0), .ref (ad 6), .ref (ad 13)].toArray below meth c H locs 0 0 (MQ below (va_Qv (po_X3_play_co_pn g ad th L f j) (PstB g A) A) [.ref (cr ad j 0), .ref (ad 6), .ref (ad 13)].toArray s rm_X3_play_co_pn.cells rm_X3_play_co_pn.slots A) (F0 m 147 ls [.int y147_s0, .int r5, .ref (cr ad j 9)]) := by
          intro y147_s0 H locs ls hy147_s0 hP hD hS hl
          obtain ⟨rw46, hf47⟩ := hT.2.1 j hj 9 (by decide)
          refine pl_iastE hx hb hG.1 hP hD hS (hst.c hj (by decide)) 0 hf47 rfl (In.inb hb13 (by decide) (by decide)) dX3_play_147 (fun H locs f48 r51 er51 hf49 ho50 hP hD hS => ?_)
          have hf52 := (ho50 (ad 6) (hst.ne (by omega) (by omega) (by omega))).trans hf43
          have hf53 := (ho50 (ad 13) (hst.ne (by omega) (by omega) (by omega))).trans hf42
          have hf54 := (ho50 (cr ad j 0) (hst.ne (by omega) (by omega) (by omega))).trans hf45
          have hfr : (∀ b, b ≠ (ad 13) → b ≠ (cr ad j 0) → b ≠ (cr ad j 2) → b ≠ (cr ad j 3) → b ≠ (cr ad j 4) → b ≠ (cr ad j 5) → b ≠ (cr ad j 6) → b ≠ (cr ad j 7) → b ≠ (cr ad j 8) → b ≠ (cr ad j 9) → f48 b = f b) := fun b z0_ z1_ z2_ z3_ z4_ z5_ z6_ z7_ z8_ z9_ => (ho50 b z9_).trans (hfr b z0_ z1_ z2_ z3_ z4_ z5_ z6_ z7_ z8_ z9_)
          refine lv_aload_n hx hb dX3_play_148 rfl (lv_at hl 0 rfl) ?_
          refine lv_dup hx hb dX3_play_149 rfl ?_
          refine pl_get (v := .int v2_44) hx hb hts (fun w h => mT (inX3 w h)) hown hG.1 hP (hst.c hj (by decide)) hf54 rfl 2 (by decide) (hts _ (mT wg_340)) (fun _ h => h) rfl dX3_play_150 ?_
          refine lv_iconst (v := 1) hx hb dX3_play_153 (by decide) ?_
          refine lv_iadd hx hb dX3_play_154 ?_
          refine lv_topi (fun x55 ex55 => ?_)
          have hb56 : In x55 1 19 := ex55 ▸ In.add hv2_44 (⟨by decide, by decide⟩ : In 1 1 1) (by decide) (by decide) (by decide) (by decide)
          have et57 : x55.toInt = v2_44.toInt + 1 := In.adde ex55 hv2_44 (k := 1) (by decide) (by decide) (by decide)
          have hT := TI.updC hT hst hj (k := 9) (by decide) hf49 ho50 ⟨r51, rfl⟩
          refine pl_put (ty := .int) (v := .int x55) (fs' := [.int v0_44, .int v1_44, .int x55, .int v3_44, .int v4_44, .int v5_44, .int v6_44, .long v7_44, .long v8_44, .ref (cr ad j 1), .ref (cr ad j 2), .ref (cr ad j 3), .ref (cr ad j 4), .ref (cr ad j 5), .ref (cr ad j 6), .ref (cr ad j 7), .ref (cr ad j 8), .ref (cr ad j 9)]) hx hb hts (fun w h => mT (inX3 w h)) tyX3 tyX3_ok nmX3 hown hG.1 hP hD hS (hst.c hj (by decide)) hf54 rfl 2 (by decide) (hts _ (mT wg_340)) (fun _ h => h) rfl (by decide +kernel) (rfl) (rfl) (Nat.le_of_ble_eq_true rfl) rfl dX3_play_155 (fun H locs f58 hf59 ho60 hP hD hS => ?_)
          have hf61 := (ho60 (ad 6) (hst.ne (by omega) (by omega) (by omega))).trans hf52
          have hf62 := (ho60 (ad 13) (hst.ne (by omega) (by omega) (by omega))).trans hf53
          have hf63 := (ho60 (cr ad j 9) (hst.ne (by omega) (by omega) (by omega))).trans hf49
          have hfr : (∀ b, b ≠ (ad 13) → b ≠ (cr ad j 0) → b ≠ (cr ad j 2) → b ≠ (cr ad j 3) → b ≠ (cr ad j 4) → b ≠ (cr ad j 5) → b ≠ (cr ad j 6) → b ≠ (cr ad j 7) → b ≠ (cr ad j 8) → b ≠ (cr ad j 9) → f58 b = f b) := fun b z0_ z1_ z2_ z3_ z4_ z5_ z6_ z7_ z8_ z9_ => (ho60 b z1_).trans (hfr b z0_ z1_ z2_ z3_ z4_ z5_ z6_ z7_ z8_ z9_)
          have hpl := play18 et57 hg2_44 hg2_1 hph10 (Int.le_trans hb13.2 (by decide)) hv2_44.1
          have hT := TI.updCG (th' := (gset th (300 + j) (x55.toInt))) hT hst hj hf59 ho60 ⟨v0_44, v1_44, x55, v3_44, v4_44, v5_44, v6_44, v7_44, v8_44, rfl, hv1_44, (by rw [hg1_44]; simp [gset]), hpl.1, (by simp [gset]), hv6_44⟩ (fun k h1 h2 => by simp [gset, h1, h2])
          have hT : TI g ad (gset th (300 + j) x55.toInt) f58 := TI.cast hT (by funext q; simp only [gset]; (repeat' split); all_goals first | rfl | omega | (subst_vars; rfl) | (exfalso; omega))
          exact ret_v hx hb hr hlocks hP hD hS (Nat.le_of_ble_eq_true rfl) (Nat.le_of_ble_eq_true rfl) (⟨rfl, ⟨x55.toInt, ⟨hpl.1.1, hpl.2⟩, TI.cast hT (by funext q; simp only [gset]; (repeat' split); all_goals first | rfl | omega | (subst_vars; rfl) | (exfalso; omega))⟩, hfr⟩) dX3_play_158
        refine lv_if_ne (tgt := 133) hx hb dX3_play_120 (by decide) (fun c64 => ?_) (fun c64 => ?_)
        ·
          have cc65 : r23.toInt ≠ (0 : Int32).toInt := i32_ne c64
          have hb66 : In r23 1 2 := In.ne1 eL27R (⟨by decide, by decide⟩ : In 0 0 0) cc65 (by omega) (by omega)
          refine lv_aload_n hx hb dX3_play_133 rfl (lv_at hl 0 rfl) ?_
          refine pl_get (v := .ref (cr ad j 9)) hx hb hts (fun w h => mT (inX3 w h)) hown hG.1 hP (hst.c hj (by decide)) hf45 rfl 17 (by decide) (hts _ (mT wg_364)) (fun _ h => h) rfl dX3_play_134 ?_
          refine lv_iload_n hx hb dX3_play_137 rfl (lv_at hl 3 rfl) ?_
          obtain ⟨rw67, hf68⟩ := hT.2.1 j hj 9 (by decide)
          have hin69 : vp_in r5 6 := In.inb hb13 (by decide) (by decide)
          refine pl_iald hx hb hG.1 hP (hst.c hj (by decide)) 0 hf68 rfl hin69 dX3_play_138 ?_
          refine lv_topi (fun x70 ex70 => ?_)
          refine lv_aload_n hx hb dX3_play_139 rfl (lv_at hl 0 rfl) ?_
          refine pl_get (v := .int v4_44) hx hb hts (fun w h => mT (inX3 w h)) hown hG.1 hP (hst.c hj (by decide)) hf45 rfl 4 (by decide) (hts _ (mT wg_344)) (fun _ h => h) rfl dX3_play_140 ?_
          refine lv_iadd hx hb dX3_play_143 ?_
          refine lv_topi (fun x71 ex71 => ?_)
          refine lv_iload hx hb dX3_play_144 (lv_at hl 4 rfl) ?_
          refine lv_isub hx hb dX3_play_146 ?_
          refine lv_topi (fun x72 ex72 => ?_)
          exact hJ147 x72 _ _ _ (In.full x72) hP hD hS (lv_sub hl [0, 1, 2, 3, 4] rfl)
        ·
          have cc73 : r23.toInt = (0 : Int32).toInt := congrArg Int32.toInt c64
          have hb74 : In r23 0 0 := In.eq1 eL27R (⟨by decide, by decide⟩ : In 0 0 0) cc73 (by omega) (by omega)
          refine lv_aload_n hx hb dX3_play_123 rfl (lv_at hl 0 rfl) ?_
          refine pl_get (v := .int v4_44) hx hb hts (fun w h => mT (inX3 w h)) hown hG.1 hP (hst.c hj (by decide)) hf45 rfl 4 (by decide) (hts _ (mT wg_344)) (fun _ h => h) rfl dX3_play_124 ?_
          refine lv_iload hx hb dX3_play_127 (lv_at hl 4 rfl) ?_
          refine lv_isub hx hb dX3_play_129 ?_
          refine lv_topi (fun x75 ex75 => ?_)
          refine lv_goto (tgt := 147) hx hb dX3_play_130 (by decide) ?_
          exact hJ147 x75 _ _ _ (In.full x75) hP hD hS (lv_sub hl [0, 1, 2, 3, 4] rfl)
      refine lv_icmp_ne (tgt := 88) hx hb dX3_play_57 (by decide) (fun c76 => ?_) (fun c76 => ?_)
      ·
        refine lv_aload_n hx hb dX3_play_88 rfl (lv_at hl 2 rfl) ?_
        refine lv_aload_n hx hb dX3_play_89 rfl (lv_at hl 3 rfl) ?_
        refine lv_aload_n hx hb dX3_play_90 rfl (lv_at hl 4 rfl) ?_
        refine lv_iconst (v := 0) hx hb dX3_play_91 (by decide) ?_
        refine lv_aload_n hx hb dX3_play_92 rfl (lv_at hl 3 rfl) ?_
        refine pl_getN (v := .int v1_3) hx hb hts (fun w h => mT (inX2 w h)) hown hG.1 hP (hst.1 6 (by decide)) hf32 rfl 1 (by decide) (hG.2.1 _ wn_231) (fun _ h => h) rfl dX3_play_93 ?_
        refine lv_iconst (v := 1) hx hb dX3_play_96 (by decide) ?_
        refine lv_isub hx hb dX3_play_97 ?_
        refine lv_topi (fun x77 ex77 => ?_)
        have hb78 : In x77 (-1) 8 := ex77 ▸ In.sub hv1_3 (⟨by decide, by decide⟩ : In 1 1 1) (by decide) (by decide) (by decide) (by decide)
        have et79 : x77.toInt = v1_3.toInt + (-1) := In.sube ex77 hv1_3 (k := 1) (by decide) (by decide) (by decide)
        refine call_v (run_V (rm := rm_X3_send_co_pn) hx hb hml hown hts (s_X3_send_co_pn l g ad th _ _ _ j 0 x77 hst hT hj (⟨by decide, by decide⟩ : In 0 0 8) hb78) cV_X3_send wg_782 ⟨Nat.le_of_ble_eq_true rfl, Nat.le_of_ble_eq_true rfl⟩ hG hE hA hP hD hS (hst.c hj (by decide)) hf31 rfl rfl hl.1 (As := [.ref (ad 6), .ref (ad 13), .int 0, .int x77]) (rest := []) rfl (Nat.le_of_ble_eq_true rfl) dX3_play_98 ⟨Nat.le_of_ble_eq_true rfl, Nat.le_of_ble_eq_true rfl⟩) hA hD hS (fun L81 f82 H locs hp83 hP hD hS => ?_)
        obtain ⟨eL84L, eL84T, eL84F⟩ := hp83
        have eL84L : L81 = L := eL84L
        rw [eL84L] at hP hD
        have hT : TI g ad th f82 := eL84T
        have eL84F : ∀ b, b ≠ (cr ad j 0) → b ≠ (cr ad j 2) → b ≠ (cr ad j 3) → b ≠ (cr ad j 4) → f82 b = f28 b := eL84F
        have hf85 := (eL84F (ad 6) (hst.ne (by omega) (by omega) (by omega)) (hst.ne (by omega) (by omega) (by omega)) (hst.ne (by omega) (by omega) (by omega)) (hst.ne (by omega) (by omega) (by omega))).trans hf32
        have hf86 := (eL84F (ad 13) (hst.ne (by omega) (by omega) (by omega)) (hst.ne (by omega) (by omega) (by omega)) (hst.ne (by omega) (by omega) (by omega)) (hst.ne (by omega) (by omega) (by omega))).trans hf29
        have hfr : (∀ b, b ≠ (ad 13) → b ≠ (cr ad j 0) → b ≠ (cr ad j 2) → b ≠ (cr ad j 3) → b ≠ (cr ad j 4) → b ≠ (cr ad j 5) → b ≠ (cr ad j 6) → b ≠ (cr ad j 7) → b ≠ (cr ad j 8) → b ≠ (cr ad j 9) → f82 b = f b) := fun b z0_ z1_ z2_ z3_ z4_ z5_ z6_ z7_ z8_ z9_ => (eL84F b z1_ z2_ z3_ z4_).trans (hfr b z0_ z1_ z2_ z3_ z4_ z5_ z6_ z7_ z8_ z9_)
        refine lv_aload_n hx hb dX3_play_101 rfl (lv_at hl 2 rfl) ?_
        refine lv_aload_n hx hb dX3_play_102 rfl (lv_at hl 3 rfl) ?_
        refine lv_iload_n hx hb dX3_play_103 rfl (lv_at hl 1 rfl) ?_
        refine lv_aload_n hx hb dX3_play_104 rfl (lv_at hl 4 rfl) ?_
        refine pl_get (v := .int r23) hx hb hts (fun w h => mT (inX6 w h)) hown hG.1 hP (hst.1 13 (by decide)) hf86 rfl 1 (by decide) (hts _ (mT wg_295)) (fun _ h => h) rfl dX3_play_105 ?_
        obtain ⟨v0_87, v1_87, v2_87, v3_87, v4_87, v5_87, v6_87, v7_87, v8_87, hf88, hv1_87, hg1_87, hv2_87, hg2_87, hv6_87⟩ := hT.2.1 j hj 0 (by decide)
        refine call_v (run_V (rm := rm_X3_hearAll_co) hx hb hml hown hts (s_X3_hearAll_co l g ad th _ _ _ j r5 r23 hst hT hj hb13 eL27R) cV_X3_hearAll wg_854 ⟨Nat.le_of_ble_eq_true rfl, Nat.le_of_ble_eq_true rfl⟩ hG hE hA hP hD hS (hst.c hj (by decide)) hf88 rfl rfl hl.1 (As := [.ref (ad 6), .int r5, .int r23]) (rest := []) rfl (Nat.le_of_ble_eq_true rfl) dX3_play_108 ⟨Nat.le_of_ble_eq_true rfl, Nat.le_of_ble_eq_true rfl⟩) hA hD hS (fun L90 f91 H locs hp92 hP hD hS => ?_)
        obtain ⟨eL93L, eL93T, eL93F⟩ := hp92
        have eL93L : L90 = L := eL93L
        rw [eL93L] at hP hD
        have hT : TI g ad th f91 := eL93T
        have eL93F : ∀ b, b ≠ (cr ad j 0) → b ≠ (cr ad j 5) → b ≠ (cr ad j 7) → f91 b = f82 b := eL93F
        have hf94 := (eL93F (ad 6) (hst.ne (by omega) (by omega) (by omega)) (hst.ne (by omega) (by omega) (by omega)) (hst.ne (by omega) (by omega) (by omega))).trans hf85
        have hf95 := (eL93F (ad 13) (hst.ne (by omega) (by omega) (by omega)) (hst.ne (by omega) (by omega) (by omega)) (hst.ne (by omega) (by omega) (by omega))).trans hf86
        have hfr : (∀ b, b ≠ (ad 13) → b ≠ (cr ad j 0) → b ≠ (cr ad j 2) → b ≠ (cr ad j 3) → b ≠ (cr ad j 4) → b ≠ (cr ad j 5) → b ≠ (cr ad j 6) → b ≠ (cr ad j 7) → b ≠ (cr ad j 8) → b ≠ (cr ad j 9) → f91 b = f b) := fun b z0_ z1_ z2_ z3_ z4_ z5_ z6_ z7_ z8_ z9_ => (eL93F b z1_ z5_ z7_).trans (hfr b z0_ z1_ z2_ z3_ z4_ z5_ z6_ z7_ z8_ z9_)
        exact hJ111 _ _ _ _ hP hD hS hT hfr hf95 hf94 (lv_sub hl [2, 3, 4, 1, 0] rfl)
      ·
        have cc96 : r23.toInt = x39.toInt := congrArg Int32.toInt c76
        have hb97 : In r23 1 2 := In.eq1 eL27R hb40 cc96 (by omega) (by omega)
        refine lv_aload_n hx hb dX3_play_60 rfl (lv_at hl 3 rfl) ?_
        refine lv_iload_n hx hb dX3_play_61 rfl (lv_at hl 1 rfl) ?_
        refine call_i (run_VN (rm := rm_X2_ruler_co) hx hb hml hown hts (s_X2_ruler_co l g ad th _ _ _ r5 hst hT (In.mono hb13 (by decide) (by decide))) cV_X2_ruler wn_778 ⟨Nat.le_of_ble_eq_true rfl, Nat.le_of_ble_eq_true rfl⟩ hG hE hA hP hD hS (hst.1 6 (by decide)) hf32 rfl rfl hl.1 (As := [.int r5]) (rest := []) rfl (Nat.le_of_ble_eq_true rfl) dX3_play_62 ⟨Nat.le_of_ble_eq_true rfl, Nat.le_of_ble_eq_true rfl⟩) hA hD hS (fun r98 L99 f100 H locs hp101 hP hD hS => ?_)
        obtain ⟨eL102L, eL102T, eL102R⟩ := hp101
        have eL102L : L99 = L := eL102L
        have eL102T : f100 = f28 := eL102T
        rw [eL102L, eL102T] at hP hD
        have eL102R : In r98 0 8 := eL102R
        refine lv_istore (lv' := [(5, .int r98), (4, .int v4_1), (3, .int r5), (0, .ref (cr ad j 0)), (1, .ref (ad 6)), (2, .ref (ad 13))]) hx hb dX3_play_65 hl (by decide) rfl (fun ls hl => ?_)
        refine lv_aload_n hx hb dX3_play_67 rfl (lv_at hl 3 rfl) ?_
        refine lv_aload_n hx hb dX3_play_68 rfl (lv_at hl 4 rfl) ?_
        refine lv_aload_n hx hb dX3_play_69 rfl (lv_at hl 5 rfl) ?_
        refine lv_iload hx hb dX3_play_70 (lv_at hl 0 rfl) ?_
        refine lv_iload hx hb dX3_play_72 (lv_at hl 0 rfl) ?_
        refine call_v (run_V (rm := rm_X3_send_co_pn) hx hb hml hown hts (s_X3_send_co_pn l g ad th _ _ _ j r98 r98 hst hT hj eL102R (In.mono eL102R (by decide) (by decide))) cV_X3_send wg_782 ⟨Nat.le_of_ble_eq_true rfl, Nat.le_of_ble_eq_true rfl⟩ hG hE hA hP hD hS (hst.c hj (by decide)) hf31 rfl rfl hl.1 (As := [.ref (ad 6), .ref (ad 13), .int r98, .int r98]) (rest := []) rfl (Nat.le_of_ble_eq_true rfl) dX3_play_74 ⟨Nat.le_of_ble_eq_true rfl, Nat.le_of_ble_eq_true rfl⟩) hA hD hS (fun L104 f105 H locs hp106 hP hD hS => ?_)
        obtain ⟨eL107L, eL107T, eL107F⟩ := hp106
        have eL107L : L104 = L := eL107L
        rw [eL107L] at hP hD
        have hT : TI g ad th f105 := eL107T
        have eL107F : ∀ b, b ≠ (cr ad j 0) → b ≠ (cr ad j 2) → b ≠ (cr ad j 3) → b ≠ (cr ad j 4) → f105 b = f28 b := eL107F
        have hf108 := (eL107F (ad 6) (hst.ne (by omega) (by omega) (by omega)) (hst.ne (by omega) (by omega) (by omega)) (hst.ne (by omega) (by omega) (by omega)) (hst.ne (by omega) (by omega) (by omega))).trans hf32
        have hf109 := (eL107F (ad 13) (hst.ne (by omega) (by omega) (by omega)) (hst.ne (by omega) (by omega) (by omega)) (hst.ne (by omega) (by omega) (by omega)) (hst.ne (by omega) (by omega) (by omega))).trans hf29
        have hfr : (∀ b, b ≠ (ad 13) → b ≠ (cr ad j 0) → b ≠ (cr ad j 2) → b ≠ (cr ad j 3) → b ≠ (cr ad j 4) → b ≠ (cr ad j 5) → b ≠ (cr ad j 6) → b ≠ (cr ad j 7) → b ≠ (cr ad j 8) → b ≠ (cr ad j 9) → f105 b = f b) := fun b z0_ z1_ z2_ z3_ z4_ z5_ z6_ z7_ z8_ z9_ => (eL107F b z1_ z2_ z3_ z4_).trans (hfr b z0_ z1_ z2_ z3_ z4_ z5_ z6_ z7_ z8_ z9_)
        refine lv_aload_n hx hb dX3_play_77 rfl (lv_at hl 3 rfl) ?_
        refine lv_aload_n hx hb dX3_play_78 rfl (lv_at hl 4 rfl) ?_
        refine lv_iload_n hx hb dX3_play_79 rfl (lv_at hl 2 rfl) ?_
        refine lv_iload hx hb dX3_play_80 (lv_at hl 0 rfl) ?_
        obtain ⟨v0_110, v1_110, v2_110, v3_110, v4_110, v5_110, v6_110, v7_110, v8_110, hf111, hv1_110, hg1_110, hv2_110, hg2_110, hv6_110⟩ := hT.2.1 j hj 0 (by decide)
        refine call_v (run_V (rm := rm_X3_hearRuler_co) hx hb hml hown hts (s_X3_hearRuler_co l g ad th _ _ _ j r5 r98 hst hT hj hb13 eL102R) cV_X3_hearRuler wg_842 ⟨Nat.le_of_ble_eq_true rfl, Nat.le_of_ble_eq_true rfl⟩ hG hE hA hP hD hS (hst.c hj (by decide)) hf111 rfl rfl hl.1 (As := [.ref (ad 6), .int r5, .int r98]) (rest := []) rfl (Nat.le_of_ble_eq_true rfl) dX3_play_82 ⟨Nat.le_of_ble_eq_true rfl, Nat.le_of_ble_eq_true rfl⟩) hA hD hS (fun L113 f114 H locs hp115 hP hD hS => ?_)
        obtain ⟨eL116L, eL116T, eL116F⟩ := hp115
        have eL116L : L113 = L := eL116L
        rw [eL116L] at hP hD
        have hT : TI g ad th f114 := eL116T
        have eL116F : ∀ b, b ≠ (cr ad j 0) → b ≠ (cr ad j 6) → b ≠ (cr ad j 8) → f114 b = f105 b := eL116F
        have hf117 := (eL116F (ad 6) (hst.ne (by omega) (by omega) (by omega)) (hst.ne (by omega) (by omega) (by omega)) (hst.ne (by omega) (by omega) (by omega))).trans hf108
        have hf118 := (eL116F (ad 13) (hst.ne (by omega) (by omega) (by omega)) (hst.ne (by omega) (by omega) (by omega)) (hst.ne (by omega) (by omega) (by omega))).trans hf109
        have hfr : (∀ b, b ≠ (ad 13) → b ≠ (cr ad j 0) → b ≠ (cr ad j 2) → b ≠ (cr ad j 3) → b ≠ (cr ad j 4) → b ≠ (cr ad j 5) → b ≠ (cr ad j 6) → b ≠ (cr ad j 7) → b ≠ (cr ad j 8) → b ≠ (cr ad j 9) → f114 b = f b) := fun b z0_ z1_ z2_ z3_ z4_ z5_ z6_ z7_ z8_ z9_ => (eL116F b z1_ z6_ z8_).trans (hfr b z0_ z1_ z2_ z3_ z4_ z5_ z6_ z7_ z8_ z9_)
        refine lv_goto (tgt := 111) hx hb dX3_play_85 (by decide) ?_
        exact hJ111 _ _ _ _ hP hD hS hT hfr hf118 hf117 (lv_sub hl [3, 4, 5, 2, 1] rfl)
    ·
      have cc119 : (6 : Int32).toInt ≤ r5.toInt := i32_nlt c15
      exact In.empty (lo := 6) (hi := 5) (In.ge1 hb13 (⟨by decide, by decide⟩ : In 6 6 6) cc119 (by omega) (by omega)) (by decide)

abbrev rm_X3_rowOf_ot_pn : Room := { frames := 3, cells := 0, slots := 0, locals := 75 }
abbrev po_X3_rowOf_ot_pn (g : GG) (ad : Nat → Nat) (th : Nat → Int) (L : List Nat) (f : HP) (j : Nat) (z3 : Int32) : Int64 → (List Nat × HP) → Prop := fun r u => u.1 = L ∧ TI g ad th u.2 ∧ (∀ b, b ≠ (cr ad j 0) → u.2 b = f b)
set_option maxHeartbeats 4000000 in
set_option maxRecDepth 100000 in
theorem s_X3_rowOf_ot_pn (l : Launch) (g : GG) (ad : Nat → Nat) (th : Nat → Int) (L : List Nat) (f : HP) (sz : Nat) (j : Nat) (z3 : Int32) (hst : ST ad L) (hT : TI g ad th f) (hj : j < 23) (hz3 : In z3 0 8) : MtL l g yX3_rowOf cX3_rowOf 8 (some .long) rm_X3_rowOf_ot_pn [.ref (cr ad j 0), .ref (ad 7), .ref (ad 13), .int z3] L f sz (po_X3_rowOf_ot_pn g ad th L f j z3) := by
  refine MtL.of (by decide +kernel) (Nat.le_of_ble_eq_true rfl) ?_
  intro p e s m below meth c A hEn hP hD hS ls hl
  obtain ⟨hx, hb, hr, hml, hown, hlocks, hts, hG, hA, hE, hnm⟩ := hEn
  have hown : s.vm.findClass "RulerWord$Course" = some m.cls := hown
  have hl : lv_has ls 8 [(0, .ref (cr ad j 0)), (1, .ref (ad 7)), (2, .ref (ad 13)), (3, .int z3)] := hl
  have hfr : (∀ b, b ≠ (cr ad j 0) → f b = f b) := fun b z0_ => rfl
  refine lv_aload_n hx hb dX3_rowOf_0 rfl (lv_at hl 0 rfl) ?_
  refine lv_aload_n hx hb dX3_rowOf_1 rfl (lv_at hl 1 rfl) ?_
  refine lv_aload_n hx hb dX3_rowOf_2 rfl (lv_at hl 2 rfl) ?_
  refine lv_iload_n hx hb dX3_rowOf_3 rfl (lv_at hl 3 rfl) ?_
  obtain ⟨v0_1, v1_1, v2_1, v3_1, v4_1, v5_1, v6_1, v7_1, v8_1, hf2, hv1_1, hg1_1, hv2_1, hg2_1, hv6_1⟩ := hT.2.1 j hj 0 (by decide)
  refine call_i (run_V (rm := rm_X3_trueLetter_ot_pn) hx hb hml hown hts (s_X3_trueLetter_ot_pn l g ad th _ _ _ j z3 hst hT hj) cV_X3_trueLetter wg_790 ⟨Nat.le_of_ble_eq_true rfl, Nat.le_of_ble_eq_true rfl⟩ hG hE hA hP hD hS (hst.c hj (by decide)) hf2 rfl rfl hl.1 (As := [.ref (ad 7), .ref (ad 13), .int z3]) (rest := []) rfl (Nat.le_of_ble_eq_true rfl) dX3_rowOf_4 ⟨Nat.le_of_ble_eq_true rfl, Nat.le_of_ble_eq_true rfl⟩) hA hD hS (fun r3 L4 f5 H locs hp6 hP hD hS => ?_)
  obtain ⟨eL7L, eL7T⟩ := hp6
  have eL7L : L4 = L := eL7L
  have eL7T : f5 = f := eL7T
  rw [eL7L, eL7T] at hP hD
  refine lv_istore (lv' := [(4, .int r3), (0, .ref (cr ad j 0)), (1, .ref (ad 7)), (2, .ref (ad 13)), (3, .int z3)]) hx hb dX3_rowOf_7 hl (by decide) rfl (fun ls hl => ?_)
  refine lv_aload_n hx hb dX3_rowOf_9 rfl (lv_at hl 1 rfl) ?_
  refine pl_get (v := .int v1_1) hx hb hts (fun w h => mT (inX3 w h)) hown hG.1 hP (hst.c hj (by decide)) hf2 rfl 1 (by decide) (hts _ (mT wg_338)) (fun _ h => h) rfl dX3_rowOf_10 ?_
  refine lv_iload_n hx hb dX3_rowOf_13 rfl (lv_at hl 4 rfl) ?_
  refine call_i (run_SN (rm := rm_X10_bit) hx hb hml hown hts (s_X10_bit l g ad th _ _ _ v1_1 z3 hst hT ) cS_X10_bit wn_794 ⟨Nat.le_of_ble_eq_true rfl, Nat.le_of_ble_eq_true rfl⟩ hG hE hA hP hD hS rfl hl.1 (As := [.int v1_1, .int z3]) (rest := []) rfl (Nat.le_of_ble_eq_true rfl) dX3_rowOf_14 ⟨Nat.le_of_ble_eq_true rfl, Nat.le_of_ble_eq_true rfl⟩) hA hD hS (fun r8 L9 f10 H locs hp11 hP hD hS => ?_)
  obtain ⟨eL12L, eL12T, eL12R, eL12X0⟩ := hp11
  have eL12L : L9 = L := eL12L
  have eL12T : f10 = f := eL12T
  rw [eL12L, eL12T] at hP hD
  have eL12R : In r8 0 1 := eL12R
  refine lv_if_ne (tgt := 28) hx hb dX3_rowOf_17 (by decide) (fun c13 => ?_) (fun c13 => ?_)
  ·
    have cc14 : r8.toInt ≠ (0 : Int32).toInt := i32_ne c13
    have hb15 : In r8 1 1 := In.ne1 eL12R (⟨by decide, by decide⟩ : In 0 0 0) cc14 (by omega) (by omega)
    refine lv_lconst (v := 0) hx hb dX3_rowOf_28 (by decide) ?_
    refine lv_lstore (lv' := [(5, .long 0), (4, .int r3), (0, .ref (cr ad j 0)), (1, .ref (ad 7)), (2, .ref (ad 13)), (3, .int z3)]) hx hb dX3_rowOf_29 hl (by decide) rfl (fun ls hl => ?_)
    refine lv_iconst (v := 0) hx hb dX3_rowOf_31 (by decide) ?_
    refine lv_istore (lv' := [(7, .int 0), (5, .long 0), (4, .int r3), (0, .ref (cr ad j 0)), (1, .ref (ad 7)), (2, .ref (ad 13)), (3, .int z3)]) hx hb dX3_rowOf_32 hl (by decide) rfl (fun ls hl => ?_)
    have hJ34 : ∀ (k34 : Nat) (y34_l5 : Int64) (y34_l7 : Int32) (f_34 : HP) (H : Heap) (locs : List Loc) (ls : Array Slot), In y34_l7 0 9 → va_P g.1 vwCl (va_pl L f_34) H → va_D A (va_pl L f_34) → va_S A s.heap H locs → TI g ad th f_34 → (∀ b, b ≠ (cr ad j 0) → f_34 b = f b) → lv_has ls 8 [(0, .ref (cr ad j 0)), (1, .ref (ad 7)), (2, .ref (ad 13)), (3, .int z3), (4, .int r3), (5, .long y34_l5), (7, .int y34_l7)] → 9 - y34_l7.toInt < ((k34 : Nat) : Int) → W p l e rm_X3_rowOf_ot_pn s m [.ref (cr ad j 0), .ref (ad 7), .ref (ad 13), .int z3].toArray below meth c H locs 0 0 (MQ below (va_Ql (po_X3_rowOf_ot_pn g ad th L f j z3) (PstB g A) A) [.ref (cr ad j 0), .ref (ad 7), .ref (ad 13), .int z3].toArray s rm_X3_rowOf_ot_pn.cells rm_X3_rowOf_ot_pn.slots A) (F0 m 34 ls []) := by
      intro k34
      induction k34 with
      | zero =>
        intro y34_l5 y34_l7 f_34 H locs ls hy34_l7 hP hD hS hT hfr hl hmz34
        exact ms0 hy34_l7 hmz34
      | succ k34 ih34 =>
        intro y34_l5 y34_l7 f_34 H locs ls hy34_l7 hP hD hS hT hfr hl hmz34
        refine lv_iload hx hb dX3_rowOf_34 (lv_at hl 6 rfl) ?_
        refine lv_aload_n hx hb dX3_rowOf_36 rfl (lv_at hl 1 rfl) ?_
        obtain ⟨v0_16, v1_16, v2_16, v3_16, v4_16, v5_16, v6_16, v7_16, hf17, hv0_16, hg0_16, hv1_16, hv2_16, hv3_16, hv5_16, hv6_16⟩ := hT.1 7 (by decide)
        refine pl_getN (v := .int v1_16) hx hb hts (fun w h => mT (inX2 w h)) hown hG.1 hP (hst.1 7 (by decide)) hf17 rfl 1 (by decide) (hG.2.1 _ wn_231) (fun _ h => h) rfl dX3_rowOf_37 ?_
        refine lv_icmp_ge (tgt := 70) hx hb dX3_rowOf_40 (by decide) (fun c18 => ?_) (fun c18 => ?_)
        ·
          refine lv_lload hx hb dX3_rowOf_70 (lv_at hl 5 rfl) ?_
          exact ret_l hx hb hr hlocks hP hD hS (Nat.le_of_ble_eq_true rfl) (Nat.le_of_ble_eq_true rfl) (⟨rfl, hT, hfr⟩) dX3_rowOf_72
        ·
          have cc19 : y34_l7.toInt < v1_16.toInt := i32_nle c18
          have hb20 : In y34_l7 0 8 := In.lt1 hy34_l7 hv1_16 cc19 (by omega) (by omega)
          have hb21 : In v1_16 1 9 := In.lt2 hy34_l7 hv1_16 cc19 (by omega) (by omega)
          refine lv_lload hx hb dX3_rowOf_43 (lv_at hl 5 rfl) ?_
          refine lv_aload_n hx hb dX3_rowOf_45 rfl (lv_at hl 2 rfl) ?_
          refine lv_aload_n hx hb dX3_rowOf_46 rfl (lv_at hl 0 rfl) ?_
          refine lv_iload_n hx hb dX3_rowOf_47 rfl (lv_at hl 3 rfl) ?_
          refine lv_iload hx hb dX3_rowOf_48 (lv_at hl 6 rfl) ?_
          refine lv_iload hx hb dX3_rowOf_50 (lv_at hl 4 rfl) ?_
          obtain ⟨v0_22, v1_22, hf23, hv0_22, hv1_22⟩ := hT.1 13 (by decide)
          refine call_i (run_VA (rm := rm_X6_choose) (owner := "RulerWord$Voice") hx hb hml hown hts (s_X6_choose l g ad th _ _ _ j z3 y34_l7 r3 hst hT hj) (mG 818 (by decide +kernel) rfl) wg_799 wg_801 wg_816 wg_817 wg_162 wn_800 ⟨by decide +kernel, by decide +kernel, by decide +kernel⟩ ⟨Nat.le_of_ble_eq_true rfl, Nat.le_of_ble_eq_true rfl⟩ hG hE hA hP hD hS (hst.1 13 (by decide)) hf23 rfl rfl hl.1 (n := 4) (As := [.ref (cr ad j 0), .int z3, .int y34_l7, .int r3]) (rest := [.long y34_l5]) rfl (Nat.le_of_ble_eq_true rfl) dX3_rowOf_52 ⟨Nat.le_of_ble_eq_true rfl, Nat.le_of_ble_eq_true rfl⟩) hA hD hS (fun r24 L25 f26 H locs hp27 hP hD hS => ?_)
          obtain ⟨eL28L, eL28T, eL28F⟩ := hp27
          have eL28L : L25 = L := eL28L
          rw [eL28L] at hP hD
          have hT : TI g ad th f26 := eL28T
          have eL28F : ∀ b, b ≠ (cr ad j 0) → f26 b = f_34 b := eL28F
          have hf29 := (eL28F (ad 7) (hst.ne (by omega) (by omega) (by omega))).trans hf17
          have hf30 := (eL28F (ad 13) (hst.ne (by omega) (by omega) (by omega))).trans hf23
          have hfr : (∀ b, b ≠ (cr ad j 0) → f26 b = f b) := fun b z0_ => (eL28F b z0_).trans (hfr b z0_)
          refine lv_i2l hx hb dX3_rowOf_55 rfl ?_
          refine lv_iconst (v := 4) hx hb dX3_rowOf_56 (by decide) ?_
          refine lv_iload hx hb dX3_rowOf_57 (lv_at hl 6 rfl) ?_
          refine lv_imul hx hb dX3_rowOf_59 ?_
          refine lv_topi (fun x31 ex31 => ?_)
          have hb32 : In x31 0 32 := ex31 ▸ In.mul (⟨by decide, by decide⟩ : In 4 4 4) hb20 (by decide) (by decide) (by decide) (by decide) (by decide)
          refine lv_lshl hx hb dX3_rowOf_60 rfl ?_
          refine lv_topl (fun x33 ex33 => ?_)
          refine lv_lor hx hb dX3_rowOf_61 ?_
          refine lv_topl (fun x34 ex34 => ?_)
          refine lv_lstore (lv' := [(5, .long x34), (0, .ref (cr ad j 0)), (1, .ref (ad 7)), (2, .ref (ad 13)), (3, .int z3), (4, .int r3), (7, .int y34_l7)]) hx hb dX3_rowOf_62 hl (by decide) rfl (fun ls hl => ?_)
          obtain ⟨x35, ex35⟩ : ∃ y : Int32, y = y34_l7 + 1 := ⟨_, rfl⟩
          have hb36 : In x35 1 9 := ex35 ▸ In.add hb20 (⟨by decide, by decide⟩ : In 1 1 1) (by decide) (by decide) (by decide) (by decide)
          have et37 : x35.toInt = y34_l7.toInt + 1 := In.adde ex35 hb20 (k := 1) (by decide) (by decide) (by decide)
          refine lv_iinc (v := x35) (lv' := [(7, .int x35), (5, .long x34), (0, .ref (cr ad j 0)), (1, .ref (ad 7)), (2, .ref (ad 13)), (3, .int z3), (4, .int r3)]) hx hb dX3_rowOf_64 hl (k := 6) rfl (by rw [ex35]; rfl) (by decide) rfl (fun ls hl => ?_)
          refine lv_goto (tgt := 34) hx hb dX3_rowOf_67 (by decide) ?_
          exact ih34 x34 x35 _ _ _ _ (In.mono hb36 (by decide) (by decide)) hP hD hS hT hfr (lv_sub hl [2, 3, 4, 5, 6, 1, 0] rfl) (msu et37 (by decide) hmz34)
    exact hJ34 ((9 - (0 : Int32).toInt).toNat + 1) 0 0 _ _ _ _ (⟨by decide, by decide⟩ : In 0 0 9) hP hD hS hT hfr (lv_sub hl [3, 4, 5, 6, 2, 1, 0] rfl) (msI _)
  ·
    have cc38 : r8.toInt = (0 : Int32).toInt := congrArg Int32.toInt c13
    have hb39 : In r8 0 0 := In.eq1 eL12R (⟨by decide, by decide⟩ : In 0 0 0) cc38 (by omega) (by omega)
    refine lv_iload hx hb dX3_rowOf_20 (lv_at hl 0 rfl) ?_
    refine lv_i2l hx hb dX3_rowOf_22 rfl ?_
    refine lv_ldc2 hx hb hown (hts _ (mT wg_798)) dX3_rowOf_23 ?_
    refine lv_lmul hx hb dX3_rowOf_26 ?_
    refine lv_topl (fun x40 ex40 => ?_)
    exact ret_l hx hb hr hlocks hP hD hS (Nat.le_of_ble_eq_true rfl) (Nat.le_of_ble_eq_true rfl) (⟨rfl, hT, hfr⟩) dX3_rowOf_27

abbrev rm_X3_send_ot_pn : Room := { frames := 4, cells := 0, slots := 0, locals := 102 }
abbrev po_X3_send_ot_pn (g : GG) (ad : Nat → Nat) (th : Nat → Int) (L : List Nat) (f : HP) (j : Nat) (z3 : Int32) (z4 : Int32) : (List Nat × HP) → Prop := fun u => u.1 = L ∧ TI g ad th u.2 ∧ (∀ b, b ≠ (cr ad j 0) → b ≠ (cr ad j 2) → b ≠ (cr ad j 3) → b ≠ (cr ad j 4) → u.2 b = f b)
set_option maxHeartbeats 4000000 in
set_option maxRecDepth 100000 in
theorem s_X3_send_ot_pn (l : Launch) (g : GG) (ad : Nat → Nat) (th : Nat → Int) (L : List Nat) (f : HP) (sz : Nat) (j : Nat) (z3 : Int32) (z4 : Int32) (hst : ST ad L) (hT : TI g ad th f) (hj : j < 23) (hz3 : In z3 0 8) (hz4 : In z4 (-1) 8) : MtV l g yX3_send cX3_send 10 rm_X3_send_ot_pn [.ref (cr ad j 0), .ref (ad 7), .ref (ad 13), .int z3, .int z4] L f sz (po_X3_send_ot_pn g ad th L f j z3 z4) := by
  refine MtV.of (by decide +kernel) (Nat.le_of_ble_eq_true rfl) ?_
  intro p e s m below meth c A hEn hP hD hS ls hl
  obtain ⟨hx, hb, hr, hml, hown, hlocks, hts, hG, hA, hE, hnm⟩ := hEn
  have hown : s.vm.findClass "RulerWord$Course" = some m.cls := hown
  have hl : lv_has ls 10 [(0, .ref (cr ad j 0)), (1, .ref (ad 7)), (2, .ref (ad 13)), (3, .int z3), (4, .int z4)] := hl
  have hfr : (∀ b, b ≠ (cr ad j 0) → b ≠ (cr ad j 2) → b ≠ (cr ad j 3) → b ≠ (cr ad j 4) → f b = f b) := fun b z0_ z1_ z2_ z3_ => rfl
  refine lv_aload_n hx hb dX3_send_0 rfl (lv_at hl 2 rfl) ?_
  obtain ⟨v0_1, v1_1, hf2, hv0_1, hv1_1⟩ := hT.1 13 (by decide)
  refine pl_get (v := .int v0_1) hx hb hts (fun w h => mT (inX6 w h)) hown hG.1 hP (hst.1 13 (by decide)) hf2 rfl 0 (by decide) (hts _ (mT wg_292)) (fun _ h => h) rfl dX3_send_1 ?_
  refine lv_iconst (v := 3) hx hb dX3_send_4 (by decide) ?_
  refine lv_imul hx hb dX3_send_5 ?_
  refine lv_topi (fun x3 ex3 => ?_)
  have hb4 : In x3 0 15 := ex3 ▸ In.mul hv0_1 (⟨by decide, by decide⟩ : In 3 3 3) (by decide) (by decide) (by decide) (by decide) (by decide)
  refine lv_aload_n hx hb dX3_send_6 rfl (lv_at hl 2 rfl) ?_
  refine pl_get (v := .int v1_1) hx hb hts (fun w h => mT (inX6 w h)) hown hG.1 hP (hst.1 13 (by decide)) hf2 rfl 1 (by decide) (hts _ (mT wg_295)) (fun _ h => h) rfl dX3_send_7 ?_
  refine lv_iadd hx hb dX3_send_10 ?_
  refine lv_topi (fun x5 ex5 => ?_)
  have hb6 : In x5 0 17 := ex5 ▸ In.add hb4 hv1_1 (by decide) (by decide) (by decide) (by decide)
  have et7 : x5.toInt = x3.toInt + v1_1.toInt := In.add2e ex5 hb4 hv1_1 (by decide) (by decide)
  refine lv_istore (lv' := [(5, .int x5), (0, .ref (cr ad j 0)), (1, .ref (ad 7)), (2, .ref (ad 13)), (3, .int z3), (4, .int z4)]) hx hb dX3_send_11 hl (by decide) rfl (fun ls hl => ?_)
  refine lv_aload_n hx hb dX3_send_13 rfl (lv_at hl 1 rfl) ?_
  obtain ⟨v0_8, v1_8, v2_8, v3_8, v4_8, v5_8, v6_8, v7_8, v8_8, hf9, hv1_8, hg1_8, hv2_8, hg2_8, hv6_8⟩ := hT.2.1 j hj 0 (by decide)
  refine pl_get (v := .ref (cr ad j 3)) hx hb hts (fun w h => mT (inX3 w h)) hown hG.1 hP (hst.c hj (by decide)) hf9 rfl 11 (by decide) (hts _ (mT wg_354)) (fun _ h => h) rfl dX3_send_14 ?_
  refine lv_iload hx hb dX3_send_17 (lv_at hl 0 rfl) ?_
  refine lv_lconst (v := 0) hx hb dX3_send_19 (by decide) ?_
  obtain ⟨rw10, hf11⟩ := hT.2.1 j hj 3 (by decide)
  refine pl_lastE hx hb hG.1 hP hD hS (hst.c hj (by decide)) 1 hf11 rfl (In.inb hb6 (by decide) (by decide)) dX3_send_20 (fun H locs f12 r15 er15 hf13 ho14 hP hD hS => ?_)
  have hf16 := (ho14 (ad 13) (hst.ne (by omega) (by omega) (by omega))).trans hf2
  have hf17 := (ho14 (cr ad j 0) (hst.ne (by omega) (by omega) (by omega))).trans hf9
  have hfr : (∀ b, b ≠ (cr ad j 0) → b ≠ (cr ad j 2) → b ≠ (cr ad j 3) → b ≠ (cr ad j 4) → f12 b = f b) := fun b z0_ z1_ z2_ z3_ => (ho14 b z2_).trans (hfr b z0_ z1_ z2_ z3_)
  refine lv_aload_n hx hb dX3_send_21 rfl (lv_at hl 1 rfl) ?_
  refine pl_get (v := .ref (cr ad j 4)) hx hb hts (fun w h => mT (inX3 w h)) hown hG.1 hP (hst.c hj (by decide)) hf17 rfl 12 (by decide) (hts _ (mT wg_355)) (fun _ h => h) rfl dX3_send_22 ?_
  refine lv_iload hx hb dX3_send_25 (lv_at hl 0 rfl) ?_
  refine lv_lconst (v := 0) hx hb dX3_send_27 (by decide) ?_
  have hT := TI.updC hT hst hj (k := 3) (by decide) hf13 ho14 ⟨r15, rfl⟩
  obtain ⟨rw18, hf19⟩ := hT.2.1 j hj 4 (by decide)
  refine pl_lastE hx hb hG.1 hP hD hS (hst.c hj (by decide)) 1 hf19 rfl (In.inb hb6 (by decide) (by decide)) dX3_send_28 (fun H locs f20 r23 er23 hf21 ho22 hP hD hS => ?_)
  have hf24 := (ho22 (ad 13) (hst.ne (by omega) (by omega) (by omega))).trans hf16
  have hf25 := (ho22 (cr ad j 0) (hst.ne (by omega) (by omega) (by omega))).trans hf17
  have hf26 := (ho22 (cr ad j 3) (hst.ne (by omega) (by omega) (by omega))).trans hf13
  have hfr : (∀ b, b ≠ (cr ad j 0) → b ≠ (cr ad j 2) → b ≠ (cr ad j 3) → b ≠ (cr ad j 4) → f20 b = f b) := fun b z0_ z1_ z2_ z3_ => (ho22 b z3_).trans (hfr b z0_ z1_ z2_ z3_)
  refine lv_iload_n hx hb dX3_send_29 rfl (lv_at hl 4 rfl) ?_
  refine lv_istore (lv' := [(6, .int z3), (5, .int x5), (0, .ref (cr ad j 0)), (1, .ref (ad 7)), (2, .ref (ad 13)), (3, .int z3), (4, .int z4)]) hx hb dX3_send_30 hl (by decide) rfl (fun ls hl => ?_)
  have hT := TI.updC hT hst hj (k := 4) (by decide) hf21 ho22 ⟨r23, rfl⟩
  have hJ32 : ∀ (k32 : Nat) (y32_l6 : Int32) (f_32 : HP) (H : Heap) (locs : List Loc) (ls : Array Slot), In y32_l6 0 9 → va_P g.1 vwCl (va_pl L f_32) H → va_D A (va_pl L f_32) → va_S A s.heap H locs → TI g ad th f_32 → (∀ b, b ≠ (cr ad j 0) → b ≠ (cr ad j 2) → b ≠ (cr ad j 3) → b ≠ (cr ad j 4) → f_32 b = f b) → f_32 (ad 13) = .inr (6, [.int v0_1, .int v1_1, .ref (ad 11)]) → lv_has ls 10 [(0, .ref (cr ad j 0)), (1, .ref (ad 7)), (2, .ref (ad 13)), (3, .int z3), (4, .int z4), (5, .int x5), (6, .int y32_l6)] → 9 - y32_l6.toInt < ((k32 : Nat) : Int) → W p l e rm_X3_send_ot_pn s m [.ref (cr ad j 0), .ref (ad 7), .ref (ad 13), .int z3, .int z4].toArray below meth c H locs 0 0 (MQ below (va_Qv (po_X3_send_ot_pn g ad th L f j z3 z4) (PstB g A) A) [.ref (cr ad j 0), .ref (ad 7), .ref (ad 13), .int z3, .int z4].toArray s rm_X3_send_ot_pn.cells rm_X3_send_ot_pn.slots A) (F0 m 32 ls []) := by
    intro k32
    induction k32 with
    | zero =>
      intro y32_l6 f_32 H locs ls hy32_l6 hP hD hS hT hfr hf27 hl hmz32
      exact ms0 hy32_l6 hmz32
    | succ k32 ih32 =>
      intro y32_l6 f_32 H locs ls hy32_l6 hP hD hS hT hfr hf27 hl hmz32
      refine lv_iload hx hb dX3_send_32 (lv_at hl 6 rfl) ?_
      refine lv_iload hx hb dX3_send_34 (lv_at hl 4 rfl) ?_
      refine lv_icmp_gt (tgt := 155) hx hb dX3_send_36 (by decide) (fun c28 => ?_) (fun c28 => ?_)
      ·
        exact ret_v hx hb hr hlocks hP hD hS (Nat.le_of_ble_eq_true rfl) (Nat.le_of_ble_eq_true rfl) (⟨rfl, hT, hfr⟩) dX3_send_155
      ·
        have cc29 : y32_l6.toInt ≤ z4.toInt := i32_nlt c28
        have hb30 : In y32_l6 0 8 := In.le1 hy32_l6 hz4 cc29 (by omega) (by omega)
        have hb31 : In z4 0 8 := In.le2 hy32_l6 hz4 cc29 (by omega) (by omega)
        refine lv_aload_n hx hb dX3_send_39 rfl (lv_at hl 0 rfl) ?_
        refine lv_aload_n hx hb dX3_send_40 rfl (lv_at hl 1 rfl) ?_
        refine lv_aload_n hx hb dX3_send_41 rfl (lv_at hl 2 rfl) ?_
        refine lv_iload hx hb dX3_send_42 (lv_at hl 6 rfl) ?_
        obtain ⟨v0_32, v1_32, v2_32, v3_32, v4_32, v5_32, v6_32, v7_32, v8_32, hf33, hv1_32, hg1_32, hv2_32, hg2_32, hv6_32⟩ := hT.2.1 j hj 0 (by decide)
        refine call_l (run_V (rm := rm_X3_rowOf_ot_pn) hx hb hml hown hts (s_X3_rowOf_ot_pn l g ad th _ _ _ j y32_l6 hst hT hj hb30) cV_X3_rowOf wg_786 ⟨Nat.le_of_ble_eq_true rfl, Nat.le_of_ble_eq_true rfl⟩ hG hE hA hP hD hS (hst.c hj (by decide)) hf33 rfl rfl hl.1 (As := [.ref (ad 7), .ref (ad 13), .int y32_l6]) (rest := []) rfl (Nat.le_of_ble_eq_true rfl) dX3_send_44 ⟨Nat.le_of_ble_eq_true rfl, Nat.le_of_ble_eq_true rfl⟩) hA hD hS (fun r34 L35 f36 H locs hp37 hP hD hS => ?_)
        obtain ⟨eL38L, eL38T, eL38F⟩ := hp37
        have eL38L : L35 = L := eL38L
        rw [eL38L] at hP hD
        have hT : TI g ad th f36 := eL38T
        have eL38F : ∀ b, b ≠ (cr ad j 0) → f36 b = f_32 b := eL38F
        have hf39 := (eL38F (ad 13) (hst.ne (by omega) (by omega) (by omega))).trans hf27
        have hfr : (∀ b, b ≠ (cr ad j 0) → b ≠ (cr ad j 2) → b ≠ (cr ad j 3) → b ≠ (cr ad j 4) → f36 b = f b) := fun b z0_ z1_ z2_ z3_ => (eL38F b z0_).trans (hfr b z0_ z1_ z2_ z3_)
        refine lv_lstore (lv' := [(7, .long r34), (0, .ref (cr ad j 0)), (1, .ref (ad 7)), (2, .ref (ad 13)), (3, .int z3), (4, .int z4), (5, .int x5), (6, .int y32_l6)]) hx hb dX3_send_47 hl (by decide) rfl (fun ls hl => ?_)
        refine lv_aload_n hx hb dX3_send_49 rfl (lv_at hl 1 rfl) ?_
        obtain ⟨v0_40, v1_40, v2_40, v3_40, v4_40, v5_40, v6_40, v7_40, v8_40, hf41, hv1_40, hg1_40, hv2_40, hg2_40, hv6_40⟩ := hT.2.1 j hj 0 (by decide)
        refine pl_get (v := .ref (cr ad j 2)) hx hb hts (fun w h => mT (inX3 w h)) hown hG.1 hP (hst.c hj (by decide)) hf41 rfl 10 (by decide) (hts _ (mT wg_353)) (fun _ h => h) rfl dX3_send_50 ?_
        refine lv_iload hx hb dX3_send_53 (lv_at hl 6 rfl) ?_
        refine lv_bipush (v := 9) hx hb dX3_send_55 (by decide) ?_
        refine lv_imul hx hb dX3_send_57 ?_
        refine lv_topi (fun x42 ex42 => ?_)
        have hb43 : In x42 0 153 := ex42 ▸ In.mul hb6 (⟨by decide, by decide⟩ : In 9 9 9) (by decide) (by decide) (by decide) (by decide) (by decide)
        refine lv_iload hx hb dX3_send_58 (lv_at hl 7 rfl) ?_
        refine lv_iadd hx hb dX3_send_60 ?_
        refine lv_topi (fun x44 ex44 => ?_)
        have hb45 : In x44 0 161 := ex44 ▸ In.add hb43 hb30 (by decide) (by decide) (by decide) (by decide)
        have et46 : x44.toInt = x42.toInt + y32_l6.toInt := In.add2e ex44 hb43 hb30 (by decide) (by decide)
        refine lv_lload hx hb dX3_send_61 (lv_at hl 0 rfl) ?_
        obtain ⟨rw47, hf48⟩ := hT.2.1 j hj 2 (by decide)
        refine pl_lastE hx hb hG.1 hP hD hS (hst.c hj (by decide)) 1 hf48 rfl (In.inb hb45 (by decide) (by decide)) dX3_send_63 (fun H locs f49 r52 er52 hf50 ho51 hP hD hS => ?_)
        have hf53 := (ho51 (ad 13) (hst.ne (by omega) (by omega) (by omega))).trans hf39
        have hf54 := (ho51 (cr ad j 0) (hst.ne (by omega) (by omega) (by omega))).trans hf41
        have hfr : (∀ b, b ≠ (cr ad j 0) → b ≠ (cr ad j 2) → b ≠ (cr ad j 3) → b ≠ (cr ad j 4) → f49 b = f b) := fun b z0_ z1_ z2_ z3_ => (ho51 b z1_).trans (hfr b z0_ z1_ z2_ z3_)
        refine lv_aload_n hx hb dX3_send_64 rfl (lv_at hl 1 rfl) ?_
        refine pl_get (v := .ref (cr ad j 3)) hx hb hts (fun w h => mT (inX3 w h)) hown hG.1 hP (hst.c hj (by decide)) hf54 rfl 11 (by decide) (hts _ (mT wg_354)) (fun _ h => h) rfl dX3_send_65 ?_
        refine lv_iload hx hb dX3_send_68 (lv_at hl 6 rfl) ?_
        refine lv_dup2_11 hx hb dX3_send_70 rfl rfl ?_
        have hT := TI.updC hT hst hj (k := 2) (by decide) hf50 ho51 ⟨r52, rfl⟩
        obtain ⟨rw55, hf56⟩ := hT.2.1 j hj 3 (by decide)
        have hin57 : vp_in x5 18 := In.inb hb6 (by decide) (by decide)
        refine pl_lald hx hb hG.1 hP (hst.c hj (by decide)) 1 hf56 rfl hin57 dX3_send_71 ?_
        refine lv_topl (fun x58 ex58 => ?_)
        refine lv_lload hx hb dX3_send_72 (lv_at hl 0 rfl) ?_
        refine lv_ldc2 hx hb hown (hts _ (mT wg_798)) dX3_send_74 ?_
        refine lv_land hx hb dX3_send_77 ?_
        refine lv_topl (fun x59 ex59 => ?_)
        refine lv_ladd hx hb dX3_send_78 ?_
        refine lv_topl (fun x60 ex60 => ?_)
        refine pl_lastE hx hb hG.1 hP hD hS (hst.c hj (by decide)) 1 hf56 rfl (In.inb hb6 (by decide) (by decide)) dX3_send_79 (fun H locs f61 r64 er64 hf62 ho63 hP hD hS => ?_)
        have hf65 := (ho63 (ad 13) (hst.ne (by omega) (by omega) (by omega))).trans hf53
        have hf66 := (ho63 (cr ad j 0) (hst.ne (by omega) (by omega) (by omega))).trans hf54
        have hf67 := (ho63 (cr ad j 2) (hst.ne (by omega) (by omega) (by omega))).trans hf50
        have hfr : (∀ b, b ≠ (cr ad j 0) → b ≠ (cr ad j 2) → b ≠ (cr ad j 3) → b ≠ (cr ad j 4) → f61 b = f b) := fun b z0_ z1_ z2_ z3_ => (ho63 b z2_).trans (hfr b z0_ z1_ z2_ z3_)
        refine lv_aload_n hx hb dX3_send_80 rfl (lv_at hl 1 rfl) ?_
        refine pl_get (v := .ref (cr ad j 4)) hx hb hts (fun w h => mT (inX3 w h)) hown hG.1 hP (hst.c hj (by decide)) hf66 rfl 12 (by decide) (hts _ (mT wg_355)) (fun _ h => h) rfl dX3_send_81 ?_
        refine lv_iload hx hb dX3_send_84 (lv_at hl 6 rfl) ?_
        refine lv_dup2_11 hx hb dX3_send_86 rfl rfl ?_
        have hT := TI.updC hT hst hj (k := 3) (by decide) hf62 ho63 ⟨r64, rfl⟩
        obtain ⟨rw68, hf69⟩ := hT.2.1 j hj 4 (by decide)
        have hin70 : vp_in x5 18 := In.inb hb6 (by decide) (by decide)
        refine pl_lald hx hb hG.1 hP (hst.c hj (by decide)) 1 hf69 rfl hin70 dX3_send_87 ?_
        refine lv_topl (fun x71 ex71 => ?_)
        refine lv_lload hx hb dX3_send_88 (lv_at hl 0 rfl) ?_
        refine lv_iconst (v := 1) hx hb dX3_send_90 (by decide) ?_
        refine lv_lushr hx hb dX3_send_91 rfl ?_
        refine lv_topl (fun x72 ex72 => ?_)
        refine lv_ldc2 hx hb hown (hts _ (mT wg_798)) dX3_send_92 ?_
        refine lv_land hx hb dX3_send_95 ?_
        refine lv_topl (fun x73 ex73 => ?_)
        refine lv_ladd hx hb dX3_send_96 ?_
        refine lv_topl (fun x74 ex74 => ?_)
        refine pl_lastE hx hb hG.1 hP hD hS (hst.c hj (by decide)) 1 hf69 rfl (In.inb hb6 (by decide) (by decide)) dX3_send_97 (fun H locs f75 r78 er78 hf76 ho77 hP hD hS => ?_)
        have hf79 := (ho77 (ad 13) (hst.ne (by omega) (by omega) (by omega))).trans hf65
        have hf80 := (ho77 (cr ad j 0) (hst.ne (by omega) (by omega) (by omega))).trans hf66
        have hf81 := (ho77 (cr ad j 2) (hst.ne (by omega) (by omega) (by omega))).trans hf67
        have hf82 := (ho77 (cr ad j 3) (hst.ne (by omega) (by omega) (by omega))).trans hf62
        have hfr : (∀ b, b ≠ (cr ad j 0) → b ≠ (cr ad j 2) → b ≠ (cr ad j 3) → b ≠ (cr ad j 4) → f75 b = f b) := fun b z0_ z1_ z2_ z3_ => (ho77 b z3_).trans (hfr b z0_ z1_ z2_ z3_)
        refine lv_lload hx hb dX3_send_98 (lv_at hl 0 rfl) ?_
        refine lv_aload_n hx hb dX3_send_100 rfl (lv_at hl 2 rfl) ?_
        have hT := TI.updC hT hst hj (k := 4) (by decide) hf76 ho77 ⟨r78, rfl⟩
        obtain ⟨v0_83, v1_83, v2_83, v3_83, v4_83, v5_83, v6_83, v7_83, hf84, hv0_83, hg0_83, hv1_83, hv2_83, hv3_83, hv5_83, hv6_83⟩ := hT.1 7 (by decide)
        refine pl_getN (v := .int v1_83) hx hb hts (fun w h => mT (inX2 w h)) hown hG.1 hP (hst.1 7 (by decide)) hf84 rfl 1 (by decide) (hG.2.1 _ wn_231) (fun _ h => h) rfl dX3_send_101 ?_
        refine lv_iload hx hb dX3_send_104 (lv_at hl 7 rfl) ?_
        refine call_i (run_S (rm := rm_X3_reachedBy) hx hb hml hown hts (s_X3_reachedBy l g ad th _ _ _ r34 v1_83 y32_l6 hst hT ) cS_X3_reachedBy wg_831 ⟨Nat.le_of_ble_eq_true rfl, Nat.le_of_ble_eq_true rfl⟩ hG hE hA hP hD hS rfl hl.1 (As := [.long r34, .int v1_83, .int y32_l6]) (rest := []) rfl (Nat.le_of_ble_eq_true rfl) dX3_send_106 ⟨Nat.le_of_ble_eq_true rfl, Nat.le_of_ble_eq_true rfl⟩) hA hD hS (fun r85 L86 f87 H locs hp88 hP hD hS => ?_)
        obtain ⟨eL89L, eL89T⟩ := hp88
        have eL89L : L86 = L := eL89L
        have eL89T : f87 = f75 := eL89T
        rw [eL89L, eL89T] at hP hD
        refine lv_istore (lv' := [(9, .int r85), (7, .long r34), (0, .ref (cr ad j 0)), (1, .ref (ad 7)), (2, .ref (ad 13)), (3, .int z3), (4, .int z4), (5, .int x5), (6, .int y32_l6)]) hx hb dX3_send_109 hl (by decide) rfl (fun ls hl => ?_)
        refine lv_aload_n hx hb dX3_send_111 rfl (lv_at hl 2 rfl) ?_
        refine lv_dup hx hb dX3_send_112 rfl ?_
        refine pl_get (v := .int v4_40) hx hb hts (fun w h => mT (inX3 w h)) hown hG.1 hP (hst.c hj (by decide)) hf80 rfl 4 (by decide) (hts _ (mT wg_344)) (fun _ h => h) rfl dX3_send_113 ?_
        refine lv_iload hx hb dX3_send_116 (lv_at hl 0 rfl) ?_
        refine lv_iadd hx hb dX3_send_118 ?_
        refine lv_topi (fun x90 ex90 => ?_)
        refine pl_put (ty := .int) (v := .int x90) (fs' := [.int v0_40, .int v1_40, .int v2_40, .int v3_40, .int x90, .int v5_40, .int v6_40, .long v7_40, .long v8_40, .ref (cr ad j 1), .ref (cr ad j 2), .ref (cr ad j 3), .ref (cr ad j 4), .ref (cr ad j 5), .ref (cr ad j 6), .ref (cr ad j 7), .ref (cr ad j 8), .ref (cr ad j 9)]) hx hb hts (fun w h => mT (inX3 w h)) tyX3 tyX3_ok nmX3 hown hG.1 hP hD hS (hst.c hj (by decide)) hf80 rfl 4 (by decide) (hts _ (mT wg_344)) (fun _ h => h) rfl (by decide +kernel) (rfl) (rfl) (Nat.le_of_ble_eq_true rfl) rfl dX3_send_119 (fun H locs f91 hf92 ho93 hP hD hS => ?_)
        have hf94 := (ho93 (ad 13) (hst.ne (by omega) (by omega) (by omega))).trans hf79
        have hf95 := (ho93 (cr ad j 2) (hst.ne (by omega) (by omega) (by omega))).trans hf81
        have hf96 := (ho93 (cr ad j 3) (hst.ne (by omega) (by omega) (by omega))).trans hf82
        have hf97 := (ho93 (cr ad j 4) (hst.ne (by omega) (by omega) (by omega))).trans hf76
        have hf98 := (ho93 (ad 7) (hst.ne (by omega) (by omega) (by omega))).trans hf84
        have hfr : (∀ b, b ≠ (cr ad j 0) → b ≠ (cr ad j 2) → b ≠ (cr ad j 3) → b ≠ (cr ad j 4) → f91 b = f b) := fun b z0_ z1_ z2_ z3_ => (ho93 b z0_).trans (hfr b z0_ z1_ z2_ z3_)
        refine lv_aload_n hx hb dX3_send_122 rfl (lv_at hl 2 rfl) ?_
        refine lv_dup hx hb dX3_send_123 rfl ?_
        refine pl_get (v := .int v5_40) hx hb hts (fun w h => mT (inX3 w h)) hown hG.1 hP (hst.c hj (by decide)) hf92 rfl 5 (by decide) (hts _ (mT wg_346)) (fun _ h => h) rfl dX3_send_124 ?_
        refine lv_aload_n hx hb dX3_send_127 rfl (lv_at hl 2 rfl) ?_
        refine pl_get (v := .int v1_40) hx hb hts (fun w h => mT (inX3 w h)) hown hG.1 hP (hst.c hj (by decide)) hf92 rfl 1 (by decide) (hts _ (mT wg_338)) (fun _ h => h) rfl dX3_send_128 ?_
        refine lv_iload hx hb dX3_send_131 (lv_at hl 8 rfl) ?_
        have hT := TI.updC hT hst hj (k := 0) (by decide) hf92 ho93 ⟨v0_40, v1_40, v2_40, v3_40, x90, v5_40, v6_40, v7_40, v8_40, rfl, hv1_40, hg1_40, hv2_40, hg2_40, hv6_40⟩
        refine call_i (run_SN (rm := rm_X10_bit) hx hb hml hown hts (s_X10_bit l g ad th _ _ _ v1_40 y32_l6 hst hT ) cS_X10_bit wn_794 ⟨Nat.le_of_ble_eq_true rfl, Nat.le_of_ble_eq_true rfl⟩ hG hE hA hP hD hS rfl hl.1 (As := [.int v1_40, .int y32_l6]) (rest := [.int v5_40, .ref (cr ad j 0)]) rfl (Nat.le_of_ble_eq_true rfl) dX3_send_133 ⟨Nat.le_of_ble_eq_true rfl, Nat.le_of_ble_eq_true rfl⟩) hA hD hS (fun r99 L100 f101 H locs hp102 hP hD hS => ?_)
        obtain ⟨eL103L, eL103T, eL103R, eL103X0⟩ := hp102
        have eL103L : L100 = L := eL103L
        have eL103T : f101 = f91 := eL103T
        rw [eL103L, eL103T] at hP hD
        have eL103R : In r99 0 1 := eL103R
        have hJ145 : ∀ (y145_s0 : Int32) (H : Heap) (locs : List Loc) (ls : Array Slot), In y145_s0 (-2147483648) 2147483647 → va_P g.1 vwCl (va_pl L f91) H → va_D A (va_pl L f91) → va_S A s.heap H locs → lv_has ls 10 [(0, .ref (cr ad j 0)), (1, .ref (ad 7)), (2, .ref (ad 13)), (3, .int z3), (4, .int z4), (5, .int x5), (6, .int y32_l6), (7, .long r34), (9, .int r85)] → W p l e rm_X3_send_ot_pn s m [.ref (cr ad j 0), .ref (ad 7), .ref (ad 13), .int z3, .int z4].toArray below meth c H locs 0 0 (MQ below (va_Qv (po_X3_send_ot_pn g ad th L f j z3 z4) (PstB g A) A) [.ref (cr ad j 0), .ref (ad 7), .ref (ad 13), .int z3, .int z4].toArray s rm_X3_send_ot_pn.cells rm_X3_send_ot_pn.slots A) (F0 m 145 ls [.int y145_s0, .int v5_40, .ref (cr ad j 0)]) := by
          intro y145_s0 H locs ls hy145_s0 hP hD hS hl
          refine lv_iadd hx hb dX3_send_145 ?_
          refine lv_topi (fun x104 ex104 => ?_)
          refine pl_put (ty := .int) (v := .int x104) (fs' := [.int v0_40, .int v1_40, .int v2_40, .int v3_40, .int x90, .int x104, .int v6_40, .long v7_40, .long v8_40, .ref (cr ad j 1), .ref (cr ad j 2), .ref (cr ad j 3), .ref (cr ad j 4), .ref (cr ad j 5), .ref (cr ad j 6), .ref (cr ad j 7), .ref (cr ad j 8), .ref (cr ad j 9)]) hx hb hts (fun w h => mT (inX3 w h)) tyX3 tyX3_ok nmX3 hown hG.1 hP hD hS (hst.c hj (by decide)) hf92 rfl 5 (by decide) (hts _ (mT wg_346)) (fun _ h => h) rfl (by decide +kernel) (rfl) (rfl) (Nat.le_of_ble_eq_true rfl) rfl dX3_send_146 (fun H locs f105 hf106 ho107 hP hD hS => ?_)
          have hf108 := (ho107 (ad 13) (hst.ne (by omega) (by omega) (by omega))).trans hf94
          have hf109 := (ho107 (cr ad j 2) (hst.ne (by omega) (by omega) (by omega))).trans hf95
          have hf110 := (ho107 (cr ad j 3) (hst.ne (by omega) (by omega) (by omega))).trans hf96
          have hf111 := (ho107 (cr ad j 4) (hst.ne (by omega) (by omega) (by omega))).trans hf97
          have hf112 := (ho107 (ad 7) (hst.ne (by omega) (by omega) (by omega))).trans hf98
          have hfr : (∀ b, b ≠ (cr ad j 0) → b ≠ (cr ad j 2) → b ≠ (cr ad j 3) → b ≠ (cr ad j 4) → f105 b = f b) := fun b z0_ z1_ z2_ z3_ => (ho107 b z0_).trans (hfr b z0_ z1_ z2_ z3_)
          obtain ⟨x113, ex113⟩ : ∃ y : Int32, y = y32_l6 + 1 := ⟨_, rfl⟩
          have hb114 : In x113 1 9 := ex113 ▸ In.add hb30 (⟨by decide, by decide⟩ : In 1 1 1) (by decide) (by decide) (by decide) (by decide)
          have et115 : x113.toInt = y32_l6.toInt + 1 := In.adde ex113 hb30 (k := 1) (by decide) (by decide) (by decide)
          refine lv_iinc (v := x113) (lv' := [(6, .int x113), (0, .ref (cr ad j 0)), (1, .ref (ad 7)), (2, .ref (ad 13)), (3, .int z3), (4, .int z4), (5, .int x5), (7, .long r34), (9, .int r85)]) hx hb dX3_send_149 hl (k := 6) rfl (by rw [ex113]; rfl) (by decide) rfl (fun ls hl => ?_)
          have hT := TI.updC hT hst hj (k := 0) (by decide) hf106 ho107 ⟨v0_40, v1_40, v2_40, v3_40, x90, x104, v6_40, v7_40, v8_40, rfl, hv1_40, hg1_40, hv2_40, hg2_40, hv6_40⟩
          refine lv_goto (tgt := 32) hx hb dX3_send_152 (by decide) ?_
          exact ih32 x113 _ _ _ _ (In.mono hb114 (by decide) (by decide)) hP hD hS hT hfr hf108 (lv_sub hl [1, 2, 3, 4, 5, 6, 0] rfl) (msu et115 (by decide) hmz32)
        refine lv_if_ne (tgt := 144) hx hb dX3_send_136 (by decide) (fun c116 => ?_) (fun c116 => ?_)
        ·
          have cc117 : r99.toInt ≠ (0 : Int32).toInt := i32_ne c116
          have hb118 : In r99 1 1 := In.ne1 eL103R (⟨by decide, by decide⟩ : In 0 0 0) cc117 (by omega) (by omega)
          refine lv_iconst (v := 0) hx hb dX3_send_144 (by decide) ?_
          exact hJ145 0 _ _ _ (⟨by decide, by decide⟩ : In 0 (-2147483648) 2147483647) hP hD hS (lv_sub hl [2, 3, 4, 5, 6, 7, 8, 1, 0] rfl)
        ·
          have cc119 : r99.toInt = (0 : Int32).toInt := congrArg Int32.toInt c116
          have hb120 : In r99 0 0 := In.eq1 eL103R (⟨by decide, by decide⟩ : In 0 0 0) cc119 (by omega) (by omega)
          refine lv_iload hx hb dX3_send_139 (lv_at hl 0 rfl) ?_
          refine lv_goto (tgt := 145) hx hb dX3_send_141 (by decide) ?_
          exact hJ145 r85 _ _ _ (In.full r85) hP hD hS (lv_sub hl [2, 3, 4, 5, 6, 7, 8, 1, 0] rfl)
  exact hJ32 ((9 - z3.toInt).toNat + 1) z3 _ _ _ _ (In.mono hz3 (by decide) (by decide)) hP hD hS hT hfr hf24 (lv_sub hl [2, 3, 4, 5, 6, 1, 0] rfl) (msI _)

abbrev rm_X3_play_ot_pn : Room := { frames := 5, cells := 0, slots := 0, locals := 131 }
abbrev po_X3_play_ot_pn (g : GG) (ad : Nat → Nat) (th : Nat → Int) (L : List Nat) (f : HP) (j : Nat) : (List Nat × HP) → Prop := fun u => u.1 = L ∧ (∃ zz : Int, (0 ≤ zz ∧ zz ≤ 6 * rnd (th 4)) ∧ TI g ad (gset th (300 + j) zz) u.2) ∧ (∀ b, b ≠ (ad 13) → b ≠ (cr ad j 0) → b ≠ (cr ad j 2) → b ≠ (cr ad j 3) → b ≠ (cr ad j 4) → b ≠ (cr ad j 5) → b ≠ (cr ad j 6) → b ≠ (cr ad j 7) → b ≠ (cr ad j 8) → b ≠ (cr ad j 9) → u.2 b = f b)
set_option maxHeartbeats 4000000 in
set_option maxRecDepth 100000 in
theorem s_X3_play_ot_pn (l : Launch) (g : GG) (ad : Nat → Nat) (th : Nat → Int) (L : List Nat) (f : HP) (sz : Nat) (j : Nat) (hst : ST ad L) (hT : TI g ad th f) (hj : j < 23) (h3a : 0 ≤ th (300 + j)) (h3b : th (300 + j) ≤ 6 * rnd (th 4)) : MtV l g yX3_play cX3_play 6 rm_X3_play_ot_pn [.ref (cr ad j 0), .ref (ad 7), .ref (ad 13)] L f sz (po_X3_play_ot_pn g ad th L f j) := by
  refine MtV.of (by decide +kernel) (Nat.le_of_ble_eq_true rfl) ?_
  intro p e s m below meth c A hEn hP hD hS ls hl
  obtain ⟨hx, hb, hr, hml, hown, hlocks, hts, hG, hA, hE, hnm⟩ := hEn
  have hown : s.vm.findClass "RulerWord$Course" = some m.cls := hown
  have hl : lv_has ls 6 [(0, .ref (cr ad j 0)), (1, .ref (ad 7)), (2, .ref (ad 13))] := hl
  have hfr : (∀ b, b ≠ (ad 13) → b ≠ (cr ad j 0) → b ≠ (cr ad j 2) → b ≠ (cr ad j 3) → b ≠ (cr ad j 4) → b ≠ (cr ad j 5) → b ≠ (cr ad j 6) → b ≠ (cr ad j 7) → b ≠ (cr ad j 8) → b ≠ (cr ad j 9) → f b = f b) := fun b z0_ z1_ z2_ z3_ z4_ z5_ z6_ z7_ z8_ z9_ => rfl
  refine lv_aload_n hx hb dX3_play_0 rfl (lv_at hl 1 rfl) ?_
  refine lv_aload_n hx hb dX3_play_1 rfl (lv_at hl 0 rfl) ?_
  obtain ⟨v0_1, v1_1, v2_1, v3_1, v4_1, v5_1, v6_1, v7_1, v8_1, hf2, hv1_1, hg1_1, hv2_1, hg2_1, hv6_1⟩ := hT.2.1 j hj 0 (by decide)
  refine pl_get (v := .int v2_1) hx hb hts (fun w h => mT (inX3 w h)) hown hG.1 hP (hst.c hj (by decide)) hf2 rfl 2 (by decide) (hts _ (mT wg_340)) (fun _ h => h) rfl dX3_play_2 ?_
  obtain ⟨v0_3, v1_3, v2_3, v3_3, v4_3, v5_3, v6_3, v7_3, hf4, hv0_3, hg0_3, hv1_3, hv2_3, hv3_3, hv5_3, hv6_3⟩ := hT.1 7 (by decide)
  refine call_i (run_VN (rm := rm_X2_phaseAt_ot) hx hb hml hown hts (s_X2_phaseAt_ot l g ad th _ _ _ v2_1 hst hT hv2_1) cV_X2_phaseAt wn_775 ⟨Nat.le_of_ble_eq_true rfl, Nat.le_of_ble_eq_true rfl⟩ hG hE hA hP hD hS (hst.1 7 (by decide)) hf4 rfl rfl hl.1 (As := [.int v2_1]) (rest := []) rfl (Nat.le_of_ble_eq_true rfl) dX3_play_5 ⟨Nat.le_of_ble_eq_true rfl, Nat.le_of_ble_eq_true rfl⟩) hA hD hS (fun r5 L6 f7 H locs hp8 hP hD hS => ?_)
  obtain ⟨eL9L, eL9T, eL9R, eL9X0⟩ := hp8
  have eL9L : L6 = L := eL9L
  have eL9T : f7 = f := eL9T
  rw [eL9L, eL9T] at hP hD
  have eL9R : In r5 0 9 := eL9R
  have hph10 : r5.toInt * rnd (th 4) ≤ v2_1.toInt ∧ v2_1.toInt < (r5.toInt + 1) * rnd (th 4) := eL9X0
  refine lv_istore_n (lv' := [(3, .int r5), (0, .ref (cr ad j 0)), (1, .ref (ad 7)), (2, .ref (ad 13))]) hx hb dX3_play_8 rfl hl (by decide) rfl (fun ls hl => ?_)
  refine lv_iload_n hx hb dX3_play_9 rfl (lv_at hl 0 rfl) ?_
  refine lv_aload_n hx hb dX3_play_10 rfl (lv_at hl 2 rfl) ?_
  refine pl_getN (v := .int v3_3) hx hb hts (fun w h => mT (inX2 w h)) hown hG.1 hP (hst.1 7 (by decide)) hf4 rfl 3 (by decide) (hG.2.1 _ wn_236) (fun _ h => h) rfl dX3_play_11 ?_
  refine lv_icmp_ge (tgt := 23) hx hb dX3_play_14 (by decide) (fun c11 => ?_) (fun c11 => ?_)
  ·
    exact ret_v hx hb hr hlocks hP hD hS (Nat.le_of_ble_eq_true rfl) (Nat.le_of_ble_eq_true rfl) (⟨rfl, ⟨th (300 + j), ⟨h3a, h3b⟩, by rw [gset_same]; exact hT⟩, hfr⟩) dX3_play_23
  ·
    have cc12 : r5.toInt < v3_3.toInt := i32_nle c11
    have hb13 : In r5 0 5 := In.lt1 eL9R hv3_3 cc12 (by omega) (by omega)
    have hb14 : In v3_3 1 6 := In.lt2 eL9R hv3_3 cc12 (by omega) (by omega)
    refine lv_iload_n hx hb dX3_play_17 rfl (lv_at hl 0 rfl) ?_
    refine lv_bipush (v := 6) hx hb dX3_play_18 (by decide) ?_
    refine lv_icmp_lt (tgt := 24) hx hb dX3_play_20 (by decide) (fun c15 => ?_) (fun c15 => ?_)
    ·
      refine lv_aload_n hx hb dX3_play_24 rfl (lv_at hl 1 rfl) ?_
      refine pl_get (v := .int v4_1) hx hb hts (fun w h => mT (inX3 w h)) hown hG.1 hP (hst.c hj (by decide)) hf2 rfl 4 (by decide) (hts _ (mT wg_344)) (fun _ h => h) rfl dX3_play_25 ?_
      refine lv_istore (lv' := [(4, .int v4_1), (3, .int r5), (0, .ref (cr ad j 0)), (1, .ref (ad 7)), (2, .ref (ad 13))]) hx hb dX3_play_28 hl (by decide) rfl (fun ls hl => ?_)
      refine lv_aload_n hx hb dX3_play_30 rfl (lv_at hl 4 rfl) ?_
      refine lv_iload_n hx hb dX3_play_31 rfl (lv_at hl 1 rfl) ?_
      obtain ⟨v0_16, v1_16, hf17, hv0_16, hv1_16⟩ := hT.1 13 (by decide)
      refine pl_put (ty := .int) (v := .int r5) (fs' := [.int r5, .int v1_16, .ref (ad 11)]) hx hb hts (fun w h => mT (inX6 w h)) tyX6 tyX6_ok nmX6 hown hG.1 hP hD hS (hst.1 13 (by decide)) hf17 rfl 0 (by decide) (hts _ (mT wg_292)) (fun _ h => h) rfl (by decide +kernel) (rfl) (rfl) (Nat.le_of_ble_eq_true rfl) rfl dX3_play_32 (fun H locs f18 hf19 ho20 hP hD hS => ?_)
      have hf21 := (ho20 (cr ad j 0) (hst.ne (by omega) (by omega) (by omega))).trans hf2
      have hf22 := (ho20 (ad 7) (hst.ne (by decide) (by decide) (by decide))).trans hf4
      have hfr : (∀ b, b ≠ (ad 13) → b ≠ (cr ad j 0) → b ≠ (cr ad j 2) → b ≠ (cr ad j 3) → b ≠ (cr ad j 4) → b ≠ (cr ad j 5) → b ≠ (cr ad j 6) → b ≠ (cr ad j 7) → b ≠ (cr ad j 8) → b ≠ (cr ad j 9) → f18 b = f b) := fun b z0_ z1_ z2_ z3_ z4_ z5_ z6_ z7_ z8_ z9_ => (ho20 b z0_).trans (hfr b z0_ z1_ z2_ z3_ z4_ z5_ z6_ z7_ z8_ z9_)
      refine lv_aload_n hx hb dX3_play_35 rfl (lv_at hl 4 rfl) ?_
      refine lv_aload_n hx hb dX3_play_36 rfl (lv_at hl 3 rfl) ?_
      refine lv_aload_n hx hb dX3_play_37 rfl (lv_at hl 2 rfl) ?_
      refine pl_get (v := .int v2_1) hx hb hts (fun w h => mT (inX3 w h)) hown hG.1 hP (hst.c hj (by decide)) hf21 rfl 2 (by decide) (hts _ (mT wg_340)) (fun _ h => h) rfl dX3_play_38 ?_
      have hT := TI.updA hT hst (k := 13) (by decide) hf19 ho20 ⟨r5, v1_16, rfl, hb13, hv1_16⟩
      refine call_i (run_VN (rm := rm_X2_turnAt_ot) hx hb hml hown hts (s_X2_turnAt_ot l g ad th _ _ _ v2_1 hst hT hv2_1) cV_X2_turnAt wn_776 ⟨Nat.le_of_ble_eq_true rfl, Nat.le_of_ble_eq_true rfl⟩ hG hE hA hP hD hS (hst.1 7 (by decide)) hf22 rfl rfl hl.1 (As := [.int v2_1]) (rest := [.ref (ad 13)]) rfl (Nat.le_of_ble_eq_true rfl) dX3_play_41 ⟨Nat.le_of_ble_eq_true rfl, Nat.le_of_ble_eq_true rfl⟩) hA hD hS (fun r23 L24 f25 H locs hp26 hP hD hS => ?_)
      obtain ⟨eL27L, eL27T, eL27R⟩ := hp26
      have eL27L : L24 = L := eL27L
      have eL27T : f25 = f18 := eL27T
      rw [eL27L, eL27T] at hP hD
      have eL27R : In r23 0 2 := eL27R
      refine pl_put (ty := .int) (v := .int r23) (fs' := [.int r5, .int r23, .ref (ad 11)]) hx hb hts (fun w h => mT (inX6 w h)) tyX6 tyX6_ok nmX6 hown hG.1 hP hD hS (hst.1 13 (by decide)) hf19 rfl 1 (by decide) (hts _ (mT wg_295)) (fun _ h => h) rfl (by decide +kernel) (rfl) (rfl) (Nat.le_of_ble_eq_true rfl) rfl dX3_play_44 (fun H locs f28 hf29 ho30 hP hD hS => ?_)
      have hf31 := (ho30 (cr ad j 0) (hst.ne (by omega) (by omega) (by omega))).trans hf21
      have hf32 := (ho30 (ad 7) (hst.ne (by decide) (by decide) (by decide))).trans hf22
      have hfr : (∀ b, b ≠ (ad 13) → b ≠ (cr ad j 0) → b ≠ (cr ad j 2) → b ≠ (cr ad j 3) → b ≠ (cr ad j 4) → b ≠ (cr ad j 5) → b ≠ (cr ad j 6) → b ≠ (cr ad j 7) → b ≠ (cr ad j 8) → b ≠ (cr ad j 9) → f28 b = f b) := fun b z0_ z1_ z2_ z3_ z4_ z5_ z6_ z7_ z8_ z9_ => (ho30 b z0_).trans (hfr b z0_ z1_ z2_ z3_ z4_ z5_ z6_ z7_ z8_ z9_)
      refine lv_aload_n hx hb dX3_play_47 rfl (lv_at hl 4 rfl) ?_
      refine pl_get (v := .int r23) hx hb hts (fun w h => mT (inX6 w h)) hown hG.1 hP (hst.1 13 (by decide)) hf29 rfl 1 (by decide) (hts _ (mT wg_295)) (fun _ h => h) rfl dX3_play_48 ?_
      refine lv_aload_n hx hb dX3_play_51 rfl (lv_at hl 3 rfl) ?_
      have hT := TI.updA hT hst (k := 13) (by decide) hf29 ho30 ⟨r5, r23, rfl, hb13, eL27R⟩
      refine call_i (run_VN (rm := rm_X2_rounds_ot) hx hb hml hown hts (s_X2_rounds_ot l g ad th _ _ _  hst hT ) cV_X2_rounds wn_777 ⟨Nat.le_of_ble_eq_true rfl, Nat.le_of_ble_eq_true rfl⟩ hG hE hA hP hD hS (hst.1 7 (by decide)) hf32 rfl rfl hl.1 (As := []) (rest := [.int r23]) rfl (Nat.le_of_ble_eq_true rfl) dX3_play_52 ⟨Nat.le_of_ble_eq_true rfl, Nat.le_of_ble_eq_true rfl⟩) hA hD hS (fun r33 L34 f35 H locs hp36 hP hD hS => ?_)
      obtain ⟨eL37L, eL37T, eL37R, eL37X0⟩ := hp36
      have eL37L : L34 = L := eL37L
      have eL37T : f35 = f28 := eL37T
      rw [eL37L, eL37T] at hP hD
      have eL37R : In r33 2 3 := eL37R
      have hrn38 : r33.toInt = rnd (th 4) := eL37X0
      refine lv_iconst (v := 1) hx hb dX3_play_55 (by decide) ?_
      refine lv_isub hx hb dX3_play_56 ?_
      refine lv_topi (fun x39 ex39 => ?_)
      have hb40 : In x39 1 2 := ex39 ▸ In.sub eL37R (⟨by decide, by decide⟩ : In 1 1 1) (by decide) (by decide) (by decide) (by decide)
      have et41 : x39.toInt = r33.toInt + (-1) := In.sube ex39 eL37R (k := 1) (by decide) (by decide) (by decide)
      have hJ111 : ∀ (f_111 : HP) (H : Heap) (locs : List Loc) (ls : Array Slot), va_P g.1 vwCl (va_pl L f_111) H → va_D A (va_pl L f_111) → va_S A s.heap H locs → TI g ad th f_111 → (∀ b, b ≠ (ad 13) → b ≠ (cr ad j 0) → b ≠ (cr ad j 2) → b ≠ (cr ad j 3) → b ≠ (cr ad j 4) → b ≠ (cr ad j 5) → b ≠ (cr ad j 6) → b ≠ (cr ad j 7) → b ≠ (cr ad j 8) → b ≠ (cr ad j 9) → f_111 b = f b) → f_111 (ad 13) = .inr (6, [.int r5, .int r23, .ref (ad 11)]) → f_111 (ad 7) = .inr (2, [.int v0_3, .int v1_3, .int v2_3, .int v3_3, .int v4_3, .int v5_3, .int v6_3, .int v7_3]) → lv_has ls 6 [(0, .ref (cr ad j 0)), (1, .ref (ad 7)), (2, .ref (ad 13)), (3, .int r5), (4, .int v4_1)] → W p l e rm_X3_play_ot_pn s m [.ref (cr ad j 0), .ref (ad 7), .ref (ad 13)].toArray below meth c H locs 0 0 (MQ below (va_Qv (po_X3_play_ot_pn g ad th L f j) (PstB g A) A) [.ref (cr ad j 0), .ref (ad 7), .ref (ad 13)].toArray s rm_X3_play_ot_pn.cells rm_X3_play_ot_pn.slots A) (F0 m 111 ls []) := by
        intro f_111 H locs ls hP hD hS hT hfr hf42 hf43 hl
        refine lv_aload_n hx hb dX3_play_111 rfl (lv_at hl 0 rfl) ?_
        obtain ⟨v0_44, v1_44, v2_44, v3_44, v4_44, v5_44, v6_44, v7_44, v8_44, hf45, hv1_44, hg1_44, hv2_44, hg2_44, hv6_44⟩ := hT.2.1 j hj 0 (by decide)
        refine pl_get (v := .ref (cr ad j 9)) hx hb hts (fun w h => mT (inX3 w h)) hown hG.1 hP (hst.c hj (by decide)) hf45 rfl 17 (by decide) (hts _ (mT wg_364)) (fun _ h => h) rfl dX3_play_112 ?_
        refine lv_iload_n hx hb dX3_play_115 rfl (lv_at hl 3 rfl) ?_
        refine lv_aload_n hx hb dX3_play_116 rfl (lv_at hl 2 rfl) ?_
        refine pl_get (v := .int r23) hx hb hts (fun w h => mT (inX6 w h)) hown hG.1 hP (hst.1 13 (by decide)) hf42 rfl 1 (by decide) (hts _ (mT wg_295)) (fun _ h => h) rfl dX3_play_117 ?_
        have hJ147 : ∀ (y147_s0 : Int32) (H : Heap) (locs : List Loc) (ls : Array Slot), In y147_s0 (-2147483648) 2147483647 → va_P g.1 vwCl (va_pl L f_111) H → va_D A (va_pl L f_111) → va_S A s.heap H locs → lv_has ls 6 [(0, .ref (cr ad j 0)), (1, .ref (ad 7)), (2, .ref (ad 13)), (3, .int r5), (4, .int v4_1)] → W p l e rm_X3_play_ot_pn s m [.ref (cr ad j 0), .ref (ad 7), .ref (ad 13)].toArray below meth c H locs 0 0 (MQ below (va_Qv (po_X3_play_ot_pn g ad th L f j) (PstB g A) A) [.ref (cr ad j 0), .ref (ad 7), .ref (ad 13)].toArray s rm_X3_play_ot_pn.cells rm_X3_play_ot_pn.slots A) (F0 m 147 ls [.int y147_s0, .int r5, .ref (cr ad j 9)]) := by
          intro y147_s0 H locs ls hy147_s0 hP hD hS hl
          obtain ⟨rw46, hf47⟩ := hT.2.1 j hj 9 (by decide)
          refine pl_iastE hx hb hG.1 hP hD hS (hst.c hj (by decide)) 0 hf47 rfl (In.inb hb13 (by decide) (by decide)) dX3_play_147 (fun H locs f48 r51 er51 hf49 ho50 hP hD hS => ?_)
          have hf52 := (ho50 (ad 7) (hst.ne (by omega) (by omega) (by omega))).trans hf43
          have hf53 := (ho50 (ad 13) (hst.ne (by omega) (by omega) (by omega))).trans hf42
          have hf54 := (ho50 (cr ad j 0) (hst.ne (by omega) (by omega) (by omega))).trans hf45
          have hfr : (∀ b, b ≠ (ad 13) → b ≠ (cr ad j 0) → b ≠ (cr ad j 2) → b ≠ (cr ad j 3) → b ≠ (cr ad j 4) → b ≠ (cr ad j 5) → b ≠ (cr ad j 6) → b ≠ (cr ad j 7) → b ≠ (cr ad j 8) → b ≠ (cr ad j 9) → f48 b = f b) := fun b z0_ z1_ z2_ z3_ z4_ z5_ z6_ z7_ z8_ z9_ => (ho50 b z9_).trans (hfr b z0_ z1_ z2_ z3_ z4_ z5_ z6_ z7_ z8_ z9_)
          refine lv_aload_n hx hb dX3_play_148 rfl (lv_at hl 0 rfl) ?_
          refine lv_dup hx hb dX3_play_149 rfl ?_
          refine pl_get (v := .int v2_44) hx hb hts (fun w h => mT (inX3 w h)) hown hG.1 hP (hst.c hj (by decide)) hf54 rfl 2 (by decide) (hts _ (mT wg_340)) (fun _ h => h) rfl dX3_play_150 ?_
          refine lv_iconst (v := 1) hx hb dX3_play_153 (by decide) ?_
          refine lv_iadd hx hb dX3_play_154 ?_
          refine lv_topi (fun x55 ex55 => ?_)
          have hb56 : In x55 1 19 := ex55 ▸ In.add hv2_44 (⟨by decide, by decide⟩ : In 1 1 1) (by decide) (by decide) (by decide) (by decide)
          have et57 : x55.toInt = v2_44.toInt + 1 := In.adde ex55 hv2_44 (k := 1) (by decide) (by decide) (by decide)
          have hT := TI.updC hT hst hj (k := 9) (by decide) hf49 ho50 ⟨r51, rfl⟩
          refine pl_put (ty := .int) (v := .int x55) (fs' := [.int v0_44, .int v1_44, .int x55, .int v3_44, .int v4_44, .int v5_44, .int v6_44, .long v7_44, .long v8_44, .ref (cr ad j 1), .ref (cr ad j 2), .ref (cr ad j 3), .ref (cr ad j 4), .ref (cr ad j 5), .ref (cr ad j 6), .ref (cr ad j 7), .ref (cr ad j 8), .ref (cr ad j 9)]) hx hb hts (fun w h => mT (inX3 w h)) tyX3 tyX3_ok nmX3 hown hG.1 hP hD hS (hst.c hj (by decide)) hf54 rfl 2 (by decide) (hts _ (mT wg_340)) (fun _ h => h) rfl (by decide +kernel) (rfl) (rfl) (Nat.le_of_ble_eq_true rfl) rfl dX3_play_155 (fun H locs f58 hf59 ho60 hP hD hS => ?_)
          have hf61 := (ho60 (ad 7) (hst.ne (by omega) (by omega) (by omega))).trans hf52
          have hf62 := (ho60 (ad 13) (hst.ne (by omega) (by omega) (by omega))).trans hf53
          have hf63 := (ho60 (cr ad j 9) (hst.ne (by omega) (by omega) (by omega))).trans hf49
          have hfr : (∀ b, b ≠ (ad 13) → b ≠ (cr ad j 0) → b ≠ (cr ad j 2) → b ≠ (cr ad j 3) → b ≠ (cr ad j 4) → b ≠ (cr ad j 5) → b ≠ (cr ad j 6) → b ≠ (cr ad j 7) → b ≠ (cr ad j 8) → b ≠ (cr ad j 9) → f58 b = f b) := fun b z0_ z1_ z2_ z3_ z4_ z5_ z6_ z7_ z8_ z9_ => (ho60 b z1_).trans (hfr b z0_ z1_ z2_ z3_ z4_ z5_ z6_ z7_ z8_ z9_)
          have hpl := play18 et57 hg2_44 hg2_1 hph10 (Int.le_trans hb13.2 (by decide)) hv2_44.1
          have hT := TI.updCG (th' := (gset th (300 + j) (x55.toInt))) hT hst hj hf59 ho60 ⟨v0_44, v1_44, x55, v3_44, v4_44, v5_44, v6_44, v7_44, v8_44, rfl, hv1_44, (by rw [hg1_44]; simp [gset]), hpl.1, (by simp [gset]), hv6_44⟩ (fun k h1 h2 => by simp [gset, h1, h2])
          have hT : TI g ad (gset th (300 + j) x55.toInt) f58 := TI.cast hT (by funext q; simp only [gset]; (repeat' split); all_goals first | rfl | omega | (subst_vars; rfl) | (exfalso; omega))
          exact ret_v hx hb hr hlocks hP hD hS (Nat.le_of_ble_eq_true rfl) (Nat.le_of_ble_eq_true rfl) (⟨rfl, ⟨x55.toInt, ⟨hpl.1.1, hpl.2⟩, TI.cast hT (by funext q; simp only [gset]; (repeat' split); all_goals first | rfl | omega | (subst_vars; rfl) | (exfalso; omega))⟩, hfr⟩) dX3_play_158
        refine lv_if_ne (tgt := 133) hx hb dX3_play_120 (by decide) (fun c64 => ?_) (fun c64 => ?_)
        ·
          have cc65 : r23.toInt ≠ (0 : Int32).toInt := i32_ne c64
          have hb66 : In r23 1 2 := In.ne1 eL27R (⟨by decide, by decide⟩ : In 0 0 0) cc65 (by omega) (by omega)
          refine lv_aload_n hx hb dX3_play_133 rfl (lv_at hl 0 rfl) ?_
          refine pl_get (v := .ref (cr ad j 9)) hx hb hts (fun w h => mT (inX3 w h)) hown hG.1 hP (hst.c hj (by decide)) hf45 rfl 17 (by decide) (hts _ (mT wg_364)) (fun _ h => h) rfl dX3_play_134 ?_
          refine lv_iload_n hx hb dX3_play_137 rfl (lv_at hl 3 rfl) ?_
          obtain ⟨rw67, hf68⟩ := hT.2.1 j hj 9 (by decide)
          have hin69 : vp_in r5 6 := In.inb hb13 (by decide) (by decide)
          refine pl_iald hx hb hG.1 hP (hst.c hj (by decide)) 0 hf68 rfl hin69 dX3_play_138 ?_
          refine lv_topi (fun x70 ex70 => ?_)
          refine lv_aload_n hx hb dX3_play_139 rfl (lv_at hl 0 rfl) ?_
          refine pl_get (v := .int v4_44) hx hb hts (fun w h => mT (inX3 w h)) hown hG.1 hP (hst.c hj (by decide)) hf45 rfl 4 (by decide) (hts _ (mT wg_344)) (fun _ h => h) rfl dX3_play_140 ?_
          refine lv_iadd hx hb dX3_play_143 ?_
          refine lv_topi (fun x71 ex71 => ?_)
          refine lv_iload hx hb dX3_play_144 (lv_at hl 4 rfl) ?_
          refine lv_isub hx hb dX3_play_146 ?_
          refine lv_topi (fun x72 ex72 => ?_)
          exact hJ147 x72 _ _ _ (In.full x72) hP hD hS (lv_sub hl [0, 1, 2, 3, 4] rfl)
        ·
          have cc73 : r23.toInt = (0 : Int32).toInt := congrArg Int32.toInt c64
          have hb74 : In r23 0 0 := In.eq1 eL27R (⟨by decide, by decide⟩ : In 0 0 0) cc73 (by omega) (by omega)
          refine lv_aload_n hx hb dX3_play_123 rfl (lv_at hl 0 rfl) ?_
          refine pl_get (v := .int v4_44) hx hb hts (fun w h => mT (inX3 w h)) hown hG.1 hP (hst.c hj (by decide)) hf45 rfl 4 (by decide) (hts _ (mT wg_344)) (fun _ h => h) rfl dX3_play_124 ?_
          refine lv_iload hx hb dX3_play_127 (lv_at hl 4 rfl) ?_
          refine lv_isub hx hb dX3_play_129 ?_
          refine lv_topi (fun x75 ex75 => ?_)
          refine lv_goto (tgt := 147) hx hb dX3_play_130 (by decide) ?_
          exact hJ147 x75 _ _ _ (In.full x75) hP hD hS (lv_sub hl [0, 1, 2, 3, 4] rfl)
      refine lv_icmp_ne (tgt := 88) hx hb dX3_play_57 (by decide) (fun c76 => ?_) (fun c76 => ?_)
      ·
        refine lv_aload_n hx hb dX3_play_88 rfl (lv_at hl 2 rfl) ?_
        refine lv_aload_n hx hb dX3_play_89 rfl (lv_at hl 3 rfl) ?_
        refine lv_aload_n hx hb dX3_play_90 rfl (lv_at hl 4 rfl) ?_
        refine lv_iconst (v := 0) hx hb dX3_play_91 (by decide) ?_
        refine lv_aload_n hx hb dX3_play_92 rfl (lv_at hl 3 rfl) ?_
        refine pl_getN (v := .int v1_3) hx hb hts (fun w h => mT (inX2 w h)) hown hG.1 hP (hst.1 7 (by decide)) hf32 rfl 1 (by decide) (hG.2.1 _ wn_231) (fun _ h => h) rfl dX3_play_93 ?_
        refine lv_iconst (v := 1) hx hb dX3_play_96 (by decide) ?_
        refine lv_isub hx hb dX3_play_97 ?_
        refine lv_topi (fun x77 ex77 => ?_)
        have hb78 : In x77 (-1) 8 := ex77 ▸ In.sub hv1_3 (⟨by decide, by decide⟩ : In 1 1 1) (by decide) (by decide) (by decide) (by decide)
        have et79 : x77.toInt = v1_3.toInt + (-1) := In.sube ex77 hv1_3 (k := 1) (by decide) (by decide) (by decide)
        refine call_v (run_V (rm := rm_X3_send_ot_pn) hx hb hml hown hts (s_X3_send_ot_pn l g ad th _ _ _ j 0 x77 hst hT hj (⟨by decide, by decide⟩ : In 0 0 8) hb78) cV_X3_send wg_782 ⟨Nat.le_of_ble_eq_true rfl, Nat.le_of_ble_eq_true rfl⟩ hG hE hA hP hD hS (hst.c hj (by decide)) hf31 rfl rfl hl.1 (As := [.ref (ad 7), .ref (ad 13), .int 0, .int x77]) (rest := []) rfl (Nat.le_of_ble_eq_true rfl) dX3_play_98 ⟨Nat.le_of_ble_eq_true rfl, Nat.le_of_ble_eq_true rfl⟩) hA hD hS (fun L81 f82 H locs hp83 hP hD hS => ?_)
        obtain ⟨eL84L, eL84T, eL84F⟩ := hp83
        have eL84L : L81 = L := eL84L
        rw [eL84L] at hP hD
        have hT : TI g ad th f82 := eL84T
        have eL84F : ∀ b, b ≠ (cr ad j 0) → b ≠ (cr ad j 2) → b ≠ (cr ad j 3) → b ≠ (cr ad j 4) → f82 b = f28 b := eL84F
        have hf85 := (eL84F (ad 7) (hst.ne (by omega) (by omega) (by omega)) (hst.ne (by omega) (by omega) (by omega)) (hst.ne (by omega) (by omega) (by omega)) (hst.ne (by omega) (by omega) (by omega))).trans hf32
        have hf86 := (eL84F (ad 13) (hst.ne (by omega) (by omega) (by omega)) (hst.ne (by omega) (by omega) (by omega)) (hst.ne (by omega) (by omega) (by omega)) (hst.ne (by omega) (by omega) (by omega))).trans hf29
        have hfr : (∀ b, b ≠ (ad 13) → b ≠ (cr ad j 0) → b ≠ (cr ad j 2) → b ≠ (cr ad j 3) → b ≠ (cr ad j 4) → b ≠ (cr ad j 5) → b ≠ (cr ad j 6) → b ≠ (cr ad j 7) → b ≠ (cr ad j 8) → b ≠ (cr ad j 9) → f82 b = f b) := fun b z0_ z1_ z2_ z3_ z4_ z5_ z6_ z7_ z8_ z9_ => (eL84F b z1_ z2_ z3_ z4_).trans (hfr b z0_ z1_ z2_ z3_ z4_ z5_ z6_ z7_ z8_ z9_)
        refine lv_aload_n hx hb dX3_play_101 rfl (lv_at hl 2 rfl) ?_
        refine lv_aload_n hx hb dX3_play_102 rfl (lv_at hl 3 rfl) ?_
        refine lv_iload_n hx hb dX3_play_103 rfl (lv_at hl 1 rfl) ?_
        refine lv_aload_n hx hb dX3_play_104 rfl (lv_at hl 4 rfl) ?_
        refine pl_get (v := .int r23) hx hb hts (fun w h => mT (inX6 w h)) hown hG.1 hP (hst.1 13 (by decide)) hf86 rfl 1 (by decide) (hts _ (mT wg_295)) (fun _ h => h) rfl dX3_play_105 ?_
        obtain ⟨v0_87, v1_87, v2_87, v3_87, v4_87, v5_87, v6_87, v7_87, v8_87, hf88, hv1_87, hg1_87, hv2_87, hg2_87, hv6_87⟩ := hT.2.1 j hj 0 (by decide)
        refine call_v (run_V (rm := rm_X3_hearAll_ot) hx hb hml hown hts (s_X3_hearAll_ot l g ad th _ _ _ j r5 r23 hst hT hj hb13 eL27R) cV_X3_hearAll wg_854 ⟨Nat.le_of_ble_eq_true rfl, Nat.le_of_ble_eq_true rfl⟩ hG hE hA hP hD hS (hst.c hj (by decide)) hf88 rfl rfl hl.1 (As := [.ref (ad 7), .int r5, .int r23]) (rest := []) rfl (Nat.le_of_ble_eq_true rfl) dX3_play_108 ⟨Nat.le_of_ble_eq_true rfl, Nat.le_of_ble_eq_true rfl⟩) hA hD hS (fun L90 f91 H locs hp92 hP hD hS => ?_)
        obtain ⟨eL93L, eL93T, eL93F⟩ := hp92
        have eL93L : L90 = L := eL93L
        rw [eL93L] at hP hD
        have hT : TI g ad th f91 := eL93T
        have eL93F : ∀ b, b ≠ (cr ad j 0) → b ≠ (cr ad j 5) → b ≠ (cr ad j 7) → f91 b = f82 b := eL93F
        have hf94 := (eL93F (ad 7) (hst.ne (by omega) (by omega) (by omega)) (hst.ne (by omega) (by omega) (by omega)) (hst.ne (by omega) (by omega) (by omega))).trans hf85
        have hf95 := (eL93F (ad 13) (hst.ne (by omega) (by omega) (by omega)) (hst.ne (by omega) (by omega) (by omega)) (hst.ne (by omega) (by omega) (by omega))).trans hf86
        have hfr : (∀ b, b ≠ (ad 13) → b ≠ (cr ad j 0) → b ≠ (cr ad j 2) → b ≠ (cr ad j 3) → b ≠ (cr ad j 4) → b ≠ (cr ad j 5) → b ≠ (cr ad j 6) → b ≠ (cr ad j 7) → b ≠ (cr ad j 8) → b ≠ (cr ad j 9) → f91 b = f b) := fun b z0_ z1_ z2_ z3_ z4_ z5_ z6_ z7_ z8_ z9_ => (eL93F b z1_ z5_ z7_).trans (hfr b z0_ z1_ z2_ z3_ z4_ z5_ z6_ z7_ z8_ z9_)
        exact hJ111 _ _ _ _ hP hD hS hT hfr hf95 hf94 (lv_sub hl [2, 3, 4, 1, 0] rfl)
      ·
        have cc96 : r23.toInt = x39.toInt := congrArg Int32.toInt c76
        have hb97 : In r23 1 2 := In.eq1 eL27R hb40 cc96 (by omega) (by omega)
        refine lv_aload_n hx hb dX3_play_60 rfl (lv_at hl 3 rfl) ?_
        refine lv_iload_n hx hb dX3_play_61 rfl (lv_at hl 1 rfl) ?_
        refine call_i (run_VN (rm := rm_X2_ruler_ot) hx hb hml hown hts (s_X2_ruler_ot l g ad th _ _ _ r5 hst hT (In.mono hb13 (by decide) (by decide))) cV_X2_ruler wn_778 ⟨Nat.le_of_ble_eq_true rfl, Nat.le_of_ble_eq_true rfl⟩ hG hE hA hP hD hS (hst.1 7 (by decide)) hf32 rfl rfl hl.1 (As := [.int r5]) (rest := []) rfl (Nat.le_of_ble_eq_true rfl) dX3_play_62 ⟨Nat.le_of_ble_eq_true rfl, Nat.le_of_ble_eq_true rfl⟩) hA hD hS (fun r98 L99 f100 H locs hp101 hP hD hS => ?_)
        obtain ⟨eL102L, eL102T, eL102R⟩ := hp101
        have eL102L : L99 = L := eL102L
        have eL102T : f100 = f28 := eL102T
        rw [eL102L, eL102T] at hP hD
        have eL102R : In r98 0 8 := eL102R
        refine lv_istore (lv' := [(5, .int r98), (4, .int v4_1), (3, .int r5), (0, .ref (cr ad j 0)), (1, .ref (ad 7)), (2, .ref (ad 13))]) hx hb dX3_play_65 hl (by decide) rfl (fun ls hl => ?_)
        refine lv_aload_n hx hb dX3_play_67 rfl (lv_at hl 3 rfl) ?_
        refine lv_aload_n hx hb dX3_play_68 rfl (lv_at hl 4 rfl) ?_
        refine lv_aload_n hx hb dX3_play_69 rfl (lv_at hl 5 rfl) ?_
        refine lv_iload hx hb dX3_play_70 (lv_at hl 0 rfl) ?_
        refine lv_iload hx hb dX3_play_72 (lv_at hl 0 rfl) ?_
        refine call_v (run_V (rm := rm_X3_send_ot_pn) hx hb hml hown hts (s_X3_send_ot_pn l g ad th _ _ _ j r98 r98 hst hT hj eL102R (In.mono eL102R (by decide) (by decide))) cV_X3_send wg_782 ⟨Nat.le_of_ble_eq_true rfl, Nat.le_of_ble_eq_true rfl⟩ hG hE hA hP hD hS (hst.c hj (by decide)) hf31 rfl rfl hl.1 (As := [.ref (ad 7), .ref (ad 13), .int r98, .int r98]) (rest := []) rfl (Nat.le_of_ble_eq_true rfl) dX3_play_74 ⟨Nat.le_of_ble_eq_true rfl, Nat.le_of_ble_eq_true rfl⟩) hA hD hS (fun L104 f105 H locs hp106 hP hD hS => ?_)
        obtain ⟨eL107L, eL107T, eL107F⟩ := hp106
        have eL107L : L104 = L := eL107L
        rw [eL107L] at hP hD
        have hT : TI g ad th f105 := eL107T
        have eL107F : ∀ b, b ≠ (cr ad j 0) → b ≠ (cr ad j 2) → b ≠ (cr ad j 3) → b ≠ (cr ad j 4) → f105 b = f28 b := eL107F
        have hf108 := (eL107F (ad 7) (hst.ne (by omega) (by omega) (by omega)) (hst.ne (by omega) (by omega) (by omega)) (hst.ne (by omega) (by omega) (by omega)) (hst.ne (by omega) (by omega) (by omega))).trans hf32
        have hf109 := (eL107F (ad 13) (hst.ne (by omega) (by omega) (by omega)) (hst.ne (by omega) (by omega) (by omega)) (hst.ne (by omega) (by omega) (by omega)) (hst.ne (by omega) (by omega) (by omega))).trans hf29
        have hfr : (∀ b, b ≠ (ad 13) → b ≠ (cr ad j 0) → b ≠ (cr ad j 2) → b ≠ (cr ad j 3) → b ≠ (cr ad j 4) → b ≠ (cr ad j 5) → b ≠ (cr ad j 6) → b ≠ (cr ad j 7) → b ≠ (cr ad j 8) → b ≠ (cr ad j 9) → f105 b = f b) := fun b z0_ z1_ z2_ z3_ z4_ z5_ z6_ z7_ z8_ z9_ => (eL107F b z1_ z2_ z3_ z4_).trans (hfr b z0_ z1_ z2_ z3_ z4_ z5_ z6_ z7_ z8_ z9_)
        refine lv_aload_n hx hb dX3_play_77 rfl (lv_at hl 3 rfl) ?_
        refine lv_aload_n hx hb dX3_play_78 rfl (lv_at hl 4 rfl) ?_
        refine lv_iload_n hx hb dX3_play_79 rfl (lv_at hl 2 rfl) ?_
        refine lv_iload hx hb dX3_play_80 (lv_at hl 0 rfl) ?_
        obtain ⟨v0_110, v1_110, v2_110, v3_110, v4_110, v5_110, v6_110, v7_110, v8_110, hf111, hv1_110, hg1_110, hv2_110, hg2_110, hv6_110⟩ := hT.2.1 j hj 0 (by decide)
        refine call_v (run_V (rm := rm_X3_hearRuler_ot) hx hb hml hown hts (s_X3_hearRuler_ot l g ad th _ _ _ j r5 r98 hst hT hj hb13 eL102R) cV_X3_hearRuler wg_842 ⟨Nat.le_of_ble_eq_true rfl, Nat.le_of_ble_eq_true rfl⟩ hG hE hA hP hD hS (hst.c hj (by decide)) hf111 rfl rfl hl.1 (As := [.ref (ad 7), .int r5, .int r98]) (rest := []) rfl (Nat.le_of_ble_eq_true rfl) dX3_play_82 ⟨Nat.le_of_ble_eq_true rfl, Nat.le_of_ble_eq_true rfl⟩) hA hD hS (fun L113 f114 H locs hp115 hP hD hS => ?_)
        obtain ⟨eL116L, eL116T, eL116F⟩ := hp115
        have eL116L : L113 = L := eL116L
        rw [eL116L] at hP hD
        have hT : TI g ad th f114 := eL116T
        have eL116F : ∀ b, b ≠ (cr ad j 0) → b ≠ (cr ad j 6) → b ≠ (cr ad j 8) → f114 b = f105 b := eL116F
        have hf117 := (eL116F (ad 7) (hst.ne (by omega) (by omega) (by omega)) (hst.ne (by omega) (by omega) (by omega)) (hst.ne (by omega) (by omega) (by omega))).trans hf108
        have hf118 := (eL116F (ad 13) (hst.ne (by omega) (by omega) (by omega)) (hst.ne (by omega) (by omega) (by omega)) (hst.ne (by omega) (by omega) (by omega))).trans hf109
        have hfr : (∀ b, b ≠ (ad 13) → b ≠ (cr ad j 0) → b ≠ (cr ad j 2) → b ≠ (cr ad j 3) → b ≠ (cr ad j 4) → b ≠ (cr ad j 5) → b ≠ (cr ad j 6) → b ≠ (cr ad j 7) → b ≠ (cr ad j 8) → b ≠ (cr ad j 9) → f114 b = f b) := fun b z0_ z1_ z2_ z3_ z4_ z5_ z6_ z7_ z8_ z9_ => (eL116F b z1_ z6_ z8_).trans (hfr b z0_ z1_ z2_ z3_ z4_ z5_ z6_ z7_ z8_ z9_)
        refine lv_goto (tgt := 111) hx hb dX3_play_85 (by decide) ?_
        exact hJ111 _ _ _ _ hP hD hS hT hfr hf118 hf117 (lv_sub hl [3, 4, 5, 2, 1] rfl)
    ·
      have cc119 : (6 : Int32).toInt ≤ r5.toInt := i32_nlt c15
      exact In.empty (lo := 6) (hi := 5) (In.ge1 hb13 (⟨by decide, by decide⟩ : In 6 6 6) cc119 (by omega) (by omega)) (by decide)

abbrev rm_X3_rowOf_co_ch : Room := { frames := 2, cells := 0, slots := 0, locals := 46 }
abbrev po_X3_rowOf_co_ch (g : GG) (ad : Nat → Nat) (th : Nat → Int) (L : List Nat) (f : HP) (j : Nat) (z3 : Int32) : Int64 → (List Nat × HP) → Prop := fun r u => u.1 = L ∧ TI g ad th u.2 ∧ (∀ b, b ≠ (cr ad j 0) → u.2 b = f b)
set_option maxHeartbeats 4000000 in
set_option maxRecDepth 100000 in
theorem s_X3_rowOf_co_ch (l : Launch) (g : GG) (ad : Nat → Nat) (th : Nat → Int) (L : List Nat) (f : HP) (sz : Nat) (j : Nat) (z3 : Int32) (hst : ST ad L) (hT : TI g ad th f) (hj : j < 23) (hz3 : In z3 0 8) : MtL l g yX3_rowOf cX3_rowOf 8 (some .long) rm_X3_rowOf_co_ch [.ref (cr ad j 0), .ref (ad 6), .ref (ad 14), .int z3] L f sz (po_X3_rowOf_co_ch g ad th L f j z3) := by
  refine MtL.of (by decide +kernel) (Nat.le_of_ble_eq_true rfl) ?_
  intro p e s m below meth c A hEn hP hD hS ls hl
  obtain ⟨hx, hb, hr, hml, hown, hlocks, hts, hG, hA, hE, hnm⟩ := hEn
  have hown : s.vm.findClass "RulerWord$Course" = some m.cls := hown
  have hl : lv_has ls 8 [(0, .ref (cr ad j 0)), (1, .ref (ad 6)), (2, .ref (ad 14)), (3, .int z3)] := hl
  have hfr : (∀ b, b ≠ (cr ad j 0) → f b = f b) := fun b z0_ => rfl
  refine lv_aload_n hx hb dX3_rowOf_0 rfl (lv_at hl 0 rfl) ?_
  refine lv_aload_n hx hb dX3_rowOf_1 rfl (lv_at hl 1 rfl) ?_
  refine lv_aload_n hx hb dX3_rowOf_2 rfl (lv_at hl 2 rfl) ?_
  refine lv_iload_n hx hb dX3_rowOf_3 rfl (lv_at hl 3 rfl) ?_
  obtain ⟨v0_1, v1_1, v2_1, v3_1, v4_1, v5_1, v6_1, v7_1, v8_1, hf2, hv1_1, hg1_1, hv2_1, hg2_1, hv6_1⟩ := hT.2.1 j hj 0 (by decide)
  refine call_i (run_V (rm := rm_X3_trueLetter_co_ch) hx hb hml hown hts (s_X3_trueLetter_co_ch l g ad th _ _ _ j z3 hst hT hj) cV_X3_trueLetter wg_790 ⟨Nat.le_of_ble_eq_true rfl, Nat.le_of_ble_eq_true rfl⟩ hG hE hA hP hD hS (hst.c hj (by decide)) hf2 rfl rfl hl.1 (As := [.ref (ad 6), .ref (ad 14), .int z3]) (rest := []) rfl (Nat.le_of_ble_eq_true rfl) dX3_rowOf_4 ⟨Nat.le_of_ble_eq_true rfl, Nat.le_of_ble_eq_true rfl⟩) hA hD hS (fun r3 L4 f5 H locs hp6 hP hD hS => ?_)
  obtain ⟨eL7L, eL7T⟩ := hp6
  have eL7L : L4 = L := eL7L
  have eL7T : f5 = f := eL7T
  rw [eL7L, eL7T] at hP hD
  refine lv_istore (lv' := [(4, .int r3), (0, .ref (cr ad j 0)), (1, .ref (ad 6)), (2, .ref (ad 14)), (3, .int z3)]) hx hb dX3_rowOf_7 hl (by decide) rfl (fun ls hl => ?_)
  refine lv_aload_n hx hb dX3_rowOf_9 rfl (lv_at hl 1 rfl) ?_
  refine pl_get (v := .int v1_1) hx hb hts (fun w h => mT (inX3 w h)) hown hG.1 hP (hst.c hj (by decide)) hf2 rfl 1 (by decide) (hts _ (mT wg_338)) (fun _ h => h) rfl dX3_rowOf_10 ?_
  refine lv_iload_n hx hb dX3_rowOf_13 rfl (lv_at hl 4 rfl) ?_
  refine call_i (run_SN (rm := rm_X10_bit) hx hb hml hown hts (s_X10_bit l g ad th _ _ _ v1_1 z3 hst hT ) cS_X10_bit wn_794 ⟨Nat.le_of_ble_eq_true rfl, Nat.le_of_ble_eq_true rfl⟩ hG hE hA hP hD hS rfl hl.1 (As := [.int v1_1, .int z3]) (rest := []) rfl (Nat.le_of_ble_eq_true rfl) dX3_rowOf_14 ⟨Nat.le_of_ble_eq_true rfl, Nat.le_of_ble_eq_true rfl⟩) hA hD hS (fun r8 L9 f10 H locs hp11 hP hD hS => ?_)
  obtain ⟨eL12L, eL12T, eL12R, eL12X0⟩ := hp11
  have eL12L : L9 = L := eL12L
  have eL12T : f10 = f := eL12T
  rw [eL12L, eL12T] at hP hD
  have eL12R : In r8 0 1 := eL12R
  refine lv_if_ne (tgt := 28) hx hb dX3_rowOf_17 (by decide) (fun c13 => ?_) (fun c13 => ?_)
  ·
    have cc14 : r8.toInt ≠ (0 : Int32).toInt := i32_ne c13
    have hb15 : In r8 1 1 := In.ne1 eL12R (⟨by decide, by decide⟩ : In 0 0 0) cc14 (by omega) (by omega)
    refine lv_lconst (v := 0) hx hb dX3_rowOf_28 (by decide) ?_
    refine lv_lstore (lv' := [(5, .long 0), (4, .int r3), (0, .ref (cr ad j 0)), (1, .ref (ad 6)), (2, .ref (ad 14)), (3, .int z3)]) hx hb dX3_rowOf_29 hl (by decide) rfl (fun ls hl => ?_)
    refine lv_iconst (v := 0) hx hb dX3_rowOf_31 (by decide) ?_
    refine lv_istore (lv' := [(7, .int 0), (5, .long 0), (4, .int r3), (0, .ref (cr ad j 0)), (1, .ref (ad 6)), (2, .ref (ad 14)), (3, .int z3)]) hx hb dX3_rowOf_32 hl (by decide) rfl (fun ls hl => ?_)
    have hJ34 : ∀ (k34 : Nat) (y34_l5 : Int64) (y34_l7 : Int32) (f_34 : HP) (H : Heap) (locs : List Loc) (ls : Array Slot), In y34_l7 0 9 → va_P g.1 vwCl (va_pl L f_34) H → va_D A (va_pl L f_34) → va_S A s.heap H locs → TI g ad th f_34 → (∀ b, b ≠ (cr ad j 0) → f_34 b = f b) → lv_has ls 8 [(0, .ref (cr ad j 0)), (1, .ref (ad 6)), (2, .ref (ad 14)), (3, .int z3), (4, .int r3), (5, .long y34_l5), (7, .int y34_l7)] → 9 - y34_l7.toInt < ((k34 : Nat) : Int) → W p l e rm_X3_rowOf_co_ch s m [.ref (cr ad j 0), .ref (ad 6), .ref (ad 14), .int z3].toArray below meth c H locs 0 0 (MQ below (va_Ql (po_X3_rowOf_co_ch g ad th L f j z3) (PstB g A) A) [.ref (cr ad j 0), .ref (ad 6), .ref (ad 14), .int z3].toArray s rm_X3_rowOf_co_ch.cells rm_X3_rowOf_co_ch.slots A) (F0 m 34 ls []) := by
      intro k34
      induction k34 with
      | zero =>
        intro y34_l5 y34_l7 f_34 H locs ls hy34_l7 hP hD hS hT hfr hl hmz34
        exact ms0 hy34_l7 hmz34
      | succ k34 ih34 =>
        intro y34_l5 y34_l7 f_34 H locs ls hy34_l7 hP hD hS hT hfr hl hmz34
        refine lv_iload hx hb dX3_rowOf_34 (lv_at hl 6 rfl) ?_
        refine lv_aload_n hx hb dX3_rowOf_36 rfl (lv_at hl 1 rfl) ?_
        obtain ⟨v0_16, v1_16, v2_16, v3_16, v4_16, v5_16, v6_16, v7_16, hf17, hv0_16, hg0_16, hv1_16, hg1_16, hv2_16, hv3_16, hv5_16, hv6_16, hrel0_16⟩ := hT.1 6 (by decide)
        refine pl_getN (v := .int v1_16) hx hb hts (fun w h => mT (inX2 w h)) hown hG.1 hP (hst.1 6 (by decide)) hf17 rfl 1 (by decide) (hG.2.1 _ wn_231) (fun _ h => h) rfl dX3_rowOf_37 ?_
        refine lv_icmp_ge (tgt := 70) hx hb dX3_rowOf_40 (by decide) (fun c18 => ?_) (fun c18 => ?_)
        ·
          refine lv_lload hx hb dX3_rowOf_70 (lv_at hl 5 rfl) ?_
          exact ret_l hx hb hr hlocks hP hD hS (Nat.le_of_ble_eq_true rfl) (Nat.le_of_ble_eq_true rfl) (⟨rfl, hT, hfr⟩) dX3_rowOf_72
        ·
          have cc19 : y34_l7.toInt < v1_16.toInt := i32_nle c18
          have hb20 : In y34_l7 0 8 := In.lt1 hy34_l7 hv1_16 cc19 (by omega) (by omega)
          have hb21 : In v1_16 1 9 := In.lt2 hy34_l7 hv1_16 cc19 (by omega) (by omega)
          refine lv_lload hx hb dX3_rowOf_43 (lv_at hl 5 rfl) ?_
          refine lv_aload_n hx hb dX3_rowOf_45 rfl (lv_at hl 2 rfl) ?_
          refine lv_aload_n hx hb dX3_rowOf_46 rfl (lv_at hl 0 rfl) ?_
          refine lv_iload_n hx hb dX3_rowOf_47 rfl (lv_at hl 3 rfl) ?_
          refine lv_iload hx hb dX3_rowOf_48 (lv_at hl 6 rfl) ?_
          refine lv_iload hx hb dX3_rowOf_50 (lv_at hl 4 rfl) ?_
          obtain ⟨v0_22, v1_22, hf23, hv0_22, hv1_22⟩ := hT.1 14 (by decide)
          refine call_i (run_VA (rm := rm_X1_choose) (owner := "RulerWord$Voice") hx hb hml hown hts (s_X1_choose l g ad th _ _ _ j z3 y34_l7 r3 hst hT hj) (mG 804 (by decide +kernel) rfl) wg_799 wg_801 wg_802 wg_803 wg_163 wn_800 ⟨by decide +kernel, by decide +kernel, by decide +kernel⟩ ⟨Nat.le_of_ble_eq_true rfl, Nat.le_of_ble_eq_true rfl⟩ hG hE hA hP hD hS (hst.1 14 (by decide)) hf23 rfl rfl hl.1 (n := 4) (As := [.ref (cr ad j 0), .int z3, .int y34_l7, .int r3]) (rest := [.long y34_l5]) rfl (Nat.le_of_ble_eq_true rfl) dX3_rowOf_52 ⟨Nat.le_of_ble_eq_true rfl, Nat.le_of_ble_eq_true rfl⟩) hA hD hS (fun r24 L25 f26 H locs hp27 hP hD hS => ?_)
          obtain ⟨eL28L, eL28T, eL28F⟩ := hp27
          have eL28L : L25 = L := eL28L
          rw [eL28L] at hP hD
          have hT : TI g ad th f26 := eL28T
          have eL28F : ∀ b, b ≠ (cr ad j 0) → f26 b = f_34 b := eL28F
          have hf29 := (eL28F (ad 6) (hst.ne (by omega) (by omega) (by omega))).trans hf17
          have hf30 := (eL28F (ad 14) (hst.ne (by omega) (by omega) (by omega))).trans hf23
          have hfr : (∀ b, b ≠ (cr ad j 0) → f26 b = f b) := fun b z0_ => (eL28F b z0_).trans (hfr b z0_)
          refine lv_i2l hx hb dX3_rowOf_55 rfl ?_
          refine lv_iconst (v := 4) hx hb dX3_rowOf_56 (by decide) ?_
          refine lv_iload hx hb dX3_rowOf_57 (lv_at hl 6 rfl) ?_
          refine lv_imul hx hb dX3_rowOf_59 ?_
          refine lv_topi (fun x31 ex31 => ?_)
          have hb32 : In x31 0 32 := ex31 ▸ In.mul (⟨by decide, by decide⟩ : In 4 4 4) hb20 (by decide) (by decide) (by decide) (by decide) (by decide)
          refine lv_lshl hx hb dX3_rowOf_60 rfl ?_
          refine lv_topl (fun x33 ex33 => ?_)
          refine lv_lor hx hb dX3_rowOf_61 ?_
          refine lv_topl (fun x34 ex34 => ?_)
          refine lv_lstore (lv' := [(5, .long x34), (0, .ref (cr ad j 0)), (1, .ref (ad 6)), (2, .ref (ad 14)), (3, .int z3), (4, .int r3), (7, .int y34_l7)]) hx hb dX3_rowOf_62 hl (by decide) rfl (fun ls hl => ?_)
          obtain ⟨x35, ex35⟩ : ∃ y : Int32, y = y34_l7 + 1 := ⟨_, rfl⟩
          have hb36 : In x35 1 9 := ex35 ▸ In.add hb20 (⟨by decide, by decide⟩ : In 1 1 1) (by decide) (by decide) (by decide) (by decide)
          have et37 : x35.toInt = y34_l7.toInt + 1 := In.adde ex35 hb20 (k := 1) (by decide) (by decide) (by decide)
          refine lv_iinc (v := x35) (lv' := [(7, .int x35), (5, .long x34), (0, .ref (cr ad j 0)), (1, .ref (ad 6)), (2, .ref (ad 14)), (3, .int z3), (4, .int r3)]) hx hb dX3_rowOf_64 hl (k := 6) rfl (by rw [ex35]; rfl) (by decide) rfl (fun ls hl => ?_)
          refine lv_goto (tgt := 34) hx hb dX3_rowOf_67 (by decide) ?_
          exact ih34 x34 x35 _ _ _ _ (In.mono hb36 (by decide) (by decide)) hP hD hS hT hfr (lv_sub hl [2, 3, 4, 5, 6, 1, 0] rfl) (msu et37 (by decide) hmz34)
    exact hJ34 ((9 - (0 : Int32).toInt).toNat + 1) 0 0 _ _ _ _ (⟨by decide, by decide⟩ : In 0 0 9) hP hD hS hT hfr (lv_sub hl [3, 4, 5, 6, 2, 1, 0] rfl) (msI _)
  ·
    have cc38 : r8.toInt = (0 : Int32).toInt := congrArg Int32.toInt c13
    have hb39 : In r8 0 0 := In.eq1 eL12R (⟨by decide, by decide⟩ : In 0 0 0) cc38 (by omega) (by omega)
    refine lv_iload hx hb dX3_rowOf_20 (lv_at hl 0 rfl) ?_
    refine lv_i2l hx hb dX3_rowOf_22 rfl ?_
    refine lv_ldc2 hx hb hown (hts _ (mT wg_798)) dX3_rowOf_23 ?_
    refine lv_lmul hx hb dX3_rowOf_26 ?_
    refine lv_topl (fun x40 ex40 => ?_)
    exact ret_l hx hb hr hlocks hP hD hS (Nat.le_of_ble_eq_true rfl) (Nat.le_of_ble_eq_true rfl) (⟨rfl, hT, hfr⟩) dX3_rowOf_27

abbrev rm_X3_send_co_ch : Room := { frames := 3, cells := 0, slots := 0, locals := 73 }
abbrev po_X3_send_co_ch (g : GG) (ad : Nat → Nat) (th : Nat → Int) (L : List Nat) (f : HP) (j : Nat) (z3 : Int32) (z4 : Int32) : (List Nat × HP) → Prop := fun u => u.1 = L ∧ TI g ad th u.2 ∧ (∀ b, b ≠ (cr ad j 0) → b ≠ (cr ad j 2) → b ≠ (cr ad j 3) → b ≠ (cr ad j 4) → u.2 b = f b)
set_option maxHeartbeats 4000000 in
set_option maxRecDepth 100000 in
theorem s_X3_send_co_ch (l : Launch) (g : GG) (ad : Nat → Nat) (th : Nat → Int) (L : List Nat) (f : HP) (sz : Nat) (j : Nat) (z3 : Int32) (z4 : Int32) (hst : ST ad L) (hT : TI g ad th f) (hj : j < 23) (hz3 : In z3 0 8) (hz4 : In z4 (-1) 8) : MtV l g yX3_send cX3_send 10 rm_X3_send_co_ch [.ref (cr ad j 0), .ref (ad 6), .ref (ad 14), .int z3, .int z4] L f sz (po_X3_send_co_ch g ad th L f j z3 z4) := by
  refine MtV.of (by decide +kernel) (Nat.le_of_ble_eq_true rfl) ?_
  intro p e s m below meth c A hEn hP hD hS ls hl
  obtain ⟨hx, hb, hr, hml, hown, hlocks, hts, hG, hA, hE, hnm⟩ := hEn
  have hown : s.vm.findClass "RulerWord$Course" = some m.cls := hown
  have hl : lv_has ls 10 [(0, .ref (cr ad j 0)), (1, .ref (ad 6)), (2, .ref (ad 14)), (3, .int z3), (4, .int z4)] := hl
  have hfr : (∀ b, b ≠ (cr ad j 0) → b ≠ (cr ad j 2) → b ≠ (cr ad j 3) → b ≠ (cr ad j 4) → f b = f b) := fun b z0_ z1_ z2_ z3_ => rfl
  refine lv_aload_n hx hb dX3_send_0 rfl (lv_at hl 2 rfl) ?_
  obtain ⟨v0_1, v1_1, hf2, hv0_1, hv1_1⟩ := hT.1 14 (by decide)
  refine pl_get (v := .int v0_1) hx hb hts (fun w h => mT (inX1 w h)) hown hG.1 hP (hst.1 14 (by decide)) hf2 rfl 0 (by decide) (hts _ (mT wg_292)) (fun _ h => h) rfl dX3_send_1 ?_
  refine lv_iconst (v := 3) hx hb dX3_send_4 (by decide) ?_
  refine lv_imul hx hb dX3_send_5 ?_
  refine lv_topi (fun x3 ex3 => ?_)
  have hb4 : In x3 0 15 := ex3 ▸ In.mul hv0_1 (⟨by decide, by decide⟩ : In 3 3 3) (by decide) (by decide) (by decide) (by decide) (by decide)
  refine lv_aload_n hx hb dX3_send_6 rfl (lv_at hl 2 rfl) ?_
  refine pl_get (v := .int v1_1) hx hb hts (fun w h => mT (inX1 w h)) hown hG.1 hP (hst.1 14 (by decide)) hf2 rfl 1 (by decide) (hts _ (mT wg_295)) (fun _ h => h) rfl dX3_send_7 ?_
  refine lv_iadd hx hb dX3_send_10 ?_
  refine lv_topi (fun x5 ex5 => ?_)
  have hb6 : In x5 0 17 := ex5 ▸ In.add hb4 hv1_1 (by decide) (by decide) (by decide) (by decide)
  have et7 : x5.toInt = x3.toInt + v1_1.toInt := In.add2e ex5 hb4 hv1_1 (by decide) (by decide)
  refine lv_istore (lv' := [(5, .int x5), (0, .ref (cr ad j 0)), (1, .ref (ad 6)), (2, .ref (ad 14)), (3, .int z3), (4, .int z4)]) hx hb dX3_send_11 hl (by decide) rfl (fun ls hl => ?_)
  refine lv_aload_n hx hb dX3_send_13 rfl (lv_at hl 1 rfl) ?_
  obtain ⟨v0_8, v1_8, v2_8, v3_8, v4_8, v5_8, v6_8, v7_8, v8_8, hf9, hv1_8, hg1_8, hv2_8, hg2_8, hv6_8⟩ := hT.2.1 j hj 0 (by decide)
  refine pl_get (v := .ref (cr ad j 3)) hx hb hts (fun w h => mT (inX3 w h)) hown hG.1 hP (hst.c hj (by decide)) hf9 rfl 11 (by decide) (hts _ (mT wg_354)) (fun _ h => h) rfl dX3_send_14 ?_
  refine lv_iload hx hb dX3_send_17 (lv_at hl 0 rfl) ?_
  refine lv_lconst (v := 0) hx hb dX3_send_19 (by decide) ?_
  obtain ⟨rw10, hf11⟩ := hT.2.1 j hj 3 (by decide)
  refine pl_lastE hx hb hG.1 hP hD hS (hst.c hj (by decide)) 1 hf11 rfl (In.inb hb6 (by decide) (by decide)) dX3_send_20 (fun H locs f12 r15 er15 hf13 ho14 hP hD hS => ?_)
  have hf16 := (ho14 (ad 14) (hst.ne (by omega) (by omega) (by omega))).trans hf2
  have hf17 := (ho14 (cr ad j 0) (hst.ne (by omega) (by omega) (by omega))).trans hf9
  have hfr : (∀ b, b ≠ (cr ad j 0) → b ≠ (cr ad j 2) → b ≠ (cr ad j 3) → b ≠ (cr ad j 4) → f12 b = f b) := fun b z0_ z1_ z2_ z3_ => (ho14 b z2_).trans (hfr b z0_ z1_ z2_ z3_)
  refine lv_aload_n hx hb dX3_send_21 rfl (lv_at hl 1 rfl) ?_
  refine pl_get (v := .ref (cr ad j 4)) hx hb hts (fun w h => mT (inX3 w h)) hown hG.1 hP (hst.c hj (by decide)) hf17 rfl 12 (by decide) (hts _ (mT wg_355)) (fun _ h => h) rfl dX3_send_22 ?_
  refine lv_iload hx hb dX3_send_25 (lv_at hl 0 rfl) ?_
  refine lv_lconst (v := 0) hx hb dX3_send_27 (by decide) ?_
  have hT := TI.updC hT hst hj (k := 3) (by decide) hf13 ho14 ⟨r15, rfl⟩
  obtain ⟨rw18, hf19⟩ := hT.2.1 j hj 4 (by decide)
  refine pl_lastE hx hb hG.1 hP hD hS (hst.c hj (by decide)) 1 hf19 rfl (In.inb hb6 (by decide) (by decide)) dX3_send_28 (fun H locs f20 r23 er23 hf21 ho22 hP hD hS => ?_)
  have hf24 := (ho22 (ad 14) (hst.ne (by omega) (by omega) (by omega))).trans hf16
  have hf25 := (ho22 (cr ad j 0) (hst.ne (by omega) (by omega) (by omega))).trans hf17
  have hf26 := (ho22 (cr ad j 3) (hst.ne (by omega) (by omega) (by omega))).trans hf13
  have hfr : (∀ b, b ≠ (cr ad j 0) → b ≠ (cr ad j 2) → b ≠ (cr ad j 3) → b ≠ (cr ad j 4) → f20 b = f b) := fun b z0_ z1_ z2_ z3_ => (ho22 b z3_).trans (hfr b z0_ z1_ z2_ z3_)
  refine lv_iload_n hx hb dX3_send_29 rfl (lv_at hl 4 rfl) ?_
  refine lv_istore (lv' := [(6, .int z3), (5, .int x5), (0, .ref (cr ad j 0)), (1, .ref (ad 6)), (2, .ref (ad 14)), (3, .int z3), (4, .int z4)]) hx hb dX3_send_30 hl (by decide) rfl (fun ls hl => ?_)
  have hT := TI.updC hT hst hj (k := 4) (by decide) hf21 ho22 ⟨r23, rfl⟩
  have hJ32 : ∀ (k32 : Nat) (y32_l6 : Int32) (f_32 : HP) (H : Heap) (locs : List Loc) (ls : Array Slot), In y32_l6 0 9 → va_P g.1 vwCl (va_pl L f_32) H → va_D A (va_pl L f_32) → va_S A s.heap H locs → TI g ad th f_32 → (∀ b, b ≠ (cr ad j 0) → b ≠ (cr ad j 2) → b ≠ (cr ad j 3) → b ≠ (cr ad j 4) → f_32 b = f b) → f_32 (ad 14) = .inr (1, [.int v0_1, .int v1_1]) → lv_has ls 10 [(0, .ref (cr ad j 0)), (1, .ref (ad 6)), (2, .ref (ad 14)), (3, .int z3), (4, .int z4), (5, .int x5), (6, .int y32_l6)] → 9 - y32_l6.toInt < ((k32 : Nat) : Int) → W p l e rm_X3_send_co_ch s m [.ref (cr ad j 0), .ref (ad 6), .ref (ad 14), .int z3, .int z4].toArray below meth c H locs 0 0 (MQ below (va_Qv (po_X3_send_co_ch g ad th L f j z3 z4) (PstB g A) A) [.ref (cr ad j 0), .ref (ad 6), .ref (ad 14), .int z3, .int z4].toArray s rm_X3_send_co_ch.cells rm_X3_send_co_ch.slots A) (F0 m 32 ls []) := by
    intro k32
    induction k32 with
    | zero =>
      intro y32_l6 f_32 H locs ls hy32_l6 hP hD hS hT hfr hf27 hl hmz32
      exact ms0 hy32_l6 hmz32
    | succ k32 ih32 =>
      intro y32_l6 f_32 H locs ls hy32_l6 hP hD hS hT hfr hf27 hl hmz32
      refine lv_iload hx hb dX3_send_32 (lv_at hl 6 rfl) ?_
      refine lv_iload hx hb dX3_send_34 (lv_at hl 4 rfl) ?_
      refine lv_icmp_gt (tgt := 155) hx hb dX3_send_36 (by decide) (fun c28 => ?_) (fun c28 => ?_)
      ·
        exact ret_v hx hb hr hlocks hP hD hS (Nat.le_of_ble_eq_true rfl) (Nat.le_of_ble_eq_true rfl) (⟨rfl, hT, hfr⟩) dX3_send_155
      ·
        have cc29 : y32_l6.toInt ≤ z4.toInt := i32_nlt c28
        have hb30 : In y32_l6 0 8 := In.le1 hy32_l6 hz4 cc29 (by omega) (by omega)
        have hb31 : In z4 0 8 := In.le2 hy32_l6 hz4 cc29 (by omega) (by omega)
        refine lv_aload_n hx hb dX3_send_39 rfl (lv_at hl 0 rfl) ?_
        refine lv_aload_n hx hb dX3_send_40 rfl (lv_at hl 1 rfl) ?_
        refine lv_aload_n hx hb dX3_send_41 rfl (lv_at hl 2 rfl) ?_
        refine lv_iload hx hb dX3_send_42 (lv_at hl 6 rfl) ?_
        obtain ⟨v0_32, v1_32, v2_32, v3_32, v4_32, v5_32, v6_32, v7_32, v8_32, hf33, hv1_32, hg1_32, hv2_32, hg2_32, hv6_32⟩ := hT.2.1 j hj 0 (by decide)
        refine call_l (run_V (rm := rm_X3_rowOf_co_ch) hx hb hml hown hts (s_X3_rowOf_co_ch l g ad th _ _ _ j y32_l6 hst hT hj hb30) cV_X3_rowOf wg_786 ⟨Nat.le_of_ble_eq_true rfl, Nat.le_of_ble_eq_true rfl⟩ hG hE hA hP hD hS (hst.c hj (by decide)) hf33 rfl rfl hl.1 (As := [.ref (ad 6), .ref (ad 14), .int y32_l6]) (rest := []) rfl (Nat.le_of_ble_eq_true rfl) dX3_send_44 ⟨Nat.le_of_ble_eq_true rfl, Nat.le_of_ble_eq_true rfl⟩) hA hD hS (fun r34 L35 f36 H locs hp37 hP hD hS => ?_)
        obtain ⟨eL38L, eL38T, eL38F⟩ := hp37
        have eL38L : L35 = L := eL38L
        rw [eL38L] at hP hD
        have hT : TI g ad th f36 := eL38T
        have eL38F : ∀ b, b ≠ (cr ad j 0) → f36 b = f_32 b := eL38F
        have hf39 := (eL38F (ad 14) (hst.ne (by omega) (by omega) (by omega))).trans hf27
        have hfr : (∀ b, b ≠ (cr ad j 0) → b ≠ (cr ad j 2) → b ≠ (cr ad j 3) → b ≠ (cr ad j 4) → f36 b = f b) := fun b z0_ z1_ z2_ z3_ => (eL38F b z0_).trans (hfr b z0_ z1_ z2_ z3_)
        refine lv_lstore (lv' := [(7, .long r34), (0, .ref (cr ad j 0)), (1, .ref (ad 6)), (2, .ref (ad 14)), (3, .int z3), (4, .int z4), (5, .int x5), (6, .int y32_l6)]) hx hb dX3_send_47 hl (by decide) rfl (fun ls hl => ?_)
        refine lv_aload_n hx hb dX3_send_49 rfl (lv_at hl 1 rfl) ?_
        obtain ⟨v0_40, v1_40, v2_40, v3_40, v4_40, v5_40, v6_40, v7_40, v8_40, hf41, hv1_40, hg1_40, hv2_40, hg2_40, hv6_40⟩ := hT.2.1 j hj 0 (by decide)
        refine pl_get (v := .ref (cr ad j 2)) hx hb hts (fun w h => mT (inX3 w h)) hown hG.1 hP (hst.c hj (by decide)) hf41 rfl 10 (by decide) (hts _ (mT wg_353)) (fun _ h => h) rfl dX3_send_50 ?_
        refine lv_iload hx hb dX3_send_53 (lv_at hl 6 rfl) ?_
        refine lv_bipush (v := 9) hx hb dX3_send_55 (by decide) ?_
        refine lv_imul hx hb dX3_send_57 ?_
        refine lv_topi (fun x42 ex42 => ?_)
        have hb43 : In x42 0 153 := ex42 ▸ In.mul hb6 (⟨by decide, by decide⟩ : In 9 9 9) (by decide) (by decide) (by decide) (by decide) (by decide)
        refine lv_iload hx hb dX3_send_58 (lv_at hl 7 rfl) ?_
        refine lv_iadd hx hb dX3_send_60 ?_
        refine lv_topi (fun x44 ex44 => ?_)
        have hb45 : In x44 0 161 := ex44 ▸ In.add hb43 hb30 (by decide) (by decide) (by decide) (by decide)
        have et46 : x44.toInt = x42.toInt + y32_l6.toInt := In.add2e ex44 hb43 hb30 (by decide) (by decide)
        refine lv_lload hx hb dX3_send_61 (lv_at hl 0 rfl) ?_
        obtain ⟨rw47, hf48⟩ := hT.2.1 j hj 2 (by decide)
        refine pl_lastE hx hb hG.1 hP hD hS (hst.c hj (by decide)) 1 hf48 rfl (In.inb hb45 (by decide) (by decide)) dX3_send_63 (fun H locs f49 r52 er52 hf50 ho51 hP hD hS => ?_)
        have hf53 := (ho51 (ad 14) (hst.ne (by omega) (by omega) (by omega))).trans hf39
        have hf54 := (ho51 (cr ad j 0) (hst.ne (by omega) (by omega) (by omega))).trans hf41
        have hfr : (∀ b, b ≠ (cr ad j 0) → b ≠ (cr ad j 2) → b ≠ (cr ad j 3) → b ≠ (cr ad j 4) → f49 b = f b) := fun b z0_ z1_ z2_ z3_ => (ho51 b z1_).trans (hfr b z0_ z1_ z2_ z3_)
        refine lv_aload_n hx hb dX3_send_64 rfl (lv_at hl 1 rfl) ?_
        refine pl_get (v := .ref (cr ad j 3)) hx hb hts (fun w h => mT (inX3 w h)) hown hG.1 hP (hst.c hj (by decide)) hf54 rfl 11 (by decide) (hts _ (mT wg_354)) (fun _ h => h) rfl dX3_send_65 ?_
        refine lv_iload hx hb dX3_send_68 (lv_at hl 6 rfl) ?_
        refine lv_dup2_11 hx hb dX3_send_70 rfl rfl ?_
        have hT := TI.updC hT hst hj (k := 2) (by decide) hf50 ho51 ⟨r52, rfl⟩
        obtain ⟨rw55, hf56⟩ := hT.2.1 j hj 3 (by decide)
        have hin57 : vp_in x5 18 := In.inb hb6 (by decide) (by decide)
        refine pl_lald hx hb hG.1 hP (hst.c hj (by decide)) 1 hf56 rfl hin57 dX3_send_71 ?_
        refine lv_topl (fun x58 ex58 => ?_)
        refine lv_lload hx hb dX3_send_72 (lv_at hl 0 rfl) ?_
        refine lv_ldc2 hx hb hown (hts _ (mT wg_798)) dX3_send_74 ?_
        refine lv_land hx hb dX3_send_77 ?_
        refine lv_topl (fun x59 ex59 => ?_)
        refine lv_ladd hx hb dX3_send_78 ?_
        refine lv_topl (fun x60 ex60 => ?_)
        refine pl_lastE hx hb hG.1 hP hD hS (hst.c hj (by decide)) 1 hf56 rfl (In.inb hb6 (by decide) (by decide)) dX3_send_79 (fun H locs f61 r64 er64 hf62 ho63 hP hD hS => ?_)
        have hf65 := (ho63 (ad 14) (hst.ne (by omega) (by omega) (by omega))).trans hf53
        have hf66 := (ho63 (cr ad j 0) (hst.ne (by omega) (by omega) (by omega))).trans hf54
        have hf67 := (ho63 (cr ad j 2) (hst.ne (by omega) (by omega) (by omega))).trans hf50
        have hfr : (∀ b, b ≠ (cr ad j 0) → b ≠ (cr ad j 2) → b ≠ (cr ad j 3) → b ≠ (cr ad j 4) → f61 b = f b) := fun b z0_ z1_ z2_ z3_ => (ho63 b z2_).trans (hfr b z0_ z1_ z2_ z3_)
        refine lv_aload_n hx hb dX3_send_80 rfl (lv_at hl 1 rfl) ?_
        refine pl_get (v := .ref (cr ad j 4)) hx hb hts (fun w h => mT (inX3 w h)) hown hG.1 hP (hst.c hj (by decide)) hf66 rfl 12 (by decide) (hts _ (mT wg_355)) (fun _ h => h) rfl dX3_send_81 ?_
        refine lv_iload hx hb dX3_send_84 (lv_at hl 6 rfl) ?_
        refine lv_dup2_11 hx hb dX3_send_86 rfl rfl ?_
        have hT := TI.updC hT hst hj (k := 3) (by decide) hf62 ho63 ⟨r64, rfl⟩
        obtain ⟨rw68, hf69⟩ := hT.2.1 j hj 4 (by decide)
        have hin70 : vp_in x5 18 := In.inb hb6 (by decide) (by decide)
        refine pl_lald hx hb hG.1 hP (hst.c hj (by decide)) 1 hf69 rfl hin70 dX3_send_87 ?_
        refine lv_topl (fun x71 ex71 => ?_)
        refine lv_lload hx hb dX3_send_88 (lv_at hl 0 rfl) ?_
        refine lv_iconst (v := 1) hx hb dX3_send_90 (by decide) ?_
        refine lv_lushr hx hb dX3_send_91 rfl ?_
        refine lv_topl (fun x72 ex72 => ?_)
        refine lv_ldc2 hx hb hown (hts _ (mT wg_798)) dX3_send_92 ?_
        refine lv_land hx hb dX3_send_95 ?_
        refine lv_topl (fun x73 ex73 => ?_)
        refine lv_ladd hx hb dX3_send_96 ?_
        refine lv_topl (fun x74 ex74 => ?_)
        refine pl_lastE hx hb hG.1 hP hD hS (hst.c hj (by decide)) 1 hf69 rfl (In.inb hb6 (by decide) (by decide)) dX3_send_97 (fun H locs f75 r78 er78 hf76 ho77 hP hD hS => ?_)
        have hf79 := (ho77 (ad 14) (hst.ne (by omega) (by omega) (by omega))).trans hf65
        have hf80 := (ho77 (cr ad j 0) (hst.ne (by omega) (by omega) (by omega))).trans hf66
        have hf81 := (ho77 (cr ad j 2) (hst.ne (by omega) (by omega) (by omega))).trans hf67
        have hf82 := (ho77 (cr ad j 3) (hst.ne (by omega) (by omega) (by omega))).trans hf62
        have hfr : (∀ b, b ≠ (cr ad j 0) → b ≠ (cr ad j 2) → b ≠ (cr ad j 3) → b ≠ (cr ad j 4) → f75 b = f b) := fun b z0_ z1_ z2_ z3_ => (ho77 b z3_).trans (hfr b z0_ z1_ z2_ z3_)
        refine lv_lload hx hb dX3_send_98 (lv_at hl 0 rfl) ?_
        refine lv_aload_n hx hb dX3_send_100 rfl (lv_at hl 2 rfl) ?_
        have hT := TI.updC hT hst hj (k := 4) (by decide) hf76 ho77 ⟨r78, rfl⟩
        obtain ⟨v0_83, v1_83, v2_83, v3_83, v4_83, v5_83, v6_83, v7_83, hf84, hv0_83, hg0_83, hv1_83, hg1_83, hv2_83, hv3_83, hv5_83, hv6_83, hrel0_83⟩ := hT.1 6 (by decide)
        refine pl_getN (v := .int v1_83) hx hb hts (fun w h => mT (inX2 w h)) hown hG.1 hP (hst.1 6 (by decide)) hf84 rfl 1 (by decide) (hG.2.1 _ wn_231) (fun _ h => h) rfl dX3_send_101 ?_
        refine lv_iload hx hb dX3_send_104 (lv_at hl 7 rfl) ?_
        refine call_i (run_S (rm := rm_X3_reachedBy) hx hb hml hown hts (s_X3_reachedBy l g ad th _ _ _ r34 v1_83 y32_l6 hst hT ) cS_X3_reachedBy wg_831 ⟨Nat.le_of_ble_eq_true rfl, Nat.le_of_ble_eq_true rfl⟩ hG hE hA hP hD hS rfl hl.1 (As := [.long r34, .int v1_83, .int y32_l6]) (rest := []) rfl (Nat.le_of_ble_eq_true rfl) dX3_send_106 ⟨Nat.le_of_ble_eq_true rfl, Nat.le_of_ble_eq_true rfl⟩) hA hD hS (fun r85 L86 f87 H locs hp88 hP hD hS => ?_)
        obtain ⟨eL89L, eL89T⟩ := hp88
        have eL89L : L86 = L := eL89L
        have eL89T : f87 = f75 := eL89T
        rw [eL89L, eL89T] at hP hD
        refine lv_istore (lv' := [(9, .int r85), (7, .long r34), (0, .ref (cr ad j 0)), (1, .ref (ad 6)), (2, .ref (ad 14)), (3, .int z3), (4, .int z4), (5, .int x5), (6, .int y32_l6)]) hx hb dX3_send_109 hl (by decide) rfl (fun ls hl => ?_)
        refine lv_aload_n hx hb dX3_send_111 rfl (lv_at hl 2 rfl) ?_
        refine lv_dup hx hb dX3_send_112 rfl ?_
        refine pl_get (v := .int v4_40) hx hb hts (fun w h => mT (inX3 w h)) hown hG.1 hP (hst.c hj (by decide)) hf80 rfl 4 (by decide) (hts _ (mT wg_344)) (fun _ h => h) rfl dX3_send_113 ?_
        refine lv_iload hx hb dX3_send_116 (lv_at hl 0 rfl) ?_
        refine lv_iadd hx hb dX3_send_118 ?_
        refine lv_topi (fun x90 ex90 => ?_)
        refine pl_put (ty := .int) (v := .int x90) (fs' := [.int v0_40, .int v1_40, .int v2_40, .int v3_40, .int x90, .int v5_40, .int v6_40, .long v7_40, .long v8_40, .ref (cr ad j 1), .ref (cr ad j 2), .ref (cr ad j 3), .ref (cr ad j 4), .ref (cr ad j 5), .ref (cr ad j 6), .ref (cr ad j 7), .ref (cr ad j 8), .ref (cr ad j 9)]) hx hb hts (fun w h => mT (inX3 w h)) tyX3 tyX3_ok nmX3 hown hG.1 hP hD hS (hst.c hj (by decide)) hf80 rfl 4 (by decide) (hts _ (mT wg_344)) (fun _ h => h) rfl (by decide +kernel) (rfl) (rfl) (Nat.le_of_ble_eq_true rfl) rfl dX3_send_119 (fun H locs f91 hf92 ho93 hP hD hS => ?_)
        have hf94 := (ho93 (ad 14) (hst.ne (by omega) (by omega) (by omega))).trans hf79
        have hf95 := (ho93 (cr ad j 2) (hst.ne (by omega) (by omega) (by omega))).trans hf81
        have hf96 := (ho93 (cr ad j 3) (hst.ne (by omega) (by omega) (by omega))).trans hf82
        have hf97 := (ho93 (cr ad j 4) (hst.ne (by omega) (by omega) (by omega))).trans hf76
        have hf98 := (ho93 (ad 6) (hst.ne (by omega) (by omega) (by omega))).trans hf84
        have hfr : (∀ b, b ≠ (cr ad j 0) → b ≠ (cr ad j 2) → b ≠ (cr ad j 3) → b ≠ (cr ad j 4) → f91 b = f b) := fun b z0_ z1_ z2_ z3_ => (ho93 b z0_).trans (hfr b z0_ z1_ z2_ z3_)
        refine lv_aload_n hx hb dX3_send_122 rfl (lv_at hl 2 rfl) ?_
        refine lv_dup hx hb dX3_send_123 rfl ?_
        refine pl_get (v := .int v5_40) hx hb hts (fun w h => mT (inX3 w h)) hown hG.1 hP (hst.c hj (by decide)) hf92 rfl 5 (by decide) (hts _ (mT wg_346)) (fun _ h => h) rfl dX3_send_124 ?_
        refine lv_aload_n hx hb dX3_send_127 rfl (lv_at hl 2 rfl) ?_
        refine pl_get (v := .int v1_40) hx hb hts (fun w h => mT (inX3 w h)) hown hG.1 hP (hst.c hj (by decide)) hf92 rfl 1 (by decide) (hts _ (mT wg_338)) (fun _ h => h) rfl dX3_send_128 ?_
        refine lv_iload hx hb dX3_send_131 (lv_at hl 8 rfl) ?_
        have hT := TI.updC hT hst hj (k := 0) (by decide) hf92 ho93 ⟨v0_40, v1_40, v2_40, v3_40, x90, v5_40, v6_40, v7_40, v8_40, rfl, hv1_40, hg1_40, hv2_40, hg2_40, hv6_40⟩
        refine call_i (run_SN (rm := rm_X10_bit) hx hb hml hown hts (s_X10_bit l g ad th _ _ _ v1_40 y32_l6 hst hT ) cS_X10_bit wn_794 ⟨Nat.le_of_ble_eq_true rfl, Nat.le_of_ble_eq_true rfl⟩ hG hE hA hP hD hS rfl hl.1 (As := [.int v1_40, .int y32_l6]) (rest := [.int v5_40, .ref (cr ad j 0)]) rfl (Nat.le_of_ble_eq_true rfl) dX3_send_133 ⟨Nat.le_of_ble_eq_true rfl, Nat.le_of_ble_eq_true rfl⟩) hA hD hS (fun r99 L100 f101 H locs hp102 hP hD hS => ?_)
        obtain ⟨eL103L, eL103T, eL103R, eL103X0⟩ := hp102
        have eL103L : L100 = L := eL103L
        have eL103T : f101 = f91 := eL103T
        rw [eL103L, eL103T] at hP hD
        have eL103R : In r99 0 1 := eL103R
        have hJ145 : ∀ (y145_s0 : Int32) (H : Heap) (locs : List Loc) (ls : Array Slot), In y145_s0 (-2147483648) 2147483647 → va_P g.1 vwCl (va_pl L f91) H → va_D A (va_pl L f91) → va_S A s.heap H locs → lv_has ls 10 [(0, .ref (cr ad j 0)), (1, .ref (ad 6)), (2, .ref (ad 14)), (3, .int z3), (4, .int z4), (5, .int x5), (6, .int y32_l6), (7, .long r34), (9, .int r85)] → W p l e rm_X3_send_co_ch s m [.ref (cr ad j 0), .ref (ad 6), .ref (ad 14), .int z3, .int z4].toArray below meth c H locs 0 0 (MQ below (va_Qv (po_X3_send_co_ch g ad th L f j z3 z4) (PstB g A) A) [.ref (cr ad j 0), .ref (ad 6), .ref (ad 14), .int z3, .int z4].toArray s rm_X3_send_co_ch.cells rm_X3_send_co_ch.slots A) (F0 m 145 ls [.int y145_s0, .int v5_40, .ref (cr ad j 0)]) := by
          intro y145_s0 H locs ls hy145_s0 hP hD hS hl
          refine lv_iadd hx hb dX3_send_145 ?_
          refine lv_topi (fun x104 ex104 => ?_)
          refine pl_put (ty := .int) (v := .int x104) (fs' := [.int v0_40, .int v1_40, .int v2_40, .int v3_40, .int x90, .int x104, .int v6_40, .long v7_40, .long v8_40, .ref (cr ad j 1), .ref (cr ad j 2), .ref (cr ad j 3), .ref (cr ad j 4), .ref (cr ad j 5), .ref (cr ad j 6), .ref (cr ad j 7), .ref (cr ad j 8), .ref (cr ad j 9)]) hx hb hts (fun w h => mT (inX3 w h)) tyX3 tyX3_ok nmX3 hown hG.1 hP hD hS (hst.c hj (by decide)) hf92 rfl 5 (by decide) (hts _ (mT wg_346)) (fun _ h => h) rfl (by decide +kernel) (rfl) (rfl) (Nat.le_of_ble_eq_true rfl) rfl dX3_send_146 (fun H locs f105 hf106 ho107 hP hD hS => ?_)
          have hf108 := (ho107 (ad 14) (hst.ne (by omega) (by omega) (by omega))).trans hf94
          have hf109 := (ho107 (cr ad j 2) (hst.ne (by omega) (by omega) (by omega))).trans hf95
          have hf110 := (ho107 (cr ad j 3) (hst.ne (by omega) (by omega) (by omega))).trans hf96
          have hf111 := (ho107 (cr ad j 4) (hst.ne (by omega) (by omega) (by omega))).trans hf97
          have hf112 := (ho107 (ad 6) (hst.ne (by omega) (by omega) (by omega))).trans hf98
          have hfr : (∀ b, b ≠ (cr ad j 0) → b ≠ (cr ad j 2) → b ≠ (cr ad j 3) → b ≠ (cr ad j 4) → f105 b = f b) := fun b z0_ z1_ z2_ z3_ => (ho107 b z0_).trans (hfr b z0_ z1_ z2_ z3_)
          obtain ⟨x113, ex113⟩ : ∃ y : Int32, y = y32_l6 + 1 := ⟨_, rfl⟩
          have hb114 : In x113 1 9 := ex113 ▸ In.add hb30 (⟨by decide, by decide⟩ : In 1 1 1) (by decide) (by decide) (by decide) (by decide)
          have et115 : x113.toInt = y32_l6.toInt + 1 := In.adde ex113 hb30 (k := 1) (by decide) (by decide) (by decide)
          refine lv_iinc (v := x113) (lv' := [(6, .int x113), (0, .ref (cr ad j 0)), (1, .ref (ad 6)), (2, .ref (ad 14)), (3, .int z3), (4, .int z4), (5, .int x5), (7, .long r34), (9, .int r85)]) hx hb dX3_send_149 hl (k := 6) rfl (by rw [ex113]; rfl) (by decide) rfl (fun ls hl => ?_)
          have hT := TI.updC hT hst hj (k := 0) (by decide) hf106 ho107 ⟨v0_40, v1_40, v2_40, v3_40, x90, x104, v6_40, v7_40, v8_40, rfl, hv1_40, hg1_40, hv2_40, hg2_40, hv6_40⟩
          refine lv_goto (tgt := 32) hx hb dX3_send_152 (by decide) ?_
          exact ih32 x113 _ _ _ _ (In.mono hb114 (by decide) (by decide)) hP hD hS hT hfr hf108 (lv_sub hl [1, 2, 3, 4, 5, 6, 0] rfl) (msu et115 (by decide) hmz32)
        refine lv_if_ne (tgt := 144) hx hb dX3_send_136 (by decide) (fun c116 => ?_) (fun c116 => ?_)
        ·
          have cc117 : r99.toInt ≠ (0 : Int32).toInt := i32_ne c116
          have hb118 : In r99 1 1 := In.ne1 eL103R (⟨by decide, by decide⟩ : In 0 0 0) cc117 (by omega) (by omega)
          refine lv_iconst (v := 0) hx hb dX3_send_144 (by decide) ?_
          exact hJ145 0 _ _ _ (⟨by decide, by decide⟩ : In 0 (-2147483648) 2147483647) hP hD hS (lv_sub hl [2, 3, 4, 5, 6, 7, 8, 1, 0] rfl)
        ·
          have cc119 : r99.toInt = (0 : Int32).toInt := congrArg Int32.toInt c116
          have hb120 : In r99 0 0 := In.eq1 eL103R (⟨by decide, by decide⟩ : In 0 0 0) cc119 (by omega) (by omega)
          refine lv_iload hx hb dX3_send_139 (lv_at hl 0 rfl) ?_
          refine lv_goto (tgt := 145) hx hb dX3_send_141 (by decide) ?_
          exact hJ145 r85 _ _ _ (In.full r85) hP hD hS (lv_sub hl [2, 3, 4, 5, 6, 7, 8, 1, 0] rfl)
  exact hJ32 ((9 - z3.toInt).toNat + 1) z3 _ _ _ _ (In.mono hz3 (by decide) (by decide)) hP hD hS hT hfr hf24 (lv_sub hl [2, 3, 4, 5, 6, 1, 0] rfl) (msI _)

abbrev rm_X3_play_co_ch : Room := { frames := 4, cells := 0, slots := 0, locals := 102 }
abbrev po_X3_play_co_ch (g : GG) (ad : Nat → Nat) (th : Nat → Int) (L : List Nat) (f : HP) (j : Nat) : (List Nat × HP) → Prop := fun u => u.1 = L ∧ (∃ zz : Int, (0 ≤ zz ∧ zz ≤ 6 * rnd (th 2)) ∧ TI g ad (gset th (300 + j) zz) u.2) ∧ (∀ b, b ≠ (ad 14) → b ≠ (cr ad j 0) → b ≠ (cr ad j 2) → b ≠ (cr ad j 3) → b ≠ (cr ad j 4) → b ≠ (cr ad j 5) → b ≠ (cr ad j 6) → b ≠ (cr ad j 7) → b ≠ (cr ad j 8) → b ≠ (cr ad j 9) → u.2 b = f b)
set_option maxHeartbeats 4000000 in
set_option maxRecDepth 100000 in
theorem s_X3_play_co_ch (l : Launch) (g : GG) (ad : Nat → Nat) (th : Nat → Int) (L : List Nat) (f : HP) (sz : Nat) (j : Nat) (hst : ST ad L) (hT : TI g ad th f) (hj : j < 23) (h3a : 0 ≤ th (300 + j)) (h3b : th (300 + j) ≤ 6 * rnd (th 2)) : MtV l g yX3_play cX3_play 6 rm_X3_play_co_ch [.ref (cr ad j 0), .ref (ad 6), .ref (ad 14)] L f sz (po_X3_play_co_ch g ad th L f j) := by
  refine MtV.of (by decide +kernel) (Nat.le_of_ble_eq_true rfl) ?_
  intro p e s m below meth c A hEn hP hD hS ls hl
  obtain ⟨hx, hb, hr, hml, hown, hlocks, hts, hG, hA, hE, hnm⟩ := hEn
  have hown : s.vm.findClass "RulerWord$Course" = some m.cls := hown
  have hl : lv_has ls 6 [(0, .ref (cr ad j 0)), (1, .ref (ad 6)), (2, .ref (ad 14))] := hl
  have hfr : (∀ b, b ≠ (ad 14) → b ≠ (cr ad j 0) → b ≠ (cr ad j 2) → b ≠ (cr ad j 3) → b ≠ (cr ad j 4) → b ≠ (cr ad j 5) → b ≠ (cr ad j 6) → b ≠ (cr ad j 7) → b ≠ (cr ad j 8) → b ≠ (cr ad j 9) → f b = f b) := fun b z0_ z1_ z2_ z3_ z4_ z5_ z6_ z7_ z8_ z9_ => rfl
  refine lv_aload_n hx hb dX3_play_0 rfl (lv_at hl 1 rfl) ?_
  refine lv_aload_n hx hb dX3_play_1 rfl (lv_at hl 0 rfl) ?_
  obtain ⟨v0_1, v1_1, v2_1, v3_1, v4_1, v5_1, v6_1, v7_1, v8_1, hf2, hv1_1, hg1_1, hv2_1, hg2_1, hv6_1⟩ := hT.2.1 j hj 0 (by decide)
  refine pl_get (v := .int v2_1) hx hb hts (fun w h => mT (inX3 w h)) hown hG.1 hP (hst.c hj (by decide)) hf2 rfl 2 (by decide) (hts _ (mT wg_340)) (fun _ h => h) rfl dX3_play_2 ?_
  obtain ⟨v0_3, v1_3, v2_3, v3_3, v4_3, v5_3, v6_3, v7_3, hf4, hv0_3, hg0_3, hv1_3, hg1_3, hv2_3, hv3_3, hv5_3, hv6_3, hrel0_3⟩ := hT.1 6 (by decide)
  refine call_i (run_VN (rm := rm_X2_phaseAt_co) hx hb hml hown hts (s_X2_phaseAt_co l g ad th _ _ _ v2_1 hst hT hv2_1) cV_X2_phaseAt wn_775 ⟨Nat.le_of_ble_eq_true rfl, Nat.le_of_ble_eq_true rfl⟩ hG hE hA hP hD hS (hst.1 6 (by decide)) hf4 rfl rfl hl.1 (As := [.int v2_1]) (rest := []) rfl (Nat.le_of_ble_eq_true rfl) dX3_play_5 ⟨Nat.le_of_ble_eq_true rfl, Nat.le_of_ble_eq_true rfl⟩) hA hD hS (fun r5 L6 f7 H locs hp8 hP hD hS => ?_)
  obtain ⟨eL9L, eL9T, eL9R, eL9X0⟩ := hp8
  have eL9L : L6 = L := eL9L
  have eL9T : f7 = f := eL9T
  rw [eL9L, eL9T] at hP hD
  have eL9R : In r5 0 9 := eL9R
  have hph10 : r5.toInt * rnd (th 2) ≤ v2_1.toInt ∧ v2_1.toInt < (r5.toInt + 1) * rnd (th 2) := eL9X0
  refine lv_istore_n (lv' := [(3, .int r5), (0, .ref (cr ad j 0)), (1, .ref (ad 6)), (2, .ref (ad 14))]) hx hb dX3_play_8 rfl hl (by decide) rfl (fun ls hl => ?_)
  refine lv_iload_n hx hb dX3_play_9 rfl (lv_at hl 0 rfl) ?_
  refine lv_aload_n hx hb dX3_play_10 rfl (lv_at hl 2 rfl) ?_
  refine pl_getN (v := .int v3_3) hx hb hts (fun w h => mT (inX2 w h)) hown hG.1 hP (hst.1 6 (by decide)) hf4 rfl 3 (by decide) (hG.2.1 _ wn_236) (fun _ h => h) rfl dX3_play_11 ?_
  refine lv_icmp_ge (tgt := 23) hx hb dX3_play_14 (by decide) (fun c11 => ?_) (fun c11 => ?_)
  ·
    exact ret_v hx hb hr hlocks hP hD hS (Nat.le_of_ble_eq_true rfl) (Nat.le_of_ble_eq_true rfl) (⟨rfl, ⟨th (300 + j), ⟨h3a, h3b⟩, by rw [gset_same]; exact hT⟩, hfr⟩) dX3_play_23
  ·
    have cc12 : r5.toInt < v3_3.toInt := i32_nle c11
    have hb13 : In r5 0 5 := In.lt1 eL9R hv3_3 cc12 (by omega) (by omega)
    have hb14 : In v3_3 1 6 := In.lt2 eL9R hv3_3 cc12 (by omega) (by omega)
    refine lv_iload_n hx hb dX3_play_17 rfl (lv_at hl 0 rfl) ?_
    refine lv_bipush (v := 6) hx hb dX3_play_18 (by decide) ?_
    refine lv_icmp_lt (tgt := 24) hx hb dX3_play_20 (by decide) (fun c15 => ?_) (fun c15 => ?_)
    ·
      refine lv_aload_n hx hb dX3_play_24 rfl (lv_at hl 1 rfl) ?_
      refine pl_get (v := .int v4_1) hx hb hts (fun w h => mT (inX3 w h)) hown hG.1 hP (hst.c hj (by decide)) hf2 rfl 4 (by decide) (hts _ (mT wg_344)) (fun _ h => h) rfl dX3_play_25 ?_
      refine lv_istore (lv' := [(4, .int v4_1), (3, .int r5), (0, .ref (cr ad j 0)), (1, .ref (ad 6)), (2, .ref (ad 14))]) hx hb dX3_play_28 hl (by decide) rfl (fun ls hl => ?_)
      refine lv_aload_n hx hb dX3_play_30 rfl (lv_at hl 4 rfl) ?_
      refine lv_iload_n hx hb dX3_play_31 rfl (lv_at hl 1 rfl) ?_
      obtain ⟨v0_16, v1_16, hf17, hv0_16, hv1_16⟩ := hT.1 14 (by decide)
      refine pl_put (ty := .int) (v := .int r5) (fs' := [.int r5, .int v1_16]) hx hb hts (fun w h => mT (inX1 w h)) tyX1 tyX1_ok nmX1 hown hG.1 hP hD hS (hst.1 14 (by decide)) hf17 rfl 0 (by decide) (hts _ (mT wg_292)) (fun _ h => h) rfl (by decide +kernel) (rfl) (rfl) (Nat.le_of_ble_eq_true rfl) rfl dX3_play_32 (fun H locs f18 hf19 ho20 hP hD hS => ?_)
      have hf21 := (ho20 (cr ad j 0) (hst.ne (by omega) (by omega) (by omega))).trans hf2
      have hf22 := (ho20 (ad 6) (hst.ne (by decide) (by decide) (by decide))).trans hf4
      have hfr : (∀ b, b ≠ (ad 14) → b ≠ (cr ad j 0) → b ≠ (cr ad j 2) → b ≠ (cr ad j 3) → b ≠ (cr ad j 4) → b ≠ (cr ad j 5) → b ≠ (cr ad j 6) → b ≠ (cr ad j 7) → b ≠ (cr ad j 8) → b ≠ (cr ad j 9) → f18 b = f b) := fun b z0_ z1_ z2_ z3_ z4_ z5_ z6_ z7_ z8_ z9_ => (ho20 b z0_).trans (hfr b z0_ z1_ z2_ z3_ z4_ z5_ z6_ z7_ z8_ z9_)
      refine lv_aload_n hx hb dX3_play_35 rfl (lv_at hl 4 rfl) ?_
      refine lv_aload_n hx hb dX3_play_36 rfl (lv_at hl 3 rfl) ?_
      refine lv_aload_n hx hb dX3_play_37 rfl (lv_at hl 2 rfl) ?_
      refine pl_get (v := .int v2_1) hx hb hts (fun w h => mT (inX3 w h)) hown hG.1 hP (hst.c hj (by decide)) hf21 rfl 2 (by decide) (hts _ (mT wg_340)) (fun _ h => h) rfl dX3_play_38 ?_
      have hT := TI.updA hT hst (k := 14) (by decide) hf19 ho20 ⟨r5, v1_16, rfl, hb13, hv1_16⟩
      refine call_i (run_VN (rm := rm_X2_turnAt_co) hx hb hml hown hts (s_X2_turnAt_co l g ad th _ _ _ v2_1 hst hT hv2_1) cV_X2_turnAt wn_776 ⟨Nat.le_of_ble_eq_true rfl, Nat.le_of_ble_eq_true rfl⟩ hG hE hA hP hD hS (hst.1 6 (by decide)) hf22 rfl rfl hl.1 (As := [.int v2_1]) (rest := [.ref (ad 14)]) rfl (Nat.le_of_ble_eq_true rfl) dX3_play_41 ⟨Nat.le_of_ble_eq_true rfl, Nat.le_of_ble_eq_true rfl⟩) hA hD hS (fun r23 L24 f25 H locs hp26 hP hD hS => ?_)
      obtain ⟨eL27L, eL27T, eL27R⟩ := hp26
      have eL27L : L24 = L := eL27L
      have eL27T : f25 = f18 := eL27T
      rw [eL27L, eL27T] at hP hD
      have eL27R : In r23 0 2 := eL27R
      refine pl_put (ty := .int) (v := .int r23) (fs' := [.int r5, .int r23]) hx hb hts (fun w h => mT (inX1 w h)) tyX1 tyX1_ok nmX1 hown hG.1 hP hD hS (hst.1 14 (by decide)) hf19 rfl 1 (by decide) (hts _ (mT wg_295)) (fun _ h => h) rfl (by decide +kernel) (rfl) (rfl) (Nat.le_of_ble_eq_true rfl) rfl dX3_play_44 (fun H locs f28 hf29 ho30 hP hD hS => ?_)
      have hf31 := (ho30 (cr ad j 0) (hst.ne (by omega) (by omega) (by omega))).trans hf21
      have hf32 := (ho30 (ad 6) (hst.ne (by decide) (by decide) (by decide))).trans hf22
      have hfr : (∀ b, b ≠ (ad 14) → b ≠ (cr ad j 0) → b ≠ (cr ad j 2) → b ≠ (cr ad j 3) → b ≠ (cr ad j 4) → b ≠ (cr ad j 5) → b ≠ (cr ad j 6) → b ≠ (cr ad j 7) → b ≠ (cr ad j 8) → b ≠ (cr ad j 9) → f28 b = f b) := fun b z0_ z1_ z2_ z3_ z4_ z5_ z6_ z7_ z8_ z9_ => (ho30 b z0_).trans (hfr b z0_ z1_ z2_ z3_ z4_ z5_ z6_ z7_ z8_ z9_)
      refine lv_aload_n hx hb dX3_play_47 rfl (lv_at hl 4 rfl) ?_
      refine pl_get (v := .int r23) hx hb hts (fun w h => mT (inX1 w h)) hown hG.1 hP (hst.1 14 (by decide)) hf29 rfl 1 (by decide) (hts _ (mT wg_295)) (fun _ h => h) rfl dX3_play_48 ?_
      refine lv_aload_n hx hb dX3_play_51 rfl (lv_at hl 3 rfl) ?_
      have hT := TI.updA hT hst (k := 14) (by decide) hf29 ho30 ⟨r5, r23, rfl, hb13, eL27R⟩
      refine call_i (run_VN (rm := rm_X2_rounds_co) hx hb hml hown hts (s_X2_rounds_co l g ad th _ _ _  hst hT ) cV_X2_rounds wn_777 ⟨Nat.le_of_ble_eq_true rfl, Nat.le_of_ble_eq_true rfl⟩ hG hE hA hP hD hS (hst.1 6 (by decide)) hf32 rfl rfl hl.1 (As := []) (rest := [.int r23]) rfl (Nat.le_of_ble_eq_true rfl) dX3_play_52 ⟨Nat.le_of_ble_eq_true rfl, Nat.le_of_ble_eq_true rfl⟩) hA hD hS (fun r33 L34 f35 H locs hp36 hP hD hS => ?_)
      obtain ⟨eL37L, eL37T, eL37R, eL37X0⟩ := hp36
      have eL37L : L34 = L := eL37L
      have eL37T : f35 = f28 := eL37T
      rw [eL37L, eL37T] at hP hD
      have eL37R : In r33 2 3 := eL37R
      have hrn38 : r33.toInt = rnd (th 2) := eL37X0
      refine lv_iconst (v := 1) hx hb dX3_play_55 (by decide) ?_
      refine lv_isub hx hb dX3_play_56 ?_
      refine lv_topi (fun x39 ex39 => ?_)
      have hb40 : In x39 1 2 := ex39 ▸ In.sub eL37R (⟨by decide, by decide⟩ : In 1 1 1) (by decide) (by decide) (by decide) (by decide)
      have et41 : x39.toInt = r33.toInt + (-1) := In.sube ex39 eL37R (k := 1) (by decide) (by decide) (by decide)
      have hJ111 : ∀ (f_111 : HP) (H : Heap) (locs : List Loc) (ls : Array Slot), va_P g.1 vwCl (va_pl L f_111) H → va_D A (va_pl L f_111) → va_S A s.heap H locs → TI g ad th f_111 → (∀ b, b ≠ (ad 14) → b ≠ (cr ad j 0) → b ≠ (cr ad j 2) → b ≠ (cr ad j 3) → b ≠ (cr ad j 4) → b ≠ (cr ad j 5) → b ≠ (cr ad j 6) → b ≠ (cr ad j 7) → b ≠ (cr ad j 8) → b ≠ (cr ad j 9) → f_111 b = f b) → f_111 (ad 14) = .inr (1, [.int r5, .int r23]) → f_111 (ad 6) = .inr (2, [.int v0_3, .int v1_3, .int v2_3, .int v3_3, .int v4_3, .int v5_3, .int v6_3, .int v7_3]) → lv_has ls 6 [(0, .ref (cr ad j 0)), (1, .ref (ad 6)), (2, .ref (ad 14)), (3, .int r5), (4, .int v4_1)] → W p l e rm_X3_play_co_ch s m [.ref (cr ad j 0), .ref (ad 6), .ref (ad 14)].toArray below meth c H locs 0 0 (MQ below (va_Qv (po_X3_play_co_ch g ad th L f j) (PstB g A) A) [.ref (cr ad j 0), .ref (ad 6), .ref (ad 14)].toArray s rm_X3_play_co_ch.cells rm_X3_play_co_ch.slots A) (F0 m 111 ls []) := by
        intro f_111 H locs ls hP hD hS hT hfr hf42 hf43 hl
        refine lv_aload_n hx hb dX3_play_111 rfl (lv_at hl 0 rfl) ?_
        obtain ⟨v0_44, v1_44, v2_44, v3_44, v4_44, v5_44, v6_44, v7_44, v8_44, hf45, hv1_44, hg1_44, hv2_44, hg2_44, hv6_44⟩ := hT.2.1 j hj 0 (by decide)
        refine pl_get (v := .ref (cr ad j 9)) hx hb hts (fun w h => mT (inX3 w h)) hown hG.1 hP (hst.c hj (by decide)) hf45 rfl 17 (by decide) (hts _ (mT wg_364)) (fun _ h => h) rfl dX3_play_112 ?_
        refine lv_iload_n hx hb dX3_play_115 rfl (lv_at hl 3 rfl) ?_
        refine lv_aload_n hx hb dX3_play_116 rfl (lv_at hl 2 rfl) ?_
        refine pl_get (v := .int r23) hx hb hts (fun w h => mT (inX1 w h)) hown hG.1 hP (hst.1 14 (by decide)) hf42 rfl 1 (by decide) (hts _ (mT wg_295)) (fun _ h => h) rfl dX3_play_117 ?_
        have hJ147 : ∀ (y147_s0 : Int32) (H : Heap) (locs : List Loc) (ls : Array Slot), In y147_s0 (-2147483648) 2147483647 → va_P g.1 vwCl (va_pl L f_111) H → va_D A (va_pl L f_111) → va_S A s.heap H locs → lv_has ls 6 [(0, .ref (cr ad j 0)), (1, .ref (ad 6)), (2, .ref (ad 14)), (3, .int r5), (4, .int v4_1)] → W p l e rm_X3_play_co_ch s m [.ref (cr ad j 0), .ref (ad 6), .ref (ad 14)].toArray below meth c H locs 0 0 (MQ below (va_Qv (po_X3_play_co_ch g ad th L f j) (PstB g A) A) [.ref (cr ad j 0), .ref (ad 6), .ref (ad 14)].toArray s rm_X3_play_co_ch.cells rm_X3_play_co_ch.slots A) (F0 m 147 ls [.int y147_s0, .int r5, .ref (cr ad j 9)]) := by
          intro y147_s0 H locs ls hy147_s0 hP hD hS hl
          obtain ⟨rw46, hf47⟩ := hT.2.1 j hj 9 (by decide)
          refine pl_iastE hx hb hG.1 hP hD hS (hst.c hj (by decide)) 0 hf47 rfl (In.inb hb13 (by decide) (by decide)) dX3_play_147 (fun H locs f48 r51 er51 hf49 ho50 hP hD hS => ?_)
          have hf52 := (ho50 (ad 6) (hst.ne (by omega) (by omega) (by omega))).trans hf43
          have hf53 := (ho50 (ad 14) (hst.ne (by omega) (by omega) (by omega))).trans hf42
          have hf54 := (ho50 (cr ad j 0) (hst.ne (by omega) (by omega) (by omega))).trans hf45
          have hfr : (∀ b, b ≠ (ad 14) → b ≠ (cr ad j 0) → b ≠ (cr ad j 2) → b ≠ (cr ad j 3) → b ≠ (cr ad j 4) → b ≠ (cr ad j 5) → b ≠ (cr ad j 6) → b ≠ (cr ad j 7) → b ≠ (cr ad j 8) → b ≠ (cr ad j 9) → f48 b = f b) := fun b z0_ z1_ z2_ z3_ z4_ z5_ z6_ z7_ z8_ z9_ => (ho50 b z9_).trans (hfr b z0_ z1_ z2_ z3_ z4_ z5_ z6_ z7_ z8_ z9_)
          refine lv_aload_n hx hb dX3_play_148 rfl (lv_at hl 0 rfl) ?_
          refine lv_dup hx hb dX3_play_149 rfl ?_
          refine pl_get (v := .int v2_44) hx hb hts (fun w h => mT (inX3 w h)) hown hG.1 hP (hst.c hj (by decide)) hf54 rfl 2 (by decide) (hts _ (mT wg_340)) (fun _ h => h) rfl dX3_play_150 ?_
          refine lv_iconst (v := 1) hx hb dX3_play_153 (by decide) ?_
          refine lv_iadd hx hb dX3_play_154 ?_
          refine lv_topi (fun x55 ex55 => ?_)
          have hb56 : In x55 1 19 := ex55 ▸ In.add hv2_44 (⟨by decide, by decide⟩ : In 1 1 1) (by decide) (by decide) (by decide) (by decide)
          have et57 : x55.toInt = v2_44.toInt + 1 := In.adde ex55 hv2_44 (k := 1) (by decide) (by decide) (by decide)
          have hT := TI.updC hT hst hj (k := 9) (by decide) hf49 ho50 ⟨r51, rfl⟩
          refine pl_put (ty := .int) (v := .int x55) (fs' := [.int v0_44, .int v1_44, .int x55, .int v3_44, .int v4_44, .int v5_44, .int v6_44, .long v7_44, .long v8_44, .ref (cr ad j 1), .ref (cr ad j 2), .ref (cr ad j 3), .ref (cr ad j 4), .ref (cr ad j 5), .ref (cr ad j 6), .ref (cr ad j 7), .ref (cr ad j 8), .ref (cr ad j 9)]) hx hb hts (fun w h => mT (inX3 w h)) tyX3 tyX3_ok nmX3 hown hG.1 hP hD hS (hst.c hj (by decide)) hf54 rfl 2 (by decide) (hts _ (mT wg_340)) (fun _ h => h) rfl (by decide +kernel) (rfl) (rfl) (Nat.le_of_ble_eq_true rfl) rfl dX3_play_155 (fun H locs f58 hf59 ho60 hP hD hS => ?_)
          have hf61 := (ho60 (ad 6) (hst.ne (by omega) (by omega) (by omega))).trans hf52
          have hf62 := (ho60 (ad 14) (hst.ne (by omega) (by omega) (by omega))).trans hf53
          have hf63 := (ho60 (cr ad j 9) (hst.ne (by omega) (by omega) (by omega))).trans hf49
          have hfr : (∀ b, b ≠ (ad 14) → b ≠ (cr ad j 0) → b ≠ (cr ad j 2) → b ≠ (cr ad j 3) → b ≠ (cr ad j 4) → b ≠ (cr ad j 5) → b ≠ (cr ad j 6) → b ≠ (cr ad j 7) → b ≠ (cr ad j 8) → b ≠ (cr ad j 9) → f58 b = f b) := fun b z0_ z1_ z2_ z3_ z4_ z5_ z6_ z7_ z8_ z9_ => (ho60 b z1_).trans (hfr b z0_ z1_ z2_ z3_ z4_ z5_ z6_ z7_ z8_ z9_)
          have hpl := play18 et57 hg2_44 hg2_1 hph10 (Int.le_trans hb13.2 (by decide)) hv2_44.1
          have hT := TI.updCG (th' := (gset th (300 + j) (x55.toInt))) hT hst hj hf59 ho60 ⟨v0_44, v1_44, x55, v3_44, v4_44, v5_44, v6_44, v7_44, v8_44, rfl, hv1_44, (by rw [hg1_44]; simp [gset]), hpl.1, (by simp [gset]), hv6_44⟩ (fun k h1 h2 => by simp [gset, h1, h2])
          have hT : TI g ad (gset th (300 + j) x55.toInt) f58 := TI.cast hT (by funext q; simp only [gset]; (repeat' split); all_goals first | rfl | omega | (subst_vars; rfl) | (exfalso; omega))
          exact ret_v hx hb hr hlocks hP hD hS (Nat.le_of_ble_eq_true rfl) (Nat.le_of_ble_eq_true rfl) (⟨rfl, ⟨x55.toInt, ⟨hpl.1.1, hpl.2⟩, TI.cast hT (by funext q; simp only [gset]; (repeat' split); all_goals first | rfl | omega | (subst_vars; rfl) | (exfalso; omega))⟩, hfr⟩) dX3_play_158
        refine lv_if_ne (tgt := 133) hx hb dX3_play_120 (by decide) (fun c64 => ?_) (fun c64 => ?_)
        ·
          have cc65 : r23.toInt ≠ (0 : Int32).toInt := i32_ne c64
          have hb66 : In r23 1 2 := In.ne1 eL27R (⟨by decide, by decide⟩ : In 0 0 0) cc65 (by omega) (by omega)
          refine lv_aload_n hx hb dX3_play_133 rfl (lv_at hl 0 rfl) ?_
          refine pl_get (v := .ref (cr ad j 9)) hx hb hts (fun w h => mT (inX3 w h)) hown hG.1 hP (hst.c hj (by decide)) hf45 rfl 17 (by decide) (hts _ (mT wg_364)) (fun _ h => h) rfl dX3_play_134 ?_
          refine lv_iload_n hx hb dX3_play_137 rfl (lv_at hl 3 rfl) ?_
          obtain ⟨rw67, hf68⟩ := hT.2.1 j hj 9 (by decide)
          have hin69 : vp_in r5 6 := In.inb hb13 (by decide) (by decide)
          refine pl_iald hx hb hG.1 hP (hst.c hj (by decide)) 0 hf68 rfl hin69 dX3_play_138 ?_
          refine lv_topi (fun x70 ex70 => ?_)
          refine lv_aload_n hx hb dX3_play_139 rfl (lv_at hl 0 rfl) ?_
          refine pl_get (v := .int v4_44) hx hb hts (fun w h => mT (inX3 w h)) hown hG.1 hP (hst.c hj (by decide)) hf45 rfl 4 (by decide) (hts _ (mT wg_344)) (fun _ h => h) rfl dX3_play_140 ?_
          refine lv_iadd hx hb dX3_play_143 ?_
          refine lv_topi (fun x71 ex71 => ?_)
          refine lv_iload hx hb dX3_play_144 (lv_at hl 4 rfl) ?_
          refine lv_isub hx hb dX3_play_146 ?_
          refine lv_topi (fun x72 ex72 => ?_)
          exact hJ147 x72 _ _ _ (In.full x72) hP hD hS (lv_sub hl [0, 1, 2, 3, 4] rfl)
        ·
          have cc73 : r23.toInt = (0 : Int32).toInt := congrArg Int32.toInt c64
          have hb74 : In r23 0 0 := In.eq1 eL27R (⟨by decide, by decide⟩ : In 0 0 0) cc73 (by omega) (by omega)
          refine lv_aload_n hx hb dX3_play_123 rfl (lv_at hl 0 rfl) ?_
          refine pl_get (v := .int v4_44) hx hb hts (fun w h => mT (inX3 w h)) hown hG.1 hP (hst.c hj (by decide)) hf45 rfl 4 (by decide) (hts _ (mT wg_344)) (fun _ h => h) rfl dX3_play_124 ?_
          refine lv_iload hx hb dX3_play_127 (lv_at hl 4 rfl) ?_
          refine lv_isub hx hb dX3_play_129 ?_
          refine lv_topi (fun x75 ex75 => ?_)
          refine lv_goto (tgt := 147) hx hb dX3_play_130 (by decide) ?_
          exact hJ147 x75 _ _ _ (In.full x75) hP hD hS (lv_sub hl [0, 1, 2, 3, 4] rfl)
      refine lv_icmp_ne (tgt := 88) hx hb dX3_play_57 (by decide) (fun c76 => ?_) (fun c76 => ?_)
      ·
        refine lv_aload_n hx hb dX3_play_88 rfl (lv_at hl 2 rfl) ?_
        refine lv_aload_n hx hb dX3_play_89 rfl (lv_at hl 3 rfl) ?_
        refine lv_aload_n hx hb dX3_play_90 rfl (lv_at hl 4 rfl) ?_
        refine lv_iconst (v := 0) hx hb dX3_play_91 (by decide) ?_
        refine lv_aload_n hx hb dX3_play_92 rfl (lv_at hl 3 rfl) ?_
        refine pl_getN (v := .int v1_3) hx hb hts (fun w h => mT (inX2 w h)) hown hG.1 hP (hst.1 6 (by decide)) hf32 rfl 1 (by decide) (hG.2.1 _ wn_231) (fun _ h => h) rfl dX3_play_93 ?_
        refine lv_iconst (v := 1) hx hb dX3_play_96 (by decide) ?_
        refine lv_isub hx hb dX3_play_97 ?_
        refine lv_topi (fun x77 ex77 => ?_)
        have hb78 : In x77 (-1) 8 := ex77 ▸ In.sub hv1_3 (⟨by decide, by decide⟩ : In 1 1 1) (by decide) (by decide) (by decide) (by decide)
        have et79 : x77.toInt = v1_3.toInt + (-1) := In.sube ex77 hv1_3 (k := 1) (by decide) (by decide) (by decide)
        refine call_v (run_V (rm := rm_X3_send_co_ch) hx hb hml hown hts (s_X3_send_co_ch l g ad th _ _ _ j 0 x77 hst hT hj (⟨by decide, by decide⟩ : In 0 0 8) hb78) cV_X3_send wg_782 ⟨Nat.le_of_ble_eq_true rfl, Nat.le_of_ble_eq_true rfl⟩ hG hE hA hP hD hS (hst.c hj (by decide)) hf31 rfl rfl hl.1 (As := [.ref (ad 6), .ref (ad 14), .int 0, .int x77]) (rest := []) rfl (Nat.le_of_ble_eq_true rfl) dX3_play_98 ⟨Nat.le_of_ble_eq_true rfl, Nat.le_of_ble_eq_true rfl⟩) hA hD hS (fun L81 f82 H locs hp83 hP hD hS => ?_)
        obtain ⟨eL84L, eL84T, eL84F⟩ := hp83
        have eL84L : L81 = L := eL84L
        rw [eL84L] at hP hD
        have hT : TI g ad th f82 := eL84T
        have eL84F : ∀ b, b ≠ (cr ad j 0) → b ≠ (cr ad j 2) → b ≠ (cr ad j 3) → b ≠ (cr ad j 4) → f82 b = f28 b := eL84F
        have hf85 := (eL84F (ad 6) (hst.ne (by omega) (by omega) (by omega)) (hst.ne (by omega) (by omega) (by omega)) (hst.ne (by omega) (by omega) (by omega)) (hst.ne (by omega) (by omega) (by omega))).trans hf32
        have hf86 := (eL84F (ad 14) (hst.ne (by omega) (by omega) (by omega)) (hst.ne (by omega) (by omega) (by omega)) (hst.ne (by omega) (by omega) (by omega)) (hst.ne (by omega) (by omega) (by omega))).trans hf29
        have hfr : (∀ b, b ≠ (ad 14) → b ≠ (cr ad j 0) → b ≠ (cr ad j 2) → b ≠ (cr ad j 3) → b ≠ (cr ad j 4) → b ≠ (cr ad j 5) → b ≠ (cr ad j 6) → b ≠ (cr ad j 7) → b ≠ (cr ad j 8) → b ≠ (cr ad j 9) → f82 b = f b) := fun b z0_ z1_ z2_ z3_ z4_ z5_ z6_ z7_ z8_ z9_ => (eL84F b z1_ z2_ z3_ z4_).trans (hfr b z0_ z1_ z2_ z3_ z4_ z5_ z6_ z7_ z8_ z9_)
        refine lv_aload_n hx hb dX3_play_101 rfl (lv_at hl 2 rfl) ?_
        refine lv_aload_n hx hb dX3_play_102 rfl (lv_at hl 3 rfl) ?_
        refine lv_iload_n hx hb dX3_play_103 rfl (lv_at hl 1 rfl) ?_
        refine lv_aload_n hx hb dX3_play_104 rfl (lv_at hl 4 rfl) ?_
        refine pl_get (v := .int r23) hx hb hts (fun w h => mT (inX1 w h)) hown hG.1 hP (hst.1 14 (by decide)) hf86 rfl 1 (by decide) (hts _ (mT wg_295)) (fun _ h => h) rfl dX3_play_105 ?_
        obtain ⟨v0_87, v1_87, v2_87, v3_87, v4_87, v5_87, v6_87, v7_87, v8_87, hf88, hv1_87, hg1_87, hv2_87, hg2_87, hv6_87⟩ := hT.2.1 j hj 0 (by decide)
        refine call_v (run_V (rm := rm_X3_hearAll_co) hx hb hml hown hts (s_X3_hearAll_co l g ad th _ _ _ j r5 r23 hst hT hj hb13 eL27R) cV_X3_hearAll wg_854 ⟨Nat.le_of_ble_eq_true rfl, Nat.le_of_ble_eq_true rfl⟩ hG hE hA hP hD hS (hst.c hj (by decide)) hf88 rfl rfl hl.1 (As := [.ref (ad 6), .int r5, .int r23]) (rest := []) rfl (Nat.le_of_ble_eq_true rfl) dX3_play_108 ⟨Nat.le_of_ble_eq_true rfl, Nat.le_of_ble_eq_true rfl⟩) hA hD hS (fun L90 f91 H locs hp92 hP hD hS => ?_)
        obtain ⟨eL93L, eL93T, eL93F⟩ := hp92
        have eL93L : L90 = L := eL93L
        rw [eL93L] at hP hD
        have hT : TI g ad th f91 := eL93T
        have eL93F : ∀ b, b ≠ (cr ad j 0) → b ≠ (cr ad j 5) → b ≠ (cr ad j 7) → f91 b = f82 b := eL93F
        have hf94 := (eL93F (ad 6) (hst.ne (by omega) (by omega) (by omega)) (hst.ne (by omega) (by omega) (by omega)) (hst.ne (by omega) (by omega) (by omega))).trans hf85
        have hf95 := (eL93F (ad 14) (hst.ne (by omega) (by omega) (by omega)) (hst.ne (by omega) (by omega) (by omega)) (hst.ne (by omega) (by omega) (by omega))).trans hf86
        have hfr : (∀ b, b ≠ (ad 14) → b ≠ (cr ad j 0) → b ≠ (cr ad j 2) → b ≠ (cr ad j 3) → b ≠ (cr ad j 4) → b ≠ (cr ad j 5) → b ≠ (cr ad j 6) → b ≠ (cr ad j 7) → b ≠ (cr ad j 8) → b ≠ (cr ad j 9) → f91 b = f b) := fun b z0_ z1_ z2_ z3_ z4_ z5_ z6_ z7_ z8_ z9_ => (eL93F b z1_ z5_ z7_).trans (hfr b z0_ z1_ z2_ z3_ z4_ z5_ z6_ z7_ z8_ z9_)
        exact hJ111 _ _ _ _ hP hD hS hT hfr hf95 hf94 (lv_sub hl [2, 3, 4, 1, 0] rfl)
      ·
        have cc96 : r23.toInt = x39.toInt := congrArg Int32.toInt c76
        have hb97 : In r23 1 2 := In.eq1 eL27R hb40 cc96 (by omega) (by omega)
        refine lv_aload_n hx hb dX3_play_60 rfl (lv_at hl 3 rfl) ?_
        refine lv_iload_n hx hb dX3_play_61 rfl (lv_at hl 1 rfl) ?_
        refine call_i (run_VN (rm := rm_X2_ruler_co) hx hb hml hown hts (s_X2_ruler_co l g ad th _ _ _ r5 hst hT (In.mono hb13 (by decide) (by decide))) cV_X2_ruler wn_778 ⟨Nat.le_of_ble_eq_true rfl, Nat.le_of_ble_eq_true rfl⟩ hG hE hA hP hD hS (hst.1 6 (by decide)) hf32 rfl rfl hl.1 (As := [.int r5]) (rest := []) rfl (Nat.le_of_ble_eq_true rfl) dX3_play_62 ⟨Nat.le_of_ble_eq_true rfl, Nat.le_of_ble_eq_true rfl⟩) hA hD hS (fun r98 L99 f100 H locs hp101 hP hD hS => ?_)
        obtain ⟨eL102L, eL102T, eL102R⟩ := hp101
        have eL102L : L99 = L := eL102L
        have eL102T : f100 = f28 := eL102T
        rw [eL102L, eL102T] at hP hD
        have eL102R : In r98 0 8 := eL102R
        refine lv_istore (lv' := [(5, .int r98), (4, .int v4_1), (3, .int r5), (0, .ref (cr ad j 0)), (1, .ref (ad 6)), (2, .ref (ad 14))]) hx hb dX3_play_65 hl (by decide) rfl (fun ls hl => ?_)
        refine lv_aload_n hx hb dX3_play_67 rfl (lv_at hl 3 rfl) ?_
        refine lv_aload_n hx hb dX3_play_68 rfl (lv_at hl 4 rfl) ?_
        refine lv_aload_n hx hb dX3_play_69 rfl (lv_at hl 5 rfl) ?_
        refine lv_iload hx hb dX3_play_70 (lv_at hl 0 rfl) ?_
        refine lv_iload hx hb dX3_play_72 (lv_at hl 0 rfl) ?_
        refine call_v (run_V (rm := rm_X3_send_co_ch) hx hb hml hown hts (s_X3_send_co_ch l g ad th _ _ _ j r98 r98 hst hT hj eL102R (In.mono eL102R (by decide) (by decide))) cV_X3_send wg_782 ⟨Nat.le_of_ble_eq_true rfl, Nat.le_of_ble_eq_true rfl⟩ hG hE hA hP hD hS (hst.c hj (by decide)) hf31 rfl rfl hl.1 (As := [.ref (ad 6), .ref (ad 14), .int r98, .int r98]) (rest := []) rfl (Nat.le_of_ble_eq_true rfl) dX3_play_74 ⟨Nat.le_of_ble_eq_true rfl, Nat.le_of_ble_eq_true rfl⟩) hA hD hS (fun L104 f105 H locs hp106 hP hD hS => ?_)
        obtain ⟨eL107L, eL107T, eL107F⟩ := hp106
        have eL107L : L104 = L := eL107L
        rw [eL107L] at hP hD
        have hT : TI g ad th f105 := eL107T
        have eL107F : ∀ b, b ≠ (cr ad j 0) → b ≠ (cr ad j 2) → b ≠ (cr ad j 3) → b ≠ (cr ad j 4) → f105 b = f28 b := eL107F
        have hf108 := (eL107F (ad 6) (hst.ne (by omega) (by omega) (by omega)) (hst.ne (by omega) (by omega) (by omega)) (hst.ne (by omega) (by omega) (by omega)) (hst.ne (by omega) (by omega) (by omega))).trans hf32
        have hf109 := (eL107F (ad 14) (hst.ne (by omega) (by omega) (by omega)) (hst.ne (by omega) (by omega) (by omega)) (hst.ne (by omega) (by omega) (by omega)) (hst.ne (by omega) (by omega) (by omega))).trans hf29
        have hfr : (∀ b, b ≠ (ad 14) → b ≠ (cr ad j 0) → b ≠ (cr ad j 2) → b ≠ (cr ad j 3) → b ≠ (cr ad j 4) → b ≠ (cr ad j 5) → b ≠ (cr ad j 6) → b ≠ (cr ad j 7) → b ≠ (cr ad j 8) → b ≠ (cr ad j 9) → f105 b = f b) := fun b z0_ z1_ z2_ z3_ z4_ z5_ z6_ z7_ z8_ z9_ => (eL107F b z1_ z2_ z3_ z4_).trans (hfr b z0_ z1_ z2_ z3_ z4_ z5_ z6_ z7_ z8_ z9_)
        refine lv_aload_n hx hb dX3_play_77 rfl (lv_at hl 3 rfl) ?_
        refine lv_aload_n hx hb dX3_play_78 rfl (lv_at hl 4 rfl) ?_
        refine lv_iload_n hx hb dX3_play_79 rfl (lv_at hl 2 rfl) ?_
        refine lv_iload hx hb dX3_play_80 (lv_at hl 0 rfl) ?_
        obtain ⟨v0_110, v1_110, v2_110, v3_110, v4_110, v5_110, v6_110, v7_110, v8_110, hf111, hv1_110, hg1_110, hv2_110, hg2_110, hv6_110⟩ := hT.2.1 j hj 0 (by decide)
        refine call_v (run_V (rm := rm_X3_hearRuler_co) hx hb hml hown hts (s_X3_hearRuler_co l g ad th _ _ _ j r5 r98 hst hT hj hb13 eL102R) cV_X3_hearRuler wg_842 ⟨Nat.le_of_ble_eq_true rfl, Nat.le_of_ble_eq_true rfl⟩ hG hE hA hP hD hS (hst.c hj (by decide)) hf111 rfl rfl hl.1 (As := [.ref (ad 6), .int r5, .int r98]) (rest := []) rfl (Nat.le_of_ble_eq_true rfl) dX3_play_82 ⟨Nat.le_of_ble_eq_true rfl, Nat.le_of_ble_eq_true rfl⟩) hA hD hS (fun L113 f114 H locs hp115 hP hD hS => ?_)
        obtain ⟨eL116L, eL116T, eL116F⟩ := hp115
        have eL116L : L113 = L := eL116L
        rw [eL116L] at hP hD
        have hT : TI g ad th f114 := eL116T
        have eL116F : ∀ b, b ≠ (cr ad j 0) → b ≠ (cr ad j 6) → b ≠ (cr ad j 8) → f114 b = f105 b := eL116F
        have hf117 := (eL116F (ad 6) (hst.ne (by omega) (by omega) (by omega)) (hst.ne (by omega) (by omega) (by omega)) (hst.ne (by omega) (by omega) (by omega))).trans hf108
        have hf118 := (eL116F (ad 14) (hst.ne (by omega) (by omega) (by omega)) (hst.ne (by omega) (by omega) (by omega)) (hst.ne (by omega) (by omega) (by omega))).trans hf109
        have hfr : (∀ b, b ≠ (ad 14) → b ≠ (cr ad j 0) → b ≠ (cr ad j 2) → b ≠ (cr ad j 3) → b ≠ (cr ad j 4) → b ≠ (cr ad j 5) → b ≠ (cr ad j 6) → b ≠ (cr ad j 7) → b ≠ (cr ad j 8) → b ≠ (cr ad j 9) → f114 b = f b) := fun b z0_ z1_ z2_ z3_ z4_ z5_ z6_ z7_ z8_ z9_ => (eL116F b z1_ z6_ z8_).trans (hfr b z0_ z1_ z2_ z3_ z4_ z5_ z6_ z7_ z8_ z9_)
        refine lv_goto (tgt := 111) hx hb dX3_play_85 (by decide) ?_
        exact hJ111 _ _ _ _ hP hD hS hT hfr hf118 hf117 (lv_sub hl [3, 4, 5, 2, 1] rfl)
    ·
      have cc119 : (6 : Int32).toInt ≤ r5.toInt := i32_nlt c15
      exact In.empty (lo := 6) (hi := 5) (In.ge1 hb13 (⟨by decide, by decide⟩ : In 6 6 6) cc119 (by omega) (by omega)) (by decide)

abbrev rm_X3_rowOf_co_fr : Room := { frames := 2, cells := 0, slots := 0, locals := 46 }
abbrev po_X3_rowOf_co_fr (g : GG) (ad : Nat → Nat) (th : Nat → Int) (L : List Nat) (f : HP) (j : Nat) (z3 : Int32) : Int64 → (List Nat × HP) → Prop := fun r u => u.1 = L ∧ TI g ad th u.2 ∧ (∀ b, b ≠ (ad 15) → u.2 b = f b)
set_option maxHeartbeats 4000000 in
set_option maxRecDepth 100000 in
theorem s_X3_rowOf_co_fr (l : Launch) (g : GG) (ad : Nat → Nat) (th : Nat → Int) (L : List Nat) (f : HP) (sz : Nat) (j : Nat) (z3 : Int32) (hst : ST ad L) (hT : TI g ad th f) (hj : j < 23) (hz3 : In z3 0 8) : MtL l g yX3_rowOf cX3_rowOf 8 (some .long) rm_X3_rowOf_co_fr [.ref (cr ad j 0), .ref (ad 6), .ref (ad 15), .int z3] L f sz (po_X3_rowOf_co_fr g ad th L f j z3) := by
  refine MtL.of (by decide +kernel) (Nat.le_of_ble_eq_true rfl) ?_
  intro p e s m below meth c A hEn hP hD hS ls hl
  obtain ⟨hx, hb, hr, hml, hown, hlocks, hts, hG, hA, hE, hnm⟩ := hEn
  have hown : s.vm.findClass "RulerWord$Course" = some m.cls := hown
  have hl : lv_has ls 8 [(0, .ref (cr ad j 0)), (1, .ref (ad 6)), (2, .ref (ad 15)), (3, .int z3)] := hl
  have hfr : (∀ b, b ≠ (ad 15) → f b = f b) := fun b z0_ => rfl
  refine lv_aload_n hx hb dX3_rowOf_0 rfl (lv_at hl 0 rfl) ?_
  refine lv_aload_n hx hb dX3_rowOf_1 rfl (lv_at hl 1 rfl) ?_
  refine lv_aload_n hx hb dX3_rowOf_2 rfl (lv_at hl 2 rfl) ?_
  refine lv_iload_n hx hb dX3_rowOf_3 rfl (lv_at hl 3 rfl) ?_
  obtain ⟨v0_1, v1_1, v2_1, v3_1, v4_1, v5_1, v6_1, v7_1, v8_1, hf2, hv1_1, hg1_1, hv2_1, hg2_1, hv6_1⟩ := hT.2.1 j hj 0 (by decide)
  refine call_i (run_V (rm := rm_X3_trueLetter_co_fr) hx hb hml hown hts (s_X3_trueLetter_co_fr l g ad th _ _ _ j z3 hst hT hj) cV_X3_trueLetter wg_790 ⟨Nat.le_of_ble_eq_true rfl, Nat.le_of_ble_eq_true rfl⟩ hG hE hA hP hD hS (hst.c hj (by decide)) hf2 rfl rfl hl.1 (As := [.ref (ad 6), .ref (ad 15), .int z3]) (rest := []) rfl (Nat.le_of_ble_eq_true rfl) dX3_rowOf_4 ⟨Nat.le_of_ble_eq_true rfl, Nat.le_of_ble_eq_true rfl⟩) hA hD hS (fun r3 L4 f5 H locs hp6 hP hD hS => ?_)
  obtain ⟨eL7L, eL7T⟩ := hp6
  have eL7L : L4 = L := eL7L
  have eL7T : f5 = f := eL7T
  rw [eL7L, eL7T] at hP hD
  refine lv_istore (lv' := [(4, .int r3), (0, .ref (cr ad j 0)), (1, .ref (ad 6)), (2, .ref (ad 15)), (3, .int z3)]) hx hb dX3_rowOf_7 hl (by decide) rfl (fun ls hl => ?_)
  refine lv_aload_n hx hb dX3_rowOf_9 rfl (lv_at hl 1 rfl) ?_
  refine pl_get (v := .int v1_1) hx hb hts (fun w h => mT (inX3 w h)) hown hG.1 hP (hst.c hj (by decide)) hf2 rfl 1 (by decide) (hts _ (mT wg_338)) (fun _ h => h) rfl dX3_rowOf_10 ?_
  refine lv_iload_n hx hb dX3_rowOf_13 rfl (lv_at hl 4 rfl) ?_
  refine call_i (run_SN (rm := rm_X10_bit) hx hb hml hown hts (s_X10_bit l g ad th _ _ _ v1_1 z3 hst hT ) cS_X10_bit wn_794 ⟨Nat.le_of_ble_eq_true rfl, Nat.le_of_ble_eq_true rfl⟩ hG hE hA hP hD hS rfl hl.1 (As := [.int v1_1, .int z3]) (rest := []) rfl (Nat.le_of_ble_eq_true rfl) dX3_rowOf_14 ⟨Nat.le_of_ble_eq_true rfl, Nat.le_of_ble_eq_true rfl⟩) hA hD hS (fun r8 L9 f10 H locs hp11 hP hD hS => ?_)
  obtain ⟨eL12L, eL12T, eL12R, eL12X0⟩ := hp11
  have eL12L : L9 = L := eL12L
  have eL12T : f10 = f := eL12T
  rw [eL12L, eL12T] at hP hD
  have eL12R : In r8 0 1 := eL12R
  refine lv_if_ne (tgt := 28) hx hb dX3_rowOf_17 (by decide) (fun c13 => ?_) (fun c13 => ?_)
  ·
    have cc14 : r8.toInt ≠ (0 : Int32).toInt := i32_ne c13
    have hb15 : In r8 1 1 := In.ne1 eL12R (⟨by decide, by decide⟩ : In 0 0 0) cc14 (by omega) (by omega)
    refine lv_lconst (v := 0) hx hb dX3_rowOf_28 (by decide) ?_
    refine lv_lstore (lv' := [(5, .long 0), (4, .int r3), (0, .ref (cr ad j 0)), (1, .ref (ad 6)), (2, .ref (ad 15)), (3, .int z3)]) hx hb dX3_rowOf_29 hl (by decide) rfl (fun ls hl => ?_)
    refine lv_iconst (v := 0) hx hb dX3_rowOf_31 (by decide) ?_
    refine lv_istore (lv' := [(7, .int 0), (5, .long 0), (4, .int r3), (0, .ref (cr ad j 0)), (1, .ref (ad 6)), (2, .ref (ad 15)), (3, .int z3)]) hx hb dX3_rowOf_32 hl (by decide) rfl (fun ls hl => ?_)
    have hJ34 : ∀ (k34 : Nat) (y34_l5 : Int64) (y34_l7 : Int32) (f_34 : HP) (H : Heap) (locs : List Loc) (ls : Array Slot), In y34_l7 0 9 → va_P g.1 vwCl (va_pl L f_34) H → va_D A (va_pl L f_34) → va_S A s.heap H locs → TI g ad th f_34 → (∀ b, b ≠ (ad 15) → f_34 b = f b) → f_34 (cr ad j 0) = .inr (3, [.int v0_1, .int v1_1, .int v2_1, .int v3_1, .int v4_1, .int v5_1, .int v6_1, .long v7_1, .long v8_1, .ref (cr ad j 1), .ref (cr ad j 2), .ref (cr ad j 3), .ref (cr ad j 4), .ref (cr ad j 5), .ref (cr ad j 6), .ref (cr ad j 7), .ref (cr ad j 8), .ref (cr ad j 9)]) → lv_has ls 8 [(0, .ref (cr ad j 0)), (1, .ref (ad 6)), (2, .ref (ad 15)), (3, .int z3), (4, .int r3), (5, .long y34_l5), (7, .int y34_l7)] → 9 - y34_l7.toInt < ((k34 : Nat) : Int) → W p l e rm_X3_rowOf_co_fr s m [.ref (cr ad j 0), .ref (ad 6), .ref (ad 15), .int z3].toArray below meth c H locs 0 0 (MQ below (va_Ql (po_X3_rowOf_co_fr g ad th L f j z3) (PstB g A) A) [.ref (cr ad j 0), .ref (ad 6), .ref (ad 15), .int z3].toArray s rm_X3_rowOf_co_fr.cells rm_X3_rowOf_co_fr.slots A) (F0 m 34 ls []) := by
      intro k34
      induction k34 with
      | zero =>
        intro y34_l5 y34_l7 f_34 H locs ls hy34_l7 hP hD hS hT hfr hf16 hl hmz34
        exact ms0 hy34_l7 hmz34
      | succ k34 ih34 =>
        intro y34_l5 y34_l7 f_34 H locs ls hy34_l7 hP hD hS hT hfr hf16 hl hmz34
        refine lv_iload hx hb dX3_rowOf_34 (lv_at hl 6 rfl) ?_
        refine lv_aload_n hx hb dX3_rowOf_36 rfl (lv_at hl 1 rfl) ?_
        obtain ⟨v0_17, v1_17, v2_17, v3_17, v4_17, v5_17, v6_17, v7_17, hf18, hv0_17, hg0_17, hv1_17, hg1_17, hv2_17, hv3_17, hv5_17, hv6_17, hrel0_17⟩ := hT.1 6 (by decide)
        refine pl_getN (v := .int v1_17) hx hb hts (fun w h => mT (inX2 w h)) hown hG.1 hP (hst.1 6 (by decide)) hf18 rfl 1 (by decide) (hG.2.1 _ wn_231) (fun _ h => h) rfl dX3_rowOf_37 ?_
        refine lv_icmp_ge (tgt := 70) hx hb dX3_rowOf_40 (by decide) (fun c19 => ?_) (fun c19 => ?_)
        ·
          refine lv_lload hx hb dX3_rowOf_70 (lv_at hl 5 rfl) ?_
          exact ret_l hx hb hr hlocks hP hD hS (Nat.le_of_ble_eq_true rfl) (Nat.le_of_ble_eq_true rfl) (⟨rfl, hT, hfr⟩) dX3_rowOf_72
        ·
          have cc20 : y34_l7.toInt < v1_17.toInt := i32_nle c19
          have hb21 : In y34_l7 0 8 := In.lt1 hy34_l7 hv1_17 cc20 (by omega) (by omega)
          have hb22 : In v1_17 1 9 := In.lt2 hy34_l7 hv1_17 cc20 (by omega) (by omega)
          refine lv_lload hx hb dX3_rowOf_43 (lv_at hl 5 rfl) ?_
          refine lv_aload_n hx hb dX3_rowOf_45 rfl (lv_at hl 2 rfl) ?_
          refine lv_aload_n hx hb dX3_rowOf_46 rfl (lv_at hl 0 rfl) ?_
          refine lv_iload_n hx hb dX3_rowOf_47 rfl (lv_at hl 3 rfl) ?_
          refine lv_iload hx hb dX3_rowOf_48 (lv_at hl 6 rfl) ?_
          refine lv_iload hx hb dX3_rowOf_50 (lv_at hl 4 rfl) ?_
          obtain ⟨v0_23, v1_23, v2_23, v3_23, hf24, hv0_23, hv1_23⟩ := hT.1 15 (by decide)
          refine call_i (run_VA (rm := rm_X4_choose) (owner := "RulerWord$Voice") hx hb hml hown hts (s_X4_choose l g ad th _ _ _ j z3 y34_l7 r3 hst hT hj) (mG 814 (by decide +kernel) rfl) wg_799 wg_801 wg_812 wg_813 wg_164 wn_800 ⟨by decide +kernel, by decide +kernel, by decide +kernel⟩ ⟨Nat.le_of_ble_eq_true rfl, Nat.le_of_ble_eq_true rfl⟩ hG hE hA hP hD hS (hst.1 15 (by decide)) hf24 rfl rfl hl.1 (n := 4) (As := [.ref (cr ad j 0), .int z3, .int y34_l7, .int r3]) (rest := [.long y34_l5]) rfl (Nat.le_of_ble_eq_true rfl) dX3_rowOf_52 ⟨Nat.le_of_ble_eq_true rfl, Nat.le_of_ble_eq_true rfl⟩) hA hD hS (fun r25 L26 f27 H locs hp28 hP hD hS => ?_)
          obtain ⟨eL29L, eL29T, eL29F⟩ := hp28
          have eL29L : L26 = L := eL29L
          rw [eL29L] at hP hD
          have hT : TI g ad th f27 := eL29T
          have eL29F : ∀ b, b ≠ (ad 15) → f27 b = f_34 b := eL29F
          have hf30 := (eL29F (cr ad j 0) (hst.ne (by omega) (by omega) (by omega))).trans hf16
          have hf31 := (eL29F (ad 6) (hst.ne (by decide) (by decide) (by decide))).trans hf18
          have hfr : (∀ b, b ≠ (ad 15) → f27 b = f b) := fun b z0_ => (eL29F b z0_).trans (hfr b z0_)
          refine lv_i2l hx hb dX3_rowOf_55 rfl ?_
          refine lv_iconst (v := 4) hx hb dX3_rowOf_56 (by decide) ?_
          refine lv_iload hx hb dX3_rowOf_57 (lv_at hl 6 rfl) ?_
          refine lv_imul hx hb dX3_rowOf_59 ?_
          refine lv_topi (fun x32 ex32 => ?_)
          have hb33 : In x32 0 32 := ex32 ▸ In.mul (⟨by decide, by decide⟩ : In 4 4 4) hb21 (by decide) (by decide) (by decide) (by decide) (by decide)
          refine lv_lshl hx hb dX3_rowOf_60 rfl ?_
          refine lv_topl (fun x34 ex34 => ?_)
          refine lv_lor hx hb dX3_rowOf_61 ?_
          refine lv_topl (fun x35 ex35 => ?_)
          refine lv_lstore (lv' := [(5, .long x35), (0, .ref (cr ad j 0)), (1, .ref (ad 6)), (2, .ref (ad 15)), (3, .int z3), (4, .int r3), (7, .int y34_l7)]) hx hb dX3_rowOf_62 hl (by decide) rfl (fun ls hl => ?_)
          obtain ⟨x36, ex36⟩ : ∃ y : Int32, y = y34_l7 + 1 := ⟨_, rfl⟩
          have hb37 : In x36 1 9 := ex36 ▸ In.add hb21 (⟨by decide, by decide⟩ : In 1 1 1) (by decide) (by decide) (by decide) (by decide)
          have et38 : x36.toInt = y34_l7.toInt + 1 := In.adde ex36 hb21 (k := 1) (by decide) (by decide) (by decide)
          refine lv_iinc (v := x36) (lv' := [(7, .int x36), (5, .long x35), (0, .ref (cr ad j 0)), (1, .ref (ad 6)), (2, .ref (ad 15)), (3, .int z3), (4, .int r3)]) hx hb dX3_rowOf_64 hl (k := 6) rfl (by rw [ex36]; rfl) (by decide) rfl (fun ls hl => ?_)
          refine lv_goto (tgt := 34) hx hb dX3_rowOf_67 (by decide) ?_
          exact ih34 x35 x36 _ _ _ _ (In.mono hb37 (by decide) (by decide)) hP hD hS hT hfr hf30 (lv_sub hl [2, 3, 4, 5, 6, 1, 0] rfl) (msu et38 (by decide) hmz34)
    exact hJ34 ((9 - (0 : Int32).toInt).toNat + 1) 0 0 _ _ _ _ (⟨by decide, by decide⟩ : In 0 0 9) hP hD hS hT hfr hf2 (lv_sub hl [3, 4, 5, 6, 2, 1, 0] rfl) (msI _)
  ·
    have cc39 : r8.toInt = (0 : Int32).toInt := congrArg Int32.toInt c13
    have hb40 : In r8 0 0 := In.eq1 eL12R (⟨by decide, by decide⟩ : In 0 0 0) cc39 (by omega) (by omega)
    refine lv_iload hx hb dX3_rowOf_20 (lv_at hl 0 rfl) ?_
    refine lv_i2l hx hb dX3_rowOf_22 rfl ?_
    refine lv_ldc2 hx hb hown (hts _ (mT wg_798)) dX3_rowOf_23 ?_
    refine lv_lmul hx hb dX3_rowOf_26 ?_
    refine lv_topl (fun x41 ex41 => ?_)
    exact ret_l hx hb hr hlocks hP hD hS (Nat.le_of_ble_eq_true rfl) (Nat.le_of_ble_eq_true rfl) (⟨rfl, hT, hfr⟩) dX3_rowOf_27

abbrev rm_X3_send_co_fr : Room := { frames := 3, cells := 0, slots := 0, locals := 73 }
abbrev po_X3_send_co_fr (g : GG) (ad : Nat → Nat) (th : Nat → Int) (L : List Nat) (f : HP) (j : Nat) (z3 : Int32) (z4 : Int32) : (List Nat × HP) → Prop := fun u => u.1 = L ∧ TI g ad th u.2 ∧ (∀ b, b ≠ (ad 15) → b ≠ (cr ad j 0) → b ≠ (cr ad j 2) → b ≠ (cr ad j 3) → b ≠ (cr ad j 4) → u.2 b = f b)
set_option maxHeartbeats 4000000 in
set_option maxRecDepth 100000 in
theorem s_X3_send_co_fr (l : Launch) (g : GG) (ad : Nat → Nat) (th : Nat → Int) (L : List Nat) (f : HP) (sz : Nat) (j : Nat) (z3 : Int32) (z4 : Int32) (hst : ST ad L) (hT : TI g ad th f) (hj : j < 23) (hz3 : In z3 0 8) (hz4 : In z4 (-1) 8) : MtV l g yX3_send cX3_send 10 rm_X3_send_co_fr [.ref (cr ad j 0), .ref (ad 6), .ref (ad 15), .int z3, .int z4] L f sz (po_X3_send_co_fr g ad th L f j z3 z4) := by
  refine MtV.of (by decide +kernel) (Nat.le_of_ble_eq_true rfl) ?_
  intro p e s m below meth c A hEn hP hD hS ls hl
  obtain ⟨hx, hb, hr, hml, hown, hlocks, hts, hG, hA, hE, hnm⟩ := hEn
  have hown : s.vm.findClass "RulerWord$Course" = some m.cls := hown
  have hl : lv_has ls 10 [(0, .ref (cr ad j 0)), (1, .ref (ad 6)), (2, .ref (ad 15)), (3, .int z3), (4, .int z4)] := hl
  have hfr : (∀ b, b ≠ (ad 15) → b ≠ (cr ad j 0) → b ≠ (cr ad j 2) → b ≠ (cr ad j 3) → b ≠ (cr ad j 4) → f b = f b) := fun b z0_ z1_ z2_ z3_ z4_ => rfl
  refine lv_aload_n hx hb dX3_send_0 rfl (lv_at hl 2 rfl) ?_
  obtain ⟨v0_1, v1_1, v2_1, v3_1, hf2, hv0_1, hv1_1⟩ := hT.1 15 (by decide)
  refine pl_get (v := .int v0_1) hx hb hts (fun w h => mT (inX4 w h)) hown hG.1 hP (hst.1 15 (by decide)) hf2 rfl 0 (by decide) (hts _ (mT wg_292)) (fun _ h => h) rfl dX3_send_1 ?_
  refine lv_iconst (v := 3) hx hb dX3_send_4 (by decide) ?_
  refine lv_imul hx hb dX3_send_5 ?_
  refine lv_topi (fun x3 ex3 => ?_)
  have hb4 : In x3 0 15 := ex3 ▸ In.mul hv0_1 (⟨by decide, by decide⟩ : In 3 3 3) (by decide) (by decide) (by decide) (by decide) (by decide)
  refine lv_aload_n hx hb dX3_send_6 rfl (lv_at hl 2 rfl) ?_
  refine pl_get (v := .int v1_1) hx hb hts (fun w h => mT (inX4 w h)) hown hG.1 hP (hst.1 15 (by decide)) hf2 rfl 1 (by decide) (hts _ (mT wg_295)) (fun _ h => h) rfl dX3_send_7 ?_
  refine lv_iadd hx hb dX3_send_10 ?_
  refine lv_topi (fun x5 ex5 => ?_)
  have hb6 : In x5 0 17 := ex5 ▸ In.add hb4 hv1_1 (by decide) (by decide) (by decide) (by decide)
  have et7 : x5.toInt = x3.toInt + v1_1.toInt := In.add2e ex5 hb4 hv1_1 (by decide) (by decide)
  refine lv_istore (lv' := [(5, .int x5), (0, .ref (cr ad j 0)), (1, .ref (ad 6)), (2, .ref (ad 15)), (3, .int z3), (4, .int z4)]) hx hb dX3_send_11 hl (by decide) rfl (fun ls hl => ?_)
  refine lv_aload_n hx hb dX3_send_13 rfl (lv_at hl 1 rfl) ?_
  obtain ⟨v0_8, v1_8, v2_8, v3_8, v4_8, v5_8, v6_8, v7_8, v8_8, hf9, hv1_8, hg1_8, hv2_8, hg2_8, hv6_8⟩ := hT.2.1 j hj 0 (by decide)
  refine pl_get (v := .ref (cr ad j 3)) hx hb hts (fun w h => mT (inX3 w h)) hown hG.1 hP (hst.c hj (by decide)) hf9 rfl 11 (by decide) (hts _ (mT wg_354)) (fun _ h => h) rfl dX3_send_14 ?_
  refine lv_iload hx hb dX3_send_17 (lv_at hl 0 rfl) ?_
  refine lv_lconst (v := 0) hx hb dX3_send_19 (by decide) ?_
  obtain ⟨rw10, hf11⟩ := hT.2.1 j hj 3 (by decide)
  refine pl_lastE hx hb hG.1 hP hD hS (hst.c hj (by decide)) 1 hf11 rfl (In.inb hb6 (by decide) (by decide)) dX3_send_20 (fun H locs f12 r15 er15 hf13 ho14 hP hD hS => ?_)
  have hf16 := (ho14 (ad 15) (hst.ne (by omega) (by omega) (by omega))).trans hf2
  have hf17 := (ho14 (cr ad j 0) (hst.ne (by omega) (by omega) (by omega))).trans hf9
  have hfr : (∀ b, b ≠ (ad 15) → b ≠ (cr ad j 0) → b ≠ (cr ad j 2) → b ≠ (cr ad j 3) → b ≠ (cr ad j 4) → f12 b = f b) := fun b z0_ z1_ z2_ z3_ z4_ => (ho14 b z3_).trans (hfr b z0_ z1_ z2_ z3_ z4_)
  refine lv_aload_n hx hb dX3_send_21 rfl (lv_at hl 1 rfl) ?_
  refine pl_get (v := .ref (cr ad j 4)) hx hb hts (fun w h => mT (inX3 w h)) hown hG.1 hP (hst.c hj (by decide)) hf17 rfl 12 (by decide) (hts _ (mT wg_355)) (fun _ h => h) rfl dX3_send_22 ?_
  refine lv_iload hx hb dX3_send_25 (lv_at hl 0 rfl) ?_
  refine lv_lconst (v := 0) hx hb dX3_send_27 (by decide) ?_
  have hT := TI.updC hT hst hj (k := 3) (by decide) hf13 ho14 ⟨r15, rfl⟩
  obtain ⟨rw18, hf19⟩ := hT.2.1 j hj 4 (by decide)
  refine pl_lastE hx hb hG.1 hP hD hS (hst.c hj (by decide)) 1 hf19 rfl (In.inb hb6 (by decide) (by decide)) dX3_send_28 (fun H locs f20 r23 er23 hf21 ho22 hP hD hS => ?_)
  have hf24 := (ho22 (ad 15) (hst.ne (by omega) (by omega) (by omega))).trans hf16
  have hf25 := (ho22 (cr ad j 0) (hst.ne (by omega) (by omega) (by omega))).trans hf17
  have hf26 := (ho22 (cr ad j 3) (hst.ne (by omega) (by omega) (by omega))).trans hf13
  have hfr : (∀ b, b ≠ (ad 15) → b ≠ (cr ad j 0) → b ≠ (cr ad j 2) → b ≠ (cr ad j 3) → b ≠ (cr ad j 4) → f20 b = f b) := fun b z0_ z1_ z2_ z3_ z4_ => (ho22 b z4_).trans (hfr b z0_ z1_ z2_ z3_ z4_)
  refine lv_iload_n hx hb dX3_send_29 rfl (lv_at hl 4 rfl) ?_
  refine lv_istore (lv' := [(6, .int z3), (5, .int x5), (0, .ref (cr ad j 0)), (1, .ref (ad 6)), (2, .ref (ad 15)), (3, .int z3), (4, .int z4)]) hx hb dX3_send_30 hl (by decide) rfl (fun ls hl => ?_)
  have hT := TI.updC hT hst hj (k := 4) (by decide) hf21 ho22 ⟨r23, rfl⟩
  have hJ32 : ∀ (k32 : Nat) (y32_l6 : Int32) (f_32 : HP) (H : Heap) (locs : List Loc) (ls : Array Slot), In y32_l6 0 9 → va_P g.1 vwCl (va_pl L f_32) H → va_D A (va_pl L f_32) → va_S A s.heap H locs → TI g ad th f_32 → (∀ b, b ≠ (ad 15) → b ≠ (cr ad j 0) → b ≠ (cr ad j 2) → b ≠ (cr ad j 3) → b ≠ (cr ad j 4) → f_32 b = f b) → lv_has ls 10 [(0, .ref (cr ad j 0)), (1, .ref (ad 6)), (2, .ref (ad 15)), (3, .int z3), (4, .int z4), (5, .int x5), (6, .int y32_l6)] → 9 - y32_l6.toInt < ((k32 : Nat) : Int) → W p l e rm_X3_send_co_fr s m [.ref (cr ad j 0), .ref (ad 6), .ref (ad 15), .int z3, .int z4].toArray below meth c H locs 0 0 (MQ below (va_Qv (po_X3_send_co_fr g ad th L f j z3 z4) (PstB g A) A) [.ref (cr ad j 0), .ref (ad 6), .ref (ad 15), .int z3, .int z4].toArray s rm_X3_send_co_fr.cells rm_X3_send_co_fr.slots A) (F0 m 32 ls []) := by
    intro k32
    induction k32 with
    | zero =>
      intro y32_l6 f_32 H locs ls hy32_l6 hP hD hS hT hfr hl hmz32
      exact ms0 hy32_l6 hmz32
    | succ k32 ih32 =>
      intro y32_l6 f_32 H locs ls hy32_l6 hP hD hS hT hfr hl hmz32
      refine lv_iload hx hb dX3_send_32 (lv_at hl 6 rfl) ?_
      refine lv_iload hx hb dX3_send_34 (lv_at hl 4 rfl) ?_
      refine lv_icmp_gt (tgt := 155) hx hb dX3_send_36 (by decide) (fun c27 => ?_) (fun c27 => ?_)
      ·
        exact ret_v hx hb hr hlocks hP hD hS (Nat.le_of_ble_eq_true rfl) (Nat.le_of_ble_eq_true rfl) (⟨rfl, hT, hfr⟩) dX3_send_155
      ·
        have cc28 : y32_l6.toInt ≤ z4.toInt := i32_nlt c27
        have hb29 : In y32_l6 0 8 := In.le1 hy32_l6 hz4 cc28 (by omega) (by omega)
        have hb30 : In z4 0 8 := In.le2 hy32_l6 hz4 cc28 (by omega) (by omega)
        refine lv_aload_n hx hb dX3_send_39 rfl (lv_at hl 0 rfl) ?_
        refine lv_aload_n hx hb dX3_send_40 rfl (lv_at hl 1 rfl) ?_
        refine lv_aload_n hx hb dX3_send_41 rfl (lv_at hl 2 rfl) ?_
        refine lv_iload hx hb dX3_send_42 (lv_at hl 6 rfl) ?_
        obtain ⟨v0_31, v1_31, v2_31, v3_31, v4_31, v5_31, v6_31, v7_31, v8_31, hf32, hv1_31, hg1_31, hv2_31, hg2_31, hv6_31⟩ := hT.2.1 j hj 0 (by decide)
        refine call_l (run_V (rm := rm_X3_rowOf_co_fr) hx hb hml hown hts (s_X3_rowOf_co_fr l g ad th _ _ _ j y32_l6 hst hT hj hb29) cV_X3_rowOf wg_786 ⟨Nat.le_of_ble_eq_true rfl, Nat.le_of_ble_eq_true rfl⟩ hG hE hA hP hD hS (hst.c hj (by decide)) hf32 rfl rfl hl.1 (As := [.ref (ad 6), .ref (ad 15), .int y32_l6]) (rest := []) rfl (Nat.le_of_ble_eq_true rfl) dX3_send_44 ⟨Nat.le_of_ble_eq_true rfl, Nat.le_of_ble_eq_true rfl⟩) hA hD hS (fun r33 L34 f35 H locs hp36 hP hD hS => ?_)
        obtain ⟨eL37L, eL37T, eL37F⟩ := hp36
        have eL37L : L34 = L := eL37L
        rw [eL37L] at hP hD
        have hT : TI g ad th f35 := eL37T
        have eL37F : ∀ b, b ≠ (ad 15) → f35 b = f_32 b := eL37F
        have hf38 := (eL37F (cr ad j 0) (hst.ne (by omega) (by omega) (by omega))).trans hf32
        have hfr : (∀ b, b ≠ (ad 15) → b ≠ (cr ad j 0) → b ≠ (cr ad j 2) → b ≠ (cr ad j 3) → b ≠ (cr ad j 4) → f35 b = f b) := fun b z0_ z1_ z2_ z3_ z4_ => (eL37F b z0_).trans (hfr b z0_ z1_ z2_ z3_ z4_)
        refine lv_lstore (lv' := [(7, .long r33), (0, .ref (cr ad j 0)), (1, .ref (ad 6)), (2, .ref (ad 15)), (3, .int z3), (4, .int z4), (5, .int x5), (6, .int y32_l6)]) hx hb dX3_send_47 hl (by decide) rfl (fun ls hl => ?_)
        refine lv_aload_n hx hb dX3_send_49 rfl (lv_at hl 1 rfl) ?_
        refine pl_get (v := .ref (cr ad j 2)) hx hb hts (fun w h => mT (inX3 w h)) hown hG.1 hP (hst.c hj (by decide)) hf38 rfl 10 (by decide) (hts _ (mT wg_353)) (fun _ h => h) rfl dX3_send_50 ?_
        refine lv_iload hx hb dX3_send_53 (lv_at hl 6 rfl) ?_
        refine lv_bipush (v := 9) hx hb dX3_send_55 (by decide) ?_
        refine lv_imul hx hb dX3_send_57 ?_
        refine lv_topi (fun x39 ex39 => ?_)
        have hb40 : In x39 0 153 := ex39 ▸ In.mul hb6 (⟨by decide, by decide⟩ : In 9 9 9) (by decide) (by decide) (by decide) (by decide) (by decide)
        refine lv_iload hx hb dX3_send_58 (lv_at hl 7 rfl) ?_
        refine lv_iadd hx hb dX3_send_60 ?_
        refine lv_topi (fun x41 ex41 => ?_)
        have hb42 : In x41 0 161 := ex41 ▸ In.add hb40 hb29 (by decide) (by decide) (by decide) (by decide)
        have et43 : x41.toInt = x39.toInt + y32_l6.toInt := In.add2e ex41 hb40 hb29 (by decide) (by decide)
        refine lv_lload hx hb dX3_send_61 (lv_at hl 0 rfl) ?_
        obtain ⟨rw44, hf45⟩ := hT.2.1 j hj 2 (by decide)
        refine pl_lastE hx hb hG.1 hP hD hS (hst.c hj (by decide)) 1 hf45 rfl (In.inb hb42 (by decide) (by decide)) dX3_send_63 (fun H locs f46 r49 er49 hf47 ho48 hP hD hS => ?_)
        have hf50 := (ho48 (cr ad j 0) (hst.ne (by omega) (by omega) (by omega))).trans hf38
        have hfr : (∀ b, b ≠ (ad 15) → b ≠ (cr ad j 0) → b ≠ (cr ad j 2) → b ≠ (cr ad j 3) → b ≠ (cr ad j 4) → f46 b = f b) := fun b z0_ z1_ z2_ z3_ z4_ => (ho48 b z2_).trans (hfr b z0_ z1_ z2_ z3_ z4_)
        refine lv_aload_n hx hb dX3_send_64 rfl (lv_at hl 1 rfl) ?_
        refine pl_get (v := .ref (cr ad j 3)) hx hb hts (fun w h => mT (inX3 w h)) hown hG.1 hP (hst.c hj (by decide)) hf50 rfl 11 (by decide) (hts _ (mT wg_354)) (fun _ h => h) rfl dX3_send_65 ?_
        refine lv_iload hx hb dX3_send_68 (lv_at hl 6 rfl) ?_
        refine lv_dup2_11 hx hb dX3_send_70 rfl rfl ?_
        have hT := TI.updC hT hst hj (k := 2) (by decide) hf47 ho48 ⟨r49, rfl⟩
        obtain ⟨rw51, hf52⟩ := hT.2.1 j hj 3 (by decide)
        have hin53 : vp_in x5 18 := In.inb hb6 (by decide) (by decide)
        refine pl_lald hx hb hG.1 hP (hst.c hj (by decide)) 1 hf52 rfl hin53 dX3_send_71 ?_
        refine lv_topl (fun x54 ex54 => ?_)
        refine lv_lload hx hb dX3_send_72 (lv_at hl 0 rfl) ?_
        refine lv_ldc2 hx hb hown (hts _ (mT wg_798)) dX3_send_74 ?_
        refine lv_land hx hb dX3_send_77 ?_
        refine lv_topl (fun x55 ex55 => ?_)
        refine lv_ladd hx hb dX3_send_78 ?_
        refine lv_topl (fun x56 ex56 => ?_)
        refine pl_lastE hx hb hG.1 hP hD hS (hst.c hj (by decide)) 1 hf52 rfl (In.inb hb6 (by decide) (by decide)) dX3_send_79 (fun H locs f57 r60 er60 hf58 ho59 hP hD hS => ?_)
        have hf61 := (ho59 (cr ad j 0) (hst.ne (by omega) (by omega) (by omega))).trans hf50
        have hf62 := (ho59 (cr ad j 2) (hst.ne (by omega) (by omega) (by omega))).trans hf47
        have hfr : (∀ b, b ≠ (ad 15) → b ≠ (cr ad j 0) → b ≠ (cr ad j 2) → b ≠ (cr ad j 3) → b ≠ (cr ad j 4) → f57 b = f b) := fun b z0_ z1_ z2_ z3_ z4_ => (ho59 b z3_).trans (hfr b z0_ z1_ z2_ z3_ z4_)
        refine lv_aload_n hx hb dX3_send_80 rfl (lv_at hl 1 rfl) ?_
        refine pl_get (v := .ref (cr ad j 4)) hx hb hts (fun w h => mT (inX3 w h)) hown hG.1 hP (hst.c hj (by decide)) hf61 rfl 12 (by decide) (hts _ (mT wg_355)) (fun _ h => h) rfl dX3_send_81 ?_
        refine lv_iload hx hb dX3_send_84 (lv_at hl 6 rfl) ?_
        refine lv_dup2_11 hx hb dX3_send_86 rfl rfl ?_
        have hT := TI.updC hT hst hj (k := 3) (by decide) hf58 ho59 ⟨r60, rfl⟩
        obtain ⟨rw63, hf64⟩ := hT.2.1 j hj 4 (by decide)
        have hin65 : vp_in x5 18 := In.inb hb6 (by decide) (by decide)
        refine pl_lald hx hb hG.1 hP (hst.c hj (by decide)) 1 hf64 rfl hin65 dX3_send_87 ?_
        refine lv_topl (fun x66 ex66 => ?_)
        refine lv_lload hx hb dX3_send_88 (lv_at hl 0 rfl) ?_
        refine lv_iconst (v := 1) hx hb dX3_send_90 (by decide) ?_
        refine lv_lushr hx hb dX3_send_91 rfl ?_
        refine lv_topl (fun x67 ex67 => ?_)
        refine lv_ldc2 hx hb hown (hts _ (mT wg_798)) dX3_send_92 ?_
        refine lv_land hx hb dX3_send_95 ?_
        refine lv_topl (fun x68 ex68 => ?_)
        refine lv_ladd hx hb dX3_send_96 ?_
        refine lv_topl (fun x69 ex69 => ?_)
        refine pl_lastE hx hb hG.1 hP hD hS (hst.c hj (by decide)) 1 hf64 rfl (In.inb hb6 (by decide) (by decide)) dX3_send_97 (fun H locs f70 r73 er73 hf71 ho72 hP hD hS => ?_)
        have hf74 := (ho72 (cr ad j 0) (hst.ne (by omega) (by omega) (by omega))).trans hf61
        have hf75 := (ho72 (cr ad j 2) (hst.ne (by omega) (by omega) (by omega))).trans hf62
        have hf76 := (ho72 (cr ad j 3) (hst.ne (by omega) (by omega) (by omega))).trans hf58
        have hfr : (∀ b, b ≠ (ad 15) → b ≠ (cr ad j 0) → b ≠ (cr ad j 2) → b ≠ (cr ad j 3) → b ≠ (cr ad j 4) → f70 b = f b) := fun b z0_ z1_ z2_ z3_ z4_ => (ho72 b z4_).trans (hfr b z0_ z1_ z2_ z3_ z4_)
        refine lv_lload hx hb dX3_send_98 (lv_at hl 0 rfl) ?_
        refine lv_aload_n hx hb dX3_send_100 rfl (lv_at hl 2 rfl) ?_
        have hT := TI.updC hT hst hj (k := 4) (by decide) hf71 ho72 ⟨r73, rfl⟩
        obtain ⟨v0_77, v1_77, v2_77, v3_77, v4_77, v5_77, v6_77, v7_77, hf78, hv0_77, hg0_77, hv1_77, hg1_77, hv2_77, hv3_77, hv5_77, hv6_77, hrel0_77⟩ := hT.1 6 (by decide)
        refine pl_getN (v := .int v1_77) hx hb hts (fun w h => mT (inX2 w h)) hown hG.1 hP (hst.1 6 (by decide)) hf78 rfl 1 (by decide) (hG.2.1 _ wn_231) (fun _ h => h) rfl dX3_send_101 ?_
        refine lv_iload hx hb dX3_send_104 (lv_at hl 7 rfl) ?_
        refine call_i (run_S (rm := rm_X3_reachedBy) hx hb hml hown hts (s_X3_reachedBy l g ad th _ _ _ r33 v1_77 y32_l6 hst hT ) cS_X3_reachedBy wg_831 ⟨Nat.le_of_ble_eq_true rfl, Nat.le_of_ble_eq_true rfl⟩ hG hE hA hP hD hS rfl hl.1 (As := [.long r33, .int v1_77, .int y32_l6]) (rest := []) rfl (Nat.le_of_ble_eq_true rfl) dX3_send_106 ⟨Nat.le_of_ble_eq_true rfl, Nat.le_of_ble_eq_true rfl⟩) hA hD hS (fun r79 L80 f81 H locs hp82 hP hD hS => ?_)
        obtain ⟨eL83L, eL83T⟩ := hp82
        have eL83L : L80 = L := eL83L
        have eL83T : f81 = f70 := eL83T
        rw [eL83L, eL83T] at hP hD
        refine lv_istore (lv' := [(9, .int r79), (7, .long r33), (0, .ref (cr ad j 0)), (1, .ref (ad 6)), (2, .ref (ad 15)), (3, .int z3), (4, .int z4), (5, .int x5), (6, .int y32_l6)]) hx hb dX3_send_109 hl (by decide) rfl (fun ls hl => ?_)
        refine lv_aload_n hx hb dX3_send_111 rfl (lv_at hl 2 rfl) ?_
        refine lv_dup hx hb dX3_send_112 rfl ?_
        refine pl_get (v := .int v4_31) hx hb hts (fun w h => mT (inX3 w h)) hown hG.1 hP (hst.c hj (by decide)) hf74 rfl 4 (by decide) (hts _ (mT wg_344)) (fun _ h => h) rfl dX3_send_113 ?_
        refine lv_iload hx hb dX3_send_116 (lv_at hl 0 rfl) ?_
        refine lv_iadd hx hb dX3_send_118 ?_
        refine lv_topi (fun x84 ex84 => ?_)
        refine pl_put (ty := .int) (v := .int x84) (fs' := [.int v0_31, .int v1_31, .int v2_31, .int v3_31, .int x84, .int v5_31, .int v6_31, .long v7_31, .long v8_31, .ref (cr ad j 1), .ref (cr ad j 2), .ref (cr ad j 3), .ref (cr ad j 4), .ref (cr ad j 5), .ref (cr ad j 6), .ref (cr ad j 7), .ref (cr ad j 8), .ref (cr ad j 9)]) hx hb hts (fun w h => mT (inX3 w h)) tyX3 tyX3_ok nmX3 hown hG.1 hP hD hS (hst.c hj (by decide)) hf74 rfl 4 (by decide) (hts _ (mT wg_344)) (fun _ h => h) rfl (by decide +kernel) (rfl) (rfl) (Nat.le_of_ble_eq_true rfl) rfl dX3_send_119 (fun H locs f85 hf86 ho87 hP hD hS => ?_)
        have hf88 := (ho87 (cr ad j 2) (hst.ne (by omega) (by omega) (by omega))).trans hf75
        have hf89 := (ho87 (cr ad j 3) (hst.ne (by omega) (by omega) (by omega))).trans hf76
        have hf90 := (ho87 (cr ad j 4) (hst.ne (by omega) (by omega) (by omega))).trans hf71
        have hf91 := (ho87 (ad 6) (hst.ne (by omega) (by omega) (by omega))).trans hf78
        have hfr : (∀ b, b ≠ (ad 15) → b ≠ (cr ad j 0) → b ≠ (cr ad j 2) → b ≠ (cr ad j 3) → b ≠ (cr ad j 4) → f85 b = f b) := fun b z0_ z1_ z2_ z3_ z4_ => (ho87 b z1_).trans (hfr b z0_ z1_ z2_ z3_ z4_)
        refine lv_aload_n hx hb dX3_send_122 rfl (lv_at hl 2 rfl) ?_
        refine lv_dup hx hb dX3_send_123 rfl ?_
        refine pl_get (v := .int v5_31) hx hb hts (fun w h => mT (inX3 w h)) hown hG.1 hP (hst.c hj (by decide)) hf86 rfl 5 (by decide) (hts _ (mT wg_346)) (fun _ h => h) rfl dX3_send_124 ?_
        refine lv_aload_n hx hb dX3_send_127 rfl (lv_at hl 2 rfl) ?_
        refine pl_get (v := .int v1_31) hx hb hts (fun w h => mT (inX3 w h)) hown hG.1 hP (hst.c hj (by decide)) hf86 rfl 1 (by decide) (hts _ (mT wg_338)) (fun _ h => h) rfl dX3_send_128 ?_
        refine lv_iload hx hb dX3_send_131 (lv_at hl 8 rfl) ?_
        have hT := TI.updC hT hst hj (k := 0) (by decide) hf86 ho87 ⟨v0_31, v1_31, v2_31, v3_31, x84, v5_31, v6_31, v7_31, v8_31, rfl, hv1_31, hg1_31, hv2_31, hg2_31, hv6_31⟩
        refine call_i (run_SN (rm := rm_X10_bit) hx hb hml hown hts (s_X10_bit l g ad th _ _ _ v1_31 y32_l6 hst hT ) cS_X10_bit wn_794 ⟨Nat.le_of_ble_eq_true rfl, Nat.le_of_ble_eq_true rfl⟩ hG hE hA hP hD hS rfl hl.1 (As := [.int v1_31, .int y32_l6]) (rest := [.int v5_31, .ref (cr ad j 0)]) rfl (Nat.le_of_ble_eq_true rfl) dX3_send_133 ⟨Nat.le_of_ble_eq_true rfl, Nat.le_of_ble_eq_true rfl⟩) hA hD hS (fun r92 L93 f94 H locs hp95 hP hD hS => ?_)
        obtain ⟨eL96L, eL96T, eL96R, eL96X0⟩ := hp95
        have eL96L : L93 = L := eL96L
        have eL96T : f94 = f85 := eL96T
        rw [eL96L, eL96T] at hP hD
        have eL96R : In r92 0 1 := eL96R
        have hJ145 : ∀ (y145_s0 : Int32) (H : Heap) (locs : List Loc) (ls : Array Slot), In y145_s0 (-2147483648) 2147483647 → va_P g.1 vwCl (va_pl L f85) H → va_D A (va_pl L f85) → va_S A s.heap H locs → lv_has ls 10 [(0, .ref (cr ad j 0)), (1, .ref (ad 6)), (2, .ref (ad 15)), (3, .int z3), (4, .int z4), (5, .int x5), (6, .int y32_l6), (7, .long r33), (9, .int r79)] → W p l e rm_X3_send_co_fr s m [.ref (cr ad j 0), .ref (ad 6), .ref (ad 15), .int z3, .int z4].toArray below meth c H locs 0 0 (MQ below (va_Qv (po_X3_send_co_fr g ad th L f j z3 z4) (PstB g A) A) [.ref (cr ad j 0), .ref (ad 6), .ref (ad 15), .int z3, .int z4].toArray s rm_X3_send_co_fr.cells rm_X3_send_co_fr.slots A) (F0 m 145 ls [.int y145_s0, .int v5_31, .ref (cr ad j 0)]) := by
          intro y145_s0 H locs ls hy145_s0 hP hD hS hl
          refine lv_iadd hx hb dX3_send_145 ?_
          refine lv_topi (fun x97 ex97 => ?_)
          refine pl_put (ty := .int) (v := .int x97) (fs' := [.int v0_31, .int v1_31, .int v2_31, .int v3_31, .int x84, .int x97, .int v6_31, .long v7_31, .long v8_31, .ref (cr ad j 1), .ref (cr ad j 2), .ref (cr ad j 3), .ref (cr ad j 4), .ref (cr ad j 5), .ref (cr ad j 6), .ref (cr ad j 7), .ref (cr ad j 8), .ref (cr ad j 9)]) hx hb hts (fun w h => mT (inX3 w h)) tyX3 tyX3_ok nmX3 hown hG.1 hP hD hS (hst.c hj (by decide)) hf86 rfl 5 (by decide) (hts _ (mT wg_346)) (fun _ h => h) rfl (by decide +kernel) (rfl) (rfl) (Nat.le_of_ble_eq_true rfl) rfl dX3_send_146 (fun H locs f98 hf99 ho100 hP hD hS => ?_)
          have hf101 := (ho100 (cr ad j 2) (hst.ne (by omega) (by omega) (by omega))).trans hf88
          have hf102 := (ho100 (cr ad j 3) (hst.ne (by omega) (by omega) (by omega))).trans hf89
          have hf103 := (ho100 (cr ad j 4) (hst.ne (by omega) (by omega) (by omega))).trans hf90
          have hf104 := (ho100 (ad 6) (hst.ne (by omega) (by omega) (by omega))).trans hf91
          have hfr : (∀ b, b ≠ (ad 15) → b ≠ (cr ad j 0) → b ≠ (cr ad j 2) → b ≠ (cr ad j 3) → b ≠ (cr ad j 4) → f98 b = f b) := fun b z0_ z1_ z2_ z3_ z4_ => (ho100 b z1_).trans (hfr b z0_ z1_ z2_ z3_ z4_)
          obtain ⟨x105, ex105⟩ : ∃ y : Int32, y = y32_l6 + 1 := ⟨_, rfl⟩
          have hb106 : In x105 1 9 := ex105 ▸ In.add hb29 (⟨by decide, by decide⟩ : In 1 1 1) (by decide) (by decide) (by decide) (by decide)
          have et107 : x105.toInt = y32_l6.toInt + 1 := In.adde ex105 hb29 (k := 1) (by decide) (by decide) (by decide)
          refine lv_iinc (v := x105) (lv' := [(6, .int x105), (0, .ref (cr ad j 0)), (1, .ref (ad 6)), (2, .ref (ad 15)), (3, .int z3), (4, .int z4), (5, .int x5), (7, .long r33), (9, .int r79)]) hx hb dX3_send_149 hl (k := 6) rfl (by rw [ex105]; rfl) (by decide) rfl (fun ls hl => ?_)
          have hT := TI.updC hT hst hj (k := 0) (by decide) hf99 ho100 ⟨v0_31, v1_31, v2_31, v3_31, x84, x97, v6_31, v7_31, v8_31, rfl, hv1_31, hg1_31, hv2_31, hg2_31, hv6_31⟩
          refine lv_goto (tgt := 32) hx hb dX3_send_152 (by decide) ?_
          exact ih32 x105 _ _ _ _ (In.mono hb106 (by decide) (by decide)) hP hD hS hT hfr (lv_sub hl [1, 2, 3, 4, 5, 6, 0] rfl) (msu et107 (by decide) hmz32)
        refine lv_if_ne (tgt := 144) hx hb dX3_send_136 (by decide) (fun c108 => ?_) (fun c108 => ?_)
        ·
          have cc109 : r92.toInt ≠ (0 : Int32).toInt := i32_ne c108
          have hb110 : In r92 1 1 := In.ne1 eL96R (⟨by decide, by decide⟩ : In 0 0 0) cc109 (by omega) (by omega)
          refine lv_iconst (v := 0) hx hb dX3_send_144 (by decide) ?_
          exact hJ145 0 _ _ _ (⟨by decide, by decide⟩ : In 0 (-2147483648) 2147483647) hP hD hS (lv_sub hl [2, 3, 4, 5, 6, 7, 8, 1, 0] rfl)
        ·
          have cc111 : r92.toInt = (0 : Int32).toInt := congrArg Int32.toInt c108
          have hb112 : In r92 0 0 := In.eq1 eL96R (⟨by decide, by decide⟩ : In 0 0 0) cc111 (by omega) (by omega)
          refine lv_iload hx hb dX3_send_139 (lv_at hl 0 rfl) ?_
          refine lv_goto (tgt := 145) hx hb dX3_send_141 (by decide) ?_
          exact hJ145 r79 _ _ _ (In.full r79) hP hD hS (lv_sub hl [2, 3, 4, 5, 6, 7, 8, 1, 0] rfl)
  exact hJ32 ((9 - z3.toInt).toNat + 1) z3 _ _ _ _ (In.mono hz3 (by decide) (by decide)) hP hD hS hT hfr (lv_sub hl [2, 3, 4, 5, 6, 1, 0] rfl) (msI _)

abbrev rm_X3_play_co_fr : Room := { frames := 4, cells := 0, slots := 0, locals := 102 }
abbrev po_X3_play_co_fr (g : GG) (ad : Nat → Nat) (th : Nat → Int) (L : List Nat) (f : HP) (j : Nat) : (List Nat × HP) → Prop := fun u => u.1 = L ∧ (∃ zz : Int, (0 ≤ zz ∧ zz ≤ 6 * rnd (th 2)) ∧ TI g ad (gset th (300 + j) zz) u.2) ∧ (∀ b, b ≠ (ad 15) → b ≠ (cr ad j 0) → b ≠ (cr ad j 2) → b ≠ (cr ad j 3) → b ≠ (cr ad j 4) → b ≠ (cr ad j 5) → b ≠ (cr ad j 6) → b ≠ (cr ad j 7) → b ≠ (cr ad j 8) → b ≠ (cr ad j 9) → u.2 b = f b)
set_option maxHeartbeats 4000000 in
set_option maxRecDepth 100000 in
theorem s_X3_play_co_fr (l : Launch) (g : GG) (ad : Nat → Nat) (th : Nat → Int) (L : List Nat) (f : HP) (sz : Nat) (j : Nat) (hst : ST ad L) (hT : TI g ad th f) (hj : j < 23) (h3a : 0 ≤ th (300 + j)) (h3b : th (300 + j) ≤ 6 * rnd (th 2)) : MtV l g yX3_play cX3_play 6 rm_X3_play_co_fr [.ref (cr ad j 0), .ref (ad 6), .ref (ad 15)] L f sz (po_X3_play_co_fr g ad th L f j) := by
  refine MtV.of (by decide +kernel) (Nat.le_of_ble_eq_true rfl) ?_
  intro p e s m below meth c A hEn hP hD hS ls hl
  obtain ⟨hx, hb, hr, hml, hown, hlocks, hts, hG, hA, hE, hnm⟩ := hEn
  have hown : s.vm.findClass "RulerWord$Course" = some m.cls := hown
  have hl : lv_has ls 6 [(0, .ref (cr ad j 0)), (1, .ref (ad 6)), (2, .ref (ad 15))] := hl
  have hfr : (∀ b, b ≠ (ad 15) → b ≠ (cr ad j 0) → b ≠ (cr ad j 2) → b ≠ (cr ad j 3) → b ≠ (cr ad j 4) → b ≠ (cr ad j 5) → b ≠ (cr ad j 6) → b ≠ (cr ad j 7) → b ≠ (cr ad j 8) → b ≠ (cr ad j 9) → f b = f b) := fun b z0_ z1_ z2_ z3_ z4_ z5_ z6_ z7_ z8_ z9_ => rfl
  refine lv_aload_n hx hb dX3_play_0 rfl (lv_at hl 1 rfl) ?_
  refine lv_aload_n hx hb dX3_play_1 rfl (lv_at hl 0 rfl) ?_
  obtain ⟨v0_1, v1_1, v2_1, v3_1, v4_1, v5_1, v6_1, v7_1, v8_1, hf2, hv1_1, hg1_1, hv2_1, hg2_1, hv6_1⟩ := hT.2.1 j hj 0 (by decide)
  refine pl_get (v := .int v2_1) hx hb hts (fun w h => mT (inX3 w h)) hown hG.1 hP (hst.c hj (by decide)) hf2 rfl 2 (by decide) (hts _ (mT wg_340)) (fun _ h => h) rfl dX3_play_2 ?_
  obtain ⟨v0_3, v1_3, v2_3, v3_3, v4_3, v5_3, v6_3, v7_3, hf4, hv0_3, hg0_3, hv1_3, hg1_3, hv2_3, hv3_3, hv5_3, hv6_3, hrel0_3⟩ := hT.1 6 (by decide)
  refine call_i (run_VN (rm := rm_X2_phaseAt_co) hx hb hml hown hts (s_X2_phaseAt_co l g ad th _ _ _ v2_1 hst hT hv2_1) cV_X2_phaseAt wn_775 ⟨Nat.le_of_ble_eq_true rfl, Nat.le_of_ble_eq_true rfl⟩ hG hE hA hP hD hS (hst.1 6 (by decide)) hf4 rfl rfl hl.1 (As := [.int v2_1]) (rest := []) rfl (Nat.le_of_ble_eq_true rfl) dX3_play_5 ⟨Nat.le_of_ble_eq_true rfl, Nat.le_of_ble_eq_true rfl⟩) hA hD hS (fun r5 L6 f7 H locs hp8 hP hD hS => ?_)
  obtain ⟨eL9L, eL9T, eL9R, eL9X0⟩ := hp8
  have eL9L : L6 = L := eL9L
  have eL9T : f7 = f := eL9T
  rw [eL9L, eL9T] at hP hD
  have eL9R : In r5 0 9 := eL9R
  have hph10 : r5.toInt * rnd (th 2) ≤ v2_1.toInt ∧ v2_1.toInt < (r5.toInt + 1) * rnd (th 2) := eL9X0
  refine lv_istore_n (lv' := [(3, .int r5), (0, .ref (cr ad j 0)), (1, .ref (ad 6)), (2, .ref (ad 15))]) hx hb dX3_play_8 rfl hl (by decide) rfl (fun ls hl => ?_)
  refine lv_iload_n hx hb dX3_play_9 rfl (lv_at hl 0 rfl) ?_
  refine lv_aload_n hx hb dX3_play_10 rfl (lv_at hl 2 rfl) ?_
  refine pl_getN (v := .int v3_3) hx hb hts (fun w h => mT (inX2 w h)) hown hG.1 hP (hst.1 6 (by decide)) hf4 rfl 3 (by decide) (hG.2.1 _ wn_236) (fun _ h => h) rfl dX3_play_11 ?_
  refine lv_icmp_ge (tgt := 23) hx hb dX3_play_14 (by decide) (fun c11 => ?_) (fun c11 => ?_)
  ·
    exact ret_v hx hb hr hlocks hP hD hS (Nat.le_of_ble_eq_true rfl) (Nat.le_of_ble_eq_true rfl) (⟨rfl, ⟨th (300 + j), ⟨h3a, h3b⟩, by rw [gset_same]; exact hT⟩, hfr⟩) dX3_play_23
  ·
    have cc12 : r5.toInt < v3_3.toInt := i32_nle c11
    have hb13 : In r5 0 5 := In.lt1 eL9R hv3_3 cc12 (by omega) (by omega)
    have hb14 : In v3_3 1 6 := In.lt2 eL9R hv3_3 cc12 (by omega) (by omega)
    refine lv_iload_n hx hb dX3_play_17 rfl (lv_at hl 0 rfl) ?_
    refine lv_bipush (v := 6) hx hb dX3_play_18 (by decide) ?_
    refine lv_icmp_lt (tgt := 24) hx hb dX3_play_20 (by decide) (fun c15 => ?_) (fun c15 => ?_)
    ·
      refine lv_aload_n hx hb dX3_play_24 rfl (lv_at hl 1 rfl) ?_
      refine pl_get (v := .int v4_1) hx hb hts (fun w h => mT (inX3 w h)) hown hG.1 hP (hst.c hj (by decide)) hf2 rfl 4 (by decide) (hts _ (mT wg_344)) (fun _ h => h) rfl dX3_play_25 ?_
      refine lv_istore (lv' := [(4, .int v4_1), (3, .int r5), (0, .ref (cr ad j 0)), (1, .ref (ad 6)), (2, .ref (ad 15))]) hx hb dX3_play_28 hl (by decide) rfl (fun ls hl => ?_)
      refine lv_aload_n hx hb dX3_play_30 rfl (lv_at hl 4 rfl) ?_
      refine lv_iload_n hx hb dX3_play_31 rfl (lv_at hl 1 rfl) ?_
      obtain ⟨v0_16, v1_16, v2_16, v3_16, hf17, hv0_16, hv1_16⟩ := hT.1 15 (by decide)
      refine pl_put (ty := .int) (v := .int r5) (fs' := [.int r5, .int v1_16, .int v2_16, .int v3_16]) hx hb hts (fun w h => mT (inX4 w h)) tyX4 tyX4_ok nmX4 hown hG.1 hP hD hS (hst.1 15 (by decide)) hf17 rfl 0 (by decide) (hts _ (mT wg_292)) (fun _ h => h) rfl (by decide +kernel) (rfl) (rfl) (Nat.le_of_ble_eq_true rfl) rfl dX3_play_32 (fun H locs f18 hf19 ho20 hP hD hS => ?_)
      have hf21 := (ho20 (cr ad j 0) (hst.ne (by omega) (by omega) (by omega))).trans hf2
      have hf22 := (ho20 (ad 6) (hst.ne (by decide) (by decide) (by decide))).trans hf4
      have hfr : (∀ b, b ≠ (ad 15) → b ≠ (cr ad j 0) → b ≠ (cr ad j 2) → b ≠ (cr ad j 3) → b ≠ (cr ad j 4) → b ≠ (cr ad j 5) → b ≠ (cr ad j 6) → b ≠ (cr ad j 7) → b ≠ (cr ad j 8) → b ≠ (cr ad j 9) → f18 b = f b) := fun b z0_ z1_ z2_ z3_ z4_ z5_ z6_ z7_ z8_ z9_ => (ho20 b z0_).trans (hfr b z0_ z1_ z2_ z3_ z4_ z5_ z6_ z7_ z8_ z9_)
      refine lv_aload_n hx hb dX3_play_35 rfl (lv_at hl 4 rfl) ?_
      refine lv_aload_n hx hb dX3_play_36 rfl (lv_at hl 3 rfl) ?_
      refine lv_aload_n hx hb dX3_play_37 rfl (lv_at hl 2 rfl) ?_
      refine pl_get (v := .int v2_1) hx hb hts (fun w h => mT (inX3 w h)) hown hG.1 hP (hst.c hj (by decide)) hf21 rfl 2 (by decide) (hts _ (mT wg_340)) (fun _ h => h) rfl dX3_play_38 ?_
      have hT := TI.updA hT hst (k := 15) (by decide) hf19 ho20 ⟨r5, v1_16, v2_16, v3_16, rfl, hb13, hv1_16⟩
      refine call_i (run_VN (rm := rm_X2_turnAt_co) hx hb hml hown hts (s_X2_turnAt_co l g ad th _ _ _ v2_1 hst hT hv2_1) cV_X2_turnAt wn_776 ⟨Nat.le_of_ble_eq_true rfl, Nat.le_of_ble_eq_true rfl⟩ hG hE hA hP hD hS (hst.1 6 (by decide)) hf22 rfl rfl hl.1 (As := [.int v2_1]) (rest := [.ref (ad 15)]) rfl (Nat.le_of_ble_eq_true rfl) dX3_play_41 ⟨Nat.le_of_ble_eq_true rfl, Nat.le_of_ble_eq_true rfl⟩) hA hD hS (fun r23 L24 f25 H locs hp26 hP hD hS => ?_)
      obtain ⟨eL27L, eL27T, eL27R⟩ := hp26
      have eL27L : L24 = L := eL27L
      have eL27T : f25 = f18 := eL27T
      rw [eL27L, eL27T] at hP hD
      have eL27R : In r23 0 2 := eL27R
      refine pl_put (ty := .int) (v := .int r23) (fs' := [.int r5, .int r23, .int v2_16, .int v3_16]) hx hb hts (fun w h => mT (inX4 w h)) tyX4 tyX4_ok nmX4 hown hG.1 hP hD hS (hst.1 15 (by decide)) hf19 rfl 1 (by decide) (hts _ (mT wg_295)) (fun _ h => h) rfl (by decide +kernel) (rfl) (rfl) (Nat.le_of_ble_eq_true rfl) rfl dX3_play_44 (fun H locs f28 hf29 ho30 hP hD hS => ?_)
      have hf31 := (ho30 (cr ad j 0) (hst.ne (by omega) (by omega) (by omega))).trans hf21
      have hf32 := (ho30 (ad 6) (hst.ne (by decide) (by decide) (by decide))).trans hf22
      have hfr : (∀ b, b ≠ (ad 15) → b ≠ (cr ad j 0) → b ≠ (cr ad j 2) → b ≠ (cr ad j 3) → b ≠ (cr ad j 4) → b ≠ (cr ad j 5) → b ≠ (cr ad j 6) → b ≠ (cr ad j 7) → b ≠ (cr ad j 8) → b ≠ (cr ad j 9) → f28 b = f b) := fun b z0_ z1_ z2_ z3_ z4_ z5_ z6_ z7_ z8_ z9_ => (ho30 b z0_).trans (hfr b z0_ z1_ z2_ z3_ z4_ z5_ z6_ z7_ z8_ z9_)
      refine lv_aload_n hx hb dX3_play_47 rfl (lv_at hl 4 rfl) ?_
      refine pl_get (v := .int r23) hx hb hts (fun w h => mT (inX4 w h)) hown hG.1 hP (hst.1 15 (by decide)) hf29 rfl 1 (by decide) (hts _ (mT wg_295)) (fun _ h => h) rfl dX3_play_48 ?_
      refine lv_aload_n hx hb dX3_play_51 rfl (lv_at hl 3 rfl) ?_
      have hT := TI.updA hT hst (k := 15) (by decide) hf29 ho30 ⟨r5, r23, v2_16, v3_16, rfl, hb13, eL27R⟩
      refine call_i (run_VN (rm := rm_X2_rounds_co) hx hb hml hown hts (s_X2_rounds_co l g ad th _ _ _  hst hT ) cV_X2_rounds wn_777 ⟨Nat.le_of_ble_eq_true rfl, Nat.le_of_ble_eq_true rfl⟩ hG hE hA hP hD hS (hst.1 6 (by decide)) hf32 rfl rfl hl.1 (As := []) (rest := [.int r23]) rfl (Nat.le_of_ble_eq_true rfl) dX3_play_52 ⟨Nat.le_of_ble_eq_true rfl, Nat.le_of_ble_eq_true rfl⟩) hA hD hS (fun r33 L34 f35 H locs hp36 hP hD hS => ?_)
      obtain ⟨eL37L, eL37T, eL37R, eL37X0⟩ := hp36
      have eL37L : L34 = L := eL37L
      have eL37T : f35 = f28 := eL37T
      rw [eL37L, eL37T] at hP hD
      have eL37R : In r33 2 3 := eL37R
      have hrn38 : r33.toInt = rnd (th 2) := eL37X0
      refine lv_iconst (v := 1) hx hb dX3_play_55 (by decide) ?_
      refine lv_isub hx hb dX3_play_56 ?_
      refine lv_topi (fun x39 ex39 => ?_)
      have hb40 : In x39 1 2 := ex39 ▸ In.sub eL37R (⟨by decide, by decide⟩ : In 1 1 1) (by decide) (by decide) (by decide) (by decide)
      have et41 : x39.toInt = r33.toInt + (-1) := In.sube ex39 eL37R (k := 1) (by decide) (by decide) (by decide)
      have hJ111 : ∀ (f_111 : HP) (H : Heap) (locs : List Loc) (ls : Array Slot), va_P g.1 vwCl (va_pl L f_111) H → va_D A (va_pl L f_111) → va_S A s.heap H locs → TI g ad th f_111 → (∀ b, b ≠ (ad 15) → b ≠ (cr ad j 0) → b ≠ (cr ad j 2) → b ≠ (cr ad j 3) → b ≠ (cr ad j 4) → b ≠ (cr ad j 5) → b ≠ (cr ad j 6) → b ≠ (cr ad j 7) → b ≠ (cr ad j 8) → b ≠ (cr ad j 9) → f_111 b = f b) → f_111 (ad 6) = .inr (2, [.int v0_3, .int v1_3, .int v2_3, .int v3_3, .int v4_3, .int v5_3, .int v6_3, .int v7_3]) → lv_has ls 6 [(0, .ref (cr ad j 0)), (1, .ref (ad 6)), (2, .ref (ad 15)), (3, .int r5), (4, .int v4_1)] → W p l e rm_X3_play_co_fr s m [.ref (cr ad j 0), .ref (ad 6), .ref (ad 15)].toArray below meth c H locs 0 0 (MQ below (va_Qv (po_X3_play_co_fr g ad th L f j) (PstB g A) A) [.ref (cr ad j 0), .ref (ad 6), .ref (ad 15)].toArray s rm_X3_play_co_fr.cells rm_X3_play_co_fr.slots A) (F0 m 111 ls []) := by
        intro f_111 H locs ls hP hD hS hT hfr hf42 hl
        refine lv_aload_n hx hb dX3_play_111 rfl (lv_at hl 0 rfl) ?_
        obtain ⟨v0_43, v1_43, v2_43, v3_43, v4_43, v5_43, v6_43, v7_43, v8_43, hf44, hv1_43, hg1_43, hv2_43, hg2_43, hv6_43⟩ := hT.2.1 j hj 0 (by decide)
        refine pl_get (v := .ref (cr ad j 9)) hx hb hts (fun w h => mT (inX3 w h)) hown hG.1 hP (hst.c hj (by decide)) hf44 rfl 17 (by decide) (hts _ (mT wg_364)) (fun _ h => h) rfl dX3_play_112 ?_
        refine lv_iload_n hx hb dX3_play_115 rfl (lv_at hl 3 rfl) ?_
        refine lv_aload_n hx hb dX3_play_116 rfl (lv_at hl 2 rfl) ?_
        obtain ⟨v0_45, v1_45, v2_45, v3_45, hf46, hv0_45, hv1_45⟩ := hT.1 15 (by decide)
        refine pl_get (v := .int v1_45) hx hb hts (fun w h => mT (inX4 w h)) hown hG.1 hP (hst.1 15 (by decide)) hf46 rfl 1 (by decide) (hts _ (mT wg_295)) (fun _ h => h) rfl dX3_play_117 ?_
        have hJ147 : ∀ (y147_s0 : Int32) (H : Heap) (locs : List Loc) (ls : Array Slot), In y147_s0 (-2147483648) 2147483647 → va_P g.1 vwCl (va_pl L f_111) H → va_D A (va_pl L f_111) → va_S A s.heap H locs → lv_has ls 6 [(0, .ref (cr ad j 0)), (1, .ref (ad 6)), (2, .ref (ad 15)), (3, .int r5), (4, .int v4_1)] → W p l e rm_X3_play_co_fr s m [.ref (cr ad j 0), .ref (ad 6), .ref (ad 15)].toArray below meth c H locs 0 0 (MQ below (va_Qv (po_X3_play_co_fr g ad th L f j) (PstB g A) A) [.ref (cr ad j 0), .ref (ad 6), .ref (ad 15)].toArray s rm_X3_play_co_fr.cells rm_X3_play_co_fr.slots A) (F0 m 147 ls [.int y147_s0, .int r5, .ref (cr ad j 9)]) := by
          intro y147_s0 H locs ls hy147_s0 hP hD hS hl
          obtain ⟨rw47, hf48⟩ := hT.2.1 j hj 9 (by decide)
          refine pl_iastE hx hb hG.1 hP hD hS (hst.c hj (by decide)) 0 hf48 rfl (In.inb hb13 (by decide) (by decide)) dX3_play_147 (fun H locs f49 r52 er52 hf50 ho51 hP hD hS => ?_)
          have hf53 := (ho51 (ad 6) (hst.ne (by omega) (by omega) (by omega))).trans hf42
          have hf54 := (ho51 (cr ad j 0) (hst.ne (by omega) (by omega) (by omega))).trans hf44
          have hf55 := (ho51 (ad 15) (hst.ne (by omega) (by omega) (by omega))).trans hf46
          have hfr : (∀ b, b ≠ (ad 15) → b ≠ (cr ad j 0) → b ≠ (cr ad j 2) → b ≠ (cr ad j 3) → b ≠ (cr ad j 4) → b ≠ (cr ad j 5) → b ≠ (cr ad j 6) → b ≠ (cr ad j 7) → b ≠ (cr ad j 8) → b ≠ (cr ad j 9) → f49 b = f b) := fun b z0_ z1_ z2_ z3_ z4_ z5_ z6_ z7_ z8_ z9_ => (ho51 b z9_).trans (hfr b z0_ z1_ z2_ z3_ z4_ z5_ z6_ z7_ z8_ z9_)
          refine lv_aload_n hx hb dX3_play_148 rfl (lv_at hl 0 rfl) ?_
          refine lv_dup hx hb dX3_play_149 rfl ?_
          refine pl_get (v := .int v2_43) hx hb hts (fun w h => mT (inX3 w h)) hown hG.1 hP (hst.c hj (by decide)) hf54 rfl 2 (by decide) (hts _ (mT wg_340)) (fun _ h => h) rfl dX3_play_150 ?_
          refine lv_iconst (v := 1) hx hb dX3_play_153 (by decide) ?_
          refine lv_iadd hx hb dX3_play_154 ?_
          refine lv_topi (fun x56 ex56 => ?_)
          have hb57 : In x56 1 19 := ex56 ▸ In.add hv2_43 (⟨by decide, by decide⟩ : In 1 1 1) (by decide) (by decide) (by decide) (by decide)
          have et58 : x56.toInt = v2_43.toInt + 1 := In.adde ex56 hv2_43 (k := 1) (by decide) (by decide) (by decide)
          have hT := TI.updC hT hst hj (k := 9) (by decide) hf50 ho51 ⟨r52, rfl⟩
          refine pl_put (ty := .int) (v := .int x56) (fs' := [.int v0_43, .int v1_43, .int x56, .int v3_43, .int v4_43, .int v5_43, .int v6_43, .long v7_43, .long v8_43, .ref (cr ad j 1), .ref (cr ad j 2), .ref (cr ad j 3), .ref (cr ad j 4), .ref (cr ad j 5), .ref (cr ad j 6), .ref (cr ad j 7), .ref (cr ad j 8), .ref (cr ad j 9)]) hx hb hts (fun w h => mT (inX3 w h)) tyX3 tyX3_ok nmX3 hown hG.1 hP hD hS (hst.c hj (by decide)) hf54 rfl 2 (by decide) (hts _ (mT wg_340)) (fun _ h => h) rfl (by decide +kernel) (rfl) (rfl) (Nat.le_of_ble_eq_true rfl) rfl dX3_play_155 (fun H locs f59 hf60 ho61 hP hD hS => ?_)
          have hf62 := (ho61 (ad 6) (hst.ne (by omega) (by omega) (by omega))).trans hf53
          have hf63 := (ho61 (ad 15) (hst.ne (by omega) (by omega) (by omega))).trans hf55
          have hf64 := (ho61 (cr ad j 9) (hst.ne (by omega) (by omega) (by omega))).trans hf50
          have hfr : (∀ b, b ≠ (ad 15) → b ≠ (cr ad j 0) → b ≠ (cr ad j 2) → b ≠ (cr ad j 3) → b ≠ (cr ad j 4) → b ≠ (cr ad j 5) → b ≠ (cr ad j 6) → b ≠ (cr ad j 7) → b ≠ (cr ad j 8) → b ≠ (cr ad j 9) → f59 b = f b) := fun b z0_ z1_ z2_ z3_ z4_ z5_ z6_ z7_ z8_ z9_ => (ho61 b z1_).trans (hfr b z0_ z1_ z2_ z3_ z4_ z5_ z6_ z7_ z8_ z9_)
          have hpl := play18 et58 hg2_43 hg2_1 hph10 (Int.le_trans hb13.2 (by decide)) hv2_43.1
          have hT := TI.updCG (th' := (gset th (300 + j) (x56.toInt))) hT hst hj hf60 ho61 ⟨v0_43, v1_43, x56, v3_43, v4_43, v5_43, v6_43, v7_43, v8_43, rfl, hv1_43, (by rw [hg1_43]; simp [gset]), hpl.1, (by simp [gset]), hv6_43⟩ (fun k h1 h2 => by simp [gset, h1, h2])
          have hT : TI g ad (gset th (300 + j) x56.toInt) f59 := TI.cast hT (by funext q; simp only [gset]; (repeat' split); all_goals first | rfl | omega | (subst_vars; rfl) | (exfalso; omega))
          exact ret_v hx hb hr hlocks hP hD hS (Nat.le_of_ble_eq_true rfl) (Nat.le_of_ble_eq_true rfl) (⟨rfl, ⟨x56.toInt, ⟨hpl.1.1, hpl.2⟩, TI.cast hT (by funext q; simp only [gset]; (repeat' split); all_goals first | rfl | omega | (subst_vars; rfl) | (exfalso; omega))⟩, hfr⟩) dX3_play_158
        refine lv_if_ne (tgt := 133) hx hb dX3_play_120 (by decide) (fun c65 => ?_) (fun c65 => ?_)
        ·
          have cc66 : v1_45.toInt ≠ (0 : Int32).toInt := i32_ne c65
          have hb67 : In v1_45 1 2 := In.ne1 hv1_45 (⟨by decide, by decide⟩ : In 0 0 0) cc66 (by omega) (by omega)
          refine lv_aload_n hx hb dX3_play_133 rfl (lv_at hl 0 rfl) ?_
          refine pl_get (v := .ref (cr ad j 9)) hx hb hts (fun w h => mT (inX3 w h)) hown hG.1 hP (hst.c hj (by decide)) hf44 rfl 17 (by decide) (hts _ (mT wg_364)) (fun _ h => h) rfl dX3_play_134 ?_
          refine lv_iload_n hx hb dX3_play_137 rfl (lv_at hl 3 rfl) ?_
          obtain ⟨rw68, hf69⟩ := hT.2.1 j hj 9 (by decide)
          have hin70 : vp_in r5 6 := In.inb hb13 (by decide) (by decide)
          refine pl_iald hx hb hG.1 hP (hst.c hj (by decide)) 0 hf69 rfl hin70 dX3_play_138 ?_
          refine lv_topi (fun x71 ex71 => ?_)
          refine lv_aload_n hx hb dX3_play_139 rfl (lv_at hl 0 rfl) ?_
          refine pl_get (v := .int v4_43) hx hb hts (fun w h => mT (inX3 w h)) hown hG.1 hP (hst.c hj (by decide)) hf44 rfl 4 (by decide) (hts _ (mT wg_344)) (fun _ h => h) rfl dX3_play_140 ?_
          refine lv_iadd hx hb dX3_play_143 ?_
          refine lv_topi (fun x72 ex72 => ?_)
          refine lv_iload hx hb dX3_play_144 (lv_at hl 4 rfl) ?_
          refine lv_isub hx hb dX3_play_146 ?_
          refine lv_topi (fun x73 ex73 => ?_)
          exact hJ147 x73 _ _ _ (In.full x73) hP hD hS (lv_sub hl [0, 1, 2, 3, 4] rfl)
        ·
          have cc74 : v1_45.toInt = (0 : Int32).toInt := congrArg Int32.toInt c65
          have hb75 : In v1_45 0 0 := In.eq1 hv1_45 (⟨by decide, by decide⟩ : In 0 0 0) cc74 (by omega) (by omega)
          refine lv_aload_n hx hb dX3_play_123 rfl (lv_at hl 0 rfl) ?_
          refine pl_get (v := .int v4_43) hx hb hts (fun w h => mT (inX3 w h)) hown hG.1 hP (hst.c hj (by decide)) hf44 rfl 4 (by decide) (hts _ (mT wg_344)) (fun _ h => h) rfl dX3_play_124 ?_
          refine lv_iload hx hb dX3_play_127 (lv_at hl 4 rfl) ?_
          refine lv_isub hx hb dX3_play_129 ?_
          refine lv_topi (fun x76 ex76 => ?_)
          refine lv_goto (tgt := 147) hx hb dX3_play_130 (by decide) ?_
          exact hJ147 x76 _ _ _ (In.full x76) hP hD hS (lv_sub hl [0, 1, 2, 3, 4] rfl)
      refine lv_icmp_ne (tgt := 88) hx hb dX3_play_57 (by decide) (fun c77 => ?_) (fun c77 => ?_)
      ·
        refine lv_aload_n hx hb dX3_play_88 rfl (lv_at hl 2 rfl) ?_
        refine lv_aload_n hx hb dX3_play_89 rfl (lv_at hl 3 rfl) ?_
        refine lv_aload_n hx hb dX3_play_90 rfl (lv_at hl 4 rfl) ?_
        refine lv_iconst (v := 0) hx hb dX3_play_91 (by decide) ?_
        refine lv_aload_n hx hb dX3_play_92 rfl (lv_at hl 3 rfl) ?_
        refine pl_getN (v := .int v1_3) hx hb hts (fun w h => mT (inX2 w h)) hown hG.1 hP (hst.1 6 (by decide)) hf32 rfl 1 (by decide) (hG.2.1 _ wn_231) (fun _ h => h) rfl dX3_play_93 ?_
        refine lv_iconst (v := 1) hx hb dX3_play_96 (by decide) ?_
        refine lv_isub hx hb dX3_play_97 ?_
        refine lv_topi (fun x78 ex78 => ?_)
        have hb79 : In x78 (-1) 8 := ex78 ▸ In.sub hv1_3 (⟨by decide, by decide⟩ : In 1 1 1) (by decide) (by decide) (by decide) (by decide)
        have et80 : x78.toInt = v1_3.toInt + (-1) := In.sube ex78 hv1_3 (k := 1) (by decide) (by decide) (by decide)
        refine call_v (run_V (rm := rm_X3_send_co_fr) hx hb hml hown hts (s_X3_send_co_fr l g ad th _ _ _ j 0 x78 hst hT hj (⟨by decide, by decide⟩ : In 0 0 8) hb79) cV_X3_send wg_782 ⟨Nat.le_of_ble_eq_true rfl, Nat.le_of_ble_eq_true rfl⟩ hG hE hA hP hD hS (hst.c hj (by decide)) hf31 rfl rfl hl.1 (As := [.ref (ad 6), .ref (ad 15), .int 0, .int x78]) (rest := []) rfl (Nat.le_of_ble_eq_true rfl) dX3_play_98 ⟨Nat.le_of_ble_eq_true rfl, Nat.le_of_ble_eq_true rfl⟩) hA hD hS (fun L82 f83 H locs hp84 hP hD hS => ?_)
        obtain ⟨eL85L, eL85T, eL85F⟩ := hp84
        have eL85L : L82 = L := eL85L
        rw [eL85L] at hP hD
        have hT : TI g ad th f83 := eL85T
        have eL85F : ∀ b, b ≠ (ad 15) → b ≠ (cr ad j 0) → b ≠ (cr ad j 2) → b ≠ (cr ad j 3) → b ≠ (cr ad j 4) → f83 b = f28 b := eL85F
        have hf86 := (eL85F (ad 6) (hst.ne (by decide) (by decide) (by decide)) (hst.ne (by omega) (by omega) (by omega)) (hst.ne (by omega) (by omega) (by omega)) (hst.ne (by omega) (by omega) (by omega)) (hst.ne (by omega) (by omega) (by omega))).trans hf32
        have hfr : (∀ b, b ≠ (ad 15) → b ≠ (cr ad j 0) → b ≠ (cr ad j 2) → b ≠ (cr ad j 3) → b ≠ (cr ad j 4) → b ≠ (cr ad j 5) → b ≠ (cr ad j 6) → b ≠ (cr ad j 7) → b ≠ (cr ad j 8) → b ≠ (cr ad j 9) → f83 b = f b) := fun b z0_ z1_ z2_ z3_ z4_ z5_ z6_ z7_ z8_ z9_ => (eL85F b z0_ z1_ z2_ z3_ z4_).trans (hfr b z0_ z1_ z2_ z3_ z4_ z5_ z6_ z7_ z8_ z9_)
        refine lv_aload_n hx hb dX3_play_101 rfl (lv_at hl 2 rfl) ?_
        refine lv_aload_n hx hb dX3_play_102 rfl (lv_at hl 3 rfl) ?_
        refine lv_iload_n hx hb dX3_play_103 rfl (lv_at hl 1 rfl) ?_
        refine lv_aload_n hx hb dX3_play_104 rfl (lv_at hl 4 rfl) ?_
        obtain ⟨v0_87, v1_87, v2_87, v3_87, hf88, hv0_87, hv1_87⟩ := hT.1 15 (by decide)
        refine pl_get (v := .int v1_87) hx hb hts (fun w h => mT (inX4 w h)) hown hG.1 hP (hst.1 15 (by decide)) hf88 rfl 1 (by decide) (hts _ (mT wg_295)) (fun _ h => h) rfl dX3_play_105 ?_
        obtain ⟨v0_89, v1_89, v2_89, v3_89, v4_89, v5_89, v6_89, v7_89, v8_89, hf90, hv1_89, hg1_89, hv2_89, hg2_89, hv6_89⟩ := hT.2.1 j hj 0 (by decide)
        refine call_v (run_V (rm := rm_X3_hearAll_co) hx hb hml hown hts (s_X3_hearAll_co l g ad th _ _ _ j r5 v1_87 hst hT hj hb13 hv1_87) cV_X3_hearAll wg_854 ⟨Nat.le_of_ble_eq_true rfl, Nat.le_of_ble_eq_true rfl⟩ hG hE hA hP hD hS (hst.c hj (by decide)) hf90 rfl rfl hl.1 (As := [.ref (ad 6), .int r5, .int v1_87]) (rest := []) rfl (Nat.le_of_ble_eq_true rfl) dX3_play_108 ⟨Nat.le_of_ble_eq_true rfl, Nat.le_of_ble_eq_true rfl⟩) hA hD hS (fun L92 f93 H locs hp94 hP hD hS => ?_)
        obtain ⟨eL95L, eL95T, eL95F⟩ := hp94
        have eL95L : L92 = L := eL95L
        rw [eL95L] at hP hD
        have hT : TI g ad th f93 := eL95T
        have eL95F : ∀ b, b ≠ (cr ad j 0) → b ≠ (cr ad j 5) → b ≠ (cr ad j 7) → f93 b = f83 b := eL95F
        have hf96 := (eL95F (ad 6) (hst.ne (by omega) (by omega) (by omega)) (hst.ne (by omega) (by omega) (by omega)) (hst.ne (by omega) (by omega) (by omega))).trans hf86
        have hf97 := (eL95F (ad 15) (hst.ne (by omega) (by omega) (by omega)) (hst.ne (by omega) (by omega) (by omega)) (hst.ne (by omega) (by omega) (by omega))).trans hf88
        have hfr : (∀ b, b ≠ (ad 15) → b ≠ (cr ad j 0) → b ≠ (cr ad j 2) → b ≠ (cr ad j 3) → b ≠ (cr ad j 4) → b ≠ (cr ad j 5) → b ≠ (cr ad j 6) → b ≠ (cr ad j 7) → b ≠ (cr ad j 8) → b ≠ (cr ad j 9) → f93 b = f b) := fun b z0_ z1_ z2_ z3_ z4_ z5_ z6_ z7_ z8_ z9_ => (eL95F b z1_ z5_ z7_).trans (hfr b z0_ z1_ z2_ z3_ z4_ z5_ z6_ z7_ z8_ z9_)
        exact hJ111 _ _ _ _ hP hD hS hT hfr hf96 (lv_sub hl [2, 3, 4, 1, 0] rfl)
      ·
        have cc98 : r23.toInt = x39.toInt := congrArg Int32.toInt c77
        have hb99 : In r23 1 2 := In.eq1 eL27R hb40 cc98 (by omega) (by omega)
        refine lv_aload_n hx hb dX3_play_60 rfl (lv_at hl 3 rfl) ?_
        refine lv_iload_n hx hb dX3_play_61 rfl (lv_at hl 1 rfl) ?_
        refine call_i (run_VN (rm := rm_X2_ruler_co) hx hb hml hown hts (s_X2_ruler_co l g ad th _ _ _ r5 hst hT (In.mono hb13 (by decide) (by decide))) cV_X2_ruler wn_778 ⟨Nat.le_of_ble_eq_true rfl, Nat.le_of_ble_eq_true rfl⟩ hG hE hA hP hD hS (hst.1 6 (by decide)) hf32 rfl rfl hl.1 (As := [.int r5]) (rest := []) rfl (Nat.le_of_ble_eq_true rfl) dX3_play_62 ⟨Nat.le_of_ble_eq_true rfl, Nat.le_of_ble_eq_true rfl⟩) hA hD hS (fun r100 L101 f102 H locs hp103 hP hD hS => ?_)
        obtain ⟨eL104L, eL104T, eL104R⟩ := hp103
        have eL104L : L101 = L := eL104L
        have eL104T : f102 = f28 := eL104T
        rw [eL104L, eL104T] at hP hD
        have eL104R : In r100 0 8 := eL104R
        refine lv_istore (lv' := [(5, .int r100), (4, .int v4_1), (3, .int r5), (0, .ref (cr ad j 0)), (1, .ref (ad 6)), (2, .ref (ad 15))]) hx hb dX3_play_65 hl (by decide) rfl (fun ls hl => ?_)
        refine lv_aload_n hx hb dX3_play_67 rfl (lv_at hl 3 rfl) ?_
        refine lv_aload_n hx hb dX3_play_68 rfl (lv_at hl 4 rfl) ?_
        refine lv_aload_n hx hb dX3_play_69 rfl (lv_at hl 5 rfl) ?_
        refine lv_iload hx hb dX3_play_70 (lv_at hl 0 rfl) ?_
        refine lv_iload hx hb dX3_play_72 (lv_at hl 0 rfl) ?_
        refine call_v (run_V (rm := rm_X3_send_co_fr) hx hb hml hown hts (s_X3_send_co_fr l g ad th _ _ _ j r100 r100 hst hT hj eL104R (In.mono eL104R (by decide) (by decide))) cV_X3_send wg_782 ⟨Nat.le_of_ble_eq_true rfl, Nat.le_of_ble_eq_true rfl⟩ hG hE hA hP hD hS (hst.c hj (by decide)) hf31 rfl rfl hl.1 (As := [.ref (ad 6), .ref (ad 15), .int r100, .int r100]) (rest := []) rfl (Nat.le_of_ble_eq_true rfl) dX3_play_74 ⟨Nat.le_of_ble_eq_true rfl, Nat.le_of_ble_eq_true rfl⟩) hA hD hS (fun L106 f107 H locs hp108 hP hD hS => ?_)
        obtain ⟨eL109L, eL109T, eL109F⟩ := hp108
        have eL109L : L106 = L := eL109L
        rw [eL109L] at hP hD
        have hT : TI g ad th f107 := eL109T
        have eL109F : ∀ b, b ≠ (ad 15) → b ≠ (cr ad j 0) → b ≠ (cr ad j 2) → b ≠ (cr ad j 3) → b ≠ (cr ad j 4) → f107 b = f28 b := eL109F
        have hf110 := (eL109F (ad 6) (hst.ne (by decide) (by decide) (by decide)) (hst.ne (by omega) (by omega) (by omega)) (hst.ne (by omega) (by omega) (by omega)) (hst.ne (by omega) (by omega) (by omega)) (hst.ne (by omega) (by omega) (by omega))).trans hf32
        have hfr : (∀ b, b ≠ (ad 15) → b ≠ (cr ad j 0) → b ≠ (cr ad j 2) → b ≠ (cr ad j 3) → b ≠ (cr ad j 4) → b ≠ (cr ad j 5) → b ≠ (cr ad j 6) → b ≠ (cr ad j 7) → b ≠ (cr ad j 8) → b ≠ (cr ad j 9) → f107 b = f b) := fun b z0_ z1_ z2_ z3_ z4_ z5_ z6_ z7_ z8_ z9_ => (eL109F b z0_ z1_ z2_ z3_ z4_).trans (hfr b z0_ z1_ z2_ z3_ z4_ z5_ z6_ z7_ z8_ z9_)
        refine lv_aload_n hx hb dX3_play_77 rfl (lv_at hl 3 rfl) ?_
        refine lv_aload_n hx hb dX3_play_78 rfl (lv_at hl 4 rfl) ?_
        refine lv_iload_n hx hb dX3_play_79 rfl (lv_at hl 2 rfl) ?_
        refine lv_iload hx hb dX3_play_80 (lv_at hl 0 rfl) ?_
        obtain ⟨v0_111, v1_111, v2_111, v3_111, v4_111, v5_111, v6_111, v7_111, v8_111, hf112, hv1_111, hg1_111, hv2_111, hg2_111, hv6_111⟩ := hT.2.1 j hj 0 (by decide)
        refine call_v (run_V (rm := rm_X3_hearRuler_co) hx hb hml hown hts (s_X3_hearRuler_co l g ad th _ _ _ j r5 r100 hst hT hj hb13 eL104R) cV_X3_hearRuler wg_842 ⟨Nat.le_of_ble_eq_true rfl, Nat.le_of_ble_eq_true rfl⟩ hG hE hA hP hD hS (hst.c hj (by decide)) hf112 rfl rfl hl.1 (As := [.ref (ad 6), .int r5, .int r100]) (rest := []) rfl (Nat.le_of_ble_eq_true rfl) dX3_play_82 ⟨Nat.le_of_ble_eq_true rfl, Nat.le_of_ble_eq_true rfl⟩) hA hD hS (fun L114 f115 H locs hp116 hP hD hS => ?_)
        obtain ⟨eL117L, eL117T, eL117F⟩ := hp116
        have eL117L : L114 = L := eL117L
        rw [eL117L] at hP hD
        have hT : TI g ad th f115 := eL117T
        have eL117F : ∀ b, b ≠ (cr ad j 0) → b ≠ (cr ad j 6) → b ≠ (cr ad j 8) → f115 b = f107 b := eL117F
        have hf118 := (eL117F (ad 6) (hst.ne (by omega) (by omega) (by omega)) (hst.ne (by omega) (by omega) (by omega)) (hst.ne (by omega) (by omega) (by omega))).trans hf110
        have hfr : (∀ b, b ≠ (ad 15) → b ≠ (cr ad j 0) → b ≠ (cr ad j 2) → b ≠ (cr ad j 3) → b ≠ (cr ad j 4) → b ≠ (cr ad j 5) → b ≠ (cr ad j 6) → b ≠ (cr ad j 7) → b ≠ (cr ad j 8) → b ≠ (cr ad j 9) → f115 b = f b) := fun b z0_ z1_ z2_ z3_ z4_ z5_ z6_ z7_ z8_ z9_ => (eL117F b z1_ z6_ z8_).trans (hfr b z0_ z1_ z2_ z3_ z4_ z5_ z6_ z7_ z8_ z9_)
        refine lv_goto (tgt := 111) hx hb dX3_play_85 (by decide) ?_
        exact hJ111 _ _ _ _ hP hD hS hT hfr hf118 (lv_sub hl [3, 4, 5, 2, 1] rfl)
    ·
      have cc119 : (6 : Int32).toInt ≤ r5.toInt := i32_nlt c15
      exact In.empty (lo := 6) (hi := 5) (In.ge1 hb13 (⟨by decide, by decide⟩ : In 6 6 6) cc119 (by omega) (by omega)) (by decide)
