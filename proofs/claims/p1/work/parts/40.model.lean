set_option maxHeartbeats 4000000 in
set_option maxRecDepth 100000 in
theorem k_X11_thrown (l : Launch) (g : GG) (L : List Nat) (f : HP) (sz : Nat) (mo ar1 ar7 ar10 ar11 ar24 ar26 ar27 ar28 ar29 ar30 ar31 ar32 ar33 ar34 ar35 ar41 ar42 ar43 ar44 ar49 ar52 ar54 : Nat) (z0 : Int32) (hm_mo : mo ∈ L) (hf_mo : f mo = .inr (10, [.int z0, .ref ar1, .int 0, .int 0, .int 0, .int 0, .int 0, .ref ar7, .int 0, .int 0, .ref ar10, .ref ar11, .int 0, .int 0, .int 0, .int 0, .int 0, .int 0, .int 0, .int 0, .int 0, .long 0, .long 0, .int 0, .ref ar24, .int 0, .ref ar26, .ref ar27, .ref ar28, .ref ar29, .ref ar30, .ref ar31, .ref ar32, .ref ar33, .ref ar34, .ref ar35, .int 0, .int 0, .int 0, .int 0, .int 0, .ref ar41, .ref ar42, .ref ar43, .ref ar44, .long 0, .long 0, .int 0, .int 0, .ref ar49, .int 0, .int 0, .ref ar52, .int 0, .ref ar54, .int 0])) : MtI l g yX11_thrown cX11_thrown 1 (some .int) ({ frames := 0, cells := 0, slots := 0, locals := 0 }) [.ref mo] L f sz (fun r u => r = z0 ∧ (∀ b, b ∈ L → u.2 b = f b) ∧ (∀ b, b ∈ L → b ∈ u.1)) := by
  refine MtI.of (by decide +kernel) (Nat.le_of_ble_eq_true rfl) ?_
  intro p e s m below meth c A hEn hP hD hS ls hl
  obtain ⟨hx, hb, hr, hml, hown, hlocks, hts, hG, hA, hE, hnm⟩ := hEn
  have hown : s.vm.findClass "RulerWordModel" = some m.cls := hown
  have hl : lv_has ls 1 [(0, .ref mo)] := hl
  have hfr0 : ∀ b, b ∈ L → f b = f b := fun b hb  => rfl
  have hsb0 : ∀ b, b ∈ L → b ∈ L := fun b hb => hb
  refine lv_aload_n hx hb dX11_thrown_0 rfl (lv_at hl 0 rfl) ?_
  refine pl_get (v := .int z0) hx hb hts (fun w h => mT (inX11 w h)) hown hG.1 hP hm_mo hf_mo rfl 0 (by decide) (hts _ (mT wg_1336)) (fun _ h => h) rfl dX11_thrown_1 ?_
  exact ret_i (ty := .int) hx hb hr hlocks (rfl) hP hD hS (Nat.le_of_ble_eq_true rfl) (Nat.le_of_ble_eq_true rfl) (⟨rfl, hfr0, hsb0⟩) dX11_thrown_4

set_option maxHeartbeats 4000000 in
set_option maxRecDepth 100000 in
theorem k_X11_line (l : Launch) (g : GG) (L : List Nat) (f : HP) (sz : Nat) (mo ar1 ar7 ar10 ar11 ar24 ar26 ar27 ar28 ar29 ar30 ar31 ar32 ar33 ar34 ar35 ar41 ar42 ar43 ar44 ar49 ar52 ar54 : Nat) (i : Int32) (w : Int32) (hm_mo : mo ∈ L) (hf_mo : f mo = .inr (10, [.int 0, .ref ar1, .int 0, .int 0, .int 0, .int 0, .int 0, .ref ar7, .int 0, .int 0, .ref ar10, .ref ar11, .int 0, .int 0, .int 0, .int 0, .int 0, .int 0, .int 0, .int 0, .int 0, .long 0, .long 0, .int 0, .ref ar24, .int 0, .ref ar26, .ref ar27, .ref ar28, .ref ar29, .ref ar30, .ref ar31, .ref ar32, .ref ar33, .ref ar34, .ref ar35, .int 0, .int 0, .int 0, .int 0, .int 0, .ref ar41, .ref ar42, .ref ar43, .ref ar44, .long 0, .long 0, .int 0, .int 0, .ref ar49, .int 0, .int 0, .ref ar52, .int 0, .ref ar54, .int 0])) : MtI l g yX11_line cX11_line 3 (some .int) ({ frames := 1, cells := 0, slots := 0, locals := 25 }) [.ref mo, .int i, .int w] L f sz (fun r u => u.2 mo = .inr (10, [.int 1, .ref ar1, .int 0, .int 0, .int 0, .int 0, .int 0, .ref ar7, .int 0, .int 0, .ref ar10, .ref ar11, .int 0, .int 0, .int 0, .int 0, .int 0, .int 0, .int 0, .int 0, .int 0, .long 0, .long 0, .int 0, .ref ar24, .int 0, .ref ar26, .ref ar27, .ref ar28, .ref ar29, .ref ar30, .ref ar31, .ref ar32, .ref ar33, .ref ar34, .ref ar35, .int 0, .int 0, .int 0, .int 0, .int 0, .ref ar41, .ref ar42, .ref ar43, .ref ar44, .long 0, .long 0, .int 0, .int 0, .ref ar49, .int 0, .int 0, .ref ar52, .int 0, .ref ar54, .int 0]) ∧ r = 0 ∧ (∀ b, b ∈ L → b ≠ mo → u.2 b = f b) ∧ (∀ b, b ∈ L → b ∈ u.1)) := by
  refine MtI.of (by decide +kernel) (Nat.le_of_ble_eq_true rfl) ?_
  intro p e s m below meth c A hEn hP hD hS ls hl
  obtain ⟨hx, hb, hr, hml, hown, hlocks, hts, hG, hA, hE, hnm⟩ := hEn
  have hown : s.vm.findClass "RulerWordModel" = some m.cls := hown
  have hl : lv_has ls 3 [(0, .ref mo), (1, .int i), (2, .int w)] := hl
  have hfr0 : ∀ b, b ∈ L → b ≠ mo → f b = f b := fun b hb z0 => rfl
  have hsb0 : ∀ b, b ∈ L → b ∈ L := fun b hb => hb
  refine lv_aload_n hx hb dX11_line_0 rfl (lv_at hl 0 rfl) ?_
  refine lv_iload_n hx hb dX11_line_1 rfl (lv_at hl 1 rfl) ?_
  refine lv_i2l hx hb dX11_line_2 rfl ?_
  refine lv_lconst (v := 0) hx hb dX11_line_3 (by decide) ?_
  refine lv_aload_n hx hb dX11_line_4 rfl (lv_at hl 0 rfl) ?_
  refine pl_get (v := .int 0) hx hb hts (fun w h => mT (inX11 w h)) hown hG.1 hP hm_mo hf_mo rfl 12 (by decide) (hts _ (mT wg_1348)) (fun _ h => h) rfl dX11_line_5 ?_
  refine lv_iconst (v := 1) hx hb dX11_line_8 (by decide) ?_
  refine lv_isub hx hb dX11_line_9 ?_
  refine lv_topi (fun x2 ex2 => ?_)
  obtain rfl : x2 = (-1) := ex2.trans (by decide)
  refine lv_i2l (v := (-1)) hx hb dX11_line_10 (by decide) ?_
  refine call_i (run_S (rm := { frames := 0, cells := 0, slots := 0, locals := 0 }) hx hb hml hown hts (k_X11_isIn l g _ _ _ ((i).toInt64) 0 (-1)) cS_X11_isIn wg_1585 ⟨Nat.le_of_ble_eq_true rfl, Nat.le_of_ble_eq_true rfl⟩ hG hE hA hP hD hS rfl hl.1 (As := [.long (i).toInt64, .long 0, .long (-1)]) (rest := [.ref mo]) rfl (Nat.le_of_ble_eq_true rfl) dX11_line_11 ⟨Nat.le_of_ble_eq_true rfl, Nat.le_of_ble_eq_true rfl⟩) hA hD hS (fun r3 L4 f5 H locs hp6 hP hD hS => ?_)
  obtain ⟨er7, fr8, sb9⟩ := hp6
  have hfr10 : ∀ b, b ∈ L → b ≠ mo → f5 b = f b := fun b hb z0 => (fr8 b (hsb0 b hb) ).trans (hfr0 b hb z0)
  have hsb11 : ∀ b, b ∈ L → b ∈ L4 := fun b hb => sb9 b (hsb0 b hb)
  have hf13 := (fr8 mo hm_mo ).trans hf_mo
  have hm12 := sb9 _ hm_mo
  refine lv_if_eq (tgt := 33) hx hb dX11_line_14 (by decide) (fun c14 => ?_) (fun c14 => absurd (er7.trans (isIn_neg _)) c14)
  refine lv_iconst (v := 1) hx hb dX11_line_33 (by decide) ?_
  refine pl_put (ty := .int) (v := .int 1) (fs' := [.int 1, .ref ar1, .int 0, .int 0, .int 0, .int 0, .int 0, .ref ar7, .int 0, .int 0, .ref ar10, .ref ar11, .int 0, .int 0, .int 0, .int 0, .int 0, .int 0, .int 0, .int 0, .int 0, .long 0, .long 0, .int 0, .ref ar24, .int 0, .ref ar26, .ref ar27, .ref ar28, .ref ar29, .ref ar30, .ref ar31, .ref ar32, .ref ar33, .ref ar34, .ref ar35, .int 0, .int 0, .int 0, .int 0, .int 0, .ref ar41, .ref ar42, .ref ar43, .ref ar44, .long 0, .long 0, .int 0, .int 0, .ref ar49, .int 0, .int 0, .ref ar52, .int 0, .ref ar54, .int 0]) hx hb hts (fun w h => mT (inX11 w h)) tyX11 tyX11_ok nmX11 hown hG.1 hP hD hS hm12 hf13 rfl 0 (by decide) (hts _ (mT wg_1336)) (fun _ h => h) rfl (by decide +kernel) (rfl) (rfl) (Nat.le_of_ble_eq_true rfl) rfl dX11_line_34 (fun H locs f15 hf17 ho16 hP hD hS => ?_)
  have hfr18 : ∀ b, b ∈ L → b ≠ mo → f15 b = f b := fun b hb z0 => (ho16 b z0).trans (hfr10 b hb z0)
  refine lv_aload_n hx hb dX11_line_37 rfl (lv_at hl 0 rfl) ?_
  refine pl_get (v := .int 1) hx hb hts (fun w h => mT (inX11 w h)) hown hG.1 hP hm12 hf17 rfl 0 (by decide) (hts _ (mT wg_1336)) (fun _ h => h) rfl dX11_line_38 ?_
  refine lv_if_le (tgt := 48) hx hb dX11_line_41 (by decide) (fun c19 => absurd c19 (by decide)) (fun c19 => ?_)
  refine lv_iconst (v := 0) hx hb dX11_line_44 (by decide) ?_
  refine lv_goto (tgt := 58) hx hb dX11_line_45 (by decide) ?_
  exact ret_i (ty := .int) hx hb hr hlocks (rfl) hP hD hS (Nat.le_of_ble_eq_true rfl) (Nat.le_of_ble_eq_true rfl) (⟨hf17, rfl, hfr18, hsb11⟩) dX11_line_58

set_option maxHeartbeats 4000000 in
set_option maxRecDepth 100000 in
theorem k_X11_shown (l : Launch) (g : GG) (L : List Nat) (f : HP) (sz : Nat) (mo ar1 ar7 ar10 ar11 ar24 ar26 ar27 ar28 ar29 ar30 ar31 ar32 ar33 ar34 ar35 ar41 ar42 ar43 ar44 ar49 ar52 ar54 : Nat) (p0 : Int32) (k : Int32) (hm_mo : mo ∈ L) (hf_mo : f mo = .inr (10, [.int 0, .ref ar1, .int 0, .int 0, .int 0, .int 0, .int 0, .ref ar7, .int 0, .int 0, .ref ar10, .ref ar11, .int 0, .int 0, .int 0, .int 0, .int 0, .int 0, .int 0, .int 0, .int 0, .long 0, .long 0, .int 0, .ref ar24, .int 0, .ref ar26, .ref ar27, .ref ar28, .ref ar29, .ref ar30, .ref ar31, .ref ar32, .ref ar33, .ref ar34, .ref ar35, .int 0, .int 0, .int 0, .int 0, .int 0, .ref ar41, .ref ar42, .ref ar43, .ref ar44, .long 0, .long 0, .int 0, .int 0, .ref ar49, .int 0, .int 0, .ref ar52, .int 0, .ref ar54, .int 0])) : MtI l g yX11_shown cX11_shown 6 (some .int) ({ frames := 1, cells := 0, slots := 0, locals := 25 }) [.ref mo, .int p0, .int k] L f sz (fun r _ => r = (-1)) := by
  refine MtI.of (by decide +kernel) (Nat.le_of_ble_eq_true rfl) ?_
  intro p e s m below meth c A hEn hP hD hS ls hl
  obtain ⟨hx, hb, hr, hml, hown, hlocks, hts, hG, hA, hE, hnm⟩ := hEn
  have hown : s.vm.findClass "RulerWordModel" = some m.cls := hown
  have hl : lv_has ls 6 [(0, .ref mo), (1, .int p0), (2, .int k)] := hl
  refine lv_aload_n hx hb dX11_shown_0 rfl (lv_at hl 0 rfl) ?_
  refine lv_iconst (v := 0) hx hb dX11_shown_1 (by decide) ?_
  refine pl_put (ty := .int) (v := .int 0) (fs' := [.int 0, .ref ar1, .int 0, .int 0, .int 0, .int 0, .int 0, .ref ar7, .int 0, .int 0, .ref ar10, .ref ar11, .int 0, .int 0, .int 0, .int 0, .int 0, .int 0, .int 0, .int 0, .int 0, .long 0, .long 0, .int 0, .ref ar24, .int 0, .ref ar26, .ref ar27, .ref ar28, .ref ar29, .ref ar30, .ref ar31, .ref ar32, .ref ar33, .ref ar34, .ref ar35, .int 0, .int 0, .int 0, .int 0, .int 0, .ref ar41, .ref ar42, .ref ar43, .ref ar44, .long 0, .long 0, .int 0, .int 0, .ref ar49, .int 0, .int 0, .ref ar52, .int 0, .ref ar54, .int 0]) hx hb hts (fun w h => mT (inX11 w h)) tyX11 tyX11_ok nmX11 hown hG.1 hP hD hS hm_mo hf_mo rfl 0 (by decide) (hts _ (mT wg_1336)) (fun _ h => h) rfl (by decide +kernel) (rfl) (rfl) (Nat.le_of_ble_eq_true rfl) rfl dX11_shown_2 (fun H locs f1 hf3 ho2 hP hD hS => ?_)
  refine lv_iload_n hx hb dX11_shown_5 rfl (lv_at hl 1 rfl) ?_
  refine lv_i2l hx hb dX11_shown_6 rfl ?_
  refine lv_lconst (v := 0) hx hb dX11_shown_7 (by decide) ?_
  refine lv_aload_n hx hb dX11_shown_8 rfl (lv_at hl 0 rfl) ?_
  refine call_i (run_V (rm := { frames := 0, cells := 0, slots := 0, locals := 0 }) hx hb hml hown hts (k_X11_over l g _ _ _ mo ar1 ar7 ar10 ar11 ar24 ar26 ar27 ar28 ar29 ar30 ar31 ar32 ar33 ar34 ar35 ar41 ar42 ar43 ar44 ar49 ar52 ar54 hm_mo hf3) cV_X11_over wg_1773 ⟨Nat.le_of_ble_eq_true rfl, Nat.le_of_ble_eq_true rfl⟩ hG hE hA hP hD hS hm_mo hf3 rfl rfl hl.1 (As := []) (rest := [.long 0, .long (p0).toInt64]) rfl (Nat.le_of_ble_eq_true rfl) dX11_shown_9 ⟨Nat.le_of_ble_eq_true rfl, Nat.le_of_ble_eq_true rfl⟩) hA hD hS (fun r5 L6 f7 H locs hp8 hP hD hS => ?_)
  obtain ⟨er9, fr10, sb11⟩ := hp8
  have hf13 := (fr10 mo hm_mo ).trans hf3
  have hm12 := sb11 _ hm_mo
  subst er9
  refine lv_iconst (v := 1) hx hb dX11_shown_12 (by decide) ?_
  refine lv_isub hx hb dX11_shown_13 ?_
  refine lv_topi (fun x14 ex14 => ?_)
  obtain rfl : x14 = (-1) := ex14.trans (by decide)
  refine lv_i2l (v := (-1)) hx hb dX11_shown_14 (by decide) ?_
  refine call_i (run_S (rm := { frames := 0, cells := 0, slots := 0, locals := 0 }) hx hb hml hown hts (k_X11_isIn l g _ _ _ ((p0).toInt64) 0 (-1)) cS_X11_isIn wg_1585 ⟨Nat.le_of_ble_eq_true rfl, Nat.le_of_ble_eq_true rfl⟩ hG hE hA hP hD hS rfl hl.1 (As := [.long (p0).toInt64, .long 0, .long (-1)]) (rest := []) rfl (Nat.le_of_ble_eq_true rfl) dX11_shown_15 ⟨Nat.le_of_ble_eq_true rfl, Nat.le_of_ble_eq_true rfl⟩) hA hD hS (fun r15 L16 f17 H locs hp18 hP hD hS => ?_)
  obtain ⟨er19, fr20, sb21⟩ := hp18
  have hf23 := (fr20 mo hm12 ).trans hf13
  have hm22 := sb21 _ hm12
  refine lv_if_ne (tgt := 23) hx hb dX11_shown_18 (by decide) (fun c24 => absurd (er19.trans (isIn_neg _)) c24) (fun c24 => ?_)
  refine lv_iconst (v := (-1)) hx hb dX11_shown_21 (by decide) ?_
  exact ret_i (ty := .int) hx hb hr hlocks (rfl) hP hD hS (Nat.le_of_ble_eq_true rfl) (Nat.le_of_ble_eq_true rfl) (rfl) dX11_shown_22

set_option maxHeartbeats 4000000 in
set_option maxRecDepth 100000 in
theorem k_X11_greatest (l : Launch) (g : GG) (L : List Nat) (f : HP) (sz : Nat) (mo ar1 ar7 ar10 ar11 ar24 ar26 ar27 ar28 ar29 ar30 ar31 ar32 ar33 ar34 ar35 ar41 ar42 ar43 ar44 ar49 ar52 ar54 : Nat) (form : Int32) (n : Int32) (hm_mo : mo ∈ L) (hf_mo : f mo = .inr (10, [.int 0, .ref ar1, .int 0, .int 0, .int 0, .int 0, .int 0, .ref ar7, .int 0, .int 0, .ref ar10, .ref ar11, .int 0, .int 0, .int 0, .int 0, .int 0, .int 0, .int 0, .int 0, .int 0, .long 0, .long 0, .int 0, .ref ar24, .int 0, .ref ar26, .ref ar27, .ref ar28, .ref ar29, .ref ar30, .ref ar31, .ref ar32, .ref ar33, .ref ar34, .ref ar35, .int 0, .int 0, .int 0, .int 0, .int 0, .ref ar41, .ref ar42, .ref ar43, .ref ar44, .long 0, .long 0, .int 0, .int 0, .ref ar49, .int 0, .int 0, .ref ar52, .int 0, .ref ar54, .int 0])) : MtI l g yX11_greatest cX11_greatest 3 (some .int) ({ frames := 1, cells := 0, slots := 0, locals := 25 }) [.ref mo, .int form, .int n] L f sz (fun r _ => r = grM form n) := by
  refine MtI.of (by decide +kernel) (Nat.le_of_ble_eq_true rfl) ?_
  intro p e s m below meth c A hEn hP hD hS ls hl
  obtain ⟨hx, hb, hr, hml, hown, hlocks, hts, hG, hA, hE, hnm⟩ := hEn
  have hown : s.vm.findClass "RulerWordModel" = some m.cls := hown
  have hl : lv_has ls 3 [(0, .ref mo), (1, .int form), (2, .int n)] := hl
  refine lv_aload_n hx hb dX11_greatest_0 rfl (lv_at hl 0 rfl) ?_
  refine lv_iconst (v := 0) hx hb dX11_greatest_1 (by decide) ?_
  refine pl_put (ty := .int) (v := .int 0) (fs' := [.int 0, .ref ar1, .int 0, .int 0, .int 0, .int 0, .int 0, .ref ar7, .int 0, .int 0, .ref ar10, .ref ar11, .int 0, .int 0, .int 0, .int 0, .int 0, .int 0, .int 0, .int 0, .int 0, .long 0, .long 0, .int 0, .ref ar24, .int 0, .ref ar26, .ref ar27, .ref ar28, .ref ar29, .ref ar30, .ref ar31, .ref ar32, .ref ar33, .ref ar34, .ref ar35, .int 0, .int 0, .int 0, .int 0, .int 0, .ref ar41, .ref ar42, .ref ar43, .ref ar44, .long 0, .long 0, .int 0, .int 0, .ref ar49, .int 0, .int 0, .ref ar52, .int 0, .ref ar54, .int 0]) hx hb hts (fun w h => mT (inX11 w h)) tyX11 tyX11_ok nmX11 hown hG.1 hP hD hS hm_mo hf_mo rfl 0 (by decide) (hts _ (mT wg_1336)) (fun _ h => h) rfl (by decide +kernel) (rfl) (rfl) (Nat.le_of_ble_eq_true rfl) rfl dX11_greatest_2 (fun H locs f1 hf3 ho2 hP hD hS => ?_)
  refine lv_iload_n hx hb dX11_greatest_5 rfl (lv_at hl 1 rfl) ?_
  refine lv_i2l hx hb dX11_greatest_6 rfl ?_
  refine lv_lconst (v := 0) hx hb dX11_greatest_7 (by decide) ?_
  refine lv_lconst (v := 1) hx hb dX11_greatest_8 (by decide) ?_
  refine call_i (run_S (rm := { frames := 0, cells := 0, slots := 0, locals := 0 }) hx hb hml hown hts (k_X11_isIn l g _ _ _ ((form).toInt64) 0 1) cS_X11_isIn wg_1585 ⟨Nat.le_of_ble_eq_true rfl, Nat.le_of_ble_eq_true rfl⟩ hG hE hA hP hD hS rfl hl.1 (As := [.long (form).toInt64, .long 0, .long 1]) (rest := []) rfl (Nat.le_of_ble_eq_true rfl) dX11_greatest_9 ⟨Nat.le_of_ble_eq_true rfl, Nat.le_of_ble_eq_true rfl⟩) hA hD hS (fun r5 L6 f7 H locs hp8 hP hD hS => ?_)
  obtain ⟨er9, fr10, sb11⟩ := hp8
  have hf13 := (fr10 mo hm_mo ).trans hf3
  have hm12 := sb11 _ hm_mo
  refine lv_if_eq (tgt := 43) hx hb dX11_greatest_12 (by decide) (fun c14 => ?_) (fun c14 => ?_)
  ·
    refine lv_iconst (v := (-1)) hx hb dX11_greatest_43 (by decide) ?_
    exact ret_i (ty := .int) hx hb hr hlocks (rfl) hP hD hS (Nat.le_of_ble_eq_true rfl) (Nat.le_of_ble_eq_true rfl) (by simp only [grM, ← er9]; simp [c14]) dX11_greatest_44
  ·
    refine lv_iload_n hx hb dX11_greatest_15 rfl (lv_at hl 2 rfl) ?_
    refine lv_i2l hx hb dX11_greatest_16 rfl ?_
    refine lv_lconst (v := 1) hx hb dX11_greatest_17 (by decide) ?_
    refine lv_ldc2 hx hb hown (hts _ (mT wg_1822)) dX11_greatest_18 ?_
    refine call_i (run_S (rm := { frames := 0, cells := 0, slots := 0, locals := 0 }) hx hb hml hown hts (k_X11_isIn l g _ _ _ ((n).toInt64) 1 100) cS_X11_isIn wg_1585 ⟨Nat.le_of_ble_eq_true rfl, Nat.le_of_ble_eq_true rfl⟩ hG hE hA hP hD hS rfl hl.1 (As := [.long (n).toInt64, .long 1, .long 100]) (rest := []) rfl (Nat.le_of_ble_eq_true rfl) dX11_greatest_21 ⟨Nat.le_of_ble_eq_true rfl, Nat.le_of_ble_eq_true rfl⟩) hA hD hS (fun r16 L17 f18 H locs hp19 hP hD hS => ?_)
    obtain ⟨er20, fr21, sb22⟩ := hp19
    have hf24 := (fr21 mo hm12 ).trans hf13
    have hm23 := sb22 _ hm12
    refine lv_if_eq (tgt := 43) hx hb dX11_greatest_24 (by decide) (fun c25 => ?_) (fun c25 => ?_)
    ·
      refine lv_iconst (v := (-1)) hx hb dX11_greatest_43 (by decide) ?_
      exact ret_i (ty := .int) hx hb hr hlocks (rfl) hP hD hS (Nat.le_of_ble_eq_true rfl) (Nat.le_of_ble_eq_true rfl) (by simp only [grM, ← er9, ← er20]; simp [c14, c25]) dX11_greatest_44
    ·
      refine lv_iload_n hx hb dX11_greatest_27 rfl (lv_at hl 2 rfl) ?_
      refine lv_iconst (v := 1) hx hb dX11_greatest_28 (by decide) ?_
      refine lv_isub hx hb dX11_greatest_29 ?_
      refine lv_topi (fun x26 ex26 => ?_)
      refine lv_iload_n hx hb dX11_greatest_30 rfl (lv_at hl 1 rfl) ?_
      refine lv_if_ne (tgt := 38) hx hb dX11_greatest_31 (by decide) (fun c27 => ?_) (fun c27 => ?_)
      ·
        refine lv_iconst (v := 4) hx hb dX11_greatest_38 (by decide) ?_
        refine lv_idiv hx hb dX11_greatest_39 (by decide) ?_
        refine lv_topi (fun x28 ex28 => ?_)
        refine lv_goto (tgt := 44) hx hb dX11_greatest_40 (by decide) ?_
        exact ret_i (ty := .int) hx hb hr hlocks (rfl) hP hD hS (Nat.le_of_ble_eq_true rfl) (Nat.le_of_ble_eq_true rfl) (by simp only [grM, ← er9, ← er20]; simp [c14, c25, c27, ex26, ex28]) dX11_greatest_44
      ·
        refine lv_iconst (v := 3) hx hb dX11_greatest_34 (by decide) ?_
        refine lv_goto (tgt := 39) hx hb dX11_greatest_35 (by decide) ?_
        refine lv_idiv hx hb dX11_greatest_39 (by decide) ?_
        refine lv_topi (fun x29 ex29 => ?_)
        refine lv_goto (tgt := 44) hx hb dX11_greatest_40 (by decide) ?_
        exact ret_i (ty := .int) hx hb hr hlocks (rfl) hP hD hS (Nat.le_of_ble_eq_true rfl) (Nat.le_of_ble_eq_true rfl) (by simp only [grM, ← er9, ← er20]; simp [c14, c25, c27, ex26, ex29]) dX11_greatest_44

set_option maxHeartbeats 4000000 in
set_option maxRecDepth 100000 in
theorem k_X11_status (l : Launch) (g : GG) (L : List Nat) (f : HP) (sz : Nat) (mo ar1 ar7 ar10 ar11 ar24 ar26 ar27 ar28 ar29 ar30 ar31 ar32 ar33 ar34 ar35 ar41 ar42 ar43 ar44 ar49 ar52 ar54 : Nat) (w : Int32) (hm_mo : mo ∈ L) (hf_mo : f mo = .inr (10, [.int 0, .ref ar1, .int 0, .int 0, .int 0, .int 0, .int 0, .ref ar7, .int 0, .int 0, .ref ar10, .ref ar11, .int 0, .int 0, .int 0, .int 0, .int 0, .int 0, .int 0, .int 0, .int 0, .long 0, .long 0, .int 0, .ref ar24, .int 0, .ref ar26, .ref ar27, .ref ar28, .ref ar29, .ref ar30, .ref ar31, .ref ar32, .ref ar33, .ref ar34, .ref ar35, .int 0, .int 0, .int 0, .int 0, .int 0, .ref ar41, .ref ar42, .ref ar43, .ref ar44, .long 0, .long 0, .int 0, .int 0, .ref ar49, .int 0, .int 0, .ref ar52, .int 0, .ref ar54, .int 0])) (hm_ar49 : ar49 ∈ L) (hf_ar49 : f ar49 = .inl (g.2.1 0, 5, .inl (fun _ => 0))) : MtI l g yX11_status cX11_status 2 (some .int) ({ frames := 1, cells := 0, slots := 0, locals := 25 }) [.ref mo, .int w] L f sz (fun r _ => r = statM w) := by
  refine MtI.of (by decide +kernel) (Nat.le_of_ble_eq_true rfl) ?_
  intro p e s m below meth c A hEn hP hD hS ls hl
  obtain ⟨hx, hb, hr, hml, hown, hlocks, hts, hG, hA, hE, hnm⟩ := hEn
  have hown : s.vm.findClass "RulerWordModel" = some m.cls := hown
  have hl : lv_has ls 2 [(0, .ref mo), (1, .int w)] := hl
  refine lv_aload_n hx hb dX11_status_0 rfl (lv_at hl 0 rfl) ?_
  refine lv_iconst (v := 0) hx hb dX11_status_1 (by decide) ?_
  refine pl_put (ty := .int) (v := .int 0) (fs' := [.int 0, .ref ar1, .int 0, .int 0, .int 0, .int 0, .int 0, .ref ar7, .int 0, .int 0, .ref ar10, .ref ar11, .int 0, .int 0, .int 0, .int 0, .int 0, .int 0, .int 0, .int 0, .int 0, .long 0, .long 0, .int 0, .ref ar24, .int 0, .ref ar26, .ref ar27, .ref ar28, .ref ar29, .ref ar30, .ref ar31, .ref ar32, .ref ar33, .ref ar34, .ref ar35, .int 0, .int 0, .int 0, .int 0, .int 0, .ref ar41, .ref ar42, .ref ar43, .ref ar44, .long 0, .long 0, .int 0, .int 0, .ref ar49, .int 0, .int 0, .ref ar52, .int 0, .ref ar54, .int 0]) hx hb hts (fun w h => mT (inX11 w h)) tyX11 tyX11_ok nmX11 hown hG.1 hP hD hS hm_mo hf_mo rfl 0 (by decide) (hts _ (mT wg_1336)) (fun _ h => h) rfl (by decide +kernel) (rfl) (rfl) (Nat.le_of_ble_eq_true rfl) rfl dX11_status_2 (fun H locs f1 hf3 ho2 hP hD hS => ?_)
  have hf4 := (ho2 ar49 (kno hf_mo hf_ar49).symm).trans hf_ar49
  refine lv_iload_n hx hb dX11_status_5 rfl (lv_at hl 1 rfl) ?_
  refine lv_i2l hx hb dX11_status_6 rfl ?_
  refine lv_lconst (v := 0) hx hb dX11_status_7 (by decide) ?_
  refine lv_ldc2 hx hb hown (hts _ (mT wg_1751)) dX11_status_8 ?_
  refine call_i (run_S (rm := { frames := 0, cells := 0, slots := 0, locals := 0 }) hx hb hml hown hts (k_X11_isIn l g _ _ _ ((w).toInt64) 0 4) cS_X11_isIn wg_1585 ⟨Nat.le_of_ble_eq_true rfl, Nat.le_of_ble_eq_true rfl⟩ hG hE hA hP hD hS rfl hl.1 (As := [.long (w).toInt64, .long 0, .long 4]) (rest := []) rfl (Nat.le_of_ble_eq_true rfl) dX11_status_11 ⟨Nat.le_of_ble_eq_true rfl, Nat.le_of_ble_eq_true rfl⟩) hA hD hS (fun r6 L7 f8 H locs hp9 hP hD hS => ?_)
  obtain ⟨er10, fr11, sb12⟩ := hp9
  have hf14 := (fr11 mo hm_mo ).trans hf3
  have hm13 := sb12 _ hm_mo
  have hf16 := (fr11 ar49 hm_ar49 ).trans hf4
  have hm15 := sb12 _ hm_ar49
  refine lv_if_eq (tgt := 26) hx hb dX11_status_14 (by decide) (fun c17 => ?_) (fun c17 => ?_)
  ·
    refine lv_iconst (v := (-1)) hx hb dX11_status_26 (by decide) ?_
    exact ret_i (ty := .int) hx hb hr hlocks (rfl) hP hD hS (Nat.le_of_ble_eq_true rfl) (Nat.le_of_ble_eq_true rfl) (by simp only [statM, ← er10]; simp [c17]) dX11_status_27
  ·
    refine lv_aload_n hx hb dX11_status_17 rfl (lv_at hl 0 rfl) ?_
    refine pl_get (v := .ref ar49) hx hb hts (fun w h => mT (inX11 w h)) hown hG.1 hP hm13 hf14 rfl 49 (by decide) (hts _ (mT wg_1385)) (fun _ h => h) rfl dX11_status_18 ?_
    refine lv_iload_n hx hb dX11_status_21 rfl (lv_at hl 1 rfl) ?_
    refine pl_iald hx hb hG.1 hP hm15 0 hf16 rfl (isIn_in (er10 ▸ c17)) dX11_status_22 ?_
    refine lv_topi (fun x18 ex18 => ?_)
    obtain rfl : x18 = 0 := ex18.trans (rfl)
    refine lv_goto (tgt := 27) hx hb dX11_status_23 (by decide) ?_
    exact ret_i (ty := .int) hx hb hr hlocks (rfl) hP hD hS (Nat.le_of_ble_eq_true rfl) (Nat.le_of_ble_eq_true rfl) (by simp only [statM, ← er10]; simp [c17]) dX11_status_27

set_option maxHeartbeats 4000000 in
set_option maxRecDepth 100000 in
theorem k_X11_bytesOf (l : Launch) (g : GG) (L : List Nat) (f : HP) (sz : Nat)  (v : Int32)  : MtI l g yX11_bytesOf cX11_bytesOf 3 (some .int) ({ frames := 0, cells := 0, slots := 0, locals := 0 }) [.int v] L f sz (fun r u => Bd r 4 ∧ (∀ b, b ∈ L → u.2 b = f b) ∧ (∀ b, b ∈ L → b ∈ u.1)) := by
  refine MtI.of (by decide +kernel) (Nat.le_of_ble_eq_true rfl) ?_
  intro p e s m below meth c A hEn hP hD hS ls hl
  obtain ⟨hx, hb, hr, hml, hown, hlocks, hts, hG, hA, hE, hnm⟩ := hEn
  have hown : s.vm.findClass "RulerWordModel" = some m.cls := hown
  have hl : lv_has ls 3 [(0, .int v)] := hl
  have hfr0 : ∀ b, b ∈ L → f b = f b := fun b hb  => rfl
  have hsb0 : ∀ b, b ∈ L → b ∈ L := fun b hb => hb
  refine lv_iconst (v := 0) hx hb dX11_bytesOf_0 (by decide) ?_
  refine lv_istore_n (lv' := [(1, .int 0), (0, .int v)]) hx hb dX11_bytesOf_1 rfl hl (by decide) rfl (fun ls hl => ?_)
  refine lv_iconst (v := 0) hx hb dX11_bytesOf_2 (by decide) ?_
  refine lv_istore_n (lv' := [(2, .int 0), (1, .int 0), (0, .int v)]) hx hb dX11_bytesOf_3 rfl hl (by decide) rfl (fun ls hl => ?_)
  refine lv_iload_n hx hb dX11_bytesOf_4 rfl (lv_at hl 0 rfl) ?_
  refine lv_iconst (v := 4) hx hb dX11_bytesOf_5 (by decide) ?_
  refine lv_icmp_ge (tgt := 36) hx hb dX11_bytesOf_6 (by decide) (fun c1 => absurd c1 (by decide)) (fun c1 => ?_)
  refine lv_iload_n hx hb dX11_bytesOf_9 rfl (lv_at hl 1 rfl) ?_
  refine lv_iload_n hx hb dX11_bytesOf_10 rfl (lv_at hl 2 rfl) ?_
  refine lv_bipush (v := 8) hx hb dX11_bytesOf_11 (by decide) ?_
  refine lv_iload_n hx hb dX11_bytesOf_13 rfl (lv_at hl 0 rfl) ?_
  refine lv_imul hx hb dX11_bytesOf_14 ?_
  refine lv_topi (fun x2 ex2 => ?_)
  obtain rfl : x2 = 0 := ex2.trans (by decide)
  refine lv_ishr hx hb dX11_bytesOf_15 ?_
  refine lv_topi (fun x3 ex3 => ?_)
  refine lv_sipush (v := 255) hx hb dX11_bytesOf_16 (by decide) ?_
  refine lv_iand hx hb dX11_bytesOf_19 ?_
  refine lv_topi (fun x4 ex4 => ?_)
  refine lv_if_ne (tgt := 27) hx hb dX11_bytesOf_20 (by decide) (fun c5 => ?_) (fun c5 => ?_)
  ·
    refine lv_iconst (v := 1) hx hb dX11_bytesOf_27 (by decide) ?_
    refine lv_iadd hx hb dX11_bytesOf_28 ?_
    refine lv_topi (fun x6 ex6 => ?_)
    obtain rfl : x6 = 1 := ex6.trans (by decide)
    refine lv_istore_n (lv' := [(1, .int 1), (2, .int 0), (0, .int v)]) hx hb dX11_bytesOf_29 rfl hl (by decide) rfl (fun ls hl => ?_)
    refine lv_iinc (v := 1) (lv' := [(2, .int 1), (1, .int 1), (0, .int v)]) hx hb dX11_bytesOf_30 hl (k := 1) rfl (by decide) (by decide) rfl (fun ls hl => ?_)
    refine lv_goto (tgt := 4) hx hb dX11_bytesOf_33 (by decide) ?_
    refine lv_iload_n hx hb dX11_bytesOf_4 rfl (lv_at hl 0 rfl) ?_
    refine lv_iconst (v := 4) hx hb dX11_bytesOf_5 (by decide) ?_
    refine lv_icmp_ge (tgt := 36) hx hb dX11_bytesOf_6 (by decide) (fun c7 => absurd c7 (by decide)) (fun c7 => ?_)
    refine lv_iload_n hx hb dX11_bytesOf_9 rfl (lv_at hl 1 rfl) ?_
    refine lv_iload_n hx hb dX11_bytesOf_10 rfl (lv_at hl 2 rfl) ?_
    refine lv_bipush (v := 8) hx hb dX11_bytesOf_11 (by decide) ?_
    refine lv_iload_n hx hb dX11_bytesOf_13 rfl (lv_at hl 0 rfl) ?_
    refine lv_imul hx hb dX11_bytesOf_14 ?_
    refine lv_topi (fun x8 ex8 => ?_)
    obtain rfl : x8 = 8 := ex8.trans (by decide)
    refine lv_ishr hx hb dX11_bytesOf_15 ?_
    refine lv_topi (fun x9 ex9 => ?_)
    refine lv_sipush (v := 255) hx hb dX11_bytesOf_16 (by decide) ?_
    refine lv_iand hx hb dX11_bytesOf_19 ?_
    refine lv_topi (fun x10 ex10 => ?_)
    refine lv_if_ne (tgt := 27) hx hb dX11_bytesOf_20 (by decide) (fun c11 => ?_) (fun c11 => ?_)
    ·
      refine lv_iconst (v := 1) hx hb dX11_bytesOf_27 (by decide) ?_
      refine lv_iadd hx hb dX11_bytesOf_28 ?_
      refine lv_topi (fun x12 ex12 => ?_)
      obtain rfl : x12 = 2 := ex12.trans (by decide)
      refine lv_istore_n (lv' := [(1, .int 2), (2, .int 1), (0, .int v)]) hx hb dX11_bytesOf_29 rfl hl (by decide) rfl (fun ls hl => ?_)
      refine lv_iinc (v := 2) (lv' := [(2, .int 2), (1, .int 2), (0, .int v)]) hx hb dX11_bytesOf_30 hl (k := 1) rfl (by decide) (by decide) rfl (fun ls hl => ?_)
      refine lv_goto (tgt := 4) hx hb dX11_bytesOf_33 (by decide) ?_
      refine lv_iload_n hx hb dX11_bytesOf_4 rfl (lv_at hl 0 rfl) ?_
      refine lv_iconst (v := 4) hx hb dX11_bytesOf_5 (by decide) ?_
      refine lv_icmp_ge (tgt := 36) hx hb dX11_bytesOf_6 (by decide) (fun c13 => absurd c13 (by decide)) (fun c13 => ?_)
      refine lv_iload_n hx hb dX11_bytesOf_9 rfl (lv_at hl 1 rfl) ?_
      refine lv_iload_n hx hb dX11_bytesOf_10 rfl (lv_at hl 2 rfl) ?_
      refine lv_bipush (v := 8) hx hb dX11_bytesOf_11 (by decide) ?_
      refine lv_iload_n hx hb dX11_bytesOf_13 rfl (lv_at hl 0 rfl) ?_
      refine lv_imul hx hb dX11_bytesOf_14 ?_
      refine lv_topi (fun x14 ex14 => ?_)
      obtain rfl : x14 = 16 := ex14.trans (by decide)
      refine lv_ishr hx hb dX11_bytesOf_15 ?_
      refine lv_topi (fun x15 ex15 => ?_)
      refine lv_sipush (v := 255) hx hb dX11_bytesOf_16 (by decide) ?_
      refine lv_iand hx hb dX11_bytesOf_19 ?_
      refine lv_topi (fun x16 ex16 => ?_)
      refine lv_if_ne (tgt := 27) hx hb dX11_bytesOf_20 (by decide) (fun c17 => ?_) (fun c17 => ?_)
      ·
        refine lv_iconst (v := 1) hx hb dX11_bytesOf_27 (by decide) ?_
        refine lv_iadd hx hb dX11_bytesOf_28 ?_
        refine lv_topi (fun x18 ex18 => ?_)
        obtain rfl : x18 = 3 := ex18.trans (by decide)
        refine lv_istore_n (lv' := [(1, .int 3), (2, .int 2), (0, .int v)]) hx hb dX11_bytesOf_29 rfl hl (by decide) rfl (fun ls hl => ?_)
        refine lv_iinc (v := 3) (lv' := [(2, .int 3), (1, .int 3), (0, .int v)]) hx hb dX11_bytesOf_30 hl (k := 1) rfl (by decide) (by decide) rfl (fun ls hl => ?_)
        refine lv_goto (tgt := 4) hx hb dX11_bytesOf_33 (by decide) ?_
        refine lv_iload_n hx hb dX11_bytesOf_4 rfl (lv_at hl 0 rfl) ?_
        refine lv_iconst (v := 4) hx hb dX11_bytesOf_5 (by decide) ?_
        refine lv_icmp_ge (tgt := 36) hx hb dX11_bytesOf_6 (by decide) (fun c19 => absurd c19 (by decide)) (fun c19 => ?_)
        refine lv_iload_n hx hb dX11_bytesOf_9 rfl (lv_at hl 1 rfl) ?_
        refine lv_iload_n hx hb dX11_bytesOf_10 rfl (lv_at hl 2 rfl) ?_
        refine lv_bipush (v := 8) hx hb dX11_bytesOf_11 (by decide) ?_
        refine lv_iload_n hx hb dX11_bytesOf_13 rfl (lv_at hl 0 rfl) ?_
        refine lv_imul hx hb dX11_bytesOf_14 ?_
        refine lv_topi (fun x20 ex20 => ?_)
        obtain rfl : x20 = 24 := ex20.trans (by decide)
        refine lv_ishr hx hb dX11_bytesOf_15 ?_
        refine lv_topi (fun x21 ex21 => ?_)
        refine lv_sipush (v := 255) hx hb dX11_bytesOf_16 (by decide) ?_
        refine lv_iand hx hb dX11_bytesOf_19 ?_
        refine lv_topi (fun x22 ex22 => ?_)
        refine lv_if_ne (tgt := 27) hx hb dX11_bytesOf_20 (by decide) (fun c23 => ?_) (fun c23 => ?_)
        ·
          refine lv_iconst (v := 1) hx hb dX11_bytesOf_27 (by decide) ?_
          refine lv_iadd hx hb dX11_bytesOf_28 ?_
          refine lv_topi (fun x24 ex24 => ?_)
          obtain rfl : x24 = 4 := ex24.trans (by decide)
          refine lv_istore_n (lv' := [(1, .int 4), (2, .int 3), (0, .int v)]) hx hb dX11_bytesOf_29 rfl hl (by decide) rfl (fun ls hl => ?_)
          refine lv_iinc (v := 4) (lv' := [(2, .int 4), (1, .int 4), (0, .int v)]) hx hb dX11_bytesOf_30 hl (k := 1) rfl (by decide) (by decide) rfl (fun ls hl => ?_)
          refine lv_goto (tgt := 4) hx hb dX11_bytesOf_33 (by decide) ?_
          refine lv_iload_n hx hb dX11_bytesOf_4 rfl (lv_at hl 0 rfl) ?_
          refine lv_iconst (v := 4) hx hb dX11_bytesOf_5 (by decide) ?_
          refine lv_icmp_ge (tgt := 36) hx hb dX11_bytesOf_6 (by decide) (fun c25 => ?_) (fun c25 => absurd (by decide) c25)
          refine lv_iload_n hx hb dX11_bytesOf_36 rfl (lv_at hl 1 rfl) ?_
          exact ret_i (ty := .int) hx hb hr hlocks (rfl) hP hD hS (Nat.le_of_ble_eq_true rfl) (Nat.le_of_ble_eq_true rfl) (⟨by unfold Bd; decide, hfr0, hsb0⟩) dX11_bytesOf_37
        ·
          refine lv_iconst (v := 0) hx hb dX11_bytesOf_23 (by decide) ?_
          refine lv_goto (tgt := 28) hx hb dX11_bytesOf_24 (by decide) ?_
          refine lv_iadd hx hb dX11_bytesOf_28 ?_
          refine lv_topi (fun x26 ex26 => ?_)
          obtain rfl : x26 = 3 := ex26.trans (by decide)
          refine lv_istore_n (lv' := [(1, .int 3), (2, .int 3), (0, .int v)]) hx hb dX11_bytesOf_29 rfl hl (by decide) rfl (fun ls hl => ?_)
          refine lv_iinc (v := 4) (lv' := [(2, .int 4), (1, .int 3), (0, .int v)]) hx hb dX11_bytesOf_30 hl (k := 1) rfl (by decide) (by decide) rfl (fun ls hl => ?_)
          refine lv_goto (tgt := 4) hx hb dX11_bytesOf_33 (by decide) ?_
          refine lv_iload_n hx hb dX11_bytesOf_4 rfl (lv_at hl 0 rfl) ?_
          refine lv_iconst (v := 4) hx hb dX11_bytesOf_5 (by decide) ?_
          refine lv_icmp_ge (tgt := 36) hx hb dX11_bytesOf_6 (by decide) (fun c27 => ?_) (fun c27 => absurd (by decide) c27)
          refine lv_iload_n hx hb dX11_bytesOf_36 rfl (lv_at hl 1 rfl) ?_
          exact ret_i (ty := .int) hx hb hr hlocks (rfl) hP hD hS (Nat.le_of_ble_eq_true rfl) (Nat.le_of_ble_eq_true rfl) (⟨by unfold Bd; decide, hfr0, hsb0⟩) dX11_bytesOf_37
      ·
        refine lv_iconst (v := 0) hx hb dX11_bytesOf_23 (by decide) ?_
        refine lv_goto (tgt := 28) hx hb dX11_bytesOf_24 (by decide) ?_
        refine lv_iadd hx hb dX11_bytesOf_28 ?_
        refine lv_topi (fun x28 ex28 => ?_)
        obtain rfl : x28 = 2 := ex28.trans (by decide)
        refine lv_istore_n (lv' := [(1, .int 2), (2, .int 2), (0, .int v)]) hx hb dX11_bytesOf_29 rfl hl (by decide) rfl (fun ls hl => ?_)
        refine lv_iinc (v := 3) (lv' := [(2, .int 3), (1, .int 2), (0, .int v)]) hx hb dX11_bytesOf_30 hl (k := 1) rfl (by decide) (by decide) rfl (fun ls hl => ?_)
        refine lv_goto (tgt := 4) hx hb dX11_bytesOf_33 (by decide) ?_
        refine lv_iload_n hx hb dX11_bytesOf_4 rfl (lv_at hl 0 rfl) ?_
        refine lv_iconst (v := 4) hx hb dX11_bytesOf_5 (by decide) ?_
        refine lv_icmp_ge (tgt := 36) hx hb dX11_bytesOf_6 (by decide) (fun c29 => absurd c29 (by decide)) (fun c29 => ?_)
        refine lv_iload_n hx hb dX11_bytesOf_9 rfl (lv_at hl 1 rfl) ?_
        refine lv_iload_n hx hb dX11_bytesOf_10 rfl (lv_at hl 2 rfl) ?_
        refine lv_bipush (v := 8) hx hb dX11_bytesOf_11 (by decide) ?_
        refine lv_iload_n hx hb dX11_bytesOf_13 rfl (lv_at hl 0 rfl) ?_
        refine lv_imul hx hb dX11_bytesOf_14 ?_
        refine lv_topi (fun x30 ex30 => ?_)
        obtain rfl : x30 = 24 := ex30.trans (by decide)
        refine lv_ishr hx hb dX11_bytesOf_15 ?_
        refine lv_topi (fun x31 ex31 => ?_)
        refine lv_sipush (v := 255) hx hb dX11_bytesOf_16 (by decide) ?_
        refine lv_iand hx hb dX11_bytesOf_19 ?_
        refine lv_topi (fun x32 ex32 => ?_)
        refine lv_if_ne (tgt := 27) hx hb dX11_bytesOf_20 (by decide) (fun c33 => ?_) (fun c33 => ?_)
        ·
          refine lv_iconst (v := 1) hx hb dX11_bytesOf_27 (by decide) ?_
          refine lv_iadd hx hb dX11_bytesOf_28 ?_
          refine lv_topi (fun x34 ex34 => ?_)
          obtain rfl : x34 = 3 := ex34.trans (by decide)
          refine lv_istore_n (lv' := [(1, .int 3), (2, .int 3), (0, .int v)]) hx hb dX11_bytesOf_29 rfl hl (by decide) rfl (fun ls hl => ?_)
          refine lv_iinc (v := 4) (lv' := [(2, .int 4), (1, .int 3), (0, .int v)]) hx hb dX11_bytesOf_30 hl (k := 1) rfl (by decide) (by decide) rfl (fun ls hl => ?_)
          refine lv_goto (tgt := 4) hx hb dX11_bytesOf_33 (by decide) ?_
          refine lv_iload_n hx hb dX11_bytesOf_4 rfl (lv_at hl 0 rfl) ?_
          refine lv_iconst (v := 4) hx hb dX11_bytesOf_5 (by decide) ?_
          refine lv_icmp_ge (tgt := 36) hx hb dX11_bytesOf_6 (by decide) (fun c35 => ?_) (fun c35 => absurd (by decide) c35)
          refine lv_iload_n hx hb dX11_bytesOf_36 rfl (lv_at hl 1 rfl) ?_
          exact ret_i (ty := .int) hx hb hr hlocks (rfl) hP hD hS (Nat.le_of_ble_eq_true rfl) (Nat.le_of_ble_eq_true rfl) (⟨by unfold Bd; decide, hfr0, hsb0⟩) dX11_bytesOf_37
        ·
          refine lv_iconst (v := 0) hx hb dX11_bytesOf_23 (by decide) ?_
          refine lv_goto (tgt := 28) hx hb dX11_bytesOf_24 (by decide) ?_
          refine lv_iadd hx hb dX11_bytesOf_28 ?_
          refine lv_topi (fun x36 ex36 => ?_)
          obtain rfl : x36 = 2 := ex36.trans (by decide)
          refine lv_istore_n (lv' := [(1, .int 2), (2, .int 3), (0, .int v)]) hx hb dX11_bytesOf_29 rfl hl (by decide) rfl (fun ls hl => ?_)
          refine lv_iinc (v := 4) (lv' := [(2, .int 4), (1, .int 2), (0, .int v)]) hx hb dX11_bytesOf_30 hl (k := 1) rfl (by decide) (by decide) rfl (fun ls hl => ?_)
          refine lv_goto (tgt := 4) hx hb dX11_bytesOf_33 (by decide) ?_
          refine lv_iload_n hx hb dX11_bytesOf_4 rfl (lv_at hl 0 rfl) ?_
          refine lv_iconst (v := 4) hx hb dX11_bytesOf_5 (by decide) ?_
          refine lv_icmp_ge (tgt := 36) hx hb dX11_bytesOf_6 (by decide) (fun c37 => ?_) (fun c37 => absurd (by decide) c37)
          refine lv_iload_n hx hb dX11_bytesOf_36 rfl (lv_at hl 1 rfl) ?_
          exact ret_i (ty := .int) hx hb hr hlocks (rfl) hP hD hS (Nat.le_of_ble_eq_true rfl) (Nat.le_of_ble_eq_true rfl) (⟨by unfold Bd; decide, hfr0, hsb0⟩) dX11_bytesOf_37
    ·
      refine lv_iconst (v := 0) hx hb dX11_bytesOf_23 (by decide) ?_
      refine lv_goto (tgt := 28) hx hb dX11_bytesOf_24 (by decide) ?_
      refine lv_iadd hx hb dX11_bytesOf_28 ?_
      refine lv_topi (fun x38 ex38 => ?_)
      obtain rfl : x38 = 1 := ex38.trans (by decide)
      refine lv_istore_n (lv' := [(1, .int 1), (2, .int 1), (0, .int v)]) hx hb dX11_bytesOf_29 rfl hl (by decide) rfl (fun ls hl => ?_)
      refine lv_iinc (v := 2) (lv' := [(2, .int 2), (1, .int 1), (0, .int v)]) hx hb dX11_bytesOf_30 hl (k := 1) rfl (by decide) (by decide) rfl (fun ls hl => ?_)
      refine lv_goto (tgt := 4) hx hb dX11_bytesOf_33 (by decide) ?_
      refine lv_iload_n hx hb dX11_bytesOf_4 rfl (lv_at hl 0 rfl) ?_
      refine lv_iconst (v := 4) hx hb dX11_bytesOf_5 (by decide) ?_
      refine lv_icmp_ge (tgt := 36) hx hb dX11_bytesOf_6 (by decide) (fun c39 => absurd c39 (by decide)) (fun c39 => ?_)
      refine lv_iload_n hx hb dX11_bytesOf_9 rfl (lv_at hl 1 rfl) ?_
      refine lv_iload_n hx hb dX11_bytesOf_10 rfl (lv_at hl 2 rfl) ?_
      refine lv_bipush (v := 8) hx hb dX11_bytesOf_11 (by decide) ?_
      refine lv_iload_n hx hb dX11_bytesOf_13 rfl (lv_at hl 0 rfl) ?_
      refine lv_imul hx hb dX11_bytesOf_14 ?_
      refine lv_topi (fun x40 ex40 => ?_)
      obtain rfl : x40 = 16 := ex40.trans (by decide)
      refine lv_ishr hx hb dX11_bytesOf_15 ?_
      refine lv_topi (fun x41 ex41 => ?_)
      refine lv_sipush (v := 255) hx hb dX11_bytesOf_16 (by decide) ?_
      refine lv_iand hx hb dX11_bytesOf_19 ?_
      refine lv_topi (fun x42 ex42 => ?_)
      refine lv_if_ne (tgt := 27) hx hb dX11_bytesOf_20 (by decide) (fun c43 => ?_) (fun c43 => ?_)
      ·
        refine lv_iconst (v := 1) hx hb dX11_bytesOf_27 (by decide) ?_
        refine lv_iadd hx hb dX11_bytesOf_28 ?_
        refine lv_topi (fun x44 ex44 => ?_)
        obtain rfl : x44 = 2 := ex44.trans (by decide)
        refine lv_istore_n (lv' := [(1, .int 2), (2, .int 2), (0, .int v)]) hx hb dX11_bytesOf_29 rfl hl (by decide) rfl (fun ls hl => ?_)
        refine lv_iinc (v := 3) (lv' := [(2, .int 3), (1, .int 2), (0, .int v)]) hx hb dX11_bytesOf_30 hl (k := 1) rfl (by decide) (by decide) rfl (fun ls hl => ?_)
        refine lv_goto (tgt := 4) hx hb dX11_bytesOf_33 (by decide) ?_
        refine lv_iload_n hx hb dX11_bytesOf_4 rfl (lv_at hl 0 rfl) ?_
        refine lv_iconst (v := 4) hx hb dX11_bytesOf_5 (by decide) ?_
        refine lv_icmp_ge (tgt := 36) hx hb dX11_bytesOf_6 (by decide) (fun c45 => absurd c45 (by decide)) (fun c45 => ?_)
        refine lv_iload_n hx hb dX11_bytesOf_9 rfl (lv_at hl 1 rfl) ?_
        refine lv_iload_n hx hb dX11_bytesOf_10 rfl (lv_at hl 2 rfl) ?_
        refine lv_bipush (v := 8) hx hb dX11_bytesOf_11 (by decide) ?_
        refine lv_iload_n hx hb dX11_bytesOf_13 rfl (lv_at hl 0 rfl) ?_
        refine lv_imul hx hb dX11_bytesOf_14 ?_
        refine lv_topi (fun x46 ex46 => ?_)
        obtain rfl : x46 = 24 := ex46.trans (by decide)
        refine lv_ishr hx hb dX11_bytesOf_15 ?_
        refine lv_topi (fun x47 ex47 => ?_)
        refine lv_sipush (v := 255) hx hb dX11_bytesOf_16 (by decide) ?_
        refine lv_iand hx hb dX11_bytesOf_19 ?_
        refine lv_topi (fun x48 ex48 => ?_)
        refine lv_if_ne (tgt := 27) hx hb dX11_bytesOf_20 (by decide) (fun c49 => ?_) (fun c49 => ?_)
        ·
          refine lv_iconst (v := 1) hx hb dX11_bytesOf_27 (by decide) ?_
          refine lv_iadd hx hb dX11_bytesOf_28 ?_
          refine lv_topi (fun x50 ex50 => ?_)
          obtain rfl : x50 = 3 := ex50.trans (by decide)
          refine lv_istore_n (lv' := [(1, .int 3), (2, .int 3), (0, .int v)]) hx hb dX11_bytesOf_29 rfl hl (by decide) rfl (fun ls hl => ?_)
          refine lv_iinc (v := 4) (lv' := [(2, .int 4), (1, .int 3), (0, .int v)]) hx hb dX11_bytesOf_30 hl (k := 1) rfl (by decide) (by decide) rfl (fun ls hl => ?_)
          refine lv_goto (tgt := 4) hx hb dX11_bytesOf_33 (by decide) ?_
          refine lv_iload_n hx hb dX11_bytesOf_4 rfl (lv_at hl 0 rfl) ?_
          refine lv_iconst (v := 4) hx hb dX11_bytesOf_5 (by decide) ?_
          refine lv_icmp_ge (tgt := 36) hx hb dX11_bytesOf_6 (by decide) (fun c51 => ?_) (fun c51 => absurd (by decide) c51)
          refine lv_iload_n hx hb dX11_bytesOf_36 rfl (lv_at hl 1 rfl) ?_
          exact ret_i (ty := .int) hx hb hr hlocks (rfl) hP hD hS (Nat.le_of_ble_eq_true rfl) (Nat.le_of_ble_eq_true rfl) (⟨by unfold Bd; decide, hfr0, hsb0⟩) dX11_bytesOf_37
        ·
          refine lv_iconst (v := 0) hx hb dX11_bytesOf_23 (by decide) ?_
          refine lv_goto (tgt := 28) hx hb dX11_bytesOf_24 (by decide) ?_
          refine lv_iadd hx hb dX11_bytesOf_28 ?_
          refine lv_topi (fun x52 ex52 => ?_)
          obtain rfl : x52 = 2 := ex52.trans (by decide)
          refine lv_istore_n (lv' := [(1, .int 2), (2, .int 3), (0, .int v)]) hx hb dX11_bytesOf_29 rfl hl (by decide) rfl (fun ls hl => ?_)
          refine lv_iinc (v := 4) (lv' := [(2, .int 4), (1, .int 2), (0, .int v)]) hx hb dX11_bytesOf_30 hl (k := 1) rfl (by decide) (by decide) rfl (fun ls hl => ?_)
          refine lv_goto (tgt := 4) hx hb dX11_bytesOf_33 (by decide) ?_
          refine lv_iload_n hx hb dX11_bytesOf_4 rfl (lv_at hl 0 rfl) ?_
          refine lv_iconst (v := 4) hx hb dX11_bytesOf_5 (by decide) ?_
          refine lv_icmp_ge (tgt := 36) hx hb dX11_bytesOf_6 (by decide) (fun c53 => ?_) (fun c53 => absurd (by decide) c53)
          refine lv_iload_n hx hb dX11_bytesOf_36 rfl (lv_at hl 1 rfl) ?_
          exact ret_i (ty := .int) hx hb hr hlocks (rfl) hP hD hS (Nat.le_of_ble_eq_true rfl) (Nat.le_of_ble_eq_true rfl) (⟨by unfold Bd; decide, hfr0, hsb0⟩) dX11_bytesOf_37
      ·
        refine lv_iconst (v := 0) hx hb dX11_bytesOf_23 (by decide) ?_
        refine lv_goto (tgt := 28) hx hb dX11_bytesOf_24 (by decide) ?_
        refine lv_iadd hx hb dX11_bytesOf_28 ?_
        refine lv_topi (fun x54 ex54 => ?_)
        obtain rfl : x54 = 1 := ex54.trans (by decide)
        refine lv_istore_n (lv' := [(1, .int 1), (2, .int 2), (0, .int v)]) hx hb dX11_bytesOf_29 rfl hl (by decide) rfl (fun ls hl => ?_)
        refine lv_iinc (v := 3) (lv' := [(2, .int 3), (1, .int 1), (0, .int v)]) hx hb dX11_bytesOf_30 hl (k := 1) rfl (by decide) (by decide) rfl (fun ls hl => ?_)
        refine lv_goto (tgt := 4) hx hb dX11_bytesOf_33 (by decide) ?_
        refine lv_iload_n hx hb dX11_bytesOf_4 rfl (lv_at hl 0 rfl) ?_
        refine lv_iconst (v := 4) hx hb dX11_bytesOf_5 (by decide) ?_
        refine lv_icmp_ge (tgt := 36) hx hb dX11_bytesOf_6 (by decide) (fun c55 => absurd c55 (by decide)) (fun c55 => ?_)
        refine lv_iload_n hx hb dX11_bytesOf_9 rfl (lv_at hl 1 rfl) ?_
        refine lv_iload_n hx hb dX11_bytesOf_10 rfl (lv_at hl 2 rfl) ?_
        refine lv_bipush (v := 8) hx hb dX11_bytesOf_11 (by decide) ?_
        refine lv_iload_n hx hb dX11_bytesOf_13 rfl (lv_at hl 0 rfl) ?_
        refine lv_imul hx hb dX11_bytesOf_14 ?_
        refine lv_topi (fun x56 ex56 => ?_)
        obtain rfl : x56 = 24 := ex56.trans (by decide)
        refine lv_ishr hx hb dX11_bytesOf_15 ?_
        refine lv_topi (fun x57 ex57 => ?_)
        refine lv_sipush (v := 255) hx hb dX11_bytesOf_16 (by decide) ?_
        refine lv_iand hx hb dX11_bytesOf_19 ?_
        refine lv_topi (fun x58 ex58 => ?_)
        refine lv_if_ne (tgt := 27) hx hb dX11_bytesOf_20 (by decide) (fun c59 => ?_) (fun c59 => ?_)
        ·
          refine lv_iconst (v := 1) hx hb dX11_bytesOf_27 (by decide) ?_
          refine lv_iadd hx hb dX11_bytesOf_28 ?_
          refine lv_topi (fun x60 ex60 => ?_)
          obtain rfl : x60 = 2 := ex60.trans (by decide)
          refine lv_istore_n (lv' := [(1, .int 2), (2, .int 3), (0, .int v)]) hx hb dX11_bytesOf_29 rfl hl (by decide) rfl (fun ls hl => ?_)
          refine lv_iinc (v := 4) (lv' := [(2, .int 4), (1, .int 2), (0, .int v)]) hx hb dX11_bytesOf_30 hl (k := 1) rfl (by decide) (by decide) rfl (fun ls hl => ?_)
          refine lv_goto (tgt := 4) hx hb dX11_bytesOf_33 (by decide) ?_
          refine lv_iload_n hx hb dX11_bytesOf_4 rfl (lv_at hl 0 rfl) ?_
          refine lv_iconst (v := 4) hx hb dX11_bytesOf_5 (by decide) ?_
          refine lv_icmp_ge (tgt := 36) hx hb dX11_bytesOf_6 (by decide) (fun c61 => ?_) (fun c61 => absurd (by decide) c61)
          refine lv_iload_n hx hb dX11_bytesOf_36 rfl (lv_at hl 1 rfl) ?_
          exact ret_i (ty := .int) hx hb hr hlocks (rfl) hP hD hS (Nat.le_of_ble_eq_true rfl) (Nat.le_of_ble_eq_true rfl) (⟨by unfold Bd; decide, hfr0, hsb0⟩) dX11_bytesOf_37
        ·
          refine lv_iconst (v := 0) hx hb dX11_bytesOf_23 (by decide) ?_
          refine lv_goto (tgt := 28) hx hb dX11_bytesOf_24 (by decide) ?_
          refine lv_iadd hx hb dX11_bytesOf_28 ?_
          refine lv_topi (fun x62 ex62 => ?_)
          obtain rfl : x62 = 1 := ex62.trans (by decide)
          refine lv_istore_n (lv' := [(1, .int 1), (2, .int 3), (0, .int v)]) hx hb dX11_bytesOf_29 rfl hl (by decide) rfl (fun ls hl => ?_)
          refine lv_iinc (v := 4) (lv' := [(2, .int 4), (1, .int 1), (0, .int v)]) hx hb dX11_bytesOf_30 hl (k := 1) rfl (by decide) (by decide) rfl (fun ls hl => ?_)
          refine lv_goto (tgt := 4) hx hb dX11_bytesOf_33 (by decide) ?_
          refine lv_iload_n hx hb dX11_bytesOf_4 rfl (lv_at hl 0 rfl) ?_
          refine lv_iconst (v := 4) hx hb dX11_bytesOf_5 (by decide) ?_
          refine lv_icmp_ge (tgt := 36) hx hb dX11_bytesOf_6 (by decide) (fun c63 => ?_) (fun c63 => absurd (by decide) c63)
          refine lv_iload_n hx hb dX11_bytesOf_36 rfl (lv_at hl 1 rfl) ?_
          exact ret_i (ty := .int) hx hb hr hlocks (rfl) hP hD hS (Nat.le_of_ble_eq_true rfl) (Nat.le_of_ble_eq_true rfl) (⟨by unfold Bd; decide, hfr0, hsb0⟩) dX11_bytesOf_37
  ·
    refine lv_iconst (v := 0) hx hb dX11_bytesOf_23 (by decide) ?_
    refine lv_goto (tgt := 28) hx hb dX11_bytesOf_24 (by decide) ?_
    refine lv_iadd hx hb dX11_bytesOf_28 ?_
    refine lv_topi (fun x64 ex64 => ?_)
    obtain rfl : x64 = 0 := ex64.trans (by decide)
    refine lv_istore_n (lv' := [(1, .int 0), (2, .int 0), (0, .int v)]) hx hb dX11_bytesOf_29 rfl hl (by decide) rfl (fun ls hl => ?_)
    refine lv_iinc (v := 1) (lv' := [(2, .int 1), (1, .int 0), (0, .int v)]) hx hb dX11_bytesOf_30 hl (k := 1) rfl (by decide) (by decide) rfl (fun ls hl => ?_)
    refine lv_goto (tgt := 4) hx hb dX11_bytesOf_33 (by decide) ?_
    refine lv_iload_n hx hb dX11_bytesOf_4 rfl (lv_at hl 0 rfl) ?_
    refine lv_iconst (v := 4) hx hb dX11_bytesOf_5 (by decide) ?_
    refine lv_icmp_ge (tgt := 36) hx hb dX11_bytesOf_6 (by decide) (fun c65 => absurd c65 (by decide)) (fun c65 => ?_)
    refine lv_iload_n hx hb dX11_bytesOf_9 rfl (lv_at hl 1 rfl) ?_
    refine lv_iload_n hx hb dX11_bytesOf_10 rfl (lv_at hl 2 rfl) ?_
    refine lv_bipush (v := 8) hx hb dX11_bytesOf_11 (by decide) ?_
    refine lv_iload_n hx hb dX11_bytesOf_13 rfl (lv_at hl 0 rfl) ?_
    refine lv_imul hx hb dX11_bytesOf_14 ?_
    refine lv_topi (fun x66 ex66 => ?_)
    obtain rfl : x66 = 8 := ex66.trans (by decide)
    refine lv_ishr hx hb dX11_bytesOf_15 ?_
    refine lv_topi (fun x67 ex67 => ?_)
    refine lv_sipush (v := 255) hx hb dX11_bytesOf_16 (by decide) ?_
    refine lv_iand hx hb dX11_bytesOf_19 ?_
    refine lv_topi (fun x68 ex68 => ?_)
    refine lv_if_ne (tgt := 27) hx hb dX11_bytesOf_20 (by decide) (fun c69 => ?_) (fun c69 => ?_)
    ·
      refine lv_iconst (v := 1) hx hb dX11_bytesOf_27 (by decide) ?_
      refine lv_iadd hx hb dX11_bytesOf_28 ?_
      refine lv_topi (fun x70 ex70 => ?_)
      obtain rfl : x70 = 1 := ex70.trans (by decide)
      refine lv_istore_n (lv' := [(1, .int 1), (2, .int 1), (0, .int v)]) hx hb dX11_bytesOf_29 rfl hl (by decide) rfl (fun ls hl => ?_)
      refine lv_iinc (v := 2) (lv' := [(2, .int 2), (1, .int 1), (0, .int v)]) hx hb dX11_bytesOf_30 hl (k := 1) rfl (by decide) (by decide) rfl (fun ls hl => ?_)
      refine lv_goto (tgt := 4) hx hb dX11_bytesOf_33 (by decide) ?_
      refine lv_iload_n hx hb dX11_bytesOf_4 rfl (lv_at hl 0 rfl) ?_
      refine lv_iconst (v := 4) hx hb dX11_bytesOf_5 (by decide) ?_
      refine lv_icmp_ge (tgt := 36) hx hb dX11_bytesOf_6 (by decide) (fun c71 => absurd c71 (by decide)) (fun c71 => ?_)
      refine lv_iload_n hx hb dX11_bytesOf_9 rfl (lv_at hl 1 rfl) ?_
      refine lv_iload_n hx hb dX11_bytesOf_10 rfl (lv_at hl 2 rfl) ?_
      refine lv_bipush (v := 8) hx hb dX11_bytesOf_11 (by decide) ?_
      refine lv_iload_n hx hb dX11_bytesOf_13 rfl (lv_at hl 0 rfl) ?_
      refine lv_imul hx hb dX11_bytesOf_14 ?_
      refine lv_topi (fun x72 ex72 => ?_)
      obtain rfl : x72 = 16 := ex72.trans (by decide)
      refine lv_ishr hx hb dX11_bytesOf_15 ?_
      refine lv_topi (fun x73 ex73 => ?_)
      refine lv_sipush (v := 255) hx hb dX11_bytesOf_16 (by decide) ?_
      refine lv_iand hx hb dX11_bytesOf_19 ?_
      refine lv_topi (fun x74 ex74 => ?_)
      refine lv_if_ne (tgt := 27) hx hb dX11_bytesOf_20 (by decide) (fun c75 => ?_) (fun c75 => ?_)
      ·
        refine lv_iconst (v := 1) hx hb dX11_bytesOf_27 (by decide) ?_
        refine lv_iadd hx hb dX11_bytesOf_28 ?_
        refine lv_topi (fun x76 ex76 => ?_)
        obtain rfl : x76 = 2 := ex76.trans (by decide)
        refine lv_istore_n (lv' := [(1, .int 2), (2, .int 2), (0, .int v)]) hx hb dX11_bytesOf_29 rfl hl (by decide) rfl (fun ls hl => ?_)
        refine lv_iinc (v := 3) (lv' := [(2, .int 3), (1, .int 2), (0, .int v)]) hx hb dX11_bytesOf_30 hl (k := 1) rfl (by decide) (by decide) rfl (fun ls hl => ?_)
        refine lv_goto (tgt := 4) hx hb dX11_bytesOf_33 (by decide) ?_
        refine lv_iload_n hx hb dX11_bytesOf_4 rfl (lv_at hl 0 rfl) ?_
        refine lv_iconst (v := 4) hx hb dX11_bytesOf_5 (by decide) ?_
        refine lv_icmp_ge (tgt := 36) hx hb dX11_bytesOf_6 (by decide) (fun c77 => absurd c77 (by decide)) (fun c77 => ?_)
        refine lv_iload_n hx hb dX11_bytesOf_9 rfl (lv_at hl 1 rfl) ?_
        refine lv_iload_n hx hb dX11_bytesOf_10 rfl (lv_at hl 2 rfl) ?_
        refine lv_bipush (v := 8) hx hb dX11_bytesOf_11 (by decide) ?_
        refine lv_iload_n hx hb dX11_bytesOf_13 rfl (lv_at hl 0 rfl) ?_
        refine lv_imul hx hb dX11_bytesOf_14 ?_
        refine lv_topi (fun x78 ex78 => ?_)
        obtain rfl : x78 = 24 := ex78.trans (by decide)
        refine lv_ishr hx hb dX11_bytesOf_15 ?_
        refine lv_topi (fun x79 ex79 => ?_)
        refine lv_sipush (v := 255) hx hb dX11_bytesOf_16 (by decide) ?_
        refine lv_iand hx hb dX11_bytesOf_19 ?_
        refine lv_topi (fun x80 ex80 => ?_)
        refine lv_if_ne (tgt := 27) hx hb dX11_bytesOf_20 (by decide) (fun c81 => ?_) (fun c81 => ?_)
        ·
          refine lv_iconst (v := 1) hx hb dX11_bytesOf_27 (by decide) ?_
          refine lv_iadd hx hb dX11_bytesOf_28 ?_
          refine lv_topi (fun x82 ex82 => ?_)
          obtain rfl : x82 = 3 := ex82.trans (by decide)
          refine lv_istore_n (lv' := [(1, .int 3), (2, .int 3), (0, .int v)]) hx hb dX11_bytesOf_29 rfl hl (by decide) rfl (fun ls hl => ?_)
          refine lv_iinc (v := 4) (lv' := [(2, .int 4), (1, .int 3), (0, .int v)]) hx hb dX11_bytesOf_30 hl (k := 1) rfl (by decide) (by decide) rfl (fun ls hl => ?_)
          refine lv_goto (tgt := 4) hx hb dX11_bytesOf_33 (by decide) ?_
          refine lv_iload_n hx hb dX11_bytesOf_4 rfl (lv_at hl 0 rfl) ?_
          refine lv_iconst (v := 4) hx hb dX11_bytesOf_5 (by decide) ?_
          refine lv_icmp_ge (tgt := 36) hx hb dX11_bytesOf_6 (by decide) (fun c83 => ?_) (fun c83 => absurd (by decide) c83)
          refine lv_iload_n hx hb dX11_bytesOf_36 rfl (lv_at hl 1 rfl) ?_
          exact ret_i (ty := .int) hx hb hr hlocks (rfl) hP hD hS (Nat.le_of_ble_eq_true rfl) (Nat.le_of_ble_eq_true rfl) (⟨by unfold Bd; decide, hfr0, hsb0⟩) dX11_bytesOf_37
        ·
          refine lv_iconst (v := 0) hx hb dX11_bytesOf_23 (by decide) ?_
          refine lv_goto (tgt := 28) hx hb dX11_bytesOf_24 (by decide) ?_
          refine lv_iadd hx hb dX11_bytesOf_28 ?_
          refine lv_topi (fun x84 ex84 => ?_)
          obtain rfl : x84 = 2 := ex84.trans (by decide)
          refine lv_istore_n (lv' := [(1, .int 2), (2, .int 3), (0, .int v)]) hx hb dX11_bytesOf_29 rfl hl (by decide) rfl (fun ls hl => ?_)
          refine lv_iinc (v := 4) (lv' := [(2, .int 4), (1, .int 2), (0, .int v)]) hx hb dX11_bytesOf_30 hl (k := 1) rfl (by decide) (by decide) rfl (fun ls hl => ?_)
          refine lv_goto (tgt := 4) hx hb dX11_bytesOf_33 (by decide) ?_
          refine lv_iload_n hx hb dX11_bytesOf_4 rfl (lv_at hl 0 rfl) ?_
          refine lv_iconst (v := 4) hx hb dX11_bytesOf_5 (by decide) ?_
          refine lv_icmp_ge (tgt := 36) hx hb dX11_bytesOf_6 (by decide) (fun c85 => ?_) (fun c85 => absurd (by decide) c85)
          refine lv_iload_n hx hb dX11_bytesOf_36 rfl (lv_at hl 1 rfl) ?_
          exact ret_i (ty := .int) hx hb hr hlocks (rfl) hP hD hS (Nat.le_of_ble_eq_true rfl) (Nat.le_of_ble_eq_true rfl) (⟨by unfold Bd; decide, hfr0, hsb0⟩) dX11_bytesOf_37
      ·
        refine lv_iconst (v := 0) hx hb dX11_bytesOf_23 (by decide) ?_
        refine lv_goto (tgt := 28) hx hb dX11_bytesOf_24 (by decide) ?_
        refine lv_iadd hx hb dX11_bytesOf_28 ?_
        refine lv_topi (fun x86 ex86 => ?_)
        obtain rfl : x86 = 1 := ex86.trans (by decide)
        refine lv_istore_n (lv' := [(1, .int 1), (2, .int 2), (0, .int v)]) hx hb dX11_bytesOf_29 rfl hl (by decide) rfl (fun ls hl => ?_)
        refine lv_iinc (v := 3) (lv' := [(2, .int 3), (1, .int 1), (0, .int v)]) hx hb dX11_bytesOf_30 hl (k := 1) rfl (by decide) (by decide) rfl (fun ls hl => ?_)
        refine lv_goto (tgt := 4) hx hb dX11_bytesOf_33 (by decide) ?_
        refine lv_iload_n hx hb dX11_bytesOf_4 rfl (lv_at hl 0 rfl) ?_
        refine lv_iconst (v := 4) hx hb dX11_bytesOf_5 (by decide) ?_
        refine lv_icmp_ge (tgt := 36) hx hb dX11_bytesOf_6 (by decide) (fun c87 => absurd c87 (by decide)) (fun c87 => ?_)
        refine lv_iload_n hx hb dX11_bytesOf_9 rfl (lv_at hl 1 rfl) ?_
        refine lv_iload_n hx hb dX11_bytesOf_10 rfl (lv_at hl 2 rfl) ?_
        refine lv_bipush (v := 8) hx hb dX11_bytesOf_11 (by decide) ?_
        refine lv_iload_n hx hb dX11_bytesOf_13 rfl (lv_at hl 0 rfl) ?_
        refine lv_imul hx hb dX11_bytesOf_14 ?_
        refine lv_topi (fun x88 ex88 => ?_)
        obtain rfl : x88 = 24 := ex88.trans (by decide)
        refine lv_ishr hx hb dX11_bytesOf_15 ?_
        refine lv_topi (fun x89 ex89 => ?_)
        refine lv_sipush (v := 255) hx hb dX11_bytesOf_16 (by decide) ?_
        refine lv_iand hx hb dX11_bytesOf_19 ?_
        refine lv_topi (fun x90 ex90 => ?_)
        refine lv_if_ne (tgt := 27) hx hb dX11_bytesOf_20 (by decide) (fun c91 => ?_) (fun c91 => ?_)
        ·
          refine lv_iconst (v := 1) hx hb dX11_bytesOf_27 (by decide) ?_
          refine lv_iadd hx hb dX11_bytesOf_28 ?_
          refine lv_topi (fun x92 ex92 => ?_)
          obtain rfl : x92 = 2 := ex92.trans (by decide)
          refine lv_istore_n (lv' := [(1, .int 2), (2, .int 3), (0, .int v)]) hx hb dX11_bytesOf_29 rfl hl (by decide) rfl (fun ls hl => ?_)
          refine lv_iinc (v := 4) (lv' := [(2, .int 4), (1, .int 2), (0, .int v)]) hx hb dX11_bytesOf_30 hl (k := 1) rfl (by decide) (by decide) rfl (fun ls hl => ?_)
          refine lv_goto (tgt := 4) hx hb dX11_bytesOf_33 (by decide) ?_
          refine lv_iload_n hx hb dX11_bytesOf_4 rfl (lv_at hl 0 rfl) ?_
          refine lv_iconst (v := 4) hx hb dX11_bytesOf_5 (by decide) ?_
          refine lv_icmp_ge (tgt := 36) hx hb dX11_bytesOf_6 (by decide) (fun c93 => ?_) (fun c93 => absurd (by decide) c93)
          refine lv_iload_n hx hb dX11_bytesOf_36 rfl (lv_at hl 1 rfl) ?_
          exact ret_i (ty := .int) hx hb hr hlocks (rfl) hP hD hS (Nat.le_of_ble_eq_true rfl) (Nat.le_of_ble_eq_true rfl) (⟨by unfold Bd; decide, hfr0, hsb0⟩) dX11_bytesOf_37
        ·
          refine lv_iconst (v := 0) hx hb dX11_bytesOf_23 (by decide) ?_
          refine lv_goto (tgt := 28) hx hb dX11_bytesOf_24 (by decide) ?_
          refine lv_iadd hx hb dX11_bytesOf_28 ?_
          refine lv_topi (fun x94 ex94 => ?_)
          obtain rfl : x94 = 1 := ex94.trans (by decide)
          refine lv_istore_n (lv' := [(1, .int 1), (2, .int 3), (0, .int v)]) hx hb dX11_bytesOf_29 rfl hl (by decide) rfl (fun ls hl => ?_)
          refine lv_iinc (v := 4) (lv' := [(2, .int 4), (1, .int 1), (0, .int v)]) hx hb dX11_bytesOf_30 hl (k := 1) rfl (by decide) (by decide) rfl (fun ls hl => ?_)
          refine lv_goto (tgt := 4) hx hb dX11_bytesOf_33 (by decide) ?_
          refine lv_iload_n hx hb dX11_bytesOf_4 rfl (lv_at hl 0 rfl) ?_
          refine lv_iconst (v := 4) hx hb dX11_bytesOf_5 (by decide) ?_
          refine lv_icmp_ge (tgt := 36) hx hb dX11_bytesOf_6 (by decide) (fun c95 => ?_) (fun c95 => absurd (by decide) c95)
          refine lv_iload_n hx hb dX11_bytesOf_36 rfl (lv_at hl 1 rfl) ?_
          exact ret_i (ty := .int) hx hb hr hlocks (rfl) hP hD hS (Nat.le_of_ble_eq_true rfl) (Nat.le_of_ble_eq_true rfl) (⟨by unfold Bd; decide, hfr0, hsb0⟩) dX11_bytesOf_37
    ·
      refine lv_iconst (v := 0) hx hb dX11_bytesOf_23 (by decide) ?_
      refine lv_goto (tgt := 28) hx hb dX11_bytesOf_24 (by decide) ?_
      refine lv_iadd hx hb dX11_bytesOf_28 ?_
      refine lv_topi (fun x96 ex96 => ?_)
      obtain rfl : x96 = 0 := ex96.trans (by decide)
      refine lv_istore_n (lv' := [(1, .int 0), (2, .int 1), (0, .int v)]) hx hb dX11_bytesOf_29 rfl hl (by decide) rfl (fun ls hl => ?_)
      refine lv_iinc (v := 2) (lv' := [(2, .int 2), (1, .int 0), (0, .int v)]) hx hb dX11_bytesOf_30 hl (k := 1) rfl (by decide) (by decide) rfl (fun ls hl => ?_)
      refine lv_goto (tgt := 4) hx hb dX11_bytesOf_33 (by decide) ?_
      refine lv_iload_n hx hb dX11_bytesOf_4 rfl (lv_at hl 0 rfl) ?_
      refine lv_iconst (v := 4) hx hb dX11_bytesOf_5 (by decide) ?_
      refine lv_icmp_ge (tgt := 36) hx hb dX11_bytesOf_6 (by decide) (fun c97 => absurd c97 (by decide)) (fun c97 => ?_)
      refine lv_iload_n hx hb dX11_bytesOf_9 rfl (lv_at hl 1 rfl) ?_
      refine lv_iload_n hx hb dX11_bytesOf_10 rfl (lv_at hl 2 rfl) ?_
      refine lv_bipush (v := 8) hx hb dX11_bytesOf_11 (by decide) ?_
      refine lv_iload_n hx hb dX11_bytesOf_13 rfl (lv_at hl 0 rfl) ?_
      refine lv_imul hx hb dX11_bytesOf_14 ?_
      refine lv_topi (fun x98 ex98 => ?_)
      obtain rfl : x98 = 16 := ex98.trans (by decide)
      refine lv_ishr hx hb dX11_bytesOf_15 ?_
      refine lv_topi (fun x99 ex99 => ?_)
      refine lv_sipush (v := 255) hx hb dX11_bytesOf_16 (by decide) ?_
      refine lv_iand hx hb dX11_bytesOf_19 ?_
      refine lv_topi (fun x100 ex100 => ?_)
      refine lv_if_ne (tgt := 27) hx hb dX11_bytesOf_20 (by decide) (fun c101 => ?_) (fun c101 => ?_)
      ·
        refine lv_iconst (v := 1) hx hb dX11_bytesOf_27 (by decide) ?_
        refine lv_iadd hx hb dX11_bytesOf_28 ?_
        refine lv_topi (fun x102 ex102 => ?_)
        obtain rfl : x102 = 1 := ex102.trans (by decide)
        refine lv_istore_n (lv' := [(1, .int 1), (2, .int 2), (0, .int v)]) hx hb dX11_bytesOf_29 rfl hl (by decide) rfl (fun ls hl => ?_)
        refine lv_iinc (v := 3) (lv' := [(2, .int 3), (1, .int 1), (0, .int v)]) hx hb dX11_bytesOf_30 hl (k := 1) rfl (by decide) (by decide) rfl (fun ls hl => ?_)
        refine lv_goto (tgt := 4) hx hb dX11_bytesOf_33 (by decide) ?_
        refine lv_iload_n hx hb dX11_bytesOf_4 rfl (lv_at hl 0 rfl) ?_
        refine lv_iconst (v := 4) hx hb dX11_bytesOf_5 (by decide) ?_
        refine lv_icmp_ge (tgt := 36) hx hb dX11_bytesOf_6 (by decide) (fun c103 => absurd c103 (by decide)) (fun c103 => ?_)
        refine lv_iload_n hx hb dX11_bytesOf_9 rfl (lv_at hl 1 rfl) ?_
        refine lv_iload_n hx hb dX11_bytesOf_10 rfl (lv_at hl 2 rfl) ?_
        refine lv_bipush (v := 8) hx hb dX11_bytesOf_11 (by decide) ?_
        refine lv_iload_n hx hb dX11_bytesOf_13 rfl (lv_at hl 0 rfl) ?_
        refine lv_imul hx hb dX11_bytesOf_14 ?_
        refine lv_topi (fun x104 ex104 => ?_)
        obtain rfl : x104 = 24 := ex104.trans (by decide)
        refine lv_ishr hx hb dX11_bytesOf_15 ?_
        refine lv_topi (fun x105 ex105 => ?_)
        refine lv_sipush (v := 255) hx hb dX11_bytesOf_16 (by decide) ?_
        refine lv_iand hx hb dX11_bytesOf_19 ?_
        refine lv_topi (fun x106 ex106 => ?_)
        refine lv_if_ne (tgt := 27) hx hb dX11_bytesOf_20 (by decide) (fun c107 => ?_) (fun c107 => ?_)
        ·
          refine lv_iconst (v := 1) hx hb dX11_bytesOf_27 (by decide) ?_
          refine lv_iadd hx hb dX11_bytesOf_28 ?_
          refine lv_topi (fun x108 ex108 => ?_)
          obtain rfl : x108 = 2 := ex108.trans (by decide)
          refine lv_istore_n (lv' := [(1, .int 2), (2, .int 3), (0, .int v)]) hx hb dX11_bytesOf_29 rfl hl (by decide) rfl (fun ls hl => ?_)
          refine lv_iinc (v := 4) (lv' := [(2, .int 4), (1, .int 2), (0, .int v)]) hx hb dX11_bytesOf_30 hl (k := 1) rfl (by decide) (by decide) rfl (fun ls hl => ?_)
          refine lv_goto (tgt := 4) hx hb dX11_bytesOf_33 (by decide) ?_
          refine lv_iload_n hx hb dX11_bytesOf_4 rfl (lv_at hl 0 rfl) ?_
          refine lv_iconst (v := 4) hx hb dX11_bytesOf_5 (by decide) ?_
          refine lv_icmp_ge (tgt := 36) hx hb dX11_bytesOf_6 (by decide) (fun c109 => ?_) (fun c109 => absurd (by decide) c109)
          refine lv_iload_n hx hb dX11_bytesOf_36 rfl (lv_at hl 1 rfl) ?_
          exact ret_i (ty := .int) hx hb hr hlocks (rfl) hP hD hS (Nat.le_of_ble_eq_true rfl) (Nat.le_of_ble_eq_true rfl) (⟨by unfold Bd; decide, hfr0, hsb0⟩) dX11_bytesOf_37
        ·
          refine lv_iconst (v := 0) hx hb dX11_bytesOf_23 (by decide) ?_
          refine lv_goto (tgt := 28) hx hb dX11_bytesOf_24 (by decide) ?_
          refine lv_iadd hx hb dX11_bytesOf_28 ?_
          refine lv_topi (fun x110 ex110 => ?_)
          obtain rfl : x110 = 1 := ex110.trans (by decide)
          refine lv_istore_n (lv' := [(1, .int 1), (2, .int 3), (0, .int v)]) hx hb dX11_bytesOf_29 rfl hl (by decide) rfl (fun ls hl => ?_)
          refine lv_iinc (v := 4) (lv' := [(2, .int 4), (1, .int 1), (0, .int v)]) hx hb dX11_bytesOf_30 hl (k := 1) rfl (by decide) (by decide) rfl (fun ls hl => ?_)
          refine lv_goto (tgt := 4) hx hb dX11_bytesOf_33 (by decide) ?_
          refine lv_iload_n hx hb dX11_bytesOf_4 rfl (lv_at hl 0 rfl) ?_
          refine lv_iconst (v := 4) hx hb dX11_bytesOf_5 (by decide) ?_
          refine lv_icmp_ge (tgt := 36) hx hb dX11_bytesOf_6 (by decide) (fun c111 => ?_) (fun c111 => absurd (by decide) c111)
          refine lv_iload_n hx hb dX11_bytesOf_36 rfl (lv_at hl 1 rfl) ?_
          exact ret_i (ty := .int) hx hb hr hlocks (rfl) hP hD hS (Nat.le_of_ble_eq_true rfl) (Nat.le_of_ble_eq_true rfl) (⟨by unfold Bd; decide, hfr0, hsb0⟩) dX11_bytesOf_37
      ·
        refine lv_iconst (v := 0) hx hb dX11_bytesOf_23 (by decide) ?_
        refine lv_goto (tgt := 28) hx hb dX11_bytesOf_24 (by decide) ?_
        refine lv_iadd hx hb dX11_bytesOf_28 ?_
        refine lv_topi (fun x112 ex112 => ?_)
        obtain rfl : x112 = 0 := ex112.trans (by decide)
        refine lv_istore_n (lv' := [(1, .int 0), (2, .int 2), (0, .int v)]) hx hb dX11_bytesOf_29 rfl hl (by decide) rfl (fun ls hl => ?_)
        refine lv_iinc (v := 3) (lv' := [(2, .int 3), (1, .int 0), (0, .int v)]) hx hb dX11_bytesOf_30 hl (k := 1) rfl (by decide) (by decide) rfl (fun ls hl => ?_)
        refine lv_goto (tgt := 4) hx hb dX11_bytesOf_33 (by decide) ?_
        refine lv_iload_n hx hb dX11_bytesOf_4 rfl (lv_at hl 0 rfl) ?_
        refine lv_iconst (v := 4) hx hb dX11_bytesOf_5 (by decide) ?_
        refine lv_icmp_ge (tgt := 36) hx hb dX11_bytesOf_6 (by decide) (fun c113 => absurd c113 (by decide)) (fun c113 => ?_)
        refine lv_iload_n hx hb dX11_bytesOf_9 rfl (lv_at hl 1 rfl) ?_
        refine lv_iload_n hx hb dX11_bytesOf_10 rfl (lv_at hl 2 rfl) ?_
        refine lv_bipush (v := 8) hx hb dX11_bytesOf_11 (by decide) ?_
        refine lv_iload_n hx hb dX11_bytesOf_13 rfl (lv_at hl 0 rfl) ?_
        refine lv_imul hx hb dX11_bytesOf_14 ?_
        refine lv_topi (fun x114 ex114 => ?_)
        obtain rfl : x114 = 24 := ex114.trans (by decide)
        refine lv_ishr hx hb dX11_bytesOf_15 ?_
        refine lv_topi (fun x115 ex115 => ?_)
        refine lv_sipush (v := 255) hx hb dX11_bytesOf_16 (by decide) ?_
        refine lv_iand hx hb dX11_bytesOf_19 ?_
        refine lv_topi (fun x116 ex116 => ?_)
        refine lv_if_ne (tgt := 27) hx hb dX11_bytesOf_20 (by decide) (fun c117 => ?_) (fun c117 => ?_)
        ·
          refine lv_iconst (v := 1) hx hb dX11_bytesOf_27 (by decide) ?_
          refine lv_iadd hx hb dX11_bytesOf_28 ?_
          refine lv_topi (fun x118 ex118 => ?_)
          obtain rfl : x118 = 1 := ex118.trans (by decide)
          refine lv_istore_n (lv' := [(1, .int 1), (2, .int 3), (0, .int v)]) hx hb dX11_bytesOf_29 rfl hl (by decide) rfl (fun ls hl => ?_)
          refine lv_iinc (v := 4) (lv' := [(2, .int 4), (1, .int 1), (0, .int v)]) hx hb dX11_bytesOf_30 hl (k := 1) rfl (by decide) (by decide) rfl (fun ls hl => ?_)
          refine lv_goto (tgt := 4) hx hb dX11_bytesOf_33 (by decide) ?_
          refine lv_iload_n hx hb dX11_bytesOf_4 rfl (lv_at hl 0 rfl) ?_
          refine lv_iconst (v := 4) hx hb dX11_bytesOf_5 (by decide) ?_
          refine lv_icmp_ge (tgt := 36) hx hb dX11_bytesOf_6 (by decide) (fun c119 => ?_) (fun c119 => absurd (by decide) c119)
          refine lv_iload_n hx hb dX11_bytesOf_36 rfl (lv_at hl 1 rfl) ?_
          exact ret_i (ty := .int) hx hb hr hlocks (rfl) hP hD hS (Nat.le_of_ble_eq_true rfl) (Nat.le_of_ble_eq_true rfl) (⟨by unfold Bd; decide, hfr0, hsb0⟩) dX11_bytesOf_37
        ·
          refine lv_iconst (v := 0) hx hb dX11_bytesOf_23 (by decide) ?_
          refine lv_goto (tgt := 28) hx hb dX11_bytesOf_24 (by decide) ?_
          refine lv_iadd hx hb dX11_bytesOf_28 ?_
          refine lv_topi (fun x120 ex120 => ?_)
          obtain rfl : x120 = 0 := ex120.trans (by decide)
          refine lv_istore_n (lv' := [(1, .int 0), (2, .int 3), (0, .int v)]) hx hb dX11_bytesOf_29 rfl hl (by decide) rfl (fun ls hl => ?_)
          refine lv_iinc (v := 4) (lv' := [(2, .int 4), (1, .int 0), (0, .int v)]) hx hb dX11_bytesOf_30 hl (k := 1) rfl (by decide) (by decide) rfl (fun ls hl => ?_)
          refine lv_goto (tgt := 4) hx hb dX11_bytesOf_33 (by decide) ?_
          refine lv_iload_n hx hb dX11_bytesOf_4 rfl (lv_at hl 0 rfl) ?_
          refine lv_iconst (v := 4) hx hb dX11_bytesOf_5 (by decide) ?_
          refine lv_icmp_ge (tgt := 36) hx hb dX11_bytesOf_6 (by decide) (fun c121 => ?_) (fun c121 => absurd (by decide) c121)
          refine lv_iload_n hx hb dX11_bytesOf_36 rfl (lv_at hl 1 rfl) ?_
          exact ret_i (ty := .int) hx hb hr hlocks (rfl) hP hD hS (Nat.le_of_ble_eq_true rfl) (Nat.le_of_ble_eq_true rfl) (⟨by unfold Bd; decide, hfr0, hsb0⟩) dX11_bytesOf_37

set_option maxHeartbeats 4000000 in
set_option maxRecDepth 100000 in
theorem k_X11_brings (l : Launch) (g : GG) (L : List Nat) (f : HP) (sz : Nat) (mo ar1 ar7 ar10 ar11 ar24 ar26 ar27 ar28 ar29 ar30 ar31 ar32 ar33 ar34 ar35 ar41 ar42 ar43 ar44 ar49 ar52 ar54 : Nat) (k : Int32) (v : Int32) (rw_1 : Nat → Int32) (hm_mo : mo ∈ L) (hf_mo : f mo = .inr (10, [.int 0, .ref ar1, .int k, .int 0, .int 0, .int 0, .int 0, .ref ar7, .int 0, .int 0, .ref ar10, .ref ar11, .int 0, .int 0, .int 0, .int 0, .int 0, .int 0, .int 0, .int 0, .int 0, .long 0, .long 0, .int 0, .ref ar24, .int 0, .ref ar26, .ref ar27, .ref ar28, .ref ar29, .ref ar30, .ref ar31, .ref ar32, .ref ar33, .ref ar34, .ref ar35, .int 0, .int 0, .int 0, .int 0, .int 0, .ref ar41, .ref ar42, .ref ar43, .ref ar44, .long 0, .long 0, .int 0, .int 0, .ref ar49, .int 0, .int 0, .ref ar52, .int 0, .ref ar54, .int 0])) (hm_ar1 : ar1 ∈ L) (hf_ar1 : f ar1 = .inl (g.2.1 2, 500, .inl (rw_1))) (hk : Bd k 496) : MtV l g yX11_brings cX11_brings 4 ({ frames := 0, cells := 0, slots := 0, locals := 0 }) [.ref mo, .int v] L f sz (fun u => ∃ (r1 : Nat → Int32), u.2 mo = .inr (10, [.int 0, .ref ar1, .int (l4S k v), .int 0, .int 0, .int 0, .int 0, .ref ar7, .int 0, .int 0, .ref ar10, .ref ar11, .int 0, .int 0, .int 0, .int 0, .int 0, .int 0, .int 0, .int 0, .int 0, .long 0, .long 0, .int 0, .ref ar24, .int 0, .ref ar26, .ref ar27, .ref ar28, .ref ar29, .ref ar30, .ref ar31, .ref ar32, .ref ar33, .ref ar34, .ref ar35, .int 0, .int 0, .int 0, .int 0, .int 0, .ref ar41, .ref ar42, .ref ar43, .ref ar44, .long 0, .long 0, .int 0, .int 0, .ref ar49, .int 0, .int 0, .ref ar52, .int 0, .ref ar54, .int 0]) ∧ u.2 ar1 = .inl (g.2.1 2, 500, .inl (r1)) ∧ (∀ b, b ∈ L → b ≠ mo → b ≠ ar1 → u.2 b = f b) ∧ (∀ b, b ∈ L → b ∈ u.1)) := by
  refine MtV.of (by decide +kernel) (Nat.le_of_ble_eq_true rfl) ?_
  intro p e s m below meth c A hEn hP hD hS ls hl
  obtain ⟨hx, hb, hr, hml, hown, hlocks, hts, hG, hA, hE, hnm⟩ := hEn
  have hown : s.vm.findClass "RulerWordModel" = some m.cls := hown
  have hl : lv_has ls 4 [(0, .ref mo), (1, .int v)] := hl
  have hfr0 : ∀ b, b ∈ L → b ≠ mo → b ≠ ar1 → f b = f b := fun b hb z0 z1 => rfl
  have hsb0 : ∀ b, b ∈ L → b ∈ L := fun b hb => hb
  refine lv_bipush (v := 24) hx hb dX11_brings_0 (by decide) ?_
  refine lv_istore_n (lv' := [(2, .int 24), (0, .ref mo), (1, .int v)]) hx hb dX11_brings_2 rfl hl (by decide) rfl (fun ls hl => ?_)
  refine lv_iload_n hx hb dX11_brings_3 rfl (lv_at hl 0 rfl) ?_
  refine lv_if_lt (tgt := 49) hx hb dX11_brings_4 (by decide) (fun c1 => absurd c1 (by decide)) (fun c1 => ?_)
  refine lv_iload_n hx hb dX11_brings_7 rfl (lv_at hl 2 rfl) ?_
  refine lv_iload_n hx hb dX11_brings_8 rfl (lv_at hl 0 rfl) ?_
  refine lv_ishr hx hb dX11_brings_9 ?_
  refine lv_topi (fun x2 ex2 => ?_)
  refine lv_sipush (v := 255) hx hb dX11_brings_10 (by decide) ?_
  refine lv_iand hx hb dX11_brings_13 ?_
  refine lv_topi (fun x3 ex3 => ?_)
  refine lv_istore_n (lv' := [(3, .int x3), (2, .int 24), (0, .ref mo), (1, .int v)]) hx hb dX11_brings_14 rfl hl (by decide) rfl (fun ls hl => ?_)
  refine lv_iload_n hx hb dX11_brings_15 rfl (lv_at hl 0 rfl) ?_
  refine lv_if_ne (tgt := 22) hx hb dX11_brings_16 (by decide) (fun c4 => ?_) (fun c4 => ?_)
  ·
    refine lv_aload_n hx hb dX11_brings_22 rfl (lv_at hl 2 rfl) ?_
    refine pl_get (v := .ref ar1) hx hb hts (fun w h => mT (inX11 w h)) hown hG.1 hP hm_mo hf_mo rfl 1 (by decide) (hts _ (mT wg_1337)) (fun _ h => h) rfl dX11_brings_23 ?_
    refine lv_aload_n hx hb dX11_brings_26 rfl (lv_at hl 2 rfl) ?_
    refine pl_get (v := .int k) hx hb hts (fun w h => mT (inX11 w h)) hown hG.1 hP hm_mo hf_mo rfl 2 (by decide) (hts _ (mT wg_1338)) (fun _ h => h) rfl dX11_brings_27 ?_
    refine lv_iload_n hx hb dX11_brings_30 rfl (lv_at hl 0 rfl) ?_
    refine lv_i2b hx hb dX11_brings_31 rfl ?_
    refine lv_topi (fun x5 ex5 => ?_)
    refine pl_bast hx hb hG.1 hP hD hS hm_ar1 2 hf_ar1 rfl (Bd.in (n := 499) (hk.mono (by decide)) (by decide)) dX11_brings_32 (fun H locs f6 r9 hf8 ho7 hP hD hS => ?_)
    have hfr10 : ∀ b, b ∈ L → b ≠ mo → b ≠ ar1 → f6 b = f b := fun b hb z0 z1 => (ho7 b z1).trans (hfr0 b hb z0 z1)
    have hf11 := (ho7 mo (kno hf_mo hf_ar1)).trans hf_mo
    refine lv_aload_n hx hb dX11_brings_33 rfl (lv_at hl 2 rfl) ?_
    refine lv_dup hx hb dX11_brings_34 rfl ?_
    refine pl_get (v := .int k) hx hb hts (fun w h => mT (inX11 w h)) hown hG.1 hP hm_mo hf11 rfl 2 (by decide) (hts _ (mT wg_1338)) (fun _ h => h) rfl dX11_brings_35 ?_
    refine lv_iconst (v := 1) hx hb dX11_brings_38 (by decide) ?_
    refine lv_iadd hx hb dX11_brings_39 ?_
    refine lv_topi (fun x12 ex12 => ?_)
    refine pl_put (ty := .int) (v := .int x12) (fs' := [.int 0, .ref ar1, .int x12, .int 0, .int 0, .int 0, .int 0, .ref ar7, .int 0, .int 0, .ref ar10, .ref ar11, .int 0, .int 0, .int 0, .int 0, .int 0, .int 0, .int 0, .int 0, .int 0, .long 0, .long 0, .int 0, .ref ar24, .int 0, .ref ar26, .ref ar27, .ref ar28, .ref ar29, .ref ar30, .ref ar31, .ref ar32, .ref ar33, .ref ar34, .ref ar35, .int 0, .int 0, .int 0, .int 0, .int 0, .ref ar41, .ref ar42, .ref ar43, .ref ar44, .long 0, .long 0, .int 0, .int 0, .ref ar49, .int 0, .int 0, .ref ar52, .int 0, .ref ar54, .int 0]) hx hb hts (fun w h => mT (inX11 w h)) tyX11 tyX11_ok nmX11 hown hG.1 hP hD hS hm_mo hf11 rfl 2 (by decide) (hts _ (mT wg_1338)) (fun _ h => h) rfl (by decide +kernel) (rfl) (rfl) (Nat.le_of_ble_eq_true rfl) rfl dX11_brings_40 (fun H locs f13 hf15 ho14 hP hD hS => ?_)
    have hfr16 : ∀ b, b ∈ L → b ≠ mo → b ≠ ar1 → f13 b = f b := fun b hb z0 z1 => (ho14 b z0).trans (hfr10 b hb z0 z1)
    have hf17 := (ho14 ar1 (kno hf11 hf8).symm).trans hf8
    refine lv_iinc (v := 16) (lv' := [(2, .int 16), (3, .int x3), (0, .ref mo), (1, .int v)]) hx hb dX11_brings_43 hl (k := 1) rfl (by decide) (by decide) rfl (fun ls hl => ?_)
    refine lv_goto (tgt := 3) hx hb dX11_brings_46 (by decide) ?_
    refine lv_iload_n hx hb dX11_brings_3 rfl (lv_at hl 0 rfl) ?_
    refine lv_if_lt (tgt := 49) hx hb dX11_brings_4 (by decide) (fun c18 => absurd c18 (by decide)) (fun c18 => ?_)
    refine lv_iload_n hx hb dX11_brings_7 rfl (lv_at hl 3 rfl) ?_
    refine lv_iload_n hx hb dX11_brings_8 rfl (lv_at hl 0 rfl) ?_
    refine lv_ishr hx hb dX11_brings_9 ?_
    refine lv_topi (fun x19 ex19 => ?_)
    refine lv_sipush (v := 255) hx hb dX11_brings_10 (by decide) ?_
    refine lv_iand hx hb dX11_brings_13 ?_
    refine lv_topi (fun x20 ex20 => ?_)
    refine lv_istore_n (lv' := [(3, .int x20), (2, .int 16), (0, .ref mo), (1, .int v)]) hx hb dX11_brings_14 rfl hl (by decide) rfl (fun ls hl => ?_)
    refine lv_iload_n hx hb dX11_brings_15 rfl (lv_at hl 0 rfl) ?_
    refine lv_if_ne (tgt := 22) hx hb dX11_brings_16 (by decide) (fun c21 => ?_) (fun c21 => ?_)
    ·
      refine lv_aload_n hx hb dX11_brings_22 rfl (lv_at hl 2 rfl) ?_
      refine pl_get (v := .ref ar1) hx hb hts (fun w h => mT (inX11 w h)) hown hG.1 hP hm_mo hf15 rfl 1 (by decide) (hts _ (mT wg_1337)) (fun _ h => h) rfl dX11_brings_23 ?_
      refine lv_aload_n hx hb dX11_brings_26 rfl (lv_at hl 2 rfl) ?_
      refine pl_get (v := .int x12) hx hb hts (fun w h => mT (inX11 w h)) hown hG.1 hP hm_mo hf15 rfl 2 (by decide) (hts _ (mT wg_1338)) (fun _ h => h) rfl dX11_brings_27 ?_
      refine lv_iload_n hx hb dX11_brings_30 rfl (lv_at hl 0 rfl) ?_
      refine lv_i2b hx hb dX11_brings_31 rfl ?_
      refine lv_topi (fun x22 ex22 => ?_)
      refine pl_bast hx hb hG.1 hP hD hS hm_ar1 2 hf17 rfl (Bd.in (n := 499) ((ex12 ▸ (Bd.s (hk) (by decide))).mono (by decide)) (by decide)) dX11_brings_32 (fun H locs f23 r26 hf25 ho24 hP hD hS => ?_)
      have hfr27 : ∀ b, b ∈ L → b ≠ mo → b ≠ ar1 → f23 b = f b := fun b hb z0 z1 => (ho24 b z1).trans (hfr16 b hb z0 z1)
      have hf28 := (ho24 mo (kno hf15 hf17)).trans hf15
      refine lv_aload_n hx hb dX11_brings_33 rfl (lv_at hl 2 rfl) ?_
      refine lv_dup hx hb dX11_brings_34 rfl ?_
      refine pl_get (v := .int x12) hx hb hts (fun w h => mT (inX11 w h)) hown hG.1 hP hm_mo hf28 rfl 2 (by decide) (hts _ (mT wg_1338)) (fun _ h => h) rfl dX11_brings_35 ?_
      refine lv_iconst (v := 1) hx hb dX11_brings_38 (by decide) ?_
      refine lv_iadd hx hb dX11_brings_39 ?_
      refine lv_topi (fun x29 ex29 => ?_)
      refine pl_put (ty := .int) (v := .int x29) (fs' := [.int 0, .ref ar1, .int x29, .int 0, .int 0, .int 0, .int 0, .ref ar7, .int 0, .int 0, .ref ar10, .ref ar11, .int 0, .int 0, .int 0, .int 0, .int 0, .int 0, .int 0, .int 0, .int 0, .long 0, .long 0, .int 0, .ref ar24, .int 0, .ref ar26, .ref ar27, .ref ar28, .ref ar29, .ref ar30, .ref ar31, .ref ar32, .ref ar33, .ref ar34, .ref ar35, .int 0, .int 0, .int 0, .int 0, .int 0, .ref ar41, .ref ar42, .ref ar43, .ref ar44, .long 0, .long 0, .int 0, .int 0, .ref ar49, .int 0, .int 0, .ref ar52, .int 0, .ref ar54, .int 0]) hx hb hts (fun w h => mT (inX11 w h)) tyX11 tyX11_ok nmX11 hown hG.1 hP hD hS hm_mo hf28 rfl 2 (by decide) (hts _ (mT wg_1338)) (fun _ h => h) rfl (by decide +kernel) (rfl) (rfl) (Nat.le_of_ble_eq_true rfl) rfl dX11_brings_40 (fun H locs f30 hf32 ho31 hP hD hS => ?_)
      have hfr33 : ∀ b, b ∈ L → b ≠ mo → b ≠ ar1 → f30 b = f b := fun b hb z0 z1 => (ho31 b z0).trans (hfr27 b hb z0 z1)
      have hf34 := (ho31 ar1 (kno hf28 hf25).symm).trans hf25
      refine lv_iinc (v := 8) (lv' := [(2, .int 8), (3, .int x20), (0, .ref mo), (1, .int v)]) hx hb dX11_brings_43 hl (k := 1) rfl (by decide) (by decide) rfl (fun ls hl => ?_)
      refine lv_goto (tgt := 3) hx hb dX11_brings_46 (by decide) ?_
      refine lv_iload_n hx hb dX11_brings_3 rfl (lv_at hl 0 rfl) ?_
      refine lv_if_lt (tgt := 49) hx hb dX11_brings_4 (by decide) (fun c35 => absurd c35 (by decide)) (fun c35 => ?_)
      refine lv_iload_n hx hb dX11_brings_7 rfl (lv_at hl 3 rfl) ?_
      refine lv_iload_n hx hb dX11_brings_8 rfl (lv_at hl 0 rfl) ?_
      refine lv_ishr hx hb dX11_brings_9 ?_
      refine lv_topi (fun x36 ex36 => ?_)
      refine lv_sipush (v := 255) hx hb dX11_brings_10 (by decide) ?_
      refine lv_iand hx hb dX11_brings_13 ?_
      refine lv_topi (fun x37 ex37 => ?_)
      refine lv_istore_n (lv' := [(3, .int x37), (2, .int 8), (0, .ref mo), (1, .int v)]) hx hb dX11_brings_14 rfl hl (by decide) rfl (fun ls hl => ?_)
      refine lv_iload_n hx hb dX11_brings_15 rfl (lv_at hl 0 rfl) ?_
      refine lv_if_ne (tgt := 22) hx hb dX11_brings_16 (by decide) (fun c38 => ?_) (fun c38 => ?_)
      ·
        refine lv_aload_n hx hb dX11_brings_22 rfl (lv_at hl 2 rfl) ?_
        refine pl_get (v := .ref ar1) hx hb hts (fun w h => mT (inX11 w h)) hown hG.1 hP hm_mo hf32 rfl 1 (by decide) (hts _ (mT wg_1337)) (fun _ h => h) rfl dX11_brings_23 ?_
        refine lv_aload_n hx hb dX11_brings_26 rfl (lv_at hl 2 rfl) ?_
        refine pl_get (v := .int x29) hx hb hts (fun w h => mT (inX11 w h)) hown hG.1 hP hm_mo hf32 rfl 2 (by decide) (hts _ (mT wg_1338)) (fun _ h => h) rfl dX11_brings_27 ?_
        refine lv_iload_n hx hb dX11_brings_30 rfl (lv_at hl 0 rfl) ?_
        refine lv_i2b hx hb dX11_brings_31 rfl ?_
        refine lv_topi (fun x39 ex39 => ?_)
        refine pl_bast hx hb hG.1 hP hD hS hm_ar1 2 hf34 rfl (Bd.in (n := 499) ((ex29 ▸ (Bd.s (ex12 ▸ (Bd.s (hk) (by decide))) (by decide))).mono (by decide)) (by decide)) dX11_brings_32 (fun H locs f40 r43 hf42 ho41 hP hD hS => ?_)
        have hfr44 : ∀ b, b ∈ L → b ≠ mo → b ≠ ar1 → f40 b = f b := fun b hb z0 z1 => (ho41 b z1).trans (hfr33 b hb z0 z1)
        have hf45 := (ho41 mo (kno hf32 hf34)).trans hf32
        refine lv_aload_n hx hb dX11_brings_33 rfl (lv_at hl 2 rfl) ?_
        refine lv_dup hx hb dX11_brings_34 rfl ?_
        refine pl_get (v := .int x29) hx hb hts (fun w h => mT (inX11 w h)) hown hG.1 hP hm_mo hf45 rfl 2 (by decide) (hts _ (mT wg_1338)) (fun _ h => h) rfl dX11_brings_35 ?_
        refine lv_iconst (v := 1) hx hb dX11_brings_38 (by decide) ?_
        refine lv_iadd hx hb dX11_brings_39 ?_
        refine lv_topi (fun x46 ex46 => ?_)
        refine pl_put (ty := .int) (v := .int x46) (fs' := [.int 0, .ref ar1, .int x46, .int 0, .int 0, .int 0, .int 0, .ref ar7, .int 0, .int 0, .ref ar10, .ref ar11, .int 0, .int 0, .int 0, .int 0, .int 0, .int 0, .int 0, .int 0, .int 0, .long 0, .long 0, .int 0, .ref ar24, .int 0, .ref ar26, .ref ar27, .ref ar28, .ref ar29, .ref ar30, .ref ar31, .ref ar32, .ref ar33, .ref ar34, .ref ar35, .int 0, .int 0, .int 0, .int 0, .int 0, .ref ar41, .ref ar42, .ref ar43, .ref ar44, .long 0, .long 0, .int 0, .int 0, .ref ar49, .int 0, .int 0, .ref ar52, .int 0, .ref ar54, .int 0]) hx hb hts (fun w h => mT (inX11 w h)) tyX11 tyX11_ok nmX11 hown hG.1 hP hD hS hm_mo hf45 rfl 2 (by decide) (hts _ (mT wg_1338)) (fun _ h => h) rfl (by decide +kernel) (rfl) (rfl) (Nat.le_of_ble_eq_true rfl) rfl dX11_brings_40 (fun H locs f47 hf49 ho48 hP hD hS => ?_)
        have hfr50 : ∀ b, b ∈ L → b ≠ mo → b ≠ ar1 → f47 b = f b := fun b hb z0 z1 => (ho48 b z0).trans (hfr44 b hb z0 z1)
        have hf51 := (ho48 ar1 (kno hf45 hf42).symm).trans hf42
        refine lv_iinc (v := 0) (lv' := [(2, .int 0), (3, .int x37), (0, .ref mo), (1, .int v)]) hx hb dX11_brings_43 hl (k := 1) rfl (by decide) (by decide) rfl (fun ls hl => ?_)
        refine lv_goto (tgt := 3) hx hb dX11_brings_46 (by decide) ?_
        refine lv_iload_n hx hb dX11_brings_3 rfl (lv_at hl 0 rfl) ?_
        refine lv_if_lt (tgt := 49) hx hb dX11_brings_4 (by decide) (fun c52 => absurd c52 (by decide)) (fun c52 => ?_)
        refine lv_iload_n hx hb dX11_brings_7 rfl (lv_at hl 3 rfl) ?_
        refine lv_iload_n hx hb dX11_brings_8 rfl (lv_at hl 0 rfl) ?_
        refine lv_ishr hx hb dX11_brings_9 ?_
        refine lv_topi (fun x53 ex53 => ?_)
        refine lv_sipush (v := 255) hx hb dX11_brings_10 (by decide) ?_
        refine lv_iand hx hb dX11_brings_13 ?_
        refine lv_topi (fun x54 ex54 => ?_)
        refine lv_istore_n (lv' := [(3, .int x54), (2, .int 0), (0, .ref mo), (1, .int v)]) hx hb dX11_brings_14 rfl hl (by decide) rfl (fun ls hl => ?_)
        refine lv_iload_n hx hb dX11_brings_15 rfl (lv_at hl 0 rfl) ?_
        refine lv_if_ne (tgt := 22) hx hb dX11_brings_16 (by decide) (fun c55 => ?_) (fun c55 => ?_)
        ·
          refine lv_aload_n hx hb dX11_brings_22 rfl (lv_at hl 2 rfl) ?_
          refine pl_get (v := .ref ar1) hx hb hts (fun w h => mT (inX11 w h)) hown hG.1 hP hm_mo hf49 rfl 1 (by decide) (hts _ (mT wg_1337)) (fun _ h => h) rfl dX11_brings_23 ?_
          refine lv_aload_n hx hb dX11_brings_26 rfl (lv_at hl 2 rfl) ?_
          refine pl_get (v := .int x46) hx hb hts (fun w h => mT (inX11 w h)) hown hG.1 hP hm_mo hf49 rfl 2 (by decide) (hts _ (mT wg_1338)) (fun _ h => h) rfl dX11_brings_27 ?_
          refine lv_iload_n hx hb dX11_brings_30 rfl (lv_at hl 0 rfl) ?_
          refine lv_i2b hx hb dX11_brings_31 rfl ?_
          refine lv_topi (fun x56 ex56 => ?_)
          refine pl_bast hx hb hG.1 hP hD hS hm_ar1 2 hf51 rfl (Bd.in (n := 499) ((ex46 ▸ (Bd.s (ex29 ▸ (Bd.s (ex12 ▸ (Bd.s (hk) (by decide))) (by decide))) (by decide))).mono (by decide)) (by decide)) dX11_brings_32 (fun H locs f57 r60 hf59 ho58 hP hD hS => ?_)
          have hfr61 : ∀ b, b ∈ L → b ≠ mo → b ≠ ar1 → f57 b = f b := fun b hb z0 z1 => (ho58 b z1).trans (hfr50 b hb z0 z1)
          have hf62 := (ho58 mo (kno hf49 hf51)).trans hf49
          refine lv_aload_n hx hb dX11_brings_33 rfl (lv_at hl 2 rfl) ?_
          refine lv_dup hx hb dX11_brings_34 rfl ?_
          refine pl_get (v := .int x46) hx hb hts (fun w h => mT (inX11 w h)) hown hG.1 hP hm_mo hf62 rfl 2 (by decide) (hts _ (mT wg_1338)) (fun _ h => h) rfl dX11_brings_35 ?_
          refine lv_iconst (v := 1) hx hb dX11_brings_38 (by decide) ?_
          refine lv_iadd hx hb dX11_brings_39 ?_
          refine lv_topi (fun x63 ex63 => ?_)
          refine pl_put (ty := .int) (v := .int x63) (fs' := [.int 0, .ref ar1, .int x63, .int 0, .int 0, .int 0, .int 0, .ref ar7, .int 0, .int 0, .ref ar10, .ref ar11, .int 0, .int 0, .int 0, .int 0, .int 0, .int 0, .int 0, .int 0, .int 0, .long 0, .long 0, .int 0, .ref ar24, .int 0, .ref ar26, .ref ar27, .ref ar28, .ref ar29, .ref ar30, .ref ar31, .ref ar32, .ref ar33, .ref ar34, .ref ar35, .int 0, .int 0, .int 0, .int 0, .int 0, .ref ar41, .ref ar42, .ref ar43, .ref ar44, .long 0, .long 0, .int 0, .int 0, .ref ar49, .int 0, .int 0, .ref ar52, .int 0, .ref ar54, .int 0]) hx hb hts (fun w h => mT (inX11 w h)) tyX11 tyX11_ok nmX11 hown hG.1 hP hD hS hm_mo hf62 rfl 2 (by decide) (hts _ (mT wg_1338)) (fun _ h => h) rfl (by decide +kernel) (rfl) (rfl) (Nat.le_of_ble_eq_true rfl) rfl dX11_brings_40 (fun H locs f64 hf66 ho65 hP hD hS => ?_)
          have hfr67 : ∀ b, b ∈ L → b ≠ mo → b ≠ ar1 → f64 b = f b := fun b hb z0 z1 => (ho65 b z0).trans (hfr61 b hb z0 z1)
          have hf68 := (ho65 ar1 (kno hf62 hf59).symm).trans hf59
          refine lv_iinc (v := (-8)) (lv' := [(2, .int (-8)), (3, .int x54), (0, .ref mo), (1, .int v)]) hx hb dX11_brings_43 hl (k := 1) rfl (by decide) (by decide) rfl (fun ls hl => ?_)
          refine lv_goto (tgt := 3) hx hb dX11_brings_46 (by decide) ?_
          refine lv_iload_n hx hb dX11_brings_3 rfl (lv_at hl 0 rfl) ?_
          refine lv_if_lt (tgt := 49) hx hb dX11_brings_4 (by decide) (fun c69 => ?_) (fun c69 => absurd (by decide) c69)
          exact ret_v hx hb hr hlocks hP hD hS (Nat.le_of_ble_eq_true rfl) (Nat.le_of_ble_eq_true rfl) (⟨r60, (hf66.trans (by simp only [l4S, stp, byS, ← ex2, ← ex3, ex12, ← ex19, ← ex20, ex29, ← ex36, ← ex37, ex46, ← ex53, ← ex54, ex63, c4, c21, c38, c55, reduceIte, eq_self_iff_true])), hf68, hfr67, hsb0⟩) dX11_brings_49
        ·
          refine lv_goto (tgt := 43) hx hb dX11_brings_19 (by decide) ?_
          refine lv_iinc (v := (-8)) (lv' := [(2, .int (-8)), (3, .int x54), (0, .ref mo), (1, .int v)]) hx hb dX11_brings_43 hl (k := 1) rfl (by decide) (by decide) rfl (fun ls hl => ?_)
          refine lv_goto (tgt := 3) hx hb dX11_brings_46 (by decide) ?_
          refine lv_iload_n hx hb dX11_brings_3 rfl (lv_at hl 0 rfl) ?_
          refine lv_if_lt (tgt := 49) hx hb dX11_brings_4 (by decide) (fun c70 => ?_) (fun c70 => absurd (by decide) c70)
          exact ret_v hx hb hr hlocks hP hD hS (Nat.le_of_ble_eq_true rfl) (Nat.le_of_ble_eq_true rfl) (⟨r43, (hf49.trans (by simp only [l4S, stp, byS, ← ex2, ← ex3, ex12, ← ex19, ← ex20, ex29, ← ex36, ← ex37, ex46, ← ex53, ← ex54, c4, c21, c38, c55, reduceIte, eq_self_iff_true])), hf51, hfr50, hsb0⟩) dX11_brings_49
      ·
        refine lv_goto (tgt := 43) hx hb dX11_brings_19 (by decide) ?_
        refine lv_iinc (v := 0) (lv' := [(2, .int 0), (3, .int x37), (0, .ref mo), (1, .int v)]) hx hb dX11_brings_43 hl (k := 1) rfl (by decide) (by decide) rfl (fun ls hl => ?_)
        refine lv_goto (tgt := 3) hx hb dX11_brings_46 (by decide) ?_
        refine lv_iload_n hx hb dX11_brings_3 rfl (lv_at hl 0 rfl) ?_
        refine lv_if_lt (tgt := 49) hx hb dX11_brings_4 (by decide) (fun c71 => absurd c71 (by decide)) (fun c71 => ?_)
        refine lv_iload_n hx hb dX11_brings_7 rfl (lv_at hl 3 rfl) ?_
        refine lv_iload_n hx hb dX11_brings_8 rfl (lv_at hl 0 rfl) ?_
        refine lv_ishr hx hb dX11_brings_9 ?_
        refine lv_topi (fun x72 ex72 => ?_)
        refine lv_sipush (v := 255) hx hb dX11_brings_10 (by decide) ?_
        refine lv_iand hx hb dX11_brings_13 ?_
        refine lv_topi (fun x73 ex73 => ?_)
        refine lv_istore_n (lv' := [(3, .int x73), (2, .int 0), (0, .ref mo), (1, .int v)]) hx hb dX11_brings_14 rfl hl (by decide) rfl (fun ls hl => ?_)
        refine lv_iload_n hx hb dX11_brings_15 rfl (lv_at hl 0 rfl) ?_
        refine lv_if_ne (tgt := 22) hx hb dX11_brings_16 (by decide) (fun c74 => ?_) (fun c74 => ?_)
        ·
          refine lv_aload_n hx hb dX11_brings_22 rfl (lv_at hl 2 rfl) ?_
          refine pl_get (v := .ref ar1) hx hb hts (fun w h => mT (inX11 w h)) hown hG.1 hP hm_mo hf32 rfl 1 (by decide) (hts _ (mT wg_1337)) (fun _ h => h) rfl dX11_brings_23 ?_
          refine lv_aload_n hx hb dX11_brings_26 rfl (lv_at hl 2 rfl) ?_
          refine pl_get (v := .int x29) hx hb hts (fun w h => mT (inX11 w h)) hown hG.1 hP hm_mo hf32 rfl 2 (by decide) (hts _ (mT wg_1338)) (fun _ h => h) rfl dX11_brings_27 ?_
          refine lv_iload_n hx hb dX11_brings_30 rfl (lv_at hl 0 rfl) ?_
          refine lv_i2b hx hb dX11_brings_31 rfl ?_
          refine lv_topi (fun x75 ex75 => ?_)
          refine pl_bast hx hb hG.1 hP hD hS hm_ar1 2 hf34 rfl (Bd.in (n := 499) ((ex29 ▸ (Bd.s (ex12 ▸ (Bd.s (hk) (by decide))) (by decide))).mono (by decide)) (by decide)) dX11_brings_32 (fun H locs f76 r79 hf78 ho77 hP hD hS => ?_)
          have hfr80 : ∀ b, b ∈ L → b ≠ mo → b ≠ ar1 → f76 b = f b := fun b hb z0 z1 => (ho77 b z1).trans (hfr33 b hb z0 z1)
          have hf81 := (ho77 mo (kno hf32 hf34)).trans hf32
          refine lv_aload_n hx hb dX11_brings_33 rfl (lv_at hl 2 rfl) ?_
          refine lv_dup hx hb dX11_brings_34 rfl ?_
          refine pl_get (v := .int x29) hx hb hts (fun w h => mT (inX11 w h)) hown hG.1 hP hm_mo hf81 rfl 2 (by decide) (hts _ (mT wg_1338)) (fun _ h => h) rfl dX11_brings_35 ?_
          refine lv_iconst (v := 1) hx hb dX11_brings_38 (by decide) ?_
          refine lv_iadd hx hb dX11_brings_39 ?_
          refine lv_topi (fun x82 ex82 => ?_)
          refine pl_put (ty := .int) (v := .int x82) (fs' := [.int 0, .ref ar1, .int x82, .int 0, .int 0, .int 0, .int 0, .ref ar7, .int 0, .int 0, .ref ar10, .ref ar11, .int 0, .int 0, .int 0, .int 0, .int 0, .int 0, .int 0, .int 0, .int 0, .long 0, .long 0, .int 0, .ref ar24, .int 0, .ref ar26, .ref ar27, .ref ar28, .ref ar29, .ref ar30, .ref ar31, .ref ar32, .ref ar33, .ref ar34, .ref ar35, .int 0, .int 0, .int 0, .int 0, .int 0, .ref ar41, .ref ar42, .ref ar43, .ref ar44, .long 0, .long 0, .int 0, .int 0, .ref ar49, .int 0, .int 0, .ref ar52, .int 0, .ref ar54, .int 0]) hx hb hts (fun w h => mT (inX11 w h)) tyX11 tyX11_ok nmX11 hown hG.1 hP hD hS hm_mo hf81 rfl 2 (by decide) (hts _ (mT wg_1338)) (fun _ h => h) rfl (by decide +kernel) (rfl) (rfl) (Nat.le_of_ble_eq_true rfl) rfl dX11_brings_40 (fun H locs f83 hf85 ho84 hP hD hS => ?_)
          have hfr86 : ∀ b, b ∈ L → b ≠ mo → b ≠ ar1 → f83 b = f b := fun b hb z0 z1 => (ho84 b z0).trans (hfr80 b hb z0 z1)
          have hf87 := (ho84 ar1 (kno hf81 hf78).symm).trans hf78
          refine lv_iinc (v := (-8)) (lv' := [(2, .int (-8)), (3, .int x73), (0, .ref mo), (1, .int v)]) hx hb dX11_brings_43 hl (k := 1) rfl (by decide) (by decide) rfl (fun ls hl => ?_)
          refine lv_goto (tgt := 3) hx hb dX11_brings_46 (by decide) ?_
          refine lv_iload_n hx hb dX11_brings_3 rfl (lv_at hl 0 rfl) ?_
          refine lv_if_lt (tgt := 49) hx hb dX11_brings_4 (by decide) (fun c88 => ?_) (fun c88 => absurd (by decide) c88)
          exact ret_v hx hb hr hlocks hP hD hS (Nat.le_of_ble_eq_true rfl) (Nat.le_of_ble_eq_true rfl) (⟨r79, (hf85.trans (by simp only [l4S, stp, byS, ← ex2, ← ex3, ex12, ← ex19, ← ex20, ex29, ← ex36, ← ex37, ← ex72, ← ex73, ex82, c4, c21, c38, c74, reduceIte, eq_self_iff_true])), hf87, hfr86, hsb0⟩) dX11_brings_49
        ·
          refine lv_goto (tgt := 43) hx hb dX11_brings_19 (by decide) ?_
          refine lv_iinc (v := (-8)) (lv' := [(2, .int (-8)), (3, .int x73), (0, .ref mo), (1, .int v)]) hx hb dX11_brings_43 hl (k := 1) rfl (by decide) (by decide) rfl (fun ls hl => ?_)
          refine lv_goto (tgt := 3) hx hb dX11_brings_46 (by decide) ?_
          refine lv_iload_n hx hb dX11_brings_3 rfl (lv_at hl 0 rfl) ?_
          refine lv_if_lt (tgt := 49) hx hb dX11_brings_4 (by decide) (fun c89 => ?_) (fun c89 => absurd (by decide) c89)
          exact ret_v hx hb hr hlocks hP hD hS (Nat.le_of_ble_eq_true rfl) (Nat.le_of_ble_eq_true rfl) (⟨r26, (hf32.trans (by simp only [l4S, stp, byS, ← ex2, ← ex3, ex12, ← ex19, ← ex20, ex29, ← ex36, ← ex37, ← ex72, ← ex73, c4, c21, c38, c74, reduceIte, eq_self_iff_true])), hf34, hfr33, hsb0⟩) dX11_brings_49
    ·
      refine lv_goto (tgt := 43) hx hb dX11_brings_19 (by decide) ?_
      refine lv_iinc (v := 8) (lv' := [(2, .int 8), (3, .int x20), (0, .ref mo), (1, .int v)]) hx hb dX11_brings_43 hl (k := 1) rfl (by decide) (by decide) rfl (fun ls hl => ?_)
      refine lv_goto (tgt := 3) hx hb dX11_brings_46 (by decide) ?_
      refine lv_iload_n hx hb dX11_brings_3 rfl (lv_at hl 0 rfl) ?_
      refine lv_if_lt (tgt := 49) hx hb dX11_brings_4 (by decide) (fun c90 => absurd c90 (by decide)) (fun c90 => ?_)
      refine lv_iload_n hx hb dX11_brings_7 rfl (lv_at hl 3 rfl) ?_
      refine lv_iload_n hx hb dX11_brings_8 rfl (lv_at hl 0 rfl) ?_
      refine lv_ishr hx hb dX11_brings_9 ?_
      refine lv_topi (fun x91 ex91 => ?_)
      refine lv_sipush (v := 255) hx hb dX11_brings_10 (by decide) ?_
      refine lv_iand hx hb dX11_brings_13 ?_
      refine lv_topi (fun x92 ex92 => ?_)
      refine lv_istore_n (lv' := [(3, .int x92), (2, .int 8), (0, .ref mo), (1, .int v)]) hx hb dX11_brings_14 rfl hl (by decide) rfl (fun ls hl => ?_)
      refine lv_iload_n hx hb dX11_brings_15 rfl (lv_at hl 0 rfl) ?_
      refine lv_if_ne (tgt := 22) hx hb dX11_brings_16 (by decide) (fun c93 => ?_) (fun c93 => ?_)
      ·
        refine lv_aload_n hx hb dX11_brings_22 rfl (lv_at hl 2 rfl) ?_
        refine pl_get (v := .ref ar1) hx hb hts (fun w h => mT (inX11 w h)) hown hG.1 hP hm_mo hf15 rfl 1 (by decide) (hts _ (mT wg_1337)) (fun _ h => h) rfl dX11_brings_23 ?_
        refine lv_aload_n hx hb dX11_brings_26 rfl (lv_at hl 2 rfl) ?_
        refine pl_get (v := .int x12) hx hb hts (fun w h => mT (inX11 w h)) hown hG.1 hP hm_mo hf15 rfl 2 (by decide) (hts _ (mT wg_1338)) (fun _ h => h) rfl dX11_brings_27 ?_
        refine lv_iload_n hx hb dX11_brings_30 rfl (lv_at hl 0 rfl) ?_
        refine lv_i2b hx hb dX11_brings_31 rfl ?_
        refine lv_topi (fun x94 ex94 => ?_)
        refine pl_bast hx hb hG.1 hP hD hS hm_ar1 2 hf17 rfl (Bd.in (n := 499) ((ex12 ▸ (Bd.s (hk) (by decide))).mono (by decide)) (by decide)) dX11_brings_32 (fun H locs f95 r98 hf97 ho96 hP hD hS => ?_)
        have hfr99 : ∀ b, b ∈ L → b ≠ mo → b ≠ ar1 → f95 b = f b := fun b hb z0 z1 => (ho96 b z1).trans (hfr16 b hb z0 z1)
        have hf100 := (ho96 mo (kno hf15 hf17)).trans hf15
        refine lv_aload_n hx hb dX11_brings_33 rfl (lv_at hl 2 rfl) ?_
        refine lv_dup hx hb dX11_brings_34 rfl ?_
        refine pl_get (v := .int x12) hx hb hts (fun w h => mT (inX11 w h)) hown hG.1 hP hm_mo hf100 rfl 2 (by decide) (hts _ (mT wg_1338)) (fun _ h => h) rfl dX11_brings_35 ?_
        refine lv_iconst (v := 1) hx hb dX11_brings_38 (by decide) ?_
        refine lv_iadd hx hb dX11_brings_39 ?_
        refine lv_topi (fun x101 ex101 => ?_)
        refine pl_put (ty := .int) (v := .int x101) (fs' := [.int 0, .ref ar1, .int x101, .int 0, .int 0, .int 0, .int 0, .ref ar7, .int 0, .int 0, .ref ar10, .ref ar11, .int 0, .int 0, .int 0, .int 0, .int 0, .int 0, .int 0, .int 0, .int 0, .long 0, .long 0, .int 0, .ref ar24, .int 0, .ref ar26, .ref ar27, .ref ar28, .ref ar29, .ref ar30, .ref ar31, .ref ar32, .ref ar33, .ref ar34, .ref ar35, .int 0, .int 0, .int 0, .int 0, .int 0, .ref ar41, .ref ar42, .ref ar43, .ref ar44, .long 0, .long 0, .int 0, .int 0, .ref ar49, .int 0, .int 0, .ref ar52, .int 0, .ref ar54, .int 0]) hx hb hts (fun w h => mT (inX11 w h)) tyX11 tyX11_ok nmX11 hown hG.1 hP hD hS hm_mo hf100 rfl 2 (by decide) (hts _ (mT wg_1338)) (fun _ h => h) rfl (by decide +kernel) (rfl) (rfl) (Nat.le_of_ble_eq_true rfl) rfl dX11_brings_40 (fun H locs f102 hf104 ho103 hP hD hS => ?_)
        have hfr105 : ∀ b, b ∈ L → b ≠ mo → b ≠ ar1 → f102 b = f b := fun b hb z0 z1 => (ho103 b z0).trans (hfr99 b hb z0 z1)
        have hf106 := (ho103 ar1 (kno hf100 hf97).symm).trans hf97
        refine lv_iinc (v := 0) (lv' := [(2, .int 0), (3, .int x92), (0, .ref mo), (1, .int v)]) hx hb dX11_brings_43 hl (k := 1) rfl (by decide) (by decide) rfl (fun ls hl => ?_)
        refine lv_goto (tgt := 3) hx hb dX11_brings_46 (by decide) ?_
        refine lv_iload_n hx hb dX11_brings_3 rfl (lv_at hl 0 rfl) ?_
        refine lv_if_lt (tgt := 49) hx hb dX11_brings_4 (by decide) (fun c107 => absurd c107 (by decide)) (fun c107 => ?_)
        refine lv_iload_n hx hb dX11_brings_7 rfl (lv_at hl 3 rfl) ?_
        refine lv_iload_n hx hb dX11_brings_8 rfl (lv_at hl 0 rfl) ?_
        refine lv_ishr hx hb dX11_brings_9 ?_
        refine lv_topi (fun x108 ex108 => ?_)
        refine lv_sipush (v := 255) hx hb dX11_brings_10 (by decide) ?_
        refine lv_iand hx hb dX11_brings_13 ?_
        refine lv_topi (fun x109 ex109 => ?_)
        refine lv_istore_n (lv' := [(3, .int x109), (2, .int 0), (0, .ref mo), (1, .int v)]) hx hb dX11_brings_14 rfl hl (by decide) rfl (fun ls hl => ?_)
        refine lv_iload_n hx hb dX11_brings_15 rfl (lv_at hl 0 rfl) ?_
        refine lv_if_ne (tgt := 22) hx hb dX11_brings_16 (by decide) (fun c110 => ?_) (fun c110 => ?_)
        ·
          refine lv_aload_n hx hb dX11_brings_22 rfl (lv_at hl 2 rfl) ?_
          refine pl_get (v := .ref ar1) hx hb hts (fun w h => mT (inX11 w h)) hown hG.1 hP hm_mo hf104 rfl 1 (by decide) (hts _ (mT wg_1337)) (fun _ h => h) rfl dX11_brings_23 ?_
          refine lv_aload_n hx hb dX11_brings_26 rfl (lv_at hl 2 rfl) ?_
          refine pl_get (v := .int x101) hx hb hts (fun w h => mT (inX11 w h)) hown hG.1 hP hm_mo hf104 rfl 2 (by decide) (hts _ (mT wg_1338)) (fun _ h => h) rfl dX11_brings_27 ?_
          refine lv_iload_n hx hb dX11_brings_30 rfl (lv_at hl 0 rfl) ?_
          refine lv_i2b hx hb dX11_brings_31 rfl ?_
          refine lv_topi (fun x111 ex111 => ?_)
          refine pl_bast hx hb hG.1 hP hD hS hm_ar1 2 hf106 rfl (Bd.in (n := 499) ((ex101 ▸ (Bd.s (ex12 ▸ (Bd.s (hk) (by decide))) (by decide))).mono (by decide)) (by decide)) dX11_brings_32 (fun H locs f112 r115 hf114 ho113 hP hD hS => ?_)
          have hfr116 : ∀ b, b ∈ L → b ≠ mo → b ≠ ar1 → f112 b = f b := fun b hb z0 z1 => (ho113 b z1).trans (hfr105 b hb z0 z1)
          have hf117 := (ho113 mo (kno hf104 hf106)).trans hf104
          refine lv_aload_n hx hb dX11_brings_33 rfl (lv_at hl 2 rfl) ?_
          refine lv_dup hx hb dX11_brings_34 rfl ?_
          refine pl_get (v := .int x101) hx hb hts (fun w h => mT (inX11 w h)) hown hG.1 hP hm_mo hf117 rfl 2 (by decide) (hts _ (mT wg_1338)) (fun _ h => h) rfl dX11_brings_35 ?_
          refine lv_iconst (v := 1) hx hb dX11_brings_38 (by decide) ?_
          refine lv_iadd hx hb dX11_brings_39 ?_
          refine lv_topi (fun x118 ex118 => ?_)
          refine pl_put (ty := .int) (v := .int x118) (fs' := [.int 0, .ref ar1, .int x118, .int 0, .int 0, .int 0, .int 0, .ref ar7, .int 0, .int 0, .ref ar10, .ref ar11, .int 0, .int 0, .int 0, .int 0, .int 0, .int 0, .int 0, .int 0, .int 0, .long 0, .long 0, .int 0, .ref ar24, .int 0, .ref ar26, .ref ar27, .ref ar28, .ref ar29, .ref ar30, .ref ar31, .ref ar32, .ref ar33, .ref ar34, .ref ar35, .int 0, .int 0, .int 0, .int 0, .int 0, .ref ar41, .ref ar42, .ref ar43, .ref ar44, .long 0, .long 0, .int 0, .int 0, .ref ar49, .int 0, .int 0, .ref ar52, .int 0, .ref ar54, .int 0]) hx hb hts (fun w h => mT (inX11 w h)) tyX11 tyX11_ok nmX11 hown hG.1 hP hD hS hm_mo hf117 rfl 2 (by decide) (hts _ (mT wg_1338)) (fun _ h => h) rfl (by decide +kernel) (rfl) (rfl) (Nat.le_of_ble_eq_true rfl) rfl dX11_brings_40 (fun H locs f119 hf121 ho120 hP hD hS => ?_)
          have hfr122 : ∀ b, b ∈ L → b ≠ mo → b ≠ ar1 → f119 b = f b := fun b hb z0 z1 => (ho120 b z0).trans (hfr116 b hb z0 z1)
          have hf123 := (ho120 ar1 (kno hf117 hf114).symm).trans hf114
          refine lv_iinc (v := (-8)) (lv' := [(2, .int (-8)), (3, .int x109), (0, .ref mo), (1, .int v)]) hx hb dX11_brings_43 hl (k := 1) rfl (by decide) (by decide) rfl (fun ls hl => ?_)
          refine lv_goto (tgt := 3) hx hb dX11_brings_46 (by decide) ?_
          refine lv_iload_n hx hb dX11_brings_3 rfl (lv_at hl 0 rfl) ?_
          refine lv_if_lt (tgt := 49) hx hb dX11_brings_4 (by decide) (fun c124 => ?_) (fun c124 => absurd (by decide) c124)
          exact ret_v hx hb hr hlocks hP hD hS (Nat.le_of_ble_eq_true rfl) (Nat.le_of_ble_eq_true rfl) (⟨r115, (hf121.trans (by simp only [l4S, stp, byS, ← ex2, ← ex3, ex12, ← ex19, ← ex20, ← ex91, ← ex92, ex101, ← ex108, ← ex109, ex118, c4, c21, c93, c110, reduceIte, eq_self_iff_true])), hf123, hfr122, hsb0⟩) dX11_brings_49
        ·
          refine lv_goto (tgt := 43) hx hb dX11_brings_19 (by decide) ?_
          refine lv_iinc (v := (-8)) (lv' := [(2, .int (-8)), (3, .int x109), (0, .ref mo), (1, .int v)]) hx hb dX11_brings_43 hl (k := 1) rfl (by decide) (by decide) rfl (fun ls hl => ?_)
          refine lv_goto (tgt := 3) hx hb dX11_brings_46 (by decide) ?_
          refine lv_iload_n hx hb dX11_brings_3 rfl (lv_at hl 0 rfl) ?_
          refine lv_if_lt (tgt := 49) hx hb dX11_brings_4 (by decide) (fun c125 => ?_) (fun c125 => absurd (by decide) c125)
          exact ret_v hx hb hr hlocks hP hD hS (Nat.le_of_ble_eq_true rfl) (Nat.le_of_ble_eq_true rfl) (⟨r98, (hf104.trans (by simp only [l4S, stp, byS, ← ex2, ← ex3, ex12, ← ex19, ← ex20, ← ex91, ← ex92, ex101, ← ex108, ← ex109, c4, c21, c93, c110, reduceIte, eq_self_iff_true])), hf106, hfr105, hsb0⟩) dX11_brings_49
      ·
        refine lv_goto (tgt := 43) hx hb dX11_brings_19 (by decide) ?_
        refine lv_iinc (v := 0) (lv' := [(2, .int 0), (3, .int x92), (0, .ref mo), (1, .int v)]) hx hb dX11_brings_43 hl (k := 1) rfl (by decide) (by decide) rfl (fun ls hl => ?_)
        refine lv_goto (tgt := 3) hx hb dX11_brings_46 (by decide) ?_
        refine lv_iload_n hx hb dX11_brings_3 rfl (lv_at hl 0 rfl) ?_
        refine lv_if_lt (tgt := 49) hx hb dX11_brings_4 (by decide) (fun c126 => absurd c126 (by decide)) (fun c126 => ?_)
        refine lv_iload_n hx hb dX11_brings_7 rfl (lv_at hl 3 rfl) ?_
        refine lv_iload_n hx hb dX11_brings_8 rfl (lv_at hl 0 rfl) ?_
        refine lv_ishr hx hb dX11_brings_9 ?_
        refine lv_topi (fun x127 ex127 => ?_)
        refine lv_sipush (v := 255) hx hb dX11_brings_10 (by decide) ?_
        refine lv_iand hx hb dX11_brings_13 ?_
        refine lv_topi (fun x128 ex128 => ?_)
        refine lv_istore_n (lv' := [(3, .int x128), (2, .int 0), (0, .ref mo), (1, .int v)]) hx hb dX11_brings_14 rfl hl (by decide) rfl (fun ls hl => ?_)
        refine lv_iload_n hx hb dX11_brings_15 rfl (lv_at hl 0 rfl) ?_
        refine lv_if_ne (tgt := 22) hx hb dX11_brings_16 (by decide) (fun c129 => ?_) (fun c129 => ?_)
        ·
          refine lv_aload_n hx hb dX11_brings_22 rfl (lv_at hl 2 rfl) ?_
          refine pl_get (v := .ref ar1) hx hb hts (fun w h => mT (inX11 w h)) hown hG.1 hP hm_mo hf15 rfl 1 (by decide) (hts _ (mT wg_1337)) (fun _ h => h) rfl dX11_brings_23 ?_
          refine lv_aload_n hx hb dX11_brings_26 rfl (lv_at hl 2 rfl) ?_
          refine pl_get (v := .int x12) hx hb hts (fun w h => mT (inX11 w h)) hown hG.1 hP hm_mo hf15 rfl 2 (by decide) (hts _ (mT wg_1338)) (fun _ h => h) rfl dX11_brings_27 ?_
          refine lv_iload_n hx hb dX11_brings_30 rfl (lv_at hl 0 rfl) ?_
          refine lv_i2b hx hb dX11_brings_31 rfl ?_
          refine lv_topi (fun x130 ex130 => ?_)
          refine pl_bast hx hb hG.1 hP hD hS hm_ar1 2 hf17 rfl (Bd.in (n := 499) ((ex12 ▸ (Bd.s (hk) (by decide))).mono (by decide)) (by decide)) dX11_brings_32 (fun H locs f131 r134 hf133 ho132 hP hD hS => ?_)
          have hfr135 : ∀ b, b ∈ L → b ≠ mo → b ≠ ar1 → f131 b = f b := fun b hb z0 z1 => (ho132 b z1).trans (hfr16 b hb z0 z1)
          have hf136 := (ho132 mo (kno hf15 hf17)).trans hf15
          refine lv_aload_n hx hb dX11_brings_33 rfl (lv_at hl 2 rfl) ?_
          refine lv_dup hx hb dX11_brings_34 rfl ?_
          refine pl_get (v := .int x12) hx hb hts (fun w h => mT (inX11 w h)) hown hG.1 hP hm_mo hf136 rfl 2 (by decide) (hts _ (mT wg_1338)) (fun _ h => h) rfl dX11_brings_35 ?_
          refine lv_iconst (v := 1) hx hb dX11_brings_38 (by decide) ?_
          refine lv_iadd hx hb dX11_brings_39 ?_
          refine lv_topi (fun x137 ex137 => ?_)
          refine pl_put (ty := .int) (v := .int x137) (fs' := [.int 0, .ref ar1, .int x137, .int 0, .int 0, .int 0, .int 0, .ref ar7, .int 0, .int 0, .ref ar10, .ref ar11, .int 0, .int 0, .int 0, .int 0, .int 0, .int 0, .int 0, .int 0, .int 0, .long 0, .long 0, .int 0, .ref ar24, .int 0, .ref ar26, .ref ar27, .ref ar28, .ref ar29, .ref ar30, .ref ar31, .ref ar32, .ref ar33, .ref ar34, .ref ar35, .int 0, .int 0, .int 0, .int 0, .int 0, .ref ar41, .ref ar42, .ref ar43, .ref ar44, .long 0, .long 0, .int 0, .int 0, .ref ar49, .int 0, .int 0, .ref ar52, .int 0, .ref ar54, .int 0]) hx hb hts (fun w h => mT (inX11 w h)) tyX11 tyX11_ok nmX11 hown hG.1 hP hD hS hm_mo hf136 rfl 2 (by decide) (hts _ (mT wg_1338)) (fun _ h => h) rfl (by decide +kernel) (rfl) (rfl) (Nat.le_of_ble_eq_true rfl) rfl dX11_brings_40 (fun H locs f138 hf140 ho139 hP hD hS => ?_)
          have hfr141 : ∀ b, b ∈ L → b ≠ mo → b ≠ ar1 → f138 b = f b := fun b hb z0 z1 => (ho139 b z0).trans (hfr135 b hb z0 z1)
          have hf142 := (ho139 ar1 (kno hf136 hf133).symm).trans hf133
          refine lv_iinc (v := (-8)) (lv' := [(2, .int (-8)), (3, .int x128), (0, .ref mo), (1, .int v)]) hx hb dX11_brings_43 hl (k := 1) rfl (by decide) (by decide) rfl (fun ls hl => ?_)
          refine lv_goto (tgt := 3) hx hb dX11_brings_46 (by decide) ?_
          refine lv_iload_n hx hb dX11_brings_3 rfl (lv_at hl 0 rfl) ?_
          refine lv_if_lt (tgt := 49) hx hb dX11_brings_4 (by decide) (fun c143 => ?_) (fun c143 => absurd (by decide) c143)
          exact ret_v hx hb hr hlocks hP hD hS (Nat.le_of_ble_eq_true rfl) (Nat.le_of_ble_eq_true rfl) (⟨r134, (hf140.trans (by simp only [l4S, stp, byS, ← ex2, ← ex3, ex12, ← ex19, ← ex20, ← ex91, ← ex92, ← ex127, ← ex128, ex137, c4, c21, c93, c129, reduceIte, eq_self_iff_true])), hf142, hfr141, hsb0⟩) dX11_brings_49
        ·
          refine lv_goto (tgt := 43) hx hb dX11_brings_19 (by decide) ?_
          refine lv_iinc (v := (-8)) (lv' := [(2, .int (-8)), (3, .int x128), (0, .ref mo), (1, .int v)]) hx hb dX11_brings_43 hl (k := 1) rfl (by decide) (by decide) rfl (fun ls hl => ?_)
          refine lv_goto (tgt := 3) hx hb dX11_brings_46 (by decide) ?_
          refine lv_iload_n hx hb dX11_brings_3 rfl (lv_at hl 0 rfl) ?_
          refine lv_if_lt (tgt := 49) hx hb dX11_brings_4 (by decide) (fun c144 => ?_) (fun c144 => absurd (by decide) c144)
          exact ret_v hx hb hr hlocks hP hD hS (Nat.le_of_ble_eq_true rfl) (Nat.le_of_ble_eq_true rfl) (⟨r9, (hf15.trans (by simp only [l4S, stp, byS, ← ex2, ← ex3, ex12, ← ex19, ← ex20, ← ex91, ← ex92, ← ex127, ← ex128, c4, c21, c93, c129, reduceIte, eq_self_iff_true])), hf17, hfr16, hsb0⟩) dX11_brings_49
  ·
    refine lv_goto (tgt := 43) hx hb dX11_brings_19 (by decide) ?_
    refine lv_iinc (v := 16) (lv' := [(2, .int 16), (3, .int x3), (0, .ref mo), (1, .int v)]) hx hb dX11_brings_43 hl (k := 1) rfl (by decide) (by decide) rfl (fun ls hl => ?_)
    refine lv_goto (tgt := 3) hx hb dX11_brings_46 (by decide) ?_
    refine lv_iload_n hx hb dX11_brings_3 rfl (lv_at hl 0 rfl) ?_
    refine lv_if_lt (tgt := 49) hx hb dX11_brings_4 (by decide) (fun c145 => absurd c145 (by decide)) (fun c145 => ?_)
    refine lv_iload_n hx hb dX11_brings_7 rfl (lv_at hl 3 rfl) ?_
    refine lv_iload_n hx hb dX11_brings_8 rfl (lv_at hl 0 rfl) ?_
    refine lv_ishr hx hb dX11_brings_9 ?_
    refine lv_topi (fun x146 ex146 => ?_)
    refine lv_sipush (v := 255) hx hb dX11_brings_10 (by decide) ?_
    refine lv_iand hx hb dX11_brings_13 ?_
    refine lv_topi (fun x147 ex147 => ?_)
    refine lv_istore_n (lv' := [(3, .int x147), (2, .int 16), (0, .ref mo), (1, .int v)]) hx hb dX11_brings_14 rfl hl (by decide) rfl (fun ls hl => ?_)
    refine lv_iload_n hx hb dX11_brings_15 rfl (lv_at hl 0 rfl) ?_
    refine lv_if_ne (tgt := 22) hx hb dX11_brings_16 (by decide) (fun c148 => ?_) (fun c148 => ?_)
    ·
      refine lv_aload_n hx hb dX11_brings_22 rfl (lv_at hl 2 rfl) ?_
      refine pl_get (v := .ref ar1) hx hb hts (fun w h => mT (inX11 w h)) hown hG.1 hP hm_mo hf_mo rfl 1 (by decide) (hts _ (mT wg_1337)) (fun _ h => h) rfl dX11_brings_23 ?_
      refine lv_aload_n hx hb dX11_brings_26 rfl (lv_at hl 2 rfl) ?_
      refine pl_get (v := .int k) hx hb hts (fun w h => mT (inX11 w h)) hown hG.1 hP hm_mo hf_mo rfl 2 (by decide) (hts _ (mT wg_1338)) (fun _ h => h) rfl dX11_brings_27 ?_
      refine lv_iload_n hx hb dX11_brings_30 rfl (lv_at hl 0 rfl) ?_
      refine lv_i2b hx hb dX11_brings_31 rfl ?_
      refine lv_topi (fun x149 ex149 => ?_)
      refine pl_bast hx hb hG.1 hP hD hS hm_ar1 2 hf_ar1 rfl (Bd.in (n := 499) (hk.mono (by decide)) (by decide)) dX11_brings_32 (fun H locs f150 r153 hf152 ho151 hP hD hS => ?_)
      have hfr154 : ∀ b, b ∈ L → b ≠ mo → b ≠ ar1 → f150 b = f b := fun b hb z0 z1 => (ho151 b z1).trans (hfr0 b hb z0 z1)
      have hf155 := (ho151 mo (kno hf_mo hf_ar1)).trans hf_mo
      refine lv_aload_n hx hb dX11_brings_33 rfl (lv_at hl 2 rfl) ?_
      refine lv_dup hx hb dX11_brings_34 rfl ?_
      refine pl_get (v := .int k) hx hb hts (fun w h => mT (inX11 w h)) hown hG.1 hP hm_mo hf155 rfl 2 (by decide) (hts _ (mT wg_1338)) (fun _ h => h) rfl dX11_brings_35 ?_
      refine lv_iconst (v := 1) hx hb dX11_brings_38 (by decide) ?_
      refine lv_iadd hx hb dX11_brings_39 ?_
      refine lv_topi (fun x156 ex156 => ?_)
      refine pl_put (ty := .int) (v := .int x156) (fs' := [.int 0, .ref ar1, .int x156, .int 0, .int 0, .int 0, .int 0, .ref ar7, .int 0, .int 0, .ref ar10, .ref ar11, .int 0, .int 0, .int 0, .int 0, .int 0, .int 0, .int 0, .int 0, .int 0, .long 0, .long 0, .int 0, .ref ar24, .int 0, .ref ar26, .ref ar27, .ref ar28, .ref ar29, .ref ar30, .ref ar31, .ref ar32, .ref ar33, .ref ar34, .ref ar35, .int 0, .int 0, .int 0, .int 0, .int 0, .ref ar41, .ref ar42, .ref ar43, .ref ar44, .long 0, .long 0, .int 0, .int 0, .ref ar49, .int 0, .int 0, .ref ar52, .int 0, .ref ar54, .int 0]) hx hb hts (fun w h => mT (inX11 w h)) tyX11 tyX11_ok nmX11 hown hG.1 hP hD hS hm_mo hf155 rfl 2 (by decide) (hts _ (mT wg_1338)) (fun _ h => h) rfl (by decide +kernel) (rfl) (rfl) (Nat.le_of_ble_eq_true rfl) rfl dX11_brings_40 (fun H locs f157 hf159 ho158 hP hD hS => ?_)
      have hfr160 : ∀ b, b ∈ L → b ≠ mo → b ≠ ar1 → f157 b = f b := fun b hb z0 z1 => (ho158 b z0).trans (hfr154 b hb z0 z1)
      have hf161 := (ho158 ar1 (kno hf155 hf152).symm).trans hf152
      refine lv_iinc (v := 8) (lv' := [(2, .int 8), (3, .int x147), (0, .ref mo), (1, .int v)]) hx hb dX11_brings_43 hl (k := 1) rfl (by decide) (by decide) rfl (fun ls hl => ?_)
      refine lv_goto (tgt := 3) hx hb dX11_brings_46 (by decide) ?_
      refine lv_iload_n hx hb dX11_brings_3 rfl (lv_at hl 0 rfl) ?_
      refine lv_if_lt (tgt := 49) hx hb dX11_brings_4 (by decide) (fun c162 => absurd c162 (by decide)) (fun c162 => ?_)
      refine lv_iload_n hx hb dX11_brings_7 rfl (lv_at hl 3 rfl) ?_
      refine lv_iload_n hx hb dX11_brings_8 rfl (lv_at hl 0 rfl) ?_
      refine lv_ishr hx hb dX11_brings_9 ?_
      refine lv_topi (fun x163 ex163 => ?_)
      refine lv_sipush (v := 255) hx hb dX11_brings_10 (by decide) ?_
      refine lv_iand hx hb dX11_brings_13 ?_
      refine lv_topi (fun x164 ex164 => ?_)
      refine lv_istore_n (lv' := [(3, .int x164), (2, .int 8), (0, .ref mo), (1, .int v)]) hx hb dX11_brings_14 rfl hl (by decide) rfl (fun ls hl => ?_)
      refine lv_iload_n hx hb dX11_brings_15 rfl (lv_at hl 0 rfl) ?_
      refine lv_if_ne (tgt := 22) hx hb dX11_brings_16 (by decide) (fun c165 => ?_) (fun c165 => ?_)
      ·
        refine lv_aload_n hx hb dX11_brings_22 rfl (lv_at hl 2 rfl) ?_
        refine pl_get (v := .ref ar1) hx hb hts (fun w h => mT (inX11 w h)) hown hG.1 hP hm_mo hf159 rfl 1 (by decide) (hts _ (mT wg_1337)) (fun _ h => h) rfl dX11_brings_23 ?_
        refine lv_aload_n hx hb dX11_brings_26 rfl (lv_at hl 2 rfl) ?_
        refine pl_get (v := .int x156) hx hb hts (fun w h => mT (inX11 w h)) hown hG.1 hP hm_mo hf159 rfl 2 (by decide) (hts _ (mT wg_1338)) (fun _ h => h) rfl dX11_brings_27 ?_
        refine lv_iload_n hx hb dX11_brings_30 rfl (lv_at hl 0 rfl) ?_
        refine lv_i2b hx hb dX11_brings_31 rfl ?_
        refine lv_topi (fun x166 ex166 => ?_)
        refine pl_bast hx hb hG.1 hP hD hS hm_ar1 2 hf161 rfl (Bd.in (n := 499) ((ex156 ▸ (Bd.s (hk) (by decide))).mono (by decide)) (by decide)) dX11_brings_32 (fun H locs f167 r170 hf169 ho168 hP hD hS => ?_)
        have hfr171 : ∀ b, b ∈ L → b ≠ mo → b ≠ ar1 → f167 b = f b := fun b hb z0 z1 => (ho168 b z1).trans (hfr160 b hb z0 z1)
        have hf172 := (ho168 mo (kno hf159 hf161)).trans hf159
        refine lv_aload_n hx hb dX11_brings_33 rfl (lv_at hl 2 rfl) ?_
        refine lv_dup hx hb dX11_brings_34 rfl ?_
        refine pl_get (v := .int x156) hx hb hts (fun w h => mT (inX11 w h)) hown hG.1 hP hm_mo hf172 rfl 2 (by decide) (hts _ (mT wg_1338)) (fun _ h => h) rfl dX11_brings_35 ?_
        refine lv_iconst (v := 1) hx hb dX11_brings_38 (by decide) ?_
        refine lv_iadd hx hb dX11_brings_39 ?_
        refine lv_topi (fun x173 ex173 => ?_)
        refine pl_put (ty := .int) (v := .int x173) (fs' := [.int 0, .ref ar1, .int x173, .int 0, .int 0, .int 0, .int 0, .ref ar7, .int 0, .int 0, .ref ar10, .ref ar11, .int 0, .int 0, .int 0, .int 0, .int 0, .int 0, .int 0, .int 0, .int 0, .long 0, .long 0, .int 0, .ref ar24, .int 0, .ref ar26, .ref ar27, .ref ar28, .ref ar29, .ref ar30, .ref ar31, .ref ar32, .ref ar33, .ref ar34, .ref ar35, .int 0, .int 0, .int 0, .int 0, .int 0, .ref ar41, .ref ar42, .ref ar43, .ref ar44, .long 0, .long 0, .int 0, .int 0, .ref ar49, .int 0, .int 0, .ref ar52, .int 0, .ref ar54, .int 0]) hx hb hts (fun w h => mT (inX11 w h)) tyX11 tyX11_ok nmX11 hown hG.1 hP hD hS hm_mo hf172 rfl 2 (by decide) (hts _ (mT wg_1338)) (fun _ h => h) rfl (by decide +kernel) (rfl) (rfl) (Nat.le_of_ble_eq_true rfl) rfl dX11_brings_40 (fun H locs f174 hf176 ho175 hP hD hS => ?_)
        have hfr177 : ∀ b, b ∈ L → b ≠ mo → b ≠ ar1 → f174 b = f b := fun b hb z0 z1 => (ho175 b z0).trans (hfr171 b hb z0 z1)
        have hf178 := (ho175 ar1 (kno hf172 hf169).symm).trans hf169
        refine lv_iinc (v := 0) (lv' := [(2, .int 0), (3, .int x164), (0, .ref mo), (1, .int v)]) hx hb dX11_brings_43 hl (k := 1) rfl (by decide) (by decide) rfl (fun ls hl => ?_)
        refine lv_goto (tgt := 3) hx hb dX11_brings_46 (by decide) ?_
        refine lv_iload_n hx hb dX11_brings_3 rfl (lv_at hl 0 rfl) ?_
        refine lv_if_lt (tgt := 49) hx hb dX11_brings_4 (by decide) (fun c179 => absurd c179 (by decide)) (fun c179 => ?_)
        refine lv_iload_n hx hb dX11_brings_7 rfl (lv_at hl 3 rfl) ?_
        refine lv_iload_n hx hb dX11_brings_8 rfl (lv_at hl 0 rfl) ?_
        refine lv_ishr hx hb dX11_brings_9 ?_
        refine lv_topi (fun x180 ex180 => ?_)
        refine lv_sipush (v := 255) hx hb dX11_brings_10 (by decide) ?_
        refine lv_iand hx hb dX11_brings_13 ?_
        refine lv_topi (fun x181 ex181 => ?_)
        refine lv_istore_n (lv' := [(3, .int x181), (2, .int 0), (0, .ref mo), (1, .int v)]) hx hb dX11_brings_14 rfl hl (by decide) rfl (fun ls hl => ?_)
        refine lv_iload_n hx hb dX11_brings_15 rfl (lv_at hl 0 rfl) ?_
        refine lv_if_ne (tgt := 22) hx hb dX11_brings_16 (by decide) (fun c182 => ?_) (fun c182 => ?_)
        ·
          refine lv_aload_n hx hb dX11_brings_22 rfl (lv_at hl 2 rfl) ?_
          refine pl_get (v := .ref ar1) hx hb hts (fun w h => mT (inX11 w h)) hown hG.1 hP hm_mo hf176 rfl 1 (by decide) (hts _ (mT wg_1337)) (fun _ h => h) rfl dX11_brings_23 ?_
          refine lv_aload_n hx hb dX11_brings_26 rfl (lv_at hl 2 rfl) ?_
          refine pl_get (v := .int x173) hx hb hts (fun w h => mT (inX11 w h)) hown hG.1 hP hm_mo hf176 rfl 2 (by decide) (hts _ (mT wg_1338)) (fun _ h => h) rfl dX11_brings_27 ?_
          refine lv_iload_n hx hb dX11_brings_30 rfl (lv_at hl 0 rfl) ?_
          refine lv_i2b hx hb dX11_brings_31 rfl ?_
          refine lv_topi (fun x183 ex183 => ?_)
          refine pl_bast hx hb hG.1 hP hD hS hm_ar1 2 hf178 rfl (Bd.in (n := 499) ((ex173 ▸ (Bd.s (ex156 ▸ (Bd.s (hk) (by decide))) (by decide))).mono (by decide)) (by decide)) dX11_brings_32 (fun H locs f184 r187 hf186 ho185 hP hD hS => ?_)
          have hfr188 : ∀ b, b ∈ L → b ≠ mo → b ≠ ar1 → f184 b = f b := fun b hb z0 z1 => (ho185 b z1).trans (hfr177 b hb z0 z1)
          have hf189 := (ho185 mo (kno hf176 hf178)).trans hf176
          refine lv_aload_n hx hb dX11_brings_33 rfl (lv_at hl 2 rfl) ?_
          refine lv_dup hx hb dX11_brings_34 rfl ?_
          refine pl_get (v := .int x173) hx hb hts (fun w h => mT (inX11 w h)) hown hG.1 hP hm_mo hf189 rfl 2 (by decide) (hts _ (mT wg_1338)) (fun _ h => h) rfl dX11_brings_35 ?_
          refine lv_iconst (v := 1) hx hb dX11_brings_38 (by decide) ?_
          refine lv_iadd hx hb dX11_brings_39 ?_
          refine lv_topi (fun x190 ex190 => ?_)
          refine pl_put (ty := .int) (v := .int x190) (fs' := [.int 0, .ref ar1, .int x190, .int 0, .int 0, .int 0, .int 0, .ref ar7, .int 0, .int 0, .ref ar10, .ref ar11, .int 0, .int 0, .int 0, .int 0, .int 0, .int 0, .int 0, .int 0, .int 0, .long 0, .long 0, .int 0, .ref ar24, .int 0, .ref ar26, .ref ar27, .ref ar28, .ref ar29, .ref ar30, .ref ar31, .ref ar32, .ref ar33, .ref ar34, .ref ar35, .int 0, .int 0, .int 0, .int 0, .int 0, .ref ar41, .ref ar42, .ref ar43, .ref ar44, .long 0, .long 0, .int 0, .int 0, .ref ar49, .int 0, .int 0, .ref ar52, .int 0, .ref ar54, .int 0]) hx hb hts (fun w h => mT (inX11 w h)) tyX11 tyX11_ok nmX11 hown hG.1 hP hD hS hm_mo hf189 rfl 2 (by decide) (hts _ (mT wg_1338)) (fun _ h => h) rfl (by decide +kernel) (rfl) (rfl) (Nat.le_of_ble_eq_true rfl) rfl dX11_brings_40 (fun H locs f191 hf193 ho192 hP hD hS => ?_)
          have hfr194 : ∀ b, b ∈ L → b ≠ mo → b ≠ ar1 → f191 b = f b := fun b hb z0 z1 => (ho192 b z0).trans (hfr188 b hb z0 z1)
          have hf195 := (ho192 ar1 (kno hf189 hf186).symm).trans hf186
          refine lv_iinc (v := (-8)) (lv' := [(2, .int (-8)), (3, .int x181), (0, .ref mo), (1, .int v)]) hx hb dX11_brings_43 hl (k := 1) rfl (by decide) (by decide) rfl (fun ls hl => ?_)
          refine lv_goto (tgt := 3) hx hb dX11_brings_46 (by decide) ?_
          refine lv_iload_n hx hb dX11_brings_3 rfl (lv_at hl 0 rfl) ?_
          refine lv_if_lt (tgt := 49) hx hb dX11_brings_4 (by decide) (fun c196 => ?_) (fun c196 => absurd (by decide) c196)
          exact ret_v hx hb hr hlocks hP hD hS (Nat.le_of_ble_eq_true rfl) (Nat.le_of_ble_eq_true rfl) (⟨r187, (hf193.trans (by simp only [l4S, stp, byS, ← ex2, ← ex3, ← ex146, ← ex147, ex156, ← ex163, ← ex164, ex173, ← ex180, ← ex181, ex190, c4, c148, c165, c182, reduceIte, eq_self_iff_true])), hf195, hfr194, hsb0⟩) dX11_brings_49
        ·
          refine lv_goto (tgt := 43) hx hb dX11_brings_19 (by decide) ?_
          refine lv_iinc (v := (-8)) (lv' := [(2, .int (-8)), (3, .int x181), (0, .ref mo), (1, .int v)]) hx hb dX11_brings_43 hl (k := 1) rfl (by decide) (by decide) rfl (fun ls hl => ?_)
          refine lv_goto (tgt := 3) hx hb dX11_brings_46 (by decide) ?_
          refine lv_iload_n hx hb dX11_brings_3 rfl (lv_at hl 0 rfl) ?_
          refine lv_if_lt (tgt := 49) hx hb dX11_brings_4 (by decide) (fun c197 => ?_) (fun c197 => absurd (by decide) c197)
          exact ret_v hx hb hr hlocks hP hD hS (Nat.le_of_ble_eq_true rfl) (Nat.le_of_ble_eq_true rfl) (⟨r170, (hf176.trans (by simp only [l4S, stp, byS, ← ex2, ← ex3, ← ex146, ← ex147, ex156, ← ex163, ← ex164, ex173, ← ex180, ← ex181, c4, c148, c165, c182, reduceIte, eq_self_iff_true])), hf178, hfr177, hsb0⟩) dX11_brings_49
      ·
        refine lv_goto (tgt := 43) hx hb dX11_brings_19 (by decide) ?_
        refine lv_iinc (v := 0) (lv' := [(2, .int 0), (3, .int x164), (0, .ref mo), (1, .int v)]) hx hb dX11_brings_43 hl (k := 1) rfl (by decide) (by decide) rfl (fun ls hl => ?_)
        refine lv_goto (tgt := 3) hx hb dX11_brings_46 (by decide) ?_
        refine lv_iload_n hx hb dX11_brings_3 rfl (lv_at hl 0 rfl) ?_
        refine lv_if_lt (tgt := 49) hx hb dX11_brings_4 (by decide) (fun c198 => absurd c198 (by decide)) (fun c198 => ?_)
        refine lv_iload_n hx hb dX11_brings_7 rfl (lv_at hl 3 rfl) ?_
        refine lv_iload_n hx hb dX11_brings_8 rfl (lv_at hl 0 rfl) ?_
        refine lv_ishr hx hb dX11_brings_9 ?_
        refine lv_topi (fun x199 ex199 => ?_)
        refine lv_sipush (v := 255) hx hb dX11_brings_10 (by decide) ?_
        refine lv_iand hx hb dX11_brings_13 ?_
        refine lv_topi (fun x200 ex200 => ?_)
        refine lv_istore_n (lv' := [(3, .int x200), (2, .int 0), (0, .ref mo), (1, .int v)]) hx hb dX11_brings_14 rfl hl (by decide) rfl (fun ls hl => ?_)
        refine lv_iload_n hx hb dX11_brings_15 rfl (lv_at hl 0 rfl) ?_
        refine lv_if_ne (tgt := 22) hx hb dX11_brings_16 (by decide) (fun c201 => ?_) (fun c201 => ?_)
        ·
          refine lv_aload_n hx hb dX11_brings_22 rfl (lv_at hl 2 rfl) ?_
          refine pl_get (v := .ref ar1) hx hb hts (fun w h => mT (inX11 w h)) hown hG.1 hP hm_mo hf159 rfl 1 (by decide) (hts _ (mT wg_1337)) (fun _ h => h) rfl dX11_brings_23 ?_
          refine lv_aload_n hx hb dX11_brings_26 rfl (lv_at hl 2 rfl) ?_
          refine pl_get (v := .int x156) hx hb hts (fun w h => mT (inX11 w h)) hown hG.1 hP hm_mo hf159 rfl 2 (by decide) (hts _ (mT wg_1338)) (fun _ h => h) rfl dX11_brings_27 ?_
          refine lv_iload_n hx hb dX11_brings_30 rfl (lv_at hl 0 rfl) ?_
          refine lv_i2b hx hb dX11_brings_31 rfl ?_
          refine lv_topi (fun x202 ex202 => ?_)
          refine pl_bast hx hb hG.1 hP hD hS hm_ar1 2 hf161 rfl (Bd.in (n := 499) ((ex156 ▸ (Bd.s (hk) (by decide))).mono (by decide)) (by decide)) dX11_brings_32 (fun H locs f203 r206 hf205 ho204 hP hD hS => ?_)
          have hfr207 : ∀ b, b ∈ L → b ≠ mo → b ≠ ar1 → f203 b = f b := fun b hb z0 z1 => (ho204 b z1).trans (hfr160 b hb z0 z1)
          have hf208 := (ho204 mo (kno hf159 hf161)).trans hf159
          refine lv_aload_n hx hb dX11_brings_33 rfl (lv_at hl 2 rfl) ?_
          refine lv_dup hx hb dX11_brings_34 rfl ?_
          refine pl_get (v := .int x156) hx hb hts (fun w h => mT (inX11 w h)) hown hG.1 hP hm_mo hf208 rfl 2 (by decide) (hts _ (mT wg_1338)) (fun _ h => h) rfl dX11_brings_35 ?_
          refine lv_iconst (v := 1) hx hb dX11_brings_38 (by decide) ?_
          refine lv_iadd hx hb dX11_brings_39 ?_
          refine lv_topi (fun x209 ex209 => ?_)
          refine pl_put (ty := .int) (v := .int x209) (fs' := [.int 0, .ref ar1, .int x209, .int 0, .int 0, .int 0, .int 0, .ref ar7, .int 0, .int 0, .ref ar10, .ref ar11, .int 0, .int 0, .int 0, .int 0, .int 0, .int 0, .int 0, .int 0, .int 0, .long 0, .long 0, .int 0, .ref ar24, .int 0, .ref ar26, .ref ar27, .ref ar28, .ref ar29, .ref ar30, .ref ar31, .ref ar32, .ref ar33, .ref ar34, .ref ar35, .int 0, .int 0, .int 0, .int 0, .int 0, .ref ar41, .ref ar42, .ref ar43, .ref ar44, .long 0, .long 0, .int 0, .int 0, .ref ar49, .int 0, .int 0, .ref ar52, .int 0, .ref ar54, .int 0]) hx hb hts (fun w h => mT (inX11 w h)) tyX11 tyX11_ok nmX11 hown hG.1 hP hD hS hm_mo hf208 rfl 2 (by decide) (hts _ (mT wg_1338)) (fun _ h => h) rfl (by decide +kernel) (rfl) (rfl) (Nat.le_of_ble_eq_true rfl) rfl dX11_brings_40 (fun H locs f210 hf212 ho211 hP hD hS => ?_)
          have hfr213 : ∀ b, b ∈ L → b ≠ mo → b ≠ ar1 → f210 b = f b := fun b hb z0 z1 => (ho211 b z0).trans (hfr207 b hb z0 z1)
          have hf214 := (ho211 ar1 (kno hf208 hf205).symm).trans hf205
          refine lv_iinc (v := (-8)) (lv' := [(2, .int (-8)), (3, .int x200), (0, .ref mo), (1, .int v)]) hx hb dX11_brings_43 hl (k := 1) rfl (by decide) (by decide) rfl (fun ls hl => ?_)
          refine lv_goto (tgt := 3) hx hb dX11_brings_46 (by decide) ?_
          refine lv_iload_n hx hb dX11_brings_3 rfl (lv_at hl 0 rfl) ?_
          refine lv_if_lt (tgt := 49) hx hb dX11_brings_4 (by decide) (fun c215 => ?_) (fun c215 => absurd (by decide) c215)
          exact ret_v hx hb hr hlocks hP hD hS (Nat.le_of_ble_eq_true rfl) (Nat.le_of_ble_eq_true rfl) (⟨r206, (hf212.trans (by simp only [l4S, stp, byS, ← ex2, ← ex3, ← ex146, ← ex147, ex156, ← ex163, ← ex164, ← ex199, ← ex200, ex209, c4, c148, c165, c201, reduceIte, eq_self_iff_true])), hf214, hfr213, hsb0⟩) dX11_brings_49
        ·
          refine lv_goto (tgt := 43) hx hb dX11_brings_19 (by decide) ?_
          refine lv_iinc (v := (-8)) (lv' := [(2, .int (-8)), (3, .int x200), (0, .ref mo), (1, .int v)]) hx hb dX11_brings_43 hl (k := 1) rfl (by decide) (by decide) rfl (fun ls hl => ?_)
          refine lv_goto (tgt := 3) hx hb dX11_brings_46 (by decide) ?_
          refine lv_iload_n hx hb dX11_brings_3 rfl (lv_at hl 0 rfl) ?_
          refine lv_if_lt (tgt := 49) hx hb dX11_brings_4 (by decide) (fun c216 => ?_) (fun c216 => absurd (by decide) c216)
          exact ret_v hx hb hr hlocks hP hD hS (Nat.le_of_ble_eq_true rfl) (Nat.le_of_ble_eq_true rfl) (⟨r153, (hf159.trans (by simp only [l4S, stp, byS, ← ex2, ← ex3, ← ex146, ← ex147, ex156, ← ex163, ← ex164, ← ex199, ← ex200, c4, c148, c165, c201, reduceIte, eq_self_iff_true])), hf161, hfr160, hsb0⟩) dX11_brings_49
    ·
      refine lv_goto (tgt := 43) hx hb dX11_brings_19 (by decide) ?_
      refine lv_iinc (v := 8) (lv' := [(2, .int 8), (3, .int x147), (0, .ref mo), (1, .int v)]) hx hb dX11_brings_43 hl (k := 1) rfl (by decide) (by decide) rfl (fun ls hl => ?_)
      refine lv_goto (tgt := 3) hx hb dX11_brings_46 (by decide) ?_
      refine lv_iload_n hx hb dX11_brings_3 rfl (lv_at hl 0 rfl) ?_
      refine lv_if_lt (tgt := 49) hx hb dX11_brings_4 (by decide) (fun c217 => absurd c217 (by decide)) (fun c217 => ?_)
      refine lv_iload_n hx hb dX11_brings_7 rfl (lv_at hl 3 rfl) ?_
      refine lv_iload_n hx hb dX11_brings_8 rfl (lv_at hl 0 rfl) ?_
      refine lv_ishr hx hb dX11_brings_9 ?_
      refine lv_topi (fun x218 ex218 => ?_)
      refine lv_sipush (v := 255) hx hb dX11_brings_10 (by decide) ?_
      refine lv_iand hx hb dX11_brings_13 ?_
      refine lv_topi (fun x219 ex219 => ?_)
      refine lv_istore_n (lv' := [(3, .int x219), (2, .int 8), (0, .ref mo), (1, .int v)]) hx hb dX11_brings_14 rfl hl (by decide) rfl (fun ls hl => ?_)
      refine lv_iload_n hx hb dX11_brings_15 rfl (lv_at hl 0 rfl) ?_
      refine lv_if_ne (tgt := 22) hx hb dX11_brings_16 (by decide) (fun c220 => ?_) (fun c220 => ?_)
      ·
        refine lv_aload_n hx hb dX11_brings_22 rfl (lv_at hl 2 rfl) ?_
        refine pl_get (v := .ref ar1) hx hb hts (fun w h => mT (inX11 w h)) hown hG.1 hP hm_mo hf_mo rfl 1 (by decide) (hts _ (mT wg_1337)) (fun _ h => h) rfl dX11_brings_23 ?_
        refine lv_aload_n hx hb dX11_brings_26 rfl (lv_at hl 2 rfl) ?_
        refine pl_get (v := .int k) hx hb hts (fun w h => mT (inX11 w h)) hown hG.1 hP hm_mo hf_mo rfl 2 (by decide) (hts _ (mT wg_1338)) (fun _ h => h) rfl dX11_brings_27 ?_
        refine lv_iload_n hx hb dX11_brings_30 rfl (lv_at hl 0 rfl) ?_
        refine lv_i2b hx hb dX11_brings_31 rfl ?_
        refine lv_topi (fun x221 ex221 => ?_)
        refine pl_bast hx hb hG.1 hP hD hS hm_ar1 2 hf_ar1 rfl (Bd.in (n := 499) (hk.mono (by decide)) (by decide)) dX11_brings_32 (fun H locs f222 r225 hf224 ho223 hP hD hS => ?_)
        have hfr226 : ∀ b, b ∈ L → b ≠ mo → b ≠ ar1 → f222 b = f b := fun b hb z0 z1 => (ho223 b z1).trans (hfr0 b hb z0 z1)
        have hf227 := (ho223 mo (kno hf_mo hf_ar1)).trans hf_mo
        refine lv_aload_n hx hb dX11_brings_33 rfl (lv_at hl 2 rfl) ?_
        refine lv_dup hx hb dX11_brings_34 rfl ?_
        refine pl_get (v := .int k) hx hb hts (fun w h => mT (inX11 w h)) hown hG.1 hP hm_mo hf227 rfl 2 (by decide) (hts _ (mT wg_1338)) (fun _ h => h) rfl dX11_brings_35 ?_
        refine lv_iconst (v := 1) hx hb dX11_brings_38 (by decide) ?_
        refine lv_iadd hx hb dX11_brings_39 ?_
        refine lv_topi (fun x228 ex228 => ?_)
        refine pl_put (ty := .int) (v := .int x228) (fs' := [.int 0, .ref ar1, .int x228, .int 0, .int 0, .int 0, .int 0, .ref ar7, .int 0, .int 0, .ref ar10, .ref ar11, .int 0, .int 0, .int 0, .int 0, .int 0, .int 0, .int 0, .int 0, .int 0, .long 0, .long 0, .int 0, .ref ar24, .int 0, .ref ar26, .ref ar27, .ref ar28, .ref ar29, .ref ar30, .ref ar31, .ref ar32, .ref ar33, .ref ar34, .ref ar35, .int 0, .int 0, .int 0, .int 0, .int 0, .ref ar41, .ref ar42, .ref ar43, .ref ar44, .long 0, .long 0, .int 0, .int 0, .ref ar49, .int 0, .int 0, .ref ar52, .int 0, .ref ar54, .int 0]) hx hb hts (fun w h => mT (inX11 w h)) tyX11 tyX11_ok nmX11 hown hG.1 hP hD hS hm_mo hf227 rfl 2 (by decide) (hts _ (mT wg_1338)) (fun _ h => h) rfl (by decide +kernel) (rfl) (rfl) (Nat.le_of_ble_eq_true rfl) rfl dX11_brings_40 (fun H locs f229 hf231 ho230 hP hD hS => ?_)
        have hfr232 : ∀ b, b ∈ L → b ≠ mo → b ≠ ar1 → f229 b = f b := fun b hb z0 z1 => (ho230 b z0).trans (hfr226 b hb z0 z1)
        have hf233 := (ho230 ar1 (kno hf227 hf224).symm).trans hf224
        refine lv_iinc (v := 0) (lv' := [(2, .int 0), (3, .int x219), (0, .ref mo), (1, .int v)]) hx hb dX11_brings_43 hl (k := 1) rfl (by decide) (by decide) rfl (fun ls hl => ?_)
        refine lv_goto (tgt := 3) hx hb dX11_brings_46 (by decide) ?_
        refine lv_iload_n hx hb dX11_brings_3 rfl (lv_at hl 0 rfl) ?_
        refine lv_if_lt (tgt := 49) hx hb dX11_brings_4 (by decide) (fun c234 => absurd c234 (by decide)) (fun c234 => ?_)
        refine lv_iload_n hx hb dX11_brings_7 rfl (lv_at hl 3 rfl) ?_
        refine lv_iload_n hx hb dX11_brings_8 rfl (lv_at hl 0 rfl) ?_
        refine lv_ishr hx hb dX11_brings_9 ?_
        refine lv_topi (fun x235 ex235 => ?_)
        refine lv_sipush (v := 255) hx hb dX11_brings_10 (by decide) ?_
        refine lv_iand hx hb dX11_brings_13 ?_
        refine lv_topi (fun x236 ex236 => ?_)
        refine lv_istore_n (lv' := [(3, .int x236), (2, .int 0), (0, .ref mo), (1, .int v)]) hx hb dX11_brings_14 rfl hl (by decide) rfl (fun ls hl => ?_)
        refine lv_iload_n hx hb dX11_brings_15 rfl (lv_at hl 0 rfl) ?_
        refine lv_if_ne (tgt := 22) hx hb dX11_brings_16 (by decide) (fun c237 => ?_) (fun c237 => ?_)
        ·
          refine lv_aload_n hx hb dX11_brings_22 rfl (lv_at hl 2 rfl) ?_
          refine pl_get (v := .ref ar1) hx hb hts (fun w h => mT (inX11 w h)) hown hG.1 hP hm_mo hf231 rfl 1 (by decide) (hts _ (mT wg_1337)) (fun _ h => h) rfl dX11_brings_23 ?_
          refine lv_aload_n hx hb dX11_brings_26 rfl (lv_at hl 2 rfl) ?_
          refine pl_get (v := .int x228) hx hb hts (fun w h => mT (inX11 w h)) hown hG.1 hP hm_mo hf231 rfl 2 (by decide) (hts _ (mT wg_1338)) (fun _ h => h) rfl dX11_brings_27 ?_
          refine lv_iload_n hx hb dX11_brings_30 rfl (lv_at hl 0 rfl) ?_
          refine lv_i2b hx hb dX11_brings_31 rfl ?_
          refine lv_topi (fun x238 ex238 => ?_)
          refine pl_bast hx hb hG.1 hP hD hS hm_ar1 2 hf233 rfl (Bd.in (n := 499) ((ex228 ▸ (Bd.s (hk) (by decide))).mono (by decide)) (by decide)) dX11_brings_32 (fun H locs f239 r242 hf241 ho240 hP hD hS => ?_)
          have hfr243 : ∀ b, b ∈ L → b ≠ mo → b ≠ ar1 → f239 b = f b := fun b hb z0 z1 => (ho240 b z1).trans (hfr232 b hb z0 z1)
          have hf244 := (ho240 mo (kno hf231 hf233)).trans hf231
          refine lv_aload_n hx hb dX11_brings_33 rfl (lv_at hl 2 rfl) ?_
          refine lv_dup hx hb dX11_brings_34 rfl ?_
          refine pl_get (v := .int x228) hx hb hts (fun w h => mT (inX11 w h)) hown hG.1 hP hm_mo hf244 rfl 2 (by decide) (hts _ (mT wg_1338)) (fun _ h => h) rfl dX11_brings_35 ?_
          refine lv_iconst (v := 1) hx hb dX11_brings_38 (by decide) ?_
          refine lv_iadd hx hb dX11_brings_39 ?_
          refine lv_topi (fun x245 ex245 => ?_)
          refine pl_put (ty := .int) (v := .int x245) (fs' := [.int 0, .ref ar1, .int x245, .int 0, .int 0, .int 0, .int 0, .ref ar7, .int 0, .int 0, .ref ar10, .ref ar11, .int 0, .int 0, .int 0, .int 0, .int 0, .int 0, .int 0, .int 0, .int 0, .long 0, .long 0, .int 0, .ref ar24, .int 0, .ref ar26, .ref ar27, .ref ar28, .ref ar29, .ref ar30, .ref ar31, .ref ar32, .ref ar33, .ref ar34, .ref ar35, .int 0, .int 0, .int 0, .int 0, .int 0, .ref ar41, .ref ar42, .ref ar43, .ref ar44, .long 0, .long 0, .int 0, .int 0, .ref ar49, .int 0, .int 0, .ref ar52, .int 0, .ref ar54, .int 0]) hx hb hts (fun w h => mT (inX11 w h)) tyX11 tyX11_ok nmX11 hown hG.1 hP hD hS hm_mo hf244 rfl 2 (by decide) (hts _ (mT wg_1338)) (fun _ h => h) rfl (by decide +kernel) (rfl) (rfl) (Nat.le_of_ble_eq_true rfl) rfl dX11_brings_40 (fun H locs f246 hf248 ho247 hP hD hS => ?_)
          have hfr249 : ∀ b, b ∈ L → b ≠ mo → b ≠ ar1 → f246 b = f b := fun b hb z0 z1 => (ho247 b z0).trans (hfr243 b hb z0 z1)
          have hf250 := (ho247 ar1 (kno hf244 hf241).symm).trans hf241
          refine lv_iinc (v := (-8)) (lv' := [(2, .int (-8)), (3, .int x236), (0, .ref mo), (1, .int v)]) hx hb dX11_brings_43 hl (k := 1) rfl (by decide) (by decide) rfl (fun ls hl => ?_)
          refine lv_goto (tgt := 3) hx hb dX11_brings_46 (by decide) ?_
          refine lv_iload_n hx hb dX11_brings_3 rfl (lv_at hl 0 rfl) ?_
          refine lv_if_lt (tgt := 49) hx hb dX11_brings_4 (by decide) (fun c251 => ?_) (fun c251 => absurd (by decide) c251)
          exact ret_v hx hb hr hlocks hP hD hS (Nat.le_of_ble_eq_true rfl) (Nat.le_of_ble_eq_true rfl) (⟨r242, (hf248.trans (by simp only [l4S, stp, byS, ← ex2, ← ex3, ← ex146, ← ex147, ← ex218, ← ex219, ex228, ← ex235, ← ex236, ex245, c4, c148, c220, c237, reduceIte, eq_self_iff_true])), hf250, hfr249, hsb0⟩) dX11_brings_49
        ·
          refine lv_goto (tgt := 43) hx hb dX11_brings_19 (by decide) ?_
          refine lv_iinc (v := (-8)) (lv' := [(2, .int (-8)), (3, .int x236), (0, .ref mo), (1, .int v)]) hx hb dX11_brings_43 hl (k := 1) rfl (by decide) (by decide) rfl (fun ls hl => ?_)
          refine lv_goto (tgt := 3) hx hb dX11_brings_46 (by decide) ?_
          refine lv_iload_n hx hb dX11_brings_3 rfl (lv_at hl 0 rfl) ?_
          refine lv_if_lt (tgt := 49) hx hb dX11_brings_4 (by decide) (fun c252 => ?_) (fun c252 => absurd (by decide) c252)
          exact ret_v hx hb hr hlocks hP hD hS (Nat.le_of_ble_eq_true rfl) (Nat.le_of_ble_eq_true rfl) (⟨r225, (hf231.trans (by simp only [l4S, stp, byS, ← ex2, ← ex3, ← ex146, ← ex147, ← ex218, ← ex219, ex228, ← ex235, ← ex236, c4, c148, c220, c237, reduceIte, eq_self_iff_true])), hf233, hfr232, hsb0⟩) dX11_brings_49
      ·
        refine lv_goto (tgt := 43) hx hb dX11_brings_19 (by decide) ?_
        refine lv_iinc (v := 0) (lv' := [(2, .int 0), (3, .int x219), (0, .ref mo), (1, .int v)]) hx hb dX11_brings_43 hl (k := 1) rfl (by decide) (by decide) rfl (fun ls hl => ?_)
        refine lv_goto (tgt := 3) hx hb dX11_brings_46 (by decide) ?_
        refine lv_iload_n hx hb dX11_brings_3 rfl (lv_at hl 0 rfl) ?_
        refine lv_if_lt (tgt := 49) hx hb dX11_brings_4 (by decide) (fun c253 => absurd c253 (by decide)) (fun c253 => ?_)
        refine lv_iload_n hx hb dX11_brings_7 rfl (lv_at hl 3 rfl) ?_
        refine lv_iload_n hx hb dX11_brings_8 rfl (lv_at hl 0 rfl) ?_
        refine lv_ishr hx hb dX11_brings_9 ?_
        refine lv_topi (fun x254 ex254 => ?_)
        refine lv_sipush (v := 255) hx hb dX11_brings_10 (by decide) ?_
        refine lv_iand hx hb dX11_brings_13 ?_
        refine lv_topi (fun x255 ex255 => ?_)
        refine lv_istore_n (lv' := [(3, .int x255), (2, .int 0), (0, .ref mo), (1, .int v)]) hx hb dX11_brings_14 rfl hl (by decide) rfl (fun ls hl => ?_)
        refine lv_iload_n hx hb dX11_brings_15 rfl (lv_at hl 0 rfl) ?_
        refine lv_if_ne (tgt := 22) hx hb dX11_brings_16 (by decide) (fun c256 => ?_) (fun c256 => ?_)
        ·
          refine lv_aload_n hx hb dX11_brings_22 rfl (lv_at hl 2 rfl) ?_
          refine pl_get (v := .ref ar1) hx hb hts (fun w h => mT (inX11 w h)) hown hG.1 hP hm_mo hf_mo rfl 1 (by decide) (hts _ (mT wg_1337)) (fun _ h => h) rfl dX11_brings_23 ?_
          refine lv_aload_n hx hb dX11_brings_26 rfl (lv_at hl 2 rfl) ?_
          refine pl_get (v := .int k) hx hb hts (fun w h => mT (inX11 w h)) hown hG.1 hP hm_mo hf_mo rfl 2 (by decide) (hts _ (mT wg_1338)) (fun _ h => h) rfl dX11_brings_27 ?_
          refine lv_iload_n hx hb dX11_brings_30 rfl (lv_at hl 0 rfl) ?_
          refine lv_i2b hx hb dX11_brings_31 rfl ?_
          refine lv_topi (fun x257 ex257 => ?_)
          refine pl_bast hx hb hG.1 hP hD hS hm_ar1 2 hf_ar1 rfl (Bd.in (n := 499) (hk.mono (by decide)) (by decide)) dX11_brings_32 (fun H locs f258 r261 hf260 ho259 hP hD hS => ?_)
          have hfr262 : ∀ b, b ∈ L → b ≠ mo → b ≠ ar1 → f258 b = f b := fun b hb z0 z1 => (ho259 b z1).trans (hfr0 b hb z0 z1)
          have hf263 := (ho259 mo (kno hf_mo hf_ar1)).trans hf_mo
          refine lv_aload_n hx hb dX11_brings_33 rfl (lv_at hl 2 rfl) ?_
          refine lv_dup hx hb dX11_brings_34 rfl ?_
          refine pl_get (v := .int k) hx hb hts (fun w h => mT (inX11 w h)) hown hG.1 hP hm_mo hf263 rfl 2 (by decide) (hts _ (mT wg_1338)) (fun _ h => h) rfl dX11_brings_35 ?_
          refine lv_iconst (v := 1) hx hb dX11_brings_38 (by decide) ?_
          refine lv_iadd hx hb dX11_brings_39 ?_
          refine lv_topi (fun x264 ex264 => ?_)
          refine pl_put (ty := .int) (v := .int x264) (fs' := [.int 0, .ref ar1, .int x264, .int 0, .int 0, .int 0, .int 0, .ref ar7, .int 0, .int 0, .ref ar10, .ref ar11, .int 0, .int 0, .int 0, .int 0, .int 0, .int 0, .int 0, .int 0, .int 0, .long 0, .long 0, .int 0, .ref ar24, .int 0, .ref ar26, .ref ar27, .ref ar28, .ref ar29, .ref ar30, .ref ar31, .ref ar32, .ref ar33, .ref ar34, .ref ar35, .int 0, .int 0, .int 0, .int 0, .int 0, .ref ar41, .ref ar42, .ref ar43, .ref ar44, .long 0, .long 0, .int 0, .int 0, .ref ar49, .int 0, .int 0, .ref ar52, .int 0, .ref ar54, .int 0]) hx hb hts (fun w h => mT (inX11 w h)) tyX11 tyX11_ok nmX11 hown hG.1 hP hD hS hm_mo hf263 rfl 2 (by decide) (hts _ (mT wg_1338)) (fun _ h => h) rfl (by decide +kernel) (rfl) (rfl) (Nat.le_of_ble_eq_true rfl) rfl dX11_brings_40 (fun H locs f265 hf267 ho266 hP hD hS => ?_)
          have hfr268 : ∀ b, b ∈ L → b ≠ mo → b ≠ ar1 → f265 b = f b := fun b hb z0 z1 => (ho266 b z0).trans (hfr262 b hb z0 z1)
          have hf269 := (ho266 ar1 (kno hf263 hf260).symm).trans hf260
          refine lv_iinc (v := (-8)) (lv' := [(2, .int (-8)), (3, .int x255), (0, .ref mo), (1, .int v)]) hx hb dX11_brings_43 hl (k := 1) rfl (by decide) (by decide) rfl (fun ls hl => ?_)
          refine lv_goto (tgt := 3) hx hb dX11_brings_46 (by decide) ?_
          refine lv_iload_n hx hb dX11_brings_3 rfl (lv_at hl 0 rfl) ?_
          refine lv_if_lt (tgt := 49) hx hb dX11_brings_4 (by decide) (fun c270 => ?_) (fun c270 => absurd (by decide) c270)
          exact ret_v hx hb hr hlocks hP hD hS (Nat.le_of_ble_eq_true rfl) (Nat.le_of_ble_eq_true rfl) (⟨r261, (hf267.trans (by simp only [l4S, stp, byS, ← ex2, ← ex3, ← ex146, ← ex147, ← ex218, ← ex219, ← ex254, ← ex255, ex264, c4, c148, c220, c256, reduceIte, eq_self_iff_true])), hf269, hfr268, hsb0⟩) dX11_brings_49
        ·
          refine lv_goto (tgt := 43) hx hb dX11_brings_19 (by decide) ?_
          refine lv_iinc (v := (-8)) (lv' := [(2, .int (-8)), (3, .int x255), (0, .ref mo), (1, .int v)]) hx hb dX11_brings_43 hl (k := 1) rfl (by decide) (by decide) rfl (fun ls hl => ?_)
          refine lv_goto (tgt := 3) hx hb dX11_brings_46 (by decide) ?_
          refine lv_iload_n hx hb dX11_brings_3 rfl (lv_at hl 0 rfl) ?_
          refine lv_if_lt (tgt := 49) hx hb dX11_brings_4 (by decide) (fun c271 => ?_) (fun c271 => absurd (by decide) c271)
          exact ret_v hx hb hr hlocks hP hD hS (Nat.le_of_ble_eq_true rfl) (Nat.le_of_ble_eq_true rfl) (⟨rw_1, (hf_mo.trans (by simp only [l4S, stp, byS, ← ex2, ← ex3, ← ex146, ← ex147, ← ex218, ← ex219, ← ex254, ← ex255, c4, c148, c220, c256, reduceIte, eq_self_iff_true])), hf_ar1, hfr0, hsb0⟩) dX11_brings_49

set_option maxHeartbeats 4000000 in
set_option maxRecDepth 100000 in
theorem k_X11_feed (l : Launch) (g : GG) (L : List Nat) (f : HP) (sz : Nat) (mo ar1 ar7 ar10 ar11 ar24 ar26 ar27 ar28 ar29 ar30 ar31 ar32 ar33 ar34 ar35 ar41 ar42 ar43 ar44 ar49 ar52 ar54 : Nat) (a : Int32) (b : Int32) (c0 : Int32) (d : Int32) (e0 : Int32) (hm_mo : mo ∈ L) (hf_mo : f mo = .inr (10, [.int 0, .ref ar1, .int 0, .int 0, .int 0, .int 0, .int 0, .ref ar7, .int 0, .int 0, .ref ar10, .ref ar11, .int 0, .int 0, .int 0, .int 0, .int 0, .int 0, .int 0, .int 0, .int 0, .long 0, .long 0, .int 0, .ref ar24, .int 0, .ref ar26, .ref ar27, .ref ar28, .ref ar29, .ref ar30, .ref ar31, .ref ar32, .ref ar33, .ref ar34, .ref ar35, .int 0, .int 0, .int 0, .int 0, .int 0, .ref ar41, .ref ar42, .ref ar43, .ref ar44, .long 0, .long 0, .int 0, .int 0, .ref ar49, .int 0, .int 0, .ref ar52, .int 0, .ref ar54, .int 0])) (hm_ar1 : ar1 ∈ L) (hf_ar1 : f ar1 = .inl (g.2.1 2, 500, .inl (fun _ => 0))) : MtI l g yX11_feed cX11_feed 6 (some .int) ({ frames := 1, cells := 0, slots := 0, locals := 23 }) [.ref mo, .int a, .int b, .int c0, .int d, .int e0] L f sz (fun r _ => r = fdS a b c0 d e0) := by
  refine MtI.of (by decide +kernel) (Nat.le_of_ble_eq_true rfl) ?_
  intro p e s m below meth c A hEn hP hD hS ls hl
  obtain ⟨hx, hb, hr, hml, hown, hlocks, hts, hG, hA, hE, hnm⟩ := hEn
  have hown : s.vm.findClass "RulerWordModel" = some m.cls := hown
  have hl : lv_has ls 6 [(0, .ref mo), (1, .int a), (2, .int b), (3, .int c0), (4, .int d), (5, .int e0)] := hl
  refine lv_aload_n hx hb dX11_feed_0 rfl (lv_at hl 0 rfl) ?_
  refine lv_iconst (v := 0) hx hb dX11_feed_1 (by decide) ?_
  refine pl_put (ty := .int) (v := .int 0) (fs' := [.int 0, .ref ar1, .int 0, .int 0, .int 0, .int 0, .int 0, .ref ar7, .int 0, .int 0, .ref ar10, .ref ar11, .int 0, .int 0, .int 0, .int 0, .int 0, .int 0, .int 0, .int 0, .int 0, .long 0, .long 0, .int 0, .ref ar24, .int 0, .ref ar26, .ref ar27, .ref ar28, .ref ar29, .ref ar30, .ref ar31, .ref ar32, .ref ar33, .ref ar34, .ref ar35, .int 0, .int 0, .int 0, .int 0, .int 0, .ref ar41, .ref ar42, .ref ar43, .ref ar44, .long 0, .long 0, .int 0, .int 0, .ref ar49, .int 0, .int 0, .ref ar52, .int 0, .ref ar54, .int 0]) hx hb hts (fun w h => mT (inX11 w h)) tyX11 tyX11_ok nmX11 hown hG.1 hP hD hS hm_mo hf_mo rfl 0 (by decide) (hts _ (mT wg_1336)) (fun _ h => h) rfl (by decide +kernel) (rfl) (rfl) (Nat.le_of_ble_eq_true rfl) rfl dX11_feed_2 (fun H locs f1 hf3 ho2 hP hD hS => ?_)
  have hf4 := (ho2 ar1 (kno hf_mo hf_ar1).symm).trans hf_ar1
  refine lv_aload_n hx hb dX11_feed_5 rfl (lv_at hl 0 rfl) ?_
  refine pl_get (v := .int 0) hx hb hts (fun w h => mT (inX11 w h)) hown hG.1 hP hm_mo hf3 rfl 2 (by decide) (hts _ (mT wg_1338)) (fun _ h => h) rfl dX11_feed_6 ?_
  refine lv_iload_n hx hb dX11_feed_9 rfl (lv_at hl 1 rfl) ?_
  refine call_i (run_S (rm := { frames := 0, cells := 0, slots := 0, locals := 0 }) hx hb hml hown hts (k_X11_bytesOf l g _ _ _ a) cS_X11_bytesOf wg_1514 ⟨Nat.le_of_ble_eq_true rfl, Nat.le_of_ble_eq_true rfl⟩ hG hE hA hP hD hS rfl hl.1 (As := [.int a]) (rest := [.int 0]) rfl (Nat.le_of_ble_eq_true rfl) dX11_feed_10 ⟨Nat.le_of_ble_eq_true rfl, Nat.le_of_ble_eq_true rfl⟩) hA hD hS (fun r5 L6 f7 H locs hp8 hP hD hS => ?_)
  obtain ⟨er9, fr10, sb11⟩ := hp8
  have hf13 := (fr10 mo hm_mo ).trans hf3
  have hm12 := sb11 _ hm_mo
  have hf15 := (fr10 ar1 hm_ar1 ).trans hf4
  have hm14 := sb11 _ hm_ar1
  refine lv_iadd hx hb dX11_feed_13 ?_
  refine lv_topi (fun x16 ex16 => ?_)
  refine lv_iload_n hx hb dX11_feed_14 rfl (lv_at hl 2 rfl) ?_
  refine call_i (run_S (rm := { frames := 0, cells := 0, slots := 0, locals := 0 }) hx hb hml hown hts (k_X11_bytesOf l g _ _ _ b) cS_X11_bytesOf wg_1514 ⟨Nat.le_of_ble_eq_true rfl, Nat.le_of_ble_eq_true rfl⟩ hG hE hA hP hD hS rfl hl.1 (As := [.int b]) (rest := [.int x16]) rfl (Nat.le_of_ble_eq_true rfl) dX11_feed_15 ⟨Nat.le_of_ble_eq_true rfl, Nat.le_of_ble_eq_true rfl⟩) hA hD hS (fun r17 L18 f19 H locs hp20 hP hD hS => ?_)
  obtain ⟨er21, fr22, sb23⟩ := hp20
  have hf25 := (fr22 mo hm12 ).trans hf13
  have hm24 := sb23 _ hm12
  have hf27 := (fr22 ar1 hm14 ).trans hf15
  have hm26 := sb23 _ hm14
  refine lv_iadd hx hb dX11_feed_18 ?_
  refine lv_topi (fun x28 ex28 => ?_)
  refine lv_iload_n hx hb dX11_feed_19 rfl (lv_at hl 3 rfl) ?_
  refine call_i (run_S (rm := { frames := 0, cells := 0, slots := 0, locals := 0 }) hx hb hml hown hts (k_X11_bytesOf l g _ _ _ c0) cS_X11_bytesOf wg_1514 ⟨Nat.le_of_ble_eq_true rfl, Nat.le_of_ble_eq_true rfl⟩ hG hE hA hP hD hS rfl hl.1 (As := [.int c0]) (rest := [.int x28]) rfl (Nat.le_of_ble_eq_true rfl) dX11_feed_20 ⟨Nat.le_of_ble_eq_true rfl, Nat.le_of_ble_eq_true rfl⟩) hA hD hS (fun r29 L30 f31 H locs hp32 hP hD hS => ?_)
  obtain ⟨er33, fr34, sb35⟩ := hp32
  have hf37 := (fr34 mo hm24 ).trans hf25
  have hm36 := sb35 _ hm24
  have hf39 := (fr34 ar1 hm26 ).trans hf27
  have hm38 := sb35 _ hm26
  refine lv_iadd hx hb dX11_feed_23 ?_
  refine lv_topi (fun x40 ex40 => ?_)
  refine lv_iload hx hb dX11_feed_24 (lv_at hl 4 rfl) ?_
  refine call_i (run_S (rm := { frames := 0, cells := 0, slots := 0, locals := 0 }) hx hb hml hown hts (k_X11_bytesOf l g _ _ _ d) cS_X11_bytesOf wg_1514 ⟨Nat.le_of_ble_eq_true rfl, Nat.le_of_ble_eq_true rfl⟩ hG hE hA hP hD hS rfl hl.1 (As := [.int d]) (rest := [.int x40]) rfl (Nat.le_of_ble_eq_true rfl) dX11_feed_26 ⟨Nat.le_of_ble_eq_true rfl, Nat.le_of_ble_eq_true rfl⟩) hA hD hS (fun r41 L42 f43 H locs hp44 hP hD hS => ?_)
  obtain ⟨er45, fr46, sb47⟩ := hp44
  have hf49 := (fr46 mo hm36 ).trans hf37
  have hm48 := sb47 _ hm36
  have hf51 := (fr46 ar1 hm38 ).trans hf39
  have hm50 := sb47 _ hm38
  refine lv_iadd hx hb dX11_feed_29 ?_
  refine lv_topi (fun x52 ex52 => ?_)
  refine lv_iload hx hb dX11_feed_30 (lv_at hl 5 rfl) ?_
  refine call_i (run_S (rm := { frames := 0, cells := 0, slots := 0, locals := 0 }) hx hb hml hown hts (k_X11_bytesOf l g _ _ _ e0) cS_X11_bytesOf wg_1514 ⟨Nat.le_of_ble_eq_true rfl, Nat.le_of_ble_eq_true rfl⟩ hG hE hA hP hD hS rfl hl.1 (As := [.int e0]) (rest := [.int x52]) rfl (Nat.le_of_ble_eq_true rfl) dX11_feed_32 ⟨Nat.le_of_ble_eq_true rfl, Nat.le_of_ble_eq_true rfl⟩) hA hD hS (fun r53 L54 f55 H locs hp56 hP hD hS => ?_)
  obtain ⟨er57, fr58, sb59⟩ := hp56
  have hf61 := (fr58 mo hm48 ).trans hf49
  have hm60 := sb59 _ hm48
  have hf63 := (fr58 ar1 hm50 ).trans hf51
  have hm62 := sb59 _ hm50
  refine lv_iadd hx hb dX11_feed_35 ?_
  refine lv_topi (fun x64 ex64 => ?_)
  refine lv_sipush (v := 500) hx hb dX11_feed_36 (by decide) ?_
  refine lv_icmp_le (tgt := 44) hx hb dX11_feed_39 (by decide) (fun c65 => ?_) (fun c65 => ((ex64 ▸ Bd.add (ex52 ▸ Bd.add (ex40 ▸ Bd.add (ex28 ▸ Bd.add (ex16 ▸ Bd.add Bd.z er9 (by decide)) er21 (by decide)) er33 (by decide)) er45 (by decide)) er57 (by decide))).le (k := 500) (by decide) (by decide) c65)
  refine lv_aload_n hx hb dX11_feed_44 rfl (lv_at hl 0 rfl) ?_
  refine lv_iload_n hx hb dX11_feed_45 rfl (lv_at hl 1 rfl) ?_
  refine call_v (run_V (rm := { frames := 0, cells := 0, slots := 0, locals := 0 }) hx hb hml hown hts (k_X11_brings l g _ _ _ mo ar1 ar7 ar10 ar11 ar24 ar26 ar27 ar28 ar29 ar30 ar31 ar32 ar33 ar34 ar35 ar41 ar42 ar43 ar44 ar49 ar52 ar54 0 a (fun _ => 0) hm60 hf61 hm62 hf63 ((Bd.z).mono (by decide))) cV_X11_brings wg_1517 ⟨Nat.le_of_ble_eq_true rfl, Nat.le_of_ble_eq_true rfl⟩ hG hE hA hP hD hS hm60 hf61 rfl rfl hl.1 (As := [.int a]) (rest := []) rfl (Nat.le_of_ble_eq_true rfl) dX11_feed_46 ⟨Nat.le_of_ble_eq_true rfl, Nat.le_of_ble_eq_true rfl⟩) hA hD hS (fun L67 f68 H locs hp69 hP hD hS => ?_)
  obtain ⟨r70, hf71, hf72, fr73, sb74⟩ := hp69
  have hm75 := sb74 _ hm60
  have hm76 := sb74 _ hm62
  refine lv_aload_n hx hb dX11_feed_49 rfl (lv_at hl 0 rfl) ?_
  refine lv_iload_n hx hb dX11_feed_50 rfl (lv_at hl 2 rfl) ?_
  refine call_v (run_V (rm := { frames := 0, cells := 0, slots := 0, locals := 0 }) hx hb hml hown hts (k_X11_brings l g _ _ _ mo ar1 ar7 ar10 ar11 ar24 ar26 ar27 ar28 ar29 ar30 ar31 ar32 ar33 ar34 ar35 ar41 ar42 ar43 ar44 ar49 ar52 ar54 (l4S 0 a) b (r70) hm75 hf71 hm76 hf72 (((Bd.lS Bd.z (by omega))).mono (by decide))) cV_X11_brings wg_1517 ⟨Nat.le_of_ble_eq_true rfl, Nat.le_of_ble_eq_true rfl⟩ hG hE hA hP hD hS hm75 hf71 rfl rfl hl.1 (As := [.int b]) (rest := []) rfl (Nat.le_of_ble_eq_true rfl) dX11_feed_51 ⟨Nat.le_of_ble_eq_true rfl, Nat.le_of_ble_eq_true rfl⟩) hA hD hS (fun L78 f79 H locs hp80 hP hD hS => ?_)
  obtain ⟨r81, hf82, hf83, fr84, sb85⟩ := hp80
  have hm86 := sb85 _ hm75
  have hm87 := sb85 _ hm76
  refine lv_aload_n hx hb dX11_feed_54 rfl (lv_at hl 0 rfl) ?_
  refine lv_iload_n hx hb dX11_feed_55 rfl (lv_at hl 3 rfl) ?_
  refine call_v (run_V (rm := { frames := 0, cells := 0, slots := 0, locals := 0 }) hx hb hml hown hts (k_X11_brings l g _ _ _ mo ar1 ar7 ar10 ar11 ar24 ar26 ar27 ar28 ar29 ar30 ar31 ar32 ar33 ar34 ar35 ar41 ar42 ar43 ar44 ar49 ar52 ar54 (l4S (l4S 0 a) b) c0 (r81) hm86 hf82 hm87 hf83 (((Bd.lS (Bd.lS Bd.z (by omega)) (by omega))).mono (by decide))) cV_X11_brings wg_1517 ⟨Nat.le_of_ble_eq_true rfl, Nat.le_of_ble_eq_true rfl⟩ hG hE hA hP hD hS hm86 hf82 rfl rfl hl.1 (As := [.int c0]) (rest := []) rfl (Nat.le_of_ble_eq_true rfl) dX11_feed_56 ⟨Nat.le_of_ble_eq_true rfl, Nat.le_of_ble_eq_true rfl⟩) hA hD hS (fun L89 f90 H locs hp91 hP hD hS => ?_)
  obtain ⟨r92, hf93, hf94, fr95, sb96⟩ := hp91
  have hm97 := sb96 _ hm86
  have hm98 := sb96 _ hm87
  refine lv_aload_n hx hb dX11_feed_59 rfl (lv_at hl 0 rfl) ?_
  refine lv_iload hx hb dX11_feed_60 (lv_at hl 4 rfl) ?_
  refine call_v (run_V (rm := { frames := 0, cells := 0, slots := 0, locals := 0 }) hx hb hml hown hts (k_X11_brings l g _ _ _ mo ar1 ar7 ar10 ar11 ar24 ar26 ar27 ar28 ar29 ar30 ar31 ar32 ar33 ar34 ar35 ar41 ar42 ar43 ar44 ar49 ar52 ar54 (l4S (l4S (l4S 0 a) b) c0) d (r92) hm97 hf93 hm98 hf94 (((Bd.lS (Bd.lS (Bd.lS Bd.z (by omega)) (by omega)) (by omega))).mono (by decide))) cV_X11_brings wg_1517 ⟨Nat.le_of_ble_eq_true rfl, Nat.le_of_ble_eq_true rfl⟩ hG hE hA hP hD hS hm97 hf93 rfl rfl hl.1 (As := [.int d]) (rest := []) rfl (Nat.le_of_ble_eq_true rfl) dX11_feed_62 ⟨Nat.le_of_ble_eq_true rfl, Nat.le_of_ble_eq_true rfl⟩) hA hD hS (fun L100 f101 H locs hp102 hP hD hS => ?_)
  obtain ⟨r103, hf104, hf105, fr106, sb107⟩ := hp102
  have hm108 := sb107 _ hm97
  have hm109 := sb107 _ hm98
  refine lv_aload_n hx hb dX11_feed_65 rfl (lv_at hl 0 rfl) ?_
  refine lv_iload hx hb dX11_feed_66 (lv_at hl 5 rfl) ?_
  refine call_v (run_V (rm := { frames := 0, cells := 0, slots := 0, locals := 0 }) hx hb hml hown hts (k_X11_brings l g _ _ _ mo ar1 ar7 ar10 ar11 ar24 ar26 ar27 ar28 ar29 ar30 ar31 ar32 ar33 ar34 ar35 ar41 ar42 ar43 ar44 ar49 ar52 ar54 (l4S (l4S (l4S (l4S 0 a) b) c0) d) e0 (r103) hm108 hf104 hm109 hf105 (((Bd.lS (Bd.lS (Bd.lS (Bd.lS Bd.z (by omega)) (by omega)) (by omega)) (by omega))).mono (by decide))) cV_X11_brings wg_1517 ⟨Nat.le_of_ble_eq_true rfl, Nat.le_of_ble_eq_true rfl⟩ hG hE hA hP hD hS hm108 hf104 rfl rfl hl.1 (As := [.int e0]) (rest := []) rfl (Nat.le_of_ble_eq_true rfl) dX11_feed_68 ⟨Nat.le_of_ble_eq_true rfl, Nat.le_of_ble_eq_true rfl⟩) hA hD hS (fun L111 f112 H locs hp113 hP hD hS => ?_)
  obtain ⟨r114, hf115, hf116, fr117, sb118⟩ := hp113
  have hm119 := sb118 _ hm108
  have hm120 := sb118 _ hm109
  refine lv_aload_n hx hb dX11_feed_71 rfl (lv_at hl 0 rfl) ?_
  refine pl_get (v := .int (l4S (l4S (l4S (l4S (l4S 0 a) b) c0) d) e0)) hx hb hts (fun w h => mT (inX11 w h)) hown hG.1 hP hm119 hf115 rfl 2 (by decide) (hts _ (mT wg_1338)) (fun _ h => h) rfl dX11_feed_72 ?_
  exact ret_i (ty := .int) hx hb hr hlocks (rfl) hP hD hS (Nat.le_of_ble_eq_true rfl) (Nat.le_of_ble_eq_true rfl) (rfl) dX11_feed_75

set_option maxHeartbeats 4000000 in
set_option maxRecDepth 100000 in
theorem k_X11_end (l : Launch) (g : GG) (L : List Nat) (f : HP) (sz : Nat) (mo ar1 ar7 ar10 ar11 ar24 ar26 ar27 ar28 ar29 ar30 ar31 ar32 ar33 ar34 ar35 ar41 ar42 ar43 ar44 ar49 ar52 ar54 : Nat) (n : Int32) (hm_mo : mo ∈ L) (hf_mo : f mo = .inr (10, [.int 0, .ref ar1, .int 0, .int 0, .int 0, .int 0, .int 0, .ref ar7, .int 0, .int 0, .ref ar10, .ref ar11, .int 0, .int 0, .int 0, .int 0, .int 0, .int 0, .int 0, .int 0, .int 0, .long 0, .long 0, .int 0, .ref ar24, .int 0, .ref ar26, .ref ar27, .ref ar28, .ref ar29, .ref ar30, .ref ar31, .ref ar32, .ref ar33, .ref ar34, .ref ar35, .int 0, .int 0, .int 0, .int 0, .int 0, .ref ar41, .ref ar42, .ref ar43, .ref ar44, .long 0, .long 0, .int 0, .int 0, .ref ar49, .int 0, .int 0, .ref ar52, .int 0, .ref ar54, .int 0])) : MtI l g yX11_end cX11_end 2 (some .boolean) ({ frames := 0, cells := 0, slots := 0, locals := 0 }) [.ref mo, .int n] L f sz (fun r _ => r = endV n) := by
  refine MtI.of (by decide +kernel) (Nat.le_of_ble_eq_true rfl) ?_
  intro p e s m below meth c A hEn hP hD hS ls hl
  obtain ⟨hx, hb, hr, hml, hown, hlocks, hts, hG, hA, hE, hnm⟩ := hEn
  have hown : s.vm.findClass "RulerWordModel" = some m.cls := hown
  have hl : lv_has ls 2 [(0, .ref mo), (1, .int n)] := hl
  refine lv_aload_n hx hb dX11_end_0 rfl (lv_at hl 0 rfl) ?_
  refine lv_iconst (v := 0) hx hb dX11_end_1 (by decide) ?_
  refine pl_put (ty := .int) (v := .int 0) (fs' := [.int 0, .ref ar1, .int 0, .int 0, .int 0, .int 0, .int 0, .ref ar7, .int 0, .int 0, .ref ar10, .ref ar11, .int 0, .int 0, .int 0, .int 0, .int 0, .int 0, .int 0, .int 0, .int 0, .long 0, .long 0, .int 0, .ref ar24, .int 0, .ref ar26, .ref ar27, .ref ar28, .ref ar29, .ref ar30, .ref ar31, .ref ar32, .ref ar33, .ref ar34, .ref ar35, .int 0, .int 0, .int 0, .int 0, .int 0, .ref ar41, .ref ar42, .ref ar43, .ref ar44, .long 0, .long 0, .int 0, .int 0, .ref ar49, .int 0, .int 0, .ref ar52, .int 0, .ref ar54, .int 0]) hx hb hts (fun w h => mT (inX11 w h)) tyX11 tyX11_ok nmX11 hown hG.1 hP hD hS hm_mo hf_mo rfl 0 (by decide) (hts _ (mT wg_1336)) (fun _ h => h) rfl (by decide +kernel) (rfl) (rfl) (Nat.le_of_ble_eq_true rfl) rfl dX11_end_2 (fun H locs f1 hf3 ho2 hP hD hS => ?_)
  refine lv_iload_n hx hb dX11_end_5 rfl (lv_at hl 1 rfl) ?_
  refine lv_if_lt (tgt := 17) hx hb dX11_end_6 (by decide) (fun c4 => ?_) (fun c4 => ?_)
  ·
    refine lv_iconst (v := 0) hx hb dX11_end_17 (by decide) ?_
    exact ret_i (ty := .boolean) hx hb hr hlocks (rfl) hP hD hS (Nat.le_of_ble_eq_true rfl) (Nat.le_of_ble_eq_true rfl) (by simp [endV, c4]) dX11_end_18
  ·
    refine lv_iload_n hx hb dX11_end_9 rfl (lv_at hl 1 rfl) ?_
    refine lv_aload_n hx hb dX11_end_10 rfl (lv_at hl 0 rfl) ?_
    refine pl_get (v := .int 0) hx hb hts (fun w h => mT (inX11 w h)) hown hG.1 hP hm_mo hf3 rfl 2 (by decide) (hts _ (mT wg_1338)) (fun _ h => h) rfl dX11_end_11 ?_
    refine lv_icmp_le (tgt := 19) hx hb dX11_end_14 (by decide) (fun c5 => ?_) (fun c5 => ?_)
    ·
      refine lv_aload_n hx hb dX11_end_19 rfl (lv_at hl 0 rfl) ?_
      refine lv_iload_n hx hb dX11_end_20 rfl (lv_at hl 1 rfl) ?_
      refine pl_put (ty := .int) (v := .int n) (fs' := [.int 0, .ref ar1, .int n, .int 0, .int 0, .int 0, .int 0, .ref ar7, .int 0, .int 0, .ref ar10, .ref ar11, .int 0, .int 0, .int 0, .int 0, .int 0, .int 0, .int 0, .int 0, .int 0, .long 0, .long 0, .int 0, .ref ar24, .int 0, .ref ar26, .ref ar27, .ref ar28, .ref ar29, .ref ar30, .ref ar31, .ref ar32, .ref ar33, .ref ar34, .ref ar35, .int 0, .int 0, .int 0, .int 0, .int 0, .ref ar41, .ref ar42, .ref ar43, .ref ar44, .long 0, .long 0, .int 0, .int 0, .ref ar49, .int 0, .int 0, .ref ar52, .int 0, .ref ar54, .int 0]) hx hb hts (fun w h => mT (inX11 w h)) tyX11 tyX11_ok nmX11 hown hG.1 hP hD hS hm_mo hf3 rfl 2 (by decide) (hts _ (mT wg_1338)) (fun _ h => h) rfl (by decide +kernel) (rfl) (rfl) (Nat.le_of_ble_eq_true rfl) rfl dX11_end_21 (fun H locs f6 hf8 ho7 hP hD hS => ?_)
      refine lv_iconst (v := 1) hx hb dX11_end_24 (by decide) ?_
      exact ret_i (ty := .boolean) hx hb hr hlocks (rfl) hP hD hS (Nat.le_of_ble_eq_true rfl) (Nat.le_of_ble_eq_true rfl) (by simp [endV, c4, c5]) dX11_end_25
    ·
      refine lv_iconst (v := 0) hx hb dX11_end_17 (by decide) ?_
      exact ret_i (ty := .boolean) hx hb hr hlocks (rfl) hP hD hS (Nat.le_of_ble_eq_true rfl) (Nat.le_of_ble_eq_true rfl) (by simp [endV, c4, c5]) dX11_end_18

set_option maxHeartbeats 4000000 in
set_option maxRecDepth 100000 in
theorem k_X11_fault (l : Launch) (g : GG) (L : List Nat) (f : HP) (sz : Nat) (mo ar1 ar7 ar10 ar11 ar24 ar26 ar27 ar28 ar29 ar30 ar31 ar32 ar33 ar34 ar35 ar41 ar42 ar43 ar44 ar49 ar52 ar54 : Nat) (w : Int32) (hm_mo : mo ∈ L) (hf_mo : f mo = .inr (10, [.int 0, .ref ar1, .int 0, .int 0, .int 0, .int 0, .int 0, .ref ar7, .int 0, .int 0, .ref ar10, .ref ar11, .int 0, .int 0, .int 0, .int 0, .int 0, .int 0, .int 0, .int 0, .int 0, .long 0, .long 0, .int 0, .ref ar24, .int 0, .ref ar26, .ref ar27, .ref ar28, .ref ar29, .ref ar30, .ref ar31, .ref ar32, .ref ar33, .ref ar34, .ref ar35, .int 0, .int 0, .int 0, .int 0, .int 0, .ref ar41, .ref ar42, .ref ar43, .ref ar44, .long 0, .long 0, .int 0, .int 0, .ref ar49, .int 0, .int 0, .ref ar52, .int 0, .ref ar54, .int 0])) (hm_ar7 : ar7 ∈ L) (hf_ar7 : f ar7 = .inl (g.2.1 0, 6, .inl (fun _ => 0))) (hm_ar11 : ar11 ∈ L) (hf_ar11 : f ar11 = .inl (g.2.1 0, 100, .inl (fun _ => 0))) : MtI l g yX11_fault cX11_fault 2 (some .int) ({ frames := 5, cells := 0, slots := 0, locals := 105 }) [.ref mo, .int w] L f sz (fun r _ => r = fltV w) := by
  refine MtI.of (by decide +kernel) (Nat.le_of_ble_eq_true rfl) ?_
  intro p e s m below meth c A hEn hP hD hS ls hl
  obtain ⟨hx, hb, hr, hml, hown, hlocks, hts, hG, hA, hE, hnm⟩ := hEn
  have hown : s.vm.findClass "RulerWordModel" = some m.cls := hown
  have hl : lv_has ls 2 [(0, .ref mo), (1, .int w)] := hl
  refine lv_aload_n hx hb dX11_fault_0 rfl (lv_at hl 0 rfl) ?_
  refine lv_iconst (v := 0) hx hb dX11_fault_1 (by decide) ?_
  refine pl_put (ty := .int) (v := .int 0) (fs' := [.int 0, .ref ar1, .int 0, .int 0, .int 0, .int 0, .int 0, .ref ar7, .int 0, .int 0, .ref ar10, .ref ar11, .int 0, .int 0, .int 0, .int 0, .int 0, .int 0, .int 0, .int 0, .int 0, .long 0, .long 0, .int 0, .ref ar24, .int 0, .ref ar26, .ref ar27, .ref ar28, .ref ar29, .ref ar30, .ref ar31, .ref ar32, .ref ar33, .ref ar34, .ref ar35, .int 0, .int 0, .int 0, .int 0, .int 0, .ref ar41, .ref ar42, .ref ar43, .ref ar44, .long 0, .long 0, .int 0, .int 0, .ref ar49, .int 0, .int 0, .ref ar52, .int 0, .ref ar54, .int 0]) hx hb hts (fun w h => mT (inX11 w h)) tyX11 tyX11_ok nmX11 hown hG.1 hP hD hS hm_mo hf_mo rfl 0 (by decide) (hts _ (mT wg_1336)) (fun _ h => h) rfl (by decide +kernel) (rfl) (rfl) (Nat.le_of_ble_eq_true rfl) rfl dX11_fault_2 (fun H locs f1 hf3 ho2 hP hD hS => ?_)
  have hf4 := (ho2 ar7 (kno hf_mo hf_ar7).symm).trans hf_ar7
  have hf5 := (ho2 ar11 (kno hf_mo hf_ar11).symm).trans hf_ar11
  refine lv_iload_n hx hb dX11_fault_5 rfl (lv_at hl 1 rfl) ?_
  refine lv_if_ne (tgt := 16) hx hb dX11_fault_6 (by decide) (fun c6 => ?_) (fun c6 => ?_)
  ·
    refine lv_iload_n hx hb dX11_fault_16 rfl (lv_at hl 1 rfl) ?_
    refine lv_iconst (v := 1) hx hb dX11_fault_17 (by decide) ?_
    refine lv_icmp_ne (tgt := 28) hx hb dX11_fault_18 (by decide) (fun c7 => ?_) (fun c7 => ?_)
    ·
      refine lv_bipush (v := (-2)) hx hb dX11_fault_28 (by decide) ?_
      exact ret_i (ty := .int) hx hb hr hlocks (rfl) hP hD hS (Nat.le_of_ble_eq_true rfl) (Nat.le_of_ble_eq_true rfl) (by simp [fltV, c6, c7]) dX11_fault_30
    ·
      refine lv_aload_n hx hb dX11_fault_21 rfl (lv_at hl 0 rfl) ?_
      refine call_i (run_V (rm := { frames := 4, cells := 0, slots := 0, locals := 85 }) hx hb hml hown hts (k_X11_readsPlan l g _ _ _ mo ar1 ar7 ar10 ar11 ar24 ar26 ar27 ar28 ar29 ar30 ar31 ar32 ar33 ar34 ar35 ar41 ar42 ar43 ar44 ar49 ar52 ar54 hm_mo hf3 hm_ar11 hf5) cV_X11_readsPlan wg_1596 ⟨Nat.le_of_ble_eq_true rfl, Nat.le_of_ble_eq_true rfl⟩ hG hE hA hP hD hS hm_mo hf3 rfl rfl hl.1 (As := []) (rest := []) rfl (Nat.le_of_ble_eq_true rfl) dX11_fault_22 ⟨Nat.le_of_ble_eq_true rfl, Nat.le_of_ble_eq_true rfl⟩) hA hD hS (fun r8 L9 f10 H locs hp11 hP hD hS => ?_)
      obtain ⟨r12, hf13, hf14, er15, fr16, sb17⟩ := hp11
      have hm18 := sb17 _ hm_mo
      have hf20 := (fr16 ar7 hm_ar7 (kno hf3 hf4).symm (knn hf4 hf5 (by decide))).trans hf4
      have hm19 := sb17 _ hm_ar7
      have hm21 := sb17 _ hm_ar11
      subst er15
      refine lv_goto (tgt := 30) hx hb dX11_fault_25 (by decide) ?_
      exact ret_i (ty := .int) hx hb hr hlocks (rfl) hP hD hS (Nat.le_of_ble_eq_true rfl) (Nat.le_of_ble_eq_true rfl) (by simp [fltV, c6, c7]) dX11_fault_30
  ·
    refine lv_aload_n hx hb dX11_fault_9 rfl (lv_at hl 0 rfl) ?_
    refine call_i (run_V (rm := { frames := 3, cells := 0, slots := 0, locals := 63 }) hx hb hml hown hts (k_X11_readsCouncil l g _ _ _ mo ar1 ar7 ar10 ar11 ar24 ar26 ar27 ar28 ar29 ar30 ar31 ar32 ar33 ar34 ar35 ar41 ar42 ar43 ar44 ar49 ar52 ar54 hm_mo hf3 hm_ar7 hf4) cV_X11_readsCouncil wg_1529 ⟨Nat.le_of_ble_eq_true rfl, Nat.le_of_ble_eq_true rfl⟩ hG hE hA hP hD hS hm_mo hf3 rfl rfl hl.1 (As := []) (rest := []) rfl (Nat.le_of_ble_eq_true rfl) dX11_fault_10 ⟨Nat.le_of_ble_eq_true rfl, Nat.le_of_ble_eq_true rfl⟩) hA hD hS (fun r22 L23 f24 H locs hp25 hP hD hS => ?_)
    obtain ⟨r26, hf27, hf28, er29, fr30, sb31⟩ := hp25
    have hm32 := sb31 _ hm_mo
    have hm33 := sb31 _ hm_ar7
    have hf35 := (fr30 ar11 hm_ar11 (kno hf3 hf5).symm (knn hf5 hf4 (by decide))).trans hf5
    have hm34 := sb31 _ hm_ar11
    subst er29
    refine lv_goto (tgt := 30) hx hb dX11_fault_13 (by decide) ?_
    exact ret_i (ty := .int) hx hb hr hlocks (rfl) hP hD hS (Nat.le_of_ble_eq_true rfl) (Nat.le_of_ble_eq_true rfl) (by simp [fltV, c6]) dX11_fault_30

set_option maxHeartbeats 4000000 in
set_option maxRecDepth 100000 in
theorem k_X11_council (l : Launch) (g : GG) (L : List Nat) (f : HP) (sz : Nat) (mo ar1 ar7 ar10 ar11 ar24 ar26 ar27 ar28 ar29 ar30 ar31 ar32 ar33 ar34 ar35 ar41 ar42 ar43 ar44 ar49 ar52 ar54 : Nat) (sd : Int64) (hm_mo : mo ∈ L) (hf_mo : f mo = .inr (10, [.int 0, .ref ar1, .int 0, .int 0, .int 0, .int 0, .int 0, .ref ar7, .int 0, .int 0, .ref ar10, .ref ar11, .int 0, .int 0, .int 0, .int 0, .int 0, .int 0, .int 0, .int 0, .int 0, .long 0, .long 0, .int 0, .ref ar24, .int 0, .ref ar26, .ref ar27, .ref ar28, .ref ar29, .ref ar30, .ref ar31, .ref ar32, .ref ar33, .ref ar34, .ref ar35, .int 0, .int 0, .int 0, .int 0, .int 0, .ref ar41, .ref ar42, .ref ar43, .ref ar44, .long 0, .long 0, .int 0, .int 0, .ref ar49, .int 0, .int 0, .ref ar52, .int 0, .ref ar54, .int 0])) (hm_ar7 : ar7 ∈ L) (hf_ar7 : f ar7 = .inl (g.2.1 0, 6, .inl (fun _ => 0))) : MtI l g yX11_council cX11_council 3 (some .int) ({ frames := 4, cells := 0, slots := 0, locals := 84 }) [.ref mo, .long sd] L f sz (fun r _ => r = (-1)) := by
  refine MtI.of (by decide +kernel) (Nat.le_of_ble_eq_true rfl) ?_
  intro p e s m below meth c A hEn hP hD hS ls hl
  obtain ⟨hx, hb, hr, hml, hown, hlocks, hts, hG, hA, hE, hnm⟩ := hEn
  have hown : s.vm.findClass "RulerWordModel" = some m.cls := hown
  have hl : lv_has ls 3 [(0, .ref mo), (1, .long sd)] := hl
  refine lv_aload_n hx hb dX11_council_0 rfl (lv_at hl 0 rfl) ?_
  refine lv_iconst (v := 0) hx hb dX11_council_1 (by decide) ?_
  refine pl_put (ty := .int) (v := .int 0) (fs' := [.int 0, .ref ar1, .int 0, .int 0, .int 0, .int 0, .int 0, .ref ar7, .int 0, .int 0, .ref ar10, .ref ar11, .int 0, .int 0, .int 0, .int 0, .int 0, .int 0, .int 0, .int 0, .int 0, .long 0, .long 0, .int 0, .ref ar24, .int 0, .ref ar26, .ref ar27, .ref ar28, .ref ar29, .ref ar30, .ref ar31, .ref ar32, .ref ar33, .ref ar34, .ref ar35, .int 0, .int 0, .int 0, .int 0, .int 0, .ref ar41, .ref ar42, .ref ar43, .ref ar44, .long 0, .long 0, .int 0, .int 0, .ref ar49, .int 0, .int 0, .ref ar52, .int 0, .ref ar54, .int 0]) hx hb hts (fun w h => mT (inX11 w h)) tyX11 tyX11_ok nmX11 hown hG.1 hP hD hS hm_mo hf_mo rfl 0 (by decide) (hts _ (mT wg_1336)) (fun _ h => h) rfl (by decide +kernel) (rfl) (rfl) (Nat.le_of_ble_eq_true rfl) rfl dX11_council_2 (fun H locs f1 hf3 ho2 hP hD hS => ?_)
  have hf4 := (ho2 ar7 (kno hf_mo hf_ar7).symm).trans hf_ar7
  refine lv_aload_n hx hb dX11_council_5 rfl (lv_at hl 0 rfl) ?_
  refine call_i (run_V (rm := { frames := 3, cells := 0, slots := 0, locals := 63 }) hx hb hml hown hts (k_X11_readsCouncil l g _ _ _ mo ar1 ar7 ar10 ar11 ar24 ar26 ar27 ar28 ar29 ar30 ar31 ar32 ar33 ar34 ar35 ar41 ar42 ar43 ar44 ar49 ar52 ar54 hm_mo hf3 hm_ar7 hf4) cV_X11_readsCouncil wg_1529 ⟨Nat.le_of_ble_eq_true rfl, Nat.le_of_ble_eq_true rfl⟩ hG hE hA hP hD hS hm_mo hf3 rfl rfl hl.1 (As := []) (rest := []) rfl (Nat.le_of_ble_eq_true rfl) dX11_council_6 ⟨Nat.le_of_ble_eq_true rfl, Nat.le_of_ble_eq_true rfl⟩) hA hD hS (fun r5 L6 f7 H locs hp8 hP hD hS => ?_)
  obtain ⟨r9, hf10, hf11, er12, fr13, sb14⟩ := hp8
  have hm15 := sb14 _ hm_mo
  have hm16 := sb14 _ hm_ar7
  subst er12
  refine lv_iconst (v := (-1)) hx hb dX11_council_9 (by decide) ?_
  refine lv_icmp_eq (tgt := 15) hx hb dX11_council_10 (by decide) (fun c17 => absurd c17 (by decide)) (fun c17 => ?_)
  refine lv_iconst (v := (-1)) hx hb dX11_council_13 (by decide) ?_
  exact ret_i (ty := .int) hx hb hr hlocks (rfl) hP hD hS (Nat.le_of_ble_eq_true rfl) (Nat.le_of_ble_eq_true rfl) (rfl) dX11_council_14

set_option maxHeartbeats 4000000 in
set_option maxRecDepth 100000 in
theorem k_X11_plan (l : Launch) (g : GG) (L : List Nat) (f : HP) (sz : Nat) (mo ar1 ar7 ar10 ar11 ar24 ar26 ar27 ar28 ar29 ar30 ar31 ar32 ar33 ar34 ar35 ar41 ar42 ar43 ar44 ar49 ar52 ar54 : Nat) (hm_mo : mo ∈ L) (hf_mo : f mo = .inr (10, [.int 0, .ref ar1, .int 0, .int 0, .int 0, .int 0, .int 0, .ref ar7, .int 0, .int 0, .ref ar10, .ref ar11, .int 0, .int 0, .int 0, .int 0, .int 0, .int 0, .int 0, .int 0, .int 0, .long 0, .long 0, .int 0, .ref ar24, .int 0, .ref ar26, .ref ar27, .ref ar28, .ref ar29, .ref ar30, .ref ar31, .ref ar32, .ref ar33, .ref ar34, .ref ar35, .int 0, .int 0, .int 0, .int 0, .int 0, .ref ar41, .ref ar42, .ref ar43, .ref ar44, .long 0, .long 0, .int 0, .int 0, .ref ar49, .int 0, .int 0, .ref ar52, .int 0, .ref ar54, .int 0])) (hm_ar11 : ar11 ∈ L) (hf_ar11 : f ar11 = .inl (g.2.1 0, 100, .inl (fun _ => 0))) : MtI l g yX11_plan cX11_plan 2 (some .int) ({ frames := 5, cells := 0, slots := 0, locals := 105 }) [.ref mo] L f sz (fun r _ => r = (-1)) := by
  refine MtI.of (by decide +kernel) (Nat.le_of_ble_eq_true rfl) ?_
  intro p e s m below meth c A hEn hP hD hS ls hl
  obtain ⟨hx, hb, hr, hml, hown, hlocks, hts, hG, hA, hE, hnm⟩ := hEn
  have hown : s.vm.findClass "RulerWordModel" = some m.cls := hown
  have hl : lv_has ls 2 [(0, .ref mo)] := hl
  refine lv_aload_n hx hb dX11_plan_0 rfl (lv_at hl 0 rfl) ?_
  refine lv_iconst (v := 0) hx hb dX11_plan_1 (by decide) ?_
  refine pl_put (ty := .int) (v := .int 0) (fs' := [.int 0, .ref ar1, .int 0, .int 0, .int 0, .int 0, .int 0, .ref ar7, .int 0, .int 0, .ref ar10, .ref ar11, .int 0, .int 0, .int 0, .int 0, .int 0, .int 0, .int 0, .int 0, .int 0, .long 0, .long 0, .int 0, .ref ar24, .int 0, .ref ar26, .ref ar27, .ref ar28, .ref ar29, .ref ar30, .ref ar31, .ref ar32, .ref ar33, .ref ar34, .ref ar35, .int 0, .int 0, .int 0, .int 0, .int 0, .ref ar41, .ref ar42, .ref ar43, .ref ar44, .long 0, .long 0, .int 0, .int 0, .ref ar49, .int 0, .int 0, .ref ar52, .int 0, .ref ar54, .int 0]) hx hb hts (fun w h => mT (inX11 w h)) tyX11 tyX11_ok nmX11 hown hG.1 hP hD hS hm_mo hf_mo rfl 0 (by decide) (hts _ (mT wg_1336)) (fun _ h => h) rfl (by decide +kernel) (rfl) (rfl) (Nat.le_of_ble_eq_true rfl) rfl dX11_plan_2 (fun H locs f1 hf3 ho2 hP hD hS => ?_)
  have hf4 := (ho2 ar11 (kno hf_mo hf_ar11).symm).trans hf_ar11
  refine lv_aload_n hx hb dX11_plan_5 rfl (lv_at hl 0 rfl) ?_
  refine call_i (run_V (rm := { frames := 4, cells := 0, slots := 0, locals := 85 }) hx hb hml hown hts (k_X11_readsPlan l g _ _ _ mo ar1 ar7 ar10 ar11 ar24 ar26 ar27 ar28 ar29 ar30 ar31 ar32 ar33 ar34 ar35 ar41 ar42 ar43 ar44 ar49 ar52 ar54 hm_mo hf3 hm_ar11 hf4) cV_X11_readsPlan wg_1596 ⟨Nat.le_of_ble_eq_true rfl, Nat.le_of_ble_eq_true rfl⟩ hG hE hA hP hD hS hm_mo hf3 rfl rfl hl.1 (As := []) (rest := []) rfl (Nat.le_of_ble_eq_true rfl) dX11_plan_6 ⟨Nat.le_of_ble_eq_true rfl, Nat.le_of_ble_eq_true rfl⟩) hA hD hS (fun r5 L6 f7 H locs hp8 hP hD hS => ?_)
  obtain ⟨r9, hf10, hf11, er12, fr13, sb14⟩ := hp8
  have hm15 := sb14 _ hm_mo
  have hm16 := sb14 _ hm_ar11
  subst er12
  refine lv_iconst (v := (-1)) hx hb dX11_plan_9 (by decide) ?_
  refine lv_icmp_eq (tgt := 15) hx hb dX11_plan_10 (by decide) (fun c17 => absurd c17 (by decide)) (fun c17 => ?_)
  refine lv_iconst (v := (-1)) hx hb dX11_plan_13 (by decide) ?_
  exact ret_i (ty := .int) hx hb hr hlocks (rfl) hP hD hS (Nat.le_of_ble_eq_true rfl) (Nat.le_of_ble_eq_true rfl) (rfl) dX11_plan_14

set_option maxHeartbeats 4000000 in
set_option maxRecDepth 100000 in
theorem k_X11_rule (l : Launch) (g : GG) (L : List Nat) (f : HP) (sz : Nat) (mo ar1 ar7 ar10 ar11 ar24 ar26 ar27 ar28 ar29 ar30 ar31 ar32 ar33 ar34 ar35 ar41 ar42 ar43 ar44 ar49 ar52 ar54 : Nat) (w : Int32) (hm_mo : mo ∈ L) (hf_mo : f mo = .inr (10, [.int 0, .ref ar1, .int 0, .int 0, .int 0, .int 0, .int 0, .ref ar7, .int 0, .int 0, .ref ar10, .ref ar11, .int 0, .int 0, .int 0, .int 0, .int 0, .int 0, .int 0, .int 0, .int 0, .long 0, .long 0, .int 0, .ref ar24, .int 0, .ref ar26, .ref ar27, .ref ar28, .ref ar29, .ref ar30, .ref ar31, .ref ar32, .ref ar33, .ref ar34, .ref ar35, .int 0, .int 0, .int 0, .int 0, .int 0, .ref ar41, .ref ar42, .ref ar43, .ref ar44, .long 0, .long 0, .int 0, .int 0, .ref ar49, .int 0, .int 0, .ref ar52, .int 0, .ref ar54, .int 0])) : MtI l g yX11_rule cX11_rule 2 (some .int) ({ frames := 0, cells := 0, slots := 0, locals := 0 }) [.ref mo, .int w] L f sz (fun r _ => r = ruleV w) := by
  refine MtI.of (by decide +kernel) (Nat.le_of_ble_eq_true rfl) ?_
  intro p e s m below meth c A hEn hP hD hS ls hl
  obtain ⟨hx, hb, hr, hml, hown, hlocks, hts, hG, hA, hE, hnm⟩ := hEn
  have hown : s.vm.findClass "RulerWordModel" = some m.cls := hown
  have hl : lv_has ls 2 [(0, .ref mo), (1, .int w)] := hl
  refine lv_aload_n hx hb dX11_rule_0 rfl (lv_at hl 0 rfl) ?_
  refine lv_iconst (v := 0) hx hb dX11_rule_1 (by decide) ?_
  refine pl_put (ty := .int) (v := .int 0) (fs' := [.int 0, .ref ar1, .int 0, .int 0, .int 0, .int 0, .int 0, .ref ar7, .int 0, .int 0, .ref ar10, .ref ar11, .int 0, .int 0, .int 0, .int 0, .int 0, .int 0, .int 0, .int 0, .int 0, .long 0, .long 0, .int 0, .ref ar24, .int 0, .ref ar26, .ref ar27, .ref ar28, .ref ar29, .ref ar30, .ref ar31, .ref ar32, .ref ar33, .ref ar34, .ref ar35, .int 0, .int 0, .int 0, .int 0, .int 0, .ref ar41, .ref ar42, .ref ar43, .ref ar44, .long 0, .long 0, .int 0, .int 0, .ref ar49, .int 0, .int 0, .ref ar52, .int 0, .ref ar54, .int 0]) hx hb hts (fun w h => mT (inX11 w h)) tyX11 tyX11_ok nmX11 hown hG.1 hP hD hS hm_mo hf_mo rfl 0 (by decide) (hts _ (mT wg_1336)) (fun _ h => h) rfl (by decide +kernel) (rfl) (rfl) (Nat.le_of_ble_eq_true rfl) rfl dX11_rule_2 (fun H locs f1 hf3 ho2 hP hD hS => ?_)
  refine lv_iload_n hx hb dX11_rule_5 rfl (lv_at hl 1 rfl) ?_
  refine lv_bipush (v := 10) hx hb dX11_rule_6 (by decide) ?_
  refine lv_icmp_ne (tgt := 16) hx hb dX11_rule_8 (by decide) (fun c4 => ?_) (fun c4 => ?_)
  ·
    refine lv_aload_n hx hb dX11_rule_16 rfl (lv_at hl 0 rfl) ?_
    refine pl_get (v := .int 0) hx hb hts (fun w h => mT (inX11 w h)) hown hG.1 hP hm_mo hf3 rfl 23 (by decide) (hts _ (mT wg_1359)) (fun _ h => h) rfl dX11_rule_17 ?_
    refine lv_if_ne (tgt := 27) hx hb dX11_rule_20 (by decide) (fun c5 => absurd rfl c5) (fun c5 => ?_)
    refine lv_ldcw hx hb hown (hts _ (mT wg_1756)) dX11_rule_23 ?_
    exact ret_i (ty := .int) hx hb hr hlocks (rfl) hP hD hS (Nat.le_of_ble_eq_true rfl) (Nat.le_of_ble_eq_true rfl) (by simp [ruleV, c4]) dX11_rule_26
  ·
    refine lv_aload_n hx hb dX11_rule_11 rfl (lv_at hl 0 rfl) ?_
    refine pl_get (v := .int 0) hx hb hts (fun w h => mT (inX11 w h)) hown hG.1 hP hm_mo hf3 rfl 12 (by decide) (hts _ (mT wg_1348)) (fun _ h => h) rfl dX11_rule_12 ?_
    exact ret_i (ty := .int) hx hb hr hlocks (rfl) hP hD hS (Nat.le_of_ble_eq_true rfl) (Nat.le_of_ble_eq_true rfl) (by simp [ruleV, c4]) dX11_rule_15

set_option maxHeartbeats 4000000 in
set_option maxRecDepth 100000 in
theorem k_X11_round (l : Launch) (g : GG) (L : List Nat) (f : HP) (sz : Nat) (mo ar1 ar7 ar10 ar11 ar24 ar26 ar27 ar28 ar29 ar30 ar31 ar32 ar33 ar34 ar35 ar41 ar42 ar43 ar44 ar49 ar52 ar54 : Nat) (hm_mo : mo ∈ L) (hf_mo : f mo = .inr (10, [.int 0, .ref ar1, .int 0, .int 0, .int 0, .int 0, .int 0, .ref ar7, .int 0, .int 0, .ref ar10, .ref ar11, .int 0, .int 0, .int 0, .int 0, .int 0, .int 0, .int 0, .int 0, .int 0, .long 0, .long 0, .int 0, .ref ar24, .int 0, .ref ar26, .ref ar27, .ref ar28, .ref ar29, .ref ar30, .ref ar31, .ref ar32, .ref ar33, .ref ar34, .ref ar35, .int 0, .int 0, .int 0, .int 0, .int 0, .ref ar41, .ref ar42, .ref ar43, .ref ar44, .long 0, .long 0, .int 0, .int 0, .ref ar49, .int 0, .int 0, .ref ar52, .int 0, .ref ar54, .int 0])) : MtI l g yX11_round cX11_round 1 (some .int) ({ frames := 0, cells := 0, slots := 0, locals := 0 }) [.ref mo] L f sz (fun r _ => r = (-1)) := by
  refine MtI.of (by decide +kernel) (Nat.le_of_ble_eq_true rfl) ?_
  intro p e s m below meth c A hEn hP hD hS ls hl
  obtain ⟨hx, hb, hr, hml, hown, hlocks, hts, hG, hA, hE, hnm⟩ := hEn
  have hown : s.vm.findClass "RulerWordModel" = some m.cls := hown
  have hl : lv_has ls 1 [(0, .ref mo)] := hl
  refine lv_aload_n hx hb dX11_round_0 rfl (lv_at hl 0 rfl) ?_
  refine lv_iconst (v := 0) hx hb dX11_round_1 (by decide) ?_
  refine pl_put (ty := .int) (v := .int 0) (fs' := [.int 0, .ref ar1, .int 0, .int 0, .int 0, .int 0, .int 0, .ref ar7, .int 0, .int 0, .ref ar10, .ref ar11, .int 0, .int 0, .int 0, .int 0, .int 0, .int 0, .int 0, .int 0, .int 0, .long 0, .long 0, .int 0, .ref ar24, .int 0, .ref ar26, .ref ar27, .ref ar28, .ref ar29, .ref ar30, .ref ar31, .ref ar32, .ref ar33, .ref ar34, .ref ar35, .int 0, .int 0, .int 0, .int 0, .int 0, .ref ar41, .ref ar42, .ref ar43, .ref ar44, .long 0, .long 0, .int 0, .int 0, .ref ar49, .int 0, .int 0, .ref ar52, .int 0, .ref ar54, .int 0]) hx hb hts (fun w h => mT (inX11 w h)) tyX11 tyX11_ok nmX11 hown hG.1 hP hD hS hm_mo hf_mo rfl 0 (by decide) (hts _ (mT wg_1336)) (fun _ h => h) rfl (by decide +kernel) (rfl) (rfl) (Nat.le_of_ble_eq_true rfl) rfl dX11_round_2 (fun H locs f1 hf3 ho2 hP hD hS => ?_)
  refine lv_aload_n hx hb dX11_round_5 rfl (lv_at hl 0 rfl) ?_
  refine pl_get (v := .int 0) hx hb hts (fun w h => mT (inX11 w h)) hown hG.1 hP hm_mo hf3 rfl 23 (by decide) (hts _ (mT wg_1359)) (fun _ h => h) rfl dX11_round_6 ?_
  refine lv_if_eq (tgt := 26) hx hb dX11_round_9 (by decide) (fun c4 => ?_) (fun c4 => absurd (by decide) c4)
  refine lv_iconst (v := (-1)) hx hb dX11_round_26 (by decide) ?_
  exact ret_i (ty := .int) hx hb hr hlocks (rfl) hP hD hS (Nat.le_of_ble_eq_true rfl) (Nat.le_of_ble_eq_true rfl) (rfl) dX11_round_27

set_option maxHeartbeats 4000000 in
set_option maxRecDepth 100000 in
theorem k_X11_run (l : Launch) (g : GG) (L : List Nat) (f : HP) (sz : Nat) (mo ar1 ar7 ar10 ar11 ar24 ar26 ar27 ar28 ar29 ar30 ar31 ar32 ar33 ar34 ar35 ar41 ar42 ar43 ar44 ar49 ar52 ar54 : Nat) (hm_mo : mo ∈ L) (hf_mo : f mo = .inr (10, [.int 0, .ref ar1, .int 0, .int 0, .int 0, .int 0, .int 0, .ref ar7, .int 0, .int 0, .ref ar10, .ref ar11, .int 0, .int 0, .int 0, .int 0, .int 0, .int 0, .int 0, .int 0, .int 0, .long 0, .long 0, .int 0, .ref ar24, .int 0, .ref ar26, .ref ar27, .ref ar28, .ref ar29, .ref ar30, .ref ar31, .ref ar32, .ref ar33, .ref ar34, .ref ar35, .int 0, .int 0, .int 0, .int 0, .int 0, .ref ar41, .ref ar42, .ref ar43, .ref ar44, .long 0, .long 0, .int 0, .int 0, .ref ar49, .int 0, .int 0, .ref ar52, .int 0, .ref ar54, .int 0])) : MtI l g yX11_run cX11_run 3 (some .int) ({ frames := 0, cells := 0, slots := 0, locals := 0 }) [.ref mo] L f sz (fun r _ => r = (-1)) := by
  refine MtI.of (by decide +kernel) (Nat.le_of_ble_eq_true rfl) ?_
  intro p e s m below meth c A hEn hP hD hS ls hl
  obtain ⟨hx, hb, hr, hml, hown, hlocks, hts, hG, hA, hE, hnm⟩ := hEn
  have hown : s.vm.findClass "RulerWordModel" = some m.cls := hown
  have hl : lv_has ls 3 [(0, .ref mo)] := hl
  refine lv_aload_n hx hb dX11_run_0 rfl (lv_at hl 0 rfl) ?_
  refine lv_iconst (v := 0) hx hb dX11_run_1 (by decide) ?_
  refine pl_put (ty := .int) (v := .int 0) (fs' := [.int 0, .ref ar1, .int 0, .int 0, .int 0, .int 0, .int 0, .ref ar7, .int 0, .int 0, .ref ar10, .ref ar11, .int 0, .int 0, .int 0, .int 0, .int 0, .int 0, .int 0, .int 0, .int 0, .long 0, .long 0, .int 0, .ref ar24, .int 0, .ref ar26, .ref ar27, .ref ar28, .ref ar29, .ref ar30, .ref ar31, .ref ar32, .ref ar33, .ref ar34, .ref ar35, .int 0, .int 0, .int 0, .int 0, .int 0, .ref ar41, .ref ar42, .ref ar43, .ref ar44, .long 0, .long 0, .int 0, .int 0, .ref ar49, .int 0, .int 0, .ref ar52, .int 0, .ref ar54, .int 0]) hx hb hts (fun w h => mT (inX11 w h)) tyX11 tyX11_ok nmX11 hown hG.1 hP hD hS hm_mo hf_mo rfl 0 (by decide) (hts _ (mT wg_1336)) (fun _ h => h) rfl (by decide +kernel) (rfl) (rfl) (Nat.le_of_ble_eq_true rfl) rfl dX11_run_2 (fun H locs f1 hf3 ho2 hP hD hS => ?_)
  refine lv_aload_n hx hb dX11_run_5 rfl (lv_at hl 0 rfl) ?_
  refine pl_get (v := .int 0) hx hb hts (fun w h => mT (inX11 w h)) hown hG.1 hP hm_mo hf3 rfl 23 (by decide) (hts _ (mT wg_1359)) (fun _ h => h) rfl dX11_run_6 ?_
  refine lv_if_eq (tgt := 26) hx hb dX11_run_9 (by decide) (fun c4 => ?_) (fun c4 => absurd (by decide) c4)
  refine lv_iconst (v := (-1)) hx hb dX11_run_26 (by decide) ?_
  exact ret_i (ty := .int) hx hb hr hlocks (rfl) hP hD hS (Nat.le_of_ble_eq_true rfl) (Nat.le_of_ble_eq_true rfl) (rfl) dX11_run_27

set_option maxHeartbeats 4000000 in
set_option maxRecDepth 100000 in
theorem k_X11_say (l : Launch) (g : GG) (L : List Nat) (f : HP) (sz : Nat) (mo ar1 ar7 ar10 ar11 ar24 ar26 ar27 ar28 ar29 ar30 ar31 ar32 ar33 ar34 ar35 ar41 ar42 ar43 ar44 ar49 ar52 ar54 : Nat) (a1 : Int32) (a2 : Int32) (a3 : Int32) (a4 : Int32) (a5 : Int32) (hm_mo : mo ∈ L) (hf_mo : f mo = .inr (10, [.int 0, .ref ar1, .int 0, .int 0, .int 0, .int 0, .int 0, .ref ar7, .int 0, .int 0, .ref ar10, .ref ar11, .int 0, .int 0, .int 0, .int 0, .int 0, .int 0, .int 0, .int 0, .int 0, .long 0, .long 0, .int 0, .ref ar24, .int 0, .ref ar26, .ref ar27, .ref ar28, .ref ar29, .ref ar30, .ref ar31, .ref ar32, .ref ar33, .ref ar34, .ref ar35, .int 0, .int 0, .int 0, .int 0, .int 0, .ref ar41, .ref ar42, .ref ar43, .ref ar44, .long 0, .long 0, .int 0, .int 0, .ref ar49, .int 0, .int 0, .ref ar52, .int 0, .ref ar54, .int 0])) (hm_ar49 : ar49 ∈ L) (hf_ar49 : f ar49 = .inl (g.2.1 0, 5, .inl (fun _ => 0))) : MtI l g yX11_say cX11_say 7 (some .int) ({ frames := 1, cells := 0, slots := 0, locals := 21 }) [.ref mo, .int a1, .int a2, .int a3, .int a4, .int a5] L f sz (fun r _ => r = (-1)) := by
  refine MtI.of (by decide +kernel) (Nat.le_of_ble_eq_true rfl) ?_
  intro p e s m below meth c A hEn hP hD hS ls hl
  obtain ⟨hx, hb, hr, hml, hown, hlocks, hts, hG, hA, hE, hnm⟩ := hEn
  have hown : s.vm.findClass "RulerWordModel" = some m.cls := hown
  have hl : lv_has ls 7 [(0, .ref mo), (1, .int a1), (2, .int a2), (3, .int a3), (4, .int a4), (5, .int a5)] := hl
  refine lv_aload_n hx hb dX11_say_0 rfl (lv_at hl 0 rfl) ?_
  refine lv_iconst (v := 0) hx hb dX11_say_1 (by decide) ?_
  refine pl_put (ty := .int) (v := .int 0) (fs' := [.int 0, .ref ar1, .int 0, .int 0, .int 0, .int 0, .int 0, .ref ar7, .int 0, .int 0, .ref ar10, .ref ar11, .int 0, .int 0, .int 0, .int 0, .int 0, .int 0, .int 0, .int 0, .int 0, .long 0, .long 0, .int 0, .ref ar24, .int 0, .ref ar26, .ref ar27, .ref ar28, .ref ar29, .ref ar30, .ref ar31, .ref ar32, .ref ar33, .ref ar34, .ref ar35, .int 0, .int 0, .int 0, .int 0, .int 0, .ref ar41, .ref ar42, .ref ar43, .ref ar44, .long 0, .long 0, .int 0, .int 0, .ref ar49, .int 0, .int 0, .ref ar52, .int 0, .ref ar54, .int 0]) hx hb hts (fun w h => mT (inX11 w h)) tyX11 tyX11_ok nmX11 hown hG.1 hP hD hS hm_mo hf_mo rfl 0 (by decide) (hts _ (mT wg_1336)) (fun _ h => h) rfl (by decide +kernel) (rfl) (rfl) (Nat.le_of_ble_eq_true rfl) rfl dX11_say_2 (fun H locs f1 hf3 ho2 hP hD hS => ?_)
  have hf4 := (ho2 ar49 (kno hf_mo hf_ar49).symm).trans hf_ar49
  refine lv_aload_n hx hb dX11_say_5 rfl (lv_at hl 0 rfl) ?_
  refine pl_get (v := .int 0) hx hb hts (fun w h => mT (inX11 w h)) hown hG.1 hP hm_mo hf3 rfl 23 (by decide) (hts _ (mT wg_1359)) (fun _ h => h) rfl dX11_say_6 ?_
  refine lv_if_ne (tgt := 18) hx hb dX11_say_9 (by decide) (fun c5 => absurd rfl c5) (fun c5 => ?_)
  refine lv_aload_n hx hb dX11_say_12 rfl (lv_at hl 0 rfl) ?_
  refine lv_iconst (v := 0) hx hb dX11_say_13 (by decide) ?_
  refine call_i (run_V (rm := { frames := 0, cells := 0, slots := 0, locals := 0 }) hx hb hml hown hts (k_X11_refuse l g _ _ _ mo ar1 ar7 ar10 ar11 ar24 ar26 ar27 ar28 ar29 ar30 ar31 ar32 ar33 ar34 ar35 ar41 ar42 ar43 ar44 ar49 ar52 ar54 hm_mo hf3 hm_ar49 hf4) cV_X11_refuse wg_1714 ⟨Nat.le_of_ble_eq_true rfl, Nat.le_of_ble_eq_true rfl⟩ hG hE hA hP hD hS hm_mo hf3 rfl rfl hl.1 (As := [.int 0]) (rest := []) rfl (Nat.le_of_ble_eq_true rfl) dX11_say_14 ⟨Nat.le_of_ble_eq_true rfl, Nat.le_of_ble_eq_true rfl⟩) hA hD hS (fun r6 L7 f8 H locs hp9 hP hD hS => ?_)
  obtain ⟨r10, hf11, er12, fr13, sb14⟩ := hp9
  have hf16 := (fr13 mo hm_mo (kno hf3 hf4)).trans hf3
  have hm15 := sb14 _ hm_mo
  have hm17 := sb14 _ hm_ar49
  subst er12
  exact ret_i (ty := .int) hx hb hr hlocks (rfl) hP hD hS (Nat.le_of_ble_eq_true rfl) (Nat.le_of_ble_eq_true rfl) (rfl) dX11_say_17

set_option maxHeartbeats 4000000 in
set_option maxRecDepth 100000 in
theorem k_X11_starts_ (l : Launch) (g : GG) (L : List Nat) (f : HP) (sz : Nat) (mo ar1 ar7 ar10 ar11 ar24 ar26 ar27 ar28 ar29 ar30 ar31 ar32 ar33 ar34 ar35 ar41 ar42 ar43 ar44 ar49 ar52 ar54 : Nat) (b : Int32) (hm_mo : mo ∈ L) (hf_mo : f mo = .inr (10, [.int 0, .ref ar1, .int 0, .int 0, .int 0, .int 0, .int 0, .ref ar7, .int 0, .int 0, .ref ar10, .ref ar11, .int 0, .int 0, .int 0, .int 0, .int 0, .int 0, .int 0, .int 0, .int 0, .long 0, .long 0, .int 0, .ref ar24, .int 0, .ref ar26, .ref ar27, .ref ar28, .ref ar29, .ref ar30, .ref ar31, .ref ar32, .ref ar33, .ref ar34, .ref ar35, .int 0, .int 0, .int 0, .int 0, .int 0, .ref ar41, .ref ar42, .ref ar43, .ref ar44, .long 0, .long 0, .int 0, .int 0, .ref ar49, .int 0, .int 0, .ref ar52, .int 0, .ref ar54, .int 0])) (hm_ar49 : ar49 ∈ L) (hf_ar49 : f ar49 = .inl (g.2.1 0, 5, .inl (fun _ => 0))) : MtI l g yX11_starts_ cX11_starts_ 3 (some .int) ({ frames := 1, cells := 0, slots := 0, locals := 21 }) [.ref mo, .int b] L f sz (fun r _ => r = (-1)) := by
  refine MtI.of (by decide +kernel) (Nat.le_of_ble_eq_true rfl) ?_
  intro p e s m below meth c A hEn hP hD hS ls hl
  obtain ⟨hx, hb, hr, hml, hown, hlocks, hts, hG, hA, hE, hnm⟩ := hEn
  have hown : s.vm.findClass "RulerWordModel" = some m.cls := hown
  have hl : lv_has ls 3 [(0, .ref mo), (1, .int b)] := hl
  refine lv_aload_n hx hb dX11_starts__0 rfl (lv_at hl 0 rfl) ?_
  refine lv_iconst (v := 0) hx hb dX11_starts__1 (by decide) ?_
  refine pl_put (ty := .int) (v := .int 0) (fs' := [.int 0, .ref ar1, .int 0, .int 0, .int 0, .int 0, .int 0, .ref ar7, .int 0, .int 0, .ref ar10, .ref ar11, .int 0, .int 0, .int 0, .int 0, .int 0, .int 0, .int 0, .int 0, .int 0, .long 0, .long 0, .int 0, .ref ar24, .int 0, .ref ar26, .ref ar27, .ref ar28, .ref ar29, .ref ar30, .ref ar31, .ref ar32, .ref ar33, .ref ar34, .ref ar35, .int 0, .int 0, .int 0, .int 0, .int 0, .ref ar41, .ref ar42, .ref ar43, .ref ar44, .long 0, .long 0, .int 0, .int 0, .ref ar49, .int 0, .int 0, .ref ar52, .int 0, .ref ar54, .int 0]) hx hb hts (fun w h => mT (inX11 w h)) tyX11 tyX11_ok nmX11 hown hG.1 hP hD hS hm_mo hf_mo rfl 0 (by decide) (hts _ (mT wg_1336)) (fun _ h => h) rfl (by decide +kernel) (rfl) (rfl) (Nat.le_of_ble_eq_true rfl) rfl dX11_starts__2 (fun H locs f1 hf3 ho2 hP hD hS => ?_)
  have hf4 := (ho2 ar49 (kno hf_mo hf_ar49).symm).trans hf_ar49
  refine lv_aload_n hx hb dX11_starts__5 rfl (lv_at hl 0 rfl) ?_
  refine pl_get (v := .int 0) hx hb hts (fun w h => mT (inX11 w h)) hown hG.1 hP hm_mo hf3 rfl 23 (by decide) (hts _ (mT wg_1359)) (fun _ h => h) rfl dX11_starts__6 ?_
  refine lv_if_ne (tgt := 18) hx hb dX11_starts__9 (by decide) (fun c5 => absurd rfl c5) (fun c5 => ?_)
  refine lv_aload_n hx hb dX11_starts__12 rfl (lv_at hl 0 rfl) ?_
  refine lv_iconst (v := 0) hx hb dX11_starts__13 (by decide) ?_
  refine call_i (run_V (rm := { frames := 0, cells := 0, slots := 0, locals := 0 }) hx hb hml hown hts (k_X11_refuse l g _ _ _ mo ar1 ar7 ar10 ar11 ar24 ar26 ar27 ar28 ar29 ar30 ar31 ar32 ar33 ar34 ar35 ar41 ar42 ar43 ar44 ar49 ar52 ar54 hm_mo hf3 hm_ar49 hf4) cV_X11_refuse wg_1714 ⟨Nat.le_of_ble_eq_true rfl, Nat.le_of_ble_eq_true rfl⟩ hG hE hA hP hD hS hm_mo hf3 rfl rfl hl.1 (As := [.int 0]) (rest := []) rfl (Nat.le_of_ble_eq_true rfl) dX11_starts__14 ⟨Nat.le_of_ble_eq_true rfl, Nat.le_of_ble_eq_true rfl⟩) hA hD hS (fun r6 L7 f8 H locs hp9 hP hD hS => ?_)
  obtain ⟨r10, hf11, er12, fr13, sb14⟩ := hp9
  have hf16 := (fr13 mo hm_mo (kno hf3 hf4)).trans hf3
  have hm15 := sb14 _ hm_mo
  have hm17 := sb14 _ hm_ar49
  subst er12
  exact ret_i (ty := .int) hx hb hr hlocks (rfl) hP hD hS (Nat.le_of_ble_eq_true rfl) (Nat.le_of_ble_eq_true rfl) (rfl) dX11_starts__17

set_option maxHeartbeats 4000000 in
set_option maxRecDepth 100000 in
theorem k_X11_falseOnes (l : Launch) (g : GG) (L : List Nat) (f : HP) (sz : Nat) (mo ar1 ar7 ar10 ar11 ar24 ar26 ar27 ar28 ar29 ar30 ar31 ar32 ar33 ar34 ar35 ar41 ar42 ar43 ar44 ar49 ar52 ar54 : Nat) (b : Int32) (hm_mo : mo ∈ L) (hf_mo : f mo = .inr (10, [.int 0, .ref ar1, .int 0, .int 0, .int 0, .int 0, .int 0, .ref ar7, .int 0, .int 0, .ref ar10, .ref ar11, .int 0, .int 0, .int 0, .int 0, .int 0, .int 0, .int 0, .int 0, .int 0, .long 0, .long 0, .int 0, .ref ar24, .int 0, .ref ar26, .ref ar27, .ref ar28, .ref ar29, .ref ar30, .ref ar31, .ref ar32, .ref ar33, .ref ar34, .ref ar35, .int 0, .int 0, .int 0, .int 0, .int 0, .ref ar41, .ref ar42, .ref ar43, .ref ar44, .long 0, .long 0, .int 0, .int 0, .ref ar49, .int 0, .int 0, .ref ar52, .int 0, .ref ar54, .int 0])) (hm_ar49 : ar49 ∈ L) (hf_ar49 : f ar49 = .inl (g.2.1 0, 5, .inl (fun _ => 0))) : MtI l g yX11_falseOnes cX11_falseOnes 6 (some .int) ({ frames := 1, cells := 0, slots := 0, locals := 21 }) [.ref mo, .int b] L f sz (fun r _ => r = (-1)) := by
  refine MtI.of (by decide +kernel) (Nat.le_of_ble_eq_true rfl) ?_
  intro p e s m below meth c A hEn hP hD hS ls hl
  obtain ⟨hx, hb, hr, hml, hown, hlocks, hts, hG, hA, hE, hnm⟩ := hEn
  have hown : s.vm.findClass "RulerWordModel" = some m.cls := hown
  have hl : lv_has ls 6 [(0, .ref mo), (1, .int b)] := hl
  refine lv_aload_n hx hb dX11_falseOnes_0 rfl (lv_at hl 0 rfl) ?_
  refine lv_iconst (v := 0) hx hb dX11_falseOnes_1 (by decide) ?_
  refine pl_put (ty := .int) (v := .int 0) (fs' := [.int 0, .ref ar1, .int 0, .int 0, .int 0, .int 0, .int 0, .ref ar7, .int 0, .int 0, .ref ar10, .ref ar11, .int 0, .int 0, .int 0, .int 0, .int 0, .int 0, .int 0, .int 0, .int 0, .long 0, .long 0, .int 0, .ref ar24, .int 0, .ref ar26, .ref ar27, .ref ar28, .ref ar29, .ref ar30, .ref ar31, .ref ar32, .ref ar33, .ref ar34, .ref ar35, .int 0, .int 0, .int 0, .int 0, .int 0, .ref ar41, .ref ar42, .ref ar43, .ref ar44, .long 0, .long 0, .int 0, .int 0, .ref ar49, .int 0, .int 0, .ref ar52, .int 0, .ref ar54, .int 0]) hx hb hts (fun w h => mT (inX11 w h)) tyX11 tyX11_ok nmX11 hown hG.1 hP hD hS hm_mo hf_mo rfl 0 (by decide) (hts _ (mT wg_1336)) (fun _ h => h) rfl (by decide +kernel) (rfl) (rfl) (Nat.le_of_ble_eq_true rfl) rfl dX11_falseOnes_2 (fun H locs f1 hf3 ho2 hP hD hS => ?_)
  have hf4 := (ho2 ar49 (kno hf_mo hf_ar49).symm).trans hf_ar49
  refine lv_aload_n hx hb dX11_falseOnes_5 rfl (lv_at hl 0 rfl) ?_
  refine pl_get (v := .int 0) hx hb hts (fun w h => mT (inX11 w h)) hown hG.1 hP hm_mo hf3 rfl 23 (by decide) (hts _ (mT wg_1359)) (fun _ h => h) rfl dX11_falseOnes_6 ?_
  refine lv_if_ne (tgt := 18) hx hb dX11_falseOnes_9 (by decide) (fun c5 => absurd rfl c5) (fun c5 => ?_)
  refine lv_aload_n hx hb dX11_falseOnes_12 rfl (lv_at hl 0 rfl) ?_
  refine lv_iconst (v := 0) hx hb dX11_falseOnes_13 (by decide) ?_
  refine call_i (run_V (rm := { frames := 0, cells := 0, slots := 0, locals := 0 }) hx hb hml hown hts (k_X11_refuse l g _ _ _ mo ar1 ar7 ar10 ar11 ar24 ar26 ar27 ar28 ar29 ar30 ar31 ar32 ar33 ar34 ar35 ar41 ar42 ar43 ar44 ar49 ar52 ar54 hm_mo hf3 hm_ar49 hf4) cV_X11_refuse wg_1714 ⟨Nat.le_of_ble_eq_true rfl, Nat.le_of_ble_eq_true rfl⟩ hG hE hA hP hD hS hm_mo hf3 rfl rfl hl.1 (As := [.int 0]) (rest := []) rfl (Nat.le_of_ble_eq_true rfl) dX11_falseOnes_14 ⟨Nat.le_of_ble_eq_true rfl, Nat.le_of_ble_eq_true rfl⟩) hA hD hS (fun r6 L7 f8 H locs hp9 hP hD hS => ?_)
  obtain ⟨r10, hf11, er12, fr13, sb14⟩ := hp9
  have hf16 := (fr13 mo hm_mo (kno hf3 hf4)).trans hf3
  have hm15 := sb14 _ hm_mo
  have hm17 := sb14 _ hm_ar49
  subst er12
  exact ret_i (ty := .int) hx hb hr hlocks (rfl) hP hD hS (Nat.le_of_ble_eq_true rfl) (Nat.le_of_ble_eq_true rfl) (rfl) dX11_falseOnes_17

set_option maxHeartbeats 4000000 in
set_option maxRecDepth 100000 in
theorem k_X11_heard (l : Launch) (g : GG) (L : List Nat) (f : HP) (sz : Nat) (mo ar1 ar7 ar10 ar11 ar24 ar26 ar27 ar28 ar29 ar30 ar31 ar32 ar33 ar34 ar35 ar41 ar42 ar43 ar44 ar49 ar52 ar54 : Nat) (a1 : Int32) (a2 : Int32) (a3 : Int32) (a4 : Int32) (hm_mo : mo ∈ L) (hf_mo : f mo = .inr (10, [.int 0, .ref ar1, .int 0, .int 0, .int 0, .int 0, .int 0, .ref ar7, .int 0, .int 0, .ref ar10, .ref ar11, .int 0, .int 0, .int 0, .int 0, .int 0, .int 0, .int 0, .int 0, .int 0, .long 0, .long 0, .int 0, .ref ar24, .int 0, .ref ar26, .ref ar27, .ref ar28, .ref ar29, .ref ar30, .ref ar31, .ref ar32, .ref ar33, .ref ar34, .ref ar35, .int 0, .int 0, .int 0, .int 0, .int 0, .ref ar41, .ref ar42, .ref ar43, .ref ar44, .long 0, .long 0, .int 0, .int 0, .ref ar49, .int 0, .int 0, .ref ar52, .int 0, .ref ar54, .int 0])) : MtI l g yX11_heard cX11_heard 5 (some .int) ({ frames := 1, cells := 0, slots := 0, locals := 22 }) [.ref mo, .int a1, .int a2, .int a3, .int a4] L f sz (fun r _ => r = (-1)) := by
  refine MtI.of (by decide +kernel) (Nat.le_of_ble_eq_true rfl) ?_
  intro p e s m below meth c A hEn hP hD hS ls hl
  obtain ⟨hx, hb, hr, hml, hown, hlocks, hts, hG, hA, hE, hnm⟩ := hEn
  have hown : s.vm.findClass "RulerWordModel" = some m.cls := hown
  have hl : lv_has ls 5 [(0, .ref mo), (1, .int a1), (2, .int a2), (3, .int a3), (4, .int a4)] := hl
  refine lv_aload_n hx hb dX11_heard_0 rfl (lv_at hl 0 rfl) ?_
  refine lv_iconst (v := 0) hx hb dX11_heard_1 (by decide) ?_
  refine pl_put (ty := .int) (v := .int 0) (fs' := [.int 0, .ref ar1, .int 0, .int 0, .int 0, .int 0, .int 0, .ref ar7, .int 0, .int 0, .ref ar10, .ref ar11, .int 0, .int 0, .int 0, .int 0, .int 0, .int 0, .int 0, .int 0, .int 0, .long 0, .long 0, .int 0, .ref ar24, .int 0, .ref ar26, .ref ar27, .ref ar28, .ref ar29, .ref ar30, .ref ar31, .ref ar32, .ref ar33, .ref ar34, .ref ar35, .int 0, .int 0, .int 0, .int 0, .int 0, .ref ar41, .ref ar42, .ref ar43, .ref ar44, .long 0, .long 0, .int 0, .int 0, .ref ar49, .int 0, .int 0, .ref ar52, .int 0, .ref ar54, .int 0]) hx hb hts (fun w h => mT (inX11 w h)) tyX11 tyX11_ok nmX11 hown hG.1 hP hD hS hm_mo hf_mo rfl 0 (by decide) (hts _ (mT wg_1336)) (fun _ h => h) rfl (by decide +kernel) (rfl) (rfl) (Nat.le_of_ble_eq_true rfl) rfl dX11_heard_2 (fun H locs f1 hf3 ho2 hP hD hS => ?_)
  refine lv_aload_n hx hb dX11_heard_5 rfl (lv_at hl 0 rfl) ?_
  refine lv_iload_n hx hb dX11_heard_6 rfl (lv_at hl 1 rfl) ?_
  refine lv_iload_n hx hb dX11_heard_7 rfl (lv_at hl 2 rfl) ?_
  refine call_i (run_V (rm := { frames := 0, cells := 0, slots := 0, locals := 0 }) hx hb hml hown hts (k_X11_isRound l g _ _ _ mo ar1 ar7 ar10 ar11 ar24 ar26 ar27 ar28 ar29 ar30 ar31 ar32 ar33 ar34 ar35 ar41 ar42 ar43 ar44 ar49 ar52 ar54 a1 a2 hm_mo hf3) cV_X11_isRound wg_1718 ⟨Nat.le_of_ble_eq_true rfl, Nat.le_of_ble_eq_true rfl⟩ hG hE hA hP hD hS hm_mo hf3 rfl rfl hl.1 (As := [.int a1, .int a2]) (rest := []) rfl (Nat.le_of_ble_eq_true rfl) dX11_heard_8 ⟨Nat.le_of_ble_eq_true rfl, Nat.le_of_ble_eq_true rfl⟩) hA hD hS (fun r4 L5 f6 H locs hp7 hP hD hS => ?_)
  obtain ⟨er8, fr9, sb10⟩ := hp7
  have hf12 := (fr9 mo hm_mo ).trans hf3
  have hm11 := sb10 _ hm_mo
  subst er8
  refine lv_if_eq (tgt := 49) hx hb dX11_heard_11 (by decide) (fun c13 => ?_) (fun c13 => absurd (by decide) c13)
  refine lv_iconst (v := (-1)) hx hb dX11_heard_49 (by decide) ?_
  exact ret_i (ty := .int) hx hb hr hlocks (rfl) hP hD hS (Nat.le_of_ble_eq_true rfl) (Nat.le_of_ble_eq_true rfl) (rfl) dX11_heard_50

set_option maxHeartbeats 4000000 in
set_option maxRecDepth 100000 in
theorem k_X11_peer (l : Launch) (g : GG) (L : List Nat) (f : HP) (sz : Nat) (mo ar1 ar7 ar10 ar11 ar24 ar26 ar27 ar28 ar29 ar30 ar31 ar32 ar33 ar34 ar35 ar41 ar42 ar43 ar44 ar49 ar52 ar54 : Nat) (i : Int32) (w : Int32) (hm_mo : mo ∈ L) (hf_mo : f mo = .inr (10, [.int 0, .ref ar1, .int 0, .int 0, .int 0, .int 0, .int 0, .ref ar7, .int 0, .int 0, .ref ar10, .ref ar11, .int 0, .int 0, .int 0, .int 0, .int 0, .int 0, .int 0, .int 0, .int 0, .long 0, .long 0, .int 0, .ref ar24, .int 0, .ref ar26, .ref ar27, .ref ar28, .ref ar29, .ref ar30, .ref ar31, .ref ar32, .ref ar33, .ref ar34, .ref ar35, .int 0, .int 0, .int 0, .int 0, .int 0, .ref ar41, .ref ar42, .ref ar43, .ref ar44, .long 0, .long 0, .int 0, .int 0, .ref ar49, .int 0, .int 0, .ref ar52, .int 0, .ref ar54, .int 0])) : MtI l g yX11_peer cX11_peer 3 (some .int) ({ frames := 1, cells := 0, slots := 0, locals := 21 }) [.ref mo, .int i, .int w] L f sz (fun r _ => r = (-1)) := by
  refine MtI.of (by decide +kernel) (Nat.le_of_ble_eq_true rfl) ?_
  intro p e s m below meth c A hEn hP hD hS ls hl
  obtain ⟨hx, hb, hr, hml, hown, hlocks, hts, hG, hA, hE, hnm⟩ := hEn
  have hown : s.vm.findClass "RulerWordModel" = some m.cls := hown
  have hl : lv_has ls 3 [(0, .ref mo), (1, .int i), (2, .int w)] := hl
  refine lv_aload_n hx hb dX11_peer_0 rfl (lv_at hl 0 rfl) ?_
  refine lv_iconst (v := 0) hx hb dX11_peer_1 (by decide) ?_
  refine pl_put (ty := .int) (v := .int 0) (fs' := [.int 0, .ref ar1, .int 0, .int 0, .int 0, .int 0, .int 0, .ref ar7, .int 0, .int 0, .ref ar10, .ref ar11, .int 0, .int 0, .int 0, .int 0, .int 0, .int 0, .int 0, .int 0, .int 0, .long 0, .long 0, .int 0, .ref ar24, .int 0, .ref ar26, .ref ar27, .ref ar28, .ref ar29, .ref ar30, .ref ar31, .ref ar32, .ref ar33, .ref ar34, .ref ar35, .int 0, .int 0, .int 0, .int 0, .int 0, .ref ar41, .ref ar42, .ref ar43, .ref ar44, .long 0, .long 0, .int 0, .int 0, .ref ar49, .int 0, .int 0, .ref ar52, .int 0, .ref ar54, .int 0]) hx hb hts (fun w h => mT (inX11 w h)) tyX11 tyX11_ok nmX11 hown hG.1 hP hD hS hm_mo hf_mo rfl 0 (by decide) (hts _ (mT wg_1336)) (fun _ h => h) rfl (by decide +kernel) (rfl) (rfl) (Nat.le_of_ble_eq_true rfl) rfl dX11_peer_2 (fun H locs f1 hf3 ho2 hP hD hS => ?_)
  refine lv_aload_n hx hb dX11_peer_5 rfl (lv_at hl 0 rfl) ?_
  refine lv_iload_n hx hb dX11_peer_6 rfl (lv_at hl 1 rfl) ?_
  refine call_i (run_V (rm := { frames := 0, cells := 0, slots := 0, locals := 0 }) hx hb hml hown hts (k_X11_isPeer l g _ _ _ mo ar1 ar7 ar10 ar11 ar24 ar26 ar27 ar28 ar29 ar30 ar31 ar32 ar33 ar34 ar35 ar41 ar42 ar43 ar44 ar49 ar52 ar54 i hm_mo hf3) cV_X11_isPeer wg_1722 ⟨Nat.le_of_ble_eq_true rfl, Nat.le_of_ble_eq_true rfl⟩ hG hE hA hP hD hS hm_mo hf3 rfl rfl hl.1 (As := [.int i]) (rest := []) rfl (Nat.le_of_ble_eq_true rfl) dX11_peer_7 ⟨Nat.le_of_ble_eq_true rfl, Nat.le_of_ble_eq_true rfl⟩) hA hD hS (fun r4 L5 f6 H locs hp7 hP hD hS => ?_)
  obtain ⟨er8, fr9, sb10⟩ := hp7
  have hf12 := (fr9 mo hm_mo ).trans hf3
  have hm11 := sb10 _ hm_mo
  subst er8
  refine lv_if_ne (tgt := 15) hx hb dX11_peer_10 (by decide) (fun c13 => absurd rfl c13) (fun c13 => ?_)
  refine lv_iconst (v := (-1)) hx hb dX11_peer_13 (by decide) ?_
  exact ret_i (ty := .int) hx hb hr hlocks (rfl) hP hD hS (Nat.le_of_ble_eq_true rfl) (Nat.le_of_ble_eq_true rfl) (rfl) dX11_peer_14

set_option maxHeartbeats 4000000 in
set_option maxRecDepth 100000 in
theorem k_X11_told (l : Launch) (g : GG) (L : List Nat) (f : HP) (sz : Nat) (mo ar1 ar7 ar10 ar11 ar24 ar26 ar27 ar28 ar29 ar30 ar31 ar32 ar33 ar34 ar35 ar41 ar42 ar43 ar44 ar49 ar52 ar54 : Nat) (i : Int32) (p0 : Int32) (w : Int32) (hm_mo : mo ∈ L) (hf_mo : f mo = .inr (10, [.int 0, .ref ar1, .int 0, .int 0, .int 0, .int 0, .int 0, .ref ar7, .int 0, .int 0, .ref ar10, .ref ar11, .int 0, .int 0, .int 0, .int 0, .int 0, .int 0, .int 0, .int 0, .int 0, .long 0, .long 0, .int 0, .ref ar24, .int 0, .ref ar26, .ref ar27, .ref ar28, .ref ar29, .ref ar30, .ref ar31, .ref ar32, .ref ar33, .ref ar34, .ref ar35, .int 0, .int 0, .int 0, .int 0, .int 0, .ref ar41, .ref ar42, .ref ar43, .ref ar44, .long 0, .long 0, .int 0, .int 0, .ref ar49, .int 0, .int 0, .ref ar52, .int 0, .ref ar54, .int 0])) : MtI l g yX11_told cX11_told 4 (some .int) ({ frames := 1, cells := 0, slots := 0, locals := 21 }) [.ref mo, .int i, .int p0, .int w] L f sz (fun r _ => r = (-1)) := by
  refine MtI.of (by decide +kernel) (Nat.le_of_ble_eq_true rfl) ?_
  intro p e s m below meth c A hEn hP hD hS ls hl
  obtain ⟨hx, hb, hr, hml, hown, hlocks, hts, hG, hA, hE, hnm⟩ := hEn
  have hown : s.vm.findClass "RulerWordModel" = some m.cls := hown
  have hl : lv_has ls 4 [(0, .ref mo), (1, .int i), (2, .int p0), (3, .int w)] := hl
  refine lv_aload_n hx hb dX11_told_0 rfl (lv_at hl 0 rfl) ?_
  refine lv_iconst (v := 0) hx hb dX11_told_1 (by decide) ?_
  refine pl_put (ty := .int) (v := .int 0) (fs' := [.int 0, .ref ar1, .int 0, .int 0, .int 0, .int 0, .int 0, .ref ar7, .int 0, .int 0, .ref ar10, .ref ar11, .int 0, .int 0, .int 0, .int 0, .int 0, .int 0, .int 0, .int 0, .int 0, .long 0, .long 0, .int 0, .ref ar24, .int 0, .ref ar26, .ref ar27, .ref ar28, .ref ar29, .ref ar30, .ref ar31, .ref ar32, .ref ar33, .ref ar34, .ref ar35, .int 0, .int 0, .int 0, .int 0, .int 0, .ref ar41, .ref ar42, .ref ar43, .ref ar44, .long 0, .long 0, .int 0, .int 0, .ref ar49, .int 0, .int 0, .ref ar52, .int 0, .ref ar54, .int 0]) hx hb hts (fun w h => mT (inX11 w h)) tyX11 tyX11_ok nmX11 hown hG.1 hP hD hS hm_mo hf_mo rfl 0 (by decide) (hts _ (mT wg_1336)) (fun _ h => h) rfl (by decide +kernel) (rfl) (rfl) (Nat.le_of_ble_eq_true rfl) rfl dX11_told_2 (fun H locs f1 hf3 ho2 hP hD hS => ?_)
  refine lv_aload_n hx hb dX11_told_5 rfl (lv_at hl 0 rfl) ?_
  refine lv_iload_n hx hb dX11_told_6 rfl (lv_at hl 1 rfl) ?_
  refine call_i (run_V (rm := { frames := 0, cells := 0, slots := 0, locals := 0 }) hx hb hml hown hts (k_X11_isPeer l g _ _ _ mo ar1 ar7 ar10 ar11 ar24 ar26 ar27 ar28 ar29 ar30 ar31 ar32 ar33 ar34 ar35 ar41 ar42 ar43 ar44 ar49 ar52 ar54 i hm_mo hf3) cV_X11_isPeer wg_1722 ⟨Nat.le_of_ble_eq_true rfl, Nat.le_of_ble_eq_true rfl⟩ hG hE hA hP hD hS hm_mo hf3 rfl rfl hl.1 (As := [.int i]) (rest := []) rfl (Nat.le_of_ble_eq_true rfl) dX11_told_7 ⟨Nat.le_of_ble_eq_true rfl, Nat.le_of_ble_eq_true rfl⟩) hA hD hS (fun r4 L5 f6 H locs hp7 hP hD hS => ?_)
  obtain ⟨er8, fr9, sb10⟩ := hp7
  have hf12 := (fr9 mo hm_mo ).trans hf3
  have hm11 := sb10 _ hm_mo
  subst er8
  refine lv_if_eq (tgt := 56) hx hb dX11_told_10 (by decide) (fun c13 => ?_) (fun c13 => absurd (by decide) c13)
  refine lv_iconst (v := (-1)) hx hb dX11_told_56 (by decide) ?_
  exact ret_i (ty := .int) hx hb hr hlocks (rfl) hP hD hS (Nat.le_of_ble_eq_true rfl) (Nat.le_of_ble_eq_true rfl) (rfl) dX11_told_57

set_option maxHeartbeats 4000000 in
set_option maxRecDepth 100000 in
theorem k_X11_agreed (l : Launch) (g : GG) (L : List Nat) (f : HP) (sz : Nat) (mo ar1 ar7 ar10 ar11 ar24 ar26 ar27 ar28 ar29 ar30 ar31 ar32 ar33 ar34 ar35 ar41 ar42 ar43 ar44 ar49 ar52 ar54 : Nat) (hm_mo : mo ∈ L) (hf_mo : f mo = .inr (10, [.int 0, .ref ar1, .int 0, .int 0, .int 0, .int 0, .int 0, .ref ar7, .int 0, .int 0, .ref ar10, .ref ar11, .int 0, .int 0, .int 0, .int 0, .int 0, .int 0, .int 0, .int 0, .int 0, .long 0, .long 0, .int 0, .ref ar24, .int 0, .ref ar26, .ref ar27, .ref ar28, .ref ar29, .ref ar30, .ref ar31, .ref ar32, .ref ar33, .ref ar34, .ref ar35, .int 0, .int 0, .int 0, .int 0, .int 0, .ref ar41, .ref ar42, .ref ar43, .ref ar44, .long 0, .long 0, .int 0, .int 0, .ref ar49, .int 0, .int 0, .ref ar52, .int 0, .ref ar54, .int 0])) : MtI l g yX11_agreed cX11_agreed 2 (some .int) ({ frames := 1, cells := 0, slots := 0, locals := 20 }) [.ref mo] L f sz (fun r _ => r = (-1)) := by
  refine MtI.of (by decide +kernel) (Nat.le_of_ble_eq_true rfl) ?_
  intro p e s m below meth c A hEn hP hD hS ls hl
  obtain ⟨hx, hb, hr, hml, hown, hlocks, hts, hG, hA, hE, hnm⟩ := hEn
  have hown : s.vm.findClass "RulerWordModel" = some m.cls := hown
  have hl : lv_has ls 2 [(0, .ref mo)] := hl
  refine lv_aload_n hx hb dX11_agreed_0 rfl (lv_at hl 0 rfl) ?_
  refine lv_iconst (v := 0) hx hb dX11_agreed_1 (by decide) ?_
  refine pl_put (ty := .int) (v := .int 0) (fs' := [.int 0, .ref ar1, .int 0, .int 0, .int 0, .int 0, .int 0, .ref ar7, .int 0, .int 0, .ref ar10, .ref ar11, .int 0, .int 0, .int 0, .int 0, .int 0, .int 0, .int 0, .int 0, .int 0, .long 0, .long 0, .int 0, .ref ar24, .int 0, .ref ar26, .ref ar27, .ref ar28, .ref ar29, .ref ar30, .ref ar31, .ref ar32, .ref ar33, .ref ar34, .ref ar35, .int 0, .int 0, .int 0, .int 0, .int 0, .ref ar41, .ref ar42, .ref ar43, .ref ar44, .long 0, .long 0, .int 0, .int 0, .ref ar49, .int 0, .int 0, .ref ar52, .int 0, .ref ar54, .int 0]) hx hb hts (fun w h => mT (inX11 w h)) tyX11 tyX11_ok nmX11 hown hG.1 hP hD hS hm_mo hf_mo rfl 0 (by decide) (hts _ (mT wg_1336)) (fun _ h => h) rfl (by decide +kernel) (rfl) (rfl) (Nat.le_of_ble_eq_true rfl) rfl dX11_agreed_2 (fun H locs f1 hf3 ho2 hP hD hS => ?_)
  refine lv_aload_n hx hb dX11_agreed_5 rfl (lv_at hl 0 rfl) ?_
  refine call_i (run_V (rm := { frames := 0, cells := 0, slots := 0, locals := 0 }) hx hb hml hown hts (k_X11_over l g _ _ _ mo ar1 ar7 ar10 ar11 ar24 ar26 ar27 ar28 ar29 ar30 ar31 ar32 ar33 ar34 ar35 ar41 ar42 ar43 ar44 ar49 ar52 ar54 hm_mo hf3) cV_X11_over wg_1773 ⟨Nat.le_of_ble_eq_true rfl, Nat.le_of_ble_eq_true rfl⟩ hG hE hA hP hD hS hm_mo hf3 rfl rfl hl.1 (As := []) (rest := []) rfl (Nat.le_of_ble_eq_true rfl) dX11_agreed_6 ⟨Nat.le_of_ble_eq_true rfl, Nat.le_of_ble_eq_true rfl⟩) hA hD hS (fun r4 L5 f6 H locs hp7 hP hD hS => ?_)
  obtain ⟨er8, fr9, sb10⟩ := hp7
  have hf12 := (fr9 mo hm_mo ).trans hf3
  have hm11 := sb10 _ hm_mo
  subst er8
  refine lv_istore_n (lv' := [(1, .int 0), (0, .ref mo)]) hx hb dX11_agreed_9 rfl hl (by decide) rfl (fun ls hl => ?_)
  refine lv_iload_n hx hb dX11_agreed_10 rfl (lv_at hl 0 rfl) ?_
  refine lv_if_le (tgt := 30) hx hb dX11_agreed_11 (by decide) (fun c13 => ?_) (fun c13 => absurd (by decide) c13)
  refine lv_iload_n hx hb dX11_agreed_30 rfl (lv_at hl 0 rfl) ?_
  refine lv_aload_n hx hb dX11_agreed_31 rfl (lv_at hl 1 rfl) ?_
  refine call_i (run_V (rm := { frames := 0, cells := 0, slots := 0, locals := 0 }) hx hb hml hown hts (k_X11_over l g _ _ _ mo ar1 ar7 ar10 ar11 ar24 ar26 ar27 ar28 ar29 ar30 ar31 ar32 ar33 ar34 ar35 ar41 ar42 ar43 ar44 ar49 ar52 ar54 hm11 hf12) cV_X11_over wg_1773 ⟨Nat.le_of_ble_eq_true rfl, Nat.le_of_ble_eq_true rfl⟩ hG hE hA hP hD hS hm11 hf12 rfl rfl hl.1 (As := []) (rest := [.int 0]) rfl (Nat.le_of_ble_eq_true rfl) dX11_agreed_32 ⟨Nat.le_of_ble_eq_true rfl, Nat.le_of_ble_eq_true rfl⟩) hA hD hS (fun r14 L15 f16 H locs hp17 hP hD hS => ?_)
  obtain ⟨er18, fr19, sb20⟩ := hp17
  have hf22 := (fr19 mo hm11 ).trans hf12
  have hm21 := sb20 _ hm11
  subst er18
  refine lv_icmp_ge (tgt := 42) hx hb dX11_agreed_35 (by decide) (fun c23 => ?_) (fun c23 => absurd (by decide) c23)
  refine lv_iconst (v := (-1)) hx hb dX11_agreed_42 (by decide) ?_
  exact ret_i (ty := .int) hx hb hr hlocks (rfl) hP hD hS (Nat.le_of_ble_eq_true rfl) (Nat.le_of_ble_eq_true rfl) (rfl) dX11_agreed_43

set_option maxHeartbeats 4000000 in
set_option maxRecDepth 100000 in
theorem k_X11_state (l : Launch) (g : GG) (L : List Nat) (f : HP) (sz : Nat) (mo ar1 ar7 ar10 ar11 ar24 ar26 ar27 ar28 ar29 ar30 ar31 ar32 ar33 ar34 ar35 ar41 ar42 ar43 ar44 ar49 ar52 ar54 : Nat) (w : Int32) (hm_mo : mo ∈ L) (hf_mo : f mo = .inr (10, [.int 0, .ref ar1, .int 0, .int 0, .int 0, .int 0, .int 0, .ref ar7, .int 0, .int 0, .ref ar10, .ref ar11, .int 0, .int 0, .int 0, .int 0, .int 0, .int 0, .int 0, .int 0, .int 0, .long 0, .long 0, .int 0, .ref ar24, .int 0, .ref ar26, .ref ar27, .ref ar28, .ref ar29, .ref ar30, .ref ar31, .ref ar32, .ref ar33, .ref ar34, .ref ar35, .int 0, .int 0, .int 0, .int 0, .int 0, .ref ar41, .ref ar42, .ref ar43, .ref ar44, .long 0, .long 0, .int 0, .int 0, .ref ar49, .int 0, .int 0, .ref ar52, .int 0, .ref ar54, .int 0])) : MtI l g yX11_state cX11_state 3 (some .int) ({ frames := 0, cells := 0, slots := 0, locals := 0 }) [.ref mo, .int w] L f sz (fun r _ => r = (-1)) := by
  refine MtI.of (by decide +kernel) (Nat.le_of_ble_eq_true rfl) ?_
  intro p e s m below meth c A hEn hP hD hS ls hl
  obtain ⟨hx, hb, hr, hml, hown, hlocks, hts, hG, hA, hE, hnm⟩ := hEn
  have hown : s.vm.findClass "RulerWordModel" = some m.cls := hown
  have hl : lv_has ls 3 [(0, .ref mo), (1, .int w)] := hl
  refine lv_aload_n hx hb dX11_state_0 rfl (lv_at hl 0 rfl) ?_
  refine lv_iconst (v := 0) hx hb dX11_state_1 (by decide) ?_
  refine pl_put (ty := .int) (v := .int 0) (fs' := [.int 0, .ref ar1, .int 0, .int 0, .int 0, .int 0, .int 0, .ref ar7, .int 0, .int 0, .ref ar10, .ref ar11, .int 0, .int 0, .int 0, .int 0, .int 0, .int 0, .int 0, .int 0, .int 0, .long 0, .long 0, .int 0, .ref ar24, .int 0, .ref ar26, .ref ar27, .ref ar28, .ref ar29, .ref ar30, .ref ar31, .ref ar32, .ref ar33, .ref ar34, .ref ar35, .int 0, .int 0, .int 0, .int 0, .int 0, .ref ar41, .ref ar42, .ref ar43, .ref ar44, .long 0, .long 0, .int 0, .int 0, .ref ar49, .int 0, .int 0, .ref ar52, .int 0, .ref ar54, .int 0]) hx hb hts (fun w h => mT (inX11 w h)) tyX11 tyX11_ok nmX11 hown hG.1 hP hD hS hm_mo hf_mo rfl 0 (by decide) (hts _ (mT wg_1336)) (fun _ h => h) rfl (by decide +kernel) (rfl) (rfl) (Nat.le_of_ble_eq_true rfl) rfl dX11_state_2 (fun H locs f1 hf3 ho2 hP hD hS => ?_)
  refine lv_aload_n hx hb dX11_state_5 rfl (lv_at hl 0 rfl) ?_
  refine pl_get (v := .int 0) hx hb hts (fun w h => mT (inX11 w h)) hown hG.1 hP hm_mo hf3 rfl 23 (by decide) (hts _ (mT wg_1359)) (fun _ h => h) rfl dX11_state_6 ?_
  refine lv_if_ne (tgt := 14) hx hb dX11_state_9 (by decide) (fun c4 => absurd rfl c4) (fun c4 => ?_)
  refine lv_iconst (v := (-1)) hx hb dX11_state_12 (by decide) ?_
  exact ret_i (ty := .int) hx hb hr hlocks (rfl) hP hD hS (Nat.le_of_ble_eq_true rfl) (Nat.le_of_ble_eq_true rfl) (rfl) dX11_state_13

set_option maxHeartbeats 4000000 in
set_option maxRecDepth 100000 in
theorem k_X11_letters (l : Launch) (g : GG) (L : List Nat) (f : HP) (sz : Nat) (mo ar1 ar7 ar10 ar11 ar24 ar26 ar27 ar28 ar29 ar30 ar31 ar32 ar33 ar34 ar35 ar41 ar42 ar43 ar44 ar49 ar52 ar54 : Nat) (w : Int32) (hm_mo : mo ∈ L) (hf_mo : f mo = .inr (10, [.int 0, .ref ar1, .int 0, .int 0, .int 0, .int 0, .int 0, .ref ar7, .int 0, .int 0, .ref ar10, .ref ar11, .int 0, .int 0, .int 0, .int 0, .int 0, .int 0, .int 0, .int 0, .int 0, .long 0, .long 0, .int 0, .ref ar24, .int 0, .ref ar26, .ref ar27, .ref ar28, .ref ar29, .ref ar30, .ref ar31, .ref ar32, .ref ar33, .ref ar34, .ref ar35, .int 0, .int 0, .int 0, .int 0, .int 0, .ref ar41, .ref ar42, .ref ar43, .ref ar44, .long 0, .long 0, .int 0, .int 0, .ref ar49, .int 0, .int 0, .ref ar52, .int 0, .ref ar54, .int 0])) : MtI l g yX11_letters cX11_letters 2 (some .int) ({ frames := 0, cells := 0, slots := 0, locals := 0 }) [.ref mo, .int w] L f sz (fun r _ => r = (-1)) := by
  refine MtI.of (by decide +kernel) (Nat.le_of_ble_eq_true rfl) ?_
  intro p e s m below meth c A hEn hP hD hS ls hl
  obtain ⟨hx, hb, hr, hml, hown, hlocks, hts, hG, hA, hE, hnm⟩ := hEn
  have hown : s.vm.findClass "RulerWordModel" = some m.cls := hown
  have hl : lv_has ls 2 [(0, .ref mo), (1, .int w)] := hl
  refine lv_aload_n hx hb dX11_letters_0 rfl (lv_at hl 0 rfl) ?_
  refine lv_iconst (v := 0) hx hb dX11_letters_1 (by decide) ?_
  refine pl_put (ty := .int) (v := .int 0) (fs' := [.int 0, .ref ar1, .int 0, .int 0, .int 0, .int 0, .int 0, .ref ar7, .int 0, .int 0, .ref ar10, .ref ar11, .int 0, .int 0, .int 0, .int 0, .int 0, .int 0, .int 0, .int 0, .int 0, .long 0, .long 0, .int 0, .ref ar24, .int 0, .ref ar26, .ref ar27, .ref ar28, .ref ar29, .ref ar30, .ref ar31, .ref ar32, .ref ar33, .ref ar34, .ref ar35, .int 0, .int 0, .int 0, .int 0, .int 0, .ref ar41, .ref ar42, .ref ar43, .ref ar44, .long 0, .long 0, .int 0, .int 0, .ref ar49, .int 0, .int 0, .ref ar52, .int 0, .ref ar54, .int 0]) hx hb hts (fun w h => mT (inX11 w h)) tyX11 tyX11_ok nmX11 hown hG.1 hP hD hS hm_mo hf_mo rfl 0 (by decide) (hts _ (mT wg_1336)) (fun _ h => h) rfl (by decide +kernel) (rfl) (rfl) (Nat.le_of_ble_eq_true rfl) rfl dX11_letters_2 (fun H locs f1 hf3 ho2 hP hD hS => ?_)
  refine lv_aload_n hx hb dX11_letters_5 rfl (lv_at hl 0 rfl) ?_
  refine pl_get (v := .int 0) hx hb hts (fun w h => mT (inX11 w h)) hown hG.1 hP hm_mo hf3 rfl 23 (by decide) (hts _ (mT wg_1359)) (fun _ h => h) rfl dX11_letters_6 ?_
  refine lv_if_ne (tgt := 14) hx hb dX11_letters_9 (by decide) (fun c4 => absurd rfl c4) (fun c4 => ?_)
  refine lv_iconst (v := (-1)) hx hb dX11_letters_12 (by decide) ?_
  exact ret_i (ty := .int) hx hb hr hlocks (rfl) hP hD hS (Nat.le_of_ble_eq_true rfl) (Nat.le_of_ble_eq_true rfl) (rfl) dX11_letters_13

set_option maxHeartbeats 4000000 in
set_option maxRecDepth 100000 in
theorem k_X11_trueRuler (l : Launch) (g : GG) (L : List Nat) (f : HP) (sz : Nat) (mo ar1 ar7 ar10 ar11 ar24 ar26 ar27 ar28 ar29 ar30 ar31 ar32 ar33 ar34 ar35 ar41 ar42 ar43 ar44 ar49 ar52 ar54 : Nat) (hm_mo : mo ∈ L) (hf_mo : f mo = .inr (10, [.int 0, .ref ar1, .int 0, .int 0, .int 0, .int 0, .int 0, .ref ar7, .int 0, .int 0, .ref ar10, .ref ar11, .int 0, .int 0, .int 0, .int 0, .int 0, .int 0, .int 0, .int 0, .int 0, .long 0, .long 0, .int 0, .ref ar24, .int 0, .ref ar26, .ref ar27, .ref ar28, .ref ar29, .ref ar30, .ref ar31, .ref ar32, .ref ar33, .ref ar34, .ref ar35, .int 0, .int 0, .int 0, .int 0, .int 0, .ref ar41, .ref ar42, .ref ar43, .ref ar44, .long 0, .long 0, .int 0, .int 0, .ref ar49, .int 0, .int 0, .ref ar52, .int 0, .ref ar54, .int 0])) : MtI l g yX11_trueRuler cX11_trueRuler 2 (some .int) ({ frames := 0, cells := 0, slots := 0, locals := 0 }) [.ref mo] L f sz (fun r _ => r = (-1)) := by
  refine MtI.of (by decide +kernel) (Nat.le_of_ble_eq_true rfl) ?_
  intro p e s m below meth c A hEn hP hD hS ls hl
  obtain ⟨hx, hb, hr, hml, hown, hlocks, hts, hG, hA, hE, hnm⟩ := hEn
  have hown : s.vm.findClass "RulerWordModel" = some m.cls := hown
  have hl : lv_has ls 2 [(0, .ref mo)] := hl
  refine lv_aload_n hx hb dX11_trueRuler_0 rfl (lv_at hl 0 rfl) ?_
  refine lv_iconst (v := 0) hx hb dX11_trueRuler_1 (by decide) ?_
  refine pl_put (ty := .int) (v := .int 0) (fs' := [.int 0, .ref ar1, .int 0, .int 0, .int 0, .int 0, .int 0, .ref ar7, .int 0, .int 0, .ref ar10, .ref ar11, .int 0, .int 0, .int 0, .int 0, .int 0, .int 0, .int 0, .int 0, .int 0, .long 0, .long 0, .int 0, .ref ar24, .int 0, .ref ar26, .ref ar27, .ref ar28, .ref ar29, .ref ar30, .ref ar31, .ref ar32, .ref ar33, .ref ar34, .ref ar35, .int 0, .int 0, .int 0, .int 0, .int 0, .ref ar41, .ref ar42, .ref ar43, .ref ar44, .long 0, .long 0, .int 0, .int 0, .ref ar49, .int 0, .int 0, .ref ar52, .int 0, .ref ar54, .int 0]) hx hb hts (fun w h => mT (inX11 w h)) tyX11 tyX11_ok nmX11 hown hG.1 hP hD hS hm_mo hf_mo rfl 0 (by decide) (hts _ (mT wg_1336)) (fun _ h => h) rfl (by decide +kernel) (rfl) (rfl) (Nat.le_of_ble_eq_true rfl) rfl dX11_trueRuler_2 (fun H locs f1 hf3 ho2 hP hD hS => ?_)
  refine lv_iconst (v := 0) hx hb dX11_trueRuler_5 (by decide) ?_
  refine lv_istore_n (lv' := [(1, .int 0), (0, .ref mo)]) hx hb dX11_trueRuler_6 rfl hl (by decide) rfl (fun ls hl => ?_)
  refine lv_iload_n hx hb dX11_trueRuler_7 rfl (lv_at hl 0 rfl) ?_
  refine lv_aload_n hx hb dX11_trueRuler_8 rfl (lv_at hl 1 rfl) ?_
  refine pl_get (v := .int 0) hx hb hts (fun w h => mT (inX11 w h)) hown hG.1 hP hm_mo hf3 rfl 17 (by decide) (hts _ (mT wg_1353)) (fun _ h => h) rfl dX11_trueRuler_9 ?_
  refine lv_icmp_ge (tgt := 43) hx hb dX11_trueRuler_12 (by decide) (fun c4 => ?_) (fun c4 => absurd (by decide) c4)
  refine lv_iconst (v := (-1)) hx hb dX11_trueRuler_43 (by decide) ?_
  exact ret_i (ty := .int) hx hb hr hlocks (rfl) hP hD hS (Nat.le_of_ble_eq_true rfl) (Nat.le_of_ble_eq_true rfl) (rfl) dX11_trueRuler_44

set_option maxHeartbeats 4000000 in
set_option maxRecDepth 100000 in
theorem k_X11_free (l : Launch) (g : GG) (L : List Nat) (f : HP) (sz : Nat) (mo ar1 ar7 ar10 ar11 ar24 ar26 ar27 ar28 ar29 ar30 ar31 ar32 ar33 ar34 ar35 ar41 ar42 ar43 ar44 ar49 ar52 ar54 : Nat) (hm_mo : mo ∈ L) (hf_mo : f mo = .inr (10, [.int 0, .ref ar1, .int 0, .int 0, .int 0, .int 0, .int 0, .ref ar7, .int 0, .int 0, .ref ar10, .ref ar11, .int 0, .int 0, .int 0, .int 0, .int 0, .int 0, .int 0, .int 0, .int 0, .long 0, .long 0, .int 0, .ref ar24, .int 0, .ref ar26, .ref ar27, .ref ar28, .ref ar29, .ref ar30, .ref ar31, .ref ar32, .ref ar33, .ref ar34, .ref ar35, .int 0, .int 0, .int 0, .int 0, .int 0, .ref ar41, .ref ar42, .ref ar43, .ref ar44, .long 0, .long 0, .int 0, .int 0, .ref ar49, .int 0, .int 0, .ref ar52, .int 0, .ref ar54, .int 0])) : MtI l g yX11_free cX11_free 1 (some .int) ({ frames := 0, cells := 0, slots := 0, locals := 0 }) [.ref mo] L f sz (fun r _ => r = (-1)) := by
  refine MtI.of (by decide +kernel) (Nat.le_of_ble_eq_true rfl) ?_
  intro p e s m below meth c A hEn hP hD hS ls hl
  obtain ⟨hx, hb, hr, hml, hown, hlocks, hts, hG, hA, hE, hnm⟩ := hEn
  have hown : s.vm.findClass "RulerWordModel" = some m.cls := hown
  have hl : lv_has ls 1 [(0, .ref mo)] := hl
  refine lv_aload_n hx hb dX11_free_0 rfl (lv_at hl 0 rfl) ?_
  refine lv_iconst (v := 0) hx hb dX11_free_1 (by decide) ?_
  refine pl_put (ty := .int) (v := .int 0) (fs' := [.int 0, .ref ar1, .int 0, .int 0, .int 0, .int 0, .int 0, .ref ar7, .int 0, .int 0, .ref ar10, .ref ar11, .int 0, .int 0, .int 0, .int 0, .int 0, .int 0, .int 0, .int 0, .int 0, .long 0, .long 0, .int 0, .ref ar24, .int 0, .ref ar26, .ref ar27, .ref ar28, .ref ar29, .ref ar30, .ref ar31, .ref ar32, .ref ar33, .ref ar34, .ref ar35, .int 0, .int 0, .int 0, .int 0, .int 0, .ref ar41, .ref ar42, .ref ar43, .ref ar44, .long 0, .long 0, .int 0, .int 0, .ref ar49, .int 0, .int 0, .ref ar52, .int 0, .ref ar54, .int 0]) hx hb hts (fun w h => mT (inX11 w h)) tyX11 tyX11_ok nmX11 hown hG.1 hP hD hS hm_mo hf_mo rfl 0 (by decide) (hts _ (mT wg_1336)) (fun _ h => h) rfl (by decide +kernel) (rfl) (rfl) (Nat.le_of_ble_eq_true rfl) rfl dX11_free_2 (fun H locs f1 hf3 ho2 hP hD hS => ?_)
  refine lv_aload_n hx hb dX11_free_5 rfl (lv_at hl 0 rfl) ?_
  refine pl_get (v := .int 0) hx hb hts (fun w h => mT (inX11 w h)) hown hG.1 hP hm_mo hf3 rfl 23 (by decide) (hts _ (mT wg_1359)) (fun _ h => h) rfl dX11_free_6 ?_
  refine lv_if_ne (tgt := 14) hx hb dX11_free_9 (by decide) (fun c4 => absurd rfl c4) (fun c4 => ?_)
  refine lv_iconst (v := (-1)) hx hb dX11_free_12 (by decide) ?_
  exact ret_i (ty := .int) hx hb hr hlocks (rfl) hP hD hS (Nat.le_of_ble_eq_true rfl) (Nat.le_of_ble_eq_true rfl) (rfl) dX11_free_13

set_option maxHeartbeats 4000000 in
set_option maxRecDepth 100000 in
theorem k_X11_broken (l : Launch) (g : GG) (L : List Nat) (f : HP) (sz : Nat) (mo ar1 ar7 ar10 ar11 ar24 ar26 ar27 ar28 ar29 ar30 ar31 ar32 ar33 ar34 ar35 ar41 ar42 ar43 ar44 ar49 ar52 ar54 : Nat) (hm_mo : mo ∈ L) (hf_mo : f mo = .inr (10, [.int 0, .ref ar1, .int 0, .int 0, .int 0, .int 0, .int 0, .ref ar7, .int 0, .int 0, .ref ar10, .ref ar11, .int 0, .int 0, .int 0, .int 0, .int 0, .int 0, .int 0, .int 0, .int 0, .long 0, .long 0, .int 0, .ref ar24, .int 0, .ref ar26, .ref ar27, .ref ar28, .ref ar29, .ref ar30, .ref ar31, .ref ar32, .ref ar33, .ref ar34, .ref ar35, .int 0, .int 0, .int 0, .int 0, .int 0, .ref ar41, .ref ar42, .ref ar43, .ref ar44, .long 0, .long 0, .int 0, .int 0, .ref ar49, .int 0, .int 0, .ref ar52, .int 0, .ref ar54, .int 0])) : MtI l g yX11_broken cX11_broken 1 (some .int) ({ frames := 1, cells := 0, slots := 0, locals := 20 }) [.ref mo] L f sz (fun r _ => r = (-2)) := by
  refine MtI.of (by decide +kernel) (Nat.le_of_ble_eq_true rfl) ?_
  intro p e s m below meth c A hEn hP hD hS ls hl
  obtain ⟨hx, hb, hr, hml, hown, hlocks, hts, hG, hA, hE, hnm⟩ := hEn
  have hown : s.vm.findClass "RulerWordModel" = some m.cls := hown
  have hl : lv_has ls 1 [(0, .ref mo)] := hl
  refine lv_aload_n hx hb dX11_broken_0 rfl (lv_at hl 0 rfl) ?_
  refine lv_iconst (v := 0) hx hb dX11_broken_1 (by decide) ?_
  refine pl_put (ty := .int) (v := .int 0) (fs' := [.int 0, .ref ar1, .int 0, .int 0, .int 0, .int 0, .int 0, .ref ar7, .int 0, .int 0, .ref ar10, .ref ar11, .int 0, .int 0, .int 0, .int 0, .int 0, .int 0, .int 0, .int 0, .int 0, .long 0, .long 0, .int 0, .ref ar24, .int 0, .ref ar26, .ref ar27, .ref ar28, .ref ar29, .ref ar30, .ref ar31, .ref ar32, .ref ar33, .ref ar34, .ref ar35, .int 0, .int 0, .int 0, .int 0, .int 0, .ref ar41, .ref ar42, .ref ar43, .ref ar44, .long 0, .long 0, .int 0, .int 0, .ref ar49, .int 0, .int 0, .ref ar52, .int 0, .ref ar54, .int 0]) hx hb hts (fun w h => mT (inX11 w h)) tyX11 tyX11_ok nmX11 hown hG.1 hP hD hS hm_mo hf_mo rfl 0 (by decide) (hts _ (mT wg_1336)) (fun _ h => h) rfl (by decide +kernel) (rfl) (rfl) (Nat.le_of_ble_eq_true rfl) rfl dX11_broken_2 (fun H locs f1 hf3 ho2 hP hD hS => ?_)
  refine lv_aload_n hx hb dX11_broken_5 rfl (lv_at hl 0 rfl) ?_
  refine call_i (run_V (rm := { frames := 0, cells := 0, slots := 0, locals := 0 }) hx hb hml hown hts (k_X11_canSearch l g _ _ _ mo ar1 ar7 ar10 ar11 ar24 ar26 ar27 ar28 ar29 ar30 ar31 ar32 ar33 ar34 ar35 ar41 ar42 ar43 ar44 ar49 ar52 ar54 hm_mo hf3) cV_X11_canSearch wg_1838 ⟨Nat.le_of_ble_eq_true rfl, Nat.le_of_ble_eq_true rfl⟩ hG hE hA hP hD hS hm_mo hf3 rfl rfl hl.1 (As := []) (rest := []) rfl (Nat.le_of_ble_eq_true rfl) dX11_broken_6 ⟨Nat.le_of_ble_eq_true rfl, Nat.le_of_ble_eq_true rfl⟩) hA hD hS (fun r4 L5 f6 H locs hp7 hP hD hS => ?_)
  obtain ⟨er8, fr9, sb10⟩ := hp7
  have hf12 := (fr9 mo hm_mo ).trans hf3
  have hm11 := sb10 _ hm_mo
  subst er8
  refine lv_if_eq (tgt := 19) hx hb dX11_broken_9 (by decide) (fun c13 => ?_) (fun c13 => absurd (by decide) c13)
  refine lv_bipush (v := (-2)) hx hb dX11_broken_19 (by decide) ?_
  exact ret_i (ty := .int) hx hb hr hlocks (rfl) hP hD hS (Nat.le_of_ble_eq_true rfl) (Nat.le_of_ble_eq_true rfl) (rfl) dX11_broken_21

set_option maxHeartbeats 4000000 in
set_option maxRecDepth 100000 in
theorem k_X11_brokenStarts (l : Launch) (g : GG) (L : List Nat) (f : HP) (sz : Nat) (mo ar1 ar7 ar10 ar11 ar24 ar26 ar27 ar28 ar29 ar30 ar31 ar32 ar33 ar34 ar35 ar41 ar42 ar43 ar44 ar49 ar52 ar54 : Nat) (w : Int32) (hm_mo : mo ∈ L) (hf_mo : f mo = .inr (10, [.int 0, .ref ar1, .int 0, .int 0, .int 0, .int 0, .int 0, .ref ar7, .int 0, .int 0, .ref ar10, .ref ar11, .int 0, .int 0, .int 0, .int 0, .int 0, .int 0, .int 0, .int 0, .int 0, .long 0, .long 0, .int 0, .ref ar24, .int 0, .ref ar26, .ref ar27, .ref ar28, .ref ar29, .ref ar30, .ref ar31, .ref ar32, .ref ar33, .ref ar34, .ref ar35, .int 0, .int 0, .int 0, .int 0, .int 0, .ref ar41, .ref ar42, .ref ar43, .ref ar44, .long 0, .long 0, .int 0, .int 0, .ref ar49, .int 0, .int 0, .ref ar52, .int 0, .ref ar54, .int 0])) : MtI l g yX11_brokenStarts cX11_brokenStarts 2 (some .int) ({ frames := 1, cells := 0, slots := 0, locals := 25 }) [.ref mo, .int w] L f sz (fun r _ => r = (-2)) := by
  refine MtI.of (by decide +kernel) (Nat.le_of_ble_eq_true rfl) ?_
  intro p e s m below meth c A hEn hP hD hS ls hl
  obtain ⟨hx, hb, hr, hml, hown, hlocks, hts, hG, hA, hE, hnm⟩ := hEn
  have hown : s.vm.findClass "RulerWordModel" = some m.cls := hown
  have hl : lv_has ls 2 [(0, .ref mo), (1, .int w)] := hl
  refine lv_aload_n hx hb dX11_brokenStarts_0 rfl (lv_at hl 0 rfl) ?_
  refine lv_iconst (v := 0) hx hb dX11_brokenStarts_1 (by decide) ?_
  refine pl_put (ty := .int) (v := .int 0) (fs' := [.int 0, .ref ar1, .int 0, .int 0, .int 0, .int 0, .int 0, .ref ar7, .int 0, .int 0, .ref ar10, .ref ar11, .int 0, .int 0, .int 0, .int 0, .int 0, .int 0, .int 0, .int 0, .int 0, .long 0, .long 0, .int 0, .ref ar24, .int 0, .ref ar26, .ref ar27, .ref ar28, .ref ar29, .ref ar30, .ref ar31, .ref ar32, .ref ar33, .ref ar34, .ref ar35, .int 0, .int 0, .int 0, .int 0, .int 0, .ref ar41, .ref ar42, .ref ar43, .ref ar44, .long 0, .long 0, .int 0, .int 0, .ref ar49, .int 0, .int 0, .ref ar52, .int 0, .ref ar54, .int 0]) hx hb hts (fun w h => mT (inX11 w h)) tyX11 tyX11_ok nmX11 hown hG.1 hP hD hS hm_mo hf_mo rfl 0 (by decide) (hts _ (mT wg_1336)) (fun _ h => h) rfl (by decide +kernel) (rfl) (rfl) (Nat.le_of_ble_eq_true rfl) rfl dX11_brokenStarts_2 (fun H locs f1 hf3 ho2 hP hD hS => ?_)
  refine lv_iload_n hx hb dX11_brokenStarts_5 rfl (lv_at hl 1 rfl) ?_
  refine lv_i2l hx hb dX11_brokenStarts_6 rfl ?_
  refine lv_lconst (v := 0) hx hb dX11_brokenStarts_7 (by decide) ?_
  refine lv_lconst (v := 1) hx hb dX11_brokenStarts_8 (by decide) ?_
  refine call_i (run_S (rm := { frames := 0, cells := 0, slots := 0, locals := 0 }) hx hb hml hown hts (k_X11_isIn l g _ _ _ ((w).toInt64) 0 1) cS_X11_isIn wg_1585 ⟨Nat.le_of_ble_eq_true rfl, Nat.le_of_ble_eq_true rfl⟩ hG hE hA hP hD hS rfl hl.1 (As := [.long (w).toInt64, .long 0, .long 1]) (rest := []) rfl (Nat.le_of_ble_eq_true rfl) dX11_brokenStarts_9 ⟨Nat.le_of_ble_eq_true rfl, Nat.le_of_ble_eq_true rfl⟩) hA hD hS (fun r5 L6 f7 H locs hp8 hP hD hS => ?_)
  obtain ⟨er9, fr10, sb11⟩ := hp8
  have hf13 := (fr10 mo hm_mo ).trans hf3
  have hm12 := sb11 _ hm_mo
  refine lv_if_eq (tgt := 22) hx hb dX11_brokenStarts_12 (by decide) (fun c14 => ?_) (fun c14 => ?_)
  ·
    refine lv_bipush (v := (-2)) hx hb dX11_brokenStarts_22 (by decide) ?_
    exact ret_i (ty := .int) hx hb hr hlocks (rfl) hP hD hS (Nat.le_of_ble_eq_true rfl) (Nat.le_of_ble_eq_true rfl) (rfl) dX11_brokenStarts_24
  ·
    refine lv_aload_n hx hb dX11_brokenStarts_15 rfl (lv_at hl 0 rfl) ?_
    refine call_i (run_V (rm := { frames := 0, cells := 0, slots := 0, locals := 0 }) hx hb hml hown hts (k_X11_canSearch l g _ _ _ mo ar1 ar7 ar10 ar11 ar24 ar26 ar27 ar28 ar29 ar30 ar31 ar32 ar33 ar34 ar35 ar41 ar42 ar43 ar44 ar49 ar52 ar54 hm12 hf13) cV_X11_canSearch wg_1838 ⟨Nat.le_of_ble_eq_true rfl, Nat.le_of_ble_eq_true rfl⟩ hG hE hA hP hD hS hm12 hf13 rfl rfl hl.1 (As := []) (rest := []) rfl (Nat.le_of_ble_eq_true rfl) dX11_brokenStarts_16 ⟨Nat.le_of_ble_eq_true rfl, Nat.le_of_ble_eq_true rfl⟩) hA hD hS (fun r15 L16 f17 H locs hp18 hP hD hS => ?_)
    obtain ⟨er19, fr20, sb21⟩ := hp18
    have hf23 := (fr20 mo hm12 ).trans hf13
    have hm22 := sb21 _ hm12
    subst er19
    refine lv_if_ne (tgt := 25) hx hb dX11_brokenStarts_19 (by decide) (fun c24 => absurd rfl c24) (fun c24 => ?_)
    refine lv_bipush (v := (-2)) hx hb dX11_brokenStarts_22 (by decide) ?_
    exact ret_i (ty := .int) hx hb hr hlocks (rfl) hP hD hS (Nat.le_of_ble_eq_true rfl) (Nat.le_of_ble_eq_true rfl) (rfl) dX11_brokenStarts_24

set_option maxHeartbeats 4000000 in
set_option maxRecDepth 100000 in
theorem k_X11_canBreak (l : Launch) (g : GG) (L : List Nat) (f : HP) (sz : Nat) (mo ar1 ar7 ar10 ar11 ar24 ar26 ar27 ar28 ar29 ar30 ar31 ar32 ar33 ar34 ar35 ar41 ar42 ar43 ar44 ar49 ar52 ar54 : Nat) (w : Int32) (hm_mo : mo ∈ L) (hf_mo : f mo = .inr (10, [.int 0, .ref ar1, .int 0, .int 0, .int 0, .int 0, .int 0, .ref ar7, .int 0, .int 0, .ref ar10, .ref ar11, .int 0, .int 0, .int 0, .int 0, .int 0, .int 0, .int 0, .int 0, .int 0, .long 0, .long 0, .int 0, .ref ar24, .int 0, .ref ar26, .ref ar27, .ref ar28, .ref ar29, .ref ar30, .ref ar31, .ref ar32, .ref ar33, .ref ar34, .ref ar35, .int 0, .int 0, .int 0, .int 0, .int 0, .ref ar41, .ref ar42, .ref ar43, .ref ar44, .long 0, .long 0, .int 0, .int 0, .ref ar49, .int 0, .int 0, .ref ar52, .int 0, .ref ar54, .int 0])) : MtI l g yX11_canBreak cX11_canBreak 6 (some .int) ({ frames := 1, cells := 0, slots := 0, locals := 25 }) [.ref mo, .int w] L f sz (fun r _ => r = (-2)) := by
  refine MtI.of (by decide +kernel) (Nat.le_of_ble_eq_true rfl) ?_
  intro p e s m below meth c A hEn hP hD hS ls hl
  obtain ⟨hx, hb, hr, hml, hown, hlocks, hts, hG, hA, hE, hnm⟩ := hEn
  have hown : s.vm.findClass "RulerWordModel" = some m.cls := hown
  have hl : lv_has ls 6 [(0, .ref mo), (1, .int w)] := hl
  refine lv_aload_n hx hb dX11_canBreak_0 rfl (lv_at hl 0 rfl) ?_
  refine lv_iconst (v := 0) hx hb dX11_canBreak_1 (by decide) ?_
  refine pl_put (ty := .int) (v := .int 0) (fs' := [.int 0, .ref ar1, .int 0, .int 0, .int 0, .int 0, .int 0, .ref ar7, .int 0, .int 0, .ref ar10, .ref ar11, .int 0, .int 0, .int 0, .int 0, .int 0, .int 0, .int 0, .int 0, .int 0, .long 0, .long 0, .int 0, .ref ar24, .int 0, .ref ar26, .ref ar27, .ref ar28, .ref ar29, .ref ar30, .ref ar31, .ref ar32, .ref ar33, .ref ar34, .ref ar35, .int 0, .int 0, .int 0, .int 0, .int 0, .ref ar41, .ref ar42, .ref ar43, .ref ar44, .long 0, .long 0, .int 0, .int 0, .ref ar49, .int 0, .int 0, .ref ar52, .int 0, .ref ar54, .int 0]) hx hb hts (fun w h => mT (inX11 w h)) tyX11 tyX11_ok nmX11 hown hG.1 hP hD hS hm_mo hf_mo rfl 0 (by decide) (hts _ (mT wg_1336)) (fun _ h => h) rfl (by decide +kernel) (rfl) (rfl) (Nat.le_of_ble_eq_true rfl) rfl dX11_canBreak_2 (fun H locs f1 hf3 ho2 hP hD hS => ?_)
  refine lv_iload_n hx hb dX11_canBreak_5 rfl (lv_at hl 1 rfl) ?_
  refine lv_i2l hx hb dX11_canBreak_6 rfl ?_
  refine lv_lconst (v := 0) hx hb dX11_canBreak_7 (by decide) ?_
  refine lv_lconst (v := 1) hx hb dX11_canBreak_8 (by decide) ?_
  refine call_i (run_S (rm := { frames := 0, cells := 0, slots := 0, locals := 0 }) hx hb hml hown hts (k_X11_isIn l g _ _ _ ((w).toInt64) 0 1) cS_X11_isIn wg_1585 ⟨Nat.le_of_ble_eq_true rfl, Nat.le_of_ble_eq_true rfl⟩ hG hE hA hP hD hS rfl hl.1 (As := [.long (w).toInt64, .long 0, .long 1]) (rest := []) rfl (Nat.le_of_ble_eq_true rfl) dX11_canBreak_9 ⟨Nat.le_of_ble_eq_true rfl, Nat.le_of_ble_eq_true rfl⟩) hA hD hS (fun r5 L6 f7 H locs hp8 hP hD hS => ?_)
  obtain ⟨er9, fr10, sb11⟩ := hp8
  have hf13 := (fr10 mo hm_mo ).trans hf3
  have hm12 := sb11 _ hm_mo
  refine lv_if_eq (tgt := 30) hx hb dX11_canBreak_12 (by decide) (fun c14 => ?_) (fun c14 => ?_)
  ·
    refine lv_bipush (v := (-2)) hx hb dX11_canBreak_30 (by decide) ?_
    exact ret_i (ty := .int) hx hb hr hlocks (rfl) hP hD hS (Nat.le_of_ble_eq_true rfl) (Nat.le_of_ble_eq_true rfl) (rfl) dX11_canBreak_32
  ·
    refine lv_aload_n hx hb dX11_canBreak_15 rfl (lv_at hl 0 rfl) ?_
    refine pl_get (v := .int 0) hx hb hts (fun w h => mT (inX11 w h)) hown hG.1 hP hm12 hf13 rfl 23 (by decide) (hts _ (mT wg_1359)) (fun _ h => h) rfl dX11_canBreak_16 ?_
    refine lv_if_eq (tgt := 30) hx hb dX11_canBreak_19 (by decide) (fun c15 => ?_) (fun c15 => absurd (by decide) c15)
    refine lv_bipush (v := (-2)) hx hb dX11_canBreak_30 (by decide) ?_
    exact ret_i (ty := .int) hx hb hr hlocks (rfl) hP hD hS (Nat.le_of_ble_eq_true rfl) (Nat.le_of_ble_eq_true rfl) (rfl) dX11_canBreak_32

set_option maxHeartbeats 4000000 in
set_option maxRecDepth 100000 in
theorem k_X11_brokenPlan (l : Launch) (g : GG) (L : List Nat) (f : HP) (sz : Nat) (mo ar1 ar7 ar10 ar11 ar24 ar26 ar27 ar28 ar29 ar30 ar31 ar32 ar33 ar34 ar35 ar41 ar42 ar43 ar44 ar49 ar52 ar54 : Nat) (k : Int32) (hm_mo : mo ∈ L) (hf_mo : f mo = .inr (10, [.int 0, .ref ar1, .int 0, .int 0, .int 0, .int 0, .int 0, .ref ar7, .int 0, .int 0, .ref ar10, .ref ar11, .int 0, .int 0, .int 0, .int 0, .int 0, .int 0, .int 0, .int 0, .int 0, .long 0, .long 0, .int 0, .ref ar24, .int 0, .ref ar26, .ref ar27, .ref ar28, .ref ar29, .ref ar30, .ref ar31, .ref ar32, .ref ar33, .ref ar34, .ref ar35, .int 0, .int 0, .int 0, .int 0, .int 0, .ref ar41, .ref ar42, .ref ar43, .ref ar44, .long 0, .long 0, .int 0, .int 0, .ref ar49, .int 0, .int 0, .ref ar52, .int 0, .ref ar54, .int 0])) : MtI l g yX11_brokenPlan cX11_brokenPlan 3 (some .int) ({ frames := 1, cells := 0, slots := 0, locals := 20 }) [.ref mo, .int k] L f sz (fun r _ => r = (-2)) := by
  refine MtI.of (by decide +kernel) (Nat.le_of_ble_eq_true rfl) ?_
  intro p e s m below meth c A hEn hP hD hS ls hl
  obtain ⟨hx, hb, hr, hml, hown, hlocks, hts, hG, hA, hE, hnm⟩ := hEn
  have hown : s.vm.findClass "RulerWordModel" = some m.cls := hown
  have hl : lv_has ls 3 [(0, .ref mo), (1, .int k)] := hl
  refine lv_aload_n hx hb dX11_brokenPlan_0 rfl (lv_at hl 0 rfl) ?_
  refine lv_iconst (v := 0) hx hb dX11_brokenPlan_1 (by decide) ?_
  refine pl_put (ty := .int) (v := .int 0) (fs' := [.int 0, .ref ar1, .int 0, .int 0, .int 0, .int 0, .int 0, .ref ar7, .int 0, .int 0, .ref ar10, .ref ar11, .int 0, .int 0, .int 0, .int 0, .int 0, .int 0, .int 0, .int 0, .int 0, .long 0, .long 0, .int 0, .ref ar24, .int 0, .ref ar26, .ref ar27, .ref ar28, .ref ar29, .ref ar30, .ref ar31, .ref ar32, .ref ar33, .ref ar34, .ref ar35, .int 0, .int 0, .int 0, .int 0, .int 0, .ref ar41, .ref ar42, .ref ar43, .ref ar44, .long 0, .long 0, .int 0, .int 0, .ref ar49, .int 0, .int 0, .ref ar52, .int 0, .ref ar54, .int 0]) hx hb hts (fun w h => mT (inX11 w h)) tyX11 tyX11_ok nmX11 hown hG.1 hP hD hS hm_mo hf_mo rfl 0 (by decide) (hts _ (mT wg_1336)) (fun _ h => h) rfl (by decide +kernel) (rfl) (rfl) (Nat.le_of_ble_eq_true rfl) rfl dX11_brokenPlan_2 (fun H locs f1 hf3 ho2 hP hD hS => ?_)
  refine lv_aload_n hx hb dX11_brokenPlan_5 rfl (lv_at hl 0 rfl) ?_
  refine call_i (run_V (rm := { frames := 0, cells := 0, slots := 0, locals := 0 }) hx hb hml hown hts (k_X11_canSearch l g _ _ _ mo ar1 ar7 ar10 ar11 ar24 ar26 ar27 ar28 ar29 ar30 ar31 ar32 ar33 ar34 ar35 ar41 ar42 ar43 ar44 ar49 ar52 ar54 hm_mo hf3) cV_X11_canSearch wg_1838 ⟨Nat.le_of_ble_eq_true rfl, Nat.le_of_ble_eq_true rfl⟩ hG hE hA hP hD hS hm_mo hf3 rfl rfl hl.1 (As := []) (rest := []) rfl (Nat.le_of_ble_eq_true rfl) dX11_brokenPlan_6 ⟨Nat.le_of_ble_eq_true rfl, Nat.le_of_ble_eq_true rfl⟩) hA hD hS (fun r4 L5 f6 H locs hp7 hP hD hS => ?_)
  obtain ⟨er8, fr9, sb10⟩ := hp7
  have hf12 := (fr9 mo hm_mo ).trans hf3
  have hm11 := sb10 _ hm_mo
  subst er8
  refine lv_if_ne (tgt := 15) hx hb dX11_brokenPlan_9 (by decide) (fun c13 => absurd rfl c13) (fun c13 => ?_)
  refine lv_bipush (v := (-2)) hx hb dX11_brokenPlan_12 (by decide) ?_
  exact ret_i (ty := .int) hx hb hr hlocks (rfl) hP hD hS (Nat.le_of_ble_eq_true rfl) (Nat.le_of_ble_eq_true rfl) (rfl) dX11_brokenPlan_14

set_option maxHeartbeats 4000000 in
set_option maxRecDepth 100000 in
theorem k_X11_weakest (l : Launch) (g : GG) (L : List Nat) (f : HP) (sz : Nat) (mo ar1 ar7 ar10 ar11 ar24 ar26 ar27 ar28 ar29 ar30 ar31 ar32 ar33 ar34 ar35 ar41 ar42 ar43 ar44 ar49 ar52 ar54 : Nat) (hm_mo : mo ∈ L) (hf_mo : f mo = .inr (10, [.int 0, .ref ar1, .int 0, .int 0, .int 0, .int 0, .int 0, .ref ar7, .int 0, .int 0, .ref ar10, .ref ar11, .int 0, .int 0, .int 0, .int 0, .int 0, .int 0, .int 0, .int 0, .int 0, .long 0, .long 0, .int 0, .ref ar24, .int 0, .ref ar26, .ref ar27, .ref ar28, .ref ar29, .ref ar30, .ref ar31, .ref ar32, .ref ar33, .ref ar34, .ref ar35, .int 0, .int 0, .int 0, .int 0, .int 0, .ref ar41, .ref ar42, .ref ar43, .ref ar44, .long 0, .long 0, .int 0, .int 0, .ref ar49, .int 0, .int 0, .ref ar52, .int 0, .ref ar54, .int 0])) : MtI l g yX11_weakest cX11_weakest 3 (some .int) ({ frames := 0, cells := 0, slots := 0, locals := 0 }) [.ref mo] L f sz (fun r _ => r = (-2)) := by
  refine MtI.of (by decide +kernel) (Nat.le_of_ble_eq_true rfl) ?_
  intro p e s m below meth c A hEn hP hD hS ls hl
  obtain ⟨hx, hb, hr, hml, hown, hlocks, hts, hG, hA, hE, hnm⟩ := hEn
  have hown : s.vm.findClass "RulerWordModel" = some m.cls := hown
  have hl : lv_has ls 3 [(0, .ref mo)] := hl
  refine lv_aload_n hx hb dX11_weakest_0 rfl (lv_at hl 0 rfl) ?_
  refine lv_iconst (v := 0) hx hb dX11_weakest_1 (by decide) ?_
  refine pl_put (ty := .int) (v := .int 0) (fs' := [.int 0, .ref ar1, .int 0, .int 0, .int 0, .int 0, .int 0, .ref ar7, .int 0, .int 0, .ref ar10, .ref ar11, .int 0, .int 0, .int 0, .int 0, .int 0, .int 0, .int 0, .int 0, .int 0, .long 0, .long 0, .int 0, .ref ar24, .int 0, .ref ar26, .ref ar27, .ref ar28, .ref ar29, .ref ar30, .ref ar31, .ref ar32, .ref ar33, .ref ar34, .ref ar35, .int 0, .int 0, .int 0, .int 0, .int 0, .ref ar41, .ref ar42, .ref ar43, .ref ar44, .long 0, .long 0, .int 0, .int 0, .ref ar49, .int 0, .int 0, .ref ar52, .int 0, .ref ar54, .int 0]) hx hb hts (fun w h => mT (inX11 w h)) tyX11 tyX11_ok nmX11 hown hG.1 hP hD hS hm_mo hf_mo rfl 0 (by decide) (hts _ (mT wg_1336)) (fun _ h => h) rfl (by decide +kernel) (rfl) (rfl) (Nat.le_of_ble_eq_true rfl) rfl dX11_weakest_2 (fun H locs f1 hf3 ho2 hP hD hS => ?_)
  refine lv_aload_n hx hb dX11_weakest_5 rfl (lv_at hl 0 rfl) ?_
  refine pl_get (v := .int 0) hx hb hts (fun w h => mT (inX11 w h)) hown hG.1 hP hm_mo hf3 rfl 23 (by decide) (hts _ (mT wg_1359)) (fun _ h => h) rfl dX11_weakest_6 ?_
  refine lv_if_ne (tgt := 15) hx hb dX11_weakest_9 (by decide) (fun c4 => absurd rfl c4) (fun c4 => ?_)
  refine lv_bipush (v := (-2)) hx hb dX11_weakest_12 (by decide) ?_
  exact ret_i (ty := .int) hx hb hr hlocks (rfl) hP hD hS (Nat.le_of_ble_eq_true rfl) (Nat.le_of_ble_eq_true rfl) (rfl) dX11_weakest_14

set_option maxHeartbeats 4000000 in
set_option maxRecDepth 100000 in
theorem k_X11_ruled (l : Launch) (g : GG) (L : List Nat) (f : HP) (sz : Nat) (mo ar1 ar7 ar10 ar11 ar24 ar26 ar27 ar28 ar29 ar30 ar31 ar32 ar33 ar34 ar35 ar41 ar42 ar43 ar44 ar49 ar52 ar54 : Nat) (i : Int32) (w : Int32) (hm_mo : mo ∈ L) (hf_mo : f mo = .inr (10, [.int 0, .ref ar1, .int 0, .int 0, .int 0, .int 0, .int 0, .ref ar7, .int 0, .int 0, .ref ar10, .ref ar11, .int 0, .int 0, .int 0, .int 0, .int 0, .int 0, .int 0, .int 0, .int 0, .long 0, .long 0, .int 0, .ref ar24, .int 0, .ref ar26, .ref ar27, .ref ar28, .ref ar29, .ref ar30, .ref ar31, .ref ar32, .ref ar33, .ref ar34, .ref ar35, .int 0, .int 0, .int 0, .int 0, .int 0, .ref ar41, .ref ar42, .ref ar43, .ref ar44, .long 0, .long 0, .int 0, .int 0, .ref ar49, .int 0, .int 0, .ref ar52, .int 0, .ref ar54, .int 0])) : MtI l g yX11_ruled cX11_ruled 8 (some .int) ({ frames := 1, cells := 0, slots := 0, locals := 21 }) [.ref mo, .int i, .int w] L f sz (fun r _ => r = (-1)) := by
  refine MtI.of (by decide +kernel) (Nat.le_of_ble_eq_true rfl) ?_
  intro p e s m below meth c A hEn hP hD hS ls hl
  obtain ⟨hx, hb, hr, hml, hown, hlocks, hts, hG, hA, hE, hnm⟩ := hEn
  have hown : s.vm.findClass "RulerWordModel" = some m.cls := hown
  have hl : lv_has ls 8 [(0, .ref mo), (1, .int i), (2, .int w)] := hl
  refine lv_aload_n hx hb dX11_ruled_0 rfl (lv_at hl 0 rfl) ?_
  refine lv_iconst (v := 0) hx hb dX11_ruled_1 (by decide) ?_
  refine pl_put (ty := .int) (v := .int 0) (fs' := [.int 0, .ref ar1, .int 0, .int 0, .int 0, .int 0, .int 0, .ref ar7, .int 0, .int 0, .ref ar10, .ref ar11, .int 0, .int 0, .int 0, .int 0, .int 0, .int 0, .int 0, .int 0, .int 0, .long 0, .long 0, .int 0, .ref ar24, .int 0, .ref ar26, .ref ar27, .ref ar28, .ref ar29, .ref ar30, .ref ar31, .ref ar32, .ref ar33, .ref ar34, .ref ar35, .int 0, .int 0, .int 0, .int 0, .int 0, .ref ar41, .ref ar42, .ref ar43, .ref ar44, .long 0, .long 0, .int 0, .int 0, .ref ar49, .int 0, .int 0, .ref ar52, .int 0, .ref ar54, .int 0]) hx hb hts (fun w h => mT (inX11 w h)) tyX11 tyX11_ok nmX11 hown hG.1 hP hD hS hm_mo hf_mo rfl 0 (by decide) (hts _ (mT wg_1336)) (fun _ h => h) rfl (by decide +kernel) (rfl) (rfl) (Nat.le_of_ble_eq_true rfl) rfl dX11_ruled_2 (fun H locs f1 hf3 ho2 hP hD hS => ?_)
  refine lv_aload_n hx hb dX11_ruled_5 rfl (lv_at hl 0 rfl) ?_
  refine lv_iload_n hx hb dX11_ruled_6 rfl (lv_at hl 1 rfl) ?_
  refine call_i (run_V (rm := { frames := 0, cells := 0, slots := 0, locals := 0 }) hx hb hml hown hts (k_X11_isPeer l g _ _ _ mo ar1 ar7 ar10 ar11 ar24 ar26 ar27 ar28 ar29 ar30 ar31 ar32 ar33 ar34 ar35 ar41 ar42 ar43 ar44 ar49 ar52 ar54 i hm_mo hf3) cV_X11_isPeer wg_1722 ⟨Nat.le_of_ble_eq_true rfl, Nat.le_of_ble_eq_true rfl⟩ hG hE hA hP hD hS hm_mo hf3 rfl rfl hl.1 (As := [.int i]) (rest := []) rfl (Nat.le_of_ble_eq_true rfl) dX11_ruled_7 ⟨Nat.le_of_ble_eq_true rfl, Nat.le_of_ble_eq_true rfl⟩) hA hD hS (fun r4 L5 f6 H locs hp7 hP hD hS => ?_)
  obtain ⟨er8, fr9, sb10⟩ := hp7
  have hf12 := (fr9 mo hm_mo ).trans hf3
  have hm11 := sb10 _ hm_mo
  subst er8
  refine lv_if_eq (tgt := 25) hx hb dX11_ruled_10 (by decide) (fun c13 => ?_) (fun c13 => absurd (by decide) c13)
  refine lv_iconst (v := (-1)) hx hb dX11_ruled_25 (by decide) ?_
  exact ret_i (ty := .int) hx hb hr hlocks (rfl) hP hD hS (Nat.le_of_ble_eq_true rfl) (Nat.le_of_ble_eq_true rfl) (rfl) dX11_ruled_26

set_option maxHeartbeats 4000000 in
set_option maxRecDepth 100000 in
theorem k_X11_held (l : Launch) (g : GG) (L : List Nat) (f : HP) (sz : Nat) (mo ar1 ar7 ar10 ar11 ar24 ar26 ar27 ar28 ar29 ar30 ar31 ar32 ar33 ar34 ar35 ar41 ar42 ar43 ar44 ar49 ar52 ar54 : Nat) (b : Int32) (i : Int32) (hm_mo : mo ∈ L) (hf_mo : f mo = .inr (10, [.int 0, .ref ar1, .int 0, .int 0, .int 0, .int 0, .int 0, .ref ar7, .int 0, .int 0, .ref ar10, .ref ar11, .int 0, .int 0, .int 0, .int 0, .int 0, .int 0, .int 0, .int 0, .int 0, .long 0, .long 0, .int 0, .ref ar24, .int 0, .ref ar26, .ref ar27, .ref ar28, .ref ar29, .ref ar30, .ref ar31, .ref ar32, .ref ar33, .ref ar34, .ref ar35, .int 0, .int 0, .int 0, .int 0, .int 0, .ref ar41, .ref ar42, .ref ar43, .ref ar44, .long 0, .long 0, .int 0, .int 0, .ref ar49, .int 0, .int 0, .ref ar52, .int 0, .ref ar54, .int 0])) : MtI l g yX11_held cX11_held 3 (some .int) ({ frames := 1, cells := 0, slots := 0, locals := 20 }) [.ref mo, .int b, .int i] L f sz (fun r _ => r = (-2)) := by
  refine MtI.of (by decide +kernel) (Nat.le_of_ble_eq_true rfl) ?_
  intro p e s m below meth c A hEn hP hD hS ls hl
  obtain ⟨hx, hb, hr, hml, hown, hlocks, hts, hG, hA, hE, hnm⟩ := hEn
  have hown : s.vm.findClass "RulerWordModel" = some m.cls := hown
  have hl : lv_has ls 3 [(0, .ref mo), (1, .int b), (2, .int i)] := hl
  refine lv_aload_n hx hb dX11_held_0 rfl (lv_at hl 0 rfl) ?_
  refine lv_iconst (v := 0) hx hb dX11_held_1 (by decide) ?_
  refine pl_put (ty := .int) (v := .int 0) (fs' := [.int 0, .ref ar1, .int 0, .int 0, .int 0, .int 0, .int 0, .ref ar7, .int 0, .int 0, .ref ar10, .ref ar11, .int 0, .int 0, .int 0, .int 0, .int 0, .int 0, .int 0, .int 0, .int 0, .long 0, .long 0, .int 0, .ref ar24, .int 0, .ref ar26, .ref ar27, .ref ar28, .ref ar29, .ref ar30, .ref ar31, .ref ar32, .ref ar33, .ref ar34, .ref ar35, .int 0, .int 0, .int 0, .int 0, .int 0, .ref ar41, .ref ar42, .ref ar43, .ref ar44, .long 0, .long 0, .int 0, .int 0, .ref ar49, .int 0, .int 0, .ref ar52, .int 0, .ref ar54, .int 0]) hx hb hts (fun w h => mT (inX11 w h)) tyX11 tyX11_ok nmX11 hown hG.1 hP hD hS hm_mo hf_mo rfl 0 (by decide) (hts _ (mT wg_1336)) (fun _ h => h) rfl (by decide +kernel) (rfl) (rfl) (Nat.le_of_ble_eq_true rfl) rfl dX11_held_2 (fun H locs f1 hf3 ho2 hP hD hS => ?_)
  refine lv_aload_n hx hb dX11_held_5 rfl (lv_at hl 0 rfl) ?_
  refine call_i (run_V (rm := { frames := 0, cells := 0, slots := 0, locals := 0 }) hx hb hml hown hts (k_X11_canSearch l g _ _ _ mo ar1 ar7 ar10 ar11 ar24 ar26 ar27 ar28 ar29 ar30 ar31 ar32 ar33 ar34 ar35 ar41 ar42 ar43 ar44 ar49 ar52 ar54 hm_mo hf3) cV_X11_canSearch wg_1838 ⟨Nat.le_of_ble_eq_true rfl, Nat.le_of_ble_eq_true rfl⟩ hG hE hA hP hD hS hm_mo hf3 rfl rfl hl.1 (As := []) (rest := []) rfl (Nat.le_of_ble_eq_true rfl) dX11_held_6 ⟨Nat.le_of_ble_eq_true rfl, Nat.le_of_ble_eq_true rfl⟩) hA hD hS (fun r4 L5 f6 H locs hp7 hP hD hS => ?_)
  obtain ⟨er8, fr9, sb10⟩ := hp7
  have hf12 := (fr9 mo hm_mo ).trans hf3
  have hm11 := sb10 _ hm_mo
  subst er8
  refine lv_if_ne (tgt := 15) hx hb dX11_held_9 (by decide) (fun c13 => absurd rfl c13) (fun c13 => ?_)
  refine lv_bipush (v := (-2)) hx hb dX11_held_12 (by decide) ?_
  exact ret_i (ty := .int) hx hb hr hlocks (rfl) hP hD hS (Nat.le_of_ble_eq_true rfl) (Nat.le_of_ble_eq_true rfl) (rfl) dX11_held_14

set_option maxHeartbeats 4000000 in
set_option maxRecDepth 100000 in
theorem k_X11_needed (l : Launch) (g : GG) (L : List Nat) (f : HP) (sz : Nat) (mo ar1 ar7 ar10 ar11 ar24 ar26 ar27 ar28 ar29 ar30 ar31 ar32 ar33 ar34 ar35 ar41 ar42 ar43 ar44 ar49 ar52 ar54 : Nat) (hm_mo : mo ∈ L) (hf_mo : f mo = .inr (10, [.int 0, .ref ar1, .int 0, .int 0, .int 0, .int 0, .int 0, .ref ar7, .int 0, .int 0, .ref ar10, .ref ar11, .int 0, .int 0, .int 0, .int 0, .int 0, .int 0, .int 0, .int 0, .int 0, .long 0, .long 0, .int 0, .ref ar24, .int 0, .ref ar26, .ref ar27, .ref ar28, .ref ar29, .ref ar30, .ref ar31, .ref ar32, .ref ar33, .ref ar34, .ref ar35, .int 0, .int 0, .int 0, .int 0, .int 0, .ref ar41, .ref ar42, .ref ar43, .ref ar44, .long 0, .long 0, .int 0, .int 0, .ref ar49, .int 0, .int 0, .ref ar52, .int 0, .ref ar54, .int 0])) : MtI l g yX11_needed cX11_needed 4 (some .int) ({ frames := 0, cells := 0, slots := 0, locals := 0 }) [.ref mo] L f sz (fun r _ => r = (-1)) := by
  refine MtI.of (by decide +kernel) (Nat.le_of_ble_eq_true rfl) ?_
  intro p e s m below meth c A hEn hP hD hS ls hl
  obtain ⟨hx, hb, hr, hml, hown, hlocks, hts, hG, hA, hE, hnm⟩ := hEn
  have hown : s.vm.findClass "RulerWordModel" = some m.cls := hown
  have hl : lv_has ls 4 [(0, .ref mo)] := hl
  refine lv_aload_n hx hb dX11_needed_0 rfl (lv_at hl 0 rfl) ?_
  refine lv_iconst (v := 0) hx hb dX11_needed_1 (by decide) ?_
  refine pl_put (ty := .int) (v := .int 0) (fs' := [.int 0, .ref ar1, .int 0, .int 0, .int 0, .int 0, .int 0, .ref ar7, .int 0, .int 0, .ref ar10, .ref ar11, .int 0, .int 0, .int 0, .int 0, .int 0, .int 0, .int 0, .int 0, .int 0, .long 0, .long 0, .int 0, .ref ar24, .int 0, .ref ar26, .ref ar27, .ref ar28, .ref ar29, .ref ar30, .ref ar31, .ref ar32, .ref ar33, .ref ar34, .ref ar35, .int 0, .int 0, .int 0, .int 0, .int 0, .ref ar41, .ref ar42, .ref ar43, .ref ar44, .long 0, .long 0, .int 0, .int 0, .ref ar49, .int 0, .int 0, .ref ar52, .int 0, .ref ar54, .int 0]) hx hb hts (fun w h => mT (inX11 w h)) tyX11 tyX11_ok nmX11 hown hG.1 hP hD hS hm_mo hf_mo rfl 0 (by decide) (hts _ (mT wg_1336)) (fun _ h => h) rfl (by decide +kernel) (rfl) (rfl) (Nat.le_of_ble_eq_true rfl) rfl dX11_needed_2 (fun H locs f1 hf3 ho2 hP hD hS => ?_)
  refine lv_aload_n hx hb dX11_needed_5 rfl (lv_at hl 0 rfl) ?_
  refine pl_get (v := .int 0) hx hb hts (fun w h => mT (inX11 w h)) hown hG.1 hP hm_mo hf3 rfl 23 (by decide) (hts _ (mT wg_1359)) (fun _ h => h) rfl dX11_needed_6 ?_
  refine lv_if_ne (tgt := 14) hx hb dX11_needed_9 (by decide) (fun c4 => absurd rfl c4) (fun c4 => ?_)
  refine lv_iconst (v := (-1)) hx hb dX11_needed_12 (by decide) ?_
  exact ret_i (ty := .int) hx hb hr hlocks (rfl) hP hD hS (Nat.le_of_ble_eq_true rfl) (Nat.le_of_ble_eq_true rfl) (rfl) dX11_needed_13

set_option maxHeartbeats 4000000 in
set_option maxRecDepth 100000 in
theorem k_X11_asOthers (l : Launch) (g : GG) (L : List Nat) (f : HP) (sz : Nat) (mo ar1 ar7 ar10 ar11 ar24 ar26 ar27 ar28 ar29 ar30 ar31 ar32 ar33 ar34 ar35 ar41 ar42 ar43 ar44 ar49 ar52 ar54 : Nat) (w : Int32) (hm_mo : mo ∈ L) (hf_mo : f mo = .inr (10, [.int 0, .ref ar1, .int 0, .int 0, .int 0, .int 0, .int 0, .ref ar7, .int 0, .int 0, .ref ar10, .ref ar11, .int 0, .int 0, .int 0, .int 0, .int 0, .int 0, .int 0, .int 0, .int 0, .long 0, .long 0, .int 0, .ref ar24, .int 0, .ref ar26, .ref ar27, .ref ar28, .ref ar29, .ref ar30, .ref ar31, .ref ar32, .ref ar33, .ref ar34, .ref ar35, .int 0, .int 0, .int 0, .int 0, .int 0, .ref ar41, .ref ar42, .ref ar43, .ref ar44, .long 0, .long 0, .int 0, .int 0, .ref ar49, .int 0, .int 0, .ref ar52, .int 0, .ref ar54, .int 0])) : MtI l g yX11_asOthers cX11_asOthers 6 (some .int) ({ frames := 0, cells := 0, slots := 0, locals := 0 }) [.ref mo, .int w] L f sz (fun r _ => r = (-2)) := by
  refine MtI.of (by decide +kernel) (Nat.le_of_ble_eq_true rfl) ?_
  intro p e s m below meth c A hEn hP hD hS ls hl
  obtain ⟨hx, hb, hr, hml, hown, hlocks, hts, hG, hA, hE, hnm⟩ := hEn
  have hown : s.vm.findClass "RulerWordModel" = some m.cls := hown
  have hl : lv_has ls 6 [(0, .ref mo), (1, .int w)] := hl
  refine lv_aload_n hx hb dX11_asOthers_0 rfl (lv_at hl 0 rfl) ?_
  refine lv_iconst (v := 0) hx hb dX11_asOthers_1 (by decide) ?_
  refine pl_put (ty := .int) (v := .int 0) (fs' := [.int 0, .ref ar1, .int 0, .int 0, .int 0, .int 0, .int 0, .ref ar7, .int 0, .int 0, .ref ar10, .ref ar11, .int 0, .int 0, .int 0, .int 0, .int 0, .int 0, .int 0, .int 0, .int 0, .long 0, .long 0, .int 0, .ref ar24, .int 0, .ref ar26, .ref ar27, .ref ar28, .ref ar29, .ref ar30, .ref ar31, .ref ar32, .ref ar33, .ref ar34, .ref ar35, .int 0, .int 0, .int 0, .int 0, .int 0, .ref ar41, .ref ar42, .ref ar43, .ref ar44, .long 0, .long 0, .int 0, .int 0, .ref ar49, .int 0, .int 0, .ref ar52, .int 0, .ref ar54, .int 0]) hx hb hts (fun w h => mT (inX11 w h)) tyX11 tyX11_ok nmX11 hown hG.1 hP hD hS hm_mo hf_mo rfl 0 (by decide) (hts _ (mT wg_1336)) (fun _ h => h) rfl (by decide +kernel) (rfl) (rfl) (Nat.le_of_ble_eq_true rfl) rfl dX11_asOthers_2 (fun H locs f1 hf3 ho2 hP hD hS => ?_)
  refine lv_aload_n hx hb dX11_asOthers_5 rfl (lv_at hl 0 rfl) ?_
  refine pl_get (v := .int 0) hx hb hts (fun w h => mT (inX11 w h)) hown hG.1 hP hm_mo hf3 rfl 23 (by decide) (hts _ (mT wg_1359)) (fun _ h => h) rfl dX11_asOthers_6 ?_
  refine lv_if_eq (tgt := 24) hx hb dX11_asOthers_9 (by decide) (fun c4 => ?_) (fun c4 => absurd (by decide) c4)
  refine lv_bipush (v := (-2)) hx hb dX11_asOthers_24 (by decide) ?_
  exact ret_i (ty := .int) hx hb hr hlocks (rfl) hP hD hS (Nat.le_of_ble_eq_true rfl) (Nat.le_of_ble_eq_true rfl) (rfl) dX11_asOthers_26

set_option maxHeartbeats 4000000 in
set_option maxRecDepth 100000 in
theorem k_X11_byChance (l : Launch) (g : GG) (L : List Nat) (f : HP) (sz : Nat) (mo ar1 ar7 ar10 ar11 ar24 ar26 ar27 ar28 ar29 ar30 ar31 ar32 ar33 ar34 ar35 ar41 ar42 ar43 ar44 ar49 ar52 ar54 : Nat) (w : Int32) (s0 : Int64) (h0 : Int32) (hm_mo : mo ∈ L) (hf_mo : f mo = .inr (10, [.int 0, .ref ar1, .int 0, .int 0, .int 0, .int 0, .int 0, .ref ar7, .int 0, .int 0, .ref ar10, .ref ar11, .int 0, .int 0, .int 0, .int 0, .int 0, .int 0, .int 0, .int 0, .int 0, .long 0, .long 0, .int 0, .ref ar24, .int 0, .ref ar26, .ref ar27, .ref ar28, .ref ar29, .ref ar30, .ref ar31, .ref ar32, .ref ar33, .ref ar34, .ref ar35, .int 0, .int 0, .int 0, .int 0, .int 0, .ref ar41, .ref ar42, .ref ar43, .ref ar44, .long 0, .long 0, .int 0, .int 0, .ref ar49, .int 0, .int 0, .ref ar52, .int 0, .ref ar54, .int 0])) : MtI l g yX11_byChance cX11_byChance 14 (some .int) ({ frames := 0, cells := 0, slots := 0, locals := 0 }) [.ref mo, .int w, .long s0, .int h0] L f sz (fun r _ => r = (-2)) := by
  refine MtI.of (by decide +kernel) (Nat.le_of_ble_eq_true rfl) ?_
  intro p e s m below meth c A hEn hP hD hS ls hl
  obtain ⟨hx, hb, hr, hml, hown, hlocks, hts, hG, hA, hE, hnm⟩ := hEn
  have hown : s.vm.findClass "RulerWordModel" = some m.cls := hown
  have hl : lv_has ls 14 [(0, .ref mo), (1, .int w), (2, .long s0), (4, .int h0)] := hl
  refine lv_aload_n hx hb dX11_byChance_0 rfl (lv_at hl 0 rfl) ?_
  refine lv_iconst (v := 0) hx hb dX11_byChance_1 (by decide) ?_
  refine pl_put (ty := .int) (v := .int 0) (fs' := [.int 0, .ref ar1, .int 0, .int 0, .int 0, .int 0, .int 0, .ref ar7, .int 0, .int 0, .ref ar10, .ref ar11, .int 0, .int 0, .int 0, .int 0, .int 0, .int 0, .int 0, .int 0, .int 0, .long 0, .long 0, .int 0, .ref ar24, .int 0, .ref ar26, .ref ar27, .ref ar28, .ref ar29, .ref ar30, .ref ar31, .ref ar32, .ref ar33, .ref ar34, .ref ar35, .int 0, .int 0, .int 0, .int 0, .int 0, .ref ar41, .ref ar42, .ref ar43, .ref ar44, .long 0, .long 0, .int 0, .int 0, .ref ar49, .int 0, .int 0, .ref ar52, .int 0, .ref ar54, .int 0]) hx hb hts (fun w h => mT (inX11 w h)) tyX11 tyX11_ok nmX11 hown hG.1 hP hD hS hm_mo hf_mo rfl 0 (by decide) (hts _ (mT wg_1336)) (fun _ h => h) rfl (by decide +kernel) (rfl) (rfl) (Nat.le_of_ble_eq_true rfl) rfl dX11_byChance_2 (fun H locs f1 hf3 ho2 hP hD hS => ?_)
  refine lv_aload_n hx hb dX11_byChance_5 rfl (lv_at hl 0 rfl) ?_
  refine pl_get (v := .int 0) hx hb hts (fun w h => mT (inX11 w h)) hown hG.1 hP hm_mo hf3 rfl 23 (by decide) (hts _ (mT wg_1359)) (fun _ h => h) rfl dX11_byChance_6 ?_
  refine lv_if_eq (tgt := 37) hx hb dX11_byChance_9 (by decide) (fun c4 => ?_) (fun c4 => absurd (by decide) c4)
  refine lv_bipush (v := (-2)) hx hb dX11_byChance_37 (by decide) ?_
  exact ret_i (ty := .int) hx hb hr hlocks (rfl) hP hD hS (Nat.le_of_ble_eq_true rfl) (Nat.le_of_ble_eq_true rfl) (rfl) dX11_byChance_39

set_option maxHeartbeats 4000000 in
set_option maxRecDepth 100000 in
theorem k_X11_undo (l : Launch) (g : GG) (L : List Nat) (f : HP) (sz : Nat) (mo ar1 ar7 ar10 ar11 ar24 ar26 ar27 ar28 ar29 ar30 ar31 ar32 ar33 ar34 ar35 ar41 ar42 ar43 ar44 ar49 ar52 ar54 : Nat) (hm_mo : mo ∈ L) (hf_mo : f mo = .inr (10, [.int 0, .ref ar1, .int 0, .int 0, .int 0, .int 0, .int 0, .ref ar7, .int 0, .int 0, .ref ar10, .ref ar11, .int 0, .int 0, .int 0, .int 0, .int 0, .int 0, .int 0, .int 0, .int 0, .long 0, .long 0, .int 0, .ref ar24, .int 0, .ref ar26, .ref ar27, .ref ar28, .ref ar29, .ref ar30, .ref ar31, .ref ar32, .ref ar33, .ref ar34, .ref ar35, .int 0, .int 0, .int 0, .int 0, .int 0, .ref ar41, .ref ar42, .ref ar43, .ref ar44, .long 0, .long 0, .int 0, .int 0, .ref ar49, .int 0, .int 0, .ref ar52, .int 0, .ref ar54, .int 0])) : MtI l g yX11_undo cX11_undo 2 (some .int) ({ frames := 0, cells := 0, slots := 0, locals := 0 }) [.ref mo] L f sz (fun r _ => r = (-1)) := by
  refine MtI.of (by decide +kernel) (Nat.le_of_ble_eq_true rfl) ?_
  intro p e s m below meth c A hEn hP hD hS ls hl
  obtain ⟨hx, hb, hr, hml, hown, hlocks, hts, hG, hA, hE, hnm⟩ := hEn
  have hown : s.vm.findClass "RulerWordModel" = some m.cls := hown
  have hl : lv_has ls 2 [(0, .ref mo)] := hl
  refine lv_aload_n hx hb dX11_undo_0 rfl (lv_at hl 0 rfl) ?_
  refine lv_iconst (v := 0) hx hb dX11_undo_1 (by decide) ?_
  refine pl_put (ty := .int) (v := .int 0) (fs' := [.int 0, .ref ar1, .int 0, .int 0, .int 0, .int 0, .int 0, .ref ar7, .int 0, .int 0, .ref ar10, .ref ar11, .int 0, .int 0, .int 0, .int 0, .int 0, .int 0, .int 0, .int 0, .int 0, .long 0, .long 0, .int 0, .ref ar24, .int 0, .ref ar26, .ref ar27, .ref ar28, .ref ar29, .ref ar30, .ref ar31, .ref ar32, .ref ar33, .ref ar34, .ref ar35, .int 0, .int 0, .int 0, .int 0, .int 0, .ref ar41, .ref ar42, .ref ar43, .ref ar44, .long 0, .long 0, .int 0, .int 0, .ref ar49, .int 0, .int 0, .ref ar52, .int 0, .ref ar54, .int 0]) hx hb hts (fun w h => mT (inX11 w h)) tyX11 tyX11_ok nmX11 hown hG.1 hP hD hS hm_mo hf_mo rfl 0 (by decide) (hts _ (mT wg_1336)) (fun _ h => h) rfl (by decide +kernel) (rfl) (rfl) (Nat.le_of_ble_eq_true rfl) rfl dX11_undo_2 (fun H locs f1 hf3 ho2 hP hD hS => ?_)
  refine lv_aload_n hx hb dX11_undo_5 rfl (lv_at hl 0 rfl) ?_
  refine pl_get (v := .int 0) hx hb hts (fun w h => mT (inX11 w h)) hown hG.1 hP hm_mo hf3 rfl 47 (by decide) (hts _ (mT wg_1383)) (fun _ h => h) rfl dX11_undo_6 ?_
  refine lv_if_ne (tgt := 14) hx hb dX11_undo_9 (by decide) (fun c4 => absurd rfl c4) (fun c4 => ?_)
  refine lv_iconst (v := (-1)) hx hb dX11_undo_12 (by decide) ?_
  exact ret_i (ty := .int) hx hb hr hlocks (rfl) hP hD hS (Nat.le_of_ble_eq_true rfl) (Nat.le_of_ble_eq_true rfl) (rfl) dX11_undo_13

set_option maxHeartbeats 4000000 in
set_option maxRecDepth 100000 in
theorem k_X11_image (l : Launch) (g : GG) (L : List Nat) (f : HP) (sz : Nat) (mo ar1 ar7 ar10 ar11 ar24 ar26 ar27 ar28 ar29 ar30 ar31 ar32 ar33 ar34 ar35 ar41 ar42 ar43 ar44 ar49 ar52 ar54 : Nat) (hm_mo : mo ∈ L) (hf_mo : f mo = .inr (10, [.int 0, .ref ar1, .int 0, .int 0, .int 0, .int 0, .int 0, .ref ar7, .int 0, .int 0, .ref ar10, .ref ar11, .int 0, .int 0, .int 0, .int 0, .int 0, .int 0, .int 0, .int 0, .int 0, .long 0, .long 0, .int 0, .ref ar24, .int 0, .ref ar26, .ref ar27, .ref ar28, .ref ar29, .ref ar30, .ref ar31, .ref ar32, .ref ar33, .ref ar34, .ref ar35, .int 0, .int 0, .int 0, .int 0, .int 0, .ref ar41, .ref ar42, .ref ar43, .ref ar44, .long 0, .long 0, .int 0, .int 0, .ref ar49, .int 0, .int 0, .ref ar52, .int 0, .ref ar54, .int 0])) : MtI l g yX11_image cX11_image 2 (some .int) ({ frames := 0, cells := 0, slots := 0, locals := 0 }) [.ref mo] L f sz (fun r _ => r = (-1)) := by
  refine MtI.of (by decide +kernel) (Nat.le_of_ble_eq_true rfl) ?_
  intro p e s m below meth c A hEn hP hD hS ls hl
  obtain ⟨hx, hb, hr, hml, hown, hlocks, hts, hG, hA, hE, hnm⟩ := hEn
  have hown : s.vm.findClass "RulerWordModel" = some m.cls := hown
  have hl : lv_has ls 2 [(0, .ref mo)] := hl
  refine lv_aload_n hx hb dX11_image_0 rfl (lv_at hl 0 rfl) ?_
  refine lv_iconst (v := 0) hx hb dX11_image_1 (by decide) ?_
  refine pl_put (ty := .int) (v := .int 0) (fs' := [.int 0, .ref ar1, .int 0, .int 0, .int 0, .int 0, .int 0, .ref ar7, .int 0, .int 0, .ref ar10, .ref ar11, .int 0, .int 0, .int 0, .int 0, .int 0, .int 0, .int 0, .int 0, .int 0, .long 0, .long 0, .int 0, .ref ar24, .int 0, .ref ar26, .ref ar27, .ref ar28, .ref ar29, .ref ar30, .ref ar31, .ref ar32, .ref ar33, .ref ar34, .ref ar35, .int 0, .int 0, .int 0, .int 0, .int 0, .ref ar41, .ref ar42, .ref ar43, .ref ar44, .long 0, .long 0, .int 0, .int 0, .ref ar49, .int 0, .int 0, .ref ar52, .int 0, .ref ar54, .int 0]) hx hb hts (fun w h => mT (inX11 w h)) tyX11 tyX11_ok nmX11 hown hG.1 hP hD hS hm_mo hf_mo rfl 0 (by decide) (hts _ (mT wg_1336)) (fun _ h => h) rfl (by decide +kernel) (rfl) (rfl) (Nat.le_of_ble_eq_true rfl) rfl dX11_image_2 (fun H locs f1 hf3 ho2 hP hD hS => ?_)
  refine lv_aload_n hx hb dX11_image_5 rfl (lv_at hl 0 rfl) ?_
  refine pl_get (v := .int 0) hx hb hts (fun w h => mT (inX11 w h)) hown hG.1 hP hm_mo hf3 rfl 23 (by decide) (hts _ (mT wg_1359)) (fun _ h => h) rfl dX11_image_6 ?_
  refine lv_if_ne (tgt := 14) hx hb dX11_image_9 (by decide) (fun c4 => absurd rfl c4) (fun c4 => ?_)
  refine lv_iconst (v := (-1)) hx hb dX11_image_12 (by decide) ?_
  exact ret_i (ty := .int) hx hb hr hlocks (rfl) hP hD hS (Nat.le_of_ble_eq_true rfl) (Nat.le_of_ble_eq_true rfl) (rfl) dX11_image_13

set_option maxHeartbeats 4000000 in
set_option maxRecDepth 100000 in
theorem k_X11_back (l : Launch) (g : GG) (L : List Nat) (f : HP) (sz : Nat) (mo ar1 ar7 ar10 ar11 ar24 ar26 ar27 ar28 ar29 ar30 ar31 ar32 ar33 ar34 ar35 ar41 ar42 ar43 ar44 ar49 ar52 ar54 : Nat) (hm_mo : mo ∈ L) (hf_mo : f mo = .inr (10, [.int 0, .ref ar1, .int 0, .int 0, .int 0, .int 0, .int 0, .ref ar7, .int 0, .int 0, .ref ar10, .ref ar11, .int 0, .int 0, .int 0, .int 0, .int 0, .int 0, .int 0, .int 0, .int 0, .long 0, .long 0, .int 0, .ref ar24, .int 0, .ref ar26, .ref ar27, .ref ar28, .ref ar29, .ref ar30, .ref ar31, .ref ar32, .ref ar33, .ref ar34, .ref ar35, .int 0, .int 0, .int 0, .int 0, .int 0, .ref ar41, .ref ar42, .ref ar43, .ref ar44, .long 0, .long 0, .int 0, .int 0, .ref ar49, .int 0, .int 0, .ref ar52, .int 0, .ref ar54, .int 0])) : MtI l g yX11_back cX11_back 2 (some .int) ({ frames := 0, cells := 0, slots := 0, locals := 0 }) [.ref mo] L f sz (fun r _ => r = (-1)) := by
  refine MtI.of (by decide +kernel) (Nat.le_of_ble_eq_true rfl) ?_
  intro p e s m below meth c A hEn hP hD hS ls hl
  obtain ⟨hx, hb, hr, hml, hown, hlocks, hts, hG, hA, hE, hnm⟩ := hEn
  have hown : s.vm.findClass "RulerWordModel" = some m.cls := hown
  have hl : lv_has ls 2 [(0, .ref mo)] := hl
  refine lv_aload_n hx hb dX11_back_0 rfl (lv_at hl 0 rfl) ?_
  refine lv_iconst (v := 0) hx hb dX11_back_1 (by decide) ?_
  refine pl_put (ty := .int) (v := .int 0) (fs' := [.int 0, .ref ar1, .int 0, .int 0, .int 0, .int 0, .int 0, .ref ar7, .int 0, .int 0, .ref ar10, .ref ar11, .int 0, .int 0, .int 0, .int 0, .int 0, .int 0, .int 0, .int 0, .int 0, .long 0, .long 0, .int 0, .ref ar24, .int 0, .ref ar26, .ref ar27, .ref ar28, .ref ar29, .ref ar30, .ref ar31, .ref ar32, .ref ar33, .ref ar34, .ref ar35, .int 0, .int 0, .int 0, .int 0, .int 0, .ref ar41, .ref ar42, .ref ar43, .ref ar44, .long 0, .long 0, .int 0, .int 0, .ref ar49, .int 0, .int 0, .ref ar52, .int 0, .ref ar54, .int 0]) hx hb hts (fun w h => mT (inX11 w h)) tyX11 tyX11_ok nmX11 hown hG.1 hP hD hS hm_mo hf_mo rfl 0 (by decide) (hts _ (mT wg_1336)) (fun _ h => h) rfl (by decide +kernel) (rfl) (rfl) (Nat.le_of_ble_eq_true rfl) rfl dX11_back_2 (fun H locs f1 hf3 ho2 hP hD hS => ?_)
  refine lv_aload_n hx hb dX11_back_5 rfl (lv_at hl 0 rfl) ?_
  refine pl_get (v := .int 0) hx hb hts (fun w h => mT (inX11 w h)) hown hG.1 hP hm_mo hf3 rfl 48 (by decide) (hts _ (mT wg_1384)) (fun _ h => h) rfl dX11_back_6 ?_
  refine lv_if_ne (tgt := 14) hx hb dX11_back_9 (by decide) (fun c4 => absurd rfl c4) (fun c4 => ?_)
  refine lv_iconst (v := (-1)) hx hb dX11_back_12 (by decide) ?_
  exact ret_i (ty := .int) hx hb hr hlocks (rfl) hP hD hS (Nat.le_of_ble_eq_true rfl) (Nat.le_of_ble_eq_true rfl) (rfl) dX11_back_13

set_option maxHeartbeats 4000000 in
set_option maxRecDepth 100000 in
theorem k_X11_most (l : Launch) (g : GG) (L : List Nat) (f : HP) (sz : Nat) (mo ar1 ar7 ar10 ar11 ar24 ar26 ar27 ar28 ar29 ar30 ar31 ar32 ar33 ar34 ar35 ar41 ar42 ar43 ar44 ar49 ar52 ar54 : Nat) (w : Int32) (hm_mo : mo ∈ L) (hf_mo : f mo = .inr (10, [.int 0, .ref ar1, .int 0, .int 0, .int 0, .int 0, .int 0, .ref ar7, .int 0, .int 0, .ref ar10, .ref ar11, .int 0, .int 0, .int 0, .int 0, .int 0, .int 0, .int 0, .int 0, .int 0, .long 0, .long 0, .int 0, .ref ar24, .int 0, .ref ar26, .ref ar27, .ref ar28, .ref ar29, .ref ar30, .ref ar31, .ref ar32, .ref ar33, .ref ar34, .ref ar35, .int 0, .int 0, .int 0, .int 0, .int 0, .ref ar41, .ref ar42, .ref ar43, .ref ar44, .long 0, .long 0, .int 0, .int 0, .ref ar49, .int 0, .int 0, .ref ar52, .int 0, .ref ar54, .int 0])) : MtI l g yX11_most cX11_most 5 (some .int) ({ frames := 0, cells := 0, slots := 0, locals := 0 }) [.ref mo, .int w] L f sz (fun r _ => r = (-1)) := by
  refine MtI.of (by decide +kernel) (Nat.le_of_ble_eq_true rfl) ?_
  intro p e s m below meth c A hEn hP hD hS ls hl
  obtain ⟨hx, hb, hr, hml, hown, hlocks, hts, hG, hA, hE, hnm⟩ := hEn
  have hown : s.vm.findClass "RulerWordModel" = some m.cls := hown
  have hl : lv_has ls 5 [(0, .ref mo), (1, .int w)] := hl
  refine lv_aload_n hx hb dX11_most_0 rfl (lv_at hl 0 rfl) ?_
  refine lv_iconst (v := 0) hx hb dX11_most_1 (by decide) ?_
  refine pl_put (ty := .int) (v := .int 0) (fs' := [.int 0, .ref ar1, .int 0, .int 0, .int 0, .int 0, .int 0, .ref ar7, .int 0, .int 0, .ref ar10, .ref ar11, .int 0, .int 0, .int 0, .int 0, .int 0, .int 0, .int 0, .int 0, .int 0, .long 0, .long 0, .int 0, .ref ar24, .int 0, .ref ar26, .ref ar27, .ref ar28, .ref ar29, .ref ar30, .ref ar31, .ref ar32, .ref ar33, .ref ar34, .ref ar35, .int 0, .int 0, .int 0, .int 0, .int 0, .ref ar41, .ref ar42, .ref ar43, .ref ar44, .long 0, .long 0, .int 0, .int 0, .ref ar49, .int 0, .int 0, .ref ar52, .int 0, .ref ar54, .int 0]) hx hb hts (fun w h => mT (inX11 w h)) tyX11 tyX11_ok nmX11 hown hG.1 hP hD hS hm_mo hf_mo rfl 0 (by decide) (hts _ (mT wg_1336)) (fun _ h => h) rfl (by decide +kernel) (rfl) (rfl) (Nat.le_of_ble_eq_true rfl) rfl dX11_most_2 (fun H locs f1 hf3 ho2 hP hD hS => ?_)
  refine lv_aload_n hx hb dX11_most_5 rfl (lv_at hl 0 rfl) ?_
  refine pl_get (v := .int 0) hx hb hts (fun w h => mT (inX11 w h)) hown hG.1 hP hm_mo hf3 rfl 23 (by decide) (hts _ (mT wg_1359)) (fun _ h => h) rfl dX11_most_6 ?_
  refine lv_if_eq (tgt := 24) hx hb dX11_most_9 (by decide) (fun c4 => ?_) (fun c4 => absurd (by decide) c4)
  refine lv_iconst (v := (-1)) hx hb dX11_most_24 (by decide) ?_
  exact ret_i (ty := .int) hx hb hr hlocks (rfl) hP hD hS (Nat.le_of_ble_eq_true rfl) (Nat.le_of_ble_eq_true rfl) (rfl) dX11_most_25

set_option maxHeartbeats 4000000 in
set_option maxRecDepth 100000 in
theorem k_X11_count (l : Launch) (g : GG) (L : List Nat) (f : HP) (sz : Nat) (mo ar1 ar7 ar10 ar11 ar24 ar26 ar27 ar28 ar29 ar30 ar31 ar32 ar33 ar34 ar35 ar41 ar42 ar43 ar44 ar49 ar52 ar54 : Nat) (w : Int32) (hm_mo : mo ∈ L) (hf_mo : f mo = .inr (10, [.int 0, .ref ar1, .int 0, .int 0, .int 0, .int 0, .int 0, .ref ar7, .int 0, .int 0, .ref ar10, .ref ar11, .int 0, .int 0, .int 0, .int 0, .int 0, .int 0, .int 0, .int 0, .int 0, .long 0, .long 0, .int 0, .ref ar24, .int 0, .ref ar26, .ref ar27, .ref ar28, .ref ar29, .ref ar30, .ref ar31, .ref ar32, .ref ar33, .ref ar34, .ref ar35, .int 0, .int 0, .int 0, .int 0, .int 0, .ref ar41, .ref ar42, .ref ar43, .ref ar44, .long 0, .long 0, .int 0, .int 0, .ref ar49, .int 0, .int 0, .ref ar52, .int 0, .ref ar54, .int 0])) : MtI l g yX11_count cX11_count 2 (some .int) ({ frames := 0, cells := 0, slots := 0, locals := 0 }) [.ref mo, .int w] L f sz (fun r _ => r = cntV w) := by
  refine MtI.of (by decide +kernel) (Nat.le_of_ble_eq_true rfl) ?_
  intro p e s m below meth c A hEn hP hD hS ls hl
  obtain ⟨hx, hb, hr, hml, hown, hlocks, hts, hG, hA, hE, hnm⟩ := hEn
  have hown : s.vm.findClass "RulerWordModel" = some m.cls := hown
  have hl : lv_has ls 2 [(0, .ref mo), (1, .int w)] := hl
  refine lv_aload_n hx hb dX11_count_0 rfl (lv_at hl 0 rfl) ?_
  refine lv_iconst (v := 0) hx hb dX11_count_1 (by decide) ?_
  refine pl_put (ty := .int) (v := .int 0) (fs' := [.int 0, .ref ar1, .int 0, .int 0, .int 0, .int 0, .int 0, .ref ar7, .int 0, .int 0, .ref ar10, .ref ar11, .int 0, .int 0, .int 0, .int 0, .int 0, .int 0, .int 0, .int 0, .int 0, .long 0, .long 0, .int 0, .ref ar24, .int 0, .ref ar26, .ref ar27, .ref ar28, .ref ar29, .ref ar30, .ref ar31, .ref ar32, .ref ar33, .ref ar34, .ref ar35, .int 0, .int 0, .int 0, .int 0, .int 0, .ref ar41, .ref ar42, .ref ar43, .ref ar44, .long 0, .long 0, .int 0, .int 0, .ref ar49, .int 0, .int 0, .ref ar52, .int 0, .ref ar54, .int 0]) hx hb hts (fun w h => mT (inX11 w h)) tyX11 tyX11_ok nmX11 hown hG.1 hP hD hS hm_mo hf_mo rfl 0 (by decide) (hts _ (mT wg_1336)) (fun _ h => h) rfl (by decide +kernel) (rfl) (rfl) (Nat.le_of_ble_eq_true rfl) rfl dX11_count_2 (fun H locs f1 hf3 ho2 hP hD hS => ?_)
  refine lv_iload_n hx hb dX11_count_5 rfl (lv_at hl 1 rfl) ?_
  refine lv_if_ne (tgt := 16) hx hb dX11_count_6 (by decide) (fun c4 => ?_) (fun c4 => ?_)
  ·
    refine lv_iload_n hx hb dX11_count_16 rfl (lv_at hl 1 rfl) ?_
    refine lv_iconst (v := 1) hx hb dX11_count_17 (by decide) ?_
    refine lv_icmp_ne (tgt := 28) hx hb dX11_count_18 (by decide) (fun c5 => ?_) (fun c5 => ?_)
    ·
      refine lv_iload_n hx hb dX11_count_28 rfl (lv_at hl 1 rfl) ?_
      refine lv_iconst (v := 2) hx hb dX11_count_29 (by decide) ?_
      refine lv_icmp_ne (tgt := 54) hx hb dX11_count_30 (by decide) (fun c6 => ?_) (fun c6 => ?_)
      ·
        refine lv_iconst (v := (-1)) hx hb dX11_count_54 (by decide) ?_
        exact ret_i (ty := .int) hx hb hr hlocks (rfl) hP hD hS (Nat.le_of_ble_eq_true rfl) (Nat.le_of_ble_eq_true rfl) (by simp [cntV, c4, c5, c6]) dX11_count_55
      ·
        refine lv_aload_n hx hb dX11_count_33 rfl (lv_at hl 0 rfl) ?_
        refine pl_get (v := .int 0) hx hb hts (fun w h => mT (inX11 w h)) hown hG.1 hP hm_mo hf3 rfl 23 (by decide) (hts _ (mT wg_1359)) (fun _ h => h) rfl dX11_count_34 ?_
        refine lv_if_eq (tgt := 50) hx hb dX11_count_37 (by decide) (fun c7 => ?_) (fun c7 => absurd (by decide) c7)
        refine lv_iconst (v := 0) hx hb dX11_count_50 (by decide) ?_
        refine lv_goto (tgt := 55) hx hb dX11_count_51 (by decide) ?_
        exact ret_i (ty := .int) hx hb hr hlocks (rfl) hP hD hS (Nat.le_of_ble_eq_true rfl) (Nat.le_of_ble_eq_true rfl) (by simp [cntV, c4, c5, c6]) dX11_count_55
    ·
      refine lv_aload_n hx hb dX11_count_21 rfl (lv_at hl 0 rfl) ?_
      refine pl_get (v := .int 0) hx hb hts (fun w h => mT (inX11 w h)) hown hG.1 hP hm_mo hf3 rfl 47 (by decide) (hts _ (mT wg_1383)) (fun _ h => h) rfl dX11_count_22 ?_
      refine lv_goto (tgt := 55) hx hb dX11_count_25 (by decide) ?_
      exact ret_i (ty := .int) hx hb hr hlocks (rfl) hP hD hS (Nat.le_of_ble_eq_true rfl) (Nat.le_of_ble_eq_true rfl) (by simp [cntV, c4, c5]) dX11_count_55
  ·
    refine lv_aload_n hx hb dX11_count_9 rfl (lv_at hl 0 rfl) ?_
    refine pl_get (v := .int 0) hx hb hts (fun w h => mT (inX11 w h)) hown hG.1 hP hm_mo hf3 rfl 2 (by decide) (hts _ (mT wg_1338)) (fun _ h => h) rfl dX11_count_10 ?_
    refine lv_goto (tgt := 55) hx hb dX11_count_13 (by decide) ?_
    exact ret_i (ty := .int) hx hb hr hlocks (rfl) hP hD hS (Nat.le_of_ble_eq_true rfl) (Nat.le_of_ble_eq_true rfl) (by simp [cntV, c4]) dX11_count_55
