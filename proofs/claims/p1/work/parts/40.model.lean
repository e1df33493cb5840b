set_option maxHeartbeats 4000000 in
set_option maxRecDepth 100000 in
theorem k_X11_thrown (l : Launch) (g : GG) (L : List Nat) (f : HP) (sz : Nat) (mo ar1 ar7 ar10 ar11 ar24 ar26 ar27 ar28 ar29 ar30 ar31 ar32 ar33 ar34 ar35 ar41 ar42 ar43 ar44 ar49 ar52 ar54 : Nat) (hm_mo : mo ∈ L) (hf_mo : f mo = .inr (10, [.int 0, .ref ar1, .int 0, .int 0, .int 0, .int 0, .int 0, .ref ar7, .int 0, .int 0, .ref ar10, .ref ar11, .int 0, .int 0, .int 0, .int 0, .int 0, .int 0, .int 0, .int 0, .int 0, .long 0, .long 0, .int 0, .ref ar24, .int 0, .ref ar26, .ref ar27, .ref ar28, .ref ar29, .ref ar30, .ref ar31, .ref ar32, .ref ar33, .ref ar34, .ref ar35, .int 0, .int 0, .int 0, .int 0, .int 0, .ref ar41, .ref ar42, .ref ar43, .ref ar44, .long 0, .long 0, .int 0, .int 0, .ref ar49, .int 0, .int 0, .ref ar52, .int 0, .ref ar54, .int 0])) : MtI l g yX11_thrown cX11_thrown 1 (some .int) ({ frames := 0, cells := 0, slots := 0, locals := 0 }) [.ref mo] L f sz (fun r _ => r = 0) := by
  refine MtI.of (by decide +kernel) (Nat.le_of_ble_eq_true rfl) ?_
  intro p e s m below meth c A hEn hP hD hS ls hl
  obtain ⟨hx, hb, hr, hml, hown, hlocks, hts, hG, hA, hE, hnm⟩ := hEn
  have hown : s.vm.findClass "RulerWordModel" = some m.cls := hown
  have hl : lv_has ls 1 [(0, .ref mo)] := hl
  refine lv_aload_n hx hb dX11_thrown_0 rfl (lv_at hl 0 rfl) ?_
  refine pl_get (v := .int 0) hx hb hts (fun w h => mT (inX11 w h)) hown hG.1 hP hm_mo hf_mo rfl 0 (by decide) (hts _ (mT wg_1336)) (fun _ h => h) rfl dX11_thrown_1 ?_
  exact ret_i (ty := .int) hx hb hr hlocks (rfl) hP hD hS (Nat.le_of_ble_eq_true rfl) (Nat.le_of_ble_eq_true rfl) (rfl) dX11_thrown_4

set_option maxHeartbeats 4000000 in
set_option maxRecDepth 100000 in
theorem k_X11_end (l : Launch) (g : GG) (L : List Nat) (f : HP) (sz : Nat) (mo ar1 ar7 ar10 ar11 ar24 ar26 ar27 ar28 ar29 ar30 ar31 ar32 ar33 ar34 ar35 ar41 ar42 ar43 ar44 ar49 ar52 ar54 : Nat) (n : Int32) (hm_mo : mo ∈ L) (hf_mo : f mo = .inr (10, [.int 0, .ref ar1, .int 0, .int 0, .int 0, .int 0, .int 0, .ref ar7, .int 0, .int 0, .ref ar10, .ref ar11, .int 0, .int 0, .int 0, .int 0, .int 0, .int 0, .int 0, .int 0, .int 0, .long 0, .long 0, .int 0, .ref ar24, .int 0, .ref ar26, .ref ar27, .ref ar28, .ref ar29, .ref ar30, .ref ar31, .ref ar32, .ref ar33, .ref ar34, .ref ar35, .int 0, .int 0, .int 0, .int 0, .int 0, .ref ar41, .ref ar42, .ref ar43, .ref ar44, .long 0, .long 0, .int 0, .int 0, .ref ar49, .int 0, .int 0, .ref ar52, .int 0, .ref ar54, .int 0])) : MtI l g yX11_end cX11_end 2 (some .boolean) ({ frames := 0, cells := 0, slots := 0, locals := 0 }) [.ref mo, .int n] L f sz (fun r _ => r = endV n) := by
  refine MtI.of (by decide +kernel) (Nat.le_of_ble_eq_true rfl) ?_
  intro p e s m below meth c A hEn hP hD hS ls hl
  obtain ⟨hx, hb, hr, hml, hown, hlocks, hts, hG, hA, hE, hnm⟩ := hEn
  have hown : s.vm.findClass "RulerWordModel" = some m.cls := hown
  have hl : lv_has ls 2 [(0, .ref mo), (1, .int n)] := hl
  refine lv_aload_n hx hb dX11_end_0 rfl (lv_at hl 0 rfl) ?_
  refine lv_iconst (v := 0) hx hb dX11_end_1 (by decide) ?_
  refine pl_put (ty := .int) (v := .int 0) (fs' := [.int 0, .ref ar1, .int 0, .int 0, .int 0, .int 0, .int 0, .ref ar7, .int 0, .int 0, .ref ar10, .ref ar11, .int 0, .int 0, .int 0, .int 0, .int 0, .int 0, .int 0, .int 0, .int 0, .long 0, .long 0, .int 0, .ref ar24, .int 0, .ref ar26, .ref ar27, .ref ar28, .ref ar29, .ref ar30, .ref ar31, .ref ar32, .ref ar33, .ref ar34, .ref ar35, .int 0, .int 0, .int 0, .int 0, .int 0, .ref ar41, .ref ar42, .ref ar43, .ref ar44, .long 0, .long 0, .int 0, .int 0, .ref ar49, .int 0, .int 0, .ref ar52, .int 0, .ref ar54, .int 0]) hx hb hts (fun w h => mT (inX11 w h)) tyX11 tyX11_ok nmX11 hown hG.1 hP hD hS hm_mo hf_mo rfl 0 (by decide) (hts _ (mT wg_1336)) (fun _ h => h) rfl (by decide +kernel) (rfl) (rfl) (Nat.le_of_ble_eq_true rfl) rfl dX11_end_2 (fun H locs f1 hf3 ho2 hP hD hS => ?_)
  refine lv_iload_n hx hb dX11_end_5 rfl (lv_at hl 1 rfl) ?_
  refine lv_if_lt (tgt := 17) hx hb dX11_end_6 (by decide) (fun c4 => ?_) (fun c4 => ?_)
  ·
    refine lv_iconst (v := 0) hx hb dX11_end_17 (by decide) ?_
    exact ret_i (ty := .boolean) hx hb hr hlocks (rfl) hP hD hS (Nat.le_of_ble_eq_true rfl) (Nat.le_of_ble_eq_true rfl) (by simp [endV, c4]) dX11_end_18
  ·
    refine lv_iload_n hx hb dX11_end_9 rfl (lv_at hl 1 rfl) ?_
    refine lv_aload_n hx hb dX11_end_10 rfl (lv_at hl 0 rfl) ?_
    refine pl_get (v := .int 0) hx hb hts (fun w h => mT (inX11 w h)) hown hG.1 hP hm_mo hf3 rfl 2 (by decide) (hts _ (mT wg_1338)) (fun _ h => h) rfl dX11_end_11 ?_
    refine lv_icmp_le (tgt := 19) hx hb dX11_end_14 (by decide) (fun c5 => ?_) (fun c5 => ?_)
    ·
      refine lv_aload_n hx hb dX11_end_19 rfl (lv_at hl 0 rfl) ?_
      refine lv_iload_n hx hb dX11_end_20 rfl (lv_at hl 1 rfl) ?_
      refine pl_put (ty := .int) (v := .int n) (fs' := [.int 0, .ref ar1, .int n, .int 0, .int 0, .int 0, .int 0, .ref ar7, .int 0, .int 0, .ref ar10, .ref ar11, .int 0, .int 0, .int 0, .int 0, .int 0, .int 0, .int 0, .int 0, .int 0, .long 0, .long 0, .int 0, .ref ar24, .int 0, .ref ar26, .ref ar27, .ref ar28, .ref ar29, .ref ar30, .ref ar31, .ref ar32, .ref ar33, .ref ar34, .ref ar35, .int 0, .int 0, .int 0, .int 0, .int 0, .ref ar41, .ref ar42, .ref ar43, .ref ar44, .long 0, .long 0, .int 0, .int 0, .ref ar49, .int 0, .int 0, .ref ar52, .int 0, .ref ar54, .int 0]) hx hb hts (fun w h => mT (inX11 w h)) tyX11 tyX11_ok nmX11 hown hG.1 hP hD hS hm_mo hf3 rfl 2 (by decide) (hts _ (mT wg_1338)) (fun _ h => h) rfl (by decide +kernel) (rfl) (rfl) (Nat.le_of_ble_eq_true rfl) rfl dX11_end_21 (fun H locs f6 hf8 ho7 hP hD hS => ?_)
      refine lv_iconst (v := 1) hx hb dX11_end_24 (by decide) ?_
      exact ret_i (ty := .boolean) hx hb hr hlocks (rfl) hP hD hS (Nat.le_of_ble_eq_true rfl) (Nat.le_of_ble_eq_true rfl) (by simp [endV, c4, c5]) dX11_end_25
    ·
      refine lv_iconst (v := 0) hx hb dX11_end_17 (by decide) ?_
      exact ret_i (ty := .boolean) hx hb hr hlocks (rfl) hP hD hS (Nat.le_of_ble_eq_true rfl) (Nat.le_of_ble_eq_true rfl) (by simp [endV, c4, c5]) dX11_end_18

set_option maxHeartbeats 4000000 in
set_option maxRecDepth 100000 in
theorem k_X11_fault (l : Launch) (g : GG) (L : List Nat) (f : HP) (sz : Nat) (mo ar1 ar7 ar10 ar11 ar24 ar26 ar27 ar28 ar29 ar30 ar31 ar32 ar33 ar34 ar35 ar41 ar42 ar43 ar44 ar49 ar52 ar54 : Nat) (w : Int32) (hm_mo : mo ∈ L) (hf_mo : f mo = .inr (10, [.int 0, .ref ar1, .int 0, .int 0, .int 0, .int 0, .int 0, .ref ar7, .int 0, .int 0, .ref ar10, .ref ar11, .int 0, .int 0, .int 0, .int 0, .int 0, .int 0, .int 0, .int 0, .int 0, .long 0, .long 0, .int 0, .ref ar24, .int 0, .ref ar26, .ref ar27, .ref ar28, .ref ar29, .ref ar30, .ref ar31, .ref ar32, .ref ar33, .ref ar34, .ref ar35, .int 0, .int 0, .int 0, .int 0, .int 0, .ref ar41, .ref ar42, .ref ar43, .ref ar44, .long 0, .long 0, .int 0, .int 0, .ref ar49, .int 0, .int 0, .ref ar52, .int 0, .ref ar54, .int 0])) (hm_ar7 : ar7 ∈ L) (hf_ar7 : f ar7 = .inl (g.2.1 0, 6, .inl (fun _ => 0))) (hm_ar11 : ar11 ∈ L) (hf_ar11 : f ar11 = .inl (g.2.1 0, 100, .inl (fun _ => 0))) : MtI l g yX11_fault cX11_fault 2 (some .int) ({ frames := 5, cells := 0, slots := 0, locals := 105 }) [.ref mo, .int w] L f sz (fun r _ => r = fltV w) := by
  refine MtI.of (by decide +kernel) (Nat.le_of_ble_eq_true rfl) ?_
  intro p e s m below meth c A hEn hP hD hS ls hl
  obtain ⟨hx, hb, hr, hml, hown, hlocks, hts, hG, hA, hE, hnm⟩ := hEn
  have hown : s.vm.findClass "RulerWordModel" = some m.cls := hown
  have hl : lv_has ls 2 [(0, .ref mo), (1, .int w)] := hl
  refine lv_aload_n hx hb dX11_fault_0 rfl (lv_at hl 0 rfl) ?_
  refine lv_iconst (v := 0) hx hb dX11_fault_1 (by decide) ?_
  refine pl_put (ty := .int) (v := .int 0) (fs' := [.int 0, .ref ar1, .int 0, .int 0, .int 0, .int 0, .int 0, .ref ar7, .int 0, .int 0, .ref ar10, .ref ar11, .int 0, .int 0, .int 0, .int 0, .int 0, .int 0, .int 0, .int 0, .int 0, .long 0, .long 0, .int 0, .ref ar24, .int 0, .ref ar26, .ref ar27, .ref ar28, .ref ar29, .ref ar30, .ref ar31, .ref ar32, .ref ar33, .ref ar34, .ref ar35, .int 0, .int 0, .int 0, .int 0, .int 0, .ref ar41, .ref ar42, .ref ar43, .ref ar44, .long 0, .long 0, .int 0, .int 0, .ref ar49, .int 0, .int 0, .ref ar52, .int 0, .ref ar54, .int 0]) hx hb hts (fun w h => mT (inX11 w h)) tyX11 tyX11_ok nmX11 hown hG.1 hP hD hS hm_mo hf_mo rfl 0 (by decide) (hts _ (mT wg_1336)) (fun _ h => h) rfl (by decide +kernel) (rfl) (rfl) (Nat.le_of_ble_eq_true rfl) rfl dX11_fault_2 (fun H locs f1 hf3 ho2 hP hD hS => ?_)
  have hf4 := (ho2 ar7 (kno hf_mo hf_ar7).symm).trans hf_ar7
  have hf5 := (ho2 ar11 (kno hf_mo hf_ar11).symm).trans hf_ar11
  refine lv_iload_n hx hb dX11_fault_5 rfl (lv_at hl 1 rfl) ?_
  refine lv_if_ne (tgt := 16) hx hb dX11_fault_6 (by decide) (fun c6 => ?_) (fun c6 => ?_)
  ·
    refine lv_iload_n hx hb dX11_fault_16 rfl (lv_at hl 1 rfl) ?_
    refine lv_iconst (v := 1) hx hb dX11_fault_17 (by decide) ?_
    refine lv_icmp_ne (tgt := 28) hx hb dX11_fault_18 (by decide) (fun c7 => ?_) (fun c7 => ?_)
    ·
      refine lv_bipush (v := (-2)) hx hb dX11_fault_28 (by decide) ?_
      exact ret_i (ty := .int) hx hb hr hlocks (rfl) hP hD hS (Nat.le_of_ble_eq_true rfl) (Nat.le_of_ble_eq_true rfl) (by simp [fltV, c6, c7]) dX11_fault_30
    ·
      refine lv_aload_n hx hb dX11_fault_21 rfl (lv_at hl 0 rfl) ?_
      refine call_i (run_V (rm := { frames := 4, cells := 0, slots := 0, locals := 85 }) hx hb hml hown hts (k_X11_readsPlan l g _ _ _ mo ar1 ar7 ar10 ar11 ar24 ar26 ar27 ar28 ar29 ar30 ar31 ar32 ar33 ar34 ar35 ar41 ar42 ar43 ar44 ar49 ar52 ar54 hm_mo hf3 hm_ar11 hf5) cV_X11_readsPlan wg_1596 ⟨Nat.le_of_ble_eq_true rfl, Nat.le_of_ble_eq_true rfl⟩ hG hE hA hP hD hS hm_mo hf3 rfl rfl hl.1 (As := []) (rest := []) rfl (Nat.le_of_ble_eq_true rfl) dX11_fault_22 ⟨Nat.le_of_ble_eq_true rfl, Nat.le_of_ble_eq_true rfl⟩) hA hD hS (fun r8 L9 f10 H locs hp11 hP hD hS => ?_)
      obtain ⟨r12, hf13, hf14, er15, fr16, sb17⟩ := hp11
      have hm18 := sb17 _ hm_mo
      have hf20 := (fr16 ar7 hm_ar7 (kno hf3 hf4).symm (knn hf4 hf5 (by decide))).trans hf4
      have hm19 := sb17 _ hm_ar7
      have hm21 := sb17 _ hm_ar11
      subst er15
      refine lv_goto (tgt := 30) hx hb dX11_fault_25 (by decide) ?_
      exact ret_i (ty := .int) hx hb hr hlocks (rfl) hP hD hS (Nat.le_of_ble_eq_true rfl) (Nat.le_of_ble_eq_true rfl) (by simp [fltV, c6, c7]) dX11_fault_30
  ·
    refine lv_aload_n hx hb dX11_fault_9 rfl (lv_at hl 0 rfl) ?_
    refine call_i (run_V (rm := { frames := 3, cells := 0, slots := 0, locals := 63 }) hx hb hml hown hts (k_X11_readsCouncil l g _ _ _ mo ar1 ar7 ar10 ar11 ar24 ar26 ar27 ar28 ar29 ar30 ar31 ar32 ar33 ar34 ar35 ar41 ar42 ar43 ar44 ar49 ar52 ar54 hm_mo hf3 hm_ar7 hf4) cV_X11_readsCouncil wg_1529 ⟨Nat.le_of_ble_eq_true rfl, Nat.le_of_ble_eq_true rfl⟩ hG hE hA hP hD hS hm_mo hf3 rfl rfl hl.1 (As := []) (rest := []) rfl (Nat.le_of_ble_eq_true rfl) dX11_fault_10 ⟨Nat.le_of_ble_eq_true rfl, Nat.le_of_ble_eq_true rfl⟩) hA hD hS (fun r22 L23 f24 H locs hp25 hP hD hS => ?_)
    obtain ⟨r26, hf27, hf28, er29, fr30, sb31⟩ := hp25
    have hm32 := sb31 _ hm_mo
    have hm33 := sb31 _ hm_ar7
    have hf35 := (fr30 ar11 hm_ar11 (kno hf3 hf5).symm (knn hf5 hf4 (by decide))).trans hf5
    have hm34 := sb31 _ hm_ar11
    subst er29
    refine lv_goto (tgt := 30) hx hb dX11_fault_13 (by decide) ?_
    exact ret_i (ty := .int) hx hb hr hlocks (rfl) hP hD hS (Nat.le_of_ble_eq_true rfl) (Nat.le_of_ble_eq_true rfl) (by simp [fltV, c6]) dX11_fault_30

set_option maxHeartbeats 4000000 in
set_option maxRecDepth 100000 in
theorem k_X11_council (l : Launch) (g : GG) (L : List Nat) (f : HP) (sz : Nat) (mo ar1 ar7 ar10 ar11 ar24 ar26 ar27 ar28 ar29 ar30 ar31 ar32 ar33 ar34 ar35 ar41 ar42 ar43 ar44 ar49 ar52 ar54 : Nat) (sd : Int64) (hm_mo : mo ∈ L) (hf_mo : f mo = .inr (10, [.int 0, .ref ar1, .int 0, .int 0, .int 0, .int 0, .int 0, .ref ar7, .int 0, .int 0, .ref ar10, .ref ar11, .int 0, .int 0, .int 0, .int 0, .int 0, .int 0, .int 0, .int 0, .int 0, .long 0, .long 0, .int 0, .ref ar24, .int 0, .ref ar26, .ref ar27, .ref ar28, .ref ar29, .ref ar30, .ref ar31, .ref ar32, .ref ar33, .ref ar34, .ref ar35, .int 0, .int 0, .int 0, .int 0, .int 0, .ref ar41, .ref ar42, .ref ar43, .ref ar44, .long 0, .long 0, .int 0, .int 0, .ref ar49, .int 0, .int 0, .ref ar52, .int 0, .ref ar54, .int 0])) (hm_ar7 : ar7 ∈ L) (hf_ar7 : f ar7 = .inl (g.2.1 0, 6, .inl (fun _ => 0))) : MtI l g yX11_council cX11_council 3 (some .int) ({ frames := 4, cells := 0, slots := 0, locals := 84 }) [.ref mo, .long sd] L f sz (fun r _ => r = (-1)) := by
  refine MtI.of (by decide +kernel) (Nat.le_of_ble_eq_true rfl) ?_
  intro p e s m below meth c A hEn hP hD hS ls hl
  obtain ⟨hx, hb, hr, hml, hown, hlocks, hts, hG, hA, hE, hnm⟩ := hEn
  have hown : s.vm.findClass "RulerWordModel" = some m.cls := hown
  have hl : lv_has ls 3 [(0, .ref mo), (1, .long sd)] := hl
  refine lv_aload_n hx hb dX11_council_0 rfl (lv_at hl 0 rfl) ?_
  refine lv_iconst (v := 0) hx hb dX11_council_1 (by decide) ?_
  refine pl_put (ty := .int) (v := .int 0) (fs' := [.int 0, .ref ar1, .int 0, .int 0, .int 0, .int 0, .int 0, .ref ar7, .int 0, .int 0, .ref ar10, .ref ar11, .int 0, .int 0, .int 0, .int 0, .int 0, .int 0, .int 0, .int 0, .int 0, .long 0, .long 0, .int 0, .ref ar24, .int 0, .ref ar26, .ref ar27, .ref ar28, .ref ar29, .ref ar30, .ref ar31, .ref ar32, .ref ar33, .ref ar34, .ref ar35, .int 0, .int 0, .int 0, .int 0, .int 0, .ref ar41, .ref ar42, .ref ar43, .ref ar44, .long 0, .long 0, .int 0, .int 0, .ref ar49, .int 0, .int 0, .ref ar52, .int 0, .ref ar54, .int 0]) hx hb hts (fun w h => mT (inX11 w h)) tyX11 tyX11_ok nmX11 hown hG.1 hP hD hS hm_mo hf_mo rfl 0 (by decide) (hts _ (mT wg_1336)) (fun _ h => h) rfl (by decide +kernel) (rfl) (rfl) (Nat.le_of_ble_eq_true rfl) rfl dX11_council_2 (fun H locs f1 hf3 ho2 hP hD hS => ?_)
  have hf4 := (ho2 ar7 (kno hf_mo hf_ar7).symm).trans hf_ar7
  refine lv_aload_n hx hb dX11_council_5 rfl (lv_at hl 0 rfl) ?_
  refine call_i (run_V (rm := { frames := 3, cells := 0, slots := 0, locals := 63 }) hx hb hml hown hts (k_X11_readsCouncil l g _ _ _ mo ar1 ar7 ar10 ar11 ar24 ar26 ar27 ar28 ar29 ar30 ar31 ar32 ar33 ar34 ar35 ar41 ar42 ar43 ar44 ar49 ar52 ar54 hm_mo hf3 hm_ar7 hf4) cV_X11_readsCouncil wg_1529 ⟨Nat.le_of_ble_eq_true rfl, Nat.le_of_ble_eq_true rfl⟩ hG hE hA hP hD hS hm_mo hf3 rfl rfl hl.1 (As := []) (rest := []) rfl (Nat.le_of_ble_eq_true rfl) dX11_council_6 ⟨Nat.le_of_ble_eq_true rfl, Nat.le_of_ble_eq_true rfl⟩) hA hD hS (fun r5 L6 f7 H locs hp8 hP hD hS => ?_)
  obtain ⟨r9, hf10, hf11, er12, fr13, sb14⟩ := hp8
  have hm15 := sb14 _ hm_mo
  have hm16 := sb14 _ hm_ar7
  subst er12
  refine lv_iconst (v := (-1)) hx hb dX11_council_9 (by decide) ?_
  refine lv_icmp_eq (tgt := 15) hx hb dX11_council_10 (by decide) (fun c17 => absurd c17 (by decide)) (fun c17 => ?_)
  refine lv_iconst (v := (-1)) hx hb dX11_council_13 (by decide) ?_
  exact ret_i (ty := .int) hx hb hr hlocks (rfl) hP hD hS (Nat.le_of_ble_eq_true rfl) (Nat.le_of_ble_eq_true rfl) (rfl) dX11_council_14

set_option maxHeartbeats 4000000 in
set_option maxRecDepth 100000 in
theorem k_X11_plan (l : Launch) (g : GG) (L : List Nat) (f : HP) (sz : Nat) (mo ar1 ar7 ar10 ar11 ar24 ar26 ar27 ar28 ar29 ar30 ar31 ar32 ar33 ar34 ar35 ar41 ar42 ar43 ar44 ar49 ar52 ar54 : Nat) (hm_mo : mo ∈ L) (hf_mo : f mo = .inr (10, [.int 0, .ref ar1, .int 0, .int 0, .int 0, .int 0, .int 0, .ref ar7, .int 0, .int 0, .ref ar10, .ref ar11, .int 0, .int 0, .int 0, .int 0, .int 0, .int 0, .int 0, .int 0, .int 0, .long 0, .long 0, .int 0, .ref ar24, .int 0, .ref ar26, .ref ar27, .ref ar28, .ref ar29, .ref ar30, .ref ar31, .ref ar32, .ref ar33, .ref ar34, .ref ar35, .int 0, .int 0, .int 0, .int 0, .int 0, .ref ar41, .ref ar42, .ref ar43, .ref ar44, .long 0, .long 0, .int 0, .int 0, .ref ar49, .int 0, .int 0, .ref ar52, .int 0, .ref ar54, .int 0])) (hm_ar11 : ar11 ∈ L) (hf_ar11 : f ar11 = .inl (g.2.1 0, 100, .inl (fun _ => 0))) : MtI l g yX11_plan cX11_plan 2 (some .int) ({ frames := 5, cells := 0, slots := 0, locals := 105 }) [.ref mo] L f sz (fun r _ => r = (-1)) := by
  refine MtI.of (by decide +kernel) (Nat.le_of_ble_eq_true rfl) ?_
  intro p e s m below meth c A hEn hP hD hS ls hl
  obtain ⟨hx, hb, hr, hml, hown, hlocks, hts, hG, hA, hE, hnm⟩ := hEn
  have hown : s.vm.findClass "RulerWordModel" = some m.cls := hown
  have hl : lv_has ls 2 [(0, .ref mo)] := hl
  refine lv_aload_n hx hb dX11_plan_0 rfl (lv_at hl 0 rfl) ?_
  refine lv_iconst (v := 0) hx hb dX11_plan_1 (by decide) ?_
  refine pl_put (ty := .int) (v := .int 0) (fs' := [.int 0, .ref ar1, .int 0, .int 0, .int 0, .int 0, .int 0, .ref ar7, .int 0, .int 0, .ref ar10, .ref ar11, .int 0, .int 0, .int 0, .int 0, .int 0, .int 0, .int 0, .int 0, .int 0, .long 0, .long 0, .int 0, .ref ar24, .int 0, .ref ar26, .ref ar27, .ref ar28, .ref ar29, .ref ar30, .ref ar31, .ref ar32, .ref ar33, .ref ar34, .ref ar35, .int 0, .int 0, .int 0, .int 0, .int 0, .ref ar41, .ref ar42, .ref ar43, .ref ar44, .long 0, .long 0, .int 0, .int 0, .ref ar49, .int 0, .int 0, .ref ar52, .int 0, .ref ar54, .int 0]) hx hb hts (fun w h => mT (inX11 w h)) tyX11 tyX11_ok nmX11 hown hG.1 hP hD hS hm_mo hf_mo rfl 0 (by decide) (hts _ (mT wg_1336)) (fun _ h => h) rfl (by decide +kernel) (rfl) (rfl) (Nat.le_of_ble_eq_true rfl) rfl dX11_plan_2 (fun H locs f1 hf3 ho2 hP hD hS => ?_)
  have hf4 := (ho2 ar11 (kno hf_mo hf_ar11).symm).trans hf_ar11
  refine lv_aload_n hx hb dX11_plan_5 rfl (lv_at hl 0 rfl) ?_
  refine call_i (run_V (rm := { frames := 4, cells := 0, slots := 0, locals := 85 }) hx hb hml hown hts (k_X11_readsPlan l g _ _ _ mo ar1 ar7 ar10 ar11 ar24 ar26 ar27 ar28 ar29 ar30 ar31 ar32 ar33 ar34 ar35 ar41 ar42 ar43 ar44 ar49 ar52 ar54 hm_mo hf3 hm_ar11 hf4) cV_X11_readsPlan wg_1596 ⟨Nat.le_of_ble_eq_true rfl, Nat.le_of_ble_eq_true rfl⟩ hG hE hA hP hD hS hm_mo hf3 rfl rfl hl.1 (As := []) (rest := []) rfl (Nat.le_of_ble_eq_true rfl) dX11_plan_6 ⟨Nat.le_of_ble_eq_true rfl, Nat.le_of_ble_eq_true rfl⟩) hA hD hS (fun r5 L6 f7 H locs hp8 hP hD hS => ?_)
  obtain ⟨r9, hf10, hf11, er12, fr13, sb14⟩ := hp8
  have hm15 := sb14 _ hm_mo
  have hm16 := sb14 _ hm_ar11
  subst er12
  refine lv_iconst (v := (-1)) hx hb dX11_plan_9 (by decide) ?_
  refine lv_icmp_eq (tgt := 15) hx hb dX11_plan_10 (by decide) (fun c17 => absurd c17 (by decide)) (fun c17 => ?_)
  refine lv_iconst (v := (-1)) hx hb dX11_plan_13 (by decide) ?_
  exact ret_i (ty := .int) hx hb hr hlocks (rfl) hP hD hS (Nat.le_of_ble_eq_true rfl) (Nat.le_of_ble_eq_true rfl) (rfl) dX11_plan_14

set_option maxHeartbeats 4000000 in
set_option maxRecDepth 100000 in
theorem k_X11_rule (l : Launch) (g : GG) (L : List Nat) (f : HP) (sz : Nat) (mo ar1 ar7 ar10 ar11 ar24 ar26 ar27 ar28 ar29 ar30 ar31 ar32 ar33 ar34 ar35 ar41 ar42 ar43 ar44 ar49 ar52 ar54 : Nat) (w : Int32) (hm_mo : mo ∈ L) (hf_mo : f mo = .inr (10, [.int 0, .ref ar1, .int 0, .int 0, .int 0, .int 0, .int 0, .ref ar7, .int 0, .int 0, .ref ar10, .ref ar11, .int 0, .int 0, .int 0, .int 0, .int 0, .int 0, .int 0, .int 0, .int 0, .long 0, .long 0, .int 0, .ref ar24, .int 0, .ref ar26, .ref ar27, .ref ar28, .ref ar29, .ref ar30, .ref ar31, .ref ar32, .ref ar33, .ref ar34, .ref ar35, .int 0, .int 0, .int 0, .int 0, .int 0, .ref ar41, .ref ar42, .ref ar43, .ref ar44, .long 0, .long 0, .int 0, .int 0, .ref ar49, .int 0, .int 0, .ref ar52, .int 0, .ref ar54, .int 0])) : MtI l g yX11_rule cX11_rule 2 (some .int) ({ frames := 0, cells := 0, slots := 0, locals := 0 }) [.ref mo, .int w] L f sz (fun r _ => r = ruleV w) := by
  refine MtI.of (by decide +kernel) (Nat.le_of_ble_eq_true rfl) ?_
  intro p e s m below meth c A hEn hP hD hS ls hl
  obtain ⟨hx, hb, hr, hml, hown, hlocks, hts, hG, hA, hE, hnm⟩ := hEn
  have hown : s.vm.findClass "RulerWordModel" = some m.cls := hown
  have hl : lv_has ls 2 [(0, .ref mo), (1, .int w)] := hl
  refine lv_aload_n hx hb dX11_rule_0 rfl (lv_at hl 0 rfl) ?_
  refine lv_iconst (v := 0) hx hb dX11_rule_1 (by decide) ?_
  refine pl_put (ty := .int) (v := .int 0) (fs' := [.int 0, .ref ar1, .int 0, .int 0, .int 0, .int 0, .int 0, .ref ar7, .int 0, .int 0, .ref ar10, .ref ar11, .int 0, .int 0, .int 0, .int 0, .int 0, .int 0, .int 0, .int 0, .int 0, .long 0, .long 0, .int 0, .ref ar24, .int 0, .ref ar26, .ref ar27, .ref ar28, .ref ar29, .ref ar30, .ref ar31, .ref ar32, .ref ar33, .ref ar34, .ref ar35, .int 0, .int 0, .int 0, .int 0, .int 0, .ref ar41, .ref ar42, .ref ar43, .ref ar44, .long 0, .long 0, .int 0, .int 0, .ref ar49, .int 0, .int 0, .ref ar52, .int 0, .ref ar54, .int 0]) hx hb hts (fun w h => mT (inX11 w h)) tyX11 tyX11_ok nmX11 hown hG.1 hP hD hS hm_mo hf_mo rfl 0 (by decide) (hts _ (mT wg_1336)) (fun _ h => h) rfl (by decide +kernel) (rfl) (rfl) (Nat.le_of_ble_eq_true rfl) rfl dX11_rule_2 (fun H locs f1 hf3 ho2 hP hD hS => ?_)
  refine lv_iload_n hx hb dX11_rule_5 rfl (lv_at hl 1 rfl) ?_
  refine lv_bipush (v := 10) hx hb dX11_rule_6 (by decide) ?_
  refine lv_icmp_ne (tgt := 16) hx hb dX11_rule_8 (by decide) (fun c4 => ?_) (fun c4 => ?_)
  ·
    refine lv_aload_n hx hb dX11_rule_16 rfl (lv_at hl 0 rfl) ?_
    refine pl_get (v := .int 0) hx hb hts (fun w h => mT (inX11 w h)) hown hG.1 hP hm_mo hf3 rfl 23 (by decide) (hts _ (mT wg_1359)) (fun _ h => h) rfl dX11_rule_17 ?_
    refine lv_if_ne (tgt := 27) hx hb dX11_rule_20 (by decide) (fun c5 => absurd rfl c5) (fun c5 => ?_)
    refine lv_ldcw hx hb hown (hts _ (mT wg_1756)) dX11_rule_23 ?_
    exact ret_i (ty := .int) hx hb hr hlocks (rfl) hP hD hS (Nat.le_of_ble_eq_true rfl) (Nat.le_of_ble_eq_true rfl) (by simp [ruleV, c4]) dX11_rule_26
  ·
    refine lv_aload_n hx hb dX11_rule_11 rfl (lv_at hl 0 rfl) ?_
    refine pl_get (v := .int 0) hx hb hts (fun w h => mT (inX11 w h)) hown hG.1 hP hm_mo hf3 rfl 12 (by decide) (hts _ (mT wg_1348)) (fun _ h => h) rfl dX11_rule_12 ?_
    exact ret_i (ty := .int) hx hb hr hlocks (rfl) hP hD hS (Nat.le_of_ble_eq_true rfl) (Nat.le_of_ble_eq_true rfl) (by simp [ruleV, c4]) dX11_rule_15

set_option maxHeartbeats 4000000 in
set_option maxRecDepth 100000 in
theorem k_X11_round (l : Launch) (g : GG) (L : List Nat) (f : HP) (sz : Nat) (mo ar1 ar7 ar10 ar11 ar24 ar26 ar27 ar28 ar29 ar30 ar31 ar32 ar33 ar34 ar35 ar41 ar42 ar43 ar44 ar49 ar52 ar54 : Nat) (hm_mo : mo ∈ L) (hf_mo : f mo = .inr (10, [.int 0, .ref ar1, .int 0, .int 0, .int 0, .int 0, .int 0, .ref ar7, .int 0, .int 0, .ref ar10, .ref ar11, .int 0, .int 0, .int 0, .int 0, .int 0, .int 0, .int 0, .int 0, .int 0, .long 0, .long 0, .int 0, .ref ar24, .int 0, .ref ar26, .ref ar27, .ref ar28, .ref ar29, .ref ar30, .ref ar31, .ref ar32, .ref ar33, .ref ar34, .ref ar35, .int 0, .int 0, .int 0, .int 0, .int 0, .ref ar41, .ref ar42, .ref ar43, .ref ar44, .long 0, .long 0, .int 0, .int 0, .ref ar49, .int 0, .int 0, .ref ar52, .int 0, .ref ar54, .int 0])) : MtI l g yX11_round cX11_round 1 (some .int) ({ frames := 0, cells := 0, slots := 0, locals := 0 }) [.ref mo] L f sz (fun r _ => r = (-1)) := by
  refine MtI.of (by decide +kernel) (Nat.le_of_ble_eq_true rfl) ?_
  intro p e s m below meth c A hEn hP hD hS ls hl
  obtain ⟨hx, hb, hr, hml, hown, hlocks, hts, hG, hA, hE, hnm⟩ := hEn
  have hown : s.vm.findClass "RulerWordModel" = some m.cls := hown
  have hl : lv_has ls 1 [(0, .ref mo)] := hl
  refine lv_aload_n hx hb dX11_round_0 rfl (lv_at hl 0 rfl) ?_
  refine lv_iconst (v := 0) hx hb dX11_round_1 (by decide) ?_
  refine pl_put (ty := .int) (v := .int 0) (fs' := [.int 0, .ref ar1, .int 0, .int 0, .int 0, .int 0, .int 0, .ref ar7, .int 0, .int 0, .ref ar10, .ref ar11, .int 0, .int 0, .int 0, .int 0, .int 0, .int 0, .int 0, .int 0, .int 0, .long 0, .long 0, .int 0, .ref ar24, .int 0, .ref ar26, .ref ar27, .ref ar28, .ref ar29, .ref ar30, .ref ar31, .ref ar32, .ref ar33, .ref ar34, .ref ar35, .int 0, .int 0, .int 0, .int 0, .int 0, .ref ar41, .ref ar42, .ref ar43, .ref ar44, .long 0, .long 0, .int 0, .int 0, .ref ar49, .int 0, .int 0, .ref ar52, .int 0, .ref ar54, .int 0]) hx hb hts (fun w h => mT (inX11 w h)) tyX11 tyX11_ok nmX11 hown hG.1 hP hD hS hm_mo hf_mo rfl 0 (by decide) (hts _ (mT wg_1336)) (fun _ h => h) rfl (by decide +kernel) (rfl) (rfl) (Nat.le_of_ble_eq_true rfl) rfl dX11_round_2 (fun H locs f1 hf3 ho2 hP hD hS => ?_)
  refine lv_aload_n hx hb dX11_round_5 rfl (lv_at hl 0 rfl) ?_
  refine pl_get (v := .int 0) hx hb hts (fun w h => mT (inX11 w h)) hown hG.1 hP hm_mo hf3 rfl 23 (by decide) (hts _ (mT wg_1359)) (fun _ h => h) rfl dX11_round_6 ?_
  refine lv_if_eq (tgt := 26) hx hb dX11_round_9 (by decide) (fun c4 => ?_) (fun c4 => absurd (by decide) c4)
  refine lv_iconst (v := (-1)) hx hb dX11_round_26 (by decide) ?_
  exact ret_i (ty := .int) hx hb hr hlocks (rfl) hP hD hS (Nat.le_of_ble_eq_true rfl) (Nat.le_of_ble_eq_true rfl) (rfl) dX11_round_27

set_option maxHeartbeats 4000000 in
set_option maxRecDepth 100000 in
theorem k_X11_run (l : Launch) (g : GG) (L : List Nat) (f : HP) (sz : Nat) (mo ar1 ar7 ar10 ar11 ar24 ar26 ar27 ar28 ar29 ar30 ar31 ar32 ar33 ar34 ar35 ar41 ar42 ar43 ar44 ar49 ar52 ar54 : Nat) (hm_mo : mo ∈ L) (hf_mo : f mo = .inr (10, [.int 0, .ref ar1, .int 0, .int 0, .int 0, .int 0, .int 0, .ref ar7, .int 0, .int 0, .ref ar10, .ref ar11, .int 0, .int 0, .int 0, .int 0, .int 0, .int 0, .int 0, .int 0, .int 0, .long 0, .long 0, .int 0, .ref ar24, .int 0, .ref ar26, .ref ar27, .ref ar28, .ref ar29, .ref ar30, .ref ar31, .ref ar32, .ref ar33, .ref ar34, .ref ar35, .int 0, .int 0, .int 0, .int 0, .int 0, .ref ar41, .ref ar42, .ref ar43, .ref ar44, .long 0, .long 0, .int 0, .int 0, .ref ar49, .int 0, .int 0, .ref ar52, .int 0, .ref ar54, .int 0])) : MtI l g yX11_run cX11_run 3 (some .int) ({ frames := 0, cells := 0, slots := 0, locals := 0 }) [.ref mo] L f sz (fun r _ => r = (-1)) := by
  refine MtI.of (by decide +kernel) (Nat.le_of_ble_eq_true rfl) ?_
  intro p e s m below meth c A hEn hP hD hS ls hl
  obtain ⟨hx, hb, hr, hml, hown, hlocks, hts, hG, hA, hE, hnm⟩ := hEn
  have hown : s.vm.findClass "RulerWordModel" = some m.cls := hown
  have hl : lv_has ls 3 [(0, .ref mo)] := hl
  refine lv_aload_n hx hb dX11_run_0 rfl (lv_at hl 0 rfl) ?_
  refine lv_iconst (v := 0) hx hb dX11_run_1 (by decide) ?_
  refine pl_put (ty := .int) (v := .int 0) (fs' := [.int 0, .ref ar1, .int 0, .int 0, .int 0, .int 0, .int 0, .ref ar7, .int 0, .int 0, .ref ar10, .ref ar11, .int 0, .int 0, .int 0, .int 0, .int 0, .int 0, .int 0, .int 0, .int 0, .long 0, .long 0, .int 0, .ref ar24, .int 0, .ref ar26, .ref ar27, .ref ar28, .ref ar29, .ref ar30, .ref ar31, .ref ar32, .ref ar33, .ref ar34, .ref ar35, .int 0, .int 0, .int 0, .int 0, .int 0, .ref ar41, .ref ar42, .ref ar43, .ref ar44, .long 0, .long 0, .int 0, .int 0, .ref ar49, .int 0, .int 0, .ref ar52, .int 0, .ref ar54, .int 0]) hx hb hts (fun w h => mT (inX11 w h)) tyX11 tyX11_ok nmX11 hown hG.1 hP hD hS hm_mo hf_mo rfl 0 (by decide) (hts _ (mT wg_1336)) (fun _ h => h) rfl (by decide +kernel) (rfl) (rfl) (Nat.le_of_ble_eq_true rfl) rfl dX11_run_2 (fun H locs f1 hf3 ho2 hP hD hS => ?_)
  refine lv_aload_n hx hb dX11_run_5 rfl (lv_at hl 0 rfl) ?_
  refine pl_get (v := .int 0) hx hb hts (fun w h => mT (inX11 w h)) hown hG.1 hP hm_mo hf3 rfl 23 (by decide) (hts _ (mT wg_1359)) (fun _ h => h) rfl dX11_run_6 ?_
  refine lv_if_eq (tgt := 26) hx hb dX11_run_9 (by decide) (fun c4 => ?_) (fun c4 => absurd (by decide) c4)
  refine lv_iconst (v := (-1)) hx hb dX11_run_26 (by decide) ?_
  exact ret_i (ty := .int) hx hb hr hlocks (rfl) hP hD hS (Nat.le_of_ble_eq_true rfl) (Nat.le_of_ble_eq_true rfl) (rfl) dX11_run_27

set_option maxHeartbeats 4000000 in
set_option maxRecDepth 100000 in
theorem k_X11_say (l : Launch) (g : GG) (L : List Nat) (f : HP) (sz : Nat) (mo ar1 ar7 ar10 ar11 ar24 ar26 ar27 ar28 ar29 ar30 ar31 ar32 ar33 ar34 ar35 ar41 ar42 ar43 ar44 ar49 ar52 ar54 : Nat) (a1 : Int32) (a2 : Int32) (a3 : Int32) (a4 : Int32) (a5 : Int32) (hm_mo : mo ∈ L) (hf_mo : f mo = .inr (10, [.int 0, .ref ar1, .int 0, .int 0, .int 0, .int 0, .int 0, .ref ar7, .int 0, .int 0, .ref ar10, .ref ar11, .int 0, .int 0, .int 0, .int 0, .int 0, .int 0, .int 0, .int 0, .int 0, .long 0, .long 0, .int 0, .ref ar24, .int 0, .ref ar26, .ref ar27, .ref ar28, .ref ar29, .ref ar30, .ref ar31, .ref ar32, .ref ar33, .ref ar34, .ref ar35, .int 0, .int 0, .int 0, .int 0, .int 0, .ref ar41, .ref ar42, .ref ar43, .ref ar44, .long 0, .long 0, .int 0, .int 0, .ref ar49, .int 0, .int 0, .ref ar52, .int 0, .ref ar54, .int 0])) (hm_ar49 : ar49 ∈ L) (hf_ar49 : f ar49 = .inl (g.2.1 0, 5, .inl (fun _ => 0))) : MtI l g yX11_say cX11_say 7 (some .int) ({ frames := 1, cells := 0, slots := 0, locals := 21 }) [.ref mo, .int a1, .int a2, .int a3, .int a4, .int a5] L f sz (fun r _ => r = (-1)) := by
  refine MtI.of (by decide +kernel) (Nat.le_of_ble_eq_true rfl) ?_
  intro p e s m below meth c A hEn hP hD hS ls hl
  obtain ⟨hx, hb, hr, hml, hown, hlocks, hts, hG, hA, hE, hnm⟩ := hEn
  have hown : s.vm.findClass "RulerWordModel" = some m.cls := hown
  have hl : lv_has ls 7 [(0, .ref mo), (1, .int a1), (2, .int a2), (3, .int a3), (4, .int a4), (5, .int a5)] := hl
  refine lv_aload_n hx hb dX11_say_0 rfl (lv_at hl 0 rfl) ?_
  refine lv_iconst (v := 0) hx hb dX11_say_1 (by decide) ?_
  refine pl_put (ty := .int) (v := .int 0) (fs' := [.int 0, .ref ar1, .int 0, .int 0, .int 0, .int 0, .int 0, .ref ar7, .int 0, .int 0, .ref ar10, .ref ar11, .int 0, .int 0, .int 0, .int 0, .int 0, .int 0, .int 0, .int 0, .int 0, .long 0, .long 0, .int 0, .ref ar24, .int 0, .ref ar26, .ref ar27, .ref ar28, .ref ar29, .ref ar30, .ref ar31, .ref ar32, .ref ar33, .ref ar34, .ref ar35, .int 0, .int 0, .int 0, .int 0, .int 0, .ref ar41, .ref ar42, .ref ar43, .ref ar44, .long 0, .long 0, .int 0, .int 0, .ref ar49, .int 0, .int 0, .ref ar52, .int 0, .ref ar54, .int 0]) hx hb hts (fun w h => mT (inX11 w h)) tyX11 tyX11_ok nmX11 hown hG.1 hP hD hS hm_mo hf_mo rfl 0 (by decide) (hts _ (mT wg_1336)) (fun _ h => h) rfl (by decide +kernel) (rfl) (rfl) (Nat.le_of_ble_eq_true rfl) rfl dX11_say_2 (fun H locs f1 hf3 ho2 hP hD hS => ?_)
  have hf4 := (ho2 ar49 (kno hf_mo hf_ar49).symm).trans hf_ar49
  refine lv_aload_n hx hb dX11_say_5 rfl (lv_at hl 0 rfl) ?_
  refine pl_get (v := .int 0) hx hb hts (fun w h => mT (inX11 w h)) hown hG.1 hP hm_mo hf3 rfl 23 (by decide) (hts _ (mT wg_1359)) (fun _ h => h) rfl dX11_say_6 ?_
  refine lv_if_ne (tgt := 18) hx hb dX11_say_9 (by decide) (fun c5 => absurd rfl c5) (fun c5 => ?_)
  refine lv_aload_n hx hb dX11_say_12 rfl (lv_at hl 0 rfl) ?_
  refine lv_iconst (v := 0) hx hb dX11_say_13 (by decide) ?_
  refine call_i (run_V (rm := { frames := 0, cells := 0, slots := 0, locals := 0 }) hx hb hml hown hts (k_X11_refuse l g _ _ _ mo ar1 ar7 ar10 ar11 ar24 ar26 ar27 ar28 ar29 ar30 ar31 ar32 ar33 ar34 ar35 ar41 ar42 ar43 ar44 ar49 ar52 ar54 hm_mo hf3 hm_ar49 hf4) cV_X11_refuse wg_1714 ⟨Nat.le_of_ble_eq_true rfl, Nat.le_of_ble_eq_true rfl⟩ hG hE hA hP hD hS hm_mo hf3 rfl rfl hl.1 (As := [.int 0]) (rest := []) rfl (Nat.le_of_ble_eq_true rfl) dX11_say_14 ⟨Nat.le_of_ble_eq_true rfl, Nat.le_of_ble_eq_true rfl⟩) hA hD hS (fun r6 L7 f8 H locs hp9 hP hD hS => ?_)
  obtain ⟨r10, hf11, er12, fr13, sb14⟩ := hp9
  have hf16 := (fr13 mo hm_mo (kno hf3 hf4)).trans hf3
  have hm15 := sb14 _ hm_mo
  have hm17 := sb14 _ hm_ar49
  subst er12
  exact ret_i (ty := .int) hx hb hr hlocks (rfl) hP hD hS (Nat.le_of_ble_eq_true rfl) (Nat.le_of_ble_eq_true rfl) (rfl) dX11_say_17

set_option maxHeartbeats 4000000 in
set_option maxRecDepth 100000 in
theorem k_X11_starts_ (l : Launch) (g : GG) (L : List Nat) (f : HP) (sz : Nat) (mo ar1 ar7 ar10 ar11 ar24 ar26 ar27 ar28 ar29 ar30 ar31 ar32 ar33 ar34 ar35 ar41 ar42 ar43 ar44 ar49 ar52 ar54 : Nat) (b : Int32) (hm_mo : mo ∈ L) (hf_mo : f mo = .inr (10, [.int 0, .ref ar1, .int 0, .int 0, .int 0, .int 0, .int 0, .ref ar7, .int 0, .int 0, .ref ar10, .ref ar11, .int 0, .int 0, .int 0, .int 0, .int 0, .int 0, .int 0, .int 0, .int 0, .long 0, .long 0, .int 0, .ref ar24, .int 0, .ref ar26, .ref ar27, .ref ar28, .ref ar29, .ref ar30, .ref ar31, .ref ar32, .ref ar33, .ref ar34, .ref ar35, .int 0, .int 0, .int 0, .int 0, .int 0, .ref ar41, .ref ar42, .ref ar43, .ref ar44, .long 0, .long 0, .int 0, .int 0, .ref ar49, .int 0, .int 0, .ref ar52, .int 0, .ref ar54, .int 0])) (hm_ar49 : ar49 ∈ L) (hf_ar49 : f ar49 = .inl (g.2.1 0, 5, .inl (fun _ => 0))) : MtI l g yX11_starts_ cX11_starts_ 3 (some .int) ({ frames := 1, cells := 0, slots := 0, locals := 21 }) [.ref mo, .int b] L f sz (fun r _ => r = (-1)) := by
  refine MtI.of (by decide +kernel) (Nat.le_of_ble_eq_true rfl) ?_
  intro p e s m below meth c A hEn hP hD hS ls hl
  obtain ⟨hx, hb, hr, hml, hown, hlocks, hts, hG, hA, hE, hnm⟩ := hEn
  have hown : s.vm.findClass "RulerWordModel" = some m.cls := hown
  have hl : lv_has ls 3 [(0, .ref mo), (1, .int b)] := hl
  refine lv_aload_n hx hb dX11_starts__0 rfl (lv_at hl 0 rfl) ?_
  refine lv_iconst (v := 0) hx hb dX11_starts__1 (by decide) ?_
  refine pl_put (ty := .int) (v := .int 0) (fs' := [.int 0, .ref ar1, .int 0, .int 0, .int 0, .int 0, .int 0, .ref ar7, .int 0, .int 0, .ref ar10, .ref ar11, .int 0, .int 0, .int 0, .int 0, .int 0, .int 0, .int 0, .int 0, .int 0, .long 0, .long 0, .int 0, .ref ar24, .int 0, .ref ar26, .ref ar27, .ref ar28, .ref ar29, .ref ar30, .ref ar31, .ref ar32, .ref ar33, .ref ar34, .ref ar35, .int 0, .int 0, .int 0, .int 0, .int 0, .ref ar41, .ref ar42, .ref ar43, .ref ar44, .long 0, .long 0, .int 0, .int 0, .ref ar49, .int 0, .int 0, .ref ar52, .int 0, .ref ar54, .int 0]) hx hb hts (fun w h => mT (inX11 w h)) tyX11 tyX11_ok nmX11 hown hG.1 hP hD hS hm_mo hf_mo rfl 0 (by decide) (hts _ (mT wg_1336)) (fun _ h => h) rfl (by decide +kernel) (rfl) (rfl) (Nat.le_of_ble_eq_true rfl) rfl dX11_starts__2 (fun H locs f1 hf3 ho2 hP hD hS => ?_)
  have hf4 := (ho2 ar49 (kno hf_mo hf_ar49).symm).trans hf_ar49
  refine lv_aload_n hx hb dX11_starts__5 rfl (lv_at hl 0 rfl) ?_
  refine pl_get (v := .int 0) hx hb hts (fun w h => mT (inX11 w h)) hown hG.1 hP hm_mo hf3 rfl 23 (by decide) (hts _ (mT wg_1359)) (fun _ h => h) rfl dX11_starts__6 ?_
  refine lv_if_ne (tgt := 18) hx hb dX11_starts__9 (by decide) (fun c5 => absurd rfl c5) (fun c5 => ?_)
  refine lv_aload_n hx hb dX11_starts__12 rfl (lv_at hl 0 rfl) ?_
  refine lv_iconst (v := 0) hx hb dX11_starts__13 (by decide) ?_
  refine call_i (run_V (rm := { frames := 0, cells := 0, slots := 0, locals := 0 }) hx hb hml hown hts (k_X11_refuse l g _ _ _ mo ar1 ar7 ar10 ar11 ar24 ar26 ar27 ar28 ar29 ar30 ar31 ar32 ar33 ar34 ar35 ar41 ar42 ar43 ar44 ar49 ar52 ar54 hm_mo hf3 hm_ar49 hf4) cV_X11_refuse wg_1714 ⟨Nat.le_of_ble_eq_true rfl, Nat.le_of_ble_eq_true rfl⟩ hG hE hA hP hD hS hm_mo hf3 rfl rfl hl.1 (As := [.int 0]) (rest := []) rfl (Nat.le_of_ble_eq_true rfl) dX11_starts__14 ⟨Nat.le_of_ble_eq_true rfl, Nat.le_of_ble_eq_true rfl⟩) hA hD hS (fun r6 L7 f8 H locs hp9 hP hD hS => ?_)
  obtain ⟨r10, hf11, er12, fr13, sb14⟩ := hp9
  have hf16 := (fr13 mo hm_mo (kno hf3 hf4)).trans hf3
  have hm15 := sb14 _ hm_mo
  have hm17 := sb14 _ hm_ar49
  subst er12
  exact ret_i (ty := .int) hx hb hr hlocks (rfl) hP hD hS (Nat.le_of_ble_eq_true rfl) (Nat.le_of_ble_eq_true rfl) (rfl) dX11_starts__17

set_option maxHeartbeats 4000000 in
set_option maxRecDepth 100000 in
theorem k_X11_falseOnes (l : Launch) (g : GG) (L : List Nat) (f : HP) (sz : Nat) (mo ar1 ar7 ar10 ar11 ar24 ar26 ar27 ar28 ar29 ar30 ar31 ar32 ar33 ar34 ar35 ar41 ar42 ar43 ar44 ar49 ar52 ar54 : Nat) (b : Int32) (hm_mo : mo ∈ L) (hf_mo : f mo = .inr (10, [.int 0, .ref ar1, .int 0, .int 0, .int 0, .int 0, .int 0, .ref ar7, .int 0, .int 0, .ref ar10, .ref ar11, .int 0, .int 0, .int 0, .int 0, .int 0, .int 0, .int 0, .int 0, .int 0, .long 0, .long 0, .int 0, .ref ar24, .int 0, .ref ar26, .ref ar27, .ref ar28, .ref ar29, .ref ar30, .ref ar31, .ref ar32, .ref ar33, .ref ar34, .ref ar35, .int 0, .int 0, .int 0, .int 0, .int 0, .ref ar41, .ref ar42, .ref ar43, .ref ar44, .long 0, .long 0, .int 0, .int 0, .ref ar49, .int 0, .int 0, .ref ar52, .int 0, .ref ar54, .int 0])) (hm_ar49 : ar49 ∈ L) (hf_ar49 : f ar49 = .inl (g.2.1 0, 5, .inl (fun _ => 0))) : MtI l g yX11_falseOnes cX11_falseOnes 6 (some .int) ({ frames := 1, cells := 0, slots := 0, locals := 21 }) [.ref mo, .int b] L f sz (fun r _ => r = (-1)) := by
  refine MtI.of (by decide +kernel) (Nat.le_of_ble_eq_true rfl) ?_
  intro p e s m below meth c A hEn hP hD hS ls hl
  obtain ⟨hx, hb, hr, hml, hown, hlocks, hts, hG, hA, hE, hnm⟩ := hEn
  have hown : s.vm.findClass "RulerWordModel" = some m.cls := hown
  have hl : lv_has ls 6 [(0, .ref mo), (1, .int b)] := hl
  refine lv_aload_n hx hb dX11_falseOnes_0 rfl (lv_at hl 0 rfl) ?_
  refine lv_iconst (v := 0) hx hb dX11_falseOnes_1 (by decide) ?_
  refine pl_put (ty := .int) (v := .int 0) (fs' := [.int 0, .ref ar1, .int 0, .int 0, .int 0, .int 0, .int 0, .ref ar7, .int 0, .int 0, .ref ar10, .ref ar11, .int 0, .int 0, .int 0, .int 0, .int 0, .int 0, .int 0, .int 0, .int 0, .long 0, .long 0, .int 0, .ref ar24, .int 0, .ref ar26, .ref ar27, .ref ar28, .ref ar29, .ref ar30, .ref ar31, .ref ar32, .ref ar33, .ref ar34, .ref ar35, .int 0, .int 0, .int 0, .int 0, .int 0, .ref ar41, .ref ar42, .ref ar43, .ref ar44, .long 0, .long 0, .int 0, .int 0, .ref ar49, .int 0, .int 0, .ref ar52, .int 0, .ref ar54, .int 0]) hx hb hts (fun w h => mT (inX11 w h)) tyX11 tyX11_ok nmX11 hown hG.1 hP hD hS hm_mo hf_mo rfl 0 (by decide) (hts _ (mT wg_1336)) (fun _ h => h) rfl (by decide +kernel) (rfl) (rfl) (Nat.le_of_ble_eq_true rfl) rfl dX11_falseOnes_2 (fun H locs f1 hf3 ho2 hP hD hS => ?_)
  have hf4 := (ho2 ar49 (kno hf_mo hf_ar49).symm).trans hf_ar49
  refine lv_aload_n hx hb dX11_falseOnes_5 rfl (lv_at hl 0 rfl) ?_
  refine pl_get (v := .int 0) hx hb hts (fun w h => mT (inX11 w h)) hown hG.1 hP hm_mo hf3 rfl 23 (by decide) (hts _ (mT wg_1359)) (fun _ h => h) rfl dX11_falseOnes_6 ?_
  refine lv_if_ne (tgt := 18) hx hb dX11_falseOnes_9 (by decide) (fun c5 => absurd rfl c5) (fun c5 => ?_)
  refine lv_aload_n hx hb dX11_falseOnes_12 rfl (lv_at hl 0 rfl) ?_
  refine lv_iconst (v := 0) hx hb dX11_falseOnes_13 (by decide) ?_
  refine call_i (run_V (rm := { frames := 0, cells := 0, slots := 0, locals := 0 }) hx hb hml hown hts (k_X11_refuse l g _ _ _ mo ar1 ar7 ar10 ar11 ar24 ar26 ar27 ar28 ar29 ar30 ar31 ar32 ar33 ar34 ar35 ar41 ar42 ar43 ar44 ar49 ar52 ar54 hm_mo hf3 hm_ar49 hf4) cV_X11_refuse wg_1714 ⟨Nat.le_of_ble_eq_true rfl, Nat.le_of_ble_eq_true rfl⟩ hG hE hA hP hD hS hm_mo hf3 rfl rfl hl.1 (As := [.int 0]) (rest := []) rfl (Nat.le_of_ble_eq_true rfl) dX11_falseOnes_14 ⟨Nat.le_of_ble_eq_true rfl, Nat.le_of_ble_eq_true rfl⟩) hA hD hS (fun r6 L7 f8 H locs hp9 hP hD hS => ?_)
  obtain ⟨r10, hf11, er12, fr13, sb14⟩ := hp9
  have hf16 := (fr13 mo hm_mo (kno hf3 hf4)).trans hf3
  have hm15 := sb14 _ hm_mo
  have hm17 := sb14 _ hm_ar49
  subst er12
  exact ret_i (ty := .int) hx hb hr hlocks (rfl) hP hD hS (Nat.le_of_ble_eq_true rfl) (Nat.le_of_ble_eq_true rfl) (rfl) dX11_falseOnes_17

set_option maxHeartbeats 4000000 in
set_option maxRecDepth 100000 in
theorem k_X11_heard (l : Launch) (g : GG) (L : List Nat) (f : HP) (sz : Nat) (mo ar1 ar7 ar10 ar11 ar24 ar26 ar27 ar28 ar29 ar30 ar31 ar32 ar33 ar34 ar35 ar41 ar42 ar43 ar44 ar49 ar52 ar54 : Nat) (a1 : Int32) (a2 : Int32) (a3 : Int32) (a4 : Int32) (hm_mo : mo ∈ L) (hf_mo : f mo = .inr (10, [.int 0, .ref ar1, .int 0, .int 0, .int 0, .int 0, .int 0, .ref ar7, .int 0, .int 0, .ref ar10, .ref ar11, .int 0, .int 0, .int 0, .int 0, .int 0, .int 0, .int 0, .int 0, .int 0, .long 0, .long 0, .int 0, .ref ar24, .int 0, .ref ar26, .ref ar27, .ref ar28, .ref ar29, .ref ar30, .ref ar31, .ref ar32, .ref ar33, .ref ar34, .ref ar35, .int 0, .int 0, .int 0, .int 0, .int 0, .ref ar41, .ref ar42, .ref ar43, .ref ar44, .long 0, .long 0, .int 0, .int 0, .ref ar49, .int 0, .int 0, .ref ar52, .int 0, .ref ar54, .int 0])) : MtI l g yX11_heard cX11_heard 5 (some .int) ({ frames := 1, cells := 0, slots := 0, locals := 22 }) [.ref mo, .int a1, .int a2, .int a3, .int a4] L f sz (fun r _ => r = (-1)) := by
  refine MtI.of (by decide +kernel) (Nat.le_of_ble_eq_true rfl) ?_
  intro p e s m below meth c A hEn hP hD hS ls hl
  obtain ⟨hx, hb, hr, hml, hown, hlocks, hts, hG, hA, hE, hnm⟩ := hEn
  have hown : s.vm.findClass "RulerWordModel" = some m.cls := hown
  have hl : lv_has ls 5 [(0, .ref mo), (1, .int a1), (2, .int a2), (3, .int a3), (4, .int a4)] := hl
  refine lv_aload_n hx hb dX11_heard_0 rfl (lv_at hl 0 rfl) ?_
  refine lv_iconst (v := 0) hx hb dX11_heard_1 (by decide) ?_
  refine pl_put (ty := .int) (v := .int 0) (fs' := [.int 0, .ref ar1, .int 0, .int 0, .int 0, .int 0, .int 0, .ref ar7, .int 0, .int 0, .ref ar10, .ref ar11, .int 0, .int 0, .int 0, .int 0, .int 0, .int 0, .int 0, .int 0, .int 0, .long 0, .long 0, .int 0, .ref ar24, .int 0, .ref ar26, .ref ar27, .ref ar28, .ref ar29, .ref ar30, .ref ar31, .ref ar32, .ref ar33, .ref ar34, .ref ar35, .int 0, .int 0, .int 0, .int 0, .int 0, .ref ar41, .ref ar42, .ref ar43, .ref ar44, .long 0, .long 0, .int 0, .int 0, .ref ar49, .int 0, .int 0, .ref ar52, .int 0, .ref ar54, .int 0]) hx hb hts (fun w h => mT (inX11 w h)) tyX11 tyX11_ok nmX11 hown hG.1 hP hD hS hm_mo hf_mo rfl 0 (by decide) (hts _ (mT wg_1336)) (fun _ h => h) rfl (by decide +kernel) (rfl) (rfl) (Nat.le_of_ble_eq_true rfl) rfl dX11_heard_2 (fun H locs f1 hf3 ho2 hP hD hS => ?_)
  refine lv_aload_n hx hb dX11_heard_5 rfl (lv_at hl 0 rfl) ?_
  refine lv_iload_n hx hb dX11_heard_6 rfl (lv_at hl 1 rfl) ?_
  refine lv_iload_n hx hb dX11_heard_7 rfl (lv_at hl 2 rfl) ?_
  refine call_i (run_V (rm := { frames := 0, cells := 0, slots := 0, locals := 0 }) hx hb hml hown hts (k_X11_isRound l g _ _ _ mo ar1 ar7 ar10 ar11 ar24 ar26 ar27 ar28 ar29 ar30 ar31 ar32 ar33 ar34 ar35 ar41 ar42 ar43 ar44 ar49 ar52 ar54 a1 a2 hm_mo hf3) cV_X11_isRound wg_1718 ⟨Nat.le_of_ble_eq_true rfl, Nat.le_of_ble_eq_true rfl⟩ hG hE hA hP hD hS hm_mo hf3 rfl rfl hl.1 (As := [.int a1, .int a2]) (rest := []) rfl (Nat.le_of_ble_eq_true rfl) dX11_heard_8 ⟨Nat.le_of_ble_eq_true rfl, Nat.le_of_ble_eq_true rfl⟩) hA hD hS (fun r4 L5 f6 H locs hp7 hP hD hS => ?_)
  obtain ⟨er8, fr9, sb10⟩ := hp7
  have hf12 := (fr9 mo hm_mo ).trans hf3
  have hm11 := sb10 _ hm_mo
  subst er8
  refine lv_if_eq (tgt := 49) hx hb dX11_heard_11 (by decide) (fun c13 => ?_) (fun c13 => absurd (by decide) c13)
  refine lv_iconst (v := (-1)) hx hb dX11_heard_49 (by decide) ?_
  exact ret_i (ty := .int) hx hb hr hlocks (rfl) hP hD hS (Nat.le_of_ble_eq_true rfl) (Nat.le_of_ble_eq_true rfl) (rfl) dX11_heard_50

set_option maxHeartbeats 4000000 in
set_option maxRecDepth 100000 in
theorem k_X11_peer (l : Launch) (g : GG) (L : List Nat) (f : HP) (sz : Nat) (mo ar1 ar7 ar10 ar11 ar24 ar26 ar27 ar28 ar29 ar30 ar31 ar32 ar33 ar34 ar35 ar41 ar42 ar43 ar44 ar49 ar52 ar54 : Nat) (i : Int32) (w : Int32) (hm_mo : mo ∈ L) (hf_mo : f mo = .inr (10, [.int 0, .ref ar1, .int 0, .int 0, .int 0, .int 0, .int 0, .ref ar7, .int 0, .int 0, .ref ar10, .ref ar11, .int 0, .int 0, .int 0, .int 0, .int 0, .int 0, .int 0, .int 0, .int 0, .long 0, .long 0, .int 0, .ref ar24, .int 0, .ref ar26, .ref ar27, .ref ar28, .ref ar29, .ref ar30, .ref ar31, .ref ar32, .ref ar33, .ref ar34, .ref ar35, .int 0, .int 0, .int 0, .int 0, .int 0, .ref ar41, .ref ar42, .ref ar43, .ref ar44, .long 0, .long 0, .int 0, .int 0, .ref ar49, .int 0, .int 0, .ref ar52, .int 0, .ref ar54, .int 0])) : MtI l g yX11_peer cX11_peer 3 (some .int) ({ frames := 1, cells := 0, slots := 0, locals := 21 }) [.ref mo, .int i, .int w] L f sz (fun r _ => r = (-1)) := by
  refine MtI.of (by decide +kernel) (Nat.le_of_ble_eq_true rfl) ?_
  intro p e s m below meth c A hEn hP hD hS ls hl
  obtain ⟨hx, hb, hr, hml, hown, hlocks, hts, hG, hA, hE, hnm⟩ := hEn
  have hown : s.vm.findClass "RulerWordModel" = some m.cls := hown
  have hl : lv_has ls 3 [(0, .ref mo), (1, .int i), (2, .int w)] := hl
  refine lv_aload_n hx hb dX11_peer_0 rfl (lv_at hl 0 rfl) ?_
  refine lv_iconst (v := 0) hx hb dX11_peer_1 (by decide) ?_
  refine pl_put (ty := .int) (v := .int 0) (fs' := [.int 0, .ref ar1, .int 0, .int 0, .int 0, .int 0, .int 0, .ref ar7, .int 0, .int 0, .ref ar10, .ref ar11, .int 0, .int 0, .int 0, .int 0, .int 0, .int 0, .int 0, .int 0, .int 0, .long 0, .long 0, .int 0, .ref ar24, .int 0, .ref ar26, .ref ar27, .ref ar28, .ref ar29, .ref ar30, .ref ar31, .ref ar32, .ref ar33, .ref ar34, .ref ar35, .int 0, .int 0, .int 0, .int 0, .int 0, .ref ar41, .ref ar42, .ref ar43, .ref ar44, .long 0, .long 0, .int 0, .int 0, .ref ar49, .int 0, .int 0, .ref ar52, .int 0, .ref ar54, .int 0]) hx hb hts (fun w h => mT (inX11 w h)) tyX11 tyX11_ok nmX11 hown hG.1 hP hD hS hm_mo hf_mo rfl 0 (by decide) (hts _ (mT wg_1336)) (fun _ h => h) rfl (by decide +kernel) (rfl) (rfl) (Nat.le_of_ble_eq_true rfl) rfl dX11_peer_2 (fun H locs f1 hf3 ho2 hP hD hS => ?_)
  refine lv_aload_n hx hb dX11_peer_5 rfl (lv_at hl 0 rfl) ?_
  refine lv_iload_n hx hb dX11_peer_6 rfl (lv_at hl 1 rfl) ?_
  refine call_i (run_V (rm := { frames := 0, cells := 0, slots := 0, locals := 0 }) hx hb hml hown hts (k_X11_isPeer l g _ _ _ mo ar1 ar7 ar10 ar11 ar24 ar26 ar27 ar28 ar29 ar30 ar31 ar32 ar33 ar34 ar35 ar41 ar42 ar43 ar44 ar49 ar52 ar54 i hm_mo hf3) cV_X11_isPeer wg_1722 ⟨Nat.le_of_ble_eq_true rfl, Nat.le_of_ble_eq_true rfl⟩ hG hE hA hP hD hS hm_mo hf3 rfl rfl hl.1 (As := [.int i]) (rest := []) rfl (Nat.le_of_ble_eq_true rfl) dX11_peer_7 ⟨Nat.le_of_ble_eq_true rfl, Nat.le_of_ble_eq_true rfl⟩) hA hD hS (fun r4 L5 f6 H locs hp7 hP hD hS => ?_)
  obtain ⟨er8, fr9, sb10⟩ := hp7
  have hf12 := (fr9 mo hm_mo ).trans hf3
  have hm11 := sb10 _ hm_mo
  subst er8
  refine lv_if_ne (tgt := 15) hx hb dX11_peer_10 (by decide) (fun c13 => absurd rfl c13) (fun c13 => ?_)
  refine lv_iconst (v := (-1)) hx hb dX11_peer_13 (by decide) ?_
  exact ret_i (ty := .int) hx hb hr hlocks (rfl) hP hD hS (Nat.le_of_ble_eq_true rfl) (Nat.le_of_ble_eq_true rfl) (rfl) dX11_peer_14

set_option maxHeartbeats 4000000 in
set_option maxRecDepth 100000 in
theorem k_X11_told (l : Launch) (g : GG) (L : List Nat) (f : HP) (sz : Nat) (mo ar1 ar7 ar10 ar11 ar24 ar26 ar27 ar28 ar29 ar30 ar31 ar32 ar33 ar34 ar35 ar41 ar42 ar43 ar44 ar49 ar52 ar54 : Nat) (i : Int32) (p0 : Int32) (w : Int32) (hm_mo : mo ∈ L) (hf_mo : f mo = .inr (10, [.int 0, .ref ar1, .int 0, .int 0, .int 0, .int 0, .int 0, .ref ar7, .int 0, .int 0, .ref ar10, .ref ar11, .int 0, .int 0, .int 0, .int 0, .int 0, .int 0, .int 0, .int 0, .int 0, .long 0, .long 0, .int 0, .ref ar24, .int 0, .ref ar26, .ref ar27, .ref ar28, .ref ar29, .ref ar30, .ref ar31, .ref ar32, .ref ar33, .ref ar34, .ref ar35, .int 0, .int 0, .int 0, .int 0, .int 0, .ref ar41, .ref ar42, .ref ar43, .ref ar44, .long 0, .long 0, .int 0, .int 0, .ref ar49, .int 0, .int 0, .ref ar52, .int 0, .ref ar54, .int 0])) : MtI l g yX11_told cX11_told 4 (some .int) ({ frames := 1, cells := 0, slots := 0, locals := 21 }) [.ref mo, .int i, .int p0, .int w] L f sz (fun r _ => r = (-1)) := by
  refine MtI.of (by decide +kernel) (Nat.le_of_ble_eq_true rfl) ?_
  intro p e s m below meth c A hEn hP hD hS ls hl
  obtain ⟨hx, hb, hr, hml, hown, hlocks, hts, hG, hA, hE, hnm⟩ := hEn
  have hown : s.vm.findClass "RulerWordModel" = some m.cls := hown
  have hl : lv_has ls 4 [(0, .ref mo), (1, .int i), (2, .int p0), (3, .int w)] := hl
  refine lv_aload_n hx hb dX11_told_0 rfl (lv_at hl 0 rfl) ?_
  refine lv_iconst (v := 0) hx hb dX11_told_1 (by decide) ?_
  refine pl_put (ty := .int) (v := .int 0) (fs' := [.int 0, .ref ar1, .int 0, .int 0, .int 0, .int 0, .int 0, .ref ar7, .int 0, .int 0, .ref ar10, .ref ar11, .int 0, .int 0, .int 0, .int 0, .int 0, .int 0, .int 0, .int 0, .int 0, .long 0, .long 0, .int 0, .ref ar24, .int 0, .ref ar26, .ref ar27, .ref ar28, .ref ar29, .ref ar30, .ref ar31, .ref ar32, .ref ar33, .ref ar34, .ref ar35, .int 0, .int 0, .int 0, .int 0, .int 0, .ref ar41, .ref ar42, .ref ar43, .ref ar44, .long 0, .long 0, .int 0, .int 0, .ref ar49, .int 0, .int 0, .ref ar52, .int 0, .ref ar54, .int 0]) hx hb hts (fun w h => mT (inX11 w h)) tyX11 tyX11_ok nmX11 hown hG.1 hP hD hS hm_mo hf_mo rfl 0 (by decide) (hts _ (mT wg_1336)) (fun _ h => h) rfl (by decide +kernel) (rfl) (rfl) (Nat.le_of_ble_eq_true rfl) rfl dX11_told_2 (fun H locs f1 hf3 ho2 hP hD hS => ?_)
  refine lv_aload_n hx hb dX11_told_5 rfl (lv_at hl 0 rfl) ?_
  refine lv_iload_n hx hb dX11_told_6 rfl (lv_at hl 1 rfl) ?_
  refine call_i (run_V (rm := { frames := 0, cells := 0, slots := 0, locals := 0 }) hx hb hml hown hts (k_X11_isPeer l g _ _ _ mo ar1 ar7 ar10 ar11 ar24 ar26 ar27 ar28 ar29 ar30 ar31 ar32 ar33 ar34 ar35 ar41 ar42 ar43 ar44 ar49 ar52 ar54 i hm_mo hf3) cV_X11_isPeer wg_1722 ⟨Nat.le_of_ble_eq_true rfl, Nat.le_of_ble_eq_true rfl⟩ hG hE hA hP hD hS hm_mo hf3 rfl rfl hl.1 (As := [.int i]) (rest := []) rfl (Nat.le_of_ble_eq_true rfl) dX11_told_7 ⟨Nat.le_of_ble_eq_true rfl, Nat.le_of_ble_eq_true rfl⟩) hA hD hS (fun r4 L5 f6 H locs hp7 hP hD hS => ?_)
  obtain ⟨er8, fr9, sb10⟩ := hp7
  have hf12 := (fr9 mo hm_mo ).trans hf3
  have hm11 := sb10 _ hm_mo
  subst er8
  refine lv_if_eq (tgt := 56) hx hb dX11_told_10 (by decide) (fun c13 => ?_) (fun c13 => absurd (by decide) c13)
  refine lv_iconst (v := (-1)) hx hb dX11_told_56 (by decide) ?_
  exact ret_i (ty := .int) hx hb hr hlocks (rfl) hP hD hS (Nat.le_of_ble_eq_true rfl) (Nat.le_of_ble_eq_true rfl) (rfl) dX11_told_57

set_option maxHeartbeats 4000000 in
set_option maxRecDepth 100000 in
theorem k_X11_agreed (l : Launch) (g : GG) (L : List Nat) (f : HP) (sz : Nat) (mo ar1 ar7 ar10 ar11 ar24 ar26 ar27 ar28 ar29 ar30 ar31 ar32 ar33 ar34 ar35 ar41 ar42 ar43 ar44 ar49 ar52 ar54 : Nat) (hm_mo : mo ∈ L) (hf_mo : f mo = .inr (10, [.int 0, .ref ar1, .int 0, .int 0, .int 0, .int 0, .int 0, .ref ar7, .int 0, .int 0, .ref ar10, .ref ar11, .int 0, .int 0, .int 0, .int 0, .int 0, .int 0, .int 0, .int 0, .int 0, .long 0, .long 0, .int 0, .ref ar24, .int 0, .ref ar26, .ref ar27, .ref ar28, .ref ar29, .ref ar30, .ref ar31, .ref ar32, .ref ar33, .ref ar34, .ref ar35, .int 0, .int 0, .int 0, .int 0, .int 0, .ref ar41, .ref ar42, .ref ar43, .ref ar44, .long 0, .long 0, .int 0, .int 0, .ref ar49, .int 0, .int 0, .ref ar52, .int 0, .ref ar54, .int 0])) : MtI l g yX11_agreed cX11_agreed 2 (some .int) ({ frames := 1, cells := 0, slots := 0, locals := 20 }) [.ref mo] L f sz (fun r _ => r = (-1)) := by
  refine MtI.of (by decide +kernel) (Nat.le_of_ble_eq_true rfl) ?_
  intro p e s m below meth c A hEn hP hD hS ls hl
  obtain ⟨hx, hb, hr, hml, hown, hlocks, hts, hG, hA, hE, hnm⟩ := hEn
  have hown : s.vm.findClass "RulerWordModel" = some m.cls := hown
  have hl : lv_has ls 2 [(0, .ref mo)] := hl
  refine lv_aload_n hx hb dX11_agreed_0 rfl (lv_at hl 0 rfl) ?_
  refine lv_iconst (v := 0) hx hb dX11_agreed_1 (by decide) ?_
  refine pl_put (ty := .int) (v := .int 0) (fs' := [.int 0, .ref ar1, .int 0, .int 0, .int 0, .int 0, .int 0, .ref ar7, .int 0, .int 0, .ref ar10, .ref ar11, .int 0, .int 0, .int 0, .int 0, .int 0, .int 0, .int 0, .int 0, .int 0, .long 0, .long 0, .int 0, .ref ar24, .int 0, .ref ar26, .ref ar27, .ref ar28, .ref ar29, .ref ar30, .ref ar31, .ref ar32, .ref ar33, .ref ar34, .ref ar35, .int 0, .int 0, .int 0, .int 0, .int 0, .ref ar41, .ref ar42, .ref ar43, .ref ar44, .long 0, .long 0, .int 0, .int 0, .ref ar49, .int 0, .int 0, .ref ar52, .int 0, .ref ar54, .int 0]) hx hb hts (fun w h => mT (inX11 w h)) tyX11 tyX11_ok nmX11 hown hG.1 hP hD hS hm_mo hf_mo rfl 0 (by decide) (hts _ (mT wg_1336)) (fun _ h => h) rfl (by decide +kernel) (rfl) (rfl) (Nat.le_of_ble_eq_true rfl) rfl dX11_agreed_2 (fun H locs f1 hf3 ho2 hP hD hS => ?_)
  refine lv_aload_n hx hb dX11_agreed_5 rfl (lv_at hl 0 rfl) ?_
  refine call_i (run_V (rm := { frames := 0, cells := 0, slots := 0, locals := 0 }) hx hb hml hown hts (k_X11_over l g _ _ _ mo ar1 ar7 ar10 ar11 ar24 ar26 ar27 ar28 ar29 ar30 ar31 ar32 ar33 ar34 ar35 ar41 ar42 ar43 ar44 ar49 ar52 ar54 hm_mo hf3) cV_X11_over wg_1773 ⟨Nat.le_of_ble_eq_true rfl, Nat.le_of_ble_eq_true rfl⟩ hG hE hA hP hD hS hm_mo hf3 rfl rfl hl.1 (As := []) (rest := []) rfl (Nat.le_of_ble_eq_true rfl) dX11_agreed_6 ⟨Nat.le_of_ble_eq_true rfl, Nat.le_of_ble_eq_true rfl⟩) hA hD hS (fun r4 L5 f6 H locs hp7 hP hD hS => ?_)
  obtain ⟨er8, fr9, sb10⟩ := hp7
  have hf12 := (fr9 mo hm_mo ).trans hf3
  have hm11 := sb10 _ hm_mo
  subst er8
  refine lv_istore_n (lv' := [(1, .int 0), (0, .ref mo)]) hx hb dX11_agreed_9 rfl hl (by decide) rfl (fun ls hl => ?_)
  refine lv_iload_n hx hb dX11_agreed_10 rfl (lv_at hl 0 rfl) ?_
  refine lv_if_le (tgt := 30) hx hb dX11_agreed_11 (by decide) (fun c13 => ?_) (fun c13 => absurd (by decide) c13)
  refine lv_iload_n hx hb dX11_agreed_30 rfl (lv_at hl 0 rfl) ?_
  refine lv_aload_n hx hb dX11_agreed_31 rfl (lv_at hl 1 rfl) ?_
  refine call_i (run_V (rm := { frames := 0, cells := 0, slots := 0, locals := 0 }) hx hb hml hown hts (k_X11_over l g _ _ _ mo ar1 ar7 ar10 ar11 ar24 ar26 ar27 ar28 ar29 ar30 ar31 ar32 ar33 ar34 ar35 ar41 ar42 ar43 ar44 ar49 ar52 ar54 hm11 hf12) cV_X11_over wg_1773 ⟨Nat.le_of_ble_eq_true rfl, Nat.le_of_ble_eq_true rfl⟩ hG hE hA hP hD hS hm11 hf12 rfl rfl hl.1 (As := []) (rest := [.int 0]) rfl (Nat.le_of_ble_eq_true rfl) dX11_agreed_32 ⟨Nat.le_of_ble_eq_true rfl, Nat.le_of_ble_eq_true rfl⟩) hA hD hS (fun r14 L15 f16 H locs hp17 hP hD hS => ?_)
  obtain ⟨er18, fr19, sb20⟩ := hp17
  have hf22 := (fr19 mo hm11 ).trans hf12
  have hm21 := sb20 _ hm11
  subst er18
  refine lv_icmp_ge (tgt := 42) hx hb dX11_agreed_35 (by decide) (fun c23 => ?_) (fun c23 => absurd (by decide) c23)
  refine lv_iconst (v := (-1)) hx hb dX11_agreed_42 (by decide) ?_
  exact ret_i (ty := .int) hx hb hr hlocks (rfl) hP hD hS (Nat.le_of_ble_eq_true rfl) (Nat.le_of_ble_eq_true rfl) (rfl) dX11_agreed_43

set_option maxHeartbeats 4000000 in
set_option maxRecDepth 100000 in
theorem k_X11_state (l : Launch) (g : GG) (L : List Nat) (f : HP) (sz : Nat) (mo ar1 ar7 ar10 ar11 ar24 ar26 ar27 ar28 ar29 ar30 ar31 ar32 ar33 ar34 ar35 ar41 ar42 ar43 ar44 ar49 ar52 ar54 : Nat) (w : Int32) (hm_mo : mo ∈ L) (hf_mo : f mo = .inr (10, [.int 0, .ref ar1, .int 0, .int 0, .int 0, .int 0, .int 0, .ref ar7, .int 0, .int 0, .ref ar10, .ref ar11, .int 0, .int 0, .int 0, .int 0, .int 0, .int 0, .int 0, .int 0, .int 0, .long 0, .long 0, .int 0, .ref ar24, .int 0, .ref ar26, .ref ar27, .ref ar28, .ref ar29, .ref ar30, .ref ar31, .ref ar32, .ref ar33, .ref ar34, .ref ar35, .int 0, .int 0, .int 0, .int 0, .int 0, .ref ar41, .ref ar42, .ref ar43, .ref ar44, .long 0, .long 0, .int 0, .int 0, .ref ar49, .int 0, .int 0, .ref ar52, .int 0, .ref ar54, .int 0])) : MtI l g yX11_state cX11_state 3 (some .int) ({ frames := 0, cells := 0, slots := 0, locals := 0 }) [.ref mo, .int w] L f sz (fun r _ => r = (-1)) := by
  refine MtI.of (by decide +kernel) (Nat.le_of_ble_eq_true rfl) ?_
  intro p e s m below meth c A hEn hP hD hS ls hl
  obtain ⟨hx, hb, hr, hml, hown, hlocks, hts, hG, hA, hE, hnm⟩ := hEn
  have hown : s.vm.findClass "RulerWordModel" = some m.cls := hown
  have hl : lv_has ls 3 [(0, .ref mo), (1, .int w)] := hl
  refine lv_aload_n hx hb dX11_state_0 rfl (lv_at hl 0 rfl) ?_
  refine lv_iconst (v := 0) hx hb dX11_state_1 (by decide) ?_
  refine pl_put (ty := .int) (v := .int 0) (fs' := [.int 0, .ref ar1, .int 0, .int 0, .int 0, .int 0, .int 0, .ref ar7, .int 0, .int 0, .ref ar10, .ref ar11, .int 0, .int 0, .int 0, .int 0, .int 0, .int 0, .int 0, .int 0, .int 0, .long 0, .long 0, .int 0, .ref ar24, .int 0, .ref ar26, .ref ar27, .ref ar28, .ref ar29, .ref ar30, .ref ar31, .ref ar32, .ref ar33, .ref ar34, .ref ar35, .int 0, .int 0, .int 0, .int 0, .int 0, .ref ar41, .ref ar42, .ref ar43, .ref ar44, .long 0, .long 0, .int 0, .int 0, .ref ar49, .int 0, .int 0, .ref ar52, .int 0, .ref ar54, .int 0]) hx hb hts (fun w h => mT (inX11 w h)) tyX11 tyX11_ok nmX11 hown hG.1 hP hD hS hm_mo hf_mo rfl 0 (by decide) (hts _ (mT wg_1336)) (fun _ h => h) rfl (by decide +kernel) (rfl) (rfl) (Nat.le_of_ble_eq_true rfl) rfl dX11_state_2 (fun H locs f1 hf3 ho2 hP hD hS => ?_)
  refine lv_aload_n hx hb dX11_state_5 rfl (lv_at hl 0 rfl) ?_
  refine pl_get (v := .int 0) hx hb hts (fun w h => mT (inX11 w h)) hown hG.1 hP hm_mo hf3 rfl 23 (by decide) (hts _ (mT wg_1359)) (fun _ h => h) rfl dX11_state_6 ?_
  refine lv_if_ne (tgt := 14) hx hb dX11_state_9 (by decide) (fun c4 => absurd rfl c4) (fun c4 => ?_)
  refine lv_iconst (v := (-1)) hx hb dX11_state_12 (by decide) ?_
  exact ret_i (ty := .int) hx hb hr hlocks (rfl) hP hD hS (Nat.le_of_ble_eq_true rfl) (Nat.le_of_ble_eq_true rfl) (rfl) dX11_state_13

set_option maxHeartbeats 4000000 in
set_option maxRecDepth 100000 in
theorem k_X11_letters (l : Launch) (g : GG) (L : List Nat) (f : HP) (sz : Nat) (mo ar1 ar7 ar10 ar11 ar24 ar26 ar27 ar28 ar29 ar30 ar31 ar32 ar33 ar34 ar35 ar41 ar42 ar43 ar44 ar49 ar52 ar54 : Nat) (w : Int32) (hm_mo : mo ∈ L) (hf_mo : f mo = .inr (10, [.int 0, .ref ar1, .int 0, .int 0, .int 0, .int 0, .int 0, .ref ar7, .int 0, .int 0, .ref ar10, .ref ar11, .int 0, .int 0, .int 0, .int 0, .int 0, .int 0, .int 0, .int 0, .int 0, .long 0, .long 0, .int 0, .ref ar24, .int 0, .ref ar26, .ref ar27, .ref ar28, .ref ar29, .ref ar30, .ref ar31, .ref ar32, .ref ar33, .ref ar34, .ref ar35, .int 0, .int 0, .int 0, .int 0, .int 0, .ref ar41, .ref ar42, .ref ar43, .ref ar44, .long 0, .long 0, .int 0, .int 0, .ref ar49, .int 0, .int 0, .ref ar52, .int 0, .ref ar54, .int 0])) : MtI l g yX11_letters cX11_letters 2 (some .int) ({ frames := 0, cells := 0, slots := 0, locals := 0 }) [.ref mo, .int w] L f sz (fun r _ => r = (-1)) := by
  refine MtI.of (by decide +kernel) (Nat.le_of_ble_eq_true rfl) ?_
  intro p e s m below meth c A hEn hP hD hS ls hl
  obtain ⟨hx, hb, hr, hml, hown, hlocks, hts, hG, hA, hE, hnm⟩ := hEn
  have hown : s.vm.findClass "RulerWordModel" = some m.cls := hown
  have hl : lv_has ls 2 [(0, .ref mo), (1, .int w)] := hl
  refine lv_aload_n hx hb dX11_letters_0 rfl (lv_at hl 0 rfl) ?_
  refine lv_iconst (v := 0) hx hb dX11_letters_1 (by decide) ?_
  refine pl_put (ty := .int) (v := .int 0) (fs' := [.int 0, .ref ar1, .int 0, .int 0, .int 0, .int 0, .int 0, .ref ar7, .int 0, .int 0, .ref ar10, .ref ar11, .int 0, .int 0, .int 0, .int 0, .int 0, .int 0, .int 0, .int 0, .int 0, .long 0, .long 0, .int 0, .ref ar24, .int 0, .ref ar26, .ref ar27, .ref ar28, .ref ar29, .ref ar30, .ref ar31, .ref ar32, .ref ar33, .ref ar34, .ref ar35, .int 0, .int 0, .int 0, .int 0, .int 0, .ref ar41, .ref ar42, .ref ar43, .ref ar44, .long 0, .long 0, .int 0, .int 0, .ref ar49, .int 0, .int 0, .ref ar52, .int 0, .ref ar54, .int 0]) hx hb hts (fun w h => mT (inX11 w h)) tyX11 tyX11_ok nmX11 hown hG.1 hP hD hS hm_mo hf_mo rfl 0 (by decide) (hts _ (mT wg_1336)) (fun _ h => h) rfl (by decide +kernel) (rfl) (rfl) (Nat.le_of_ble_eq_true rfl) rfl dX11_letters_2 (fun H locs f1 hf3 ho2 hP hD hS => ?_)
  refine lv_aload_n hx hb dX11_letters_5 rfl (lv_at hl 0 rfl) ?_
  refine pl_get (v := .int 0) hx hb hts (fun w h => mT (inX11 w h)) hown hG.1 hP hm_mo hf3 rfl 23 (by decide) (hts _ (mT wg_1359)) (fun _ h => h) rfl dX11_letters_6 ?_
  refine lv_if_ne (tgt := 14) hx hb dX11_letters_9 (by decide) (fun c4 => absurd rfl c4) (fun c4 => ?_)
  refine lv_iconst (v := (-1)) hx hb dX11_letters_12 (by decide) ?_
  exact ret_i (ty := .int) hx hb hr hlocks (rfl) hP hD hS (Nat.le_of_ble_eq_true rfl) (Nat.le_of_ble_eq_true rfl) (rfl) dX11_letters_13

set_option maxHeartbeats 4000000 in
set_option maxRecDepth 100000 in
theorem k_X11_trueRuler (l : Launch) (g : GG) (L : List Nat) (f : HP) (sz : Nat) (mo ar1 ar7 ar10 ar11 ar24 ar26 ar27 ar28 ar29 ar30 ar31 ar32 ar33 ar34 ar35 ar41 ar42 ar43 ar44 ar49 ar52 ar54 : Nat) (hm_mo : mo ∈ L) (hf_mo : f mo = .inr (10, [.int 0, .ref ar1, .int 0, .int 0, .int 0, .int 0, .int 0, .ref ar7, .int 0, .int 0, .ref ar10, .ref ar11, .int 0, .int 0, .int 0, .int 0, .int 0, .int 0, .int 0, .int 0, .int 0, .long 0, .long 0, .int 0, .ref ar24, .int 0, .ref ar26, .ref ar27, .ref ar28, .ref ar29, .ref ar30, .ref ar31, .ref ar32, .ref ar33, .ref ar34, .ref ar35, .int 0, .int 0, .int 0, .int 0, .int 0, .ref ar41, .ref ar42, .ref ar43, .ref ar44, .long 0, .long 0, .int 0, .int 0, .ref ar49, .int 0, .int 0, .ref ar52, .int 0, .ref ar54, .int 0])) : MtI l g yX11_trueRuler cX11_trueRuler 2 (some .int) ({ frames := 0, cells := 0, slots := 0, locals := 0 }) [.ref mo] L f sz (fun r _ => r = (-1)) := by
  refine MtI.of (by decide +kernel) (Nat.le_of_ble_eq_true rfl) ?_
  intro p e s m below meth c A hEn hP hD hS ls hl
  obtain ⟨hx, hb, hr, hml, hown, hlocks, hts, hG, hA, hE, hnm⟩ := hEn
  have hown : s.vm.findClass "RulerWordModel" = some m.cls := hown
  have hl : lv_has ls 2 [(0, .ref mo)] := hl
  refine lv_aload_n hx hb dX11_trueRuler_0 rfl (lv_at hl 0 rfl) ?_
  refine lv_iconst (v := 0) hx hb dX11_trueRuler_1 (by decide) ?_
  refine pl_put (ty := .int) (v := .int 0) (fs' := [.int 0, .ref ar1, .int 0, .int 0, .int 0, .int 0, .int 0, .ref ar7, .int 0, .int 0, .ref ar10, .ref ar11, .int 0, .int 0, .int 0, .int 0, .int 0, .int 0, .int 0, .int 0, .int 0, .long 0, .long 0, .int 0, .ref ar24, .int 0, .ref ar26, .ref ar27, .ref ar28, .ref ar29, .ref ar30, .ref ar31, .ref ar32, .ref ar33, .ref ar34, .ref ar35, .int 0, .int 0, .int 0, .int 0, .int 0, .ref ar41, .ref ar42, .ref ar43, .ref ar44, .long 0, .long 0, .int 0, .int 0, .ref ar49, .int 0, .int 0, .ref ar52, .int 0, .ref ar54, .int 0]) hx hb hts (fun w h => mT (inX11 w h)) tyX11 tyX11_ok nmX11 hown hG.1 hP hD hS hm_mo hf_mo rfl 0 (by decide) (hts _ (mT wg_1336)) (fun _ h => h) rfl (by decide +kernel) (rfl) (rfl) (Nat.le_of_ble_eq_true rfl) rfl dX11_trueRuler_2 (fun H locs f1 hf3 ho2 hP hD hS => ?_)
  refine lv_iconst (v := 0) hx hb dX11_trueRuler_5 (by decide) ?_
  refine lv_istore_n (lv' := [(1, .int 0), (0, .ref mo)]) hx hb dX11_trueRuler_6 rfl hl (by decide) rfl (fun ls hl => ?_)
  refine lv_iload_n hx hb dX11_trueRuler_7 rfl (lv_at hl 0 rfl) ?_
  refine lv_aload_n hx hb dX11_trueRuler_8 rfl (lv_at hl 1 rfl) ?_
  refine pl_get (v := .int 0) hx hb hts (fun w h => mT (inX11 w h)) hown hG.1 hP hm_mo hf3 rfl 17 (by decide) (hts _ (mT wg_1353)) (fun _ h => h) rfl dX11_trueRuler_9 ?_
  refine lv_icmp_ge (tgt := 43) hx hb dX11_trueRuler_12 (by decide) (fun c4 => ?_) (fun c4 => absurd (by decide) c4)
  refine lv_iconst (v := (-1)) hx hb dX11_trueRuler_43 (by decide) ?_
  exact ret_i (ty := .int) hx hb hr hlocks (rfl) hP hD hS (Nat.le_of_ble_eq_true rfl) (Nat.le_of_ble_eq_true rfl) (rfl) dX11_trueRuler_44

set_option maxHeartbeats 4000000 in
set_option maxRecDepth 100000 in
theorem k_X11_free (l : Launch) (g : GG) (L : List Nat) (f : HP) (sz : Nat) (mo ar1 ar7 ar10 ar11 ar24 ar26 ar27 ar28 ar29 ar30 ar31 ar32 ar33 ar34 ar35 ar41 ar42 ar43 ar44 ar49 ar52 ar54 : Nat) (hm_mo : mo ∈ L) (hf_mo : f mo = .inr (10, [.int 0, .ref ar1, .int 0, .int 0, .int 0, .int 0, .int 0, .ref ar7, .int 0, .int 0, .ref ar10, .ref ar11, .int 0, .int 0, .int 0, .int 0, .int 0, .int 0, .int 0, .int 0, .int 0, .long 0, .long 0, .int 0, .ref ar24, .int 0, .ref ar26, .ref ar27, .ref ar28, .ref ar29, .ref ar30, .ref ar31, .ref ar32, .ref ar33, .ref ar34, .ref ar35, .int 0, .int 0, .int 0, .int 0, .int 0, .ref ar41, .ref ar42, .ref ar43, .ref ar44, .long 0, .long 0, .int 0, .int 0, .ref ar49, .int 0, .int 0, .ref ar52, .int 0, .ref ar54, .int 0])) : MtI l g yX11_free cX11_free 1 (some .int) ({ frames := 0, cells := 0, slots := 0, locals := 0 }) [.ref mo] L f sz (fun r _ => r = (-1)) := by
  refine MtI.of (by decide +kernel) (Nat.le_of_ble_eq_true rfl) ?_
  intro p e s m below meth c A hEn hP hD hS ls hl
  obtain ⟨hx, hb, hr, hml, hown, hlocks, hts, hG, hA, hE, hnm⟩ := hEn
  have hown : s.vm.findClass "RulerWordModel" = some m.cls := hown
  have hl : lv_has ls 1 [(0, .ref mo)] := hl
  refine lv_aload_n hx hb dX11_free_0 rfl (lv_at hl 0 rfl) ?_
  refine lv_iconst (v := 0) hx hb dX11_free_1 (by decide) ?_
  refine pl_put (ty := .int) (v := .int 0) (fs' := [.int 0, .ref ar1, .int 0, .int 0, .int 0, .int 0, .int 0, .ref ar7, .int 0, .int 0, .ref ar10, .ref ar11, .int 0, .int 0, .int 0, .int 0, .int 0, .int 0, .int 0, .int 0, .int 0, .long 0, .long 0, .int 0, .ref ar24, .int 0, .ref ar26, .ref ar27, .ref ar28, .ref ar29, .ref ar30, .ref ar31, .ref ar32, .ref ar33, .ref ar34, .ref ar35, .int 0, .int 0, .int 0, .int 0, .int 0, .ref ar41, .ref ar42, .ref ar43, .ref ar44, .long 0, .long 0, .int 0, .int 0, .ref ar49, .int 0, .int 0, .ref ar52, .int 0, .ref ar54, .int 0]) hx hb hts (fun w h => mT (inX11 w h)) tyX11 tyX11_ok nmX11 hown hG.1 hP hD hS hm_mo hf_mo rfl 0 (by decide) (hts _ (mT wg_1336)) (fun _ h => h) rfl (by decide +kernel) (rfl) (rfl) (Nat.le_of_ble_eq_true rfl) rfl dX11_free_2 (fun H locs f1 hf3 ho2 hP hD hS => ?_)
  refine lv_aload_n hx hb dX11_free_5 rfl (lv_at hl 0 rfl) ?_
  refine pl_get (v := .int 0) hx hb hts (fun w h => mT (inX11 w h)) hown hG.1 hP hm_mo hf3 rfl 23 (by decide) (hts _ (mT wg_1359)) (fun _ h => h) rfl dX11_free_6 ?_
  refine lv_if_ne (tgt := 14) hx hb dX11_free_9 (by decide) (fun c4 => absurd rfl c4) (fun c4 => ?_)
  refine lv_iconst (v := (-1)) hx hb dX11_free_12 (by decide) ?_
  exact ret_i (ty := .int) hx hb hr hlocks (rfl) hP hD hS (Nat.le_of_ble_eq_true rfl) (Nat.le_of_ble_eq_true rfl) (rfl) dX11_free_13

set_option maxHeartbeats 4000000 in
set_option maxRecDepth 100000 in
theorem k_X11_broken (l : Launch) (g : GG) (L : List Nat) (f : HP) (sz : Nat) (mo ar1 ar7 ar10 ar11 ar24 ar26 ar27 ar28 ar29 ar30 ar31 ar32 ar33 ar34 ar35 ar41 ar42 ar43 ar44 ar49 ar52 ar54 : Nat) (hm_mo : mo ∈ L) (hf_mo : f mo = .inr (10, [.int 0, .ref ar1, .int 0, .int 0, .int 0, .int 0, .int 0, .ref ar7, .int 0, .int 0, .ref ar10, .ref ar11, .int 0, .int 0, .int 0, .int 0, .int 0, .int 0, .int 0, .int 0, .int 0, .long 0, .long 0, .int 0, .ref ar24, .int 0, .ref ar26, .ref ar27, .ref ar28, .ref ar29, .ref ar30, .ref ar31, .ref ar32, .ref ar33, .ref ar34, .ref ar35, .int 0, .int 0, .int 0, .int 0, .int 0, .ref ar41, .ref ar42, .ref ar43, .ref ar44, .long 0, .long 0, .int 0, .int 0, .ref ar49, .int 0, .int 0, .ref ar52, .int 0, .ref ar54, .int 0])) : MtI l g yX11_broken cX11_broken 1 (some .int) ({ frames := 1, cells := 0, slots := 0, locals := 20 }) [.ref mo] L f sz (fun r _ => r = (-2)) := by
  refine MtI.of (by decide +kernel) (Nat.le_of_ble_eq_true rfl) ?_
  intro p e s m below meth c A hEn hP hD hS ls hl
  obtain ⟨hx, hb, hr, hml, hown, hlocks, hts, hG, hA, hE, hnm⟩ := hEn
  have hown : s.vm.findClass "RulerWordModel" = some m.cls := hown
  have hl : lv_has ls 1 [(0, .ref mo)] := hl
  refine lv_aload_n hx hb dX11_broken_0 rfl (lv_at hl 0 rfl) ?_
  refine lv_iconst (v := 0) hx hb dX11_broken_1 (by decide) ?_
  refine pl_put (ty := .int) (v := .int 0) (fs' := [.int 0, .ref ar1, .int 0, .int 0, .int 0, .int 0, .int 0, .ref ar7, .int 0, .int 0, .ref ar10, .ref ar11, .int 0, .int 0, .int 0, .int 0, .int 0, .int 0, .int 0, .int 0, .int 0, .long 0, .long 0, .int 0, .ref ar24, .int 0, .ref ar26, .ref ar27, .ref ar28, .ref ar29, .ref ar30, .ref ar31, .ref ar32, .ref ar33, .ref ar34, .ref ar35, .int 0, .int 0, .int 0, .int 0, .int 0, .ref ar41, .ref ar42, .ref ar43, .ref ar44, .long 0, .long 0, .int 0, .int 0, .ref ar49, .int 0, .int 0, .ref ar52, .int 0, .ref ar54, .int 0]) hx hb hts (fun w h => mT (inX11 w h)) tyX11 tyX11_ok nmX11 hown hG.1 hP hD hS hm_mo hf_mo rfl 0 (by decide) (hts _ (mT wg_1336)) (fun _ h => h) rfl (by decide +kernel) (rfl) (rfl) (Nat.le_of_ble_eq_true rfl) rfl dX11_broken_2 (fun H locs f1 hf3 ho2 hP hD hS => ?_)
  refine lv_aload_n hx hb dX11_broken_5 rfl (lv_at hl 0 rfl) ?_
  refine call_i (run_V (rm := { frames := 0, cells := 0, slots := 0, locals := 0 }) hx hb hml hown hts (k_X11_canSearch l g _ _ _ mo ar1 ar7 ar10 ar11 ar24 ar26 ar27 ar28 ar29 ar30 ar31 ar32 ar33 ar34 ar35 ar41 ar42 ar43 ar44 ar49 ar52 ar54 hm_mo hf3) cV_X11_canSearch wg_1838 ⟨Nat.le_of_ble_eq_true rfl, Nat.le_of_ble_eq_true rfl⟩ hG hE hA hP hD hS hm_mo hf3 rfl rfl hl.1 (As := []) (rest := []) rfl (Nat.le_of_ble_eq_true rfl) dX11_broken_6 ⟨Nat.le_of_ble_eq_true rfl, Nat.le_of_ble_eq_true rfl⟩) hA hD hS (fun r4 L5 f6 H locs hp7 hP hD hS => ?_)
  obtain ⟨er8, fr9, sb10⟩ := hp7
  have hf12 := (fr9 mo hm_mo ).trans hf3
  have hm11 := sb10 _ hm_mo
  subst er8
  refine lv_if_eq (tgt := 19) hx hb dX11_broken_9 (by decide) (fun c13 => ?_) (fun c13 => absurd (by decide) c13)
  refine lv_bipush (v := (-2)) hx hb dX11_broken_19 (by decide) ?_
  exact ret_i (ty := .int) hx hb hr hlocks (rfl) hP hD hS (Nat.le_of_ble_eq_true rfl) (Nat.le_of_ble_eq_true rfl) (rfl) dX11_broken_21

set_option maxHeartbeats 4000000 in
set_option maxRecDepth 100000 in
theorem k_X11_brokenStarts (l : Launch) (g : GG) (L : List Nat) (f : HP) (sz : Nat) (mo ar1 ar7 ar10 ar11 ar24 ar26 ar27 ar28 ar29 ar30 ar31 ar32 ar33 ar34 ar35 ar41 ar42 ar43 ar44 ar49 ar52 ar54 : Nat) (w : Int32) (hm_mo : mo ∈ L) (hf_mo : f mo = .inr (10, [.int 0, .ref ar1, .int 0, .int 0, .int 0, .int 0, .int 0, .ref ar7, .int 0, .int 0, .ref ar10, .ref ar11, .int 0, .int 0, .int 0, .int 0, .int 0, .int 0, .int 0, .int 0, .int 0, .long 0, .long 0, .int 0, .ref ar24, .int 0, .ref ar26, .ref ar27, .ref ar28, .ref ar29, .ref ar30, .ref ar31, .ref ar32, .ref ar33, .ref ar34, .ref ar35, .int 0, .int 0, .int 0, .int 0, .int 0, .ref ar41, .ref ar42, .ref ar43, .ref ar44, .long 0, .long 0, .int 0, .int 0, .ref ar49, .int 0, .int 0, .ref ar52, .int 0, .ref ar54, .int 0])) : MtI l g yX11_brokenStarts cX11_brokenStarts 2 (some .int) ({ frames := 1, cells := 0, slots := 0, locals := 25 }) [.ref mo, .int w] L f sz (fun r _ => r = (-2)) := by
  refine MtI.of (by decide +kernel) (Nat.le_of_ble_eq_true rfl) ?_
  intro p e s m below meth c A hEn hP hD hS ls hl
  obtain ⟨hx, hb, hr, hml, hown, hlocks, hts, hG, hA, hE, hnm⟩ := hEn
  have hown : s.vm.findClass "RulerWordModel" = some m.cls := hown
  have hl : lv_has ls 2 [(0, .ref mo), (1, .int w)] := hl
  refine lv_aload_n hx hb dX11_brokenStarts_0 rfl (lv_at hl 0 rfl) ?_
  refine lv_iconst (v := 0) hx hb dX11_brokenStarts_1 (by decide) ?_
  refine pl_put (ty := .int) (v := .int 0) (fs' := [.int 0, .ref ar1, .int 0, .int 0, .int 0, .int 0, .int 0, .ref ar7, .int 0, .int 0, .ref ar10, .ref ar11, .int 0, .int 0, .int 0, .int 0, .int 0, .int 0, .int 0, .int 0, .int 0, .long 0, .long 0, .int 0, .ref ar24, .int 0, .ref ar26, .ref ar27, .ref ar28, .ref ar29, .ref ar30, .ref ar31, .ref ar32, .ref ar33, .ref ar34, .ref ar35, .int 0, .int 0, .int 0, .int 0, .int 0, .ref ar41, .ref ar42, .ref ar43, .ref ar44, .long 0, .long 0, .int 0, .int 0, .ref ar49, .int 0, .int 0, .ref ar52, .int 0, .ref ar54, .int 0]) hx hb hts (fun w h => mT (inX11 w h)) tyX11 tyX11_ok nmX11 hown hG.1 hP hD hS hm_mo hf_mo rfl 0 (by decide) (hts _ (mT wg_1336)) (fun _ h => h) rfl (by decide +kernel) (rfl) (rfl) (Nat.le_of_ble_eq_true rfl) rfl dX11_brokenStarts_2 (fun H locs f1 hf3 ho2 hP hD hS => ?_)
  refine lv_iload_n hx hb dX11_brokenStarts_5 rfl (lv_at hl 1 rfl) ?_
  refine lv_i2l hx hb dX11_brokenStarts_6 rfl ?_
  refine lv_lconst (v := 0) hx hb dX11_brokenStarts_7 (by decide) ?_
  refine lv_lconst (v := 1) hx hb dX11_brokenStarts_8 (by decide) ?_
  refine call_i (run_S (rm := { frames := 0, cells := 0, slots := 0, locals := 0 }) hx hb hml hown hts (k_X11_isIn l g _ _ _ ((w).toInt64) 0 1) cS_X11_isIn wg_1585 ⟨Nat.le_of_ble_eq_true rfl, Nat.le_of_ble_eq_true rfl⟩ hG hE hA hP hD hS rfl hl.1 (As := [.long (w).toInt64, .long 0, .long 1]) (rest := []) rfl (Nat.le_of_ble_eq_true rfl) dX11_brokenStarts_9 ⟨Nat.le_of_ble_eq_true rfl, Nat.le_of_ble_eq_true rfl⟩) hA hD hS (fun r5 L6 f7 H locs hp8 hP hD hS => ?_)
  obtain ⟨er9, fr10, sb11⟩ := hp8
  have hf13 := (fr10 mo hm_mo ).trans hf3
  have hm12 := sb11 _ hm_mo
  refine lv_if_eq (tgt := 22) hx hb dX11_brokenStarts_12 (by decide) (fun c14 => ?_) (fun c14 => ?_)
  ·
    refine lv_bipush (v := (-2)) hx hb dX11_brokenStarts_22 (by decide) ?_
    exact ret_i (ty := .int) hx hb hr hlocks (rfl) hP hD hS (Nat.le_of_ble_eq_true rfl) (Nat.le_of_ble_eq_true rfl) (rfl) dX11_brokenStarts_24
  ·
    refine lv_aload_n hx hb dX11_brokenStarts_15 rfl (lv_at hl 0 rfl) ?_
    refine call_i (run_V (rm := { frames := 0, cells := 0, slots := 0, locals := 0 }) hx hb hml hown hts (k_X11_canSearch l g _ _ _ mo ar1 ar7 ar10 ar11 ar24 ar26 ar27 ar28 ar29 ar30 ar31 ar32 ar33 ar34 ar35 ar41 ar42 ar43 ar44 ar49 ar52 ar54 hm12 hf13) cV_X11_canSearch wg_1838 ⟨Nat.le_of_ble_eq_true rfl, Nat.le_of_ble_eq_true rfl⟩ hG hE hA hP hD hS hm12 hf13 rfl rfl hl.1 (As := []) (rest := []) rfl (Nat.le_of_ble_eq_true rfl) dX11_brokenStarts_16 ⟨Nat.le_of_ble_eq_true rfl, Nat.le_of_ble_eq_true rfl⟩) hA hD hS (fun r15 L16 f17 H locs hp18 hP hD hS => ?_)
    obtain ⟨er19, fr20, sb21⟩ := hp18
    have hf23 := (fr20 mo hm12 ).trans hf13
    have hm22 := sb21 _ hm12
    subst er19
    refine lv_if_ne (tgt := 25) hx hb dX11_brokenStarts_19 (by decide) (fun c24 => absurd rfl c24) (fun c24 => ?_)
    refine lv_bipush (v := (-2)) hx hb dX11_brokenStarts_22 (by decide) ?_
    exact ret_i (ty := .int) hx hb hr hlocks (rfl) hP hD hS (Nat.le_of_ble_eq_true rfl) (Nat.le_of_ble_eq_true rfl) (rfl) dX11_brokenStarts_24

set_option maxHeartbeats 4000000 in
set_option maxRecDepth 100000 in
theorem k_X11_canBreak (l : Launch) (g : GG) (L : List Nat) (f : HP) (sz : Nat) (mo ar1 ar7 ar10 ar11 ar24 ar26 ar27 ar28 ar29 ar30 ar31 ar32 ar33 ar34 ar35 ar41 ar42 ar43 ar44 ar49 ar52 ar54 : Nat) (w : Int32) (hm_mo : mo ∈ L) (hf_mo : f mo = .inr (10, [.int 0, .ref ar1, .int 0, .int 0, .int 0, .int 0, .int 0, .ref ar7, .int 0, .int 0, .ref ar10, .ref ar11, .int 0, .int 0, .int 0, .int 0, .int 0, .int 0, .int 0, .int 0, .int 0, .long 0, .long 0, .int 0, .ref ar24, .int 0, .ref ar26, .ref ar27, .ref ar28, .ref ar29, .ref ar30, .ref ar31, .ref ar32, .ref ar33, .ref ar34, .ref ar35, .int 0, .int 0, .int 0, .int 0, .int 0, .ref ar41, .ref ar42, .ref ar43, .ref ar44, .long 0, .long 0, .int 0, .int 0, .ref ar49, .int 0, .int 0, .ref ar52, .int 0, .ref ar54, .int 0])) : MtI l g yX11_canBreak cX11_canBreak 6 (some .int) ({ frames := 1, cells := 0, slots := 0, locals := 25 }) [.ref mo, .int w] L f sz (fun r _ => r = (-2)) := by
  refine MtI.of (by decide +kernel) (Nat.le_of_ble_eq_true rfl) ?_
  intro p e s m below meth c A hEn hP hD hS ls hl
  obtain ⟨hx, hb, hr, hml, hown, hlocks, hts, hG, hA, hE, hnm⟩ := hEn
  have hown : s.vm.findClass "RulerWordModel" = some m.cls := hown
  have hl : lv_has ls 6 [(0, .ref mo), (1, .int w)] := hl
  refine lv_aload_n hx hb dX11_canBreak_0 rfl (lv_at hl 0 rfl) ?_
  refine lv_iconst (v := 0) hx hb dX11_canBreak_1 (by decide) ?_
  refine pl_put (ty := .int) (v := .int 0) (fs' := [.int 0, .ref ar1, .int 0, .int 0, .int 0, .int 0, .int 0, .ref ar7, .int 0, .int 0, .ref ar10, .ref ar11, .int 0, .int 0, .int 0, .int 0, .int 0, .int 0, .int 0, .int 0, .int 0, .long 0, .long 0, .int 0, .ref ar24, .int 0, .ref ar26, .ref ar27, .ref ar28, .ref ar29, .ref ar30, .ref ar31, .ref ar32, .ref ar33, .ref ar34, .ref ar35, .int 0, .int 0, .int 0, .int 0, .int 0, .ref ar41, .ref ar42, .ref ar43, .ref ar44, .long 0, .long 0, .int 0, .int 0, .ref ar49, .int 0, .int 0, .ref ar52, .int 0, .ref ar54, .int 0]) hx hb hts (fun w h => mT (inX11 w h)) tyX11 tyX11_ok nmX11 hown hG.1 hP hD hS hm_mo hf_mo rfl 0 (by decide) (hts _ (mT wg_1336)) (fun _ h => h) rfl (by decide +kernel) (rfl) (rfl) (Nat.le_of_ble_eq_true rfl) rfl dX11_canBreak_2 (fun H locs f1 hf3 ho2 hP hD hS => ?_)
  refine lv_iload_n hx hb dX11_canBreak_5 rfl (lv_at hl 1 rfl) ?_
  refine lv_i2l hx hb dX11_canBreak_6 rfl ?_
  refine lv_lconst (v := 0) hx hb dX11_canBreak_7 (by decide) ?_
  refine lv_lconst (v := 1) hx hb dX11_canBreak_8 (by decide) ?_
  refine call_i (run_S (rm := { frames := 0, cells := 0, slots := 0, locals := 0 }) hx hb hml hown hts (k_X11_isIn l g _ _ _ ((w).toInt64) 0 1) cS_X11_isIn wg_1585 ⟨Nat.le_of_ble_eq_true rfl, Nat.le_of_ble_eq_true rfl⟩ hG hE hA hP hD hS rfl hl.1 (As := [.long (w).toInt64, .long 0, .long 1]) (rest := []) rfl (Nat.le_of_ble_eq_true rfl) dX11_canBreak_9 ⟨Nat.le_of_ble_eq_true rfl, Nat.le_of_ble_eq_true rfl⟩) hA hD hS (fun r5 L6 f7 H locs hp8 hP hD hS => ?_)
  obtain ⟨er9, fr10, sb11⟩ := hp8
  have hf13 := (fr10 mo hm_mo ).trans hf3
  have hm12 := sb11 _ hm_mo
  refine lv_if_eq (tgt := 30) hx hb dX11_canBreak_12 (by decide) (fun c14 => ?_) (fun c14 => ?_)
  ·
    refine lv_bipush (v := (-2)) hx hb dX11_canBreak_30 (by decide) ?_
    exact ret_i (ty := .int) hx hb hr hlocks (rfl) hP hD hS (Nat.le_of_ble_eq_true rfl) (Nat.le_of_ble_eq_true rfl) (rfl) dX11_canBreak_32
  ·
    refine lv_aload_n hx hb dX11_canBreak_15 rfl (lv_at hl 0 rfl) ?_
    refine pl_get (v := .int 0) hx hb hts (fun w h => mT (inX11 w h)) hown hG.1 hP hm12 hf13 rfl 23 (by decide) (hts _ (mT wg_1359)) (fun _ h => h) rfl dX11_canBreak_16 ?_
    refine lv_if_eq (tgt := 30) hx hb dX11_canBreak_19 (by decide) (fun c15 => ?_) (fun c15 => absurd (by decide) c15)
    refine lv_bipush (v := (-2)) hx hb dX11_canBreak_30 (by decide) ?_
    exact ret_i (ty := .int) hx hb hr hlocks (rfl) hP hD hS (Nat.le_of_ble_eq_true rfl) (Nat.le_of_ble_eq_true rfl) (rfl) dX11_canBreak_32

set_option maxHeartbeats 4000000 in
set_option maxRecDepth 100000 in
theorem k_X11_brokenPlan (l : Launch) (g : GG) (L : List Nat) (f : HP) (sz : Nat) (mo ar1 ar7 ar10 ar11 ar24 ar26 ar27 ar28 ar29 ar30 ar31 ar32 ar33 ar34 ar35 ar41 ar42 ar43 ar44 ar49 ar52 ar54 : Nat) (k : Int32) (hm_mo : mo ∈ L) (hf_mo : f mo = .inr (10, [.int 0, .ref ar1, .int 0, .int 0, .int 0, .int 0, .int 0, .ref ar7, .int 0, .int 0, .ref ar10, .ref ar11, .int 0, .int 0, .int 0, .int 0, .int 0, .int 0, .int 0, .int 0, .int 0, .long 0, .long 0, .int 0, .ref ar24, .int 0, .ref ar26, .ref ar27, .ref ar28, .ref ar29, .ref ar30, .ref ar31, .ref ar32, .ref ar33, .ref ar34, .ref ar35, .int 0, .int 0, .int 0, .int 0, .int 0, .ref ar41, .ref ar42, .ref ar43, .ref ar44, .long 0, .long 0, .int 0, .int 0, .ref ar49, .int 0, .int 0, .ref ar52, .int 0, .ref ar54, .int 0])) : MtI l g yX11_brokenPlan cX11_brokenPlan 3 (some .int) ({ frames := 1, cells := 0, slots := 0, locals := 20 }) [.ref mo, .int k] L f sz (fun r _ => r = (-2)) := by
  refine MtI.of (by decide +kernel) (Nat.le_of_ble_eq_true rfl) ?_
  intro p e s m below meth c A hEn hP hD hS ls hl
  obtain ⟨hx, hb, hr, hml, hown, hlocks, hts, hG, hA, hE, hnm⟩ := hEn
  have hown : s.vm.findClass "RulerWordModel" = some m.cls := hown
  have hl : lv_has ls 3 [(0, .ref mo), (1, .int k)] := hl
  refine lv_aload_n hx hb dX11_brokenPlan_0 rfl (lv_at hl 0 rfl) ?_
  refine lv_iconst (v := 0) hx hb dX11_brokenPlan_1 (by decide) ?_
  refine pl_put (ty := .int) (v := .int 0) (fs' := [.int 0, .ref ar1, .int 0, .int 0, .int 0, .int 0, .int 0, .ref ar7, .int 0, .int 0, .ref ar10, .ref ar11, .int 0, .int 0, .int 0, .int 0, .int 0, .int 0, .int 0, .int 0, .int 0, .long 0, .long 0, .int 0, .ref ar24, .int 0, .ref ar26, .ref ar27, .ref ar28, .ref ar29, .ref ar30, .ref ar31, .ref ar32, .ref ar33, .ref ar34, .ref ar35, .int 0, .int 0, .int 0, .int 0, .int 0, .ref ar41, .ref ar42, .ref ar43, .ref ar44, .long 0, .long 0, .int 0, .int 0, .ref ar49, .int 0, .int 0, .ref ar52, .int 0, .ref ar54, .int 0]) hx hb hts (fun w h => mT (inX11 w h)) tyX11 tyX11_ok nmX11 hown hG.1 hP hD hS hm_mo hf_mo rfl 0 (by decide) (hts _ (mT wg_1336)) (fun _ h => h) rfl (by decide +kernel) (rfl) (rfl) (Nat.le_of_ble_eq_true rfl) rfl dX11_brokenPlan_2 (fun H locs f1 hf3 ho2 hP hD hS => ?_)
  refine lv_aload_n hx hb dX11_brokenPlan_5 rfl (lv_at hl 0 rfl) ?_
  refine call_i (run_V (rm := { frames := 0, cells := 0, slots := 0, locals := 0 }) hx hb hml hown hts (k_X11_canSearch l g _ _ _ mo ar1 ar7 ar10 ar11 ar24 ar26 ar27 ar28 ar29 ar30 ar31 ar32 ar33 ar34 ar35 ar41 ar42 ar43 ar44 ar49 ar52 ar54 hm_mo hf3) cV_X11_canSearch wg_1838 ⟨Nat.le_of_ble_eq_true rfl, Nat.le_of_ble_eq_true rfl⟩ hG hE hA hP hD hS hm_mo hf3 rfl rfl hl.1 (As := []) (rest := []) rfl (Nat.le_of_ble_eq_true rfl) dX11_brokenPlan_6 ⟨Nat.le_of_ble_eq_true rfl, Nat.le_of_ble_eq_true rfl⟩) hA hD hS (fun r4 L5 f6 H locs hp7 hP hD hS => ?_)
  obtain ⟨er8, fr9, sb10⟩ := hp7
  have hf12 := (fr9 mo hm_mo ).trans hf3
  have hm11 := sb10 _ hm_mo
  subst er8
  refine lv_if_ne (tgt := 15) hx hb dX11_brokenPlan_9 (by decide) (fun c13 => absurd rfl c13) (fun c13 => ?_)
  refine lv_bipush (v := (-2)) hx hb dX11_brokenPlan_12 (by decide) ?_
  exact ret_i (ty := .int) hx hb hr hlocks (rfl) hP hD hS (Nat.le_of_ble_eq_true rfl) (Nat.le_of_ble_eq_true rfl) (rfl) dX11_brokenPlan_14

set_option maxHeartbeats 4000000 in
set_option maxRecDepth 100000 in
theorem k_X11_weakest (l : Launch) (g : GG) (L : List Nat) (f : HP) (sz : Nat) (mo ar1 ar7 ar10 ar11 ar24 ar26 ar27 ar28 ar29 ar30 ar31 ar32 ar33 ar34 ar35 ar41 ar42 ar43 ar44 ar49 ar52 ar54 : Nat) (hm_mo : mo ∈ L) (hf_mo : f mo = .inr (10, [.int 0, .ref ar1, .int 0, .int 0, .int 0, .int 0, .int 0, .ref ar7, .int 0, .int 0, .ref ar10, .ref ar11, .int 0, .int 0, .int 0, .int 0, .int 0, .int 0, .int 0, .int 0, .int 0, .long 0, .long 0, .int 0, .ref ar24, .int 0, .ref ar26, .ref ar27, .ref ar28, .ref ar29, .ref ar30, .ref ar31, .ref ar32, .ref ar33, .ref ar34, .ref ar35, .int 0, .int 0, .int 0, .int 0, .int 0, .ref ar41, .ref ar42, .ref ar43, .ref ar44, .long 0, .long 0, .int 0, .int 0, .ref ar49, .int 0, .int 0, .ref ar52, .int 0, .ref ar54, .int 0])) : MtI l g yX11_weakest cX11_weakest 3 (some .int) ({ frames := 0, cells := 0, slots := 0, locals := 0 }) [.ref mo] L f sz (fun r _ => r = (-2)) := by
  refine MtI.of (by decide +kernel) (Nat.le_of_ble_eq_true rfl) ?_
  intro p e s m below meth c A hEn hP hD hS ls hl
  obtain ⟨hx, hb, hr, hml, hown, hlocks, hts, hG, hA, hE, hnm⟩ := hEn
  have hown : s.vm.findClass "RulerWordModel" = some m.cls := hown
  have hl : lv_has ls 3 [(0, .ref mo)] := hl
  refine lv_aload_n hx hb dX11_weakest_0 rfl (lv_at hl 0 rfl) ?_
  refine lv_iconst (v := 0) hx hb dX11_weakest_1 (by decide) ?_
  refine pl_put (ty := .int) (v := .int 0) (fs' := [.int 0, .ref ar1, .int 0, .int 0, .int 0, .int 0, .int 0, .ref ar7, .int 0, .int 0, .ref ar10, .ref ar11, .int 0, .int 0, .int 0, .int 0, .int 0, .int 0, .int 0, .int 0, .int 0, .long 0, .long 0, .int 0, .ref ar24, .int 0, .ref ar26, .ref ar27, .ref ar28, .ref ar29, .ref ar30, .ref ar31, .ref ar32, .ref ar33, .ref ar34, .ref ar35, .int 0, .int 0, .int 0, .int 0, .int 0, .ref ar41, .ref ar42, .ref ar43, .ref ar44, .long 0, .long 0, .int 0, .int 0, .ref ar49, .int 0, .int 0, .ref ar52, .int 0, .ref ar54, .int 0]) hx hb hts (fun w h => mT (inX11 w h)) tyX11 tyX11_ok nmX11 hown hG.1 hP hD hS hm_mo hf_mo rfl 0 (by decide) (hts _ (mT wg_1336)) (fun _ h => h) rfl (by decide +kernel) (rfl) (rfl) (Nat.le_of_ble_eq_true rfl) rfl dX11_weakest_2 (fun H locs f1 hf3 ho2 hP hD hS => ?_)
  refine lv_aload_n hx hb dX11_weakest_5 rfl (lv_at hl 0 rfl) ?_
  refine pl_get (v := .int 0) hx hb hts (fun w h => mT (inX11 w h)) hown hG.1 hP hm_mo hf3 rfl 23 (by decide) (hts _ (mT wg_1359)) (fun _ h => h) rfl dX11_weakest_6 ?_
  refine lv_if_ne (tgt := 15) hx hb dX11_weakest_9 (by decide) (fun c4 => absurd rfl c4) (fun c4 => ?_)
  refine lv_bipush (v := (-2)) hx hb dX11_weakest_12 (by decide) ?_
  exact ret_i (ty := .int) hx hb hr hlocks (rfl) hP hD hS (Nat.le_of_ble_eq_true rfl) (Nat.le_of_ble_eq_true rfl) (rfl) dX11_weakest_14

set_option maxHeartbeats 4000000 in
set_option maxRecDepth 100000 in
theorem k_X11_ruled (l : Launch) (g : GG) (L : List Nat) (f : HP) (sz : Nat) (mo ar1 ar7 ar10 ar11 ar24 ar26 ar27 ar28 ar29 ar30 ar31 ar32 ar33 ar34 ar35 ar41 ar42 ar43 ar44 ar49 ar52 ar54 : Nat) (i : Int32) (w : Int32) (hm_mo : mo ∈ L) (hf_mo : f mo = .inr (10, [.int 0, .ref ar1, .int 0, .int 0, .int 0, .int 0, .int 0, .ref ar7, .int 0, .int 0, .ref ar10, .ref ar11, .int 0, .int 0, .int 0, .int 0, .int 0, .int 0, .int 0, .int 0, .int 0, .long 0, .long 0, .int 0, .ref ar24, .int 0, .ref ar26, .ref ar27, .ref ar28, .ref ar29, .ref ar30, .ref ar31, .ref ar32, .ref ar33, .ref ar34, .ref ar35, .int 0, .int 0, .int 0, .int 0, .int 0, .ref ar41, .ref ar42, .ref ar43, .ref ar44, .long 0, .long 0, .int 0, .int 0, .ref ar49, .int 0, .int 0, .ref ar52, .int 0, .ref ar54, .int 0])) : MtI l g yX11_ruled cX11_ruled 8 (some .int) ({ frames := 1, cells := 0, slots := 0, locals := 21 }) [.ref mo, .int i, .int w] L f sz (fun r _ => r = (-1)) := by
  refine MtI.of (by decide +kernel) (Nat.le_of_ble_eq_true rfl) ?_
  intro p e s m below meth c A hEn hP hD hS ls hl
  obtain ⟨hx, hb, hr, hml, hown, hlocks, hts, hG, hA, hE, hnm⟩ := hEn
  have hown : s.vm.findClass "RulerWordModel" = some m.cls := hown
  have hl : lv_has ls 8 [(0, .ref mo), (1, .int i), (2, .int w)] := hl
  refine lv_aload_n hx hb dX11_ruled_0 rfl (lv_at hl 0 rfl) ?_
  refine lv_iconst (v := 0) hx hb dX11_ruled_1 (by decide) ?_
  refine pl_put (ty := .int) (v := .int 0) (fs' := [.int 0, .ref ar1, .int 0, .int 0, .int 0, .int 0, .int 0, .ref ar7, .int 0, .int 0, .ref ar10, .ref ar11, .int 0, .int 0, .int 0, .int 0, .int 0, .int 0, .int 0, .int 0, .int 0, .long 0, .long 0, .int 0, .ref ar24, .int 0, .ref ar26, .ref ar27, .ref ar28, .ref ar29, .ref ar30, .ref ar31, .ref ar32, .ref ar33, .ref ar34, .ref ar35, .int 0, .int 0, .int 0, .int 0, .int 0, .ref ar41, .ref ar42, .ref ar43, .ref ar44, .long 0, .long 0, .int 0, .int 0, .ref ar49, .int 0, .int 0, .ref ar52, .int 0, .ref ar54, .int 0]) hx hb hts (fun w h => mT (inX11 w h)) tyX11 tyX11_ok nmX11 hown hG.1 hP hD hS hm_mo hf_mo rfl 0 (by decide) (hts _ (mT wg_1336)) (fun _ h => h) rfl (by decide +kernel) (rfl) (rfl) (Nat.le_of_ble_eq_true rfl) rfl dX11_ruled_2 (fun H locs f1 hf3 ho2 hP hD hS => ?_)
  refine lv_aload_n hx hb dX11_ruled_5 rfl (lv_at hl 0 rfl) ?_
  refine lv_iload_n hx hb dX11_ruled_6 rfl (lv_at hl 1 rfl) ?_
  refine call_i (run_V (rm := { frames := 0, cells := 0, slots := 0, locals := 0 }) hx hb hml hown hts (k_X11_isPeer l g _ _ _ mo ar1 ar7 ar10 ar11 ar24 ar26 ar27 ar28 ar29 ar30 ar31 ar32 ar33 ar34 ar35 ar41 ar42 ar43 ar44 ar49 ar52 ar54 i hm_mo hf3) cV_X11_isPeer wg_1722 ⟨Nat.le_of_ble_eq_true rfl, Nat.le_of_ble_eq_true rfl⟩ hG hE hA hP hD hS hm_mo hf3 rfl rfl hl.1 (As := [.int i]) (rest := []) rfl (Nat.le_of_ble_eq_true rfl) dX11_ruled_7 ⟨Nat.le_of_ble_eq_true rfl, Nat.le_of_ble_eq_true rfl⟩) hA hD hS (fun r4 L5 f6 H locs hp7 hP hD hS => ?_)
  obtain ⟨er8, fr9, sb10⟩ := hp7
  have hf12 := (fr9 mo hm_mo ).trans hf3
  have hm11 := sb10 _ hm_mo
  subst er8
  refine lv_if_eq (tgt := 25) hx hb dX11_ruled_10 (by decide) (fun c13 => ?_) (fun c13 => absurd (by decide) c13)
  refine lv_iconst (v := (-1)) hx hb dX11_ruled_25 (by decide) ?_
  exact ret_i (ty := .int) hx hb hr hlocks (rfl) hP hD hS (Nat.le_of_ble_eq_true rfl) (Nat.le_of_ble_eq_true rfl) (rfl) dX11_ruled_26

set_option maxHeartbeats 4000000 in
set_option maxRecDepth 100000 in
theorem k_X11_held (l : Launch) (g : GG) (L : List Nat) (f : HP) (sz : Nat) (mo ar1 ar7 ar10 ar11 ar24 ar26 ar27 ar28 ar29 ar30 ar31 ar32 ar33 ar34 ar35 ar41 ar42 ar43 ar44 ar49 ar52 ar54 : Nat) (b : Int32) (i : Int32) (hm_mo : mo ∈ L) (hf_mo : f mo = .inr (10, [.int 0, .ref ar1, .int 0, .int 0, .int 0, .int 0, .int 0, .ref ar7, .int 0, .int 0, .ref ar10, .ref ar11, .int 0, .int 0, .int 0, .int 0, .int 0, .int 0, .int 0, .int 0, .int 0, .long 0, .long 0, .int 0, .ref ar24, .int 0, .ref ar26, .ref ar27, .ref ar28, .ref ar29, .ref ar30, .ref ar31, .ref ar32, .ref ar33, .ref ar34, .ref ar35, .int 0, .int 0, .int 0, .int 0, .int 0, .ref ar41, .ref ar42, .ref ar43, .ref ar44, .long 0, .long 0, .int 0, .int 0, .ref ar49, .int 0, .int 0, .ref ar52, .int 0, .ref ar54, .int 0])) : MtI l g yX11_held cX11_held 3 (some .int) ({ frames := 1, cells := 0, slots := 0, locals := 20 }) [.ref mo, .int b, .int i] L f sz (fun r _ => r = (-2)) := by
  refine MtI.of (by decide +kernel) (Nat.le_of_ble_eq_true rfl) ?_
  intro p e s m below meth c A hEn hP hD hS ls hl
  obtain ⟨hx, hb, hr, hml, hown, hlocks, hts, hG, hA, hE, hnm⟩ := hEn
  have hown : s.vm.findClass "RulerWordModel" = some m.cls := hown
  have hl : lv_has ls 3 [(0, .ref mo), (1, .int b), (2, .int i)] := hl
  refine lv_aload_n hx hb dX11_held_0 rfl (lv_at hl 0 rfl) ?_
  refine lv_iconst (v := 0) hx hb dX11_held_1 (by decide) ?_
  refine pl_put (ty := .int) (v := .int 0) (fs' := [.int 0, .ref ar1, .int 0, .int 0, .int 0, .int 0, .int 0, .ref ar7, .int 0, .int 0, .ref ar10, .ref ar11, .int 0, .int 0, .int 0, .int 0, .int 0, .int 0, .int 0, .int 0, .int 0, .long 0, .long 0, .int 0, .ref ar24, .int 0, .ref ar26, .ref ar27, .ref ar28, .ref ar29, .ref ar30, .ref ar31, .ref ar32, .ref ar33, .ref ar34, .ref ar35, .int 0, .int 0, .int 0, .int 0, .int 0, .ref ar41, .ref ar42, .ref ar43, .ref ar44, .long 0, .long 0, .int 0, .int 0, .ref ar49, .int 0, .int 0, .ref ar52, .int 0, .ref ar54, .int 0]) hx hb hts (fun w h => mT (inX11 w h)) tyX11 tyX11_ok nmX11 hown hG.1 hP hD hS hm_mo hf_mo rfl 0 (by decide) (hts _ (mT wg_1336)) (fun _ h => h) rfl (by decide +kernel) (rfl) (rfl) (Nat.le_of_ble_eq_true rfl) rfl dX11_held_2 (fun H locs f1 hf3 ho2 hP hD hS => ?_)
  refine lv_aload_n hx hb dX11_held_5 rfl (lv_at hl 0 rfl) ?_
  refine call_i (run_V (rm := { frames := 0, cells := 0, slots := 0, locals := 0 }) hx hb hml hown hts (k_X11_canSearch l g _ _ _ mo ar1 ar7 ar10 ar11 ar24 ar26 ar27 ar28 ar29 ar30 ar31 ar32 ar33 ar34 ar35 ar41 ar42 ar43 ar44 ar49 ar52 ar54 hm_mo hf3) cV_X11_canSearch wg_1838 ⟨Nat.le_of_ble_eq_true rfl, Nat.le_of_ble_eq_true rfl⟩ hG hE hA hP hD hS hm_mo hf3 rfl rfl hl.1 (As := []) (rest := []) rfl (Nat.le_of_ble_eq_true rfl) dX11_held_6 ⟨Nat.le_of_ble_eq_true rfl, Nat.le_of_ble_eq_true rfl⟩) hA hD hS (fun r4 L5 f6 H locs hp7 hP hD hS => ?_)
  obtain ⟨er8, fr9, sb10⟩ := hp7
  have hf12 := (fr9 mo hm_mo ).trans hf3
  have hm11 := sb10 _ hm_mo
  subst er8
  refine lv_if_ne (tgt := 15) hx hb dX11_held_9 (by decide) (fun c13 => absurd rfl c13) (fun c13 => ?_)
  refine lv_bipush (v := (-2)) hx hb dX11_held_12 (by decide) ?_
  exact ret_i (ty := .int) hx hb hr hlocks (rfl) hP hD hS (Nat.le_of_ble_eq_true rfl) (Nat.le_of_ble_eq_true rfl) (rfl) dX11_held_14

set_option maxHeartbeats 4000000 in
set_option maxRecDepth 100000 in
theorem k_X11_needed (l : Launch) (g : GG) (L : List Nat) (f : HP) (sz : Nat) (mo ar1 ar7 ar10 ar11 ar24 ar26 ar27 ar28 ar29 ar30 ar31 ar32 ar33 ar34 ar35 ar41 ar42 ar43 ar44 ar49 ar52 ar54 : Nat) (hm_mo : mo ∈ L) (hf_mo : f mo = .inr (10, [.int 0, .ref ar1, .int 0, .int 0, .int 0, .int 0, .int 0, .ref ar7, .int 0, .int 0, .ref ar10, .ref ar11, .int 0, .int 0, .int 0, .int 0, .int 0, .int 0, .int 0, .int 0, .int 0, .long 0, .long 0, .int 0, .ref ar24, .int 0, .ref ar26, .ref ar27, .ref ar28, .ref ar29, .ref ar30, .ref ar31, .ref ar32, .ref ar33, .ref ar34, .ref ar35, .int 0, .int 0, .int 0, .int 0, .int 0, .ref ar41, .ref ar42, .ref ar43, .ref ar44, .long 0, .long 0, .int 0, .int 0, .ref ar49, .int 0, .int 0, .ref ar52, .int 0, .ref ar54, .int 0])) : MtI l g yX11_needed cX11_needed 4 (some .int) ({ frames := 0, cells := 0, slots := 0, locals := 0 }) [.ref mo] L f sz (fun r _ => r = (-1)) := by
  refine MtI.of (by decide +kernel) (Nat.le_of_ble_eq_true rfl) ?_
  intro p e s m below meth c A hEn hP hD hS ls hl
  obtain ⟨hx, hb, hr, hml, hown, hlocks, hts, hG, hA, hE, hnm⟩ := hEn
  have hown : s.vm.findClass "RulerWordModel" = some m.cls := hown
  have hl : lv_has ls 4 [(0, .ref mo)] := hl
  refine lv_aload_n hx hb dX11_needed_0 rfl (lv_at hl 0 rfl) ?_
  refine lv_iconst (v := 0) hx hb dX11_needed_1 (by decide) ?_
  refine pl_put (ty := .int) (v := .int 0) (fs' := [.int 0, .ref ar1, .int 0, .int 0, .int 0, .int 0, .int 0, .ref ar7, .int 0, .int 0, .ref ar10, .ref ar11, .int 0, .int 0, .int 0, .int 0, .int 0, .int 0, .int 0, .int 0, .int 0, .long 0, .long 0, .int 0, .ref ar24, .int 0, .ref ar26, .ref ar27, .ref ar28, .ref ar29, .ref ar30, .ref ar31, .ref ar32, .ref ar33, .ref ar34, .ref ar35, .int 0, .int 0, .int 0, .int 0, .int 0, .ref ar41, .ref ar42, .ref ar43, .ref ar44, .long 0, .long 0, .int 0, .int 0, .ref ar49, .int 0, .int 0, .ref ar52, .int 0, .ref ar54, .int 0]) hx hb hts (fun w h => mT (inX11 w h)) tyX11 tyX11_ok nmX11 hown hG.1 hP hD hS hm_mo hf_mo rfl 0 (by decide) (hts _ (mT wg_1336)) (fun _ h => h) rfl (by decide +kernel) (rfl) (rfl) (Nat.le_of_ble_eq_true rfl) rfl dX11_needed_2 (fun H locs f1 hf3 ho2 hP hD hS => ?_)
  refine lv_aload_n hx hb dX11_needed_5 rfl (lv_at hl 0 rfl) ?_
  refine pl_get (v := .int 0) hx hb hts (fun w h => mT (inX11 w h)) hown hG.1 hP hm_mo hf3 rfl 23 (by decide) (hts _ (mT wg_1359)) (fun _ h => h) rfl dX11_needed_6 ?_
  refine lv_if_ne (tgt := 14) hx hb dX11_needed_9 (by decide) (fun c4 => absurd rfl c4) (fun c4 => ?_)
  refine lv_iconst (v := (-1)) hx hb dX11_needed_12 (by decide) ?_
  exact ret_i (ty := .int) hx hb hr hlocks (rfl) hP hD hS (Nat.le_of_ble_eq_true rfl) (Nat.le_of_ble_eq_true rfl) (rfl) dX11_needed_13

set_option maxHeartbeats 4000000 in
set_option maxRecDepth 100000 in
theorem k_X11_asOthers (l : Launch) (g : GG) (L : List Nat) (f : HP) (sz : Nat) (mo ar1 ar7 ar10 ar11 ar24 ar26 ar27 ar28 ar29 ar30 ar31 ar32 ar33 ar34 ar35 ar41 ar42 ar43 ar44 ar49 ar52 ar54 : Nat) (w : Int32) (hm_mo : mo ∈ L) (hf_mo : f mo = .inr (10, [.int 0, .ref ar1, .int 0, .int 0, .int 0, .int 0, .int 0, .ref ar7, .int 0, .int 0, .ref ar10, .ref ar11, .int 0, .int 0, .int 0, .int 0, .int 0, .int 0, .int 0, .int 0, .int 0, .long 0, .long 0, .int 0, .ref ar24, .int 0, .ref ar26, .ref ar27, .ref ar28, .ref ar29, .ref ar30, .ref ar31, .ref ar32, .ref ar33, .ref ar34, .ref ar35, .int 0, .int 0, .int 0, .int 0, .int 0, .ref ar41, .ref ar42, .ref ar43, .ref ar44, .long 0, .long 0, .int 0, .int 0, .ref ar49, .int 0, .int 0, .ref ar52, .int 0, .ref ar54, .int 0])) : MtI l g yX11_asOthers cX11_asOthers 6 (some .int) ({ frames := 0, cells := 0, slots := 0, locals := 0 }) [.ref mo, .int w] L f sz (fun r _ => r = (-2)) := by
  refine MtI.of (by decide +kernel) (Nat.le_of_ble_eq_true rfl) ?_
  intro p e s m below meth c A hEn hP hD hS ls hl
  obtain ⟨hx, hb, hr, hml, hown, hlocks, hts, hG, hA, hE, hnm⟩ := hEn
  have hown : s.vm.findClass "RulerWordModel" = some m.cls := hown
  have hl : lv_has ls 6 [(0, .ref mo), (1, .int w)] := hl
  refine lv_aload_n hx hb dX11_asOthers_0 rfl (lv_at hl 0 rfl) ?_
  refine lv_iconst (v := 0) hx hb dX11_asOthers_1 (by decide) ?_
  refine pl_put (ty := .int) (v := .int 0) (fs' := [.int 0, .ref ar1, .int 0, .int 0, .int 0, .int 0, .int 0, .ref ar7, .int 0, .int 0, .ref ar10, .ref ar11, .int 0, .int 0, .int 0, .int 0, .int 0, .int 0, .int 0, .int 0, .int 0, .long 0, .long 0, .int 0, .ref ar24, .int 0, .ref ar26, .ref ar27, .ref ar28, .ref ar29, .ref ar30, .ref ar31, .ref ar32, .ref ar33, .ref ar34, .ref ar35, .int 0, .int 0, .int 0, .int 0, .int 0, .ref ar41, .ref ar42, .ref ar43, .ref ar44, .long 0, .long 0, .int 0, .int 0, .ref ar49, .int 0, .int 0, .ref ar52, .int 0, .ref ar54, .int 0]) hx hb hts (fun w h => mT (inX11 w h)) tyX11 tyX11_ok nmX11 hown hG.1 hP hD hS hm_mo hf_mo rfl 0 (by decide) (hts _ (mT wg_1336)) (fun _ h => h) rfl (by decide +kernel) (rfl) (rfl) (Nat.le_of_ble_eq_true rfl) rfl dX11_asOthers_2 (fun H locs f1 hf3 ho2 hP hD hS => ?_)
  refine lv_aload_n hx hb dX11_asOthers_5 rfl (lv_at hl 0 rfl) ?_
  refine pl_get (v := .int 0) hx hb hts (fun w h => mT (inX11 w h)) hown hG.1 hP hm_mo hf3 rfl 23 (by decide) (hts _ (mT wg_1359)) (fun _ h => h) rfl dX11_asOthers_6 ?_
  refine lv_if_eq (tgt := 24) hx hb dX11_asOthers_9 (by decide) (fun c4 => ?_) (fun c4 => absurd (by decide) c4)
  refine lv_bipush (v := (-2)) hx hb dX11_asOthers_24 (by decide) ?_
  exact ret_i (ty := .int) hx hb hr hlocks (rfl) hP hD hS (Nat.le_of_ble_eq_true rfl) (Nat.le_of_ble_eq_true rfl) (rfl) dX11_asOthers_26

set_option maxHeartbeats 4000000 in
set_option maxRecDepth 100000 in
theorem k_X11_byChance (l : Launch) (g : GG) (L : List Nat) (f : HP) (sz : Nat) (mo ar1 ar7 ar10 ar11 ar24 ar26 ar27 ar28 ar29 ar30 ar31 ar32 ar33 ar34 ar35 ar41 ar42 ar43 ar44 ar49 ar52 ar54 : Nat) (w : Int32) (s0 : Int64) (h0 : Int32) (hm_mo : mo ∈ L) (hf_mo : f mo = .inr (10, [.int 0, .ref ar1, .int 0, .int 0, .int 0, .int 0, .int 0, .ref ar7, .int 0, .int 0, .ref ar10, .ref ar11, .int 0, .int 0, .int 0, .int 0, .int 0, .int 0, .int 0, .int 0, .int 0, .long 0, .long 0, .int 0, .ref ar24, .int 0, .ref ar26, .ref ar27, .ref ar28, .ref ar29, .ref ar30, .ref ar31, .ref ar32, .ref ar33, .ref ar34, .ref ar35, .int 0, .int 0, .int 0, .int 0, .int 0, .ref ar41, .ref ar42, .ref ar43, .ref ar44, .long 0, .long 0, .int 0, .int 0, .ref ar49, .int 0, .int 0, .ref ar52, .int 0, .ref ar54, .int 0])) : MtI l g yX11_byChance cX11_byChance 14 (some .int) ({ frames := 0, cells := 0, slots := 0, locals := 0 }) [.ref mo, .int w, .long s0, .int h0] L f sz (fun r _ => r = (-2)) := by
  refine MtI.of (by decide +kernel) (Nat.le_of_ble_eq_true rfl) ?_
  intro p e s m below meth c A hEn hP hD hS ls hl
  obtain ⟨hx, hb, hr, hml, hown, hlocks, hts, hG, hA, hE, hnm⟩ := hEn
  have hown : s.vm.findClass "RulerWordModel" = some m.cls := hown
  have hl : lv_has ls 14 [(0, .ref mo), (1, .int w), (2, .long s0), (4, .int h0)] := hl
  refine lv_aload_n hx hb dX11_byChance_0 rfl (lv_at hl 0 rfl) ?_
  refine lv_iconst (v := 0) hx hb dX11_byChance_1 (by decide) ?_
  refine pl_put (ty := .int) (v := .int 0) (fs' := [.int 0, .ref ar1, .int 0, .int 0, .int 0, .int 0, .int 0, .ref ar7, .int 0, .int 0, .ref ar10, .ref ar11, .int 0, .int 0, .int 0, .int 0, .int 0, .int 0, .int 0, .int 0, .int 0, .long 0, .long 0, .int 0, .ref ar24, .int 0, .ref ar26, .ref ar27, .ref ar28, .ref ar29, .ref ar30, .ref ar31, .ref ar32, .ref ar33, .ref ar34, .ref ar35, .int 0, .int 0, .int 0, .int 0, .int 0, .ref ar41, .ref ar42, .ref ar43, .ref ar44, .long 0, .long 0, .int 0, .int 0, .ref ar49, .int 0, .int 0, .ref ar52, .int 0, .ref ar54, .int 0]) hx hb hts (fun w h => mT (inX11 w h)) tyX11 tyX11_ok nmX11 hown hG.1 hP hD hS hm_mo hf_mo rfl 0 (by decide) (hts _ (mT wg_1336)) (fun _ h => h) rfl (by decide +kernel) (rfl) (rfl) (Nat.le_of_ble_eq_true rfl) rfl dX11_byChance_2 (fun H locs f1 hf3 ho2 hP hD hS => ?_)
  refine lv_aload_n hx hb dX11_byChance_5 rfl (lv_at hl 0 rfl) ?_
  refine pl_get (v := .int 0) hx hb hts (fun w h => mT (inX11 w h)) hown hG.1 hP hm_mo hf3 rfl 23 (by decide) (hts _ (mT wg_1359)) (fun _ h => h) rfl dX11_byChance_6 ?_
  refine lv_if_eq (tgt := 37) hx hb dX11_byChance_9 (by decide) (fun c4 => ?_) (fun c4 => absurd (by decide) c4)
  refine lv_bipush (v := (-2)) hx hb dX11_byChance_37 (by decide) ?_
  exact ret_i (ty := .int) hx hb hr hlocks (rfl) hP hD hS (Nat.le_of_ble_eq_true rfl) (Nat.le_of_ble_eq_true rfl) (rfl) dX11_byChance_39

set_option maxHeartbeats 4000000 in
set_option maxRecDepth 100000 in
theorem k_X11_undo (l : Launch) (g : GG) (L : List Nat) (f : HP) (sz : Nat) (mo ar1 ar7 ar10 ar11 ar24 ar26 ar27 ar28 ar29 ar30 ar31 ar32 ar33 ar34 ar35 ar41 ar42 ar43 ar44 ar49 ar52 ar54 : Nat) (hm_mo : mo ∈ L) (hf_mo : f mo = .inr (10, [.int 0, .ref ar1, .int 0, .int 0, .int 0, .int 0, .int 0, .ref ar7, .int 0, .int 0, .ref ar10, .ref ar11, .int 0, .int 0, .int 0, .int 0, .int 0, .int 0, .int 0, .int 0, .int 0, .long 0, .long 0, .int 0, .ref ar24, .int 0, .ref ar26, .ref ar27, .ref ar28, .ref ar29, .ref ar30, .ref ar31, .ref ar32, .ref ar33, .ref ar34, .ref ar35, .int 0, .int 0, .int 0, .int 0, .int 0, .ref ar41, .ref ar42, .ref ar43, .ref ar44, .long 0, .long 0, .int 0, .int 0, .ref ar49, .int 0, .int 0, .ref ar52, .int 0, .ref ar54, .int 0])) : MtI l g yX11_undo cX11_undo 2 (some .int) ({ frames := 0, cells := 0, slots := 0, locals := 0 }) [.ref mo] L f sz (fun r _ => r = (-1)) := by
  refine MtI.of (by decide +kernel) (Nat.le_of_ble_eq_true rfl) ?_
  intro p e s m below meth c A hEn hP hD hS ls hl
  obtain ⟨hx, hb, hr, hml, hown, hlocks, hts, hG, hA, hE, hnm⟩ := hEn
  have hown : s.vm.findClass "RulerWordModel" = some m.cls := hown
  have hl : lv_has ls 2 [(0, .ref mo)] := hl
  refine lv_aload_n hx hb dX11_undo_0 rfl (lv_at hl 0 rfl) ?_
  refine lv_iconst (v := 0) hx hb dX11_undo_1 (by decide) ?_
  refine pl_put (ty := .int) (v := .int 0) (fs' := [.int 0, .ref ar1, .int 0, .int 0, .int 0, .int 0, .int 0, .ref ar7, .int 0, .int 0, .ref ar10, .ref ar11, .int 0, .int 0, .int 0, .int 0, .int 0, .int 0, .int 0, .int 0, .int 0, .long 0, .long 0, .int 0, .ref ar24, .int 0, .ref ar26, .ref ar27, .ref ar28, .ref ar29, .ref ar30, .ref ar31, .ref ar32, .ref ar33, .ref ar34, .ref ar35, .int 0, .int 0, .int 0, .int 0, .int 0, .ref ar41, .ref ar42, .ref ar43, .ref ar44, .long 0, .long 0, .int 0, .int 0, .ref ar49, .int 0, .int 0, .ref ar52, .int 0, .ref ar54, .int 0]) hx hb hts (fun w h => mT (inX11 w h)) tyX11 tyX11_ok nmX11 hown hG.1 hP hD hS hm_mo hf_mo rfl 0 (by decide) (hts _ (mT wg_1336)) (fun _ h => h) rfl (by decide +kernel) (rfl) (rfl) (Nat.le_of_ble_eq_true rfl) rfl dX11_undo_2 (fun H locs f1 hf3 ho2 hP hD hS => ?_)
  refine lv_aload_n hx hb dX11_undo_5 rfl (lv_at hl 0 rfl) ?_
  refine pl_get (v := .int 0) hx hb hts (fun w h => mT (inX11 w h)) hown hG.1 hP hm_mo hf3 rfl 47 (by decide) (hts _ (mT wg_1383)) (fun _ h => h) rfl dX11_undo_6 ?_
  refine lv_if_ne (tgt := 14) hx hb dX11_undo_9 (by decide) (fun c4 => absurd rfl c4) (fun c4 => ?_)
  refine lv_iconst (v := (-1)) hx hb dX11_undo_12 (by decide) ?_
  exact ret_i (ty := .int) hx hb hr hlocks (rfl) hP hD hS (Nat.le_of_ble_eq_true rfl) (Nat.le_of_ble_eq_true rfl) (rfl) dX11_undo_13

set_option maxHeartbeats 4000000 in
set_option maxRecDepth 100000 in
theorem k_X11_image (l : Launch) (g : GG) (L : List Nat) (f : HP) (sz : Nat) (mo ar1 ar7 ar10 ar11 ar24 ar26 ar27 ar28 ar29 ar30 ar31 ar32 ar33 ar34 ar35 ar41 ar42 ar43 ar44 ar49 ar52 ar54 : Nat) (hm_mo : mo ∈ L) (hf_mo : f mo = .inr (10, [.int 0, .ref ar1, .int 0, .int 0, .int 0, .int 0, .int 0, .ref ar7, .int 0, .int 0, .ref ar10, .ref ar11, .int 0, .int 0, .int 0, .int 0, .int 0, .int 0, .int 0, .int 0, .int 0, .long 0, .long 0, .int 0, .ref ar24, .int 0, .ref ar26, .ref ar27, .ref ar28, .ref ar29, .ref ar30, .ref ar31, .ref ar32, .ref ar33, .ref ar34, .ref ar35, .int 0, .int 0, .int 0, .int 0, .int 0, .ref ar41, .ref ar42, .ref ar43, .ref ar44, .long 0, .long 0, .int 0, .int 0, .ref ar49, .int 0, .int 0, .ref ar52, .int 0, .ref ar54, .int 0])) : MtI l g yX11_image cX11_image 2 (some .int) ({ frames := 0, cells := 0, slots := 0, locals := 0 }) [.ref mo] L f sz (fun r _ => r = (-1)) := by
  refine MtI.of (by decide +kernel) (Nat.le_of_ble_eq_true rfl) ?_
  intro p e s m below meth c A hEn hP hD hS ls hl
  obtain ⟨hx, hb, hr, hml, hown, hlocks, hts, hG, hA, hE, hnm⟩ := hEn
  have hown : s.vm.findClass "RulerWordModel" = some m.cls := hown
  have hl : lv_has ls 2 [(0, .ref mo)] := hl
  refine lv_aload_n hx hb dX11_image_0 rfl (lv_at hl 0 rfl) ?_
  refine lv_iconst (v := 0) hx hb dX11_image_1 (by decide) ?_
  refine pl_put (ty := .int) (v := .int 0) (fs' := [.int 0, .ref ar1, .int 0, .int 0, .int 0, .int 0, .int 0, .ref ar7, .int 0, .int 0, .ref ar10, .ref ar11, .int 0, .int 0, .int 0, .int 0, .int 0, .int 0, .int 0, .int 0, .int 0, .long 0, .long 0, .int 0, .ref ar24, .int 0, .ref ar26, .ref ar27, .ref ar28, .ref ar29, .ref ar30, .ref ar31, .ref ar32, .ref ar33, .ref ar34, .ref ar35, .int 0, .int 0, .int 0, .int 0, .int 0, .ref ar41, .ref ar42, .ref ar43, .ref ar44, .long 0, .long 0, .int 0, .int 0, .ref ar49, .int 0, .int 0, .ref ar52, .int 0, .ref ar54, .int 0]) hx hb hts (fun w h => mT (inX11 w h)) tyX11 tyX11_ok nmX11 hown hG.1 hP hD hS hm_mo hf_mo rfl 0 (by decide) (hts _ (mT wg_1336)) (fun _ h => h) rfl (by decide +kernel) (rfl) (rfl) (Nat.le_of_ble_eq_true rfl) rfl dX11_image_2 (fun H locs f1 hf3 ho2 hP hD hS => ?_)
  refine lv_aload_n hx hb dX11_image_5 rfl (lv_at hl 0 rfl) ?_
  refine pl_get (v := .int 0) hx hb hts (fun w h => mT (inX11 w h)) hown hG.1 hP hm_mo hf3 rfl 23 (by decide) (hts _ (mT wg_1359)) (fun _ h => h) rfl dX11_image_6 ?_
  refine lv_if_ne (tgt := 14) hx hb dX11_image_9 (by decide) (fun c4 => absurd rfl c4) (fun c4 => ?_)
  refine lv_iconst (v := (-1)) hx hb dX11_image_12 (by decide) ?_
  exact ret_i (ty := .int) hx hb hr hlocks (rfl) hP hD hS (Nat.le_of_ble_eq_true rfl) (Nat.le_of_ble_eq_true rfl) (rfl) dX11_image_13

set_option maxHeartbeats 4000000 in
set_option maxRecDepth 100000 in
theorem k_X11_back (l : Launch) (g : GG) (L : List Nat) (f : HP) (sz : Nat) (mo ar1 ar7 ar10 ar11 ar24 ar26 ar27 ar28 ar29 ar30 ar31 ar32 ar33 ar34 ar35 ar41 ar42 ar43 ar44 ar49 ar52 ar54 : Nat) (hm_mo : mo ∈ L) (hf_mo : f mo = .inr (10, [.int 0, .ref ar1, .int 0, .int 0, .int 0, .int 0, .int 0, .ref ar7, .int 0, .int 0, .ref ar10, .ref ar11, .int 0, .int 0, .int 0, .int 0, .int 0, .int 0, .int 0, .int 0, .int 0, .long 0, .long 0, .int 0, .ref ar24, .int 0, .ref ar26, .ref ar27, .ref ar28, .ref ar29, .ref ar30, .ref ar31, .ref ar32, .ref ar33, .ref ar34, .ref ar35, .int 0, .int 0, .int 0, .int 0, .int 0, .ref ar41, .ref ar42, .ref ar43, .ref ar44, .long 0, .long 0, .int 0, .int 0, .ref ar49, .int 0, .int 0, .ref ar52, .int 0, .ref ar54, .int 0])) : MtI l g yX11_back cX11_back 2 (some .int) ({ frames := 0, cells := 0, slots := 0, locals := 0 }) [.ref mo] L f sz (fun r _ => r = (-1)) := by
  refine MtI.of (by decide +kernel) (Nat.le_of_ble_eq_true rfl) ?_
  intro p e s m below meth c A hEn hP hD hS ls hl
  obtain ⟨hx, hb, hr, hml, hown, hlocks, hts, hG, hA, hE, hnm⟩ := hEn
  have hown : s.vm.findClass "RulerWordModel" = some m.cls := hown
  have hl : lv_has ls 2 [(0, .ref mo)] := hl
  refine lv_aload_n hx hb dX11_back_0 rfl (lv_at hl 0 rfl) ?_
  refine lv_iconst (v := 0) hx hb dX11_back_1 (by decide) ?_
  refine pl_put (ty := .int) (v := .int 0) (fs' := [.int 0, .ref ar1, .int 0, .int 0, .int 0, .int 0, .int 0, .ref ar7, .int 0, .int 0, .ref ar10, .ref ar11, .int 0, .int 0, .int 0, .int 0, .int 0, .int 0, .int 0, .int 0, .int 0, .long 0, .long 0, .int 0, .ref ar24, .int 0, .ref ar26, .ref ar27, .ref ar28, .ref ar29, .ref ar30, .ref ar31, .ref ar32, .ref ar33, .ref ar34, .ref ar35, .int 0, .int 0, .int 0, .int 0, .int 0, .ref ar41, .ref ar42, .ref ar43, .ref ar44, .long 0, .long 0, .int 0, .int 0, .ref ar49, .int 0, .int 0, .ref ar52, .int 0, .ref ar54, .int 0]) hx hb hts (fun w h => mT (inX11 w h)) tyX11 tyX11_ok nmX11 hown hG.1 hP hD hS hm_mo hf_mo rfl 0 (by decide) (hts _ (mT wg_1336)) (fun _ h => h) rfl (by decide +kernel) (rfl) (rfl) (Nat.le_of_ble_eq_true rfl) rfl dX11_back_2 (fun H locs f1 hf3 ho2 hP hD hS => ?_)
  refine lv_aload_n hx hb dX11_back_5 rfl (lv_at hl 0 rfl) ?_
  refine pl_get (v := .int 0) hx hb hts (fun w h => mT (inX11 w h)) hown hG.1 hP hm_mo hf3 rfl 48 (by decide) (hts _ (mT wg_1384)) (fun _ h => h) rfl dX11_back_6 ?_
  refine lv_if_ne (tgt := 14) hx hb dX11_back_9 (by decide) (fun c4 => absurd rfl c4) (fun c4 => ?_)
  refine lv_iconst (v := (-1)) hx hb dX11_back_12 (by decide) ?_
  exact ret_i (ty := .int) hx hb hr hlocks (rfl) hP hD hS (Nat.le_of_ble_eq_true rfl) (Nat.le_of_ble_eq_true rfl) (rfl) dX11_back_13

set_option maxHeartbeats 4000000 in
set_option maxRecDepth 100000 in
theorem k_X11_most (l : Launch) (g : GG) (L : List Nat) (f : HP) (sz : Nat) (mo ar1 ar7 ar10 ar11 ar24 ar26 ar27 ar28 ar29 ar30 ar31 ar32 ar33 ar34 ar35 ar41 ar42 ar43 ar44 ar49 ar52 ar54 : Nat) (w : Int32) (hm_mo : mo ∈ L) (hf_mo : f mo = .inr (10, [.int 0, .ref ar1, .int 0, .int 0, .int 0, .int 0, .int 0, .ref ar7, .int 0, .int 0, .ref ar10, .ref ar11, .int 0, .int 0, .int 0, .int 0, .int 0, .int 0, .int 0, .int 0, .int 0, .long 0, .long 0, .int 0, .ref ar24, .int 0, .ref ar26, .ref ar27, .ref ar28, .ref ar29, .ref ar30, .ref ar31, .ref ar32, .ref ar33, .ref ar34, .ref ar35, .int 0, .int 0, .int 0, .int 0, .int 0, .ref ar41, .ref ar42, .ref ar43, .ref ar44, .long 0, .long 0, .int 0, .int 0, .ref ar49, .int 0, .int 0, .ref ar52, .int 0, .ref ar54, .int 0])) : MtI l g yX11_most cX11_most 5 (some .int) ({ frames := 0, cells := 0, slots := 0, locals := 0 }) [.ref mo, .int w] L f sz (fun r _ => r = (-1)) := by
  refine MtI.of (by decide +kernel) (Nat.le_of_ble_eq_true rfl) ?_
  intro p e s m below meth c A hEn hP hD hS ls hl
  obtain ⟨hx, hb, hr, hml, hown, hlocks, hts, hG, hA, hE, hnm⟩ := hEn
  have hown : s.vm.findClass "RulerWordModel" = some m.cls := hown
  have hl : lv_has ls 5 [(0, .ref mo), (1, .int w)] := hl
  refine lv_aload_n hx hb dX11_most_0 rfl (lv_at hl 0 rfl) ?_
  refine lv_iconst (v := 0) hx hb dX11_most_1 (by decide) ?_
  refine pl_put (ty := .int) (v := .int 0) (fs' := [.int 0, .ref ar1, .int 0, .int 0, .int 0, .int 0, .int 0, .ref ar7, .int 0, .int 0, .ref ar10, .ref ar11, .int 0, .int 0, .int 0, .int 0, .int 0, .int 0, .int 0, .int 0, .int 0, .long 0, .long 0, .int 0, .ref ar24, .int 0, .ref ar26, .ref ar27, .ref ar28, .ref ar29, .ref ar30, .ref ar31, .ref ar32, .ref ar33, .ref ar34, .ref ar35, .int 0, .int 0, .int 0, .int 0, .int 0, .ref ar41, .ref ar42, .ref ar43, .ref ar44, .long 0, .long 0, .int 0, .int 0, .ref ar49, .int 0, .int 0, .ref ar52, .int 0, .ref ar54, .int 0]) hx hb hts (fun w h => mT (inX11 w h)) tyX11 tyX11_ok nmX11 hown hG.1 hP hD hS hm_mo hf_mo rfl 0 (by decide) (hts _ (mT wg_1336)) (fun _ h => h) rfl (by decide +kernel) (rfl) (rfl) (Nat.le_of_ble_eq_true rfl) rfl dX11_most_2 (fun H locs f1 hf3 ho2 hP hD hS => ?_)
  refine lv_aload_n hx hb dX11_most_5 rfl (lv_at hl 0 rfl) ?_
  refine pl_get (v := .int 0) hx hb hts (fun w h => mT (inX11 w h)) hown hG.1 hP hm_mo hf3 rfl 23 (by decide) (hts _ (mT wg_1359)) (fun _ h => h) rfl dX11_most_6 ?_
  refine lv_if_eq (tgt := 24) hx hb dX11_most_9 (by decide) (fun c4 => ?_) (fun c4 => absurd (by decide) c4)
  refine lv_iconst (v := (-1)) hx hb dX11_most_24 (by decide) ?_
  exact ret_i (ty := .int) hx hb hr hlocks (rfl) hP hD hS (Nat.le_of_ble_eq_true rfl) (Nat.le_of_ble_eq_true rfl) (rfl) dX11_most_25

set_option maxHeartbeats 4000000 in
set_option maxRecDepth 100000 in
theorem k_X11_count (l : Launch) (g : GG) (L : List Nat) (f : HP) (sz : Nat) (mo ar1 ar7 ar10 ar11 ar24 ar26 ar27 ar28 ar29 ar30 ar31 ar32 ar33 ar34 ar35 ar41 ar42 ar43 ar44 ar49 ar52 ar54 : Nat) (w : Int32) (hm_mo : mo ∈ L) (hf_mo : f mo = .inr (10, [.int 0, .ref ar1, .int 0, .int 0, .int 0, .int 0, .int 0, .ref ar7, .int 0, .int 0, .ref ar10, .ref ar11, .int 0, .int 0, .int 0, .int 0, .int 0, .int 0, .int 0, .int 0, .int 0, .long 0, .long 0, .int 0, .ref ar24, .int 0, .ref ar26, .ref ar27, .ref ar28, .ref ar29, .ref ar30, .ref ar31, .ref ar32, .ref ar33, .ref ar34, .ref ar35, .int 0, .int 0, .int 0, .int 0, .int 0, .ref ar41, .ref ar42, .ref ar43, .ref ar44, .long 0, .long 0, .int 0, .int 0, .ref ar49, .int 0, .int 0, .ref ar52, .int 0, .ref ar54, .int 0])) : MtI l g yX11_count cX11_count 2 (some .int) ({ frames := 0, cells := 0, slots := 0, locals := 0 }) [.ref mo, .int w] L f sz (fun r _ => r = cntV w) := by
  refine MtI.of (by decide +kernel) (Nat.le_of_ble_eq_true rfl) ?_
  intro p e s m below meth c A hEn hP hD hS ls hl
  obtain ⟨hx, hb, hr, hml, hown, hlocks, hts, hG, hA, hE, hnm⟩ := hEn
  have hown : s.vm.findClass "RulerWordModel" = some m.cls := hown
  have hl : lv_has ls 2 [(0, .ref mo), (1, .int w)] := hl
  refine lv_aload_n hx hb dX11_count_0 rfl (lv_at hl 0 rfl) ?_
  refine lv_iconst (v := 0) hx hb dX11_count_1 (by decide) ?_
  refine pl_put (ty := .int) (v := .int 0) (fs' := [.int 0, .ref ar1, .int 0, .int 0, .int 0, .int 0, .int 0, .ref ar7, .int 0, .int 0, .ref ar10, .ref ar11, .int 0, .int 0, .int 0, .int 0, .int 0, .int 0, .int 0, .int 0, .int 0, .long 0, .long 0, .int 0, .ref ar24, .int 0, .ref ar26, .ref ar27, .ref ar28, .ref ar29, .ref ar30, .ref ar31, .ref ar32, .ref ar33, .ref ar34, .ref ar35, .int 0, .int 0, .int 0, .int 0, .int 0, .ref ar41, .ref ar42, .ref ar43, .ref ar44, .long 0, .long 0, .int 0, .int 0, .ref ar49, .int 0, .int 0, .ref ar52, .int 0, .ref ar54, .int 0]) hx hb hts (fun w h => mT (inX11 w h)) tyX11 tyX11_ok nmX11 hown hG.1 hP hD hS hm_mo hf_mo rfl 0 (by decide) (hts _ (mT wg_1336)) (fun _ h => h) rfl (by decide +kernel) (rfl) (rfl) (Nat.le_of_ble_eq_true rfl) rfl dX11_count_2 (fun H locs f1 hf3 ho2 hP hD hS => ?_)
  refine lv_iload_n hx hb dX11_count_5 rfl (lv_at hl 1 rfl) ?_
  refine lv_if_ne (tgt := 16) hx hb dX11_count_6 (by decide) (fun c4 => ?_) (fun c4 => ?_)
  ·
    refine lv_iload_n hx hb dX11_count_16 rfl (lv_at hl 1 rfl) ?_
    refine lv_iconst (v := 1) hx hb dX11_count_17 (by decide) ?_
    refine lv_icmp_ne (tgt := 28) hx hb dX11_count_18 (by decide) (fun c5 => ?_) (fun c5 => ?_)
    ·
      refine lv_iload_n hx hb dX11_count_28 rfl (lv_at hl 1 rfl) ?_
      refine lv_iconst (v := 2) hx hb dX11_count_29 (by decide) ?_
      refine lv_icmp_ne (tgt := 54) hx hb dX11_count_30 (by decide) (fun c6 => ?_) (fun c6 => ?_)
      ·
        refine lv_iconst (v := (-1)) hx hb dX11_count_54 (by decide) ?_
        exact ret_i (ty := .int) hx hb hr hlocks (rfl) hP hD hS (Nat.le_of_ble_eq_true rfl) (Nat.le_of_ble_eq_true rfl) (by simp [cntV, c4, c5, c6]) dX11_count_55
      ·
        refine lv_aload_n hx hb dX11_count_33 rfl (lv_at hl 0 rfl) ?_
        refine pl_get (v := .int 0) hx hb hts (fun w h => mT (inX11 w h)) hown hG.1 hP hm_mo hf3 rfl 23 (by decide) (hts _ (mT wg_1359)) (fun _ h => h) rfl dX11_count_34 ?_
        refine lv_if_eq (tgt := 50) hx hb dX11_count_37 (by decide) (fun c7 => ?_) (fun c7 => absurd (by decide) c7)
        refine lv_iconst (v := 0) hx hb dX11_count_50 (by decide) ?_
        refine lv_goto (tgt := 55) hx hb dX11_count_51 (by decide) ?_
        exact ret_i (ty := .int) hx hb hr hlocks (rfl) hP hD hS (Nat.le_of_ble_eq_true rfl) (Nat.le_of_ble_eq_true rfl) (by simp [cntV, c4, c5, c6]) dX11_count_55
    ·
      refine lv_aload_n hx hb dX11_count_21 rfl (lv_at hl 0 rfl) ?_
      refine pl_get (v := .int 0) hx hb hts (fun w h => mT (inX11 w h)) hown hG.1 hP hm_mo hf3 rfl 47 (by decide) (hts _ (mT wg_1383)) (fun _ h => h) rfl dX11_count_22 ?_
      refine lv_goto (tgt := 55) hx hb dX11_count_25 (by decide) ?_
      exact ret_i (ty := .int) hx hb hr hlocks (rfl) hP hD hS (Nat.le_of_ble_eq_true rfl) (Nat.le_of_ble_eq_true rfl) (by simp [cntV, c4, c5]) dX11_count_55
  ·
    refine lv_aload_n hx hb dX11_count_9 rfl (lv_at hl 0 rfl) ?_
    refine pl_get (v := .int 0) hx hb hts (fun w h => mT (inX11 w h)) hown hG.1 hP hm_mo hf3 rfl 2 (by decide) (hts _ (mT wg_1338)) (fun _ h => h) rfl dX11_count_10 ?_
    refine lv_goto (tgt := 55) hx hb dX11_count_13 (by decide) ?_
    exact ret_i (ty := .int) hx hb hr hlocks (rfl) hP hD hS (Nat.le_of_ble_eq_true rfl) (Nat.le_of_ble_eq_true rfl) (by simp [cntV, c4]) dX11_count_55
