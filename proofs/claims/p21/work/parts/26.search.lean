abbrev rm_X2_copy_ru : Room := { frames := 0, cells := 0, slots := 0, locals := 0 }
abbrev po_X2_copy_ru (g : GG) (ad : Nat → Nat) (th : Nat → Int) (L : List Nat) (f : HP)  : (List Nat × HP) → Prop := fun u => u.1 = L ∧ TI g ad th u.2 ∧ (∀ b, b ≠ (ad 8) → u.2 b = f b)
set_option maxHeartbeats 4000000 in
set_option maxRecDepth 100000 in
theorem s_X2_copy_ru (l : Launch) (g : GG) (ad : Nat → Nat) (th : Nat → Int) (L : List Nat) (f : HP) (sz : Nat)  (hst : ST ad L) (hT : TI g ad th f)  : MtV l g yX2_copy cX2_copy 2 rm_X2_copy_ru [.ref (ad 8), .ref (ad 6)] L f sz (po_X2_copy_ru g ad th L f ) := by
  refine MtV.of (by decide +kernel) (Nat.le_of_ble_eq_true rfl) ?_
  intro p e s m below meth c A hEn hP hD hS ls hl
  obtain ⟨hx, hb, hr, hml, hown, hlocks, hts, hG, hA, hE, hnm⟩ := hEn
  have hown : s.vm.findClass "RulerWord$Council" = some m.cls := hown
  have hl : lv_has ls 2 [(0, .ref (ad 8)), (1, .ref (ad 6))] := hl
  have hfr : (∀ b, b ≠ (ad 8) → f b = f b) := fun b z0_ => rfl
  refine lv_aload_n hx hb dX2_copy_0 rfl (lv_at hl 0 rfl) ?_
  refine lv_aload_n hx hb dX2_copy_1 rfl (lv_at hl 1 rfl) ?_
  obtain ⟨v0_1, v1_1, v2_1, v3_1, v4_1, v5_1, v6_1, v7_1, hf2, hv0_1, hg0_1, hv1_1, hg1_1, hv2_1, hv3_1, hv5_1, hv6_1, hrel0_1⟩ := hT.1 6 (by decide)
  refine pl_get (v := .int v0_1) hx hb hts (fun w h => mT (inX2 w h)) hown hG.1 hP (hst.1 6 (by decide)) hf2 rfl 0 (by decide) (hts _ (mT wg_224)) (fun _ h => h) rfl dX2_copy_2 ?_
  obtain ⟨v0_3, v1_3, v2_3, v3_3, v4_3, v5_3, v6_3, v7_3, hf4, hv0_3, hv1_3, hv2_3, hv3_3, hv5_3, hv6_3⟩ := hT.1 8 (by decide)
  refine pl_put (ty := .int) (v := .int v0_1) (fs' := [.int v0_1, .int v1_3, .int v2_3, .int v3_3, .int v4_3, .int v5_3, .int v6_3, .int v7_3]) hx hb hts (fun w h => mT (inX2 w h)) tyX2 tyX2_ok nmX2 hown hG.1 hP hD hS (hst.1 8 (by decide)) hf4 rfl 0 (by decide) (hts _ (mT wg_224)) (fun _ h => h) rfl (by decide +kernel) (rfl) (rfl) (Nat.le_of_ble_eq_true rfl) rfl dX2_copy_5 (fun H locs f5 hf6 ho7 hP hD hS => ?_)
  have hf8 := (ho7 (ad 6) (hst.ne (by decide) (by decide) (by decide))).trans hf2
  have hfr : (∀ b, b ≠ (ad 8) → f5 b = f b) := fun b z0_ => (ho7 b z0_).trans (hfr b z0_)
  refine lv_aload_n hx hb dX2_copy_8 rfl (lv_at hl 0 rfl) ?_
  refine lv_aload_n hx hb dX2_copy_9 rfl (lv_at hl 1 rfl) ?_
  refine pl_get (v := .int v1_1) hx hb hts (fun w h => mT (inX2 w h)) hown hG.1 hP (hst.1 6 (by decide)) hf8 rfl 1 (by decide) (hts _ (mT wg_228)) (fun _ h => h) rfl dX2_copy_10 ?_
  refine pl_put (ty := .int) (v := .int v1_1) (fs' := [.int v0_1, .int v1_1, .int v2_3, .int v3_3, .int v4_3, .int v5_3, .int v6_3, .int v7_3]) hx hb hts (fun w h => mT (inX2 w h)) tyX2 tyX2_ok nmX2 hown hG.1 hP hD hS (hst.1 8 (by decide)) hf6 rfl 1 (by decide) (hts _ (mT wg_228)) (fun _ h => h) rfl (by decide +kernel) (rfl) (rfl) (Nat.le_of_ble_eq_true rfl) rfl dX2_copy_13 (fun H locs f9 hf10 ho11 hP hD hS => ?_)
  have hf12 := (ho11 (ad 6) (hst.ne (by decide) (by decide) (by decide))).trans hf8
  have ho13 : ∀ b, b ≠ (ad 8) → f9 b = _ := fun b hb => (ho11 b hb).trans (ho7 b hb)
  have hfr : (∀ b, b ≠ (ad 8) → f9 b = f b) := fun b z0_ => (ho11 b z0_).trans (hfr b z0_)
  refine lv_aload_n hx hb dX2_copy_16 rfl (lv_at hl 0 rfl) ?_
  refine lv_aload_n hx hb dX2_copy_17 rfl (lv_at hl 1 rfl) ?_
  refine pl_get (v := .int v2_1) hx hb hts (fun w h => mT (inX2 w h)) hown hG.1 hP (hst.1 6 (by decide)) hf12 rfl 2 (by decide) (hts _ (mT wg_232)) (fun _ h => h) rfl dX2_copy_18 ?_
  refine pl_put (ty := .int) (v := .int v2_1) (fs' := [.int v0_1, .int v1_1, .int v2_1, .int v3_3, .int v4_3, .int v5_3, .int v6_3, .int v7_3]) hx hb hts (fun w h => mT (inX2 w h)) tyX2 tyX2_ok nmX2 hown hG.1 hP hD hS (hst.1 8 (by decide)) hf10 rfl 2 (by decide) (hts _ (mT wg_232)) (fun _ h => h) rfl (by decide +kernel) (rfl) (rfl) (Nat.le_of_ble_eq_true rfl) rfl dX2_copy_21 (fun H locs f14 hf15 ho16 hP hD hS => ?_)
  have hf17 := (ho16 (ad 6) (hst.ne (by decide) (by decide) (by decide))).trans hf12
  have ho18 : ∀ b, b ≠ (ad 8) → f14 b = _ := fun b hb => (ho16 b hb).trans (ho13 b hb)
  have hfr : (∀ b, b ≠ (ad 8) → f14 b = f b) := fun b z0_ => (ho16 b z0_).trans (hfr b z0_)
  refine lv_aload_n hx hb dX2_copy_24 rfl (lv_at hl 0 rfl) ?_
  refine lv_aload_n hx hb dX2_copy_25 rfl (lv_at hl 1 rfl) ?_
  refine pl_get (v := .int v3_1) hx hb hts (fun w h => mT (inX2 w h)) hown hG.1 hP (hst.1 6 (by decide)) hf17 rfl 3 (by decide) (hts _ (mT wg_234)) (fun _ h => h) rfl dX2_copy_26 ?_
  refine pl_put (ty := .int) (v := .int v3_1) (fs' := [.int v0_1, .int v1_1, .int v2_1, .int v3_1, .int v4_3, .int v5_3, .int v6_3, .int v7_3]) hx hb hts (fun w h => mT (inX2 w h)) tyX2 tyX2_ok nmX2 hown hG.1 hP hD hS (hst.1 8 (by decide)) hf15 rfl 3 (by decide) (hts _ (mT wg_234)) (fun _ h => h) rfl (by decide +kernel) (rfl) (rfl) (Nat.le_of_ble_eq_true rfl) rfl dX2_copy_29 (fun H locs f19 hf20 ho21 hP hD hS => ?_)
  have hf22 := (ho21 (ad 6) (hst.ne (by decide) (by decide) (by decide))).trans hf17
  have ho23 : ∀ b, b ≠ (ad 8) → f19 b = _ := fun b hb => (ho21 b hb).trans (ho18 b hb)
  have hfr : (∀ b, b ≠ (ad 8) → f19 b = f b) := fun b z0_ => (ho21 b z0_).trans (hfr b z0_)
  refine lv_aload_n hx hb dX2_copy_32 rfl (lv_at hl 0 rfl) ?_
  refine lv_aload_n hx hb dX2_copy_33 rfl (lv_at hl 1 rfl) ?_
  refine pl_get (v := .int v4_1) hx hb hts (fun w h => mT (inX2 w h)) hown hG.1 hP (hst.1 6 (by decide)) hf22 rfl 4 (by decide) (hts _ (mT wg_237)) (fun _ h => h) rfl dX2_copy_34 ?_
  refine pl_put (ty := .int) (v := .int v4_1) (fs' := [.int v0_1, .int v1_1, .int v2_1, .int v3_1, .int v4_1, .int v5_3, .int v6_3, .int v7_3]) hx hb hts (fun w h => mT (inX2 w h)) tyX2 tyX2_ok nmX2 hown hG.1 hP hD hS (hst.1 8 (by decide)) hf20 rfl 4 (by decide) (hts _ (mT wg_237)) (fun _ h => h) rfl (by decide +kernel) (rfl) (rfl) (Nat.le_of_ble_eq_true rfl) rfl dX2_copy_37 (fun H locs f24 hf25 ho26 hP hD hS => ?_)
  have hf27 := (ho26 (ad 6) (hst.ne (by decide) (by decide) (by decide))).trans hf22
  have ho28 : ∀ b, b ≠ (ad 8) → f24 b = _ := fun b hb => (ho26 b hb).trans (ho23 b hb)
  have hfr : (∀ b, b ≠ (ad 8) → f24 b = f b) := fun b z0_ => (ho26 b z0_).trans (hfr b z0_)
  refine lv_aload_n hx hb dX2_copy_40 rfl (lv_at hl 0 rfl) ?_
  refine lv_aload_n hx hb dX2_copy_41 rfl (lv_at hl 1 rfl) ?_
  refine pl_get (v := .int v5_1) hx hb hts (fun w h => mT (inX2 w h)) hown hG.1 hP (hst.1 6 (by decide)) hf27 rfl 5 (by decide) (hts _ (mT wg_239)) (fun _ h => h) rfl dX2_copy_42 ?_
  refine pl_put (ty := .int) (v := .int v5_1) (fs' := [.int v0_1, .int v1_1, .int v2_1, .int v3_1, .int v4_1, .int v5_1, .int v6_3, .int v7_3]) hx hb hts (fun w h => mT (inX2 w h)) tyX2 tyX2_ok nmX2 hown hG.1 hP hD hS (hst.1 8 (by decide)) hf25 rfl 5 (by decide) (hts _ (mT wg_239)) (fun _ h => h) rfl (by decide +kernel) (rfl) (rfl) (Nat.le_of_ble_eq_true rfl) rfl dX2_copy_45 (fun H locs f29 hf30 ho31 hP hD hS => ?_)
  have hf32 := (ho31 (ad 6) (hst.ne (by decide) (by decide) (by decide))).trans hf27
  have ho33 : ∀ b, b ≠ (ad 8) → f29 b = _ := fun b hb => (ho31 b hb).trans (ho28 b hb)
  have hfr : (∀ b, b ≠ (ad 8) → f29 b = f b) := fun b z0_ => (ho31 b z0_).trans (hfr b z0_)
  refine lv_aload_n hx hb dX2_copy_48 rfl (lv_at hl 0 rfl) ?_
  refine lv_aload_n hx hb dX2_copy_49 rfl (lv_at hl 1 rfl) ?_
  refine pl_get (v := .int v6_1) hx hb hts (fun w h => mT (inX2 w h)) hown hG.1 hP (hst.1 6 (by decide)) hf32 rfl 6 (by decide) (hts _ (mT wg_241)) (fun _ h => h) rfl dX2_copy_50 ?_
  refine pl_put (ty := .boolean) (v := .int v6_1) (fs' := [.int v0_1, .int v1_1, .int v2_1, .int v3_1, .int v4_1, .int v5_1, .int v6_1, .int v7_3]) hx hb hts (fun w h => mT (inX2 w h)) tyX2 tyX2_ok nmX2 hown hG.1 hP hD hS (hst.1 8 (by decide)) hf30 rfl 6 (by decide) (hts _ (mT wg_241)) (fun _ h => h) rfl (by decide +kernel) (nar_z hv6_1) (fit_z hv6_1) (Nat.le_of_ble_eq_true rfl) rfl dX2_copy_53 (fun H locs f34 hf35 ho36 hP hD hS => ?_)
  have hf37 := (ho36 (ad 6) (hst.ne (by decide) (by decide) (by decide))).trans hf32
  have ho38 : ∀ b, b ≠ (ad 8) → f34 b = _ := fun b hb => (ho36 b hb).trans (ho33 b hb)
  have hfr : (∀ b, b ≠ (ad 8) → f34 b = f b) := fun b z0_ => (ho36 b z0_).trans (hfr b z0_)
  have hT := TI.updA hT hst (k := 8) (by decide) hf35 ho38 ⟨v0_1, v1_1, v2_1, v3_1, v4_1, v5_1, v6_1, v7_3, rfl, hv0_1, hv1_1, hv2_1, hv3_1, (In.mono hv5_1 (by decide) (by decide)), hv6_1⟩
  exact ret_v hx hb hr hlocks hP hD hS (Nat.le_of_ble_eq_true rfl) (Nat.le_of_ble_eq_true rfl) (⟨rfl, hT, hfr⟩) dX2_copy_56

abbrev rm_X2_copy_ot : Room := { frames := 0, cells := 0, slots := 0, locals := 0 }
abbrev po_X2_copy_ot (g : GG) (ad : Nat → Nat) (th : Nat → Int) (L : List Nat) (f : HP)  : (List Nat × HP) → Prop := fun u => u.1 = L ∧ TI g ad (gset th 4 (th 2)) u.2 ∧ (∀ b, b ≠ (ad 7) → u.2 b = f b)
set_option maxHeartbeats 4000000 in
set_option maxRecDepth 100000 in
theorem s_X2_copy_ot (l : Launch) (g : GG) (ad : Nat → Nat) (th : Nat → Int) (L : List Nat) (f : HP) (sz : Nat)  (hst : ST ad L) (hT : TI g ad th f)  : MtV l g yX2_copy cX2_copy 2 rm_X2_copy_ot [.ref (ad 7), .ref (ad 6)] L f sz (po_X2_copy_ot g ad th L f ) := by
  refine MtV.of (by decide +kernel) (Nat.le_of_ble_eq_true rfl) ?_
  intro p e s m below meth c A hEn hP hD hS ls hl
  obtain ⟨hx, hb, hr, hml, hown, hlocks, hts, hG, hA, hE, hnm⟩ := hEn
  have hown : s.vm.findClass "RulerWord$Council" = some m.cls := hown
  have hl : lv_has ls 2 [(0, .ref (ad 7)), (1, .ref (ad 6))] := hl
  have hfr : (∀ b, b ≠ (ad 7) → f b = f b) := fun b z0_ => rfl
  refine lv_aload_n hx hb dX2_copy_0 rfl (lv_at hl 0 rfl) ?_
  refine lv_aload_n hx hb dX2_copy_1 rfl (lv_at hl 1 rfl) ?_
  obtain ⟨v0_1, v1_1, v2_1, v3_1, v4_1, v5_1, v6_1, v7_1, hf2, hv0_1, hg0_1, hv1_1, hg1_1, hv2_1, hv3_1, hv5_1, hv6_1, hrel0_1⟩ := hT.1 6 (by decide)
  refine pl_get (v := .int v0_1) hx hb hts (fun w h => mT (inX2 w h)) hown hG.1 hP (hst.1 6 (by decide)) hf2 rfl 0 (by decide) (hts _ (mT wg_224)) (fun _ h => h) rfl dX2_copy_2 ?_
  obtain ⟨v0_3, v1_3, v2_3, v3_3, v4_3, v5_3, v6_3, v7_3, hf4, hv0_3, hg0_3, hv1_3, hv2_3, hv3_3, hv5_3, hv6_3⟩ := hT.1 7 (by decide)
  refine pl_put (ty := .int) (v := .int v0_1) (fs' := [.int v0_1, .int v1_3, .int v2_3, .int v3_3, .int v4_3, .int v5_3, .int v6_3, .int v7_3]) hx hb hts (fun w h => mT (inX2 w h)) tyX2 tyX2_ok nmX2 hown hG.1 hP hD hS (hst.1 7 (by decide)) hf4 rfl 0 (by decide) (hts _ (mT wg_224)) (fun _ h => h) rfl (by decide +kernel) (rfl) (rfl) (Nat.le_of_ble_eq_true rfl) rfl dX2_copy_5 (fun H locs f5 hf6 ho7 hP hD hS => ?_)
  have hf8 := (ho7 (ad 6) (hst.ne (by decide) (by decide) (by decide))).trans hf2
  have hfr : (∀ b, b ≠ (ad 7) → f5 b = f b) := fun b z0_ => (ho7 b z0_).trans (hfr b z0_)
  refine lv_aload_n hx hb dX2_copy_8 rfl (lv_at hl 0 rfl) ?_
  refine lv_aload_n hx hb dX2_copy_9 rfl (lv_at hl 1 rfl) ?_
  refine pl_get (v := .int v1_1) hx hb hts (fun w h => mT (inX2 w h)) hown hG.1 hP (hst.1 6 (by decide)) hf8 rfl 1 (by decide) (hts _ (mT wg_228)) (fun _ h => h) rfl dX2_copy_10 ?_
  refine pl_put (ty := .int) (v := .int v1_1) (fs' := [.int v0_1, .int v1_1, .int v2_3, .int v3_3, .int v4_3, .int v5_3, .int v6_3, .int v7_3]) hx hb hts (fun w h => mT (inX2 w h)) tyX2 tyX2_ok nmX2 hown hG.1 hP hD hS (hst.1 7 (by decide)) hf6 rfl 1 (by decide) (hts _ (mT wg_228)) (fun _ h => h) rfl (by decide +kernel) (rfl) (rfl) (Nat.le_of_ble_eq_true rfl) rfl dX2_copy_13 (fun H locs f9 hf10 ho11 hP hD hS => ?_)
  have hf12 := (ho11 (ad 6) (hst.ne (by decide) (by decide) (by decide))).trans hf8
  have ho13 : ∀ b, b ≠ (ad 7) → f9 b = _ := fun b hb => (ho11 b hb).trans (ho7 b hb)
  have hfr : (∀ b, b ≠ (ad 7) → f9 b = f b) := fun b z0_ => (ho11 b z0_).trans (hfr b z0_)
  refine lv_aload_n hx hb dX2_copy_16 rfl (lv_at hl 0 rfl) ?_
  refine lv_aload_n hx hb dX2_copy_17 rfl (lv_at hl 1 rfl) ?_
  refine pl_get (v := .int v2_1) hx hb hts (fun w h => mT (inX2 w h)) hown hG.1 hP (hst.1 6 (by decide)) hf12 rfl 2 (by decide) (hts _ (mT wg_232)) (fun _ h => h) rfl dX2_copy_18 ?_
  refine pl_put (ty := .int) (v := .int v2_1) (fs' := [.int v0_1, .int v1_1, .int v2_1, .int v3_3, .int v4_3, .int v5_3, .int v6_3, .int v7_3]) hx hb hts (fun w h => mT (inX2 w h)) tyX2 tyX2_ok nmX2 hown hG.1 hP hD hS (hst.1 7 (by decide)) hf10 rfl 2 (by decide) (hts _ (mT wg_232)) (fun _ h => h) rfl (by decide +kernel) (rfl) (rfl) (Nat.le_of_ble_eq_true rfl) rfl dX2_copy_21 (fun H locs f14 hf15 ho16 hP hD hS => ?_)
  have hf17 := (ho16 (ad 6) (hst.ne (by decide) (by decide) (by decide))).trans hf12
  have ho18 : ∀ b, b ≠ (ad 7) → f14 b = _ := fun b hb => (ho16 b hb).trans (ho13 b hb)
  have hfr : (∀ b, b ≠ (ad 7) → f14 b = f b) := fun b z0_ => (ho16 b z0_).trans (hfr b z0_)
  refine lv_aload_n hx hb dX2_copy_24 rfl (lv_at hl 0 rfl) ?_
  refine lv_aload_n hx hb dX2_copy_25 rfl (lv_at hl 1 rfl) ?_
  refine pl_get (v := .int v3_1) hx hb hts (fun w h => mT (inX2 w h)) hown hG.1 hP (hst.1 6 (by decide)) hf17 rfl 3 (by decide) (hts _ (mT wg_234)) (fun _ h => h) rfl dX2_copy_26 ?_
  refine pl_put (ty := .int) (v := .int v3_1) (fs' := [.int v0_1, .int v1_1, .int v2_1, .int v3_1, .int v4_3, .int v5_3, .int v6_3, .int v7_3]) hx hb hts (fun w h => mT (inX2 w h)) tyX2 tyX2_ok nmX2 hown hG.1 hP hD hS (hst.1 7 (by decide)) hf15 rfl 3 (by decide) (hts _ (mT wg_234)) (fun _ h => h) rfl (by decide +kernel) (rfl) (rfl) (Nat.le_of_ble_eq_true rfl) rfl dX2_copy_29 (fun H locs f19 hf20 ho21 hP hD hS => ?_)
  have hf22 := (ho21 (ad 6) (hst.ne (by decide) (by decide) (by decide))).trans hf17
  have ho23 : ∀ b, b ≠ (ad 7) → f19 b = _ := fun b hb => (ho21 b hb).trans (ho18 b hb)
  have hfr : (∀ b, b ≠ (ad 7) → f19 b = f b) := fun b z0_ => (ho21 b z0_).trans (hfr b z0_)
  refine lv_aload_n hx hb dX2_copy_32 rfl (lv_at hl 0 rfl) ?_
  refine lv_aload_n hx hb dX2_copy_33 rfl (lv_at hl 1 rfl) ?_
  refine pl_get (v := .int v4_1) hx hb hts (fun w h => mT (inX2 w h)) hown hG.1 hP (hst.1 6 (by decide)) hf22 rfl 4 (by decide) (hts _ (mT wg_237)) (fun _ h => h) rfl dX2_copy_34 ?_
  refine pl_put (ty := .int) (v := .int v4_1) (fs' := [.int v0_1, .int v1_1, .int v2_1, .int v3_1, .int v4_1, .int v5_3, .int v6_3, .int v7_3]) hx hb hts (fun w h => mT (inX2 w h)) tyX2 tyX2_ok nmX2 hown hG.1 hP hD hS (hst.1 7 (by decide)) hf20 rfl 4 (by decide) (hts _ (mT wg_237)) (fun _ h => h) rfl (by decide +kernel) (rfl) (rfl) (Nat.le_of_ble_eq_true rfl) rfl dX2_copy_37 (fun H locs f24 hf25 ho26 hP hD hS => ?_)
  have hf27 := (ho26 (ad 6) (hst.ne (by decide) (by decide) (by decide))).trans hf22
  have ho28 : ∀ b, b ≠ (ad 7) → f24 b = _ := fun b hb => (ho26 b hb).trans (ho23 b hb)
  have hfr : (∀ b, b ≠ (ad 7) → f24 b = f b) := fun b z0_ => (ho26 b z0_).trans (hfr b z0_)
  refine lv_aload_n hx hb dX2_copy_40 rfl (lv_at hl 0 rfl) ?_
  refine lv_aload_n hx hb dX2_copy_41 rfl (lv_at hl 1 rfl) ?_
  refine pl_get (v := .int v5_1) hx hb hts (fun w h => mT (inX2 w h)) hown hG.1 hP (hst.1 6 (by decide)) hf27 rfl 5 (by decide) (hts _ (mT wg_239)) (fun _ h => h) rfl dX2_copy_42 ?_
  refine pl_put (ty := .int) (v := .int v5_1) (fs' := [.int v0_1, .int v1_1, .int v2_1, .int v3_1, .int v4_1, .int v5_1, .int v6_3, .int v7_3]) hx hb hts (fun w h => mT (inX2 w h)) tyX2 tyX2_ok nmX2 hown hG.1 hP hD hS (hst.1 7 (by decide)) hf25 rfl 5 (by decide) (hts _ (mT wg_239)) (fun _ h => h) rfl (by decide +kernel) (rfl) (rfl) (Nat.le_of_ble_eq_true rfl) rfl dX2_copy_45 (fun H locs f29 hf30 ho31 hP hD hS => ?_)
  have hf32 := (ho31 (ad 6) (hst.ne (by decide) (by decide) (by decide))).trans hf27
  have ho33 : ∀ b, b ≠ (ad 7) → f29 b = _ := fun b hb => (ho31 b hb).trans (ho28 b hb)
  have hfr : (∀ b, b ≠ (ad 7) → f29 b = f b) := fun b z0_ => (ho31 b z0_).trans (hfr b z0_)
  refine lv_aload_n hx hb dX2_copy_48 rfl (lv_at hl 0 rfl) ?_
  refine lv_aload_n hx hb dX2_copy_49 rfl (lv_at hl 1 rfl) ?_
  refine pl_get (v := .int v6_1) hx hb hts (fun w h => mT (inX2 w h)) hown hG.1 hP (hst.1 6 (by decide)) hf32 rfl 6 (by decide) (hts _ (mT wg_241)) (fun _ h => h) rfl dX2_copy_50 ?_
  refine pl_put (ty := .boolean) (v := .int v6_1) (fs' := [.int v0_1, .int v1_1, .int v2_1, .int v3_1, .int v4_1, .int v5_1, .int v6_1, .int v7_3]) hx hb hts (fun w h => mT (inX2 w h)) tyX2 tyX2_ok nmX2 hown hG.1 hP hD hS (hst.1 7 (by decide)) hf30 rfl 6 (by decide) (hts _ (mT wg_241)) (fun _ h => h) rfl (by decide +kernel) (nar_z hv6_1) (fit_z hv6_1) (Nat.le_of_ble_eq_true rfl) rfl dX2_copy_53 (fun H locs f34 hf35 ho36 hP hD hS => ?_)
  have hf37 := (ho36 (ad 6) (hst.ne (by decide) (by decide) (by decide))).trans hf32
  have ho38 : ∀ b, b ≠ (ad 7) → f34 b = _ := fun b hb => (ho36 b hb).trans (ho33 b hb)
  have hfr : (∀ b, b ≠ (ad 7) → f34 b = f b) := fun b z0_ => (ho36 b z0_).trans (hfr b z0_)
  have hT := TI.updAG (th' := (gset th 4 (th 2))) hT hst (k := 7) (by decide) hf35 ho38 ⟨v0_1, v1_1, v2_1, v3_1, v4_1, v5_1, v6_1, v7_3, rfl, hv0_1, (by simp [gset, hg0_1]), hv1_1, hv2_1, hv3_1, (In.mono hv5_1 (by decide) (by decide)), hv6_1⟩ (fun q hq => ((gset_ne (own_ne hq (k := 4) (by decide) rfl)).trans rfl))
  exact ret_v hx hb hr hlocks hP hD hS (Nat.le_of_ble_eq_true rfl) (Nat.le_of_ble_eq_true rfl) (⟨rfl, hT, hfr⟩) dX2_copy_56

abbrev rm_X7_addChoice : Room := { frames := 0, cells := 0, slots := 0, locals := 0 }
abbrev po_X7_addChoice (g : GG) (ad : Nat → Nat) (th : Nat → Int) (L : List Nat) (f : HP) (z1 : Int32) (z2 : Int32) (z3 : Int32) (z4 : Int32) : Int32 → (List Nat × HP) → Prop := fun r u => u.1 = L ∧ TI g ad th u.2 ∧ (∀ b, b ≠ (ad 21) → b ≠ (ad 22) → u.2 b = f b) ∧ In r 0 9 ∧ (r.toInt ≤ z2.toInt + 1 ∧ 1 ≤ r.toInt)
set_option maxHeartbeats 4000000 in
set_option maxRecDepth 100000 in
theorem s_X7_addChoice (l : Launch) (g : GG) (ad : Nat → Nat) (th : Nat → Int) (L : List Nat) (f : HP) (sz : Nat) (z1 : Int32) (z2 : Int32) (z3 : Int32) (z4 : Int32) (hst : ST ad L) (hT : TI g ad th f) (hz1 : In z1 0 99) (hz2 : In z2 0 8) : MtI l g yX7_addChoice cX7_addChoice 6 (some .int) rm_X7_addChoice [.ref (ad 18), .int z1, .int z2, .int z3, .int z4] L f sz (po_X7_addChoice g ad th L f z1 z2 z3 z4) := by
  refine MtI.of (by decide +kernel) (Nat.le_of_ble_eq_true rfl) ?_
  intro p e s m below meth c A hEn hP hD hS ls hl
  obtain ⟨hx, hb, hr, hml, hown, hlocks, hts, hG, hA, hE, hnm⟩ := hEn
  have hown : s.vm.findClass "RulerWord$Search" = some m.cls := hown
  have hl : lv_has ls 6 [(0, .ref (ad 18)), (1, .int z1), (2, .int z2), (3, .int z3), (4, .int z4)] := hl
  have hfr : (∀ b, b ≠ (ad 21) → b ≠ (ad 22) → f b = f b) := fun b z0_ z1_ => rfl
  refine lv_iconst (v := 0) hx hb dX7_addChoice_0 (by decide) ?_
  refine lv_istore (lv' := [(5, .int 0), (0, .ref (ad 18)), (1, .int z1), (2, .int z2), (3, .int z3), (4, .int z4)]) hx hb dX7_addChoice_1 hl (by decide) rfl (fun ls hl => ?_)
  have hJ3 : ∀ (k3 : Nat) (y3_l5 : Int32) (H : Heap) (locs : List Loc) (ls : Array Slot), In y3_l5 0 8 → va_P g.1 vwCl (va_pl L f) H → va_D A (va_pl L f) → va_S A s.heap H locs → (y3_l5.toInt ≤ z2.toInt ∧ 0 ≤ y3_l5.toInt) → lv_has ls 6 [(0, .ref (ad 18)), (1, .int z1), (2, .int z2), (3, .int z3), (4, .int z4), (5, .int y3_l5)] → 8 - y3_l5.toInt < ((k3 : Nat) : Int) → W p l e rm_X7_addChoice s m [.ref (ad 18), .int z1, .int z2, .int z3, .int z4].toArray below meth c H locs 0 0 (MQ below (va_Qi (po_X7_addChoice g ad th L f z1 z2 z3 z4) (PstB g A) A) [.ref (ad 18), .int z1, .int z2, .int z3, .int z4].toArray s rm_X7_addChoice.cells rm_X7_addChoice.slots A) (F0 m 3 ls []) := by
    intro k3
    induction k3 with
    | zero =>
      intro y3_l5 H locs ls hy3_l5 hP hD hS hinv3_0 hl hmz3
      exact ms0 hy3_l5 hmz3
    | succ k3 ih3 =>
      intro y3_l5 H locs ls hy3_l5 hP hD hS hinv3_0 hl hmz3
      refine lv_iload hx hb dX7_addChoice_3 (lv_at hl 5 rfl) ?_
      refine lv_iload_n hx hb dX7_addChoice_5 rfl (lv_at hl 2 rfl) ?_
      refine lv_icmp_ge (tgt := 30) hx hb dX7_addChoice_6 (by decide) (fun c1 => ?_) (fun c1 => ?_)
      ·
        have cc2 : z2.toInt ≤ y3_l5.toInt := i32_le.mp c1
        refine lv_aload_n hx hb dX7_addChoice_30 rfl (lv_at hl 0 rfl) ?_
        obtain ⟨v6_3, v7_3, v8_3, v9_3, v10_3, v11_3, v12_3, v13_3, hf4, hv8_3, hv9_3, hv10_3, hv11_3, hv13_3⟩ := hT.1 18 (by decide)
        refine pl_get (v := .ref (ad 21)) hx hb hts (fun w h => mT (inX7 w h)) hown hG.1 hP (hst.1 18 (by decide)) hf4 rfl 3 (by decide) (hts _ (mT wg_435)) (fun _ h => h) rfl dX7_addChoice_31 ?_
        refine lv_iload_n hx hb dX7_addChoice_34 rfl (lv_at hl 1 rfl) ?_
        refine lv_iload_n hx hb dX7_addChoice_35 rfl (lv_at hl 2 rfl) ?_
        refine lv_iadd hx hb dX7_addChoice_36 ?_
        refine lv_topi (fun x5 ex5 => ?_)
        have hb6 : In x5 0 107 := ex5 ▸ In.add hz1 hz2 (by decide) (by decide) (by decide) (by decide)
        have et7 : x5.toInt = z1.toInt + z2.toInt := In.add2e ex5 hz1 hz2 (by decide) (by decide)
        refine lv_iload_n hx hb dX7_addChoice_37 rfl (lv_at hl 3 rfl) ?_
        obtain ⟨rw8, hf9⟩ := hT.1 21 (by decide)
        refine pl_iastE hx hb hG.1 hP hD hS (hst.1 21 (by decide)) 0 hf9 rfl (In.inb hb6 (by decide) (by decide)) dX7_addChoice_38 (fun H locs f10 r13 er13 hf11 ho12 hP hD hS => ?_)
        have hf14 := (ho12 (ad 18) (hst.ne (by decide) (by decide) (by decide))).trans hf4
        have hfr : (∀ b, b ≠ (ad 21) → b ≠ (ad 22) → f10 b = f b) := fun b z0_ z1_ => (ho12 b z0_).trans (hfr b z0_ z1_)
        refine lv_aload_n hx hb dX7_addChoice_39 rfl (lv_at hl 0 rfl) ?_
        refine pl_get (v := .ref (ad 22)) hx hb hts (fun w h => mT (inX7 w h)) hown hG.1 hP (hst.1 18 (by decide)) hf14 rfl 4 (by decide) (hts _ (mT wg_436)) (fun _ h => h) rfl dX7_addChoice_40 ?_
        refine lv_iload_n hx hb dX7_addChoice_43 rfl (lv_at hl 1 rfl) ?_
        refine lv_iload_n hx hb dX7_addChoice_44 rfl (lv_at hl 2 rfl) ?_
        refine lv_iadd hx hb dX7_addChoice_45 ?_
        refine lv_topi (fun x15 ex15 => ?_)
        obtain rfl : x5 = x15 := ex5.trans ex15.symm
        refine lv_iload hx hb dX7_addChoice_46 (lv_at hl 4 rfl) ?_
        have hT := TI.updA hT hst (k := 21) (by decide) hf11 ho12 ⟨r13, rfl⟩
        obtain ⟨rw16, hf17⟩ := hT.1 22 (by decide)
        refine pl_iastE hx hb hG.1 hP hD hS (hst.1 22 (by decide)) 0 hf17 rfl (In.inb hb6 (by decide) (by decide)) dX7_addChoice_48 (fun H locs f18 r21 er21 hf19 ho20 hP hD hS => ?_)
        have hf22 := (ho20 (ad 18) (hst.ne (by decide) (by decide) (by decide))).trans hf14
        have hf23 := (ho20 (ad 21) (hst.ne (by decide) (by decide) (by decide))).trans hf11
        have hfr : (∀ b, b ≠ (ad 21) → b ≠ (ad 22) → f18 b = f b) := fun b z0_ z1_ => (ho20 b z1_).trans (hfr b z0_ z1_)
        refine lv_iload_n hx hb dX7_addChoice_49 rfl (lv_at hl 2 rfl) ?_
        refine lv_iconst (v := 1) hx hb dX7_addChoice_50 (by decide) ?_
        refine lv_iadd hx hb dX7_addChoice_51 ?_
        refine lv_topi (fun x24 ex24 => ?_)
        have hb25 : In x24 1 9 := ex24 ▸ In.add hz2 (⟨by decide, by decide⟩ : In 1 1 1) (by decide) (by decide) (by decide) (by decide)
        have et26 : x24.toInt = z2.toInt + 1 := In.adde ex24 hz2 (k := 1) (by decide) (by decide) (by decide)
        have hT := TI.updA hT hst (k := 22) (by decide) hf19 ho20 ⟨r21, rfl⟩
        exact ret_i (ty := .int) hx hb hr hlocks (rfl) hP hD hS (Nat.le_of_ble_eq_true rfl) (Nat.le_of_ble_eq_true rfl) (⟨rfl, hT, hfr, (In.mono hb25 (by decide) (by decide)), (by obtain ⟨o0a, o0b⟩ := (hb25 : In _ _ _); obtain ⟨o1a, o1b⟩ := (hz2 : In _ _ _); obtain ⟨o2a, o2b⟩ := (hy3_l5 : In _ _ _); omega)⟩) dX7_addChoice_52
      ·
        have cc27 : y3_l5.toInt < z2.toInt := i32_nle c1
        have hb28 : In y3_l5 0 7 := In.lt1 hy3_l5 hz2 cc27 (by omega) (by omega)
        have hb29 : In z2 1 8 := In.lt2 hy3_l5 hz2 cc27 (by omega) (by omega)
        refine lv_aload_n hx hb dX7_addChoice_9 rfl (lv_at hl 0 rfl) ?_
        obtain ⟨v6_30, v7_30, v8_30, v9_30, v10_30, v11_30, v12_30, v13_30, hf31, hv8_30, hv9_30, hv10_30, hv11_30, hv13_30⟩ := hT.1 18 (by decide)
        refine pl_get (v := .ref (ad 21)) hx hb hts (fun w h => mT (inX7 w h)) hown hG.1 hP (hst.1 18 (by decide)) hf31 rfl 3 (by decide) (hts _ (mT wg_435)) (fun _ h => h) rfl dX7_addChoice_10 ?_
        refine lv_iload_n hx hb dX7_addChoice_13 rfl (lv_at hl 1 rfl) ?_
        refine lv_iload hx hb dX7_addChoice_14 (lv_at hl 5 rfl) ?_
        refine lv_iadd hx hb dX7_addChoice_16 ?_
        refine lv_topi (fun x32 ex32 => ?_)
        have hb33 : In x32 0 106 := ex32 ▸ In.add hz1 hb28 (by decide) (by decide) (by decide) (by decide)
        have et34 : x32.toInt = z1.toInt + y3_l5.toInt := In.add2e ex32 hz1 hb28 (by decide) (by decide)
        obtain ⟨rw35, hf36⟩ := hT.1 21 (by decide)
        have hin37 : vp_in x32 108 := In.inb hb33 (by decide) (by decide)
        refine pl_iald hx hb hG.1 hP (hst.1 21 (by decide)) 0 hf36 rfl hin37 dX7_addChoice_17 ?_
        refine lv_topi (fun x38 ex38 => ?_)
        refine lv_iload_n hx hb dX7_addChoice_18 rfl (lv_at hl 3 rfl) ?_
        refine lv_icmp_ne (tgt := 24) hx hb dX7_addChoice_19 (by decide) (fun c39 => ?_) (fun c39 => ?_)
        ·
          have cc40 : x38.toInt ≠ z3.toInt := i32_ne c39
          obtain ⟨x41, ex41⟩ : ∃ y : Int32, y = y3_l5 + 1 := ⟨_, rfl⟩
          have hb42 : In x41 1 8 := ex41 ▸ In.add hb28 (⟨by decide, by decide⟩ : In 1 1 1) (by decide) (by decide) (by decide) (by decide)
          have et43 : x41.toInt = y3_l5.toInt + 1 := In.adde ex41 hb28 (k := 1) (by decide) (by decide) (by decide)
          refine lv_iinc (v := x41) (lv' := [(5, .int x41), (0, .ref (ad 18)), (1, .int z1), (2, .int z2), (3, .int z3), (4, .int z4)]) hx hb dX7_addChoice_24 hl (k := 5) rfl (by rw [ex41]; rfl) (by decide) rfl (fun ls hl => ?_)
          refine lv_goto (tgt := 3) hx hb dX7_addChoice_27 (by decide) ?_
          exact ih3 x41 _ _ _ (In.mono hb42 (by decide) (by decide)) hP hD hS (by obtain ⟨o0a, o0b⟩ := (hb42 : In _ _ _); obtain ⟨o1a, o1b⟩ := (hb29 : In _ _ _); obtain ⟨o2a, o2b⟩ := (hb28 : In _ _ _); omega) (lv_sub hl [1, 2, 3, 4, 5, 0] rfl) (msu et43 (by decide) hmz3)
        ·
          have cc44 : x38.toInt = z3.toInt := congrArg Int32.toInt c39
          refine lv_iload_n hx hb dX7_addChoice_22 rfl (lv_at hl 2 rfl) ?_
          exact ret_i (ty := .int) hx hb hr hlocks (rfl) hP hD hS (Nat.le_of_ble_eq_true rfl) (Nat.le_of_ble_eq_true rfl) (⟨rfl, hT, hfr, (In.mono hb29 (by decide) (by decide)), (by obtain ⟨o0a, o0b⟩ := (hb29 : In _ _ _); obtain ⟨o1a, o1b⟩ := (hb28 : In _ _ _); omega)⟩) dX7_addChoice_23
  exact hJ3 ((8 - (0 : Int32).toInt).toNat + 1) 0 _ _ _ (⟨by decide, by decide⟩ : In 0 0 8) hP hD hS (by have oc0 : (0 : Int32).toInt = 0 := (by decide); obtain ⟨o1a, o1b⟩ := (hz2 : In _ _ _); omega) (lv_sub hl [1, 2, 3, 4, 5, 0] rfl) (msI _)

abbrev rm_X7_prepare : Room := { frames := 2, cells := 0, slots := 0, locals := 47 }
abbrev po_X7_prepare (g : GG) (ad : Nat → Nat) (th : Nat → Int) (L : List Nat) (f : HP) (z2 : Int32) (z3 : Int32) : (List Nat × HP) → Prop := fun u => u.1 = L ∧ TI g ad th u.2 ∧ (∀ b, b ≠ (ad 18) → b ≠ (ad 19) → b ≠ (ad 20) → b ≠ (ad 23) → b ≠ (ad 8) → u.2 b = f b)
set_option maxHeartbeats 4000000 in
set_option maxRecDepth 100000 in
theorem s_X7_prepare (l : Launch) (g : GG) (ad : Nat → Nat) (th : Nat → Int) (L : List Nat) (f : HP) (sz : Nat) (z2 : Int32) (z3 : Int32) (hst : ST ad L) (hT : TI g ad th f) (hz2 : In z2 0 510) : MtV l g yX7_prepare cX7_prepare 5 rm_X7_prepare [.ref (ad 18), .ref (ad 6), .int z2, .int z3] L f sz (po_X7_prepare g ad th L f z2 z3) := by
  refine MtV.of (by decide +kernel) (Nat.le_of_ble_eq_true rfl) ?_
  intro p e s m below meth c A hEn hP hD hS ls hl
  obtain ⟨hx, hb, hr, hml, hown, hlocks, hts, hG, hA, hE, hnm⟩ := hEn
  have hown : s.vm.findClass "RulerWord$Search" = some m.cls := hown
  have hl : lv_has ls 5 [(0, .ref (ad 18)), (1, .ref (ad 6)), (2, .int z2), (3, .int z3)] := hl
  have hfr : (∀ b, b ≠ (ad 18) → b ≠ (ad 19) → b ≠ (ad 20) → b ≠ (ad 23) → b ≠ (ad 8) → f b = f b) := fun b z0_ z1_ z2_ z3_ z4_ => rfl
  refine lv_aload_n hx hb dX7_prepare_0 rfl (lv_at hl 0 rfl) ?_
  obtain ⟨v6_1, v7_1, v8_1, v9_1, v10_1, v11_1, v12_1, v13_1, hf2, hv8_1, hv9_1, hv10_1, hv11_1, hv13_1⟩ := hT.1 18 (by decide)
  refine pl_get (v := .ref (ad 8)) hx hb hts (fun w h => mT (inX7 w h)) hown hG.1 hP (hst.1 18 (by decide)) hf2 rfl 0 (by decide) (hts _ (mT wg_432)) (fun _ h => h) rfl dX7_prepare_1 ?_
  refine lv_aload_n hx hb dX7_prepare_4 rfl (lv_at hl 1 rfl) ?_
  obtain ⟨v0_3, v1_3, v2_3, v3_3, v4_3, v5_3, v6_3, v7_3, hf4, hv0_3, hv1_3, hv2_3, hv3_3, hv5_3, hv6_3⟩ := hT.1 8 (by decide)
  refine call_v (run_VN (rm := rm_X2_copy_ru) hx hb hml hown hts (s_X2_copy_ru l g ad th _ _ _  hst hT ) cV_X2_copy wn_1040 ⟨Nat.le_of_ble_eq_true rfl, Nat.le_of_ble_eq_true rfl⟩ hG hE hA hP hD hS (hst.1 8 (by decide)) hf4 rfl rfl hl.1 (As := [.ref (ad 6)]) (rest := []) rfl (Nat.le_of_ble_eq_true rfl) dX7_prepare_5 ⟨Nat.le_of_ble_eq_true rfl, Nat.le_of_ble_eq_true rfl⟩) hA hD hS (fun L6 f7 H locs hp8 hP hD hS => ?_)
  obtain ⟨eL9L, eL9T, eL9F⟩ := hp8
  have eL9L : L6 = L := eL9L
  rw [eL9L] at hP hD
  have hT : TI g ad th f7 := eL9T
  have eL9F : ∀ b, b ≠ (ad 8) → f7 b = f b := eL9F
  have hf10 := (eL9F (ad 18) (hst.ne (by decide) (by decide) (by decide))).trans hf2
  have hfr : (∀ b, b ≠ (ad 18) → b ≠ (ad 19) → b ≠ (ad 20) → b ≠ (ad 23) → b ≠ (ad 8) → f7 b = f b) := fun b z0_ z1_ z2_ z3_ z4_ => (eL9F b z4_).trans (hfr b z0_ z1_ z2_ z3_ z4_)
  refine lv_aload_n hx hb dX7_prepare_8 rfl (lv_at hl 0 rfl) ?_
  refine lv_iload_n hx hb dX7_prepare_9 rfl (lv_at hl 3 rfl) ?_
  refine pl_put (ty := .int) (v := .int z3) (fs' := [.ref (ad 8), .ref (ad 19), .ref (ad 20), .ref (ad 21), .ref (ad 22), .ref (ad 23), .int v6_1, .int z3, .int v8_1, .int v9_1, .int v10_1, .int v11_1, .int v12_1, .int v13_1]) hx hb hts (fun w h => mT (inX7 w h)) tyX7 tyX7_ok nmX7 hown hG.1 hP hD hS (hst.1 18 (by decide)) hf10 rfl 7 (by decide) (hts _ (mT wg_439)) (fun _ h => h) rfl (by decide +kernel) (rfl) (rfl) (Nat.le_of_ble_eq_true rfl) rfl dX7_prepare_10 (fun H locs f11 hf12 ho13 hP hD hS => ?_)
  have hfr : (∀ b, b ≠ (ad 18) → b ≠ (ad 19) → b ≠ (ad 20) → b ≠ (ad 23) → b ≠ (ad 8) → f11 b = f b) := fun b z0_ z1_ z2_ z3_ z4_ => (ho13 b z0_).trans (hfr b z0_ z1_ z2_ z3_ z4_)
  refine lv_aload_n hx hb dX7_prepare_13 rfl (lv_at hl 0 rfl) ?_
  refine lv_iload_n hx hb dX7_prepare_14 rfl (lv_at hl 2 rfl) ?_
  refine pl_put (ty := .int) (v := .int z2) (fs' := [.ref (ad 8), .ref (ad 19), .ref (ad 20), .ref (ad 21), .ref (ad 22), .ref (ad 23), .int v6_1, .int z3, .int z2, .int v9_1, .int v10_1, .int v11_1, .int v12_1, .int v13_1]) hx hb hts (fun w h => mT (inX7 w h)) tyX7 tyX7_ok nmX7 hown hG.1 hP hD hS (hst.1 18 (by decide)) hf12 rfl 8 (by decide) (hts _ (mT wg_440)) (fun _ h => h) rfl (by decide +kernel) (rfl) (rfl) (Nat.le_of_ble_eq_true rfl) rfl dX7_prepare_15 (fun H locs f14 hf15 ho16 hP hD hS => ?_)
  have ho17 : ∀ b, b ≠ (ad 18) → f14 b = _ := fun b hb => (ho16 b hb).trans (ho13 b hb)
  have hfr : (∀ b, b ≠ (ad 18) → b ≠ (ad 19) → b ≠ (ad 20) → b ≠ (ad 23) → b ≠ (ad 8) → f14 b = f b) := fun b z0_ z1_ z2_ z3_ z4_ => (ho16 b z0_).trans (hfr b z0_ z1_ z2_ z3_ z4_)
  refine lv_aload_n hx hb dX7_prepare_18 rfl (lv_at hl 0 rfl) ?_
  refine lv_aload_n hx hb dX7_prepare_19 rfl (lv_at hl 0 rfl) ?_
  refine pl_get (v := .ref (ad 8)) hx hb hts (fun w h => mT (inX7 w h)) hown hG.1 hP (hst.1 18 (by decide)) hf15 rfl 0 (by decide) (hts _ (mT wg_432)) (fun _ h => h) rfl dX7_prepare_20 ?_
  have hT := TI.updA hT hst (k := 18) (by decide) hf15 ho17 ⟨v6_1, z3, z2, v9_1, v10_1, v11_1, v12_1, v13_1, rfl, (In.mono hz2 (by decide) (by decide)), hv9_1, hv10_1, hv11_1, hv13_1⟩
  obtain ⟨v0_18, v1_18, v2_18, v3_18, v4_18, v5_18, v6_18, v7_18, hf19, hv0_18, hv1_18, hv2_18, hv3_18, hv5_18, hv6_18⟩ := hT.1 8 (by decide)
  refine call_i (run_VN (rm := rm_X2_everybody_ru) hx hb hml hown hts (s_X2_everybody_ru l g ad th _ _ _  hst hT ) cV_X2_everybody wn_1041 ⟨Nat.le_of_ble_eq_true rfl, Nat.le_of_ble_eq_true rfl⟩ hG hE hA hP hD hS (hst.1 8 (by decide)) hf19 rfl rfl hl.1 (As := []) (rest := [.ref (ad 18)]) rfl (Nat.le_of_ble_eq_true rfl) dX7_prepare_23 ⟨Nat.le_of_ble_eq_true rfl, Nat.le_of_ble_eq_true rfl⟩) hA hD hS (fun r20 L21 f22 H locs hp23 hP hD hS => ?_)
  obtain ⟨eL24L, eL24T, eL24R⟩ := hp23
  have eL24L : L21 = L := eL24L
  have eL24T : f22 = f14 := eL24T
  rw [eL24L, eL24T] at hP hD
  have eL24R : In r20 0 511 := eL24R
  refine lv_aload_n hx hb dX7_prepare_26 rfl (lv_at hl 0 rfl) ?_
  refine pl_get (v := .int z2) hx hb hts (fun w h => mT (inX7 w h)) hown hG.1 hP (hst.1 18 (by decide)) hf15 rfl 8 (by decide) (hts _ (mT wg_440)) (fun _ h => h) rfl dX7_prepare_27 ?_
  refine lv_iconst (v := (-1)) hx hb dX7_prepare_30 (by decide) ?_
  refine lv_ixor hx hb dX7_prepare_31 ?_
  refine lv_topi (fun x25 ex25 => ?_)
  refine lv_iand hx hb dX7_prepare_32 ?_
  refine lv_topi (fun x26 ex26 => ?_)
  have hb27 : In x26 0 511 := ex26 ▸ In.andl eL24R (by decide)
  refine pl_put (ty := .int) (v := .int x26) (fs' := [.ref (ad 8), .ref (ad 19), .ref (ad 20), .ref (ad 21), .ref (ad 22), .ref (ad 23), .int v6_1, .int z3, .int z2, .int x26, .int v10_1, .int v11_1, .int v12_1, .int v13_1]) hx hb hts (fun w h => mT (inX7 w h)) tyX7 tyX7_ok nmX7 hown hG.1 hP hD hS (hst.1 18 (by decide)) hf15 rfl 9 (by decide) (hts _ (mT wg_441)) (fun _ h => h) rfl (by decide +kernel) (rfl) (rfl) (Nat.le_of_ble_eq_true rfl) rfl dX7_prepare_33 (fun H locs f28 hf29 ho30 hP hD hS => ?_)
  have hf31 := (ho30 (ad 8) (hst.ne (by decide) (by decide) (by decide))).trans hf19
  have hfr : (∀ b, b ≠ (ad 18) → b ≠ (ad 19) → b ≠ (ad 20) → b ≠ (ad 23) → b ≠ (ad 8) → f28 b = f b) := fun b z0_ z1_ z2_ z3_ z4_ => (ho30 b z0_).trans (hfr b z0_ z1_ z2_ z3_ z4_)
  refine lv_aload_n hx hb dX7_prepare_36 rfl (lv_at hl 0 rfl) ?_
  refine lv_aload_n hx hb dX7_prepare_37 rfl (lv_at hl 0 rfl) ?_
  refine pl_get (v := .int z2) hx hb hts (fun w h => mT (inX7 w h)) hown hG.1 hP (hst.1 18 (by decide)) hf29 rfl 8 (by decide) (hts _ (mT wg_440)) (fun _ h => h) rfl dX7_prepare_38 ?_
  have hT := TI.updA hT hst (k := 18) (by decide) hf29 ho30 ⟨v6_1, z3, z2, x26, v10_1, v11_1, v12_1, v13_1, rfl, (In.mono hz2 (by decide) (by decide)), hb27, hv10_1, hv11_1, hv13_1⟩
  refine call_i (run_S (rm := rm_J6_bitCount_0f7a4) hx hb hml hown hts (s_J6_bitCount_0f7a4 l g ad th _ _ _ z2 hst hT ) cS_J6_bitCount_0f7a4 wg_1042 ⟨Nat.le_of_ble_eq_true rfl, Nat.le_of_ble_eq_true rfl⟩ hG hE hA hP hD hS rfl hl.1 (As := [.int z2]) (rest := [.ref (ad 18)]) rfl (Nat.le_of_ble_eq_true rfl) dX7_prepare_41 ⟨Nat.le_of_ble_eq_true rfl, Nat.le_of_ble_eq_true rfl⟩) hA hD hS (fun r32 L33 f34 H locs hp35 hP hD hS => ?_)
  obtain ⟨eL36L, eL36T, eL36R, eL36X0⟩ := hp35
  have eL36L : L33 = L := eL36L
  have eL36T : f34 = f28 := eL36T
  rw [eL36L, eL36T] at hP hD
  have eL36R : In r32 0 63 := eL36R
  have hb37 : In r32 0 8 := bc8 hz2 eL36X0
  refine pl_put (ty := .int) (v := .int r32) (fs' := [.ref (ad 8), .ref (ad 19), .ref (ad 20), .ref (ad 21), .ref (ad 22), .ref (ad 23), .int v6_1, .int z3, .int z2, .int x26, .int v10_1, .int r32, .int v12_1, .int v13_1]) hx hb hts (fun w h => mT (inX7 w h)) tyX7 tyX7_ok nmX7 hown hG.1 hP hD hS (hst.1 18 (by decide)) hf29 rfl 11 (by decide) (hts _ (mT wg_443)) (fun _ h => h) rfl (by decide +kernel) (rfl) (rfl) (Nat.le_of_ble_eq_true rfl) rfl dX7_prepare_44 (fun H locs f38 hf39 ho40 hP hD hS => ?_)
  have hf41 := (ho40 (ad 8) (hst.ne (by decide) (by decide) (by decide))).trans hf31
  have hfr : (∀ b, b ≠ (ad 18) → b ≠ (ad 19) → b ≠ (ad 20) → b ≠ (ad 23) → b ≠ (ad 8) → f38 b = f b) := fun b z0_ z1_ z2_ z3_ z4_ => (ho40 b z0_).trans (hfr b z0_ z1_ z2_ z3_ z4_)
  refine lv_aload_n hx hb dX7_prepare_47 rfl (lv_at hl 0 rfl) ?_
  refine lv_iconst (v := 0) hx hb dX7_prepare_48 (by decide) ?_
  refine pl_put (ty := .int) (v := .int 0) (fs' := [.ref (ad 8), .ref (ad 19), .ref (ad 20), .ref (ad 21), .ref (ad 22), .ref (ad 23), .int v6_1, .int z3, .int z2, .int x26, .int 0, .int r32, .int v12_1, .int v13_1]) hx hb hts (fun w h => mT (inX7 w h)) tyX7 tyX7_ok nmX7 hown hG.1 hP hD hS (hst.1 18 (by decide)) hf39 rfl 10 (by decide) (hts _ (mT wg_442)) (fun _ h => h) rfl (by decide +kernel) (rfl) (rfl) (Nat.le_of_ble_eq_true rfl) rfl dX7_prepare_49 (fun H locs f42 hf43 ho44 hP hD hS => ?_)
  have hf45 := (ho44 (ad 8) (hst.ne (by decide) (by decide) (by decide))).trans hf41
  have ho46 : ∀ b, b ≠ (ad 18) → f42 b = _ := fun b hb => (ho44 b hb).trans (ho40 b hb)
  have hfr : (∀ b, b ≠ (ad 18) → b ≠ (ad 19) → b ≠ (ad 20) → b ≠ (ad 23) → b ≠ (ad 8) → f42 b = f b) := fun b z0_ z1_ z2_ z3_ z4_ => (ho44 b z0_).trans (hfr b z0_ z1_ z2_ z3_ z4_)
  refine lv_iconst (v := 0) hx hb dX7_prepare_52 (by decide) ?_
  refine lv_istore (lv' := [(4, .int 0), (0, .ref (ad 18)), (1, .ref (ad 6)), (2, .int z2), (3, .int z3)]) hx hb dX7_prepare_53 hl (by decide) rfl (fun ls hl => ?_)
  have hT := TI.updA hT hst (k := 18) (by decide) hf43 ho46 ⟨v6_1, z3, z2, x26, 0, r32, v12_1, v13_1, rfl, (In.mono hz2 (by decide) (by decide)), hb27, (⟨by decide, by decide⟩ : In 0 0 9), hb37, hv13_1⟩
  have hJ55 : ∀ (k55 : Nat) (y55_l4 : Int32) (f_55 : HP) (H : Heap) (locs : List Loc) (w55_6 : Int32) (w55_7 : Int32) (w55_8 : Int32) (w55_9 : Int32) (w55_10 : Int32) (w55_11 : Int32) (w55_12 : Int32) (w55_13 : Int32) (ls : Array Slot), In y55_l4 0 9 → va_P g.1 vwCl (va_pl L f_55) H → va_D A (va_pl L f_55) → va_S A s.heap H locs → TI g ad th f_55 → (∀ b, b ≠ (ad 18) → b ≠ (ad 19) → b ≠ (ad 20) → b ≠ (ad 23) → b ≠ (ad 8) → f_55 b = f b) → f_55 (ad 8) = .inr (2, [.int v0_18, .int v1_18, .int v2_18, .int v3_18, .int v4_18, .int v5_18, .int v6_18, .int v7_18]) → In w55_8 0 511 → In w55_9 0 511 → In w55_10 0 9 → In w55_11 0 8 → In w55_13 0 1 → f_55 (ad 18) = .inr (7, [.ref (ad 8), .ref (ad 19), .ref (ad 20), .ref (ad 21), .ref (ad 22), .ref (ad 23), .int w55_6, .int w55_7, .int w55_8, .int w55_9, .int w55_10, .int w55_11, .int w55_12, .int w55_13]) → w55_10.toInt ≤ y55_l4.toInt → lv_has ls 5 [(0, .ref (ad 18)), (1, .ref (ad 6)), (2, .int z2), (3, .int z3), (4, .int y55_l4)] → 9 - y55_l4.toInt < ((k55 : Nat) : Int) → W p l e rm_X7_prepare s m [.ref (ad 18), .ref (ad 6), .int z2, .int z3].toArray below meth c H locs 0 0 (MQ below (va_Qv (po_X7_prepare g ad th L f z2 z3) (PstB g A) A) [.ref (ad 18), .ref (ad 6), .int z2, .int z3].toArray s rm_X7_prepare.cells rm_X7_prepare.slots A) (F0 m 55 ls []) := by
    intro k55
    induction k55 with
    | zero =>
      intro y55_l4 f_55 H locs w55_6 w55_7 w55_8 w55_9 w55_10 w55_11 w55_12 w55_13 ls hy55_l4 hP hD hS hT hfr hf47 hw55_8 hw55_9 hw55_10 hw55_11 hw55_13 hfc55 hinv55_0 hl hmz55
      exact ms0 hy55_l4 hmz55
    | succ k55 ih55 =>
      intro y55_l4 f_55 H locs w55_6 w55_7 w55_8 w55_9 w55_10 w55_11 w55_12 w55_13 ls hy55_l4 hP hD hS hT hfr hf47 hw55_8 hw55_9 hw55_10 hw55_11 hw55_13 hfc55 hinv55_0 hl hmz55
      refine lv_iload hx hb dX7_prepare_55 (lv_at hl 4 rfl) ?_
      refine lv_aload_n hx hb dX7_prepare_57 rfl (lv_at hl 0 rfl) ?_
      refine pl_get (v := .ref (ad 8)) hx hb hts (fun w h => mT (inX7 w h)) hown hG.1 hP (hst.1 18 (by decide)) hfc55 rfl 0 (by decide) (hts _ (mT wg_432)) (fun _ h => h) rfl dX7_prepare_58 ?_
      refine pl_getN (v := .int v1_18) hx hb hts (fun w h => mT (inX2 w h)) hown hG.1 hP (hst.1 8 (by decide)) hf47 rfl 1 (by decide) (hG.2.1 _ wn_229) (fun _ h => h) rfl dX7_prepare_61 ?_
      refine lv_icmp_ge (tgt := 107) hx hb dX7_prepare_64 (by decide) (fun c48 => ?_) (fun c48 => ?_)
      ·
        have cc49 : v1_18.toInt ≤ y55_l4.toInt := i32_le.mp c48
        refine lv_iconst (v := 0) hx hb dX7_prepare_107 (by decide) ?_
        refine lv_istore (lv' := [(4, .int 0), (0, .ref (ad 18)), (1, .ref (ad 6)), (2, .int z2), (3, .int z3)]) hx hb dX7_prepare_108 hl (by decide) rfl (fun ls hl => ?_)
        have hJ110 : ∀ (k110 : Nat) (y110_l4 : Int32) (f_110 : HP) (H : Heap) (locs : List Loc) (ls : Array Slot), In y110_l4 0 7 → va_P g.1 vwCl (va_pl L f_110) H → va_D A (va_pl L f_110) → va_S A s.heap H locs → TI g ad th f_110 → (∀ b, b ≠ (ad 18) → b ≠ (ad 19) → b ≠ (ad 20) → b ≠ (ad 23) → b ≠ (ad 8) → f_110 b = f b) → f_110 (ad 18) = .inr (7, [.ref (ad 8), .ref (ad 19), .ref (ad 20), .ref (ad 21), .ref (ad 22), .ref (ad 23), .int w55_6, .int w55_7, .int w55_8, .int w55_9, .int w55_10, .int w55_11, .int w55_12, .int w55_13]) → f_110 (ad 8) = .inr (2, [.int v0_18, .int v1_18, .int v2_18, .int v3_18, .int v4_18, .int v5_18, .int v6_18, .int v7_18]) → lv_has ls 5 [(0, .ref (ad 18)), (1, .ref (ad 6)), (2, .int z2), (3, .int z3), (4, .int y110_l4)] → 7 - y110_l4.toInt < ((k110 : Nat) : Int) → W p l e rm_X7_prepare s m [.ref (ad 18), .ref (ad 6), .int z2, .int z3].toArray below meth c H locs 0 0 (MQ below (va_Qv (po_X7_prepare g ad th L f z2 z3) (PstB g A) A) [.ref (ad 18), .ref (ad 6), .int z2, .int z3].toArray s rm_X7_prepare.cells rm_X7_prepare.slots A) (F0 m 110 ls []) := by
          intro k110
          induction k110 with
          | zero =>
            intro y110_l4 f_110 H locs ls hy110_l4 hP hD hS hT hfr hf50 hf51 hl hmz110
            exact ms0 hy110_l4 hmz110
          | succ k110 ih110 =>
            intro y110_l4 f_110 H locs ls hy110_l4 hP hD hS hT hfr hf50 hf51 hl hmz110
            refine lv_iload hx hb dX7_prepare_110 (lv_at hl 4 rfl) ?_
            refine lv_bipush (v := 6) hx hb dX7_prepare_112 (by decide) ?_
            refine lv_icmp_gt (tgt := 143) hx hb dX7_prepare_114 (by decide) (fun c52 => ?_) (fun c52 => ?_)
            ·
              have oc6 : (6 : Int32).toInt = 6 := by decide
              have cc53 : (6 : Int32).toInt < y110_l4.toInt := i32_lt.mp c52
              have hb54 : In y110_l4 7 7 := In.gt1 hy110_l4 (⟨by decide, by decide⟩ : In 6 6 6) cc53 (by omega) (by omega)
              refine lv_iconst (v := 0) hx hb dX7_prepare_143 (by decide) ?_
              refine lv_istore (lv' := [(4, .int 0), (0, .ref (ad 18)), (1, .ref (ad 6)), (2, .int z2), (3, .int z3)]) hx hb dX7_prepare_144 hl (by decide) rfl (fun ls hl => ?_)
              have hJ146 : ∀ (k146 : Nat) (y146_l4 : Int32) (f_146 : HP) (H : Heap) (locs : List Loc) (ls : Array Slot), In y146_l4 0 2147483647 → va_P g.1 vwCl (va_pl L f_146) H → va_D A (va_pl L f_146) → va_S A s.heap H locs → TI g ad th f_146 → (∀ b, b ≠ (ad 18) → b ≠ (ad 19) → b ≠ (ad 20) → b ≠ (ad 23) → b ≠ (ad 8) → f_146 b = f b) → f_146 (ad 18) = .inr (7, [.ref (ad 8), .ref (ad 19), .ref (ad 20), .ref (ad 21), .ref (ad 22), .ref (ad 23), .int w55_6, .int w55_7, .int w55_8, .int w55_9, .int w55_10, .int w55_11, .int w55_12, .int w55_13]) → f_146 (ad 8) = .inr (2, [.int v0_18, .int v1_18, .int v2_18, .int v3_18, .int v4_18, .int v5_18, .int v6_18, .int v7_18]) → lv_has ls 5 [(0, .ref (ad 18)), (1, .ref (ad 6)), (2, .int z2), (3, .int z3), (4, .int y146_l4)] → 2147483647 - y146_l4.toInt < ((k146 : Nat) : Int) → W p l e rm_X7_prepare s m [.ref (ad 18), .ref (ad 6), .int z2, .int z3].toArray below meth c H locs 0 0 (MQ below (va_Qv (po_X7_prepare g ad th L f z2 z3) (PstB g A) A) [.ref (ad 18), .ref (ad 6), .int z2, .int z3].toArray s rm_X7_prepare.cells rm_X7_prepare.slots A) (F0 m 146 ls []) := by
                intro k146
                induction k146 with
                | zero =>
                  intro y146_l4 f_146 H locs ls hy146_l4 hP hD hS hT hfr hf55 hf56 hl hmz146
                  exact ms0 hy146_l4 hmz146
                | succ k146 ih146 =>
                  intro y146_l4 f_146 H locs ls hy146_l4 hP hD hS hT hfr hf55 hf56 hl hmz146
                  refine lv_iload hx hb dX7_prepare_146 (lv_at hl 4 rfl) ?_
                  refine lv_aload_n hx hb dX7_prepare_148 rfl (lv_at hl 0 rfl) ?_
                  refine pl_get (v := .ref (ad 23)) hx hb hts (fun w h => mT (inX7 w h)) hown hG.1 hP (hst.1 18 (by decide)) hf55 rfl 5 (by decide) (hts _ (mT wg_437)) (fun _ h => h) rfl dX7_prepare_149 ?_
                  obtain ⟨rw57, hf58⟩ := hT.1 23 (by decide)
                  refine pl_alen (v := 48) hx hb hG.1 hP (hst.1 23 (by decide)) 1 hf58 rfl (rfl) dX7_prepare_152 ?_
                  refine lv_icmp_ge (tgt := 170) hx hb dX7_prepare_153 (by decide) (fun c59 => ?_) (fun c59 => ?_)
                  ·
                    have oc48 : (48 : Int32).toInt = 48 := by decide
                    have cc60 : (48 : Int32).toInt ≤ y146_l4.toInt := i32_le.mp c59
                    have hb61 : In y146_l4 48 2147483647 := In.ge1 hy146_l4 (⟨by decide, by decide⟩ : In 48 48 48) cc60 (by omega) (by omega)
                    exact ret_v hx hb hr hlocks hP hD hS (Nat.le_of_ble_eq_true rfl) (Nat.le_of_ble_eq_true rfl) (⟨rfl, hT, hfr⟩) dX7_prepare_170
                  ·
                    have oc48 : (48 : Int32).toInt = 48 := by decide
                    have cc62 : y146_l4.toInt < (48 : Int32).toInt := i32_nle c59
                    have hb63 : In y146_l4 0 47 := In.lt1 hy146_l4 (⟨by decide, by decide⟩ : In 48 48 48) cc62 (by omega) (by omega)
                    refine lv_aload_n hx hb dX7_prepare_156 rfl (lv_at hl 0 rfl) ?_
                    refine pl_get (v := .ref (ad 23)) hx hb hts (fun w h => mT (inX7 w h)) hown hG.1 hP (hst.1 18 (by decide)) hf55 rfl 5 (by decide) (hts _ (mT wg_437)) (fun _ h => h) rfl dX7_prepare_157 ?_
                    refine lv_iload hx hb dX7_prepare_160 (lv_at hl 4 rfl) ?_
                    refine lv_lconst (v := 0) hx hb dX7_prepare_162 (by decide) ?_
                    refine pl_lastE hx hb hG.1 hP hD hS (hst.1 23 (by decide)) 1 hf58 rfl (In.inb hb63 (by decide) (by decide)) dX7_prepare_163 (fun H locs f64 r67 er67 hf65 ho66 hP hD hS => ?_)
                    have hf68 := (ho66 (ad 8) (hst.ne (by decide) (by decide) (by decide))).trans hf56
                    have hf69 := (ho66 (ad 18) (hst.ne (by decide) (by decide) (by decide))).trans hf55
                    have hfr : (∀ b, b ≠ (ad 18) → b ≠ (ad 19) → b ≠ (ad 20) → b ≠ (ad 23) → b ≠ (ad 8) → f64 b = f b) := fun b z0_ z1_ z2_ z3_ z4_ => (ho66 b z3_).trans (hfr b z0_ z1_ z2_ z3_ z4_)
                    obtain ⟨x70, ex70⟩ : ∃ y : Int32, y = y146_l4 + 1 := ⟨_, rfl⟩
                    have hb71 : In x70 1 48 := ex70 ▸ In.add hb63 (⟨by decide, by decide⟩ : In 1 1 1) (by decide) (by decide) (by decide) (by decide)
                    have et72 : x70.toInt = y146_l4.toInt + 1 := In.adde ex70 hb63 (k := 1) (by decide) (by decide) (by decide)
                    refine lv_iinc (v := x70) (lv' := [(4, .int x70), (0, .ref (ad 18)), (1, .ref (ad 6)), (2, .int z2), (3, .int z3)]) hx hb dX7_prepare_164 hl (k := 4) rfl (by rw [ex70]; rfl) (by decide) rfl (fun ls hl => ?_)
                    have hT := TI.updA hT hst (k := 23) (by decide) hf65 ho66 ⟨r67, rfl⟩
                    refine lv_goto (tgt := 146) hx hb dX7_prepare_167 (by decide) ?_
                    exact ih146 x70 _ _ _ _ (In.mono hb71 (by decide) (by decide)) hP hD hS hT hfr hf69 hf68 (lv_sub hl [1, 2, 3, 4, 0] rfl) (msu et72 (by decide) hmz146)
              exact hJ146 ((2147483647 - (0 : Int32).toInt).toNat + 1) 0 _ _ _ _ (⟨by decide, by decide⟩ : In 0 0 2147483647) hP hD hS hT hfr hf50 hf51 (lv_sub hl [1, 2, 3, 4, 0] rfl) (msI _)
            ·
              have oc6 : (6 : Int32).toInt = 6 := by decide
              have cc73 : y110_l4.toInt ≤ (6 : Int32).toInt := i32_nlt c52
              have hb74 : In y110_l4 0 6 := In.le1 hy110_l4 (⟨by decide, by decide⟩ : In 6 6 6) cc73 (by omega) (by omega)
              refine lv_aload_n hx hb dX7_prepare_117 rfl (lv_at hl 0 rfl) ?_
              refine pl_get (v := .ref (ad 20)) hx hb hts (fun w h => mT (inX7 w h)) hown hG.1 hP (hst.1 18 (by decide)) hf50 rfl 2 (by decide) (hts _ (mT wg_434)) (fun _ h => h) rfl dX7_prepare_118 ?_
              refine lv_iload hx hb dX7_prepare_121 (lv_at hl 4 rfl) ?_
              refine lv_aload_n hx hb dX7_prepare_123 rfl (lv_at hl 0 rfl) ?_
              refine pl_get (v := .ref (ad 8)) hx hb hts (fun w h => mT (inX7 w h)) hown hG.1 hP (hst.1 18 (by decide)) hf50 rfl 0 (by decide) (hts _ (mT wg_432)) (fun _ h => h) rfl dX7_prepare_124 ?_
              refine lv_aload_n hx hb dX7_prepare_127 rfl (lv_at hl 0 rfl) ?_
              refine pl_get (v := .int w55_8) hx hb hts (fun w h => mT (inX7 w h)) hown hG.1 hP (hst.1 18 (by decide)) hf50 rfl 8 (by decide) (hts _ (mT wg_440)) (fun _ h => h) rfl dX7_prepare_128 ?_
              refine lv_iload hx hb dX7_prepare_131 (lv_at hl 4 rfl) ?_
              refine call_i (run_VN (rm := rm_X2_freeLetters_ru) hx hb hml hown hts (s_X2_freeLetters_ru l g ad th _ _ _ w55_8 y110_l4 hst hT (In.mono hb74 (by decide) (by decide))) cV_X2_freeLetters wn_1044 ⟨Nat.le_of_ble_eq_true rfl, Nat.le_of_ble_eq_true rfl⟩ hG hE hA hP hD hS (hst.1 8 (by decide)) hf51 rfl rfl hl.1 (As := [.int w55_8, .int y110_l4]) (rest := [.int y110_l4, .ref (ad 20)]) rfl (Nat.le_of_ble_eq_true rfl) dX7_prepare_133 ⟨Nat.le_of_ble_eq_true rfl, Nat.le_of_ble_eq_true rfl⟩) hA hD hS (fun r75 L76 f77 H locs hp78 hP hD hS => ?_)
              obtain ⟨eL79L, eL79T⟩ := hp78
              have eL79L : L76 = L := eL79L
              have eL79T : f77 = f_110 := eL79T
              rw [eL79L, eL79T] at hP hD
              obtain ⟨rw80, hf81⟩ := hT.1 20 (by decide)
              refine pl_iastE hx hb hG.1 hP hD hS (hst.1 20 (by decide)) 0 hf81 rfl (In.inb hb74 (by decide) (by decide)) dX7_prepare_136 (fun H locs f82 r85 er85 hf83 ho84 hP hD hS => ?_)
              have hf86 := (ho84 (ad 8) (hst.ne (by decide) (by decide) (by decide))).trans hf51
              have hf87 := (ho84 (ad 18) (hst.ne (by decide) (by decide) (by decide))).trans hf50
              have hfr : (∀ b, b ≠ (ad 18) → b ≠ (ad 19) → b ≠ (ad 20) → b ≠ (ad 23) → b ≠ (ad 8) → f82 b = f b) := fun b z0_ z1_ z2_ z3_ z4_ => (ho84 b z2_).trans (hfr b z0_ z1_ z2_ z3_ z4_)
              obtain ⟨x88, ex88⟩ : ∃ y : Int32, y = y110_l4 + 1 := ⟨_, rfl⟩
              have hb89 : In x88 1 7 := ex88 ▸ In.add hb74 (⟨by decide, by decide⟩ : In 1 1 1) (by decide) (by decide) (by decide) (by decide)
              have et90 : x88.toInt = y110_l4.toInt + 1 := In.adde ex88 hb74 (k := 1) (by decide) (by decide) (by decide)
              refine lv_iinc (v := x88) (lv' := [(4, .int x88), (0, .ref (ad 18)), (1, .ref (ad 6)), (2, .int z2), (3, .int z3)]) hx hb dX7_prepare_137 hl (k := 4) rfl (by rw [ex88]; rfl) (by decide) rfl (fun ls hl => ?_)
              have hT := TI.updA hT hst (k := 20) (by decide) hf83 ho84 ⟨r85, rfl⟩
              refine lv_goto (tgt := 110) hx hb dX7_prepare_140 (by decide) ?_
              exact ih110 x88 _ _ _ _ (In.mono hb89 (by decide) (by decide)) hP hD hS hT hfr hf87 hf86 (lv_sub hl [1, 2, 3, 4, 0] rfl) (msu et90 (by decide) hmz110)
        exact hJ110 ((7 - (0 : Int32).toInt).toNat + 1) 0 _ _ _ _ (⟨by decide, by decide⟩ : In 0 0 7) hP hD hS hT hfr hfc55 hf47 (lv_sub hl [1, 2, 3, 4, 0] rfl) (msI _)
      ·
        have cc91 : y55_l4.toInt < v1_18.toInt := i32_nle c48
        have hb92 : In y55_l4 0 8 := In.lt1 hy55_l4 hv1_18 cc91 (by omega) (by omega)
        have hb93 : In v1_18 1 9 := In.lt2 hy55_l4 hv1_18 cc91 (by omega) (by omega)
        refine lv_aload_n hx hb dX7_prepare_67 rfl (lv_at hl 0 rfl) ?_
        refine pl_get (v := .int w55_9) hx hb hts (fun w h => mT (inX7 w h)) hown hG.1 hP (hst.1 18 (by decide)) hfc55 rfl 9 (by decide) (hts _ (mT wg_441)) (fun _ h => h) rfl dX7_prepare_68 ?_
        refine lv_iload hx hb dX7_prepare_71 (lv_at hl 4 rfl) ?_
        refine call_i (run_SN (rm := rm_X10_bit) hx hb hml hown hts (s_X10_bit l g ad th _ _ _ w55_9 y55_l4 hst hT ) cS_X10_bit wn_1043 ⟨Nat.le_of_ble_eq_true rfl, Nat.le_of_ble_eq_true rfl⟩ hG hE hA hP hD hS rfl hl.1 (As := [.int w55_9, .int y55_l4]) (rest := []) rfl (Nat.le_of_ble_eq_true rfl) dX7_prepare_73 ⟨Nat.le_of_ble_eq_true rfl, Nat.le_of_ble_eq_true rfl⟩) hA hD hS (fun r94 L95 f96 H locs hp97 hP hD hS => ?_)
        obtain ⟨eL98L, eL98T, eL98R, eL98X0⟩ := hp97
        have eL98L : L95 = L := eL98L
        have eL98T : f96 = f_55 := eL98T
        rw [eL98L, eL98T] at hP hD
        have eL98R : In r94 0 1 := eL98R
        refine lv_iconst (v := 1) hx hb dX7_prepare_76 (by decide) ?_
        have hJ101 : ∀ (f_101 : HP) (H : Heap) (locs : List Loc) (w101_6 : Int32) (w101_7 : Int32) (w101_8 : Int32) (w101_9 : Int32) (w101_10 : Int32) (w101_11 : Int32) (w101_12 : Int32) (w101_13 : Int32) (ls : Array Slot), va_P g.1 vwCl (va_pl L f_101) H → va_D A (va_pl L f_101) → va_S A s.heap H locs → TI g ad th f_101 → (∀ b, b ≠ (ad 18) → b ≠ (ad 19) → b ≠ (ad 20) → b ≠ (ad 23) → b ≠ (ad 8) → f_101 b = f b) → f_101 (ad 8) = .inr (2, [.int v0_18, .int v1_18, .int v2_18, .int v3_18, .int v4_18, .int v5_18, .int v6_18, .int v7_18]) → In w101_8 0 511 → In w101_9 0 511 → In w101_10 0 9 → In w101_11 0 8 → In w101_13 0 1 → f_101 (ad 18) = .inr (7, [.ref (ad 8), .ref (ad 19), .ref (ad 20), .ref (ad 21), .ref (ad 22), .ref (ad 23), .int w101_6, .int w101_7, .int w101_8, .int w101_9, .int w101_10, .int w101_11, .int w101_12, .int w101_13]) → w101_10.toInt ≤ y55_l4.toInt + 1 → lv_has ls 5 [(0, .ref (ad 18)), (1, .ref (ad 6)), (2, .int z2), (3, .int z3), (4, .int y55_l4)] → W p l e rm_X7_prepare s m [.ref (ad 18), .ref (ad 6), .int z2, .int z3].toArray below meth c H locs 0 0 (MQ below (va_Qv (po_X7_prepare g ad th L f z2 z3) (PstB g A) A) [.ref (ad 18), .ref (ad 6), .int z2, .int z3].toArray s rm_X7_prepare.cells rm_X7_prepare.slots A) (F0 m 101 ls []) := by
          intro f_101 H locs w101_6 w101_7 w101_8 w101_9 w101_10 w101_11 w101_12 w101_13 ls hP hD hS hT hfr hf99 hw101_8 hw101_9 hw101_10 hw101_11 hw101_13 hfc101 hinv101_0 hl
          obtain ⟨x100, ex100⟩ : ∃ y : Int32, y = y55_l4 + 1 := ⟨_, rfl⟩
          have hb101 : In x100 1 9 := ex100 ▸ In.add hb92 (⟨by decide, by decide⟩ : In 1 1 1) (by decide) (by decide) (by decide) (by decide)
          have et102 : x100.toInt = y55_l4.toInt + 1 := In.adde ex100 hb92 (k := 1) (by decide) (by decide) (by decide)
          refine lv_iinc (v := x100) (lv' := [(4, .int x100), (0, .ref (ad 18)), (1, .ref (ad 6)), (2, .int z2), (3, .int z3)]) hx hb dX7_prepare_101 hl (k := 4) rfl (by rw [ex100]; rfl) (by decide) rfl (fun ls hl => ?_)
          refine lv_goto (tgt := 55) hx hb dX7_prepare_104 (by decide) ?_
          exact ih55 x100 _ _ _ w101_6 w101_7 w101_8 w101_9 w101_10 w101_11 w101_12 w101_13 _ (In.mono hb101 (by decide) (by decide)) hP hD hS hT hfr hf99 hw101_8 hw101_9 hw101_10 hw101_11 hw101_13 hfc101 (by obtain ⟨o0a, o0b⟩ := (hw101_10 : In _ _ _); obtain ⟨o1a, o1b⟩ := (hb101 : In _ _ _); obtain ⟨o2a, o2b⟩ := (hb92 : In _ _ _); obtain ⟨o3a, o3b⟩ := (hw55_10 : In _ _ _); obtain ⟨o4a, o4b⟩ := (hb93 : In _ _ _); omega) (lv_sub hl [1, 2, 3, 4, 0] rfl) (msu et102 (by decide) hmz55)
        refine lv_icmp_ne (tgt := 101) hx hb dX7_prepare_77 (by decide) (fun c103 => ?_) (fun c103 => ?_)
        ·
          have oc1 : (1 : Int32).toInt = 1 := by decide
          have cc104 : r94.toInt ≠ (1 : Int32).toInt := i32_ne c103
          have hb105 : In r94 0 0 := In.ne1 eL98R (⟨by decide, by decide⟩ : In 1 1 1) cc104 (by omega) (by omega)
          exact hJ101 _ _ _ w55_6 w55_7 w55_8 w55_9 w55_10 w55_11 w55_12 w55_13 _ hP hD hS hT hfr hf47 hw55_8 hw55_9 hw55_10 hw55_11 hw55_13 hfc55 (by obtain ⟨o0a, o0b⟩ := (hw55_10 : In _ _ _); obtain ⟨o1a, o1b⟩ := (hb92 : In _ _ _); obtain ⟨o2a, o2b⟩ := (hb93 : In _ _ _); omega) (lv_sub hl [0, 1, 2, 3, 4] rfl)
        ·
          have oc1 : (1 : Int32).toInt = 1 := by decide
          have cc106 : r94.toInt = (1 : Int32).toInt := congrArg Int32.toInt c103
          have hb107 : In r94 1 1 := In.eq1 eL98R (⟨by decide, by decide⟩ : In 1 1 1) cc106 (by omega) (by omega)
          refine lv_aload_n hx hb dX7_prepare_80 rfl (lv_at hl 0 rfl) ?_
          refine pl_get (v := .ref (ad 19)) hx hb hts (fun w h => mT (inX7 w h)) hown hG.1 hP (hst.1 18 (by decide)) hfc55 rfl 1 (by decide) (hts _ (mT wg_433)) (fun _ h => h) rfl dX7_prepare_81 ?_
          refine lv_aload_n hx hb dX7_prepare_84 rfl (lv_at hl 0 rfl) ?_
          refine pl_get (v := .int w55_10) hx hb hts (fun w h => mT (inX7 w h)) hown hG.1 hP (hst.1 18 (by decide)) hfc55 rfl 10 (by decide) (hts _ (mT wg_442)) (fun _ h => h) rfl dX7_prepare_85 ?_
          refine lv_iload hx hb dX7_prepare_88 (lv_at hl 4 rfl) ?_
          obtain ⟨rw108, hf109, hc110⟩ := hT.1 19 (by decide)
          refine pl_iastE hx hb hG.1 hP hD hS (hst.1 19 (by decide)) 0 hf109 rfl (vp_of (by obtain ⟨o0a, o0b⟩ := (hw55_10 : In _ _ _); obtain ⟨o1a, o1b⟩ := (hb92 : In _ _ _); obtain ⟨o2a, o2b⟩ := (hb93 : In _ _ _); omega) (by obtain ⟨o0a, o0b⟩ := (hw55_10 : In _ _ _); obtain ⟨o1a, o1b⟩ := (hb92 : In _ _ _); obtain ⟨o2a, o2b⟩ := (hb93 : In _ _ _); omega)) dX7_prepare_90 (fun H locs f111 r114 er114 hf112 ho113 hP hD hS => ?_)
          have hc115 : ∀ i : Nat, i < 9 → In (r114 i) 0 8 := cont_upd er114 hc110 hb92
          have hf116 := (ho113 (ad 8) (hst.ne (by decide) (by decide) (by decide))).trans hf47
          have hf117 := (ho113 (ad 18) (hst.ne (by decide) (by decide) (by decide))).trans hfc55
          have hfr : (∀ b, b ≠ (ad 18) → b ≠ (ad 19) → b ≠ (ad 20) → b ≠ (ad 23) → b ≠ (ad 8) → f111 b = f b) := fun b z0_ z1_ z2_ z3_ z4_ => (ho113 b z1_).trans (hfr b z0_ z1_ z2_ z3_ z4_)
          refine lv_aload_n hx hb dX7_prepare_91 rfl (lv_at hl 0 rfl) ?_
          refine lv_dup hx hb dX7_prepare_92 rfl ?_
          refine pl_get (v := .int w55_10) hx hb hts (fun w h => mT (inX7 w h)) hown hG.1 hP (hst.1 18 (by decide)) hf117 rfl 10 (by decide) (hts _ (mT wg_442)) (fun _ h => h) rfl dX7_prepare_93 ?_
          refine lv_iconst (v := 1) hx hb dX7_prepare_96 (by decide) ?_
          refine lv_iadd hx hb dX7_prepare_97 ?_
          refine lv_topi (fun x118 ex118 => ?_)
          have hb119 : In x118 1 10 := ex118 ▸ In.add hw55_10 (⟨by decide, by decide⟩ : In 1 1 1) (by decide) (by decide) (by decide) (by decide)
          have et120 : x118.toInt = w55_10.toInt + 1 := In.adde ex118 hw55_10 (k := 1) (by decide) (by decide) (by decide)
          have hT := TI.updA hT hst (k := 19) (by decide) hf112 ho113 ⟨r114, rfl, hc115⟩
          refine pl_put (ty := .int) (v := .int x118) (fs' := [.ref (ad 8), .ref (ad 19), .ref (ad 20), .ref (ad 21), .ref (ad 22), .ref (ad 23), .int w55_6, .int w55_7, .int w55_8, .int w55_9, .int x118, .int w55_11, .int w55_12, .int w55_13]) hx hb hts (fun w h => mT (inX7 w h)) tyX7 tyX7_ok nmX7 hown hG.1 hP hD hS (hst.1 18 (by decide)) hf117 rfl 10 (by decide) (hts _ (mT wg_442)) (fun _ h => h) rfl (by decide +kernel) (rfl) (rfl) (Nat.le_of_ble_eq_true rfl) rfl dX7_prepare_98 (fun H locs f121 hf122 ho123 hP hD hS => ?_)
          have hf124 := (ho123 (ad 8) (hst.ne (by decide) (by decide) (by decide))).trans hf116
          have hf125 := (ho123 (ad 19) (hst.ne (by decide) (by decide) (by decide))).trans hf112
          have hfr : (∀ b, b ≠ (ad 18) → b ≠ (ad 19) → b ≠ (ad 20) → b ≠ (ad 23) → b ≠ (ad 8) → f121 b = f b) := fun b z0_ z1_ z2_ z3_ z4_ => (ho123 b z0_).trans (hfr b z0_ z1_ z2_ z3_ z4_)
          have hT := TI.updA hT hst (k := 18) (by decide) hf122 ho123 ⟨w55_6, w55_7, w55_8, w55_9, x118, w55_11, w55_12, w55_13, rfl, hw55_8, hw55_9, (In.mk (by obtain ⟨o0a, o0b⟩ := (hb119 : In _ _ _); obtain ⟨o1a, o1b⟩ := (hw55_10 : In _ _ _); obtain ⟨o2a, o2b⟩ := (hb92 : In _ _ _); obtain ⟨o3a, o3b⟩ := (hb93 : In _ _ _); omega) (by obtain ⟨o0a, o0b⟩ := (hb119 : In _ _ _); obtain ⟨o1a, o1b⟩ := (hw55_10 : In _ _ _); obtain ⟨o2a, o2b⟩ := (hb92 : In _ _ _); obtain ⟨o3a, o3b⟩ := (hb93 : In _ _ _); omega)), hw55_11, hw55_13⟩
          exact hJ101 _ _ _ w55_6 w55_7 w55_8 w55_9 x118 w55_11 w55_12 w55_13 _ hP hD hS hT hfr hf124 hw55_8 hw55_9 (In.mk (by obtain ⟨o0a, o0b⟩ := (hb119 : In _ _ _); obtain ⟨o1a, o1b⟩ := (hw55_10 : In _ _ _); obtain ⟨o2a, o2b⟩ := (hb92 : In _ _ _); obtain ⟨o3a, o3b⟩ := (hb93 : In _ _ _); omega) (by obtain ⟨o0a, o0b⟩ := (hb119 : In _ _ _); obtain ⟨o1a, o1b⟩ := (hw55_10 : In _ _ _); obtain ⟨o2a, o2b⟩ := (hb92 : In _ _ _); obtain ⟨o3a, o3b⟩ := (hb93 : In _ _ _); omega)) hw55_11 hw55_13 hf122 (by obtain ⟨o0a, o0b⟩ := (hb119 : In _ _ _); obtain ⟨o1a, o1b⟩ := (hb92 : In _ _ _); obtain ⟨o2a, o2b⟩ := (hw55_10 : In _ _ _); obtain ⟨o3a, o3b⟩ := (hb93 : In _ _ _); omega) (lv_sub hl [0, 1, 2, 3, 4] rfl)
  exact hJ55 ((9 - (0 : Int32).toInt).toNat + 1) 0 _ _ _ v6_1 z3 z2 x26 0 r32 v12_1 v13_1 _ (⟨by decide, by decide⟩ : In 0 0 9) hP hD hS hT hfr hf45 (In.mono hz2 (by decide) (by decide)) hb27 (⟨by decide, by decide⟩ : In 0 0 9) hb37 hv13_1 hf43 (by have oc0 : (0 : Int32).toInt = 0 := (by decide); omega) (lv_sub hl [1, 2, 3, 4, 0] rfl) (msI _)

abbrev rm_X7_explore_6 : Room := { frames := 1, cells := 0, slots := 0, locals := 22 }
abbrev po_X7_explore_6 (g : GG) (ad : Nat → Nat) (th : Nat → Int) (L : List Nat) (f : HP) (z2 : Int32) (z3 : Int64) (z4 : Int32) : (List Nat × HP) → Prop := fun u => u.1 = L ∧ TI g ad th u.2 ∧ (∀ b, b ≠ (ad 18) → u.2 b = f b)
set_option maxHeartbeats 4000000 in
set_option maxRecDepth 100000 in
theorem s_X7_explore_6 (l : Launch) (g : GG) (ad : Nat → Nat) (th : Nat → Int) (L : List Nat) (f : HP) (sz : Nat) (z2 : Int32) (z3 : Int64) (z4 : Int32) (hst : ST ad L) (hT : TI g ad th f) (hz2 : In z2 0 511) : MtV l g yX7_explore cX7_explore 8 rm_X7_explore_6 [.ref (ad 18), .int 6, .int z2, .long z3, .int z4] L f sz (po_X7_explore_6 g ad th L f z2 z3 z4) := by
  refine MtV.of (by decide +kernel) (Nat.le_of_ble_eq_true rfl) ?_
  intro p e s m below meth c A hEn hP hD hS ls hl
  obtain ⟨hx, hb, hr, hml, hown, hlocks, hts, hG, hA, hE, hnm⟩ := hEn
  have hown : s.vm.findClass "RulerWord$Search" = some m.cls := hown
  have hl : lv_has ls 8 [(0, .ref (ad 18)), (1, .int 6), (2, .int z2), (3, .long z3), (5, .int z4)] := hl
  have hfr : (∀ b, b ≠ (ad 18) → f b = f b) := fun b z0_ => rfl
  refine lv_iload_n hx hb dX7_explore_0 rfl (lv_at hl 1 rfl) ?_
  refine lv_aload_n hx hb dX7_explore_1 rfl (lv_at hl 0 rfl) ?_
  obtain ⟨v6_1, v7_1, v8_1, v9_1, v10_1, v11_1, v12_1, v13_1, hf2, hv8_1, hv9_1, hv10_1, hv11_1, hv13_1⟩ := hT.1 18 (by decide)
  refine pl_get (v := .int v7_1) hx hb hts (fun w h => mT (inX7 w h)) hown hG.1 hP (hst.1 18 (by decide)) hf2 rfl 7 (by decide) (hts _ (mT wg_439)) (fun _ h => h) rfl dX7_explore_2 ?_
  have hJ14 : ∀ (H : Heap) (locs : List Loc) (ls : Array Slot), va_P g.1 vwCl (va_pl L f) H → va_D A (va_pl L f) → va_S A s.heap H locs → lv_has ls 8 [(0, .ref (ad 18)), (1, .int 6), (2, .int z2), (3, .long z3), (5, .int z4)] → W p l e rm_X7_explore_6 s m [.ref (ad 18), .int 6, .int z2, .long z3, .int z4].toArray below meth c H locs 0 0 (MQ below (va_Qv (po_X7_explore_6 g ad th L f z2 z3 z4) (PstB g A) A) [.ref (ad 18), .int 6, .int z2, .long z3, .int z4].toArray s rm_X7_explore_6.cells rm_X7_explore_6.slots A) (F0 m 14 ls []) := by
    intro H locs ls hP hD hS hl
    refine lv_aload_n hx hb dX7_explore_14 rfl (lv_at hl 0 rfl) ?_
    refine lv_iload_n hx hb dX7_explore_15 rfl (lv_at hl 2 rfl) ?_
    refine lv_iload hx hb dX7_explore_16 (lv_at hl 4 rfl) ?_
    refine call_v (run_V (rm := rm_X7_judge) hx hb hml hown hts (s_X7_judge l g ad th _ _ _ z2 z4 hst hT hz2) cV_X7_judge wg_1053 ⟨Nat.le_of_ble_eq_true rfl, Nat.le_of_ble_eq_true rfl⟩ hG hE hA hP hD hS (hst.1 18 (by decide)) hf2 rfl rfl hl.1 (As := [.int z2, .int z4]) (rest := []) rfl (Nat.le_of_ble_eq_true rfl) dX7_explore_18 ⟨Nat.le_of_ble_eq_true rfl, Nat.le_of_ble_eq_true rfl⟩) hA hD hS (fun L4 f5 H locs hp6 hP hD hS => ?_)
    obtain ⟨eL7L, eL7T, eL7F⟩ := hp6
    have eL7L : L4 = L := eL7L
    rw [eL7L] at hP hD
    have hT : TI g ad th f5 := eL7T
    have eL7F : ∀ b, b ≠ (ad 18) → f5 b = f b := eL7F
    have hfr : (∀ b, b ≠ (ad 18) → f5 b = f b) := fun b z0_ => (eL7F b z0_).trans (hfr b z0_)
    exact ret_v hx hb hr hlocks hP hD hS (Nat.le_of_ble_eq_true rfl) (Nat.le_of_ble_eq_true rfl) (⟨rfl, hT, hfr⟩) dX7_explore_21
  refine lv_icmp_ge (tgt := 14) hx hb dX7_explore_5 (by decide) (fun c8 => ?_) (fun c8 => ?_)
  ·
    have cc9 : v7_1.toInt ≤ (6 : Int32).toInt := i32_le.mp c8
    have hb10 : In v7_1 (-2147483648) 6 := In.ge2 (⟨by decide, by decide⟩ : In 6 6 6) (In.full v7_1) cc9 (by omega) (by omega)
    exact hJ14 _ _ _ hP hD hS (lv_sub hl [0, 1, 2, 3, 4] rfl)
  ·
    have cc11 : (6 : Int32).toInt < v7_1.toInt := i32_nle c8
    have hb12 : In v7_1 7 2147483647 := In.lt2 (⟨by decide, by decide⟩ : In 6 6 6) (In.full v7_1) cc11 (by omega) (by omega)
    refine lv_iload_n hx hb dX7_explore_8 rfl (lv_at hl 1 rfl) ?_
    refine lv_bipush (v := 6) hx hb dX7_explore_9 (by decide) ?_
    refine lv_icmp_lt (tgt := 22) hx hb dX7_explore_11 (by decide) (fun c13 => ?_) (fun c13 => ?_)
    ·
      have cc14 : (6 : Int32).toInt < (6 : Int32).toInt := i32_lt.mp c13
      exact In.empty (lo := 6) (hi := 5) (In.lt1 (⟨by decide, by decide⟩ : In 6 6 6) (⟨by decide, by decide⟩ : In 6 6 6) cc14 (by omega) (by omega)) (by decide)
    ·
      exact hJ14 _ _ _ hP hD hS (lv_sub hl [0, 1, 2, 3, 4] rfl)

abbrev rm_X7_tryRuler_5 : Room := { frames := 2, cells := 0, slots := 0, locals := 49 }
abbrev po_X7_tryRuler_5 (g : GG) (ad : Nat → Nat) (th : Nat → Int) (L : List Nat) (f : HP) (z2 : Int32) (z3 : Int32) (z4 : Int64) (z5 : Int32) : (List Nat × HP) → Prop := fun u => u.1 = L ∧ TI g ad th u.2 ∧ (∀ b, b ≠ (ad 18) → u.2 b = f b)
set_option maxHeartbeats 4000000 in
set_option maxRecDepth 100000 in
theorem s_X7_tryRuler_5 (l : Launch) (g : GG) (ad : Nat → Nat) (th : Nat → Int) (L : List Nat) (f : HP) (sz : Nat) (z2 : Int32) (z3 : Int32) (z4 : Int64) (z5 : Int32) (hst : ST ad L) (hT : TI g ad th f) (hz2 : In z2 0 511) : MtV l g yX7_tryRuler cX7_tryRuler 21 rm_X7_tryRuler_5 [.ref (ad 18), .int 5, .int z2, .int z3, .long z4, .int z5] L f sz (po_X7_tryRuler_5 g ad th L f z2 z3 z4 z5) := by
  refine MtV.of (by decide +kernel) (Nat.le_of_ble_eq_true rfl) ?_
  intro p e s m below meth c A hEn hP hD hS ls hl
  obtain ⟨hx, hb, hr, hml, hown, hlocks, hts, hG, hA, hE, hnm⟩ := hEn
  have hown : s.vm.findClass "RulerWord$Search" = some m.cls := hown
  have hl : lv_has ls 21 [(0, .ref (ad 18)), (1, .int 5), (2, .int z2), (3, .int z3), (4, .long z4), (6, .int z5)] := hl
  have hfr : (∀ b, b ≠ (ad 18) → f b = f b) := fun b z0_ => rfl
  refine lv_aload_n hx hb dX7_tryRuler_0 rfl (lv_at hl 0 rfl) ?_
  obtain ⟨v6_1, v7_1, v8_1, v9_1, v10_1, v11_1, v12_1, v13_1, hf2, hv8_1, hv9_1, hv10_1, hv11_1, hv13_1⟩ := hT.1 18 (by decide)
  refine pl_get (v := .ref (ad 8)) hx hb hts (fun w h => mT (inX7 w h)) hown hG.1 hP (hst.1 18 (by decide)) hf2 rfl 0 (by decide) (hts _ (mT wg_432)) (fun _ h => h) rfl dX7_tryRuler_1 ?_
  refine lv_iload_n hx hb dX7_tryRuler_4 rfl (lv_at hl 1 rfl) ?_
  obtain ⟨v0_3, v1_3, v2_3, v3_3, v4_3, v5_3, v6_3, v7_3, hf4, hv0_3, hv1_3, hv2_3, hv3_3, hv5_3, hv6_3⟩ := hT.1 8 (by decide)
  refine call_i (run_VN (rm := rm_X2_ruler_ru) hx hb hml hown hts (s_X2_ruler_ru l g ad th _ _ _ 5 hst hT (⟨by decide, by decide⟩ : In 5 0 6)) cV_X2_ruler wn_1093 ⟨Nat.le_of_ble_eq_true rfl, Nat.le_of_ble_eq_true rfl⟩ hG hE hA hP hD hS (hst.1 8 (by decide)) hf4 rfl rfl hl.1 (As := [.int 5]) (rest := []) rfl (Nat.le_of_ble_eq_true rfl) dX7_tryRuler_5 ⟨Nat.le_of_ble_eq_true rfl, Nat.le_of_ble_eq_true rfl⟩) hA hD hS (fun r5 L6 f7 H locs hp8 hP hD hS => ?_)
  obtain ⟨eL9L, eL9T, eL9R⟩ := hp8
  have eL9L : L6 = L := eL9L
  have eL9T : f7 = f := eL9T
  rw [eL9L, eL9T] at hP hD
  have eL9R : In r5 0 8 := eL9R
  refine lv_istore (lv' := [(7, .int r5), (0, .ref (ad 18)), (1, .int 5), (2, .int z2), (3, .int z3), (4, .long z4), (6, .int z5)]) hx hb dX7_tryRuler_8 hl (by decide) rfl (fun ls hl => ?_)
  refine lv_iload hx hb dX7_tryRuler_10 (lv_at hl 0 rfl) ?_
  refine lv_bipush (v := 9) hx hb dX7_tryRuler_12 (by decide) ?_
  refine lv_imul hx hb dX7_tryRuler_14 ?_
  refine lv_topi (fun x10 ex10 => ?_)
  have hb11 : In x10 0 72 := ex10 ▸ In.mul eL9R (⟨by decide, by decide⟩ : In 9 9 9) (by decide) (by decide) (by decide) (by decide) (by decide)
  refine lv_istore (lv' := [(8, .int x10), (7, .int r5), (0, .ref (ad 18)), (1, .int 5), (2, .int z2), (3, .int z3), (4, .long z4), (6, .int z5)]) hx hb dX7_tryRuler_15 hl (by decide) rfl (fun ls hl => ?_)
  refine lv_aload_n hx hb dX7_tryRuler_17 rfl (lv_at hl 2 rfl) ?_
  refine pl_get (v := .ref (ad 8)) hx hb hts (fun w h => mT (inX7 w h)) hown hG.1 hP (hst.1 18 (by decide)) hf2 rfl 0 (by decide) (hts _ (mT wg_432)) (fun _ h => h) rfl dX7_tryRuler_18 ?_
  refine pl_getN (v := .int v6_3) hx hb hts (fun w h => mT (inX2 w h)) hown hG.1 hP (hst.1 8 (by decide)) hf4 rfl 6 (by decide) (hG.2.1 _ wn_243) (fun _ h => h) rfl dX7_tryRuler_21 ?_
  have hJ41 : ∀ (y41_s0 : Int32) (H : Heap) (locs : List Loc) (ls : Array Slot), In y41_s0 0 511 → va_P g.1 vwCl (va_pl L f) H → va_D A (va_pl L f) → va_S A s.heap H locs → lv_has ls 21 [(0, .ref (ad 18)), (1, .int 5), (2, .int z2), (3, .int z3), (4, .long z4), (6, .int z5), (7, .int r5), (8, .int x10)] → W p l e rm_X7_tryRuler_5 s m [.ref (ad 18), .int 5, .int z2, .int z3, .long z4, .int z5].toArray below meth c H locs 0 0 (MQ below (va_Qv (po_X7_tryRuler_5 g ad th L f z2 z3 z4 z5) (PstB g A) A) [.ref (ad 18), .int 5, .int z2, .int z3, .long z4, .int z5].toArray s rm_X7_tryRuler_5.cells rm_X7_tryRuler_5.slots A) (F0 m 41 ls [.int y41_s0]) := by
    intro y41_s0 H locs ls hy41_s0 hP hD hS hl
    refine lv_istore (lv' := [(9, .int y41_s0), (0, .ref (ad 18)), (1, .int 5), (2, .int z2), (3, .int z3), (4, .long z4), (6, .int z5), (7, .int r5), (8, .int x10)]) hx hb dX7_tryRuler_41 hl (by decide) rfl (fun ls hl => ?_)
    refine lv_aload_n hx hb dX7_tryRuler_43 rfl (lv_at hl 1 rfl) ?_
    refine pl_get (v := .int v9_1) hx hb hts (fun w h => mT (inX7 w h)) hown hG.1 hP (hst.1 18 (by decide)) hf2 rfl 9 (by decide) (hts _ (mT wg_441)) (fun _ h => h) rfl dX7_tryRuler_44 ?_
    refine lv_iload_n hx hb dX7_tryRuler_47 rfl (lv_at hl 4 rfl) ?_
    refine lv_iconst (v := (-1)) hx hb dX7_tryRuler_48 (by decide) ?_
    refine lv_ixor hx hb dX7_tryRuler_49 ?_
    refine lv_topi (fun x12 ex12 => ?_)
    refine lv_iand hx hb dX7_tryRuler_50 ?_
    refine lv_topi (fun x13 ex13 => ?_)
    have hb14 : In x13 0 511 := ex13 ▸ In.andl hv9_1 (by decide)
    refine lv_iload hx hb dX7_tryRuler_51 (lv_at hl 0 rfl) ?_
    refine lv_iconst (v := (-1)) hx hb dX7_tryRuler_53 (by decide) ?_
    refine lv_ixor hx hb dX7_tryRuler_54 ?_
    refine lv_topi (fun x15 ex15 => ?_)
    refine lv_iand hx hb dX7_tryRuler_55 ?_
    refine lv_topi (fun x16 ex16 => ?_)
    have hb17 : In x16 0 511 := ex16 ▸ In.andl hb14 (by decide)
    refine lv_istore (lv' := [(10, .int x16), (9, .int y41_s0), (0, .ref (ad 18)), (1, .int 5), (2, .int z2), (3, .int z3), (4, .long z4), (6, .int z5), (7, .int r5), (8, .int x10)]) hx hb dX7_tryRuler_56 hl (by decide) rfl (fun ls hl => ?_)
    refine lv_iload hx hb dX7_tryRuler_58 (lv_at hl 0 rfl) ?_
    refine lv_aload_n hx hb dX7_tryRuler_60 rfl (lv_at hl 2 rfl) ?_
    refine lv_iload_n hx hb dX7_tryRuler_61 rfl (lv_at hl 3 rfl) ?_
    refine call_i (run_V (rm := rm_X7_doesSuspicionCount) hx hb hml hown hts (s_X7_doesSuspicionCount l g ad th _ _ _ 5 hst hT (⟨by decide, by decide⟩ : In 5 0 6)) cV_X7_doesSuspicionCount wg_1094 ⟨Nat.le_of_ble_eq_true rfl, Nat.le_of_ble_eq_true rfl⟩ hG hE hA hP hD hS (hst.1 18 (by decide)) hf2 rfl rfl hl.1 (As := [.int 5]) (rest := [.int x16]) rfl (Nat.le_of_ble_eq_true rfl) dX7_tryRuler_62 ⟨Nat.le_of_ble_eq_true rfl, Nat.le_of_ble_eq_true rfl⟩) hA hD hS (fun r18 L19 f20 H locs hp21 hP hD hS => ?_)
    obtain ⟨eL22L, eL22T, eL22R⟩ := hp21
    have eL22L : L19 = L := eL22L
    have eL22T : f20 = f := eL22T
    rw [eL22L, eL22T] at hP hD
    have eL22R : In r18 0 1 := eL22R
    have hJ73 : ∀ (y73_s0 : Int32) (H : Heap) (locs : List Loc) (ls : Array Slot), In y73_s0 (-2147483648) 2147483647 → va_P g.1 vwCl (va_pl L f) H → va_D A (va_pl L f) → va_S A s.heap H locs → lv_has ls 21 [(0, .ref (ad 18)), (1, .int 5), (2, .int z2), (3, .int z3), (4, .long z4), (6, .int z5), (7, .int r5), (8, .int x10), (9, .int y41_s0), (10, .int x16)] → W p l e rm_X7_tryRuler_5 s m [.ref (ad 18), .int 5, .int z2, .int z3, .long z4, .int z5].toArray below meth c H locs 0 0 (MQ below (va_Qv (po_X7_tryRuler_5 g ad th L f z2 z3 z4 z5) (PstB g A) A) [.ref (ad 18), .int 5, .int z2, .int z3, .long z4, .int z5].toArray s rm_X7_tryRuler_5.cells rm_X7_tryRuler_5.slots A) (F0 m 73 ls [.int y73_s0, .int x16]) := by
      intro y73_s0 H locs ls hy73_s0 hP hD hS hl
      refine lv_ior hx hb dX7_tryRuler_73 ?_
      refine lv_topi (fun x23 ex23 => ?_)
      refine lv_istore (lv' := [(11, .int x23), (0, .ref (ad 18)), (1, .int 5), (2, .int z2), (3, .int z3), (4, .long z4), (6, .int z5), (7, .int r5), (8, .int x10), (9, .int y41_s0), (10, .int x16)]) hx hb dX7_tryRuler_74 hl (by decide) rfl (fun ls hl => ?_)
      refine lv_iload_n hx hb dX7_tryRuler_76 rfl (lv_at hl 3 rfl) ?_
      refine lv_iload hx hb dX7_tryRuler_77 (lv_at hl 7 rfl) ?_
      refine call_i (run_SN (rm := rm_X10_bit) hx hb hml hown hts (s_X10_bit l g ad th _ _ _ z2 r5 hst hT ) cS_X10_bit wn_1043 ⟨Nat.le_of_ble_eq_true rfl, Nat.le_of_ble_eq_true rfl⟩ hG hE hA hP hD hS rfl hl.1 (As := [.int z2, .int r5]) (rest := []) rfl (Nat.le_of_ble_eq_true rfl) dX7_tryRuler_79 ⟨Nat.le_of_ble_eq_true rfl, Nat.le_of_ble_eq_true rfl⟩) hA hD hS (fun r24 L25 f26 H locs hp27 hP hD hS => ?_)
      obtain ⟨eL28L, eL28T, eL28R, eL28X0⟩ := hp27
      have eL28L : L25 = L := eL28L
      have eL28T : f26 = f := eL28T
      rw [eL28L, eL28T] at hP hD
      have eL28R : In r24 0 1 := eL28R
      refine lv_iconst (v := 1) hx hb dX7_tryRuler_82 (by decide) ?_
      have hJ94 : ∀ (y94_s0 : Int32) (H : Heap) (locs : List Loc) (ls : Array Slot), In y94_s0 0 511 → va_P g.1 vwCl (va_pl L f) H → va_D A (va_pl L f) → va_S A s.heap H locs → lv_has ls 21 [(0, .ref (ad 18)), (1, .int 5), (2, .int z2), (3, .int z3), (4, .long z4), (6, .int z5), (7, .int r5), (8, .int x10), (9, .int y41_s0), (10, .int x16), (11, .int x23)] → W p l e rm_X7_tryRuler_5 s m [.ref (ad 18), .int 5, .int z2, .int z3, .long z4, .int z5].toArray below meth c H locs 0 0 (MQ below (va_Qv (po_X7_tryRuler_5 g ad th L f z2 z3 z4 z5) (PstB g A) A) [.ref (ad 18), .int 5, .int z2, .int z3, .long z4, .int z5].toArray s rm_X7_tryRuler_5.cells rm_X7_tryRuler_5.slots A) (F0 m 94 ls [.int y94_s0]) := by
        intro y94_s0 H locs ls hy94_s0 hP hD hS hl
        refine lv_istore (lv' := [(12, .int y94_s0), (0, .ref (ad 18)), (1, .int 5), (2, .int z2), (3, .int z3), (4, .long z4), (6, .int z5), (7, .int r5), (8, .int x10), (9, .int y41_s0), (10, .int x16), (11, .int x23)]) hx hb dX7_tryRuler_94 hl (by decide) rfl (fun ls hl => ?_)
        refine lv_aload_n hx hb dX7_tryRuler_96 rfl (lv_at hl 1 rfl) ?_
        refine pl_get (v := .ref (ad 20)) hx hb hts (fun w h => mT (inX7 w h)) hown hG.1 hP (hst.1 18 (by decide)) hf2 rfl 2 (by decide) (hts _ (mT wg_434)) (fun _ h => h) rfl dX7_tryRuler_97 ?_
        refine lv_iload_n hx hb dX7_tryRuler_100 rfl (lv_at hl 2 rfl) ?_
        refine lv_iconst (v := 1) hx hb dX7_tryRuler_101 (by decide) ?_
        refine lv_iadd hx hb dX7_tryRuler_102 ?_
        refine lv_topi (fun x29 ex29 => ?_)
        obtain rfl : x29 = 6 := ex29.trans (by decide)
        obtain ⟨rw30, hf31⟩ := hT.1 20 (by decide)
        have hin32 : vp_in 6 7 := In.inb (⟨by decide, by decide⟩ : In 6 6 6) (by decide) (by decide)
        refine pl_iald hx hb hG.1 hP (hst.1 20 (by decide)) 0 hf31 rfl hin32 dX7_tryRuler_103 ?_
        refine lv_topi (fun x33 ex33 => ?_)
        refine lv_aload_n hx hb dX7_tryRuler_104 rfl (lv_at hl 1 rfl) ?_
        refine pl_get (v := .int v10_1) hx hb hts (fun w h => mT (inX7 w h)) hown hG.1 hP (hst.1 18 (by decide)) hf2 rfl 10 (by decide) (hts _ (mT wg_442)) (fun _ h => h) rfl dX7_tryRuler_105 ?_
        refine lv_isub hx hb dX7_tryRuler_108 ?_
        refine lv_topi (fun x34 ex34 => ?_)
        refine lv_istore (lv' := [(13, .int x34), (12, .int y94_s0), (0, .ref (ad 18)), (1, .int 5), (2, .int z2), (3, .int z3), (4, .long z4), (6, .int z5), (7, .int r5), (8, .int x10), (9, .int y41_s0), (10, .int x16), (11, .int x23)]) hx hb dX7_tryRuler_109 hl (by decide) rfl (fun ls hl => ?_)
        refine lv_aload_n hx hb dX7_tryRuler_111 rfl (lv_at hl 2 rfl) ?_
        refine pl_get (v := .int v8_1) hx hb hts (fun w h => mT (inX7 w h)) hown hG.1 hP (hst.1 18 (by decide)) hf2 rfl 8 (by decide) (hts _ (mT wg_440)) (fun _ h => h) rfl dX7_tryRuler_112 ?_
        refine lv_iload hx hb dX7_tryRuler_115 (lv_at hl 8 rfl) ?_
        refine call_i (run_SN (rm := rm_X10_bit) hx hb hml hown hts (s_X10_bit l g ad th _ _ _ v8_1 r5 hst hT ) cS_X10_bit wn_1043 ⟨Nat.le_of_ble_eq_true rfl, Nat.le_of_ble_eq_true rfl⟩ hG hE hA hP hD hS rfl hl.1 (As := [.int v8_1, .int r5]) (rest := []) rfl (Nat.le_of_ble_eq_true rfl) dX7_tryRuler_117 ⟨Nat.le_of_ble_eq_true rfl, Nat.le_of_ble_eq_true rfl⟩) hA hD hS (fun r35 L36 f37 H locs hp38 hP hD hS => ?_)
        obtain ⟨eL39L, eL39T, eL39R, eL39X0⟩ := hp38
        have eL39L : L36 = L := eL39L
        have eL39T : f37 = f := eL39T
        rw [eL39L, eL39T] at hP hD
        have eL39R : In r35 0 1 := eL39R
        refine lv_iconst (v := 1) hx hb dX7_tryRuler_120 (by decide) ?_
        have hJ134 : ∀ (y134_s0 : Int32) (H : Heap) (locs : List Loc) (ls : Array Slot), In y134_s0 1 512 → va_P g.1 vwCl (va_pl L f) H → va_D A (va_pl L f) → va_S A s.heap H locs → lv_has ls 21 [(0, .ref (ad 18)), (1, .int 5), (2, .int z2), (3, .int z3), (4, .long z4), (6, .int z5), (7, .int r5), (8, .int x10), (9, .int y41_s0), (10, .int x16), (11, .int x23), (12, .int y94_s0), (13, .int x34)] → W p l e rm_X7_tryRuler_5 s m [.ref (ad 18), .int 5, .int z2, .int z3, .long z4, .int z5].toArray below meth c H locs 0 0 (MQ below (va_Qv (po_X7_tryRuler_5 g ad th L f z2 z3 z4 z5) (PstB g A) A) [.ref (ad 18), .int 5, .int z2, .int z3, .long z4, .int z5].toArray s rm_X7_tryRuler_5.cells rm_X7_tryRuler_5.slots A) (F0 m 134 ls [.int y134_s0]) := by
          intro y134_s0 H locs ls hy134_s0 hP hD hS hl
          refine lv_istore (lv' := [(14, .int y134_s0), (0, .ref (ad 18)), (1, .int 5), (2, .int z2), (3, .int z3), (4, .long z4), (6, .int z5), (7, .int r5), (8, .int x10), (9, .int y41_s0), (10, .int x16), (11, .int x23), (12, .int y94_s0), (13, .int x34)]) hx hb dX7_tryRuler_134 hl (by decide) rfl (fun ls hl => ?_)
          refine lv_iconst (v := 0) hx hb dX7_tryRuler_136 (by decide) ?_
          refine lv_istore (lv' := [(15, .int 0), (14, .int y134_s0), (0, .ref (ad 18)), (1, .int 5), (2, .int z2), (3, .int z3), (4, .long z4), (6, .int z5), (7, .int r5), (8, .int x10), (9, .int y41_s0), (10, .int x16), (11, .int x23), (12, .int y94_s0), (13, .int x34)]) hx hb dX7_tryRuler_137 hl (by decide) rfl (fun ls hl => ?_)
          have hJ139 : ∀ (k139 : Nat) (y139_l15 : Int32) (f_139 : HP) (H : Heap) (locs : List Loc) (ls : Array Slot), In y139_l15 0 2147483647 → va_P g.1 vwCl (va_pl L f_139) H → va_D A (va_pl L f_139) → va_S A s.heap H locs → TI g ad th f_139 → (∀ b, b ≠ (ad 18) → f_139 b = f b) → f_139 (ad 20) = .inl (g.2.1 0, 7, .inl (rw30)) → f_139 (ad 8) = .inr (2, [.int v0_3, .int v1_3, .int v2_3, .int v3_3, .int v4_3, .int v5_3, .int v6_3, .int v7_3]) → lv_has ls 21 [(0, .ref (ad 18)), (1, .int 5), (2, .int z2), (3, .int z3), (4, .long z4), (6, .int z5), (7, .int r5), (8, .int x10), (9, .int y41_s0), (10, .int x16), (11, .int x23), (12, .int y94_s0), (13, .int x34), (14, .int y134_s0), (15, .int y139_l15)] → 2147483647 - y139_l15.toInt < ((k139 : Nat) : Int) → W p l e rm_X7_tryRuler_5 s m [.ref (ad 18), .int 5, .int z2, .int z3, .long z4, .int z5].toArray below meth c H locs 0 0 (MQ below (va_Qv (po_X7_tryRuler_5 g ad th L f z2 z3 z4 z5) (PstB g A) A) [.ref (ad 18), .int 5, .int z2, .int z3, .long z4, .int z5].toArray s rm_X7_tryRuler_5.cells rm_X7_tryRuler_5.slots A) (F0 m 139 ls []) := by
            intro k139
            induction k139 with
            | zero =>
              intro y139_l15 f_139 H locs ls hy139_l15 hP hD hS hT hfr hf40 hf41 hl hmz139
              exact ms0 hy139_l15 hmz139
            | succ k139 ih139 =>
              intro y139_l15 f_139 H locs ls hy139_l15 hP hD hS hT hfr hf40 hf41 hl hmz139
              refine lv_iload hx hb dX7_tryRuler_139 (lv_at hl 14 rfl) ?_
              refine lv_iload hx hb dX7_tryRuler_141 (lv_at hl 13 rfl) ?_
              refine lv_icmp_ge (tgt := 232) hx hb dX7_tryRuler_143 (by decide) (fun c42 => ?_) (fun c42 => ?_)
              ·
                have cc43 : y134_s0.toInt ≤ y139_l15.toInt := i32_le.mp c42
                have hb44 : In y139_l15 1 2147483647 := In.ge1 hy139_l15 hy134_s0 cc43 (by omega) (by omega)
                exact ret_v hx hb hr hlocks hP hD hS (Nat.le_of_ble_eq_true rfl) (Nat.le_of_ble_eq_true rfl) (⟨rfl, hT, hfr⟩) dX7_tryRuler_232
              ·
                have cc45 : y139_l15.toInt < y134_s0.toInt := i32_nle c42
                have hb46 : In y139_l15 0 511 := In.lt1 hy139_l15 hy134_s0 cc45 (by omega) (by omega)
                refine lv_aload_n hx hb dX7_tryRuler_146 rfl (lv_at hl 0 rfl) ?_
                obtain ⟨v6_47, v7_47, v8_47, v9_47, v10_47, v11_47, v12_47, v13_47, hf48, hv8_47, hv9_47, hv10_47, hv11_47, hv13_47⟩ := hT.1 18 (by decide)
                refine call_i (run_V (rm := rm_X7_isEnough) hx hb hml hown hts (s_X7_isEnough l g ad th _ _ _  hst hT ) cV_X7_isEnough wg_1070 ⟨Nat.le_of_ble_eq_true rfl, Nat.le_of_ble_eq_true rfl⟩ hG hE hA hP hD hS (hst.1 18 (by decide)) hf48 rfl rfl hl.1 (As := []) (rest := []) rfl (Nat.le_of_ble_eq_true rfl) dX7_tryRuler_147 ⟨Nat.le_of_ble_eq_true rfl, Nat.le_of_ble_eq_true rfl⟩) hA hD hS (fun r49 L50 f51 H locs hp52 hP hD hS => ?_)
                obtain ⟨eL53L, eL53T, eL53R⟩ := hp52
                have eL53L : L50 = L := eL53L
                have eL53T : f51 = f_139 := eL53T
                rw [eL53L, eL53T] at hP hD
                have eL53R : In r49 0 1 := eL53R
                refine lv_if_ne (tgt := 232) hx hb dX7_tryRuler_150 (by decide) (fun c54 => ?_) (fun c54 => ?_)
                ·
                  have oc0 : (0 : Int32).toInt = 0 := by decide
                  have cc55 : r49.toInt ≠ (0 : Int32).toInt := i32_ne c54
                  have hb56 : In r49 1 1 := In.ne1 eL53R (⟨by decide, by decide⟩ : In 0 0 0) cc55 (by omega) (by omega)
                  exact ret_v hx hb hr hlocks hP hD hS (Nat.le_of_ble_eq_true rfl) (Nat.le_of_ble_eq_true rfl) (⟨rfl, hT, hfr⟩) dX7_tryRuler_232
                ·
                  have oc0 : (0 : Int32).toInt = 0 := by decide
                  have cc57 : r49.toInt = (0 : Int32).toInt := congrArg Int32.toInt c54
                  have hb58 : In r49 0 0 := In.eq1 eL53R (⟨by decide, by decide⟩ : In 0 0 0) cc57 (by omega) (by omega)
                  refine lv_aload_n hx hb dX7_tryRuler_153 rfl (lv_at hl 0 rfl) ?_
                  refine lv_iload hx hb dX7_tryRuler_154 (lv_at hl 14 rfl) ?_
                  refine call_i (run_V (rm := rm_X7_spread) hx hb hml hown hts (s_X7_spread l g ad th _ _ _ y139_l15 hst hT ) cV_X7_spread wg_1098 ⟨Nat.le_of_ble_eq_true rfl, Nat.le_of_ble_eq_true rfl⟩ hG hE hA hP hD hS (hst.1 18 (by decide)) hf48 rfl rfl hl.1 (As := [.int y139_l15]) (rest := []) rfl (Nat.le_of_ble_eq_true rfl) dX7_tryRuler_156 ⟨Nat.le_of_ble_eq_true rfl, Nat.le_of_ble_eq_true rfl⟩) hA hD hS (fun r59 L60 f61 H locs hp62 hP hD hS => ?_)
                  obtain ⟨eL63L, eL63T, eL63R⟩ := hp62
                  have eL63L : L60 = L := eL63L
                  have eL63T : f61 = f_139 := eL63T
                  rw [eL63L, eL63T] at hP hD
                  have eL63R : In r59 0 511 := eL63R
                  refine lv_istore (lv' := [(16, .int r59), (0, .ref (ad 18)), (1, .int 5), (2, .int z2), (3, .int z3), (4, .long z4), (6, .int z5), (7, .int r5), (8, .int x10), (9, .int y41_s0), (10, .int x16), (11, .int x23), (12, .int y94_s0), (13, .int x34), (14, .int y134_s0), (15, .int y139_l15)]) hx hb dX7_tryRuler_159 hl (by decide) rfl (fun ls hl => ?_)
                  refine lv_iload hx hb dX7_tryRuler_161 (lv_at hl 0 rfl) ?_
                  refine lv_iload hx hb dX7_tryRuler_163 (lv_at hl 11 rfl) ?_
                  refine lv_iconst (v := (-1)) hx hb dX7_tryRuler_165 (by decide) ?_
                  refine lv_ixor hx hb dX7_tryRuler_166 ?_
                  refine lv_topi (fun x64 ex64 => ?_)
                  refine lv_iand hx hb dX7_tryRuler_167 ?_
                  refine lv_topi (fun x65 ex65 => ?_)
                  have hb66 : In x65 0 511 := ex65 ▸ In.andl eL63R (by decide)
                  have hJ226 : ∀ (f_226 : HP) (H : Heap) (locs : List Loc) (ls : Array Slot), va_P g.1 vwCl (va_pl L f_226) H → va_D A (va_pl L f_226) → va_S A s.heap H locs → TI g ad th f_226 → (∀ b, b ≠ (ad 18) → f_226 b = f b) → f_226 (ad 20) = .inl (g.2.1 0, 7, .inl (rw30)) → f_226 (ad 8) = .inr (2, [.int v0_3, .int v1_3, .int v2_3, .int v3_3, .int v4_3, .int v5_3, .int v6_3, .int v7_3]) → lv_has ls 21 [(0, .ref (ad 18)), (1, .int 5), (2, .int z2), (3, .int z3), (4, .long z4), (6, .int z5), (7, .int r5), (8, .int x10), (9, .int y41_s0), (10, .int x16), (11, .int x23), (12, .int y94_s0), (13, .int x34), (14, .int y134_s0), (15, .int y139_l15), (16, .int r59)] → W p l e rm_X7_tryRuler_5 s m [.ref (ad 18), .int 5, .int z2, .int z3, .long z4, .int z5].toArray below meth c H locs 0 0 (MQ below (va_Qv (po_X7_tryRuler_5 g ad th L f z2 z3 z4 z5) (PstB g A) A) [.ref (ad 18), .int 5, .int z2, .int z3, .long z4, .int z5].toArray s rm_X7_tryRuler_5.cells rm_X7_tryRuler_5.slots A) (F0 m 226 ls []) := by
                    intro f_226 H locs ls hP hD hS hT hfr hf67 hf68 hl
                    obtain ⟨x69, ex69⟩ : ∃ y : Int32, y = y139_l15 + 1 := ⟨_, rfl⟩
                    have hb70 : In x69 1 512 := ex69 ▸ In.add hb46 (⟨by decide, by decide⟩ : In 1 1 1) (by decide) (by decide) (by decide) (by decide)
                    have et71 : x69.toInt = y139_l15.toInt + 1 := In.adde ex69 hb46 (k := 1) (by decide) (by decide) (by decide)
                    refine lv_iinc (v := x69) (lv' := [(15, .int x69), (0, .ref (ad 18)), (1, .int 5), (2, .int z2), (3, .int z3), (4, .long z4), (6, .int z5), (7, .int r5), (8, .int x10), (9, .int y41_s0), (10, .int x16), (11, .int x23), (12, .int y94_s0), (13, .int x34), (14, .int y134_s0), (16, .int r59)]) hx hb dX7_tryRuler_226 hl (k := 14) rfl (by rw [ex69]; rfl) (by decide) rfl (fun ls hl => ?_)
                    refine lv_goto (tgt := 139) hx hb dX7_tryRuler_229 (by decide) ?_
                    exact ih139 x69 _ _ _ _ (In.mono hb70 (by decide) (by decide)) hP hD hS hT hfr hf67 hf68 (lv_sub hl [1, 2, 3, 4, 5, 6, 7, 8, 9, 10, 11, 12, 13, 14, 0] rfl) (msu et71 (by decide) hmz139)
                  refine lv_if_ne (tgt := 226) hx hb dX7_tryRuler_168 (by decide) (fun c72 => ?_) (fun c72 => ?_)
                  ·
                    have oc0 : (0 : Int32).toInt = 0 := by decide
                    have cc73 : x65.toInt ≠ (0 : Int32).toInt := i32_ne c72
                    have hb74 : In x65 1 511 := In.ne1 hb66 (⟨by decide, by decide⟩ : In 0 0 0) cc73 (by omega) (by omega)
                    exact hJ226 _ _ _ _ hP hD hS hT hfr hf40 hf41 (lv_sub hl [1, 2, 3, 4, 5, 6, 7, 8, 9, 10, 11, 12, 13, 14, 15, 0] rfl)
                  ·
                    have oc0 : (0 : Int32).toInt = 0 := by decide
                    have cc75 : x65.toInt = (0 : Int32).toInt := congrArg Int32.toInt c72
                    have hb76 : In x65 0 0 := In.eq1 hb66 (⟨by decide, by decide⟩ : In 0 0 0) cc75 (by omega) (by omega)
                    refine lv_iload hx hb dX7_tryRuler_171 (lv_at hl 12 rfl) ?_
                    refine lv_iload hx hb dX7_tryRuler_173 (lv_at hl 0 rfl) ?_
                    refine lv_ior hx hb dX7_tryRuler_175 ?_
                    refine lv_topi (fun x77 ex77 => ?_)
                    have hb78 : In x77 0 511 := ex77 ▸ In.or 9 hy94_s0 eL63R (by decide) (by decide) (by decide) (by decide) (by decide)
                    refine lv_istore (lv' := [(17, .int x77), (16, .int r59), (0, .ref (ad 18)), (1, .int 5), (2, .int z2), (3, .int z3), (4, .long z4), (6, .int z5), (7, .int r5), (8, .int x10), (9, .int y41_s0), (10, .int x16), (11, .int x23), (12, .int y94_s0), (13, .int x34), (14, .int y134_s0), (15, .int y139_l15)]) hx hb dX7_tryRuler_176 hl (by decide) rfl (fun ls hl => ?_)
                    refine lv_iload_n hx hb dX7_tryRuler_178 rfl (lv_at hl 4 rfl) ?_
                    refine lv_iload hx hb dX7_tryRuler_179 (lv_at hl 11 rfl) ?_
                    refine lv_iconst (v := (-1)) hx hb dX7_tryRuler_181 (by decide) ?_
                    refine lv_ixor hx hb dX7_tryRuler_182 ?_
                    refine lv_topi (fun x79 ex79 => ?_)
                    refine lv_iand hx hb dX7_tryRuler_183 ?_
                    refine lv_topi (fun x80 ex80 => ?_)
                    have hb81 : In x80 0 511 := ex80 ▸ In.andl hz2 (by decide)
                    refine lv_iload hx hb dX7_tryRuler_184 (lv_at hl 0 rfl) ?_
                    refine lv_iload hx hb dX7_tryRuler_186 (lv_at hl 11 rfl) ?_
                    refine lv_iand hx hb dX7_tryRuler_188 ?_
                    refine lv_topi (fun x82 ex82 => ?_)
                    have hb83 : In x82 0 511 := ex82 ▸ In.andr hb17 (by decide)
                    refine lv_ior hx hb dX7_tryRuler_189 ?_
                    refine lv_topi (fun x84 ex84 => ?_)
                    have hb85 : In x84 0 511 := ex84 ▸ In.or 9 hb81 hb83 (by decide) (by decide) (by decide) (by decide) (by decide)
                    refine lv_istore (lv' := [(18, .int x84), (17, .int x77), (16, .int r59), (0, .ref (ad 18)), (1, .int 5), (2, .int z2), (3, .int z3), (4, .long z4), (6, .int z5), (7, .int r5), (8, .int x10), (9, .int y41_s0), (10, .int x16), (11, .int x23), (12, .int y94_s0), (13, .int x34), (14, .int y134_s0), (15, .int y139_l15)]) hx hb dX7_tryRuler_190 hl (by decide) rfl (fun ls hl => ?_)
                    refine lv_iload_n hx hb dX7_tryRuler_192 rfl (lv_at hl 6 rfl) ?_
                    refine lv_iload hx hb dX7_tryRuler_193 (lv_at hl 1 rfl) ?_
                    refine lv_iload_n hx hb dX7_tryRuler_195 rfl (lv_at hl 5 rfl) ?_
                    refine lv_ixor hx hb dX7_tryRuler_196 ?_
                    refine lv_topi (fun x86 ex86 => ?_)
                    have hb87 : In x86 0 511 := ex86 ▸ In.xor 9 hb78 hz2 (by decide) (by decide) (by decide) (by decide) (by decide)
                    refine lv_iand hx hb dX7_tryRuler_197 ?_
                    refine lv_topi (fun x88 ex88 => ?_)
                    have hb89 : In x88 0 511 := ex88 ▸ In.andr hb87 (by decide)
                    refine lv_i2l hx hb dX7_tryRuler_198 rfl ?_
                    refine lv_lstore (lv' := [(19, .long (x88.toInt64)), (18, .int x84), (17, .int x77), (16, .int r59), (0, .ref (ad 18)), (1, .int 5), (2, .int z2), (3, .int z3), (4, .long z4), (6, .int z5), (7, .int r5), (8, .int x10), (9, .int y41_s0), (10, .int x16), (11, .int x23), (12, .int y94_s0), (13, .int x34), (14, .int y134_s0), (15, .int y139_l15)]) hx hb dX7_tryRuler_199 hl (by decide) rfl (fun ls hl => ?_)
                    refine lv_aload_n hx hb dX7_tryRuler_201 rfl (lv_at hl 4 rfl) ?_
                    refine lv_iload_n hx hb dX7_tryRuler_202 rfl (lv_at hl 5 rfl) ?_
                    refine lv_iconst (v := 1) hx hb dX7_tryRuler_203 (by decide) ?_
                    refine lv_iadd hx hb dX7_tryRuler_204 ?_
                    refine lv_topi (fun x90 ex90 => ?_)
                    obtain rfl : x90 = 6 := ex90.trans (by decide)
                    refine lv_iload hx hb dX7_tryRuler_205 (lv_at hl 1 rfl) ?_
                    refine lv_lload hx hb dX7_tryRuler_207 (lv_at hl 8 rfl) ?_
                    refine lv_lload hx hb dX7_tryRuler_209 (lv_at hl 0 rfl) ?_
                    refine lv_iload hx hb dX7_tryRuler_211 (lv_at hl 11 rfl) ?_
                    refine lv_lshl hx hb dX7_tryRuler_213 rfl ?_
                    refine lv_topl (fun x91 ex91 => ?_)
                    refine lv_lor hx hb dX7_tryRuler_214 ?_
                    refine lv_topl (fun x92 ex92 => ?_)
                    refine lv_iload hx hb dX7_tryRuler_215 (lv_at hl 9 rfl) ?_
                    refine lv_iload hx hb dX7_tryRuler_217 (lv_at hl 18 rfl) ?_
                    refine lv_iload hx hb dX7_tryRuler_219 (lv_at hl 16 rfl) ?_
                    refine lv_ishl hx hb dX7_tryRuler_221 ?_
                    refine lv_topi (fun x93 ex93 => ?_)
                    refine lv_ior hx hb dX7_tryRuler_222 ?_
                    refine lv_topi (fun x94 ex94 => ?_)
                    refine call_v (run_V (rm := rm_X7_explore_6) hx hb hml hown hts (s_X7_explore_6 l g ad th _ _ _ x84 x92 x94 hst hT hb85) cV_X7_explore wg_1049 ⟨Nat.le_of_ble_eq_true rfl, Nat.le_of_ble_eq_true rfl⟩ hG hE hA hP hD hS (hst.1 18 (by decide)) hf48 rfl rfl hl.1 (As := [.int 6, .int x84, .long x92, .int x94]) (rest := []) rfl (Nat.le_of_ble_eq_true rfl) dX7_tryRuler_223 ⟨Nat.le_of_ble_eq_true rfl, Nat.le_of_ble_eq_true rfl⟩) hA hD hS (fun L96 f97 H locs hp98 hP hD hS => ?_)
                    obtain ⟨eL99L, eL99T, eL99F⟩ := hp98
                    have eL99L : L96 = L := eL99L
                    rw [eL99L] at hP hD
                    have hT : TI g ad th f97 := eL99T
                    have eL99F : ∀ b, b ≠ (ad 18) → f97 b = f_139 b := eL99F
                    have hf100 := (eL99F (ad 8) (hst.ne (by decide) (by decide) (by decide))).trans hf41
                    have hf101 := (eL99F (ad 20) (hst.ne (by decide) (by decide) (by decide))).trans hf40
                    have hfr : (∀ b, b ≠ (ad 18) → f97 b = f b) := fun b z0_ => (eL99F b z0_).trans (hfr b z0_)
                    exact hJ226 _ _ _ _ hP hD hS hT hfr hf101 hf100 (lv_sub hl [4, 5, 6, 7, 8, 9, 10, 11, 12, 13, 14, 15, 16, 17, 18, 3] rfl)
          exact hJ139 ((2147483647 - (0 : Int32).toInt).toNat + 1) 0 _ _ _ _ (⟨by decide, by decide⟩ : In 0 0 2147483647) hP hD hS hT hfr hf31 hf4 (lv_sub hl [2, 3, 4, 5, 6, 7, 8, 9, 10, 11, 12, 13, 14, 1, 0] rfl) (msI _)
        refine lv_icmp_ne (tgt := 133) hx hb dX7_tryRuler_121 (by decide) (fun c102 => ?_) (fun c102 => ?_)
        ·
          have oc1 : (1 : Int32).toInt = 1 := by decide
          have cc103 : r35.toInt ≠ (1 : Int32).toInt := i32_ne c102
          have hb104 : In r35 0 0 := In.ne1 eL39R (⟨by decide, by decide⟩ : In 1 1 1) cc103 (by omega) (by omega)
          refine lv_iconst (v := 1) hx hb dX7_tryRuler_133 (by decide) ?_
          exact hJ134 1 _ _ _ (⟨by decide, by decide⟩ : In 1 1 512) hP hD hS (lv_sub hl [2, 3, 4, 5, 6, 7, 8, 9, 10, 11, 12, 1, 0] rfl)
        ·
          have oc1 : (1 : Int32).toInt = 1 := by decide
          have cc105 : r35.toInt = (1 : Int32).toInt := congrArg Int32.toInt c102
          have hb106 : In r35 1 1 := In.eq1 eL39R (⟨by decide, by decide⟩ : In 1 1 1) cc105 (by omega) (by omega)
          refine lv_iconst (v := 1) hx hb dX7_tryRuler_124 (by decide) ?_
          refine lv_aload_n hx hb dX7_tryRuler_125 rfl (lv_at hl 2 rfl) ?_
          refine pl_get (v := .int v10_1) hx hb hts (fun w h => mT (inX7 w h)) hown hG.1 hP (hst.1 18 (by decide)) hf2 rfl 10 (by decide) (hts _ (mT wg_442)) (fun _ h => h) rfl dX7_tryRuler_126 ?_
          refine lv_ishl hx hb dX7_tryRuler_129 ?_
          refine lv_topi (fun x107 ex107 => ?_)
          have hb108 : In x107 1 512 := ex107 ▸ In.shl (⟨by decide, by decide⟩ : In 1 1 1) hv10_1 (by decide) (by decide) (by decide) (by decide) (by decide) (by decide)
          refine lv_goto (tgt := 134) hx hb dX7_tryRuler_130 (by decide) ?_
          exact hJ134 x107 _ _ _ hb108 hP hD hS (lv_sub hl [2, 3, 4, 5, 6, 7, 8, 9, 10, 11, 12, 1, 0] rfl)
      refine lv_icmp_ne (tgt := 93) hx hb dX7_tryRuler_83 (by decide) (fun c109 => ?_) (fun c109 => ?_)
      ·
        have oc1 : (1 : Int32).toInt = 1 := by decide
        have cc110 : r24.toInt ≠ (1 : Int32).toInt := i32_ne c109
        have hb111 : In r24 0 0 := In.ne1 eL28R (⟨by decide, by decide⟩ : In 1 1 1) cc110 (by omega) (by omega)
        refine lv_iconst (v := 0) hx hb dX7_tryRuler_93 (by decide) ?_
        exact hJ94 0 _ _ _ (⟨by decide, by decide⟩ : In 0 0 511) hP hD hS (lv_sub hl [1, 2, 3, 4, 5, 6, 7, 8, 9, 10, 0] rfl)
      ·
        have oc1 : (1 : Int32).toInt = 1 := by decide
        have cc112 : r24.toInt = (1 : Int32).toInt := congrArg Int32.toInt c109
        have hb113 : In r24 1 1 := In.eq1 eL28R (⟨by decide, by decide⟩ : In 1 1 1) cc112 (by omega) (by omega)
        refine lv_aload_n hx hb dX7_tryRuler_86 rfl (lv_at hl 1 rfl) ?_
        refine pl_get (v := .int v9_1) hx hb hts (fun w h => mT (inX7 w h)) hown hG.1 hP (hst.1 18 (by decide)) hf2 rfl 9 (by decide) (hts _ (mT wg_441)) (fun _ h => h) rfl dX7_tryRuler_87 ?_
        refine lv_goto (tgt := 94) hx hb dX7_tryRuler_90 (by decide) ?_
        exact hJ94 v9_1 _ _ _ hv9_1 hP hD hS (lv_sub hl [1, 2, 3, 4, 5, 6, 7, 8, 9, 10, 0] rfl)
    refine lv_if_eq (tgt := 72) hx hb dX7_tryRuler_65 (by decide) (fun c114 => ?_) (fun c114 => ?_)
    ·
      have oc0 : (0 : Int32).toInt = 0 := by decide
      have cc115 : r18.toInt = (0 : Int32).toInt := congrArg Int32.toInt c114
      have hb116 : In r18 0 0 := In.eq1 eL22R (⟨by decide, by decide⟩ : In 0 0 0) cc115 (by omega) (by omega)
      refine lv_iconst (v := 0) hx hb dX7_tryRuler_72 (by decide) ?_
      exact hJ73 0 _ _ _ (⟨by decide, by decide⟩ : In 0 (-2147483648) 2147483647) hP hD hS (lv_sub hl [2, 3, 4, 5, 6, 7, 8, 9, 1, 0] rfl)
    ·
      have oc0 : (0 : Int32).toInt = 0 := by decide
      have cc117 : r18.toInt ≠ (0 : Int32).toInt := i32_ne c114
      have hb118 : In r18 1 1 := In.ne1 eL22R (⟨by decide, by decide⟩ : In 0 0 0) cc117 (by omega) (by omega)
      refine lv_iload_n hx hb dX7_tryRuler_68 rfl (lv_at hl 5 rfl) ?_
      refine lv_goto (tgt := 73) hx hb dX7_tryRuler_69 (by decide) ?_
      exact hJ73 z3 _ _ _ (In.full z3) hP hD hS (lv_sub hl [2, 3, 4, 5, 6, 7, 8, 9, 1, 0] rfl)
  refine lv_if_eq (tgt := 40) hx hb dX7_tryRuler_24 (by decide) (fun c119 => ?_) (fun c119 => ?_)
  ·
    have oc0 : (0 : Int32).toInt = 0 := by decide
    have cc120 : v6_3.toInt = (0 : Int32).toInt := congrArg Int32.toInt c119
    have hb121 : In v6_3 0 0 := In.eq1 hv6_3 (⟨by decide, by decide⟩ : In 0 0 0) cc120 (by omega) (by omega)
    refine lv_iconst (v := 0) hx hb dX7_tryRuler_40 (by decide) ?_
    exact hJ41 0 _ _ _ (⟨by decide, by decide⟩ : In 0 0 511) hP hD hS (lv_sub hl [2, 3, 4, 5, 6, 7, 1, 0] rfl)
  ·
    have oc0 : (0 : Int32).toInt = 0 := by decide
    have cc122 : v6_3.toInt ≠ (0 : Int32).toInt := i32_ne c119
    have hb123 : In v6_3 1 1 := In.ne1 hv6_3 (⟨by decide, by decide⟩ : In 0 0 0) cc122 (by omega) (by omega)
    refine lv_lload hx hb dX7_tryRuler_27 (lv_at hl 6 rfl) ?_
    refine lv_iload hx hb dX7_tryRuler_29 (lv_at hl 0 rfl) ?_
    refine lv_lushr hx hb dX7_tryRuler_31 rfl ?_
    refine lv_topl (fun x124 ex124 => ?_)
    refine lv_l2i hx hb dX7_tryRuler_32 rfl ?_
    refine lv_topi (fun x125 ex125 => ?_)
    refine lv_sipush (v := 511) hx hb dX7_tryRuler_33 (by decide) ?_
    refine lv_iand hx hb dX7_tryRuler_36 ?_
    refine lv_topi (fun x126 ex126 => ?_)
    have hb127 : In x126 0 511 := ex126 ▸ In.andr (⟨by decide, by decide⟩ : In 511 511 511) (by decide)
    refine lv_goto (tgt := 41) hx hb dX7_tryRuler_37 (by decide) ?_
    exact hJ41 x126 _ _ _ hb127 hP hD hS (lv_sub hl [2, 3, 4, 5, 6, 7, 1, 0] rfl)

abbrev rm_X7_tryViews_5 : Room := { frames := 3, cells := 0, slots := 0, locals := 89 }
abbrev po_X7_tryViews_5 (g : GG) (ad : Nat → Nat) (th : Nat → Int) (L : List Nat) (f : HP) (z2 : Int32) (z3 : Int64) (z4 : Int32) (z5 : Int32) : (List Nat × HP) → Prop := fun u => u.1 = L ∧ TI g ad th u.2 ∧ (∀ b, b ≠ (ad 18) → b ≠ (ad 21) → b ≠ (ad 22) → u.2 b = f b)
set_option maxHeartbeats 4000000 in
set_option maxRecDepth 100000 in
theorem s_X7_tryViews_5 (l : Launch) (g : GG) (ad : Nat → Nat) (th : Nat → Int) (L : List Nat) (f : HP) (sz : Nat) (z2 : Int32) (z3 : Int64) (z4 : Int32) (z5 : Int32) (hst : ST ad L) (hT : TI g ad th f) (hz2 : In z2 0 511) : MtV l g yX7_tryViews cX7_tryViews 20 rm_X7_tryViews_5 [.ref (ad 18), .int 5, .int z2, .long z3, .int z4, .int z5] L f sz (po_X7_tryViews_5 g ad th L f z2 z3 z4 z5) := by
  refine MtV.of (by decide +kernel) (Nat.le_of_ble_eq_true rfl) ?_
  intro p e s m below meth c A hEn hP hD hS ls hl
  obtain ⟨hx, hb, hr, hml, hown, hlocks, hts, hG, hA, hE, hnm⟩ := hEn
  have hown : s.vm.findClass "RulerWord$Search" = some m.cls := hown
  have hl : lv_has ls 20 [(0, .ref (ad 18)), (1, .int 5), (2, .int z2), (3, .long z3), (5, .int z4), (6, .int z5)] := hl
  have hfr : (∀ b, b ≠ (ad 18) → b ≠ (ad 21) → b ≠ (ad 22) → f b = f b) := fun b z0_ z1_ z2_ => rfl
  refine lv_iload_n hx hb dX7_tryViews_0 rfl (lv_at hl 1 rfl) ?_
  refine lv_iconst (v := 2) hx hb dX7_tryViews_1 (by decide) ?_
  refine lv_imul hx hb dX7_tryViews_2 ?_
  refine lv_topi (fun x1 ex1 => ?_)
  obtain rfl : x1 = 10 := ex1.trans (by decide)
  refine lv_iconst (v := 1) hx hb dX7_tryViews_3 (by decide) ?_
  refine lv_iadd hx hb dX7_tryViews_4 ?_
  refine lv_topi (fun x2 ex2 => ?_)
  obtain rfl : x2 = 11 := ex2.trans (by decide)
  refine lv_bipush (v := 9) hx hb dX7_tryViews_5 (by decide) ?_
  refine lv_imul hx hb dX7_tryViews_7 ?_
  refine lv_topi (fun x3 ex3 => ?_)
  obtain rfl : x3 = 99 := ex3.trans (by decide)
  refine lv_istore (lv' := [(7, .int 99), (0, .ref (ad 18)), (1, .int 5), (2, .int z2), (3, .long z3), (5, .int z4), (6, .int z5)]) hx hb dX7_tryViews_8 hl (by decide) rfl (fun ls hl => ?_)
  refine lv_iload hx hb dX7_tryViews_10 (lv_at hl 5 rfl) ?_
  refine lv_sipush (v := 511) hx hb dX7_tryViews_12 (by decide) ?_
  refine lv_iand hx hb dX7_tryViews_15 ?_
  refine lv_topi (fun x4 ex4 => ?_)
  have hb5 : In x4 0 511 := ex4 ▸ In.andr (⟨by decide, by decide⟩ : In 511 511 511) (by decide)
  refine call_i (run_S (rm := rm_J6_bitCount_0f7a4) hx hb hml hown hts (s_J6_bitCount_0f7a4 l g ad th _ _ _ x4 hst hT ) cS_J6_bitCount_0f7a4 wg_1042 ⟨Nat.le_of_ble_eq_true rfl, Nat.le_of_ble_eq_true rfl⟩ hG hE hA hP hD hS rfl hl.1 (As := [.int x4]) (rest := []) rfl (Nat.le_of_ble_eq_true rfl) dX7_tryViews_16 ⟨Nat.le_of_ble_eq_true rfl, Nat.le_of_ble_eq_true rfl⟩) hA hD hS (fun r6 L7 f8 H locs hp9 hP hD hS => ?_)
  obtain ⟨eL10L, eL10T, eL10R, eL10X0⟩ := hp9
  have eL10L : L7 = L := eL10L
  have eL10T : f8 = f := eL10T
  rw [eL10L, eL10T] at hP hD
  have eL10R : In r6 0 63 := eL10R
  have hb11 : In r6 0 9 := bc9 hb5 eL10X0
  refine lv_istore (lv' := [(8, .int r6), (7, .int 99), (0, .ref (ad 18)), (1, .int 5), (2, .int z2), (3, .long z3), (5, .int z4), (6, .int z5)]) hx hb dX7_tryViews_19 hl (by decide) rfl (fun ls hl => ?_)
  refine lv_iload hx hb dX7_tryViews_21 (lv_at hl 6 rfl) ?_
  refine lv_bipush (v := 9) hx hb dX7_tryViews_23 (by decide) ?_
  refine lv_iushr hx hb dX7_tryViews_25 rfl ?_
  refine lv_topi (fun x12 ex12 => ?_)
  refine call_i (run_S (rm := rm_J6_bitCount_0f7a4) hx hb hml hown hts (s_J6_bitCount_0f7a4 l g ad th _ _ _ x12 hst hT ) cS_J6_bitCount_0f7a4 wg_1042 ⟨Nat.le_of_ble_eq_true rfl, Nat.le_of_ble_eq_true rfl⟩ hG hE hA hP hD hS rfl hl.1 (As := [.int x12]) (rest := []) rfl (Nat.le_of_ble_eq_true rfl) dX7_tryViews_26 ⟨Nat.le_of_ble_eq_true rfl, Nat.le_of_ble_eq_true rfl⟩) hA hD hS (fun r13 L14 f15 H locs hp16 hP hD hS => ?_)
  obtain ⟨eL17L, eL17T, eL17R, eL17X0⟩ := hp16
  have eL17L : L14 = L := eL17L
  have eL17T : f15 = f := eL17T
  rw [eL17L, eL17T] at hP hD
  have eL17R : In r13 0 63 := eL17R
  refine lv_istore (lv' := [(9, .int r13), (8, .int r6), (7, .int 99), (0, .ref (ad 18)), (1, .int 5), (2, .int z2), (3, .long z3), (5, .int z4), (6, .int z5)]) hx hb dX7_tryViews_29 hl (by decide) rfl (fun ls hl => ?_)
  refine lv_iconst (v := 0) hx hb dX7_tryViews_31 (by decide) ?_
  refine lv_istore (lv' := [(10, .int 0), (9, .int r13), (8, .int r6), (7, .int 99), (0, .ref (ad 18)), (1, .int 5), (2, .int z2), (3, .long z3), (5, .int z4), (6, .int z5)]) hx hb dX7_tryViews_32 hl (by decide) rfl (fun ls hl => ?_)
  refine lv_iconst (v := 0) hx hb dX7_tryViews_34 (by decide) ?_
  refine lv_istore (lv' := [(11, .int 0), (10, .int 0), (9, .int r13), (8, .int r6), (7, .int 99), (0, .ref (ad 18)), (1, .int 5), (2, .int z2), (3, .long z3), (5, .int z4), (6, .int z5)]) hx hb dX7_tryViews_35 hl (by decide) rfl (fun ls hl => ?_)
  have hJ37 : ∀ (k37 : Nat) (y37_l10 : Int32) (y37_l11 : Int32) (f_37 : HP) (H : Heap) (locs : List Loc) (ls : Array Slot), In y37_l10 0 9 → In y37_l11 0 9 → va_P g.1 vwCl (va_pl L f_37) H → va_D A (va_pl L f_37) → va_S A s.heap H locs → TI g ad th f_37 → (∀ b, b ≠ (ad 18) → b ≠ (ad 21) → b ≠ (ad 22) → f_37 b = f b) → (y37_l10.toInt ≤ y37_l11.toInt ∧ (y37_l11.toInt = 0 ∨ 1 ≤ y37_l10.toInt)) → lv_has ls 20 [(0, .ref (ad 18)), (1, .int 5), (2, .int z2), (3, .long z3), (5, .int z4), (6, .int z5), (7, .int 99), (8, .int r6), (9, .int r13), (10, .int y37_l10), (11, .int y37_l11)] → 9 - y37_l11.toInt < ((k37 : Nat) : Int) → W p l e rm_X7_tryViews_5 s m [.ref (ad 18), .int 5, .int z2, .long z3, .int z4, .int z5].toArray below meth c H locs 0 0 (MQ below (va_Qv (po_X7_tryViews_5 g ad th L f z2 z3 z4 z5) (PstB g A) A) [.ref (ad 18), .int 5, .int z2, .long z3, .int z4, .int z5].toArray s rm_X7_tryViews_5.cells rm_X7_tryViews_5.slots A) (F0 m 37 ls []) := by
    intro k37
    induction k37 with
    | zero =>
      intro y37_l10 y37_l11 f_37 H locs ls hy37_l10 hy37_l11 hP hD hS hT hfr hinv37_0 hl hmz37
      exact ms0 hy37_l11 hmz37
    | succ k37 ih37 =>
      intro y37_l10 y37_l11 f_37 H locs ls hy37_l10 hy37_l11 hP hD hS hT hfr hinv37_0 hl hmz37
      refine lv_iload hx hb dX7_tryViews_37 (lv_at hl 10 rfl) ?_
      refine lv_aload_n hx hb dX7_tryViews_39 rfl (lv_at hl 0 rfl) ?_
      obtain ⟨v6_18, v7_18, v8_18, v9_18, v10_18, v11_18, v12_18, v13_18, hf19, hv8_18, hv9_18, hv10_18, hv11_18, hv13_18⟩ := hT.1 18 (by decide)
      refine pl_get (v := .int v11_18) hx hb hts (fun w h => mT (inX7 w h)) hown hG.1 hP (hst.1 18 (by decide)) hf19 rfl 11 (by decide) (hts _ (mT wg_443)) (fun _ h => h) rfl dX7_tryViews_40 ?_
      refine lv_icmp_gt (tgt := 90) hx hb dX7_tryViews_43 (by decide) (fun c20 => ?_) (fun c20 => ?_)
      ·
        have cc21 : v11_18.toInt < y37_l11.toInt := i32_lt.mp c20
        have hb22 : In y37_l11 1 9 := In.gt1 hy37_l11 hv11_18 cc21 (by omega) (by omega)
        refine lv_aload_n hx hb dX7_tryViews_90 rfl (lv_at hl 0 rfl) ?_
        refine pl_get (v := .ref (ad 20)) hx hb hts (fun w h => mT (inX7 w h)) hown hG.1 hP (hst.1 18 (by decide)) hf19 rfl 2 (by decide) (hts _ (mT wg_434)) (fun _ h => h) rfl dX7_tryViews_91 ?_
        refine lv_iload_n hx hb dX7_tryViews_94 rfl (lv_at hl 1 rfl) ?_
        obtain ⟨rw23, hf24⟩ := hT.1 20 (by decide)
        have hin25 : vp_in 5 7 := In.inb (⟨by decide, by decide⟩ : In 5 5 5) (by decide) (by decide)
        refine pl_iald hx hb hG.1 hP (hst.1 20 (by decide)) 0 hf24 rfl hin25 dX7_tryViews_95 ?_
        refine lv_topi (fun x26 ex26 => ?_)
        refine lv_aload_n hx hb dX7_tryViews_96 rfl (lv_at hl 0 rfl) ?_
        refine pl_get (v := .ref (ad 8)) hx hb hts (fun w h => mT (inX7 w h)) hown hG.1 hP (hst.1 18 (by decide)) hf19 rfl 0 (by decide) (hts _ (mT wg_432)) (fun _ h => h) rfl dX7_tryViews_97 ?_
        obtain ⟨v0_27, v1_27, v2_27, v3_27, v4_27, v5_27, v6_27, v7_27, hf28, hv0_27, hv1_27, hv2_27, hv3_27, hv5_27, hv6_27⟩ := hT.1 8 (by decide)
        refine pl_getN (v := .int v0_27) hx hb hts (fun w h => mT (inX2 w h)) hown hG.1 hP (hst.1 8 (by decide)) hf28 rfl 0 (by decide) (hG.2.1 _ wn_225) (fun _ h => h) rfl dX7_tryViews_100 ?_
        have hJ119 : ∀ (y119_s0 : Int32) (H : Heap) (locs : List Loc) (ls : Array Slot), In y119_s0 0 81 → va_P g.1 vwCl (va_pl L f_37) H → va_D A (va_pl L f_37) → va_S A s.heap H locs → lv_has ls 20 [(0, .ref (ad 18)), (1, .int 5), (2, .int z2), (3, .long z3), (5, .int z4), (6, .int z5), (7, .int 99), (8, .int r6), (9, .int r13), (10, .int y37_l10), (11, .int y37_l11)] → W p l e rm_X7_tryViews_5 s m [.ref (ad 18), .int 5, .int z2, .long z3, .int z4, .int z5].toArray below meth c H locs 0 0 (MQ below (va_Qv (po_X7_tryViews_5 g ad th L f z2 z3 z4 z5) (PstB g A) A) [.ref (ad 18), .int 5, .int z2, .long z3, .int z4, .int z5].toArray s rm_X7_tryViews_5.cells rm_X7_tryViews_5.slots A) (F0 m 119 ls [.int y119_s0, .int x26]) := by
          intro y119_s0 H locs ls hy119_s0 hP hD hS hl
          refine lv_iadd hx hb dX7_tryViews_119 ?_
          refine lv_topi (fun x29 ex29 => ?_)
          refine lv_istore (lv' := [(11, .int x29), (0, .ref (ad 18)), (1, .int 5), (2, .int z2), (3, .long z3), (5, .int z4), (6, .int z5), (7, .int 99), (8, .int r6), (9, .int r13), (10, .int y37_l10)]) hx hb dX7_tryViews_120 hl (by decide) rfl (fun ls hl => ?_)
          refine lv_aload_n hx hb dX7_tryViews_122 rfl (lv_at hl 1 rfl) ?_
          refine lv_iload hx hb dX7_tryViews_123 (lv_at hl 10 rfl) ?_
          refine call_i (run_V (rm := rm_X7_power) hx hb hml hown hts (s_X7_power l g ad th _ _ _ y37_l10 hst hT ) cV_X7_power wg_1066 ⟨Nat.le_of_ble_eq_true rfl, Nat.le_of_ble_eq_true rfl⟩ hG hE hA hP hD hS (hst.1 18 (by decide)) hf19 rfl rfl hl.1 (As := [.int y37_l10]) (rest := []) rfl (Nat.le_of_ble_eq_true rfl) dX7_tryViews_125 ⟨Nat.le_of_ble_eq_true rfl, Nat.le_of_ble_eq_true rfl⟩) hA hD hS (fun r30 L31 f32 H locs hp33 hP hD hS => ?_)
          obtain ⟨eL34L, eL34T⟩ := hp33
          have eL34L : L31 = L := eL34L
          have eL34T : f32 = f_37 := eL34T
          rw [eL34L, eL34T] at hP hD
          refine lv_istore (lv' := [(12, .int r30), (11, .int x29), (0, .ref (ad 18)), (1, .int 5), (2, .int z2), (3, .long z3), (5, .int z4), (6, .int z5), (7, .int 99), (8, .int r6), (9, .int r13), (10, .int y37_l10)]) hx hb dX7_tryViews_128 hl (by decide) rfl (fun ls hl => ?_)
          refine lv_iconst (v := 0) hx hb dX7_tryViews_130 (by decide) ?_
          refine lv_istore (lv' := [(13, .int 0), (12, .int r30), (11, .int x29), (0, .ref (ad 18)), (1, .int 5), (2, .int z2), (3, .long z3), (5, .int z4), (6, .int z5), (7, .int 99), (8, .int r6), (9, .int r13), (10, .int y37_l10)]) hx hb dX7_tryViews_131 hl (by decide) rfl (fun ls hl => ?_)
          have hJ133 : ∀ (k133 : Nat) (y133_l13 : Int32) (f_133 : HP) (H : Heap) (locs : List Loc) (ls : Array Slot), In y133_l13 0 2147483647 → va_P g.1 vwCl (va_pl L f_133) H → va_D A (va_pl L f_133) → va_S A s.heap H locs → TI g ad th f_133 → (∀ b, b ≠ (ad 18) → b ≠ (ad 21) → b ≠ (ad 22) → f_133 b = f b) → f_133 (ad 20) = .inl (g.2.1 0, 7, .inl (rw23)) → f_133 (ad 8) = .inr (2, [.int v0_27, .int v1_27, .int v2_27, .int v3_27, .int v4_27, .int v5_27, .int v6_27, .int v7_27]) → lv_has ls 20 [(0, .ref (ad 18)), (1, .int 5), (2, .int z2), (3, .long z3), (5, .int z4), (6, .int z5), (7, .int 99), (8, .int r6), (9, .int r13), (10, .int y37_l10), (11, .int x29), (12, .int r30), (13, .int y133_l13)] → 2147483647 - y133_l13.toInt < ((k133 : Nat) : Int) → W p l e rm_X7_tryViews_5 s m [.ref (ad 18), .int 5, .int z2, .long z3, .int z4, .int z5].toArray below meth c H locs 0 0 (MQ below (va_Qv (po_X7_tryViews_5 g ad th L f z2 z3 z4 z5) (PstB g A) A) [.ref (ad 18), .int 5, .int z2, .long z3, .int z4, .int z5].toArray s rm_X7_tryViews_5.cells rm_X7_tryViews_5.slots A) (F0 m 133 ls []) := by
            intro k133
            induction k133 with
            | zero =>
              intro y133_l13 f_133 H locs ls hy133_l13 hP hD hS hT hfr hf35 hf36 hl hmz133
              exact ms0 hy133_l13 hmz133
            | succ k133 ih133 =>
              intro y133_l13 f_133 H locs ls hy133_l13 hP hD hS hT hfr hf35 hf36 hl hmz133
              refine lv_iload hx hb dX7_tryViews_133 (lv_at hl 12 rfl) ?_
              refine lv_iload hx hb dX7_tryViews_135 (lv_at hl 11 rfl) ?_
              refine lv_icmp_ge (tgt := 280) hx hb dX7_tryViews_137 (by decide) (fun c37 => ?_) (fun c37 => ?_)
              ·
                have cc38 : r30.toInt ≤ y133_l13.toInt := i32_le.mp c37
                exact ret_v hx hb hr hlocks hP hD hS (Nat.le_of_ble_eq_true rfl) (Nat.le_of_ble_eq_true rfl) (⟨rfl, hT, hfr⟩) dX7_tryViews_280
              ·
                have cc39 : y133_l13.toInt < r30.toInt := i32_nle c37
                have hb40 : In y133_l13 0 2147483646 := In.lt1 hy133_l13 (In.full r30) cc39 (by omega) (by omega)
                have hb41 : In r30 1 2147483647 := In.lt2 hy133_l13 (In.full r30) cc39 (by omega) (by omega)
                refine lv_aload_n hx hb dX7_tryViews_140 rfl (lv_at hl 0 rfl) ?_
                obtain ⟨v6_42, v7_42, v8_42, v9_42, v10_42, v11_42, v12_42, v13_42, hf43, hv8_42, hv9_42, hv10_42, hv11_42, hv13_42⟩ := hT.1 18 (by decide)
                refine call_i (run_V (rm := rm_X7_isEnough) hx hb hml hown hts (s_X7_isEnough l g ad th _ _ _  hst hT ) cV_X7_isEnough wg_1070 ⟨Nat.le_of_ble_eq_true rfl, Nat.le_of_ble_eq_true rfl⟩ hG hE hA hP hD hS (hst.1 18 (by decide)) hf43 rfl rfl hl.1 (As := []) (rest := []) rfl (Nat.le_of_ble_eq_true rfl) dX7_tryViews_141 ⟨Nat.le_of_ble_eq_true rfl, Nat.le_of_ble_eq_true rfl⟩) hA hD hS (fun r44 L45 f46 H locs hp47 hP hD hS => ?_)
                obtain ⟨eL48L, eL48T, eL48R⟩ := hp47
                have eL48L : L45 = L := eL48L
                have eL48T : f46 = f_133 := eL48T
                rw [eL48L, eL48T] at hP hD
                have eL48R : In r44 0 1 := eL48R
                refine lv_if_ne (tgt := 280) hx hb dX7_tryViews_144 (by decide) (fun c49 => ?_) (fun c49 => ?_)
                ·
                  have oc0 : (0 : Int32).toInt = 0 := by decide
                  have cc50 : r44.toInt ≠ (0 : Int32).toInt := i32_ne c49
                  have hb51 : In r44 1 1 := In.ne1 eL48R (⟨by decide, by decide⟩ : In 0 0 0) cc50 (by omega) (by omega)
                  exact ret_v hx hb hr hlocks hP hD hS (Nat.le_of_ble_eq_true rfl) (Nat.le_of_ble_eq_true rfl) (⟨rfl, hT, hfr⟩) dX7_tryViews_280
                ·
                  have oc0 : (0 : Int32).toInt = 0 := by decide
                  have cc52 : r44.toInt = (0 : Int32).toInt := congrArg Int32.toInt c49
                  have hb53 : In r44 0 0 := In.eq1 eL48R (⟨by decide, by decide⟩ : In 0 0 0) cc52 (by omega) (by omega)
                  refine lv_iload_n hx hb dX7_tryViews_147 rfl (lv_at hl 2 rfl) ?_
                  refine lv_istore (lv' := [(14, .int z2), (0, .ref (ad 18)), (1, .int 5), (2, .int z2), (3, .long z3), (5, .int z4), (6, .int z5), (7, .int 99), (8, .int r6), (9, .int r13), (10, .int y37_l10), (11, .int x29), (12, .int r30), (13, .int y133_l13)]) hx hb dX7_tryViews_148 hl (by decide) rfl (fun ls hl => ?_)
                  refine lv_iconst (v := 0) hx hb dX7_tryViews_150 (by decide) ?_
                  refine lv_istore (lv' := [(15, .int 0), (14, .int z2), (0, .ref (ad 18)), (1, .int 5), (2, .int z2), (3, .long z3), (5, .int z4), (6, .int z5), (7, .int 99), (8, .int r6), (9, .int r13), (10, .int y37_l10), (11, .int x29), (12, .int r30), (13, .int y133_l13)]) hx hb dX7_tryViews_151 hl (by decide) rfl (fun ls hl => ?_)
                  refine lv_iload hx hb dX7_tryViews_153 (lv_at hl 14 rfl) ?_
                  refine lv_istore (lv' := [(16, .int y133_l13), (15, .int 0), (14, .int z2), (0, .ref (ad 18)), (1, .int 5), (2, .int z2), (3, .long z3), (5, .int z4), (6, .int z5), (7, .int 99), (8, .int r6), (9, .int r13), (10, .int y37_l10), (11, .int x29), (12, .int r30), (13, .int y133_l13)]) hx hb dX7_tryViews_155 hl (by decide) rfl (fun ls hl => ?_)
                  refine lv_iload hx hb dX7_tryViews_157 (lv_at hl 8 rfl) ?_
                  refine lv_istore (lv' := [(17, .int z5), (16, .int y133_l13), (15, .int 0), (14, .int z2), (0, .ref (ad 18)), (1, .int 5), (2, .int z2), (3, .long z3), (5, .int z4), (6, .int z5), (7, .int 99), (8, .int r6), (9, .int r13), (10, .int y37_l10), (11, .int x29), (12, .int r30), (13, .int y133_l13)]) hx hb dX7_tryViews_159 hl (by decide) rfl (fun ls hl => ?_)
                  refine lv_iconst (v := 0) hx hb dX7_tryViews_161 (by decide) ?_
                  refine lv_istore (lv' := [(18, .int 0), (17, .int z5), (16, .int y133_l13), (15, .int 0), (14, .int z2), (0, .ref (ad 18)), (1, .int 5), (2, .int z2), (3, .long z3), (5, .int z4), (6, .int z5), (7, .int 99), (8, .int r6), (9, .int r13), (10, .int y37_l10), (11, .int x29), (12, .int r30), (13, .int y133_l13)]) hx hb dX7_tryViews_162 hl (by decide) rfl (fun ls hl => ?_)
                  have hJ164 : ∀ (k164 : Nat) (y164_l14 : Int32) (y164_l15 : Int32) (y164_l16 : Int32) (y164_l17 : Int32) (y164_l18 : Int32) (H : Heap) (locs : List Loc) (ls : Array Slot), In y164_l14 0 511 → In y164_l15 (-2147483648) 2147483647 → In y164_l16 0 2147483647 → In y164_l17 (-2147483648) 2147483647 → In y164_l18 0 9 → va_P g.1 vwCl (va_pl L f_133) H → va_D A (va_pl L f_133) → va_S A s.heap H locs → lv_has ls 20 [(0, .ref (ad 18)), (1, .int 5), (2, .int z2), (3, .long z3), (5, .int z4), (6, .int z5), (7, .int 99), (8, .int r6), (9, .int r13), (10, .int y37_l10), (11, .int x29), (12, .int r30), (13, .int y133_l13), (14, .int y164_l14), (15, .int y164_l15), (16, .int y164_l16), (17, .int y164_l17), (18, .int y164_l18)] → 9 - y164_l18.toInt < ((k164 : Nat) : Int) → W p l e rm_X7_tryViews_5 s m [.ref (ad 18), .int 5, .int z2, .long z3, .int z4, .int z5].toArray below meth c H locs 0 0 (MQ below (va_Qv (po_X7_tryViews_5 g ad th L f z2 z3 z4 z5) (PstB g A) A) [.ref (ad 18), .int 5, .int z2, .long z3, .int z4, .int z5].toArray s rm_X7_tryViews_5.cells rm_X7_tryViews_5.slots A) (F0 m 164 ls []) := by
                    intro k164
                    induction k164 with
                    | zero =>
                      intro y164_l14 y164_l15 y164_l16 y164_l17 y164_l18 H locs ls hy164_l14 hy164_l15 hy164_l16 hy164_l17 hy164_l18 hP hD hS hl hmz164
                      exact ms0 hy164_l18 hmz164
                    | succ k164 ih164 =>
                      intro y164_l14 y164_l15 y164_l16 y164_l17 y164_l18 H locs ls hy164_l14 hy164_l15 hy164_l16 hy164_l17 hy164_l18 hP hD hS hl hmz164
                      refine lv_iload hx hb dX7_tryViews_164 (lv_at hl 17 rfl) ?_
                      refine lv_aload_n hx hb dX7_tryViews_166 rfl (lv_at hl 0 rfl) ?_
                      refine pl_get (v := .int v10_42) hx hb hts (fun w h => mT (inX7 w h)) hown hG.1 hP (hst.1 18 (by decide)) hf43 rfl 10 (by decide) (hts _ (mT wg_442)) (fun _ h => h) rfl dX7_tryViews_167 ?_
                      refine lv_icmp_ge (tgt := 262) hx hb dX7_tryViews_170 (by decide) (fun c54 => ?_) (fun c54 => ?_)
                      ·
                        have cc55 : v10_42.toInt ≤ y164_l18.toInt := i32_le.mp c54
                        refine lv_aload_n hx hb dX7_tryViews_262 rfl (lv_at hl 0 rfl) ?_
                        refine lv_iload_n hx hb dX7_tryViews_263 rfl (lv_at hl 1 rfl) ?_
                        refine lv_iload hx hb dX7_tryViews_264 (lv_at hl 13 rfl) ?_
                        refine lv_iload hx hb dX7_tryViews_266 (lv_at hl 14 rfl) ?_
                        refine lv_lload_n hx hb dX7_tryViews_268 rfl (lv_at hl 3 rfl) ?_
                        refine lv_iload hx hb dX7_tryViews_269 (lv_at hl 16 rfl) ?_
                        refine call_v (run_V (rm := rm_X7_tryRuler_5) hx hb hml hown hts (s_X7_tryRuler_5 l g ad th _ _ _ y164_l14 y164_l15 z3 y164_l17 hst hT hy164_l14) cV_X7_tryRuler wg_1089 ⟨Nat.le_of_ble_eq_true rfl, Nat.le_of_ble_eq_true rfl⟩ hG hE hA hP hD hS (hst.1 18 (by decide)) hf43 rfl rfl hl.1 (As := [.int 5, .int y164_l14, .int y164_l15, .long z3, .int y164_l17]) (rest := []) rfl (Nat.le_of_ble_eq_true rfl) dX7_tryViews_271 ⟨Nat.le_of_ble_eq_true rfl, Nat.le_of_ble_eq_true rfl⟩) hA hD hS (fun L57 f58 H locs hp59 hP hD hS => ?_)
                        obtain ⟨eL60L, eL60T, eL60F⟩ := hp59
                        have eL60L : L57 = L := eL60L
                        rw [eL60L] at hP hD
                        have hT : TI g ad th f58 := eL60T
                        have eL60F : ∀ b, b ≠ (ad 18) → f58 b = f_133 b := eL60F
                        have hf61 := (eL60F (ad 20) (hst.ne (by decide) (by decide) (by decide))).trans hf35
                        have hf62 := (eL60F (ad 8) (hst.ne (by decide) (by decide) (by decide))).trans hf36
                        have hfr : (∀ b, b ≠ (ad 18) → b ≠ (ad 21) → b ≠ (ad 22) → f58 b = f b) := fun b z0_ z1_ z2_ => (eL60F b z0_).trans (hfr b z0_ z1_ z2_)
                        obtain ⟨x63, ex63⟩ : ∃ y : Int32, y = y133_l13 + 1 := ⟨_, rfl⟩
                        have hb64 : In x63 1 2147483647 := ex63 ▸ In.add hb40 (⟨by decide, by decide⟩ : In 1 1 1) (by decide) (by decide) (by decide) (by decide)
                        have et65 : x63.toInt = y133_l13.toInt + 1 := In.adde ex63 hb40 (k := 1) (by decide) (by decide) (by decide)
                        refine lv_iinc (v := x63) (lv' := [(13, .int x63), (0, .ref (ad 18)), (1, .int 5), (2, .int z2), (3, .long z3), (5, .int z4), (6, .int z5), (7, .int 99), (8, .int r6), (9, .int r13), (10, .int y37_l10), (11, .int x29), (12, .int r30), (14, .int y164_l14), (15, .int y164_l15), (16, .int y164_l16), (17, .int y164_l17), (18, .int y164_l18)]) hx hb dX7_tryViews_274 hl (k := 12) rfl (by rw [ex63]; rfl) (by decide) rfl (fun ls hl => ?_)
                        refine lv_goto (tgt := 133) hx hb dX7_tryViews_277 (by decide) ?_
                        exact ih133 x63 _ _ _ _ (In.mono hb64 (by decide) (by decide)) hP hD hS hT hfr hf61 hf62 (lv_sub hl [1, 2, 3, 4, 5, 6, 7, 8, 9, 10, 11, 12, 0] rfl) (msu et65 (by decide) hmz133)
                      ·
                        have cc66 : y164_l18.toInt < v10_42.toInt := i32_nle c54
                        have hb67 : In y164_l18 0 8 := In.lt1 hy164_l18 hv10_42 cc66 (by omega) (by omega)
                        have hb68 : In v10_42 1 9 := In.lt2 hy164_l18 hv10_42 cc66 (by omega) (by omega)
                        refine lv_iload hx hb dX7_tryViews_173 (lv_at hl 6 rfl) ?_
                        refine lv_iload hx hb dX7_tryViews_175 (lv_at hl 15 rfl) ?_
                        refine lv_iload hx hb dX7_tryViews_177 (lv_at hl 9 rfl) ?_
                        have hb69 : In y37_l10 1 9 := In.mk (by obtain ⟨o0a, o0b⟩ := (hy37_l10 : In _ _ _); obtain ⟨o1a, o1b⟩ := (hb22 : In _ _ _); obtain ⟨o2a, o2b⟩ := (hv11_18 : In _ _ _); omega) (by obtain ⟨o0a, o0b⟩ := (hy37_l10 : In _ _ _); obtain ⟨o1a, o1b⟩ := (hb22 : In _ _ _); obtain ⟨o2a, o2b⟩ := (hv11_18 : In _ _ _); omega)
                        refine lv_irem hx hb dX7_tryViews_179 (In.ne0 hb69 (by decide)) ?_
                        refine lv_topi (fun x70 ex70 => ?_)
                        have hb71 : In x70 0 8 := ex70 ▸ In.rem hy164_l16 hb69 (by decide) (by decide) (by decide)
                        refine lv_iadd hx hb dX7_tryViews_180 ?_
                        refine lv_topi (fun x72 ex72 => ?_)
                        have hb73 : In x72 99 107 := ex72 ▸ In.add (⟨by decide, by decide⟩ : In 99 99 99) hb71 (by decide) (by decide) (by decide) (by decide)
                        have et74 : x72.toInt = (99 : Int32).toInt + x70.toInt := In.add2e ex72 (⟨by decide, by decide⟩ : In 99 99 99) hb71 (by decide) (by decide)
                        refine lv_istore (lv' := [(19, .int x72), (0, .ref (ad 18)), (1, .int 5), (2, .int z2), (3, .long z3), (5, .int z4), (6, .int z5), (7, .int 99), (8, .int r6), (9, .int r13), (10, .int y37_l10), (11, .int x29), (12, .int r30), (13, .int y133_l13), (14, .int y164_l14), (15, .int y164_l15), (16, .int y164_l16), (17, .int y164_l17), (18, .int y164_l18)]) hx hb dX7_tryViews_181 hl (by decide) rfl (fun ls hl => ?_)
                        refine lv_iload hx hb dX7_tryViews_183 (lv_at hl 16 rfl) ?_
                        refine lv_iload hx hb dX7_tryViews_185 (lv_at hl 10 rfl) ?_
                        refine lv_idiv hx hb dX7_tryViews_187 (In.ne0 hb69 (by decide)) ?_
                        refine lv_topi (fun x75 ex75 => ?_)
                        have hb76 : In x75 0 2147483647 := ex75 ▸ In.div hy164_l16 hb69 (by decide) (by decide) (by decide) (by decide)
                        refine lv_istore (lv' := [(16, .int x75), (19, .int x72), (0, .ref (ad 18)), (1, .int 5), (2, .int z2), (3, .long z3), (5, .int z4), (6, .int z5), (7, .int 99), (8, .int r6), (9, .int r13), (10, .int y37_l10), (11, .int x29), (12, .int r30), (13, .int y133_l13), (14, .int y164_l14), (15, .int y164_l15), (17, .int y164_l17), (18, .int y164_l18)]) hx hb dX7_tryViews_188 hl (by decide) rfl (fun ls hl => ?_)
                        refine lv_iload hx hb dX7_tryViews_190 (lv_at hl 15 rfl) ?_
                        refine lv_iconst (v := 1) hx hb dX7_tryViews_192 (by decide) ?_
                        refine lv_aload_n hx hb dX7_tryViews_193 rfl (lv_at hl 2 rfl) ?_
                        refine pl_get (v := .ref (ad 19)) hx hb hts (fun w h => mT (inX7 w h)) hown hG.1 hP (hst.1 18 (by decide)) hf43 rfl 1 (by decide) (hts _ (mT wg_433)) (fun _ h => h) rfl dX7_tryViews_194 ?_
                        refine lv_iload hx hb dX7_tryViews_197 (lv_at hl 18 rfl) ?_
                        obtain ⟨rw77, hf78, hc79⟩ := hT.1 19 (by decide)
                        have hin80 : vp_in y164_l18 9 := In.inb hb67 (by decide) (by decide)
                        refine pl_iald hx hb hG.1 hP (hst.1 19 (by decide)) 0 hf78 rfl hin80 dX7_tryViews_199 ?_
                        refine lv_topi (fun x81 ex81 => ?_)
                        have hb82 : In x81 0 8 := by rw [ex81]; exact hc79 _ (vp_nat hin80)
                        refine lv_ishl hx hb dX7_tryViews_200 ?_
                        refine lv_topi (fun x83 ex83 => ?_)
                        have hb84 : In x83 1 256 := ex83 ▸ In.shl (⟨by decide, by decide⟩ : In 1 1 1) hb82 (by decide) (by decide) (by decide) (by decide) (by decide) (by decide)
                        refine lv_aload_n hx hb dX7_tryViews_201 rfl (lv_at hl 2 rfl) ?_
                        refine pl_get (v := .ref (ad 21)) hx hb hts (fun w h => mT (inX7 w h)) hown hG.1 hP (hst.1 18 (by decide)) hf43 rfl 3 (by decide) (hts _ (mT wg_435)) (fun _ h => h) rfl dX7_tryViews_202 ?_
                        refine lv_iload hx hb dX7_tryViews_205 (lv_at hl 1 rfl) ?_
                        obtain ⟨rw85, hf86⟩ := hT.1 21 (by decide)
                        have hin87 : vp_in x72 108 := In.inb hb73 (by decide) (by decide)
                        refine pl_iald hx hb hG.1 hP (hst.1 21 (by decide)) 0 hf86 rfl hin87 dX7_tryViews_207 ?_
                        refine lv_topi (fun x88 ex88 => ?_)
                        refine call_i (run_S (rm := rm_X7_seen) hx hb hml hown hts (s_X7_seen l g ad th _ _ _ y164_l14 x83 x88 hst hT hy164_l14 (In.mono hb84 (by decide) (by decide))) cS_X7_seen wg_1086 ⟨Nat.le_of_ble_eq_true rfl, Nat.le_of_ble_eq_true rfl⟩ hG hE hA hP hD hS rfl hl.1 (As := [.int y164_l14, .int x83, .int x88]) (rest := []) rfl (Nat.le_of_ble_eq_true rfl) dX7_tryViews_208 ⟨Nat.le_of_ble_eq_true rfl, Nat.le_of_ble_eq_true rfl⟩) hA hD hS (fun r89 L90 f91 H locs hp92 hP hD hS => ?_)
                        obtain ⟨eL93L, eL93T, eL93R⟩ := hp92
                        have eL93L : L90 = L := eL93L
                        have eL93T : f91 = f_133 := eL93T
                        rw [eL93L, eL93T] at hP hD
                        have eL93R : In r89 0 511 := eL93R
                        refine lv_istore (lv' := [(14, .int r89), (16, .int x75), (19, .int x72), (0, .ref (ad 18)), (1, .int 5), (2, .int z2), (3, .long z3), (5, .int z4), (6, .int z5), (7, .int 99), (8, .int r6), (9, .int r13), (10, .int y37_l10), (11, .int x29), (12, .int r30), (13, .int y133_l13), (15, .int y164_l15), (17, .int y164_l17), (18, .int y164_l18)]) hx hb dX7_tryViews_211 hl (by decide) rfl (fun ls hl => ?_)
                        refine lv_iload hx hb dX7_tryViews_213 (lv_at hl 16 rfl) ?_
                        refine lv_aload_n hx hb dX7_tryViews_215 rfl (lv_at hl 3 rfl) ?_
                        refine pl_get (v := .ref (ad 21)) hx hb hts (fun w h => mT (inX7 w h)) hown hG.1 hP (hst.1 18 (by decide)) hf43 rfl 3 (by decide) (hts _ (mT wg_435)) (fun _ h => h) rfl dX7_tryViews_216 ?_
                        refine lv_iload hx hb dX7_tryViews_219 (lv_at hl 2 rfl) ?_
                        have hin94 : vp_in x72 108 := In.inb hb73 (by decide) (by decide)
                        refine pl_iald hx hb hG.1 hP (hst.1 21 (by decide)) 0 hf86 rfl hin94 dX7_tryViews_221 ?_
                        refine lv_topi (fun x95 ex95 => ?_)
                        obtain rfl : x88 = x95 := ex88.trans ex95.symm
                        refine lv_iconst (v := 4) hx hb dX7_tryViews_222 (by decide) ?_
                        refine lv_idiv hx hb dX7_tryViews_223 (In.ne0 (⟨by decide, by decide⟩ : In 4 4 4) (by decide)) ?_
                        refine lv_topi (fun x96 ex96 => ?_)
                        refine lv_aload_n hx hb dX7_tryViews_224 rfl (lv_at hl 3 rfl) ?_
                        refine pl_get (v := .ref (ad 19)) hx hb hts (fun w h => mT (inX7 w h)) hown hG.1 hP (hst.1 18 (by decide)) hf43 rfl 1 (by decide) (hts _ (mT wg_433)) (fun _ h => h) rfl dX7_tryViews_225 ?_
                        refine lv_iload hx hb dX7_tryViews_228 (lv_at hl 18 rfl) ?_
                        have hin97 : vp_in y164_l18 9 := In.inb hb67 (by decide) (by decide)
                        refine pl_iald hx hb hG.1 hP (hst.1 19 (by decide)) 0 hf78 rfl hin97 dX7_tryViews_230 ?_
                        refine lv_topi (fun x98 ex98 => ?_)
                        obtain rfl : x81 = x98 := ex81.trans ex98.symm
                        refine lv_ishl hx hb dX7_tryViews_231 ?_
                        refine lv_topi (fun x99 ex99 => ?_)
                        refine lv_ior hx hb dX7_tryViews_232 ?_
                        refine lv_topi (fun x100 ex100 => ?_)
                        refine lv_istore (lv' := [(15, .int x100), (14, .int r89), (16, .int x75), (19, .int x72), (0, .ref (ad 18)), (1, .int 5), (2, .int z2), (3, .long z3), (5, .int z4), (6, .int z5), (7, .int 99), (8, .int r6), (9, .int r13), (10, .int y37_l10), (11, .int x29), (12, .int r30), (13, .int y133_l13), (17, .int y164_l17), (18, .int y164_l18)]) hx hb dX7_tryViews_233 hl (by decide) rfl (fun ls hl => ?_)
                        refine lv_iload hx hb dX7_tryViews_235 (lv_at hl 17 rfl) ?_
                        refine lv_aload_n hx hb dX7_tryViews_237 rfl (lv_at hl 4 rfl) ?_
                        refine lv_aload_n hx hb dX7_tryViews_238 rfl (lv_at hl 4 rfl) ?_
                        refine pl_get (v := .ref (ad 22)) hx hb hts (fun w h => mT (inX7 w h)) hown hG.1 hP (hst.1 18 (by decide)) hf43 rfl 4 (by decide) (hts _ (mT wg_436)) (fun _ h => h) rfl dX7_tryViews_239 ?_
                        refine lv_iload hx hb dX7_tryViews_242 (lv_at hl 3 rfl) ?_
                        obtain ⟨rw101, hf102⟩ := hT.1 22 (by decide)
                        have hin103 : vp_in x72 108 := In.inb hb73 (by decide) (by decide)
                        refine pl_iald hx hb hG.1 hP (hst.1 22 (by decide)) 0 hf102 rfl hin103 dX7_tryViews_244 ?_
                        refine lv_topi (fun x104 ex104 => ?_)
                        refine lv_iload hx hb dX7_tryViews_245 (lv_at hl 14 rfl) ?_
                        refine lv_iload hx hb dX7_tryViews_247 (lv_at hl 18 rfl) ?_
                        refine lv_iadd hx hb dX7_tryViews_249 ?_
                        refine lv_topi (fun x105 ex105 => ?_)
                        refine call_i (run_V (rm := rm_X7_bitsOf) hx hb hml hown hts (s_X7_bitsOf l g ad th _ _ _ x104 x105 hst hT ) cV_X7_bitsOf wg_1077 ⟨Nat.le_of_ble_eq_true rfl, Nat.le_of_ble_eq_true rfl⟩ hG hE hA hP hD hS (hst.1 18 (by decide)) hf43 rfl rfl hl.1 (As := [.int x104, .int x105]) (rest := [.int y164_l17]) rfl (Nat.le_of_ble_eq_true rfl) dX7_tryViews_250 ⟨Nat.le_of_ble_eq_true rfl, Nat.le_of_ble_eq_true rfl⟩) hA hD hS (fun r106 L107 f108 H locs hp109 hP hD hS => ?_)
                        obtain ⟨eL110L, eL110T⟩ := hp109
                        have eL110L : L107 = L := eL110L
                        have eL110T : f108 = f_133 := eL110T
                        rw [eL110L, eL110T] at hP hD
                        refine lv_ior hx hb dX7_tryViews_253 ?_
                        refine lv_topi (fun x111 ex111 => ?_)
                        refine lv_istore (lv' := [(17, .int x111), (15, .int x100), (14, .int r89), (16, .int x75), (19, .int x72), (0, .ref (ad 18)), (1, .int 5), (2, .int z2), (3, .long z3), (5, .int z4), (6, .int z5), (7, .int 99), (8, .int r6), (9, .int r13), (10, .int y37_l10), (11, .int x29), (12, .int r30), (13, .int y133_l13), (18, .int y164_l18)]) hx hb dX7_tryViews_254 hl (by decide) rfl (fun ls hl => ?_)
                        obtain ⟨x112, ex112⟩ : ∃ y : Int32, y = y164_l18 + 1 := ⟨_, rfl⟩
                        have hb113 : In x112 1 9 := ex112 ▸ In.add hb67 (⟨by decide, by decide⟩ : In 1 1 1) (by decide) (by decide) (by decide) (by decide)
                        have et114 : x112.toInt = y164_l18.toInt + 1 := In.adde ex112 hb67 (k := 1) (by decide) (by decide) (by decide)
                        refine lv_iinc (v := x112) (lv' := [(18, .int x112), (17, .int x111), (15, .int x100), (14, .int r89), (16, .int x75), (19, .int x72), (0, .ref (ad 18)), (1, .int 5), (2, .int z2), (3, .long z3), (5, .int z4), (6, .int z5), (7, .int 99), (8, .int r6), (9, .int r13), (10, .int y37_l10), (11, .int x29), (12, .int r30), (13, .int y133_l13)]) hx hb dX7_tryViews_256 hl (k := 18) rfl (by rw [ex112]; rfl) (by decide) rfl (fun ls hl => ?_)
                        refine lv_goto (tgt := 164) hx hb dX7_tryViews_259 (by decide) ?_
                        exact ih164 r89 x100 x75 x111 x112 _ _ _ eL93R (In.full x100) hb76 (In.full x111) (In.mono hb113 (by decide) (by decide)) hP hD hS (lv_sub hl [6, 7, 8, 9, 10, 11, 12, 13, 14, 15, 16, 17, 18, 3, 2, 4, 1, 0] rfl) (msu et114 (by decide) hmz164)
                  exact hJ164 ((9 - (0 : Int32).toInt).toNat + 1) z2 0 y133_l13 z5 0 _ _ _ hz2 (⟨by decide, by decide⟩ : In 0 (-2147483648) 2147483647) (In.mono hb40 (by decide) (by decide)) (In.full z5) (⟨by decide, by decide⟩ : In 0 0 9) hP hD hS (lv_sub hl [5, 6, 7, 8, 9, 10, 11, 12, 13, 14, 15, 16, 17, 4, 3, 2, 1, 0] rfl) (msI _)
          exact hJ133 ((2147483647 - (0 : Int32).toInt).toNat + 1) 0 _ _ _ _ (⟨by decide, by decide⟩ : In 0 0 2147483647) hP hD hS hT hfr hf24 hf28 (lv_sub hl [3, 4, 5, 6, 7, 8, 9, 10, 11, 12, 2, 1, 0] rfl) (msI _)
        refine lv_if_ne (tgt := 118) hx hb dX7_tryViews_103 (by decide) (fun c115 => ?_) (fun c115 => ?_)
        ·
          have oc0 : (0 : Int32).toInt = 0 := by decide
          have cc116 : v0_27.toInt ≠ (0 : Int32).toInt := i32_ne c115
          have hb117 : In v0_27 1 1 := In.ne1 hv0_27 (⟨by decide, by decide⟩ : In 0 0 0) cc116 (by omega) (by omega)
          refine lv_iconst (v := 0) hx hb dX7_tryViews_118 (by decide) ?_
          exact hJ119 0 _ _ _ (⟨by decide, by decide⟩ : In 0 0 81) hP hD hS (lv_sub hl [0, 1, 2, 3, 4, 5, 6, 7, 8, 9, 10] rfl)
        ·
          have oc0 : (0 : Int32).toInt = 0 := by decide
          have cc118 : v0_27.toInt = (0 : Int32).toInt := congrArg Int32.toInt c115
          have hb119 : In v0_27 0 0 := In.eq1 hv0_27 (⟨by decide, by decide⟩ : In 0 0 0) cc118 (by omega) (by omega)
          refine lv_aload_n hx hb dX7_tryViews_106 rfl (lv_at hl 0 rfl) ?_
          refine pl_get (v := .int v11_18) hx hb hts (fun w h => mT (inX7 w h)) hown hG.1 hP (hst.1 18 (by decide)) hf19 rfl 11 (by decide) (hts _ (mT wg_443)) (fun _ h => h) rfl dX7_tryViews_107 ?_
          refine lv_aload_n hx hb dX7_tryViews_110 rfl (lv_at hl 0 rfl) ?_
          refine pl_get (v := .int v10_18) hx hb hts (fun w h => mT (inX7 w h)) hown hG.1 hP (hst.1 18 (by decide)) hf19 rfl 10 (by decide) (hts _ (mT wg_442)) (fun _ h => h) rfl dX7_tryViews_111 ?_
          refine lv_imul hx hb dX7_tryViews_114 ?_
          refine lv_topi (fun x120 ex120 => ?_)
          have hb121 : In x120 0 72 := ex120 ▸ In.mul hv11_18 hv10_18 (by decide) (by decide) (by decide) (by decide) (by decide)
          refine lv_goto (tgt := 119) hx hb dX7_tryViews_115 (by decide) ?_
          exact hJ119 x120 _ _ _ (In.mono hb121 (by decide) (by decide)) hP hD hS (lv_sub hl [0, 1, 2, 3, 4, 5, 6, 7, 8, 9, 10] rfl)
      ·
        have cc122 : y37_l11.toInt ≤ v11_18.toInt := i32_nlt c20
        have hb123 : In y37_l11 0 8 := In.le1 hy37_l11 hv11_18 cc122 (by omega) (by omega)
        refine lv_aload_n hx hb dX7_tryViews_46 rfl (lv_at hl 0 rfl) ?_
        refine pl_get (v := .ref (ad 8)) hx hb hts (fun w h => mT (inX7 w h)) hown hG.1 hP (hst.1 18 (by decide)) hf19 rfl 0 (by decide) (hts _ (mT wg_432)) (fun _ h => h) rfl dX7_tryViews_47 ?_
        refine lv_iload hx hb dX7_tryViews_50 (lv_at hl 7 rfl) ?_
        refine lv_aload_n hx hb dX7_tryViews_52 rfl (lv_at hl 0 rfl) ?_
        refine pl_get (v := .int v11_18) hx hb hts (fun w h => mT (inX7 w h)) hown hG.1 hP (hst.1 18 (by decide)) hf19 rfl 11 (by decide) (hts _ (mT wg_443)) (fun _ h => h) rfl dX7_tryViews_53 ?_
        refine lv_iadd hx hb dX7_tryViews_56 ?_
        refine lv_topi (fun x124 ex124 => ?_)
        have hb125 : In x124 0 17 := ex124 ▸ In.add hb11 hv11_18 (by decide) (by decide) (by decide) (by decide)
        have et126 : x124.toInt = r6.toInt + v11_18.toInt := In.add2e ex124 hb11 hv11_18 (by decide) (by decide)
        refine lv_iload hx hb dX7_tryViews_57 (lv_at hl 10 rfl) ?_
        refine lv_isub hx hb dX7_tryViews_59 ?_
        refine lv_topi (fun x127 ex127 => ?_)
        have hb128 : In x127 (-8) 17 := ex127 ▸ In.sub hb125 hb123 (by decide) (by decide) (by decide) (by decide)
        have et129 : x127.toInt = x124.toInt - y37_l11.toInt := In.sub2e ex127 hb125 hb123 (by decide) (by decide)
        refine lv_iload hx hb dX7_tryViews_60 (lv_at hl 8 rfl) ?_
        refine lv_iload hx hb dX7_tryViews_62 (lv_at hl 10 rfl) ?_
        refine lv_iadd hx hb dX7_tryViews_64 ?_
        refine lv_topi (fun x130 ex130 => ?_)
        have hb131 : In x130 0 71 := ex130 ▸ In.add eL17R hb123 (by decide) (by decide) (by decide) (by decide)
        have et132 : x130.toInt = r13.toInt + y37_l11.toInt := In.add2e ex130 eL17R hb123 (by decide) (by decide)
        obtain ⟨v0_133, v1_133, v2_133, v3_133, v4_133, v5_133, v6_133, v7_133, hf134, hv0_133, hv1_133, hv2_133, hv3_133, hv5_133, hv6_133⟩ := hT.1 8 (by decide)
        refine call_i (run_VN (rm := rm_X2_view_ru) hx hb hml hown hts (s_X2_view_ru l g ad th _ _ _ x127 x130 hst hT ) cV_X2_view wn_1085 ⟨Nat.le_of_ble_eq_true rfl, Nat.le_of_ble_eq_true rfl⟩ hG hE hA hP hD hS (hst.1 8 (by decide)) hf134 rfl rfl hl.1 (As := [.int x127, .int x130]) (rest := []) rfl (Nat.le_of_ble_eq_true rfl) dX7_tryViews_65 ⟨Nat.le_of_ble_eq_true rfl, Nat.le_of_ble_eq_true rfl⟩) hA hD hS (fun r135 L136 f137 H locs hp138 hP hD hS => ?_)
        obtain ⟨eL139L, eL139T, eL139R⟩ := hp138
        have eL139L : L136 = L := eL139L
        have eL139T : f137 = f_37 := eL139T
        rw [eL139L, eL139T] at hP hD
        have eL139R : In r135 0 6 := eL139R
        refine lv_istore (lv' := [(12, .int r135), (0, .ref (ad 18)), (1, .int 5), (2, .int z2), (3, .long z3), (5, .int z4), (6, .int z5), (7, .int 99), (8, .int r6), (9, .int r13), (10, .int y37_l10), (11, .int y37_l11)]) hx hb dX7_tryViews_68 hl (by decide) rfl (fun ls hl => ?_)
        refine lv_aload_n hx hb dX7_tryViews_70 rfl (lv_at hl 1 rfl) ?_
        refine lv_iload hx hb dX7_tryViews_71 (lv_at hl 7 rfl) ?_
        refine lv_iload hx hb dX7_tryViews_73 (lv_at hl 10 rfl) ?_
        refine lv_iload hx hb dX7_tryViews_75 (lv_at hl 0 rfl) ?_
        refine lv_iload hx hb dX7_tryViews_77 (lv_at hl 11 rfl) ?_
        refine call_i (run_V (rm := rm_X7_addChoice) hx hb hml hown hts (s_X7_addChoice l g ad th _ _ _ 99 y37_l10 r135 y37_l11 hst hT (⟨by decide, by decide⟩ : In 99 0 99) (In.mk (by obtain ⟨o0a, o0b⟩ := (hy37_l10 : In _ _ _); obtain ⟨o1a, o1b⟩ := (hb123 : In _ _ _); obtain ⟨o2a, o2b⟩ := (hv11_18 : In _ _ _); omega) (by obtain ⟨o0a, o0b⟩ := (hy37_l10 : In _ _ _); obtain ⟨o1a, o1b⟩ := (hb123 : In _ _ _); obtain ⟨o2a, o2b⟩ := (hv11_18 : In _ _ _); omega))) cV_X7_addChoice wg_1062 ⟨Nat.le_of_ble_eq_true rfl, Nat.le_of_ble_eq_true rfl⟩ hG hE hA hP hD hS (hst.1 18 (by decide)) hf19 rfl rfl hl.1 (As := [.int 99, .int y37_l10, .int r135, .int y37_l11]) (rest := []) rfl (Nat.le_of_ble_eq_true rfl) dX7_tryViews_79 ⟨Nat.le_of_ble_eq_true rfl, Nat.le_of_ble_eq_true rfl⟩) hA hD hS (fun r140 L141 f142 H locs hp143 hP hD hS => ?_)
        obtain ⟨eL144L, eL144T, eL144F, eL144R, eL144X0⟩ := hp143
        have eL144L : L141 = L := eL144L
        rw [eL144L] at hP hD
        have hT : TI g ad th f142 := eL144T
        have eL144F : ∀ b, b ≠ (ad 21) → b ≠ (ad 22) → f142 b = f_37 b := eL144F
        have hf145 := (eL144F (ad 18) (hst.ne (by decide) (by decide) (by decide)) (hst.ne (by decide) (by decide) (by decide))).trans hf19
        have hf146 := (eL144F (ad 8) (hst.ne (by decide) (by decide) (by decide)) (hst.ne (by decide) (by decide) (by decide))).trans hf134
        have hfr : (∀ b, b ≠ (ad 18) → b ≠ (ad 21) → b ≠ (ad 22) → f142 b = f b) := fun b z0_ z1_ z2_ => (eL144F b z1_ z2_).trans (hfr b z0_ z1_ z2_)
        have eL144R : In r140 0 9 := eL144R
        have hac147 : r140.toInt ≤ y37_l10.toInt + 1 ∧ 1 ≤ r140.toInt := eL144X0
        refine lv_istore (lv' := [(10, .int r140), (12, .int r135), (0, .ref (ad 18)), (1, .int 5), (2, .int z2), (3, .long z3), (5, .int z4), (6, .int z5), (7, .int 99), (8, .int r6), (9, .int r13), (11, .int y37_l11)]) hx hb dX7_tryViews_82 hl (by decide) rfl (fun ls hl => ?_)
        obtain ⟨x148, ex148⟩ : ∃ y : Int32, y = y37_l11 + 1 := ⟨_, rfl⟩
        have hb149 : In x148 1 9 := ex148 ▸ In.add hb123 (⟨by decide, by decide⟩ : In 1 1 1) (by decide) (by decide) (by decide) (by decide)
        have et150 : x148.toInt = y37_l11.toInt + 1 := In.adde ex148 hb123 (k := 1) (by decide) (by decide) (by decide)
        refine lv_iinc (v := x148) (lv' := [(11, .int x148), (10, .int r140), (12, .int r135), (0, .ref (ad 18)), (1, .int 5), (2, .int z2), (3, .long z3), (5, .int z4), (6, .int z5), (7, .int 99), (8, .int r6), (9, .int r13)]) hx hb dX7_tryViews_84 hl (k := 11) rfl (by rw [ex148]; rfl) (by decide) rfl (fun ls hl => ?_)
        refine lv_goto (tgt := 37) hx hb dX7_tryViews_87 (by decide) ?_
        exact ih37 r140 x148 _ _ _ _ eL144R (In.mono hb149 (by decide) (by decide)) hP hD hS hT hfr (by obtain ⟨o0a, o0b⟩ := (eL144R : In _ _ _); obtain ⟨o1a, o1b⟩ := (hb149 : In _ _ _); obtain ⟨o2a, o2b⟩ := (hy37_l10 : In _ _ _); obtain ⟨o3a, o3b⟩ := (hb123 : In _ _ _); obtain ⟨o4a, o4b⟩ := (hv11_18 : In _ _ _); omega) (lv_sub hl [3, 4, 5, 6, 7, 8, 9, 10, 11, 1, 0] rfl) (msu et150 (by decide) hmz37)
  exact hJ37 ((9 - (0 : Int32).toInt).toNat + 1) 0 0 _ _ _ _ (⟨by decide, by decide⟩ : In 0 0 9) (⟨by decide, by decide⟩ : In 0 0 9) hP hD hS hT hfr (by have oc0 : (0 : Int32).toInt = 0 := (by decide); omega) (lv_sub hl [5, 6, 7, 8, 9, 10, 4, 3, 2, 1, 0] rfl) (msI _)

abbrev rm_X7_tryOffers_5 : Room := { frames := 4, cells := 0, slots := 0, locals := 128 }
abbrev po_X7_tryOffers_5 (g : GG) (ad : Nat → Nat) (th : Nat → Int) (L : List Nat) (f : HP) (z2 : Int32) (z3 : Int64) (z4 : Int32) : (List Nat × HP) → Prop := fun u => u.1 = L ∧ TI g ad th u.2 ∧ (∀ b, b ≠ (ad 18) → b ≠ (ad 21) → b ≠ (ad 22) → u.2 b = f b)
set_option maxHeartbeats 4000000 in
set_option maxRecDepth 100000 in
theorem s_X7_tryOffers_5 (l : Launch) (g : GG) (ad : Nat → Nat) (th : Nat → Int) (L : List Nat) (f : HP) (sz : Nat) (z2 : Int32) (z3 : Int64) (z4 : Int32) (hst : ST ad L) (hT : TI g ad th f) (hz2 : In z2 0 511) : MtV l g yX7_tryOffers cX7_tryOffers 16 rm_X7_tryOffers_5 [.ref (ad 18), .int 5, .int z2, .long z3, .int z4] L f sz (po_X7_tryOffers_5 g ad th L f z2 z3 z4) := by
  refine MtV.of (by decide +kernel) (Nat.le_of_ble_eq_true rfl) ?_
  intro p e s m below meth c A hEn hP hD hS ls hl
  obtain ⟨hx, hb, hr, hml, hown, hlocks, hts, hG, hA, hE, hnm⟩ := hEn
  have hown : s.vm.findClass "RulerWord$Search" = some m.cls := hown
  have hl : lv_has ls 16 [(0, .ref (ad 18)), (1, .int 5), (2, .int z2), (3, .long z3), (5, .int z4)] := hl
  have hfr : (∀ b, b ≠ (ad 18) → b ≠ (ad 21) → b ≠ (ad 22) → f b = f b) := fun b z0_ z1_ z2_ => rfl
  refine lv_iload_n hx hb dX7_tryOffers_0 rfl (lv_at hl 1 rfl) ?_
  refine lv_iconst (v := 2) hx hb dX7_tryOffers_1 (by decide) ?_
  refine lv_imul hx hb dX7_tryOffers_2 ?_
  refine lv_topi (fun x1 ex1 => ?_)
  obtain rfl : x1 = 10 := ex1.trans (by decide)
  refine lv_bipush (v := 9) hx hb dX7_tryOffers_3 (by decide) ?_
  refine lv_imul hx hb dX7_tryOffers_5 ?_
  refine lv_topi (fun x2 ex2 => ?_)
  obtain rfl : x2 = 90 := ex2.trans (by decide)
  refine lv_istore (lv' := [(6, .int 90), (0, .ref (ad 18)), (1, .int 5), (2, .int z2), (3, .long z3), (5, .int z4)]) hx hb dX7_tryOffers_6 hl (by decide) rfl (fun ls hl => ?_)
  refine lv_iload_n hx hb dX7_tryOffers_8 rfl (lv_at hl 3 rfl) ?_
  refine call_i (run_S (rm := rm_J6_bitCount_0f7a4) hx hb hml hown hts (s_J6_bitCount_0f7a4 l g ad th _ _ _ z2 hst hT ) cS_J6_bitCount_0f7a4 wg_1042 ⟨Nat.le_of_ble_eq_true rfl, Nat.le_of_ble_eq_true rfl⟩ hG hE hA hP hD hS rfl hl.1 (As := [.int z2]) (rest := []) rfl (Nat.le_of_ble_eq_true rfl) dX7_tryOffers_9 ⟨Nat.le_of_ble_eq_true rfl, Nat.le_of_ble_eq_true rfl⟩) hA hD hS (fun r3 L4 f5 H locs hp6 hP hD hS => ?_)
  obtain ⟨eL7L, eL7T, eL7R, eL7X0⟩ := hp6
  have eL7L : L4 = L := eL7L
  have eL7T : f5 = f := eL7T
  rw [eL7L, eL7T] at hP hD
  have eL7R : In r3 0 63 := eL7R
  have hb8 : In r3 0 9 := bc9 hz2 eL7X0
  refine lv_istore (lv' := [(7, .int r3), (6, .int 90), (0, .ref (ad 18)), (1, .int 5), (2, .int z2), (3, .long z3), (5, .int z4)]) hx hb dX7_tryOffers_12 hl (by decide) rfl (fun ls hl => ?_)
  refine lv_iconst (v := 0) hx hb dX7_tryOffers_14 (by decide) ?_
  refine lv_istore (lv' := [(8, .int 0), (7, .int r3), (6, .int 90), (0, .ref (ad 18)), (1, .int 5), (2, .int z2), (3, .long z3), (5, .int z4)]) hx hb dX7_tryOffers_15 hl (by decide) rfl (fun ls hl => ?_)
  refine lv_iconst (v := 0) hx hb dX7_tryOffers_17 (by decide) ?_
  refine lv_istore (lv' := [(9, .int 0), (8, .int 0), (7, .int r3), (6, .int 90), (0, .ref (ad 18)), (1, .int 5), (2, .int z2), (3, .long z3), (5, .int z4)]) hx hb dX7_tryOffers_18 hl (by decide) rfl (fun ls hl => ?_)
  have hJ20 : ∀ (k20 : Nat) (y20_l8 : Int32) (y20_l9 : Int32) (f_20 : HP) (H : Heap) (locs : List Loc) (ls : Array Slot), In y20_l8 0 9 → In y20_l9 0 9 → va_P g.1 vwCl (va_pl L f_20) H → va_D A (va_pl L f_20) → va_S A s.heap H locs → TI g ad th f_20 → (∀ b, b ≠ (ad 18) → b ≠ (ad 21) → b ≠ (ad 22) → f_20 b = f b) → (y20_l8.toInt ≤ y20_l9.toInt ∧ (y20_l9.toInt = 0 ∨ 1 ≤ y20_l8.toInt)) → lv_has ls 16 [(0, .ref (ad 18)), (1, .int 5), (2, .int z2), (3, .long z3), (5, .int z4), (6, .int 90), (7, .int r3), (8, .int y20_l8), (9, .int y20_l9)] → 9 - y20_l9.toInt < ((k20 : Nat) : Int) → W p l e rm_X7_tryOffers_5 s m [.ref (ad 18), .int 5, .int z2, .long z3, .int z4].toArray below meth c H locs 0 0 (MQ below (va_Qv (po_X7_tryOffers_5 g ad th L f z2 z3 z4) (PstB g A) A) [.ref (ad 18), .int 5, .int z2, .long z3, .int z4].toArray s rm_X7_tryOffers_5.cells rm_X7_tryOffers_5.slots A) (F0 m 20 ls []) := by
    intro k20
    induction k20 with
    | zero =>
      intro y20_l8 y20_l9 f_20 H locs ls hy20_l8 hy20_l9 hP hD hS hT hfr hinv20_0 hl hmz20
      exact ms0 hy20_l9 hmz20
    | succ k20 ih20 =>
      intro y20_l8 y20_l9 f_20 H locs ls hy20_l8 hy20_l9 hP hD hS hT hfr hinv20_0 hl hmz20
      refine lv_iload hx hb dX7_tryOffers_20 (lv_at hl 8 rfl) ?_
      refine lv_aload_n hx hb dX7_tryOffers_22 rfl (lv_at hl 0 rfl) ?_
      obtain ⟨v6_9, v7_9, v8_9, v9_9, v10_9, v11_9, v12_9, v13_9, hf10, hv8_9, hv9_9, hv10_9, hv11_9, hv13_9⟩ := hT.1 18 (by decide)
      refine pl_get (v := .int v11_9) hx hb hts (fun w h => mT (inX7 w h)) hown hG.1 hP (hst.1 18 (by decide)) hf10 rfl 11 (by decide) (hts _ (mT wg_443)) (fun _ h => h) rfl dX7_tryOffers_23 ?_
      refine lv_icmp_gt (tgt := 76) hx hb dX7_tryOffers_26 (by decide) (fun c11 => ?_) (fun c11 => ?_)
      ·
        have cc12 : v11_9.toInt < y20_l9.toInt := i32_lt.mp c11
        have hb13 : In y20_l9 1 9 := In.gt1 hy20_l9 hv11_9 cc12 (by omega) (by omega)
        refine lv_aload_n hx hb dX7_tryOffers_76 rfl (lv_at hl 0 rfl) ?_
        refine lv_iload hx hb dX7_tryOffers_77 (lv_at hl 7 rfl) ?_
        refine call_i (run_V (rm := rm_X7_power) hx hb hml hown hts (s_X7_power l g ad th _ _ _ y20_l8 hst hT ) cV_X7_power wg_1066 ⟨Nat.le_of_ble_eq_true rfl, Nat.le_of_ble_eq_true rfl⟩ hG hE hA hP hD hS (hst.1 18 (by decide)) hf10 rfl rfl hl.1 (As := [.int y20_l8]) (rest := []) rfl (Nat.le_of_ble_eq_true rfl) dX7_tryOffers_79 ⟨Nat.le_of_ble_eq_true rfl, Nat.le_of_ble_eq_true rfl⟩) hA hD hS (fun r14 L15 f16 H locs hp17 hP hD hS => ?_)
        obtain ⟨eL18L, eL18T⟩ := hp17
        have eL18L : L15 = L := eL18L
        have eL18T : f16 = f_20 := eL18T
        rw [eL18L, eL18T] at hP hD
        refine lv_istore (lv' := [(9, .int r14), (0, .ref (ad 18)), (1, .int 5), (2, .int z2), (3, .long z3), (5, .int z4), (6, .int 90), (7, .int r3), (8, .int y20_l8)]) hx hb dX7_tryOffers_82 hl (by decide) rfl (fun ls hl => ?_)
        refine lv_iconst (v := 0) hx hb dX7_tryOffers_84 (by decide) ?_
        refine lv_istore (lv' := [(10, .int 0), (9, .int r14), (0, .ref (ad 18)), (1, .int 5), (2, .int z2), (3, .long z3), (5, .int z4), (6, .int 90), (7, .int r3), (8, .int y20_l8)]) hx hb dX7_tryOffers_85 hl (by decide) rfl (fun ls hl => ?_)
        have hJ87 : ∀ (k87 : Nat) (y87_l10 : Int32) (f_87 : HP) (H : Heap) (locs : List Loc) (ls : Array Slot), In y87_l10 0 2147483647 → va_P g.1 vwCl (va_pl L f_87) H → va_D A (va_pl L f_87) → va_S A s.heap H locs → TI g ad th f_87 → (∀ b, b ≠ (ad 18) → b ≠ (ad 21) → b ≠ (ad 22) → f_87 b = f b) → lv_has ls 16 [(0, .ref (ad 18)), (1, .int 5), (2, .int z2), (3, .long z3), (5, .int z4), (6, .int 90), (7, .int r3), (8, .int y20_l8), (9, .int r14), (10, .int y87_l10)] → 2147483647 - y87_l10.toInt < ((k87 : Nat) : Int) → W p l e rm_X7_tryOffers_5 s m [.ref (ad 18), .int 5, .int z2, .long z3, .int z4].toArray below meth c H locs 0 0 (MQ below (va_Qv (po_X7_tryOffers_5 g ad th L f z2 z3 z4) (PstB g A) A) [.ref (ad 18), .int 5, .int z2, .long z3, .int z4].toArray s rm_X7_tryOffers_5.cells rm_X7_tryOffers_5.slots A) (F0 m 87 ls []) := by
          intro k87
          induction k87 with
          | zero =>
            intro y87_l10 f_87 H locs ls hy87_l10 hP hD hS hT hfr hl hmz87
            exact ms0 hy87_l10 hmz87
          | succ k87 ih87 =>
            intro y87_l10 f_87 H locs ls hy87_l10 hP hD hS hT hfr hl hmz87
            refine lv_iload hx hb dX7_tryOffers_87 (lv_at hl 9 rfl) ?_
            refine lv_iload hx hb dX7_tryOffers_89 (lv_at hl 8 rfl) ?_
            refine lv_icmp_ge (tgt := 211) hx hb dX7_tryOffers_91 (by decide) (fun c19 => ?_) (fun c19 => ?_)
            ·
              have cc20 : r14.toInt ≤ y87_l10.toInt := i32_le.mp c19
              exact ret_v hx hb hr hlocks hP hD hS (Nat.le_of_ble_eq_true rfl) (Nat.le_of_ble_eq_true rfl) (⟨rfl, hT, hfr⟩) dX7_tryOffers_211
            ·
              have cc21 : y87_l10.toInt < r14.toInt := i32_nle c19
              have hb22 : In y87_l10 0 2147483646 := In.lt1 hy87_l10 (In.full r14) cc21 (by omega) (by omega)
              have hb23 : In r14 1 2147483647 := In.lt2 hy87_l10 (In.full r14) cc21 (by omega) (by omega)
              refine lv_aload_n hx hb dX7_tryOffers_94 rfl (lv_at hl 0 rfl) ?_
              obtain ⟨v6_24, v7_24, v8_24, v9_24, v10_24, v11_24, v12_24, v13_24, hf25, hv8_24, hv9_24, hv10_24, hv11_24, hv13_24⟩ := hT.1 18 (by decide)
              refine call_i (run_V (rm := rm_X7_isEnough) hx hb hml hown hts (s_X7_isEnough l g ad th _ _ _  hst hT ) cV_X7_isEnough wg_1070 ⟨Nat.le_of_ble_eq_true rfl, Nat.le_of_ble_eq_true rfl⟩ hG hE hA hP hD hS (hst.1 18 (by decide)) hf25 rfl rfl hl.1 (As := []) (rest := []) rfl (Nat.le_of_ble_eq_true rfl) dX7_tryOffers_95 ⟨Nat.le_of_ble_eq_true rfl, Nat.le_of_ble_eq_true rfl⟩) hA hD hS (fun r26 L27 f28 H locs hp29 hP hD hS => ?_)
              obtain ⟨eL30L, eL30T, eL30R⟩ := hp29
              have eL30L : L27 = L := eL30L
              have eL30T : f28 = f_87 := eL30T
              rw [eL30L, eL30T] at hP hD
              have eL30R : In r26 0 1 := eL30R
              refine lv_if_ne (tgt := 211) hx hb dX7_tryOffers_98 (by decide) (fun c31 => ?_) (fun c31 => ?_)
              ·
                have oc0 : (0 : Int32).toInt = 0 := by decide
                have cc32 : r26.toInt ≠ (0 : Int32).toInt := i32_ne c31
                have hb33 : In r26 1 1 := In.ne1 eL30R (⟨by decide, by decide⟩ : In 0 0 0) cc32 (by omega) (by omega)
                exact ret_v hx hb hr hlocks hP hD hS (Nat.le_of_ble_eq_true rfl) (Nat.le_of_ble_eq_true rfl) (⟨rfl, hT, hfr⟩) dX7_tryOffers_211
              ·
                have oc0 : (0 : Int32).toInt = 0 := by decide
                have cc34 : r26.toInt = (0 : Int32).toInt := congrArg Int32.toInt c31
                have hb35 : In r26 0 0 := In.eq1 eL30R (⟨by decide, by decide⟩ : In 0 0 0) cc34 (by omega) (by omega)
                refine lv_iconst (v := 0) hx hb dX7_tryOffers_101 (by decide) ?_
                refine lv_istore (lv' := [(11, .int 0), (0, .ref (ad 18)), (1, .int 5), (2, .int z2), (3, .long z3), (5, .int z4), (6, .int 90), (7, .int r3), (8, .int y20_l8), (9, .int r14), (10, .int y87_l10)]) hx hb dX7_tryOffers_102 hl (by decide) rfl (fun ls hl => ?_)
                refine lv_iload hx hb dX7_tryOffers_104 (lv_at hl 10 rfl) ?_
                refine lv_istore (lv' := [(12, .int y87_l10), (11, .int 0), (0, .ref (ad 18)), (1, .int 5), (2, .int z2), (3, .long z3), (5, .int z4), (6, .int 90), (7, .int r3), (8, .int y20_l8), (9, .int r14), (10, .int y87_l10)]) hx hb dX7_tryOffers_106 hl (by decide) rfl (fun ls hl => ?_)
                refine lv_iload hx hb dX7_tryOffers_108 (lv_at hl 6 rfl) ?_
                refine lv_istore (lv' := [(13, .int z4), (12, .int y87_l10), (11, .int 0), (0, .ref (ad 18)), (1, .int 5), (2, .int z2), (3, .long z3), (5, .int z4), (6, .int 90), (7, .int r3), (8, .int y20_l8), (9, .int r14), (10, .int y87_l10)]) hx hb dX7_tryOffers_110 hl (by decide) rfl (fun ls hl => ?_)
                refine lv_iconst (v := 0) hx hb dX7_tryOffers_112 (by decide) ?_
                refine lv_istore (lv' := [(14, .int 0), (13, .int z4), (12, .int y87_l10), (11, .int 0), (0, .ref (ad 18)), (1, .int 5), (2, .int z2), (3, .long z3), (5, .int z4), (6, .int 90), (7, .int r3), (8, .int y20_l8), (9, .int r14), (10, .int y87_l10)]) hx hb dX7_tryOffers_113 hl (by decide) rfl (fun ls hl => ?_)
                have hJ115 : ∀ (k115 : Nat) (y115_l11 : Int32) (y115_l12 : Int32) (y115_l13 : Int32) (y115_l14 : Int32) (H : Heap) (locs : List Loc) (ls : Array Slot), In y115_l11 (-2147483648) 2147483647 → In y115_l12 0 2147483647 → In y115_l13 (-2147483648) 2147483647 → In y115_l14 0 9 → va_P g.1 vwCl (va_pl L f_87) H → va_D A (va_pl L f_87) → va_S A s.heap H locs → lv_has ls 16 [(0, .ref (ad 18)), (1, .int 5), (2, .int z2), (3, .long z3), (5, .int z4), (6, .int 90), (7, .int r3), (8, .int y20_l8), (9, .int r14), (10, .int y87_l10), (11, .int y115_l11), (12, .int y115_l12), (13, .int y115_l13), (14, .int y115_l14)] → 9 - y115_l14.toInt < ((k115 : Nat) : Int) → W p l e rm_X7_tryOffers_5 s m [.ref (ad 18), .int 5, .int z2, .long z3, .int z4].toArray below meth c H locs 0 0 (MQ below (va_Qv (po_X7_tryOffers_5 g ad th L f z2 z3 z4) (PstB g A) A) [.ref (ad 18), .int 5, .int z2, .long z3, .int z4].toArray s rm_X7_tryOffers_5.cells rm_X7_tryOffers_5.slots A) (F0 m 115 ls []) := by
                  intro k115
                  induction k115 with
                  | zero =>
                    intro y115_l11 y115_l12 y115_l13 y115_l14 H locs ls hy115_l11 hy115_l12 hy115_l13 hy115_l14 hP hD hS hl hmz115
                    exact ms0 hy115_l14 hmz115
                  | succ k115 ih115 =>
                    intro y115_l11 y115_l12 y115_l13 y115_l14 H locs ls hy115_l11 hy115_l12 hy115_l13 hy115_l14 hP hD hS hl hmz115
                    refine lv_iload hx hb dX7_tryOffers_115 (lv_at hl 13 rfl) ?_
                    refine lv_aload_n hx hb dX7_tryOffers_117 rfl (lv_at hl 0 rfl) ?_
                    refine pl_get (v := .int v10_24) hx hb hts (fun w h => mT (inX7 w h)) hown hG.1 hP (hst.1 18 (by decide)) hf25 rfl 10 (by decide) (hts _ (mT wg_442)) (fun _ h => h) rfl dX7_tryOffers_118 ?_
                    refine lv_icmp_ge (tgt := 194) hx hb dX7_tryOffers_121 (by decide) (fun c36 => ?_) (fun c36 => ?_)
                    ·
                      have cc37 : v10_24.toInt ≤ y115_l14.toInt := i32_le.mp c36
                      refine lv_aload_n hx hb dX7_tryOffers_194 rfl (lv_at hl 0 rfl) ?_
                      refine lv_iload_n hx hb dX7_tryOffers_195 rfl (lv_at hl 1 rfl) ?_
                      refine lv_iload_n hx hb dX7_tryOffers_196 rfl (lv_at hl 2 rfl) ?_
                      refine lv_lload_n hx hb dX7_tryOffers_197 rfl (lv_at hl 3 rfl) ?_
                      refine lv_iload hx hb dX7_tryOffers_198 (lv_at hl 10 rfl) ?_
                      refine lv_iload hx hb dX7_tryOffers_200 (lv_at hl 12 rfl) ?_
                      refine call_v (run_V (rm := rm_X7_tryViews_5) hx hb hml hown hts (s_X7_tryViews_5 l g ad th _ _ _ z2 z3 y115_l11 y115_l13 hst hT hz2) cV_X7_tryViews wg_1081 ⟨Nat.le_of_ble_eq_true rfl, Nat.le_of_ble_eq_true rfl⟩ hG hE hA hP hD hS (hst.1 18 (by decide)) hf25 rfl rfl hl.1 (As := [.int 5, .int z2, .long z3, .int y115_l11, .int y115_l13]) (rest := []) rfl (Nat.le_of_ble_eq_true rfl) dX7_tryOffers_202 ⟨Nat.le_of_ble_eq_true rfl, Nat.le_of_ble_eq_true rfl⟩) hA hD hS (fun L39 f40 H locs hp41 hP hD hS => ?_)
                      obtain ⟨eL42L, eL42T, eL42F⟩ := hp41
                      have eL42L : L39 = L := eL42L
                      rw [eL42L] at hP hD
                      have hT : TI g ad th f40 := eL42T
                      have eL42F : ∀ b, b ≠ (ad 18) → b ≠ (ad 21) → b ≠ (ad 22) → f40 b = f_87 b := eL42F
                      have hfr : (∀ b, b ≠ (ad 18) → b ≠ (ad 21) → b ≠ (ad 22) → f40 b = f b) := fun b z0_ z1_ z2_ => (eL42F b z0_ z1_ z2_).trans (hfr b z0_ z1_ z2_)
                      obtain ⟨x43, ex43⟩ : ∃ y : Int32, y = y87_l10 + 1 := ⟨_, rfl⟩
                      have hb44 : In x43 1 2147483647 := ex43 ▸ In.add hb22 (⟨by decide, by decide⟩ : In 1 1 1) (by decide) (by decide) (by decide) (by decide)
                      have et45 : x43.toInt = y87_l10.toInt + 1 := In.adde ex43 hb22 (k := 1) (by decide) (by decide) (by decide)
                      refine lv_iinc (v := x43) (lv' := [(10, .int x43), (0, .ref (ad 18)), (1, .int 5), (2, .int z2), (3, .long z3), (5, .int z4), (6, .int 90), (7, .int r3), (8, .int y20_l8), (9, .int r14), (11, .int y115_l11), (12, .int y115_l12), (13, .int y115_l13), (14, .int y115_l14)]) hx hb dX7_tryOffers_205 hl (k := 9) rfl (by rw [ex43]; rfl) (by decide) rfl (fun ls hl => ?_)
                      refine lv_goto (tgt := 87) hx hb dX7_tryOffers_208 (by decide) ?_
                      exact ih87 x43 _ _ _ _ (In.mono hb44 (by decide) (by decide)) hP hD hS hT hfr (lv_sub hl [1, 2, 3, 4, 5, 6, 7, 8, 9, 0] rfl) (msu et45 (by decide) hmz87)
                    ·
                      have cc46 : y115_l14.toInt < v10_24.toInt := i32_nle c36
                      have hb47 : In y115_l14 0 8 := In.lt1 hy115_l14 hv10_24 cc46 (by omega) (by omega)
                      have hb48 : In v10_24 1 9 := In.lt2 hy115_l14 hv10_24 cc46 (by omega) (by omega)
                      refine lv_iload hx hb dX7_tryOffers_124 (lv_at hl 5 rfl) ?_
                      refine lv_iload hx hb dX7_tryOffers_126 (lv_at hl 11 rfl) ?_
                      refine lv_iload hx hb dX7_tryOffers_128 (lv_at hl 7 rfl) ?_
                      have hb49 : In y20_l8 1 9 := In.mk (by obtain ⟨o0a, o0b⟩ := (hy20_l8 : In _ _ _); obtain ⟨o1a, o1b⟩ := (hb13 : In _ _ _); obtain ⟨o2a, o2b⟩ := (hv11_9 : In _ _ _); omega) (by obtain ⟨o0a, o0b⟩ := (hy20_l8 : In _ _ _); obtain ⟨o1a, o1b⟩ := (hb13 : In _ _ _); obtain ⟨o2a, o2b⟩ := (hv11_9 : In _ _ _); omega)
                      refine lv_irem hx hb dX7_tryOffers_130 (In.ne0 hb49 (by decide)) ?_
                      refine lv_topi (fun x50 ex50 => ?_)
                      have hb51 : In x50 0 8 := ex50 ▸ In.rem hy115_l12 hb49 (by decide) (by decide) (by decide)
                      refine lv_iadd hx hb dX7_tryOffers_131 ?_
                      refine lv_topi (fun x52 ex52 => ?_)
                      have hb53 : In x52 90 98 := ex52 ▸ In.add (⟨by decide, by decide⟩ : In 90 90 90) hb51 (by decide) (by decide) (by decide) (by decide)
                      have et54 : x52.toInt = (90 : Int32).toInt + x50.toInt := In.add2e ex52 (⟨by decide, by decide⟩ : In 90 90 90) hb51 (by decide) (by decide)
                      refine lv_istore (lv' := [(15, .int x52), (0, .ref (ad 18)), (1, .int 5), (2, .int z2), (3, .long z3), (5, .int z4), (6, .int 90), (7, .int r3), (8, .int y20_l8), (9, .int r14), (10, .int y87_l10), (11, .int y115_l11), (12, .int y115_l12), (13, .int y115_l13), (14, .int y115_l14)]) hx hb dX7_tryOffers_132 hl (by decide) rfl (fun ls hl => ?_)
                      refine lv_iload hx hb dX7_tryOffers_134 (lv_at hl 12 rfl) ?_
                      refine lv_iload hx hb dX7_tryOffers_136 (lv_at hl 8 rfl) ?_
                      refine lv_idiv hx hb dX7_tryOffers_138 (In.ne0 hb49 (by decide)) ?_
                      refine lv_topi (fun x55 ex55 => ?_)
                      have hb56 : In x55 0 2147483647 := ex55 ▸ In.div hy115_l12 hb49 (by decide) (by decide) (by decide) (by decide)
                      refine lv_istore (lv' := [(12, .int x55), (15, .int x52), (0, .ref (ad 18)), (1, .int 5), (2, .int z2), (3, .long z3), (5, .int z4), (6, .int 90), (7, .int r3), (8, .int y20_l8), (9, .int r14), (10, .int y87_l10), (11, .int y115_l11), (13, .int y115_l13), (14, .int y115_l14)]) hx hb dX7_tryOffers_139 hl (by decide) rfl (fun ls hl => ?_)
                      refine lv_iload hx hb dX7_tryOffers_141 (lv_at hl 12 rfl) ?_
                      refine lv_aload_n hx hb dX7_tryOffers_143 rfl (lv_at hl 2 rfl) ?_
                      refine pl_get (v := .ref (ad 21)) hx hb hts (fun w h => mT (inX7 w h)) hown hG.1 hP (hst.1 18 (by decide)) hf25 rfl 3 (by decide) (hts _ (mT wg_435)) (fun _ h => h) rfl dX7_tryOffers_144 ?_
                      refine lv_iload hx hb dX7_tryOffers_147 (lv_at hl 1 rfl) ?_
                      obtain ⟨rw57, hf58⟩ := hT.1 21 (by decide)
                      have hin59 : vp_in x52 108 := In.inb hb53 (by decide) (by decide)
                      refine pl_iald hx hb hG.1 hP (hst.1 21 (by decide)) 0 hf58 rfl hin59 dX7_tryOffers_149 ?_
                      refine lv_topi (fun x60 ex60 => ?_)
                      refine lv_aload_n hx hb dX7_tryOffers_150 rfl (lv_at hl 2 rfl) ?_
                      refine pl_get (v := .ref (ad 19)) hx hb hts (fun w h => mT (inX7 w h)) hown hG.1 hP (hst.1 18 (by decide)) hf25 rfl 1 (by decide) (hts _ (mT wg_433)) (fun _ h => h) rfl dX7_tryOffers_151 ?_
                      refine lv_iload hx hb dX7_tryOffers_154 (lv_at hl 14 rfl) ?_
                      obtain ⟨rw61, hf62, hc63⟩ := hT.1 19 (by decide)
                      have hin64 : vp_in y115_l14 9 := In.inb hb47 (by decide) (by decide)
                      refine pl_iald hx hb hG.1 hP (hst.1 19 (by decide)) 0 hf62 rfl hin64 dX7_tryOffers_156 ?_
                      refine lv_topi (fun x65 ex65 => ?_)
                      have hb66 : In x65 0 8 := by rw [ex65]; exact hc63 _ (vp_nat hin64)
                      refine call_i (run_S (rm := rm_X7_wordOf) hx hb hml hown hts (s_X7_wordOf l g ad th _ _ _ x60 x65 hst hT ) cS_X7_wordOf wg_1074 ⟨Nat.le_of_ble_eq_true rfl, Nat.le_of_ble_eq_true rfl⟩ hG hE hA hP hD hS rfl hl.1 (As := [.int x60, .int x65]) (rest := [.int y115_l11]) rfl (Nat.le_of_ble_eq_true rfl) dX7_tryOffers_157 ⟨Nat.le_of_ble_eq_true rfl, Nat.le_of_ble_eq_true rfl⟩) hA hD hS (fun r67 L68 f69 H locs hp70 hP hD hS => ?_)
                      obtain ⟨eL71L, eL71T⟩ := hp70
                      have eL71L : L68 = L := eL71L
                      have eL71T : f69 = f_87 := eL71T
                      rw [eL71L, eL71T] at hP hD
                      refine lv_ior hx hb dX7_tryOffers_160 ?_
                      refine lv_topi (fun x72 ex72 => ?_)
                      refine lv_istore (lv' := [(11, .int x72), (12, .int x55), (15, .int x52), (0, .ref (ad 18)), (1, .int 5), (2, .int z2), (3, .long z3), (5, .int z4), (6, .int 90), (7, .int r3), (8, .int y20_l8), (9, .int r14), (10, .int y87_l10), (13, .int y115_l13), (14, .int y115_l14)]) hx hb dX7_tryOffers_161 hl (by decide) rfl (fun ls hl => ?_)
                      refine lv_iload hx hb dX7_tryOffers_163 (lv_at hl 13 rfl) ?_
                      refine lv_aload_n hx hb dX7_tryOffers_165 rfl (lv_at hl 3 rfl) ?_
                      refine lv_aload_n hx hb dX7_tryOffers_166 rfl (lv_at hl 3 rfl) ?_
                      refine pl_get (v := .ref (ad 22)) hx hb hts (fun w h => mT (inX7 w h)) hown hG.1 hP (hst.1 18 (by decide)) hf25 rfl 4 (by decide) (hts _ (mT wg_436)) (fun _ h => h) rfl dX7_tryOffers_167 ?_
                      refine lv_iload hx hb dX7_tryOffers_170 (lv_at hl 2 rfl) ?_
                      obtain ⟨rw73, hf74⟩ := hT.1 22 (by decide)
                      have hin75 : vp_in x52 108 := In.inb hb53 (by decide) (by decide)
                      refine pl_iald hx hb hG.1 hP (hst.1 22 (by decide)) 0 hf74 rfl hin75 dX7_tryOffers_172 ?_
                      refine lv_topi (fun x76 ex76 => ?_)
                      refine lv_aload_n hx hb dX7_tryOffers_173 rfl (lv_at hl 3 rfl) ?_
                      refine pl_get (v := .ref (ad 20)) hx hb hts (fun w h => mT (inX7 w h)) hown hG.1 hP (hst.1 18 (by decide)) hf25 rfl 2 (by decide) (hts _ (mT wg_434)) (fun _ h => h) rfl dX7_tryOffers_174 ?_
                      refine lv_iload_n hx hb dX7_tryOffers_177 rfl (lv_at hl 4 rfl) ?_
                      obtain ⟨rw77, hf78⟩ := hT.1 20 (by decide)
                      have hin79 : vp_in 5 7 := In.inb (⟨by decide, by decide⟩ : In 5 5 5) (by decide) (by decide)
                      refine pl_iald hx hb hG.1 hP (hst.1 20 (by decide)) 0 hf78 rfl hin79 dX7_tryOffers_178 ?_
                      refine lv_topi (fun x80 ex80 => ?_)
                      refine lv_iload hx hb dX7_tryOffers_179 (lv_at hl 14 rfl) ?_
                      refine lv_iadd hx hb dX7_tryOffers_181 ?_
                      refine lv_topi (fun x81 ex81 => ?_)
                      refine call_i (run_V (rm := rm_X7_bitsOf) hx hb hml hown hts (s_X7_bitsOf l g ad th _ _ _ x76 x81 hst hT ) cV_X7_bitsOf wg_1077 ⟨Nat.le_of_ble_eq_true rfl, Nat.le_of_ble_eq_true rfl⟩ hG hE hA hP hD hS (hst.1 18 (by decide)) hf25 rfl rfl hl.1 (As := [.int x76, .int x81]) (rest := [.int y115_l13]) rfl (Nat.le_of_ble_eq_true rfl) dX7_tryOffers_182 ⟨Nat.le_of_ble_eq_true rfl, Nat.le_of_ble_eq_true rfl⟩) hA hD hS (fun r82 L83 f84 H locs hp85 hP hD hS => ?_)
                      obtain ⟨eL86L, eL86T⟩ := hp85
                      have eL86L : L83 = L := eL86L
                      have eL86T : f84 = f_87 := eL86T
                      rw [eL86L, eL86T] at hP hD
                      refine lv_ior hx hb dX7_tryOffers_185 ?_
                      refine lv_topi (fun x87 ex87 => ?_)
                      refine lv_istore (lv' := [(13, .int x87), (11, .int x72), (12, .int x55), (15, .int x52), (0, .ref (ad 18)), (1, .int 5), (2, .int z2), (3, .long z3), (5, .int z4), (6, .int 90), (7, .int r3), (8, .int y20_l8), (9, .int r14), (10, .int y87_l10), (14, .int y115_l14)]) hx hb dX7_tryOffers_186 hl (by decide) rfl (fun ls hl => ?_)
                      obtain ⟨x88, ex88⟩ : ∃ y : Int32, y = y115_l14 + 1 := ⟨_, rfl⟩
                      have hb89 : In x88 1 9 := ex88 ▸ In.add hb47 (⟨by decide, by decide⟩ : In 1 1 1) (by decide) (by decide) (by decide) (by decide)
                      have et90 : x88.toInt = y115_l14.toInt + 1 := In.adde ex88 hb47 (k := 1) (by decide) (by decide) (by decide)
                      refine lv_iinc (v := x88) (lv' := [(14, .int x88), (13, .int x87), (11, .int x72), (12, .int x55), (15, .int x52), (0, .ref (ad 18)), (1, .int 5), (2, .int z2), (3, .long z3), (5, .int z4), (6, .int 90), (7, .int r3), (8, .int y20_l8), (9, .int r14), (10, .int y87_l10)]) hx hb dX7_tryOffers_188 hl (k := 14) rfl (by rw [ex88]; rfl) (by decide) rfl (fun ls hl => ?_)
                      refine lv_goto (tgt := 115) hx hb dX7_tryOffers_191 (by decide) ?_
                      exact ih115 x72 x55 x87 x88 _ _ _ (In.full x72) hb56 (In.full x87) (In.mono hb89 (by decide) (by decide)) hP hD hS (lv_sub hl [5, 6, 7, 8, 9, 10, 11, 12, 13, 14, 2, 3, 1, 0] rfl) (msu et90 (by decide) hmz115)
                exact hJ115 ((9 - (0 : Int32).toInt).toNat + 1) 0 y87_l10 z4 0 _ _ _ (⟨by decide, by decide⟩ : In 0 (-2147483648) 2147483647) (In.mono hb22 (by decide) (by decide)) (In.full z4) (⟨by decide, by decide⟩ : In 0 0 9) hP hD hS (lv_sub hl [4, 5, 6, 7, 8, 9, 10, 11, 12, 13, 3, 2, 1, 0] rfl) (msI _)
        exact hJ87 ((2147483647 - (0 : Int32).toInt).toNat + 1) 0 _ _ _ _ (⟨by decide, by decide⟩ : In 0 0 2147483647) hP hD hS hT hfr (lv_sub hl [2, 3, 4, 5, 6, 7, 8, 9, 1, 0] rfl) (msI _)
      ·
        have cc91 : y20_l9.toInt ≤ v11_9.toInt := i32_nlt c11
        have hb92 : In y20_l9 0 8 := In.le1 hy20_l9 hv11_9 cc91 (by omega) (by omega)
        refine lv_aload_n hx hb dX7_tryOffers_29 rfl (lv_at hl 0 rfl) ?_
        refine pl_get (v := .ref (ad 8)) hx hb hts (fun w h => mT (inX7 w h)) hown hG.1 hP (hst.1 18 (by decide)) hf10 rfl 0 (by decide) (hts _ (mT wg_432)) (fun _ h => h) rfl dX7_tryOffers_30 ?_
        refine lv_aload_n hx hb dX7_tryOffers_33 rfl (lv_at hl 0 rfl) ?_
        refine pl_get (v := .ref (ad 8)) hx hb hts (fun w h => mT (inX7 w h)) hown hG.1 hP (hst.1 18 (by decide)) hf10 rfl 0 (by decide) (hts _ (mT wg_432)) (fun _ h => h) rfl dX7_tryOffers_34 ?_
        obtain ⟨v0_93, v1_93, v2_93, v3_93, v4_93, v5_93, v6_93, v7_93, hf94, hv0_93, hv1_93, hv2_93, hv3_93, hv5_93, hv6_93⟩ := hT.1 8 (by decide)
        refine pl_getN (v := .int v1_93) hx hb hts (fun w h => mT (inX2 w h)) hown hG.1 hP (hst.1 8 (by decide)) hf94 rfl 1 (by decide) (hG.2.1 _ wn_229) (fun _ h => h) rfl dX7_tryOffers_37 ?_
        refine lv_iload hx hb dX7_tryOffers_40 (lv_at hl 6 rfl) ?_
        refine lv_isub hx hb dX7_tryOffers_42 ?_
        refine lv_topi (fun x95 ex95 => ?_)
        have hb96 : In x95 (-9) 9 := ex95 ▸ In.sub hv1_93 hb8 (by decide) (by decide) (by decide) (by decide)
        have et97 : x95.toInt = v1_93.toInt - r3.toInt := In.sub2e ex95 hv1_93 hb8 (by decide) (by decide)
        refine lv_iload hx hb dX7_tryOffers_43 (lv_at hl 8 rfl) ?_
        refine lv_isub hx hb dX7_tryOffers_45 ?_
        refine lv_topi (fun x98 ex98 => ?_)
        have hb99 : In x98 (-17) 9 := ex98 ▸ In.sub hb96 hb92 (by decide) (by decide) (by decide) (by decide)
        have et100 : x98.toInt = x95.toInt - y20_l9.toInt := In.sub2e ex98 hb96 hb92 (by decide) (by decide)
        refine lv_iload hx hb dX7_tryOffers_46 (lv_at hl 6 rfl) ?_
        refine lv_iload hx hb dX7_tryOffers_48 (lv_at hl 8 rfl) ?_
        refine lv_iadd hx hb dX7_tryOffers_50 ?_
        refine lv_topi (fun x101 ex101 => ?_)
        have hb102 : In x101 0 17 := ex101 ▸ In.add hb8 hb92 (by decide) (by decide) (by decide) (by decide)
        have et103 : x101.toInt = r3.toInt + y20_l9.toInt := In.add2e ex101 hb8 hb92 (by decide) (by decide)
        refine call_i (run_VN (rm := rm_X2_offer_ru) hx hb hml hown hts (s_X2_offer_ru l g ad th _ _ _ x98 x101 hst hT ) cV_X2_offer wn_1061 ⟨Nat.le_of_ble_eq_true rfl, Nat.le_of_ble_eq_true rfl⟩ hG hE hA hP hD hS (hst.1 8 (by decide)) hf94 rfl rfl hl.1 (As := [.int x98, .int x101]) (rest := []) rfl (Nat.le_of_ble_eq_true rfl) dX7_tryOffers_51 ⟨Nat.le_of_ble_eq_true rfl, Nat.le_of_ble_eq_true rfl⟩) hA hD hS (fun r104 L105 f106 H locs hp107 hP hD hS => ?_)
        obtain ⟨eL108L, eL108T, eL108R⟩ := hp107
        have eL108L : L105 = L := eL108L
        have eL108T : f106 = f_20 := eL108T
        rw [eL108L, eL108T] at hP hD
        have eL108R : In r104 0 2 := eL108R
        refine lv_istore (lv' := [(10, .int r104), (0, .ref (ad 18)), (1, .int 5), (2, .int z2), (3, .long z3), (5, .int z4), (6, .int 90), (7, .int r3), (8, .int y20_l8), (9, .int y20_l9)]) hx hb dX7_tryOffers_54 hl (by decide) rfl (fun ls hl => ?_)
        refine lv_aload_n hx hb dX7_tryOffers_56 rfl (lv_at hl 1 rfl) ?_
        refine lv_iload hx hb dX7_tryOffers_57 (lv_at hl 6 rfl) ?_
        refine lv_iload hx hb dX7_tryOffers_59 (lv_at hl 8 rfl) ?_
        refine lv_iload hx hb dX7_tryOffers_61 (lv_at hl 0 rfl) ?_
        refine lv_iload hx hb dX7_tryOffers_63 (lv_at hl 9 rfl) ?_
        refine call_i (run_V (rm := rm_X7_addChoice) hx hb hml hown hts (s_X7_addChoice l g ad th _ _ _ 90 y20_l8 r104 y20_l9 hst hT (⟨by decide, by decide⟩ : In 90 0 99) (In.mk (by obtain ⟨o0a, o0b⟩ := (hy20_l8 : In _ _ _); obtain ⟨o1a, o1b⟩ := (hb92 : In _ _ _); obtain ⟨o2a, o2b⟩ := (hv11_9 : In _ _ _); omega) (by obtain ⟨o0a, o0b⟩ := (hy20_l8 : In _ _ _); obtain ⟨o1a, o1b⟩ := (hb92 : In _ _ _); obtain ⟨o2a, o2b⟩ := (hv11_9 : In _ _ _); omega))) cV_X7_addChoice wg_1062 ⟨Nat.le_of_ble_eq_true rfl, Nat.le_of_ble_eq_true rfl⟩ hG hE hA hP hD hS (hst.1 18 (by decide)) hf10 rfl rfl hl.1 (As := [.int 90, .int y20_l8, .int r104, .int y20_l9]) (rest := []) rfl (Nat.le_of_ble_eq_true rfl) dX7_tryOffers_65 ⟨Nat.le_of_ble_eq_true rfl, Nat.le_of_ble_eq_true rfl⟩) hA hD hS (fun r109 L110 f111 H locs hp112 hP hD hS => ?_)
        obtain ⟨eL113L, eL113T, eL113F, eL113R, eL113X0⟩ := hp112
        have eL113L : L110 = L := eL113L
        rw [eL113L] at hP hD
        have hT : TI g ad th f111 := eL113T
        have eL113F : ∀ b, b ≠ (ad 21) → b ≠ (ad 22) → f111 b = f_20 b := eL113F
        have hf114 := (eL113F (ad 18) (hst.ne (by decide) (by decide) (by decide)) (hst.ne (by decide) (by decide) (by decide))).trans hf10
        have hf115 := (eL113F (ad 8) (hst.ne (by decide) (by decide) (by decide)) (hst.ne (by decide) (by decide) (by decide))).trans hf94
        have hfr : (∀ b, b ≠ (ad 18) → b ≠ (ad 21) → b ≠ (ad 22) → f111 b = f b) := fun b z0_ z1_ z2_ => (eL113F b z1_ z2_).trans (hfr b z0_ z1_ z2_)
        have eL113R : In r109 0 9 := eL113R
        have hac116 : r109.toInt ≤ y20_l8.toInt + 1 ∧ 1 ≤ r109.toInt := eL113X0
        refine lv_istore (lv' := [(8, .int r109), (10, .int r104), (0, .ref (ad 18)), (1, .int 5), (2, .int z2), (3, .long z3), (5, .int z4), (6, .int 90), (7, .int r3), (9, .int y20_l9)]) hx hb dX7_tryOffers_68 hl (by decide) rfl (fun ls hl => ?_)
        obtain ⟨x117, ex117⟩ : ∃ y : Int32, y = y20_l9 + 1 := ⟨_, rfl⟩
        have hb118 : In x117 1 9 := ex117 ▸ In.add hb92 (⟨by decide, by decide⟩ : In 1 1 1) (by decide) (by decide) (by decide) (by decide)
        have et119 : x117.toInt = y20_l9.toInt + 1 := In.adde ex117 hb92 (k := 1) (by decide) (by decide) (by decide)
        refine lv_iinc (v := x117) (lv' := [(9, .int x117), (8, .int r109), (10, .int r104), (0, .ref (ad 18)), (1, .int 5), (2, .int z2), (3, .long z3), (5, .int z4), (6, .int 90), (7, .int r3)]) hx hb dX7_tryOffers_70 hl (k := 9) rfl (by rw [ex117]; rfl) (by decide) rfl (fun ls hl => ?_)
        refine lv_goto (tgt := 20) hx hb dX7_tryOffers_73 (by decide) ?_
        exact ih20 r109 x117 _ _ _ _ eL113R (In.mono hb118 (by decide) (by decide)) hP hD hS hT hfr (by obtain ⟨o0a, o0b⟩ := (eL113R : In _ _ _); obtain ⟨o1a, o1b⟩ := (hb118 : In _ _ _); obtain ⟨o2a, o2b⟩ := (hy20_l8 : In _ _ _); obtain ⟨o3a, o3b⟩ := (hb92 : In _ _ _); obtain ⟨o4a, o4b⟩ := (hv11_9 : In _ _ _); omega) (lv_sub hl [3, 4, 5, 6, 7, 8, 9, 1, 0] rfl) (msu et119 (by decide) hmz20)
  exact hJ20 ((9 - (0 : Int32).toInt).toNat + 1) 0 0 _ _ _ _ (⟨by decide, by decide⟩ : In 0 0 9) (⟨by decide, by decide⟩ : In 0 0 9) hP hD hS hT hfr (by have oc0 : (0 : Int32).toInt = 0 := (by decide); omega) (lv_sub hl [4, 5, 6, 7, 8, 3, 2, 1, 0] rfl) (msI _)

abbrev rm_X7_explore_5 : Room := { frames := 5, cells := 0, slots := 0, locals := 163 }
abbrev po_X7_explore_5 (g : GG) (ad : Nat → Nat) (th : Nat → Int) (L : List Nat) (f : HP) (z2 : Int32) (z3 : Int64) (z4 : Int32) : (List Nat × HP) → Prop := fun u => u.1 = L ∧ TI g ad th u.2 ∧ (∀ b, b ≠ (ad 18) → b ≠ (ad 21) → b ≠ (ad 22) → b ≠ (ad 23) → u.2 b = f b)
set_option maxHeartbeats 4000000 in
set_option maxRecDepth 100000 in
theorem s_X7_explore_5 (l : Launch) (g : GG) (ad : Nat → Nat) (th : Nat → Int) (L : List Nat) (f : HP) (sz : Nat) (z2 : Int32) (z3 : Int64) (z4 : Int32) (hst : ST ad L) (hT : TI g ad th f) (hz2 : In z2 0 511) : MtV l g yX7_explore cX7_explore 8 rm_X7_explore_5 [.ref (ad 18), .int 5, .int z2, .long z3, .int z4] L f sz (po_X7_explore_5 g ad th L f z2 z3 z4) := by
  refine MtV.of (by decide +kernel) (Nat.le_of_ble_eq_true rfl) ?_
  intro p e s m below meth c A hEn hP hD hS ls hl
  obtain ⟨hx, hb, hr, hml, hown, hlocks, hts, hG, hA, hE, hnm⟩ := hEn
  have hown : s.vm.findClass "RulerWord$Search" = some m.cls := hown
  have hl : lv_has ls 8 [(0, .ref (ad 18)), (1, .int 5), (2, .int z2), (3, .long z3), (5, .int z4)] := hl
  have hfr : (∀ b, b ≠ (ad 18) → b ≠ (ad 21) → b ≠ (ad 22) → b ≠ (ad 23) → f b = f b) := fun b z0_ z1_ z2_ z3_ => rfl
  refine lv_iload_n hx hb dX7_explore_0 rfl (lv_at hl 1 rfl) ?_
  refine lv_aload_n hx hb dX7_explore_1 rfl (lv_at hl 0 rfl) ?_
  obtain ⟨v6_1, v7_1, v8_1, v9_1, v10_1, v11_1, v12_1, v13_1, hf2, hv8_1, hv9_1, hv10_1, hv11_1, hv13_1⟩ := hT.1 18 (by decide)
  refine pl_get (v := .int v7_1) hx hb hts (fun w h => mT (inX7 w h)) hown hG.1 hP (hst.1 18 (by decide)) hf2 rfl 7 (by decide) (hts _ (mT wg_439)) (fun _ h => h) rfl dX7_explore_2 ?_
  have hJ14 : ∀ (H : Heap) (locs : List Loc) (ls : Array Slot), va_P g.1 vwCl (va_pl L f) H → va_D A (va_pl L f) → va_S A s.heap H locs → lv_has ls 8 [(0, .ref (ad 18)), (1, .int 5), (2, .int z2), (3, .long z3), (5, .int z4)] → W p l e rm_X7_explore_5 s m [.ref (ad 18), .int 5, .int z2, .long z3, .int z4].toArray below meth c H locs 0 0 (MQ below (va_Qv (po_X7_explore_5 g ad th L f z2 z3 z4) (PstB g A) A) [.ref (ad 18), .int 5, .int z2, .long z3, .int z4].toArray s rm_X7_explore_5.cells rm_X7_explore_5.slots A) (F0 m 14 ls []) := by
    intro H locs ls hP hD hS hl
    refine lv_aload_n hx hb dX7_explore_14 rfl (lv_at hl 0 rfl) ?_
    refine lv_iload_n hx hb dX7_explore_15 rfl (lv_at hl 2 rfl) ?_
    refine lv_iload hx hb dX7_explore_16 (lv_at hl 4 rfl) ?_
    refine call_v (run_V (rm := rm_X7_judge) hx hb hml hown hts (s_X7_judge l g ad th _ _ _ z2 z4 hst hT hz2) cV_X7_judge wg_1053 ⟨Nat.le_of_ble_eq_true rfl, Nat.le_of_ble_eq_true rfl⟩ hG hE hA hP hD hS (hst.1 18 (by decide)) hf2 rfl rfl hl.1 (As := [.int z2, .int z4]) (rest := []) rfl (Nat.le_of_ble_eq_true rfl) dX7_explore_18 ⟨Nat.le_of_ble_eq_true rfl, Nat.le_of_ble_eq_true rfl⟩) hA hD hS (fun L4 f5 H locs hp6 hP hD hS => ?_)
    obtain ⟨eL7L, eL7T, eL7F⟩ := hp6
    have eL7L : L4 = L := eL7L
    rw [eL7L] at hP hD
    have hT : TI g ad th f5 := eL7T
    have eL7F : ∀ b, b ≠ (ad 18) → f5 b = f b := eL7F
    have hfr : (∀ b, b ≠ (ad 18) → b ≠ (ad 21) → b ≠ (ad 22) → b ≠ (ad 23) → f5 b = f b) := fun b z0_ z1_ z2_ z3_ => (eL7F b z0_).trans (hfr b z0_ z1_ z2_ z3_)
    exact ret_v hx hb hr hlocks hP hD hS (Nat.le_of_ble_eq_true rfl) (Nat.le_of_ble_eq_true rfl) (⟨rfl, hT, hfr⟩) dX7_explore_21
  refine lv_icmp_ge (tgt := 14) hx hb dX7_explore_5 (by decide) (fun c8 => ?_) (fun c8 => ?_)
  ·
    have cc9 : v7_1.toInt ≤ (5 : Int32).toInt := i32_le.mp c8
    have hb10 : In v7_1 (-2147483648) 5 := In.ge2 (⟨by decide, by decide⟩ : In 5 5 5) (In.full v7_1) cc9 (by omega) (by omega)
    exact hJ14 _ _ _ hP hD hS (lv_sub hl [0, 1, 2, 3, 4] rfl)
  ·
    have cc11 : (5 : Int32).toInt < v7_1.toInt := i32_nle c8
    have hb12 : In v7_1 6 2147483647 := In.lt2 (⟨by decide, by decide⟩ : In 5 5 5) (In.full v7_1) cc11 (by omega) (by omega)
    refine lv_iload_n hx hb dX7_explore_8 rfl (lv_at hl 1 rfl) ?_
    refine lv_bipush (v := 6) hx hb dX7_explore_9 (by decide) ?_
    refine lv_icmp_lt (tgt := 22) hx hb dX7_explore_11 (by decide) (fun c13 => ?_) (fun c13 => ?_)
    ·
      refine lv_iload_n hx hb dX7_explore_22 rfl (lv_at hl 1 rfl) ?_
      refine lv_bipush (v := 9) hx hb dX7_explore_23 (by decide) ?_
      refine lv_ishl hx hb dX7_explore_25 ?_
      refine lv_topi (fun x14 ex14 => ?_)
      obtain rfl : x14 = 2560 := ex14.trans (by decide)
      refine lv_iload_n hx hb dX7_explore_26 rfl (lv_at hl 2 rfl) ?_
      refine lv_ior hx hb dX7_explore_27 ?_
      refine lv_topi (fun x15 ex15 => ?_)
      have hb16 : In x15 2560 3071 := ex15 ▸ In.orc 9 5 hz2 (by decide) (by decide) (by decide) (by decide)
      refine lv_istore (lv' := [(6, .int x15), (0, .ref (ad 18)), (1, .int 5), (2, .int z2), (3, .long z3), (5, .int z4)]) hx hb dX7_explore_28 hl (by decide) rfl (fun ls hl => ?_)
      refine lv_aload_n hx hb dX7_explore_30 rfl (lv_at hl 1 rfl) ?_
      refine pl_get (v := .ref (ad 23)) hx hb hts (fun w h => mT (inX7 w h)) hown hG.1 hP (hst.1 18 (by decide)) hf2 rfl 5 (by decide) (hts _ (mT wg_437)) (fun _ h => h) rfl dX7_explore_31 ?_
      refine lv_iload hx hb dX7_explore_34 (lv_at hl 0 rfl) ?_
      refine lv_bipush (v := 6) hx hb dX7_explore_36 (by decide) ?_
      refine lv_iushr hx hb dX7_explore_38 rfl ?_
      refine lv_topi (fun x17 ex17 => ?_)
      have hb18 : In x17 40 47 := ex17 ▸ In.ushr 6 hb16 (by decide) (by decide) (by decide) (by decide)
      obtain ⟨rw19, hf20⟩ := hT.1 23 (by decide)
      have hin21 : vp_in x17 48 := In.inb hb18 (by decide) (by decide)
      refine pl_lald hx hb hG.1 hP (hst.1 23 (by decide)) 1 hf20 rfl hin21 dX7_explore_39 ?_
      refine lv_topl (fun x22 ex22 => ?_)
      refine lv_iload hx hb dX7_explore_40 (lv_at hl 0 rfl) ?_
      refine lv_lushr hx hb dX7_explore_42 rfl ?_
      refine lv_topl (fun x23 ex23 => ?_)
      refine lv_lconst (v := 1) hx hb dX7_explore_43 (by decide) ?_
      refine lv_land hx hb dX7_explore_44 ?_
      refine lv_topl (fun x24 ex24 => ?_)
      refine lv_lconst (v := 1) hx hb dX7_explore_45 (by decide) ?_
      refine W.lcmp hx hb dX7_explore_46 ?_
      refine lv_topi (fun x25 ex25 => ?_)
      have hb26 : In x25 (-1) 1 := ex25 ▸ In.lcmp _ _
      refine lv_if_ne (tgt := 51) hx hb dX7_explore_47 (by decide) (fun c27 => ?_) (fun c27 => ?_)
      ·
        refine lv_aload_n hx hb dX7_explore_51 rfl (lv_at hl 1 rfl) ?_
        refine pl_get (v := .int v6_1) hx hb hts (fun w h => mT (inX7 w h)) hown hG.1 hP (hst.1 18 (by decide)) hf2 rfl 6 (by decide) (hts _ (mT wg_438)) (fun _ h => h) rfl dX7_explore_52 ?_
        refine lv_istore (lv' := [(7, .int v6_1), (6, .int x15), (0, .ref (ad 18)), (1, .int 5), (2, .int z2), (3, .long z3), (5, .int z4)]) hx hb dX7_explore_55 hl (by decide) rfl (fun ls hl => ?_)
        refine lv_aload_n hx hb dX7_explore_57 rfl (lv_at hl 2 rfl) ?_
        refine pl_get (v := .ref (ad 8)) hx hb hts (fun w h => mT (inX7 w h)) hown hG.1 hP (hst.1 18 (by decide)) hf2 rfl 0 (by decide) (hts _ (mT wg_432)) (fun _ h => h) rfl dX7_explore_58 ?_
        obtain ⟨v0_28, v1_28, v2_28, v3_28, v4_28, v5_28, v6_28, v7_28, hf29, hv0_28, hv1_28, hv2_28, hv3_28, hv5_28, hv6_28⟩ := hT.1 8 (by decide)
        refine pl_getN (v := .int v0_28) hx hb hts (fun w h => mT (inX2 w h)) hown hG.1 hP (hst.1 8 (by decide)) hf29 rfl 0 (by decide) (hG.2.1 _ wn_225) (fun _ h => h) rfl dX7_explore_61 ?_
        have hJ101 : ∀ (f_101 : HP) (H : Heap) (locs : List Loc) (ls : Array Slot), va_P g.1 vwCl (va_pl L f_101) H → va_D A (va_pl L f_101) → va_S A s.heap H locs → TI g ad th f_101 → (∀ b, b ≠ (ad 18) → b ≠ (ad 21) → b ≠ (ad 22) → b ≠ (ad 23) → f_101 b = f b) → f_101 (ad 23) = .inl (g.2.1 1, 48, .inr (.inl (rw19))) → f_101 (ad 8) = .inr (2, [.int v0_28, .int v1_28, .int v2_28, .int v3_28, .int v4_28, .int v5_28, .int v6_28, .int v7_28]) → lv_has ls 8 [(0, .ref (ad 18)), (1, .int 5), (2, .int z2), (3, .long z3), (5, .int z4), (6, .int x15), (7, .int v6_1)] → W p l e rm_X7_explore_5 s m [.ref (ad 18), .int 5, .int z2, .long z3, .int z4].toArray below meth c H locs 0 0 (MQ below (va_Qv (po_X7_explore_5 g ad th L f z2 z3 z4) (PstB g A) A) [.ref (ad 18), .int 5, .int z2, .long z3, .int z4].toArray s rm_X7_explore_5.cells rm_X7_explore_5.slots A) (F0 m 101 ls []) := by
          intro f_101 H locs ls hP hD hS hT hfr hf30 hf31 hl
          refine lv_aload_n hx hb dX7_explore_101 rfl (lv_at hl 0 rfl) ?_
          obtain ⟨v6_32, v7_32, v8_32, v9_32, v10_32, v11_32, v12_32, v13_32, hf33, hv8_32, hv9_32, hv10_32, hv11_32, hv13_32⟩ := hT.1 18 (by decide)
          refine pl_get (v := .int v6_32) hx hb hts (fun w h => mT (inX7 w h)) hown hG.1 hP (hst.1 18 (by decide)) hf33 rfl 6 (by decide) (hts _ (mT wg_438)) (fun _ h => h) rfl dX7_explore_102 ?_
          refine lv_iload hx hb dX7_explore_105 (lv_at hl 6 rfl) ?_
          refine lv_icmp_ne (tgt := 135) hx hb dX7_explore_107 (by decide) (fun c34 => ?_) (fun c34 => ?_)
          ·
            exact ret_v hx hb hr hlocks hP hD hS (Nat.le_of_ble_eq_true rfl) (Nat.le_of_ble_eq_true rfl) (⟨rfl, hT, hfr⟩) dX7_explore_135
          ·
            refine lv_aload_n hx hb dX7_explore_110 rfl (lv_at hl 0 rfl) ?_
            refine lv_iconst (v := 0) hx hb dX7_explore_111 (by decide) ?_
            refine call_i (run_V (rm := rm_X7_doesSuspicionCount) hx hb hml hown hts (s_X7_doesSuspicionCount l g ad th _ _ _ 0 hst hT (⟨by decide, by decide⟩ : In 0 0 6)) cV_X7_doesSuspicionCount wg_1094 ⟨Nat.le_of_ble_eq_true rfl, Nat.le_of_ble_eq_true rfl⟩ hG hE hA hP hD hS (hst.1 18 (by decide)) hf33 rfl rfl hl.1 (As := [.int 0]) (rest := []) rfl (Nat.le_of_ble_eq_true rfl) dX7_explore_112 ⟨Nat.le_of_ble_eq_true rfl, Nat.le_of_ble_eq_true rfl⟩) hA hD hS (fun r35 L36 f37 H locs hp38 hP hD hS => ?_)
            obtain ⟨eL39L, eL39T, eL39R⟩ := hp38
            have eL39L : L36 = L := eL39L
            have eL39T : f37 = f_101 := eL39T
            rw [eL39L, eL39T] at hP hD
            have eL39R : In r35 0 1 := eL39R
            refine lv_if_ne (tgt := 135) hx hb dX7_explore_115 (by decide) (fun c40 => ?_) (fun c40 => ?_)
            ·
              have cc41 : r35.toInt ≠ (0 : Int32).toInt := i32_ne c40
              have hb42 : In r35 1 1 := In.ne1 eL39R (⟨by decide, by decide⟩ : In 0 0 0) cc41 (by omega) (by omega)
              exact ret_v hx hb hr hlocks hP hD hS (Nat.le_of_ble_eq_true rfl) (Nat.le_of_ble_eq_true rfl) (⟨rfl, hT, hfr⟩) dX7_explore_135
            ·
              have cc43 : r35.toInt = (0 : Int32).toInt := congrArg Int32.toInt c40
              have hb44 : In r35 0 0 := In.eq1 eL39R (⟨by decide, by decide⟩ : In 0 0 0) cc43 (by omega) (by omega)
              refine lv_aload_n hx hb dX7_explore_118 rfl (lv_at hl 0 rfl) ?_
              refine pl_get (v := .ref (ad 23)) hx hb hts (fun w h => mT (inX7 w h)) hown hG.1 hP (hst.1 18 (by decide)) hf33 rfl 5 (by decide) (hts _ (mT wg_437)) (fun _ h => h) rfl dX7_explore_119 ?_
              refine lv_iload hx hb dX7_explore_122 (lv_at hl 5 rfl) ?_
              refine lv_bipush (v := 6) hx hb dX7_explore_124 (by decide) ?_
              refine lv_iushr hx hb dX7_explore_126 rfl ?_
              refine lv_topi (fun x45 ex45 => ?_)
              obtain rfl : x17 = x45 := ex17.trans ex45.symm
              refine lv_dup2_11 hx hb dX7_explore_127 rfl rfl ?_
              have hin46 : vp_in x17 48 := In.inb hb18 (by decide) (by decide)
              refine pl_lald hx hb hG.1 hP (hst.1 23 (by decide)) 1 hf30 rfl hin46 dX7_explore_128 ?_
              refine lv_topl (fun x47 ex47 => ?_)
              refine lv_lconst (v := 1) hx hb dX7_explore_129 (by decide) ?_
              refine lv_iload hx hb dX7_explore_130 (lv_at hl 5 rfl) ?_
              refine lv_lshl hx hb dX7_explore_132 rfl ?_
              refine lv_topl (fun x48 ex48 => ?_)
              refine lv_lor hx hb dX7_explore_133 ?_
              refine lv_topl (fun x49 ex49 => ?_)
              refine pl_lastE hx hb hG.1 hP hD hS (hst.1 23 (by decide)) 1 hf30 rfl (In.inb hb18 (by decide) (by decide)) dX7_explore_134 (fun H locs f50 r53 er53 hf51 ho52 hP hD hS => ?_)
              have hf54 := (ho52 (ad 8) (hst.ne (by decide) (by decide) (by decide))).trans hf31
              have hf55 := (ho52 (ad 18) (hst.ne (by decide) (by decide) (by decide))).trans hf33
              have hfr : (∀ b, b ≠ (ad 18) → b ≠ (ad 21) → b ≠ (ad 22) → b ≠ (ad 23) → f50 b = f b) := fun b z0_ z1_ z2_ z3_ => (ho52 b z3_).trans (hfr b z0_ z1_ z2_ z3_)
              have hT := TI.updA hT hst (k := 23) (by decide) hf51 ho52 ⟨r53, rfl⟩
              exact ret_v hx hb hr hlocks hP hD hS (Nat.le_of_ble_eq_true rfl) (Nat.le_of_ble_eq_true rfl) (⟨rfl, hT, hfr⟩) dX7_explore_135
        refine lv_if_ne (tgt := 79) hx hb dX7_explore_64 (by decide) (fun c56 => ?_) (fun c56 => ?_)
        ·
          have cc57 : v0_28.toInt ≠ (0 : Int32).toInt := i32_ne c56
          have hb58 : In v0_28 1 1 := In.ne1 hv0_28 (⟨by decide, by decide⟩ : In 0 0 0) cc57 (by omega) (by omega)
          refine lv_aload_n hx hb dX7_explore_79 rfl (lv_at hl 2 rfl) ?_
          refine lv_iload_n hx hb dX7_explore_80 rfl (lv_at hl 3 rfl) ?_
          refine lv_iload_n hx hb dX7_explore_81 rfl (lv_at hl 4 rfl) ?_
          refine lv_lload_n hx hb dX7_explore_82 rfl (lv_at hl 5 rfl) ?_
          refine lv_aload_n hx hb dX7_explore_83 rfl (lv_at hl 2 rfl) ?_
          refine pl_get (v := .int v9_1) hx hb hts (fun w h => mT (inX7 w h)) hown hG.1 hP (hst.1 18 (by decide)) hf2 rfl 9 (by decide) (hts _ (mT wg_441)) (fun _ h => h) rfl dX7_explore_84 ?_
          refine lv_iload_n hx hb dX7_explore_87 rfl (lv_at hl 4 rfl) ?_
          refine lv_iconst (v := (-1)) hx hb dX7_explore_88 (by decide) ?_
          refine lv_ixor hx hb dX7_explore_89 ?_
          refine lv_topi (fun x59 ex59 => ?_)
          refine lv_iand hx hb dX7_explore_90 ?_
          refine lv_topi (fun x60 ex60 => ?_)
          have hb61 : In x60 0 511 := ex60 ▸ In.andl hv9_1 (by decide)
          refine lv_iload_n hx hb dX7_explore_91 rfl (lv_at hl 4 rfl) ?_
          refine lv_bipush (v := 9) hx hb dX7_explore_92 (by decide) ?_
          refine lv_ishl hx hb dX7_explore_94 ?_
          refine lv_topi (fun x62 ex62 => ?_)
          have hb63 : In x62 0 261632 := ex62 ▸ In.shl hz2 (⟨by decide, by decide⟩ : In 9 9 9) (by decide) (by decide) (by decide) (by decide) (by decide) (by decide)
          refine lv_ior hx hb dX7_explore_95 ?_
          refine lv_topi (fun x64 ex64 => ?_)
          have hb65 : In x64 0 262143 := ex64 ▸ In.or 18 hb61 hb63 (by decide) (by decide) (by decide) (by decide) (by decide)
          refine lv_iload hx hb dX7_explore_96 (lv_at hl 6 rfl) ?_
          refine call_v (run_V (rm := rm_X7_tryViews_5) hx hb hml hown hts (s_X7_tryViews_5 l g ad th _ _ _ z2 z3 x64 z4 hst hT hz2) cV_X7_tryViews wg_1081 ⟨Nat.le_of_ble_eq_true rfl, Nat.le_of_ble_eq_true rfl⟩ hG hE hA hP hD hS (hst.1 18 (by decide)) hf2 rfl rfl hl.1 (As := [.int 5, .int z2, .long z3, .int x64, .int z4]) (rest := []) rfl (Nat.le_of_ble_eq_true rfl) dX7_explore_98 ⟨Nat.le_of_ble_eq_true rfl, Nat.le_of_ble_eq_true rfl⟩) hA hD hS (fun L67 f68 H locs hp69 hP hD hS => ?_)
          obtain ⟨eL70L, eL70T, eL70F⟩ := hp69
          have eL70L : L67 = L := eL70L
          rw [eL70L] at hP hD
          have hT : TI g ad th f68 := eL70T
          have eL70F : ∀ b, b ≠ (ad 18) → b ≠ (ad 21) → b ≠ (ad 22) → f68 b = f b := eL70F
          have hf71 := (eL70F (ad 23) (hst.ne (by decide) (by decide) (by decide)) (hst.ne (by decide) (by decide) (by decide)) (hst.ne (by decide) (by decide) (by decide))).trans hf20
          have hf72 := (eL70F (ad 8) (hst.ne (by decide) (by decide) (by decide)) (hst.ne (by decide) (by decide) (by decide)) (hst.ne (by decide) (by decide) (by decide))).trans hf29
          have hfr : (∀ b, b ≠ (ad 18) → b ≠ (ad 21) → b ≠ (ad 22) → b ≠ (ad 23) → f68 b = f b) := fun b z0_ z1_ z2_ z3_ => (eL70F b z0_ z1_ z2_).trans (hfr b z0_ z1_ z2_ z3_)
          exact hJ101 _ _ _ _ hP hD hS hT hfr hf71 hf72 (lv_sub hl [2, 3, 4, 5, 6, 1, 0] rfl)
        ·
          have cc73 : v0_28.toInt = (0 : Int32).toInt := congrArg Int32.toInt c56
          have hb74 : In v0_28 0 0 := In.eq1 hv0_28 (⟨by decide, by decide⟩ : In 0 0 0) cc73 (by omega) (by omega)
          refine lv_aload_n hx hb dX7_explore_67 rfl (lv_at hl 2 rfl) ?_
          refine lv_iload_n hx hb dX7_explore_68 rfl (lv_at hl 3 rfl) ?_
          refine lv_iload_n hx hb dX7_explore_69 rfl (lv_at hl 4 rfl) ?_
          refine lv_lload_n hx hb dX7_explore_70 rfl (lv_at hl 5 rfl) ?_
          refine lv_iload hx hb dX7_explore_71 (lv_at hl 6 rfl) ?_
          refine call_v (run_V (rm := rm_X7_tryOffers_5) hx hb hml hown hts (s_X7_tryOffers_5 l g ad th _ _ _ z2 z3 z4 hst hT hz2) cV_X7_tryOffers wg_1057 ⟨Nat.le_of_ble_eq_true rfl, Nat.le_of_ble_eq_true rfl⟩ hG hE hA hP hD hS (hst.1 18 (by decide)) hf2 rfl rfl hl.1 (As := [.int 5, .int z2, .long z3, .int z4]) (rest := []) rfl (Nat.le_of_ble_eq_true rfl) dX7_explore_73 ⟨Nat.le_of_ble_eq_true rfl, Nat.le_of_ble_eq_true rfl⟩) hA hD hS (fun L76 f77 H locs hp78 hP hD hS => ?_)
          obtain ⟨eL79L, eL79T, eL79F⟩ := hp78
          have eL79L : L76 = L := eL79L
          rw [eL79L] at hP hD
          have hT : TI g ad th f77 := eL79T
          have eL79F : ∀ b, b ≠ (ad 18) → b ≠ (ad 21) → b ≠ (ad 22) → f77 b = f b := eL79F
          have hf80 := (eL79F (ad 23) (hst.ne (by decide) (by decide) (by decide)) (hst.ne (by decide) (by decide) (by decide)) (hst.ne (by decide) (by decide) (by decide))).trans hf20
          have hf81 := (eL79F (ad 8) (hst.ne (by decide) (by decide) (by decide)) (hst.ne (by decide) (by decide) (by decide)) (hst.ne (by decide) (by decide) (by decide))).trans hf29
          have hfr : (∀ b, b ≠ (ad 18) → b ≠ (ad 21) → b ≠ (ad 22) → b ≠ (ad 23) → f77 b = f b) := fun b z0_ z1_ z2_ z3_ => (eL79F b z0_ z1_ z2_).trans (hfr b z0_ z1_ z2_ z3_)
          refine lv_goto (tgt := 101) hx hb dX7_explore_76 (by decide) ?_
          exact hJ101 _ _ _ _ hP hD hS hT hfr hf80 hf81 (lv_sub hl [2, 3, 4, 5, 6, 1, 0] rfl)
      ·
        have cc82 : x25.toInt = (0 : Int32).toInt := congrArg Int32.toInt c27
        have hb83 : In x25 0 0 := In.eq1 hb26 (⟨by decide, by decide⟩ : In 0 0 0) cc82 (by omega) (by omega)
        exact ret_v hx hb hr hlocks hP hD hS (Nat.le_of_ble_eq_true rfl) (Nat.le_of_ble_eq_true rfl) (⟨rfl, hT, hfr⟩) dX7_explore_50
    ·
      have cc84 : (6 : Int32).toInt ≤ (5 : Int32).toInt := i32_nlt c13
      exact In.empty (lo := 6) (hi := 5) (In.ge1 (⟨by decide, by decide⟩ : In 5 5 5) (⟨by decide, by decide⟩ : In 6 6 6) cc84 (by omega) (by omega)) (by decide)

abbrev rm_X7_tryRuler_4 : Room := { frames := 6, cells := 0, slots := 0, locals := 190 }
abbrev po_X7_tryRuler_4 (g : GG) (ad : Nat → Nat) (th : Nat → Int) (L : List Nat) (f : HP) (z2 : Int32) (z3 : Int32) (z4 : Int64) (z5 : Int32) : (List Nat × HP) → Prop := fun u => u.1 = L ∧ TI g ad th u.2 ∧ (∀ b, b ≠ (ad 18) → b ≠ (ad 21) → b ≠ (ad 22) → b ≠ (ad 23) → u.2 b = f b)
set_option maxHeartbeats 4000000 in
set_option maxRecDepth 100000 in
theorem s_X7_tryRuler_4 (l : Launch) (g : GG) (ad : Nat → Nat) (th : Nat → Int) (L : List Nat) (f : HP) (sz : Nat) (z2 : Int32) (z3 : Int32) (z4 : Int64) (z5 : Int32) (hst : ST ad L) (hT : TI g ad th f) (hz2 : In z2 0 511) : MtV l g yX7_tryRuler cX7_tryRuler 21 rm_X7_tryRuler_4 [.ref (ad 18), .int 4, .int z2, .int z3, .long z4, .int z5] L f sz (po_X7_tryRuler_4 g ad th L f z2 z3 z4 z5) := by
  refine MtV.of (by decide +kernel) (Nat.le_of_ble_eq_true rfl) ?_
  intro p e s m below meth c A hEn hP hD hS ls hl
  obtain ⟨hx, hb, hr, hml, hown, hlocks, hts, hG, hA, hE, hnm⟩ := hEn
  have hown : s.vm.findClass "RulerWord$Search" = some m.cls := hown
  have hl : lv_has ls 21 [(0, .ref (ad 18)), (1, .int 4), (2, .int z2), (3, .int z3), (4, .long z4), (6, .int z5)] := hl
  have hfr : (∀ b, b ≠ (ad 18) → b ≠ (ad 21) → b ≠ (ad 22) → b ≠ (ad 23) → f b = f b) := fun b z0_ z1_ z2_ z3_ => rfl
  refine lv_aload_n hx hb dX7_tryRuler_0 rfl (lv_at hl 0 rfl) ?_
  obtain ⟨v6_1, v7_1, v8_1, v9_1, v10_1, v11_1, v12_1, v13_1, hf2, hv8_1, hv9_1, hv10_1, hv11_1, hv13_1⟩ := hT.1 18 (by decide)
  refine pl_get (v := .ref (ad 8)) hx hb hts (fun w h => mT (inX7 w h)) hown hG.1 hP (hst.1 18 (by decide)) hf2 rfl 0 (by decide) (hts _ (mT wg_432)) (fun _ h => h) rfl dX7_tryRuler_1 ?_
  refine lv_iload_n hx hb dX7_tryRuler_4 rfl (lv_at hl 1 rfl) ?_
  obtain ⟨v0_3, v1_3, v2_3, v3_3, v4_3, v5_3, v6_3, v7_3, hf4, hv0_3, hv1_3, hv2_3, hv3_3, hv5_3, hv6_3⟩ := hT.1 8 (by decide)
  refine call_i (run_VN (rm := rm_X2_ruler_ru) hx hb hml hown hts (s_X2_ruler_ru l g ad th _ _ _ 4 hst hT (⟨by decide, by decide⟩ : In 4 0 6)) cV_X2_ruler wn_1093 ⟨Nat.le_of_ble_eq_true rfl, Nat.le_of_ble_eq_true rfl⟩ hG hE hA hP hD hS (hst.1 8 (by decide)) hf4 rfl rfl hl.1 (As := [.int 4]) (rest := []) rfl (Nat.le_of_ble_eq_true rfl) dX7_tryRuler_5 ⟨Nat.le_of_ble_eq_true rfl, Nat.le_of_ble_eq_true rfl⟩) hA hD hS (fun r5 L6 f7 H locs hp8 hP hD hS => ?_)
  obtain ⟨eL9L, eL9T, eL9R⟩ := hp8
  have eL9L : L6 = L := eL9L
  have eL9T : f7 = f := eL9T
  rw [eL9L, eL9T] at hP hD
  have eL9R : In r5 0 8 := eL9R
  refine lv_istore (lv' := [(7, .int r5), (0, .ref (ad 18)), (1, .int 4), (2, .int z2), (3, .int z3), (4, .long z4), (6, .int z5)]) hx hb dX7_tryRuler_8 hl (by decide) rfl (fun ls hl => ?_)
  refine lv_iload hx hb dX7_tryRuler_10 (lv_at hl 0 rfl) ?_
  refine lv_bipush (v := 9) hx hb dX7_tryRuler_12 (by decide) ?_
  refine lv_imul hx hb dX7_tryRuler_14 ?_
  refine lv_topi (fun x10 ex10 => ?_)
  have hb11 : In x10 0 72 := ex10 ▸ In.mul eL9R (⟨by decide, by decide⟩ : In 9 9 9) (by decide) (by decide) (by decide) (by decide) (by decide)
  refine lv_istore (lv' := [(8, .int x10), (7, .int r5), (0, .ref (ad 18)), (1, .int 4), (2, .int z2), (3, .int z3), (4, .long z4), (6, .int z5)]) hx hb dX7_tryRuler_15 hl (by decide) rfl (fun ls hl => ?_)
  refine lv_aload_n hx hb dX7_tryRuler_17 rfl (lv_at hl 2 rfl) ?_
  refine pl_get (v := .ref (ad 8)) hx hb hts (fun w h => mT (inX7 w h)) hown hG.1 hP (hst.1 18 (by decide)) hf2 rfl 0 (by decide) (hts _ (mT wg_432)) (fun _ h => h) rfl dX7_tryRuler_18 ?_
  refine pl_getN (v := .int v6_3) hx hb hts (fun w h => mT (inX2 w h)) hown hG.1 hP (hst.1 8 (by decide)) hf4 rfl 6 (by decide) (hG.2.1 _ wn_243) (fun _ h => h) rfl dX7_tryRuler_21 ?_
  have hJ41 : ∀ (y41_s0 : Int32) (H : Heap) (locs : List Loc) (ls : Array Slot), In y41_s0 0 511 → va_P g.1 vwCl (va_pl L f) H → va_D A (va_pl L f) → va_S A s.heap H locs → lv_has ls 21 [(0, .ref (ad 18)), (1, .int 4), (2, .int z2), (3, .int z3), (4, .long z4), (6, .int z5), (7, .int r5), (8, .int x10)] → W p l e rm_X7_tryRuler_4 s m [.ref (ad 18), .int 4, .int z2, .int z3, .long z4, .int z5].toArray below meth c H locs 0 0 (MQ below (va_Qv (po_X7_tryRuler_4 g ad th L f z2 z3 z4 z5) (PstB g A) A) [.ref (ad 18), .int 4, .int z2, .int z3, .long z4, .int z5].toArray s rm_X7_tryRuler_4.cells rm_X7_tryRuler_4.slots A) (F0 m 41 ls [.int y41_s0]) := by
    intro y41_s0 H locs ls hy41_s0 hP hD hS hl
    refine lv_istore (lv' := [(9, .int y41_s0), (0, .ref (ad 18)), (1, .int 4), (2, .int z2), (3, .int z3), (4, .long z4), (6, .int z5), (7, .int r5), (8, .int x10)]) hx hb dX7_tryRuler_41 hl (by decide) rfl (fun ls hl => ?_)
    refine lv_aload_n hx hb dX7_tryRuler_43 rfl (lv_at hl 1 rfl) ?_
    refine pl_get (v := .int v9_1) hx hb hts (fun w h => mT (inX7 w h)) hown hG.1 hP (hst.1 18 (by decide)) hf2 rfl 9 (by decide) (hts _ (mT wg_441)) (fun _ h => h) rfl dX7_tryRuler_44 ?_
    refine lv_iload_n hx hb dX7_tryRuler_47 rfl (lv_at hl 4 rfl) ?_
    refine lv_iconst (v := (-1)) hx hb dX7_tryRuler_48 (by decide) ?_
    refine lv_ixor hx hb dX7_tryRuler_49 ?_
    refine lv_topi (fun x12 ex12 => ?_)
    refine lv_iand hx hb dX7_tryRuler_50 ?_
    refine lv_topi (fun x13 ex13 => ?_)
    have hb14 : In x13 0 511 := ex13 ▸ In.andl hv9_1 (by decide)
    refine lv_iload hx hb dX7_tryRuler_51 (lv_at hl 0 rfl) ?_
    refine lv_iconst (v := (-1)) hx hb dX7_tryRuler_53 (by decide) ?_
    refine lv_ixor hx hb dX7_tryRuler_54 ?_
    refine lv_topi (fun x15 ex15 => ?_)
    refine lv_iand hx hb dX7_tryRuler_55 ?_
    refine lv_topi (fun x16 ex16 => ?_)
    have hb17 : In x16 0 511 := ex16 ▸ In.andl hb14 (by decide)
    refine lv_istore (lv' := [(10, .int x16), (9, .int y41_s0), (0, .ref (ad 18)), (1, .int 4), (2, .int z2), (3, .int z3), (4, .long z4), (6, .int z5), (7, .int r5), (8, .int x10)]) hx hb dX7_tryRuler_56 hl (by decide) rfl (fun ls hl => ?_)
    refine lv_iload hx hb dX7_tryRuler_58 (lv_at hl 0 rfl) ?_
    refine lv_aload_n hx hb dX7_tryRuler_60 rfl (lv_at hl 2 rfl) ?_
    refine lv_iload_n hx hb dX7_tryRuler_61 rfl (lv_at hl 3 rfl) ?_
    refine call_i (run_V (rm := rm_X7_doesSuspicionCount) hx hb hml hown hts (s_X7_doesSuspicionCount l g ad th _ _ _ 4 hst hT (⟨by decide, by decide⟩ : In 4 0 6)) cV_X7_doesSuspicionCount wg_1094 ⟨Nat.le_of_ble_eq_true rfl, Nat.le_of_ble_eq_true rfl⟩ hG hE hA hP hD hS (hst.1 18 (by decide)) hf2 rfl rfl hl.1 (As := [.int 4]) (rest := [.int x16]) rfl (Nat.le_of_ble_eq_true rfl) dX7_tryRuler_62 ⟨Nat.le_of_ble_eq_true rfl, Nat.le_of_ble_eq_true rfl⟩) hA hD hS (fun r18 L19 f20 H locs hp21 hP hD hS => ?_)
    obtain ⟨eL22L, eL22T, eL22R⟩ := hp21
    have eL22L : L19 = L := eL22L
    have eL22T : f20 = f := eL22T
    rw [eL22L, eL22T] at hP hD
    have eL22R : In r18 0 1 := eL22R
    have hJ73 : ∀ (y73_s0 : Int32) (H : Heap) (locs : List Loc) (ls : Array Slot), In y73_s0 (-2147483648) 2147483647 → va_P g.1 vwCl (va_pl L f) H → va_D A (va_pl L f) → va_S A s.heap H locs → lv_has ls 21 [(0, .ref (ad 18)), (1, .int 4), (2, .int z2), (3, .int z3), (4, .long z4), (6, .int z5), (7, .int r5), (8, .int x10), (9, .int y41_s0), (10, .int x16)] → W p l e rm_X7_tryRuler_4 s m [.ref (ad 18), .int 4, .int z2, .int z3, .long z4, .int z5].toArray below meth c H locs 0 0 (MQ below (va_Qv (po_X7_tryRuler_4 g ad th L f z2 z3 z4 z5) (PstB g A) A) [.ref (ad 18), .int 4, .int z2, .int z3, .long z4, .int z5].toArray s rm_X7_tryRuler_4.cells rm_X7_tryRuler_4.slots A) (F0 m 73 ls [.int y73_s0, .int x16]) := by
      intro y73_s0 H locs ls hy73_s0 hP hD hS hl
      refine lv_ior hx hb dX7_tryRuler_73 ?_
      refine lv_topi (fun x23 ex23 => ?_)
      refine lv_istore (lv' := [(11, .int x23), (0, .ref (ad 18)), (1, .int 4), (2, .int z2), (3, .int z3), (4, .long z4), (6, .int z5), (7, .int r5), (8, .int x10), (9, .int y41_s0), (10, .int x16)]) hx hb dX7_tryRuler_74 hl (by decide) rfl (fun ls hl => ?_)
      refine lv_iload_n hx hb dX7_tryRuler_76 rfl (lv_at hl 3 rfl) ?_
      refine lv_iload hx hb dX7_tryRuler_77 (lv_at hl 7 rfl) ?_
      refine call_i (run_SN (rm := rm_X10_bit) hx hb hml hown hts (s_X10_bit l g ad th _ _ _ z2 r5 hst hT ) cS_X10_bit wn_1043 ⟨Nat.le_of_ble_eq_true rfl, Nat.le_of_ble_eq_true rfl⟩ hG hE hA hP hD hS rfl hl.1 (As := [.int z2, .int r5]) (rest := []) rfl (Nat.le_of_ble_eq_true rfl) dX7_tryRuler_79 ⟨Nat.le_of_ble_eq_true rfl, Nat.le_of_ble_eq_true rfl⟩) hA hD hS (fun r24 L25 f26 H locs hp27 hP hD hS => ?_)
      obtain ⟨eL28L, eL28T, eL28R, eL28X0⟩ := hp27
      have eL28L : L25 = L := eL28L
      have eL28T : f26 = f := eL28T
      rw [eL28L, eL28T] at hP hD
      have eL28R : In r24 0 1 := eL28R
      refine lv_iconst (v := 1) hx hb dX7_tryRuler_82 (by decide) ?_
      have hJ94 : ∀ (y94_s0 : Int32) (H : Heap) (locs : List Loc) (ls : Array Slot), In y94_s0 0 511 → va_P g.1 vwCl (va_pl L f) H → va_D A (va_pl L f) → va_S A s.heap H locs → lv_has ls 21 [(0, .ref (ad 18)), (1, .int 4), (2, .int z2), (3, .int z3), (4, .long z4), (6, .int z5), (7, .int r5), (8, .int x10), (9, .int y41_s0), (10, .int x16), (11, .int x23)] → W p l e rm_X7_tryRuler_4 s m [.ref (ad 18), .int 4, .int z2, .int z3, .long z4, .int z5].toArray below meth c H locs 0 0 (MQ below (va_Qv (po_X7_tryRuler_4 g ad th L f z2 z3 z4 z5) (PstB g A) A) [.ref (ad 18), .int 4, .int z2, .int z3, .long z4, .int z5].toArray s rm_X7_tryRuler_4.cells rm_X7_tryRuler_4.slots A) (F0 m 94 ls [.int y94_s0]) := by
        intro y94_s0 H locs ls hy94_s0 hP hD hS hl
        refine lv_istore (lv' := [(12, .int y94_s0), (0, .ref (ad 18)), (1, .int 4), (2, .int z2), (3, .int z3), (4, .long z4), (6, .int z5), (7, .int r5), (8, .int x10), (9, .int y41_s0), (10, .int x16), (11, .int x23)]) hx hb dX7_tryRuler_94 hl (by decide) rfl (fun ls hl => ?_)
        refine lv_aload_n hx hb dX7_tryRuler_96 rfl (lv_at hl 1 rfl) ?_
        refine pl_get (v := .ref (ad 20)) hx hb hts (fun w h => mT (inX7 w h)) hown hG.1 hP (hst.1 18 (by decide)) hf2 rfl 2 (by decide) (hts _ (mT wg_434)) (fun _ h => h) rfl dX7_tryRuler_97 ?_
        refine lv_iload_n hx hb dX7_tryRuler_100 rfl (lv_at hl 2 rfl) ?_
        refine lv_iconst (v := 1) hx hb dX7_tryRuler_101 (by decide) ?_
        refine lv_iadd hx hb dX7_tryRuler_102 ?_
        refine lv_topi (fun x29 ex29 => ?_)
        obtain rfl : x29 = 5 := ex29.trans (by decide)
        obtain ⟨rw30, hf31⟩ := hT.1 20 (by decide)
        have hin32 : vp_in 5 7 := In.inb (⟨by decide, by decide⟩ : In 5 5 5) (by decide) (by decide)
        refine pl_iald hx hb hG.1 hP (hst.1 20 (by decide)) 0 hf31 rfl hin32 dX7_tryRuler_103 ?_
        refine lv_topi (fun x33 ex33 => ?_)
        refine lv_aload_n hx hb dX7_tryRuler_104 rfl (lv_at hl 1 rfl) ?_
        refine pl_get (v := .int v10_1) hx hb hts (fun w h => mT (inX7 w h)) hown hG.1 hP (hst.1 18 (by decide)) hf2 rfl 10 (by decide) (hts _ (mT wg_442)) (fun _ h => h) rfl dX7_tryRuler_105 ?_
        refine lv_isub hx hb dX7_tryRuler_108 ?_
        refine lv_topi (fun x34 ex34 => ?_)
        refine lv_istore (lv' := [(13, .int x34), (12, .int y94_s0), (0, .ref (ad 18)), (1, .int 4), (2, .int z2), (3, .int z3), (4, .long z4), (6, .int z5), (7, .int r5), (8, .int x10), (9, .int y41_s0), (10, .int x16), (11, .int x23)]) hx hb dX7_tryRuler_109 hl (by decide) rfl (fun ls hl => ?_)
        refine lv_aload_n hx hb dX7_tryRuler_111 rfl (lv_at hl 2 rfl) ?_
        refine pl_get (v := .int v8_1) hx hb hts (fun w h => mT (inX7 w h)) hown hG.1 hP (hst.1 18 (by decide)) hf2 rfl 8 (by decide) (hts _ (mT wg_440)) (fun _ h => h) rfl dX7_tryRuler_112 ?_
        refine lv_iload hx hb dX7_tryRuler_115 (lv_at hl 8 rfl) ?_
        refine call_i (run_SN (rm := rm_X10_bit) hx hb hml hown hts (s_X10_bit l g ad th _ _ _ v8_1 r5 hst hT ) cS_X10_bit wn_1043 ⟨Nat.le_of_ble_eq_true rfl, Nat.le_of_ble_eq_true rfl⟩ hG hE hA hP hD hS rfl hl.1 (As := [.int v8_1, .int r5]) (rest := []) rfl (Nat.le_of_ble_eq_true rfl) dX7_tryRuler_117 ⟨Nat.le_of_ble_eq_true rfl, Nat.le_of_ble_eq_true rfl⟩) hA hD hS (fun r35 L36 f37 H locs hp38 hP hD hS => ?_)
        obtain ⟨eL39L, eL39T, eL39R, eL39X0⟩ := hp38
        have eL39L : L36 = L := eL39L
        have eL39T : f37 = f := eL39T
        rw [eL39L, eL39T] at hP hD
        have eL39R : In r35 0 1 := eL39R
        refine lv_iconst (v := 1) hx hb dX7_tryRuler_120 (by decide) ?_
        have hJ134 : ∀ (y134_s0 : Int32) (H : Heap) (locs : List Loc) (ls : Array Slot), In y134_s0 1 512 → va_P g.1 vwCl (va_pl L f) H → va_D A (va_pl L f) → va_S A s.heap H locs → lv_has ls 21 [(0, .ref (ad 18)), (1, .int 4), (2, .int z2), (3, .int z3), (4, .long z4), (6, .int z5), (7, .int r5), (8, .int x10), (9, .int y41_s0), (10, .int x16), (11, .int x23), (12, .int y94_s0), (13, .int x34)] → W p l e rm_X7_tryRuler_4 s m [.ref (ad 18), .int 4, .int z2, .int z3, .long z4, .int z5].toArray below meth c H locs 0 0 (MQ below (va_Qv (po_X7_tryRuler_4 g ad th L f z2 z3 z4 z5) (PstB g A) A) [.ref (ad 18), .int 4, .int z2, .int z3, .long z4, .int z5].toArray s rm_X7_tryRuler_4.cells rm_X7_tryRuler_4.slots A) (F0 m 134 ls [.int y134_s0]) := by
          intro y134_s0 H locs ls hy134_s0 hP hD hS hl
          refine lv_istore (lv' := [(14, .int y134_s0), (0, .ref (ad 18)), (1, .int 4), (2, .int z2), (3, .int z3), (4, .long z4), (6, .int z5), (7, .int r5), (8, .int x10), (9, .int y41_s0), (10, .int x16), (11, .int x23), (12, .int y94_s0), (13, .int x34)]) hx hb dX7_tryRuler_134 hl (by decide) rfl (fun ls hl => ?_)
          refine lv_iconst (v := 0) hx hb dX7_tryRuler_136 (by decide) ?_
          refine lv_istore (lv' := [(15, .int 0), (14, .int y134_s0), (0, .ref (ad 18)), (1, .int 4), (2, .int z2), (3, .int z3), (4, .long z4), (6, .int z5), (7, .int r5), (8, .int x10), (9, .int y41_s0), (10, .int x16), (11, .int x23), (12, .int y94_s0), (13, .int x34)]) hx hb dX7_tryRuler_137 hl (by decide) rfl (fun ls hl => ?_)
          have hJ139 : ∀ (k139 : Nat) (y139_l15 : Int32) (f_139 : HP) (H : Heap) (locs : List Loc) (ls : Array Slot), In y139_l15 0 2147483647 → va_P g.1 vwCl (va_pl L f_139) H → va_D A (va_pl L f_139) → va_S A s.heap H locs → TI g ad th f_139 → (∀ b, b ≠ (ad 18) → b ≠ (ad 21) → b ≠ (ad 22) → b ≠ (ad 23) → f_139 b = f b) → f_139 (ad 20) = .inl (g.2.1 0, 7, .inl (rw30)) → f_139 (ad 8) = .inr (2, [.int v0_3, .int v1_3, .int v2_3, .int v3_3, .int v4_3, .int v5_3, .int v6_3, .int v7_3]) → lv_has ls 21 [(0, .ref (ad 18)), (1, .int 4), (2, .int z2), (3, .int z3), (4, .long z4), (6, .int z5), (7, .int r5), (8, .int x10), (9, .int y41_s0), (10, .int x16), (11, .int x23), (12, .int y94_s0), (13, .int x34), (14, .int y134_s0), (15, .int y139_l15)] → 2147483647 - y139_l15.toInt < ((k139 : Nat) : Int) → W p l e rm_X7_tryRuler_4 s m [.ref (ad 18), .int 4, .int z2, .int z3, .long z4, .int z5].toArray below meth c H locs 0 0 (MQ below (va_Qv (po_X7_tryRuler_4 g ad th L f z2 z3 z4 z5) (PstB g A) A) [.ref (ad 18), .int 4, .int z2, .int z3, .long z4, .int z5].toArray s rm_X7_tryRuler_4.cells rm_X7_tryRuler_4.slots A) (F0 m 139 ls []) := by
            intro k139
            induction k139 with
            | zero =>
              intro y139_l15 f_139 H locs ls hy139_l15 hP hD hS hT hfr hf40 hf41 hl hmz139
              exact ms0 hy139_l15 hmz139
            | succ k139 ih139 =>
              intro y139_l15 f_139 H locs ls hy139_l15 hP hD hS hT hfr hf40 hf41 hl hmz139
              refine lv_iload hx hb dX7_tryRuler_139 (lv_at hl 14 rfl) ?_
              refine lv_iload hx hb dX7_tryRuler_141 (lv_at hl 13 rfl) ?_
              refine lv_icmp_ge (tgt := 232) hx hb dX7_tryRuler_143 (by decide) (fun c42 => ?_) (fun c42 => ?_)
              ·
                have cc43 : y134_s0.toInt ≤ y139_l15.toInt := i32_le.mp c42
                have hb44 : In y139_l15 1 2147483647 := In.ge1 hy139_l15 hy134_s0 cc43 (by omega) (by omega)
                exact ret_v hx hb hr hlocks hP hD hS (Nat.le_of_ble_eq_true rfl) (Nat.le_of_ble_eq_true rfl) (⟨rfl, hT, hfr⟩) dX7_tryRuler_232
              ·
                have cc45 : y139_l15.toInt < y134_s0.toInt := i32_nle c42
                have hb46 : In y139_l15 0 511 := In.lt1 hy139_l15 hy134_s0 cc45 (by omega) (by omega)
                refine lv_aload_n hx hb dX7_tryRuler_146 rfl (lv_at hl 0 rfl) ?_
                obtain ⟨v6_47, v7_47, v8_47, v9_47, v10_47, v11_47, v12_47, v13_47, hf48, hv8_47, hv9_47, hv10_47, hv11_47, hv13_47⟩ := hT.1 18 (by decide)
                refine call_i (run_V (rm := rm_X7_isEnough) hx hb hml hown hts (s_X7_isEnough l g ad th _ _ _  hst hT ) cV_X7_isEnough wg_1070 ⟨Nat.le_of_ble_eq_true rfl, Nat.le_of_ble_eq_true rfl⟩ hG hE hA hP hD hS (hst.1 18 (by decide)) hf48 rfl rfl hl.1 (As := []) (rest := []) rfl (Nat.le_of_ble_eq_true rfl) dX7_tryRuler_147 ⟨Nat.le_of_ble_eq_true rfl, Nat.le_of_ble_eq_true rfl⟩) hA hD hS (fun r49 L50 f51 H locs hp52 hP hD hS => ?_)
                obtain ⟨eL53L, eL53T, eL53R⟩ := hp52
                have eL53L : L50 = L := eL53L
                have eL53T : f51 = f_139 := eL53T
                rw [eL53L, eL53T] at hP hD
                have eL53R : In r49 0 1 := eL53R
                refine lv_if_ne (tgt := 232) hx hb dX7_tryRuler_150 (by decide) (fun c54 => ?_) (fun c54 => ?_)
                ·
                  have oc0 : (0 : Int32).toInt = 0 := by decide
                  have cc55 : r49.toInt ≠ (0 : Int32).toInt := i32_ne c54
                  have hb56 : In r49 1 1 := In.ne1 eL53R (⟨by decide, by decide⟩ : In 0 0 0) cc55 (by omega) (by omega)
                  exact ret_v hx hb hr hlocks hP hD hS (Nat.le_of_ble_eq_true rfl) (Nat.le_of_ble_eq_true rfl) (⟨rfl, hT, hfr⟩) dX7_tryRuler_232
                ·
                  have oc0 : (0 : Int32).toInt = 0 := by decide
                  have cc57 : r49.toInt = (0 : Int32).toInt := congrArg Int32.toInt c54
                  have hb58 : In r49 0 0 := In.eq1 eL53R (⟨by decide, by decide⟩ : In 0 0 0) cc57 (by omega) (by omega)
                  refine lv_aload_n hx hb dX7_tryRuler_153 rfl (lv_at hl 0 rfl) ?_
                  refine lv_iload hx hb dX7_tryRuler_154 (lv_at hl 14 rfl) ?_
                  refine call_i (run_V (rm := rm_X7_spread) hx hb hml hown hts (s_X7_spread l g ad th _ _ _ y139_l15 hst hT ) cV_X7_spread wg_1098 ⟨Nat.le_of_ble_eq_true rfl, Nat.le_of_ble_eq_true rfl⟩ hG hE hA hP hD hS (hst.1 18 (by decide)) hf48 rfl rfl hl.1 (As := [.int y139_l15]) (rest := []) rfl (Nat.le_of_ble_eq_true rfl) dX7_tryRuler_156 ⟨Nat.le_of_ble_eq_true rfl, Nat.le_of_ble_eq_true rfl⟩) hA hD hS (fun r59 L60 f61 H locs hp62 hP hD hS => ?_)
                  obtain ⟨eL63L, eL63T, eL63R⟩ := hp62
                  have eL63L : L60 = L := eL63L
                  have eL63T : f61 = f_139 := eL63T
                  rw [eL63L, eL63T] at hP hD
                  have eL63R : In r59 0 511 := eL63R
                  refine lv_istore (lv' := [(16, .int r59), (0, .ref (ad 18)), (1, .int 4), (2, .int z2), (3, .int z3), (4, .long z4), (6, .int z5), (7, .int r5), (8, .int x10), (9, .int y41_s0), (10, .int x16), (11, .int x23), (12, .int y94_s0), (13, .int x34), (14, .int y134_s0), (15, .int y139_l15)]) hx hb dX7_tryRuler_159 hl (by decide) rfl (fun ls hl => ?_)
                  refine lv_iload hx hb dX7_tryRuler_161 (lv_at hl 0 rfl) ?_
                  refine lv_iload hx hb dX7_tryRuler_163 (lv_at hl 11 rfl) ?_
                  refine lv_iconst (v := (-1)) hx hb dX7_tryRuler_165 (by decide) ?_
                  refine lv_ixor hx hb dX7_tryRuler_166 ?_
                  refine lv_topi (fun x64 ex64 => ?_)
                  refine lv_iand hx hb dX7_tryRuler_167 ?_
                  refine lv_topi (fun x65 ex65 => ?_)
                  have hb66 : In x65 0 511 := ex65 ▸ In.andl eL63R (by decide)
                  have hJ226 : ∀ (f_226 : HP) (H : Heap) (locs : List Loc) (ls : Array Slot), va_P g.1 vwCl (va_pl L f_226) H → va_D A (va_pl L f_226) → va_S A s.heap H locs → TI g ad th f_226 → (∀ b, b ≠ (ad 18) → b ≠ (ad 21) → b ≠ (ad 22) → b ≠ (ad 23) → f_226 b = f b) → f_226 (ad 20) = .inl (g.2.1 0, 7, .inl (rw30)) → f_226 (ad 8) = .inr (2, [.int v0_3, .int v1_3, .int v2_3, .int v3_3, .int v4_3, .int v5_3, .int v6_3, .int v7_3]) → lv_has ls 21 [(0, .ref (ad 18)), (1, .int 4), (2, .int z2), (3, .int z3), (4, .long z4), (6, .int z5), (7, .int r5), (8, .int x10), (9, .int y41_s0), (10, .int x16), (11, .int x23), (12, .int y94_s0), (13, .int x34), (14, .int y134_s0), (15, .int y139_l15), (16, .int r59)] → W p l e rm_X7_tryRuler_4 s m [.ref (ad 18), .int 4, .int z2, .int z3, .long z4, .int z5].toArray below meth c H locs 0 0 (MQ below (va_Qv (po_X7_tryRuler_4 g ad th L f z2 z3 z4 z5) (PstB g A) A) [.ref (ad 18), .int 4, .int z2, .int z3, .long z4, .int z5].toArray s rm_X7_tryRuler_4.cells rm_X7_tryRuler_4.slots A) (F0 m 226 ls []) := by
                    intro f_226 H locs ls hP hD hS hT hfr hf67 hf68 hl
                    obtain ⟨x69, ex69⟩ : ∃ y : Int32, y = y139_l15 + 1 := ⟨_, rfl⟩
                    have hb70 : In x69 1 512 := ex69 ▸ In.add hb46 (⟨by decide, by decide⟩ : In 1 1 1) (by decide) (by decide) (by decide) (by decide)
                    have et71 : x69.toInt = y139_l15.toInt + 1 := In.adde ex69 hb46 (k := 1) (by decide) (by decide) (by decide)
                    refine lv_iinc (v := x69) (lv' := [(15, .int x69), (0, .ref (ad 18)), (1, .int 4), (2, .int z2), (3, .int z3), (4, .long z4), (6, .int z5), (7, .int r5), (8, .int x10), (9, .int y41_s0), (10, .int x16), (11, .int x23), (12, .int y94_s0), (13, .int x34), (14, .int y134_s0), (16, .int r59)]) hx hb dX7_tryRuler_226 hl (k := 14) rfl (by rw [ex69]; rfl) (by decide) rfl (fun ls hl => ?_)
                    refine lv_goto (tgt := 139) hx hb dX7_tryRuler_229 (by decide) ?_
                    exact ih139 x69 _ _ _ _ (In.mono hb70 (by decide) (by decide)) hP hD hS hT hfr hf67 hf68 (lv_sub hl [1, 2, 3, 4, 5, 6, 7, 8, 9, 10, 11, 12, 13, 14, 0] rfl) (msu et71 (by decide) hmz139)
                  refine lv_if_ne (tgt := 226) hx hb dX7_tryRuler_168 (by decide) (fun c72 => ?_) (fun c72 => ?_)
                  ·
                    have oc0 : (0 : Int32).toInt = 0 := by decide
                    have cc73 : x65.toInt ≠ (0 : Int32).toInt := i32_ne c72
                    have hb74 : In x65 1 511 := In.ne1 hb66 (⟨by decide, by decide⟩ : In 0 0 0) cc73 (by omega) (by omega)
                    exact hJ226 _ _ _ _ hP hD hS hT hfr hf40 hf41 (lv_sub hl [1, 2, 3, 4, 5, 6, 7, 8, 9, 10, 11, 12, 13, 14, 15, 0] rfl)
                  ·
                    have oc0 : (0 : Int32).toInt = 0 := by decide
                    have cc75 : x65.toInt = (0 : Int32).toInt := congrArg Int32.toInt c72
                    have hb76 : In x65 0 0 := In.eq1 hb66 (⟨by decide, by decide⟩ : In 0 0 0) cc75 (by omega) (by omega)
                    refine lv_iload hx hb dX7_tryRuler_171 (lv_at hl 12 rfl) ?_
                    refine lv_iload hx hb dX7_tryRuler_173 (lv_at hl 0 rfl) ?_
                    refine lv_ior hx hb dX7_tryRuler_175 ?_
                    refine lv_topi (fun x77 ex77 => ?_)
                    have hb78 : In x77 0 511 := ex77 ▸ In.or 9 hy94_s0 eL63R (by decide) (by decide) (by decide) (by decide) (by decide)
                    refine lv_istore (lv' := [(17, .int x77), (16, .int r59), (0, .ref (ad 18)), (1, .int 4), (2, .int z2), (3, .int z3), (4, .long z4), (6, .int z5), (7, .int r5), (8, .int x10), (9, .int y41_s0), (10, .int x16), (11, .int x23), (12, .int y94_s0), (13, .int x34), (14, .int y134_s0), (15, .int y139_l15)]) hx hb dX7_tryRuler_176 hl (by decide) rfl (fun ls hl => ?_)
                    refine lv_iload_n hx hb dX7_tryRuler_178 rfl (lv_at hl 4 rfl) ?_
                    refine lv_iload hx hb dX7_tryRuler_179 (lv_at hl 11 rfl) ?_
                    refine lv_iconst (v := (-1)) hx hb dX7_tryRuler_181 (by decide) ?_
                    refine lv_ixor hx hb dX7_tryRuler_182 ?_
                    refine lv_topi (fun x79 ex79 => ?_)
                    refine lv_iand hx hb dX7_tryRuler_183 ?_
                    refine lv_topi (fun x80 ex80 => ?_)
                    have hb81 : In x80 0 511 := ex80 ▸ In.andl hz2 (by decide)
                    refine lv_iload hx hb dX7_tryRuler_184 (lv_at hl 0 rfl) ?_
                    refine lv_iload hx hb dX7_tryRuler_186 (lv_at hl 11 rfl) ?_
                    refine lv_iand hx hb dX7_tryRuler_188 ?_
                    refine lv_topi (fun x82 ex82 => ?_)
                    have hb83 : In x82 0 511 := ex82 ▸ In.andr hb17 (by decide)
                    refine lv_ior hx hb dX7_tryRuler_189 ?_
                    refine lv_topi (fun x84 ex84 => ?_)
                    have hb85 : In x84 0 511 := ex84 ▸ In.or 9 hb81 hb83 (by decide) (by decide) (by decide) (by decide) (by decide)
                    refine lv_istore (lv' := [(18, .int x84), (17, .int x77), (16, .int r59), (0, .ref (ad 18)), (1, .int 4), (2, .int z2), (3, .int z3), (4, .long z4), (6, .int z5), (7, .int r5), (8, .int x10), (9, .int y41_s0), (10, .int x16), (11, .int x23), (12, .int y94_s0), (13, .int x34), (14, .int y134_s0), (15, .int y139_l15)]) hx hb dX7_tryRuler_190 hl (by decide) rfl (fun ls hl => ?_)
                    refine lv_iload_n hx hb dX7_tryRuler_192 rfl (lv_at hl 6 rfl) ?_
                    refine lv_iload hx hb dX7_tryRuler_193 (lv_at hl 1 rfl) ?_
                    refine lv_iload_n hx hb dX7_tryRuler_195 rfl (lv_at hl 5 rfl) ?_
                    refine lv_ixor hx hb dX7_tryRuler_196 ?_
                    refine lv_topi (fun x86 ex86 => ?_)
                    have hb87 : In x86 0 511 := ex86 ▸ In.xor 9 hb78 hz2 (by decide) (by decide) (by decide) (by decide) (by decide)
                    refine lv_iand hx hb dX7_tryRuler_197 ?_
                    refine lv_topi (fun x88 ex88 => ?_)
                    have hb89 : In x88 0 511 := ex88 ▸ In.andr hb87 (by decide)
                    refine lv_i2l hx hb dX7_tryRuler_198 rfl ?_
                    refine lv_lstore (lv' := [(19, .long (x88.toInt64)), (18, .int x84), (17, .int x77), (16, .int r59), (0, .ref (ad 18)), (1, .int 4), (2, .int z2), (3, .int z3), (4, .long z4), (6, .int z5), (7, .int r5), (8, .int x10), (9, .int y41_s0), (10, .int x16), (11, .int x23), (12, .int y94_s0), (13, .int x34), (14, .int y134_s0), (15, .int y139_l15)]) hx hb dX7_tryRuler_199 hl (by decide) rfl (fun ls hl => ?_)
                    refine lv_aload_n hx hb dX7_tryRuler_201 rfl (lv_at hl 4 rfl) ?_
                    refine lv_iload_n hx hb dX7_tryRuler_202 rfl (lv_at hl 5 rfl) ?_
                    refine lv_iconst (v := 1) hx hb dX7_tryRuler_203 (by decide) ?_
                    refine lv_iadd hx hb dX7_tryRuler_204 ?_
                    refine lv_topi (fun x90 ex90 => ?_)
                    obtain rfl : x90 = 5 := ex90.trans (by decide)
                    refine lv_iload hx hb dX7_tryRuler_205 (lv_at hl 1 rfl) ?_
                    refine lv_lload hx hb dX7_tryRuler_207 (lv_at hl 8 rfl) ?_
                    refine lv_lload hx hb dX7_tryRuler_209 (lv_at hl 0 rfl) ?_
                    refine lv_iload hx hb dX7_tryRuler_211 (lv_at hl 11 rfl) ?_
                    refine lv_lshl hx hb dX7_tryRuler_213 rfl ?_
                    refine lv_topl (fun x91 ex91 => ?_)
                    refine lv_lor hx hb dX7_tryRuler_214 ?_
                    refine lv_topl (fun x92 ex92 => ?_)
                    refine lv_iload hx hb dX7_tryRuler_215 (lv_at hl 9 rfl) ?_
                    refine lv_iload hx hb dX7_tryRuler_217 (lv_at hl 18 rfl) ?_
                    refine lv_iload hx hb dX7_tryRuler_219 (lv_at hl 16 rfl) ?_
                    refine lv_ishl hx hb dX7_tryRuler_221 ?_
                    refine lv_topi (fun x93 ex93 => ?_)
                    refine lv_ior hx hb dX7_tryRuler_222 ?_
                    refine lv_topi (fun x94 ex94 => ?_)
                    refine call_v (run_V (rm := rm_X7_explore_5) hx hb hml hown hts (s_X7_explore_5 l g ad th _ _ _ x84 x92 x94 hst hT hb85) cV_X7_explore wg_1049 ⟨Nat.le_of_ble_eq_true rfl, Nat.le_of_ble_eq_true rfl⟩ hG hE hA hP hD hS (hst.1 18 (by decide)) hf48 rfl rfl hl.1 (As := [.int 5, .int x84, .long x92, .int x94]) (rest := []) rfl (Nat.le_of_ble_eq_true rfl) dX7_tryRuler_223 ⟨Nat.le_of_ble_eq_true rfl, Nat.le_of_ble_eq_true rfl⟩) hA hD hS (fun L96 f97 H locs hp98 hP hD hS => ?_)
                    obtain ⟨eL99L, eL99T, eL99F⟩ := hp98
                    have eL99L : L96 = L := eL99L
                    rw [eL99L] at hP hD
                    have hT : TI g ad th f97 := eL99T
                    have eL99F : ∀ b, b ≠ (ad 18) → b ≠ (ad 21) → b ≠ (ad 22) → b ≠ (ad 23) → f97 b = f_139 b := eL99F
                    have hf100 := (eL99F (ad 8) (hst.ne (by decide) (by decide) (by decide)) (hst.ne (by decide) (by decide) (by decide)) (hst.ne (by decide) (by decide) (by decide)) (hst.ne (by decide) (by decide) (by decide))).trans hf41
                    have hf101 := (eL99F (ad 20) (hst.ne (by decide) (by decide) (by decide)) (hst.ne (by decide) (by decide) (by decide)) (hst.ne (by decide) (by decide) (by decide)) (hst.ne (by decide) (by decide) (by decide))).trans hf40
                    have hfr : (∀ b, b ≠ (ad 18) → b ≠ (ad 21) → b ≠ (ad 22) → b ≠ (ad 23) → f97 b = f b) := fun b z0_ z1_ z2_ z3_ => (eL99F b z0_ z1_ z2_ z3_).trans (hfr b z0_ z1_ z2_ z3_)
                    exact hJ226 _ _ _ _ hP hD hS hT hfr hf101 hf100 (lv_sub hl [4, 5, 6, 7, 8, 9, 10, 11, 12, 13, 14, 15, 16, 17, 18, 3] rfl)
          exact hJ139 ((2147483647 - (0 : Int32).toInt).toNat + 1) 0 _ _ _ _ (⟨by decide, by decide⟩ : In 0 0 2147483647) hP hD hS hT hfr hf31 hf4 (lv_sub hl [2, 3, 4, 5, 6, 7, 8, 9, 10, 11, 12, 13, 14, 1, 0] rfl) (msI _)
        refine lv_icmp_ne (tgt := 133) hx hb dX7_tryRuler_121 (by decide) (fun c102 => ?_) (fun c102 => ?_)
        ·
          have oc1 : (1 : Int32).toInt = 1 := by decide
          have cc103 : r35.toInt ≠ (1 : Int32).toInt := i32_ne c102
          have hb104 : In r35 0 0 := In.ne1 eL39R (⟨by decide, by decide⟩ : In 1 1 1) cc103 (by omega) (by omega)
          refine lv_iconst (v := 1) hx hb dX7_tryRuler_133 (by decide) ?_
          exact hJ134 1 _ _ _ (⟨by decide, by decide⟩ : In 1 1 512) hP hD hS (lv_sub hl [2, 3, 4, 5, 6, 7, 8, 9, 10, 11, 12, 1, 0] rfl)
        ·
          have oc1 : (1 : Int32).toInt = 1 := by decide
          have cc105 : r35.toInt = (1 : Int32).toInt := congrArg Int32.toInt c102
          have hb106 : In r35 1 1 := In.eq1 eL39R (⟨by decide, by decide⟩ : In 1 1 1) cc105 (by omega) (by omega)
          refine lv_iconst (v := 1) hx hb dX7_tryRuler_124 (by decide) ?_
          refine lv_aload_n hx hb dX7_tryRuler_125 rfl (lv_at hl 2 rfl) ?_
          refine pl_get (v := .int v10_1) hx hb hts (fun w h => mT (inX7 w h)) hown hG.1 hP (hst.1 18 (by decide)) hf2 rfl 10 (by decide) (hts _ (mT wg_442)) (fun _ h => h) rfl dX7_tryRuler_126 ?_
          refine lv_ishl hx hb dX7_tryRuler_129 ?_
          refine lv_topi (fun x107 ex107 => ?_)
          have hb108 : In x107 1 512 := ex107 ▸ In.shl (⟨by decide, by decide⟩ : In 1 1 1) hv10_1 (by decide) (by decide) (by decide) (by decide) (by decide) (by decide)
          refine lv_goto (tgt := 134) hx hb dX7_tryRuler_130 (by decide) ?_
          exact hJ134 x107 _ _ _ hb108 hP hD hS (lv_sub hl [2, 3, 4, 5, 6, 7, 8, 9, 10, 11, 12, 1, 0] rfl)
      refine lv_icmp_ne (tgt := 93) hx hb dX7_tryRuler_83 (by decide) (fun c109 => ?_) (fun c109 => ?_)
      ·
        have oc1 : (1 : Int32).toInt = 1 := by decide
        have cc110 : r24.toInt ≠ (1 : Int32).toInt := i32_ne c109
        have hb111 : In r24 0 0 := In.ne1 eL28R (⟨by decide, by decide⟩ : In 1 1 1) cc110 (by omega) (by omega)
        refine lv_iconst (v := 0) hx hb dX7_tryRuler_93 (by decide) ?_
        exact hJ94 0 _ _ _ (⟨by decide, by decide⟩ : In 0 0 511) hP hD hS (lv_sub hl [1, 2, 3, 4, 5, 6, 7, 8, 9, 10, 0] rfl)
      ·
        have oc1 : (1 : Int32).toInt = 1 := by decide
        have cc112 : r24.toInt = (1 : Int32).toInt := congrArg Int32.toInt c109
        have hb113 : In r24 1 1 := In.eq1 eL28R (⟨by decide, by decide⟩ : In 1 1 1) cc112 (by omega) (by omega)
        refine lv_aload_n hx hb dX7_tryRuler_86 rfl (lv_at hl 1 rfl) ?_
        refine pl_get (v := .int v9_1) hx hb hts (fun w h => mT (inX7 w h)) hown hG.1 hP (hst.1 18 (by decide)) hf2 rfl 9 (by decide) (hts _ (mT wg_441)) (fun _ h => h) rfl dX7_tryRuler_87 ?_
        refine lv_goto (tgt := 94) hx hb dX7_tryRuler_90 (by decide) ?_
        exact hJ94 v9_1 _ _ _ hv9_1 hP hD hS (lv_sub hl [1, 2, 3, 4, 5, 6, 7, 8, 9, 10, 0] rfl)
    refine lv_if_eq (tgt := 72) hx hb dX7_tryRuler_65 (by decide) (fun c114 => ?_) (fun c114 => ?_)
    ·
      have oc0 : (0 : Int32).toInt = 0 := by decide
      have cc115 : r18.toInt = (0 : Int32).toInt := congrArg Int32.toInt c114
      have hb116 : In r18 0 0 := In.eq1 eL22R (⟨by decide, by decide⟩ : In 0 0 0) cc115 (by omega) (by omega)
      refine lv_iconst (v := 0) hx hb dX7_tryRuler_72 (by decide) ?_
      exact hJ73 0 _ _ _ (⟨by decide, by decide⟩ : In 0 (-2147483648) 2147483647) hP hD hS (lv_sub hl [2, 3, 4, 5, 6, 7, 8, 9, 1, 0] rfl)
    ·
      have oc0 : (0 : Int32).toInt = 0 := by decide
      have cc117 : r18.toInt ≠ (0 : Int32).toInt := i32_ne c114
      have hb118 : In r18 1 1 := In.ne1 eL22R (⟨by decide, by decide⟩ : In 0 0 0) cc117 (by omega) (by omega)
      refine lv_iload_n hx hb dX7_tryRuler_68 rfl (lv_at hl 5 rfl) ?_
      refine lv_goto (tgt := 73) hx hb dX7_tryRuler_69 (by decide) ?_
      exact hJ73 z3 _ _ _ (In.full z3) hP hD hS (lv_sub hl [2, 3, 4, 5, 6, 7, 8, 9, 1, 0] rfl)
  refine lv_if_eq (tgt := 40) hx hb dX7_tryRuler_24 (by decide) (fun c119 => ?_) (fun c119 => ?_)
  ·
    have oc0 : (0 : Int32).toInt = 0 := by decide
    have cc120 : v6_3.toInt = (0 : Int32).toInt := congrArg Int32.toInt c119
    have hb121 : In v6_3 0 0 := In.eq1 hv6_3 (⟨by decide, by decide⟩ : In 0 0 0) cc120 (by omega) (by omega)
    refine lv_iconst (v := 0) hx hb dX7_tryRuler_40 (by decide) ?_
    exact hJ41 0 _ _ _ (⟨by decide, by decide⟩ : In 0 0 511) hP hD hS (lv_sub hl [2, 3, 4, 5, 6, 7, 1, 0] rfl)
  ·
    have oc0 : (0 : Int32).toInt = 0 := by decide
    have cc122 : v6_3.toInt ≠ (0 : Int32).toInt := i32_ne c119
    have hb123 : In v6_3 1 1 := In.ne1 hv6_3 (⟨by decide, by decide⟩ : In 0 0 0) cc122 (by omega) (by omega)
    refine lv_lload hx hb dX7_tryRuler_27 (lv_at hl 6 rfl) ?_
    refine lv_iload hx hb dX7_tryRuler_29 (lv_at hl 0 rfl) ?_
    refine lv_lushr hx hb dX7_tryRuler_31 rfl ?_
    refine lv_topl (fun x124 ex124 => ?_)
    refine lv_l2i hx hb dX7_tryRuler_32 rfl ?_
    refine lv_topi (fun x125 ex125 => ?_)
    refine lv_sipush (v := 511) hx hb dX7_tryRuler_33 (by decide) ?_
    refine lv_iand hx hb dX7_tryRuler_36 ?_
    refine lv_topi (fun x126 ex126 => ?_)
    have hb127 : In x126 0 511 := ex126 ▸ In.andr (⟨by decide, by decide⟩ : In 511 511 511) (by decide)
    refine lv_goto (tgt := 41) hx hb dX7_tryRuler_37 (by decide) ?_
    exact hJ41 x126 _ _ _ hb127 hP hD hS (lv_sub hl [2, 3, 4, 5, 6, 7, 1, 0] rfl)

abbrev rm_X7_tryViews_4 : Room := { frames := 7, cells := 0, slots := 0, locals := 230 }
abbrev po_X7_tryViews_4 (g : GG) (ad : Nat → Nat) (th : Nat → Int) (L : List Nat) (f : HP) (z2 : Int32) (z3 : Int64) (z4 : Int32) (z5 : Int32) : (List Nat × HP) → Prop := fun u => u.1 = L ∧ TI g ad th u.2 ∧ (∀ b, b ≠ (ad 18) → b ≠ (ad 21) → b ≠ (ad 22) → b ≠ (ad 23) → u.2 b = f b)
set_option maxHeartbeats 4000000 in
set_option maxRecDepth 100000 in
theorem s_X7_tryViews_4 (l : Launch) (g : GG) (ad : Nat → Nat) (th : Nat → Int) (L : List Nat) (f : HP) (sz : Nat) (z2 : Int32) (z3 : Int64) (z4 : Int32) (z5 : Int32) (hst : ST ad L) (hT : TI g ad th f) (hz2 : In z2 0 511) : MtV l g yX7_tryViews cX7_tryViews 20 rm_X7_tryViews_4 [.ref (ad 18), .int 4, .int z2, .long z3, .int z4, .int z5] L f sz (po_X7_tryViews_4 g ad th L f z2 z3 z4 z5) := by
  refine MtV.of (by decide +kernel) (Nat.le_of_ble_eq_true rfl) ?_
  intro p e s m below meth c A hEn hP hD hS ls hl
  obtain ⟨hx, hb, hr, hml, hown, hlocks, hts, hG, hA, hE, hnm⟩ := hEn
  have hown : s.vm.findClass "RulerWord$Search" = some m.cls := hown
  have hl : lv_has ls 20 [(0, .ref (ad 18)), (1, .int 4), (2, .int z2), (3, .long z3), (5, .int z4), (6, .int z5)] := hl
  have hfr : (∀ b, b ≠ (ad 18) → b ≠ (ad 21) → b ≠ (ad 22) → b ≠ (ad 23) → f b = f b) := fun b z0_ z1_ z2_ z3_ => rfl
  refine lv_iload_n hx hb dX7_tryViews_0 rfl (lv_at hl 1 rfl) ?_
  refine lv_iconst (v := 2) hx hb dX7_tryViews_1 (by decide) ?_
  refine lv_imul hx hb dX7_tryViews_2 ?_
  refine lv_topi (fun x1 ex1 => ?_)
  obtain rfl : x1 = 8 := ex1.trans (by decide)
  refine lv_iconst (v := 1) hx hb dX7_tryViews_3 (by decide) ?_
  refine lv_iadd hx hb dX7_tryViews_4 ?_
  refine lv_topi (fun x2 ex2 => ?_)
  obtain rfl : x2 = 9 := ex2.trans (by decide)
  refine lv_bipush (v := 9) hx hb dX7_tryViews_5 (by decide) ?_
  refine lv_imul hx hb dX7_tryViews_7 ?_
  refine lv_topi (fun x3 ex3 => ?_)
  obtain rfl : x3 = 81 := ex3.trans (by decide)
  refine lv_istore (lv' := [(7, .int 81), (0, .ref (ad 18)), (1, .int 4), (2, .int z2), (3, .long z3), (5, .int z4), (6, .int z5)]) hx hb dX7_tryViews_8 hl (by decide) rfl (fun ls hl => ?_)
  refine lv_iload hx hb dX7_tryViews_10 (lv_at hl 5 rfl) ?_
  refine lv_sipush (v := 511) hx hb dX7_tryViews_12 (by decide) ?_
  refine lv_iand hx hb dX7_tryViews_15 ?_
  refine lv_topi (fun x4 ex4 => ?_)
  have hb5 : In x4 0 511 := ex4 ▸ In.andr (⟨by decide, by decide⟩ : In 511 511 511) (by decide)
  refine call_i (run_S (rm := rm_J6_bitCount_0f7a4) hx hb hml hown hts (s_J6_bitCount_0f7a4 l g ad th _ _ _ x4 hst hT ) cS_J6_bitCount_0f7a4 wg_1042 ⟨Nat.le_of_ble_eq_true rfl, Nat.le_of_ble_eq_true rfl⟩ hG hE hA hP hD hS rfl hl.1 (As := [.int x4]) (rest := []) rfl (Nat.le_of_ble_eq_true rfl) dX7_tryViews_16 ⟨Nat.le_of_ble_eq_true rfl, Nat.le_of_ble_eq_true rfl⟩) hA hD hS (fun r6 L7 f8 H locs hp9 hP hD hS => ?_)
  obtain ⟨eL10L, eL10T, eL10R, eL10X0⟩ := hp9
  have eL10L : L7 = L := eL10L
  have eL10T : f8 = f := eL10T
  rw [eL10L, eL10T] at hP hD
  have eL10R : In r6 0 63 := eL10R
  have hb11 : In r6 0 9 := bc9 hb5 eL10X0
  refine lv_istore (lv' := [(8, .int r6), (7, .int 81), (0, .ref (ad 18)), (1, .int 4), (2, .int z2), (3, .long z3), (5, .int z4), (6, .int z5)]) hx hb dX7_tryViews_19 hl (by decide) rfl (fun ls hl => ?_)
  refine lv_iload hx hb dX7_tryViews_21 (lv_at hl 6 rfl) ?_
  refine lv_bipush (v := 9) hx hb dX7_tryViews_23 (by decide) ?_
  refine lv_iushr hx hb dX7_tryViews_25 rfl ?_
  refine lv_topi (fun x12 ex12 => ?_)
  refine call_i (run_S (rm := rm_J6_bitCount_0f7a4) hx hb hml hown hts (s_J6_bitCount_0f7a4 l g ad th _ _ _ x12 hst hT ) cS_J6_bitCount_0f7a4 wg_1042 ⟨Nat.le_of_ble_eq_true rfl, Nat.le_of_ble_eq_true rfl⟩ hG hE hA hP hD hS rfl hl.1 (As := [.int x12]) (rest := []) rfl (Nat.le_of_ble_eq_true rfl) dX7_tryViews_26 ⟨Nat.le_of_ble_eq_true rfl, Nat.le_of_ble_eq_true rfl⟩) hA hD hS (fun r13 L14 f15 H locs hp16 hP hD hS => ?_)
  obtain ⟨eL17L, eL17T, eL17R, eL17X0⟩ := hp16
  have eL17L : L14 = L := eL17L
  have eL17T : f15 = f := eL17T
  rw [eL17L, eL17T] at hP hD
  have eL17R : In r13 0 63 := eL17R
  refine lv_istore (lv' := [(9, .int r13), (8, .int r6), (7, .int 81), (0, .ref (ad 18)), (1, .int 4), (2, .int z2), (3, .long z3), (5, .int z4), (6, .int z5)]) hx hb dX7_tryViews_29 hl (by decide) rfl (fun ls hl => ?_)
  refine lv_iconst (v := 0) hx hb dX7_tryViews_31 (by decide) ?_
  refine lv_istore (lv' := [(10, .int 0), (9, .int r13), (8, .int r6), (7, .int 81), (0, .ref (ad 18)), (1, .int 4), (2, .int z2), (3, .long z3), (5, .int z4), (6, .int z5)]) hx hb dX7_tryViews_32 hl (by decide) rfl (fun ls hl => ?_)
  refine lv_iconst (v := 0) hx hb dX7_tryViews_34 (by decide) ?_
  refine lv_istore (lv' := [(11, .int 0), (10, .int 0), (9, .int r13), (8, .int r6), (7, .int 81), (0, .ref (ad 18)), (1, .int 4), (2, .int z2), (3, .long z3), (5, .int z4), (6, .int z5)]) hx hb dX7_tryViews_35 hl (by decide) rfl (fun ls hl => ?_)
  have hJ37 : ∀ (k37 : Nat) (y37_l10 : Int32) (y37_l11 : Int32) (f_37 : HP) (H : Heap) (locs : List Loc) (ls : Array Slot), In y37_l10 0 9 → In y37_l11 0 9 → va_P g.1 vwCl (va_pl L f_37) H → va_D A (va_pl L f_37) → va_S A s.heap H locs → TI g ad th f_37 → (∀ b, b ≠ (ad 18) → b ≠ (ad 21) → b ≠ (ad 22) → b ≠ (ad 23) → f_37 b = f b) → (y37_l10.toInt ≤ y37_l11.toInt ∧ (y37_l11.toInt = 0 ∨ 1 ≤ y37_l10.toInt)) → lv_has ls 20 [(0, .ref (ad 18)), (1, .int 4), (2, .int z2), (3, .long z3), (5, .int z4), (6, .int z5), (7, .int 81), (8, .int r6), (9, .int r13), (10, .int y37_l10), (11, .int y37_l11)] → 9 - y37_l11.toInt < ((k37 : Nat) : Int) → W p l e rm_X7_tryViews_4 s m [.ref (ad 18), .int 4, .int z2, .long z3, .int z4, .int z5].toArray below meth c H locs 0 0 (MQ below (va_Qv (po_X7_tryViews_4 g ad th L f z2 z3 z4 z5) (PstB g A) A) [.ref (ad 18), .int 4, .int z2, .long z3, .int z4, .int z5].toArray s rm_X7_tryViews_4.cells rm_X7_tryViews_4.slots A) (F0 m 37 ls []) := by
    intro k37
    induction k37 with
    | zero =>
      intro y37_l10 y37_l11 f_37 H locs ls hy37_l10 hy37_l11 hP hD hS hT hfr hinv37_0 hl hmz37
      exact ms0 hy37_l11 hmz37
    | succ k37 ih37 =>
      intro y37_l10 y37_l11 f_37 H locs ls hy37_l10 hy37_l11 hP hD hS hT hfr hinv37_0 hl hmz37
      refine lv_iload hx hb dX7_tryViews_37 (lv_at hl 10 rfl) ?_
      refine lv_aload_n hx hb dX7_tryViews_39 rfl (lv_at hl 0 rfl) ?_
      obtain ⟨v6_18, v7_18, v8_18, v9_18, v10_18, v11_18, v12_18, v13_18, hf19, hv8_18, hv9_18, hv10_18, hv11_18, hv13_18⟩ := hT.1 18 (by decide)
      refine pl_get (v := .int v11_18) hx hb hts (fun w h => mT (inX7 w h)) hown hG.1 hP (hst.1 18 (by decide)) hf19 rfl 11 (by decide) (hts _ (mT wg_443)) (fun _ h => h) rfl dX7_tryViews_40 ?_
      refine lv_icmp_gt (tgt := 90) hx hb dX7_tryViews_43 (by decide) (fun c20 => ?_) (fun c20 => ?_)
      ·
        have cc21 : v11_18.toInt < y37_l11.toInt := i32_lt.mp c20
        have hb22 : In y37_l11 1 9 := In.gt1 hy37_l11 hv11_18 cc21 (by omega) (by omega)
        refine lv_aload_n hx hb dX7_tryViews_90 rfl (lv_at hl 0 rfl) ?_
        refine pl_get (v := .ref (ad 20)) hx hb hts (fun w h => mT (inX7 w h)) hown hG.1 hP (hst.1 18 (by decide)) hf19 rfl 2 (by decide) (hts _ (mT wg_434)) (fun _ h => h) rfl dX7_tryViews_91 ?_
        refine lv_iload_n hx hb dX7_tryViews_94 rfl (lv_at hl 1 rfl) ?_
        obtain ⟨rw23, hf24⟩ := hT.1 20 (by decide)
        have hin25 : vp_in 4 7 := In.inb (⟨by decide, by decide⟩ : In 4 4 4) (by decide) (by decide)
        refine pl_iald hx hb hG.1 hP (hst.1 20 (by decide)) 0 hf24 rfl hin25 dX7_tryViews_95 ?_
        refine lv_topi (fun x26 ex26 => ?_)
        refine lv_aload_n hx hb dX7_tryViews_96 rfl (lv_at hl 0 rfl) ?_
        refine pl_get (v := .ref (ad 8)) hx hb hts (fun w h => mT (inX7 w h)) hown hG.1 hP (hst.1 18 (by decide)) hf19 rfl 0 (by decide) (hts _ (mT wg_432)) (fun _ h => h) rfl dX7_tryViews_97 ?_
        obtain ⟨v0_27, v1_27, v2_27, v3_27, v4_27, v5_27, v6_27, v7_27, hf28, hv0_27, hv1_27, hv2_27, hv3_27, hv5_27, hv6_27⟩ := hT.1 8 (by decide)
        refine pl_getN (v := .int v0_27) hx hb hts (fun w h => mT (inX2 w h)) hown hG.1 hP (hst.1 8 (by decide)) hf28 rfl 0 (by decide) (hG.2.1 _ wn_225) (fun _ h => h) rfl dX7_tryViews_100 ?_
        have hJ119 : ∀ (y119_s0 : Int32) (H : Heap) (locs : List Loc) (ls : Array Slot), In y119_s0 0 81 → va_P g.1 vwCl (va_pl L f_37) H → va_D A (va_pl L f_37) → va_S A s.heap H locs → lv_has ls 20 [(0, .ref (ad 18)), (1, .int 4), (2, .int z2), (3, .long z3), (5, .int z4), (6, .int z5), (7, .int 81), (8, .int r6), (9, .int r13), (10, .int y37_l10), (11, .int y37_l11)] → W p l e rm_X7_tryViews_4 s m [.ref (ad 18), .int 4, .int z2, .long z3, .int z4, .int z5].toArray below meth c H locs 0 0 (MQ below (va_Qv (po_X7_tryViews_4 g ad th L f z2 z3 z4 z5) (PstB g A) A) [.ref (ad 18), .int 4, .int z2, .long z3, .int z4, .int z5].toArray s rm_X7_tryViews_4.cells rm_X7_tryViews_4.slots A) (F0 m 119 ls [.int y119_s0, .int x26]) := by
          intro y119_s0 H locs ls hy119_s0 hP hD hS hl
          refine lv_iadd hx hb dX7_tryViews_119 ?_
          refine lv_topi (fun x29 ex29 => ?_)
          refine lv_istore (lv' := [(11, .int x29), (0, .ref (ad 18)), (1, .int 4), (2, .int z2), (3, .long z3), (5, .int z4), (6, .int z5), (7, .int 81), (8, .int r6), (9, .int r13), (10, .int y37_l10)]) hx hb dX7_tryViews_120 hl (by decide) rfl (fun ls hl => ?_)
          refine lv_aload_n hx hb dX7_tryViews_122 rfl (lv_at hl 1 rfl) ?_
          refine lv_iload hx hb dX7_tryViews_123 (lv_at hl 10 rfl) ?_
          refine call_i (run_V (rm := rm_X7_power) hx hb hml hown hts (s_X7_power l g ad th _ _ _ y37_l10 hst hT ) cV_X7_power wg_1066 ⟨Nat.le_of_ble_eq_true rfl, Nat.le_of_ble_eq_true rfl⟩ hG hE hA hP hD hS (hst.1 18 (by decide)) hf19 rfl rfl hl.1 (As := [.int y37_l10]) (rest := []) rfl (Nat.le_of_ble_eq_true rfl) dX7_tryViews_125 ⟨Nat.le_of_ble_eq_true rfl, Nat.le_of_ble_eq_true rfl⟩) hA hD hS (fun r30 L31 f32 H locs hp33 hP hD hS => ?_)
          obtain ⟨eL34L, eL34T⟩ := hp33
          have eL34L : L31 = L := eL34L
          have eL34T : f32 = f_37 := eL34T
          rw [eL34L, eL34T] at hP hD
          refine lv_istore (lv' := [(12, .int r30), (11, .int x29), (0, .ref (ad 18)), (1, .int 4), (2, .int z2), (3, .long z3), (5, .int z4), (6, .int z5), (7, .int 81), (8, .int r6), (9, .int r13), (10, .int y37_l10)]) hx hb dX7_tryViews_128 hl (by decide) rfl (fun ls hl => ?_)
          refine lv_iconst (v := 0) hx hb dX7_tryViews_130 (by decide) ?_
          refine lv_istore (lv' := [(13, .int 0), (12, .int r30), (11, .int x29), (0, .ref (ad 18)), (1, .int 4), (2, .int z2), (3, .long z3), (5, .int z4), (6, .int z5), (7, .int 81), (8, .int r6), (9, .int r13), (10, .int y37_l10)]) hx hb dX7_tryViews_131 hl (by decide) rfl (fun ls hl => ?_)
          have hJ133 : ∀ (k133 : Nat) (y133_l13 : Int32) (f_133 : HP) (H : Heap) (locs : List Loc) (ls : Array Slot), In y133_l13 0 2147483647 → va_P g.1 vwCl (va_pl L f_133) H → va_D A (va_pl L f_133) → va_S A s.heap H locs → TI g ad th f_133 → (∀ b, b ≠ (ad 18) → b ≠ (ad 21) → b ≠ (ad 22) → b ≠ (ad 23) → f_133 b = f b) → f_133 (ad 20) = .inl (g.2.1 0, 7, .inl (rw23)) → f_133 (ad 8) = .inr (2, [.int v0_27, .int v1_27, .int v2_27, .int v3_27, .int v4_27, .int v5_27, .int v6_27, .int v7_27]) → lv_has ls 20 [(0, .ref (ad 18)), (1, .int 4), (2, .int z2), (3, .long z3), (5, .int z4), (6, .int z5), (7, .int 81), (8, .int r6), (9, .int r13), (10, .int y37_l10), (11, .int x29), (12, .int r30), (13, .int y133_l13)] → 2147483647 - y133_l13.toInt < ((k133 : Nat) : Int) → W p l e rm_X7_tryViews_4 s m [.ref (ad 18), .int 4, .int z2, .long z3, .int z4, .int z5].toArray below meth c H locs 0 0 (MQ below (va_Qv (po_X7_tryViews_4 g ad th L f z2 z3 z4 z5) (PstB g A) A) [.ref (ad 18), .int 4, .int z2, .long z3, .int z4, .int z5].toArray s rm_X7_tryViews_4.cells rm_X7_tryViews_4.slots A) (F0 m 133 ls []) := by
            intro k133
            induction k133 with
            | zero =>
              intro y133_l13 f_133 H locs ls hy133_l13 hP hD hS hT hfr hf35 hf36 hl hmz133
              exact ms0 hy133_l13 hmz133
            | succ k133 ih133 =>
              intro y133_l13 f_133 H locs ls hy133_l13 hP hD hS hT hfr hf35 hf36 hl hmz133
              refine lv_iload hx hb dX7_tryViews_133 (lv_at hl 12 rfl) ?_
              refine lv_iload hx hb dX7_tryViews_135 (lv_at hl 11 rfl) ?_
              refine lv_icmp_ge (tgt := 280) hx hb dX7_tryViews_137 (by decide) (fun c37 => ?_) (fun c37 => ?_)
              ·
                have cc38 : r30.toInt ≤ y133_l13.toInt := i32_le.mp c37
                exact ret_v hx hb hr hlocks hP hD hS (Nat.le_of_ble_eq_true rfl) (Nat.le_of_ble_eq_true rfl) (⟨rfl, hT, hfr⟩) dX7_tryViews_280
              ·
                have cc39 : y133_l13.toInt < r30.toInt := i32_nle c37
                have hb40 : In y133_l13 0 2147483646 := In.lt1 hy133_l13 (In.full r30) cc39 (by omega) (by omega)
                have hb41 : In r30 1 2147483647 := In.lt2 hy133_l13 (In.full r30) cc39 (by omega) (by omega)
                refine lv_aload_n hx hb dX7_tryViews_140 rfl (lv_at hl 0 rfl) ?_
                obtain ⟨v6_42, v7_42, v8_42, v9_42, v10_42, v11_42, v12_42, v13_42, hf43, hv8_42, hv9_42, hv10_42, hv11_42, hv13_42⟩ := hT.1 18 (by decide)
                refine call_i (run_V (rm := rm_X7_isEnough) hx hb hml hown hts (s_X7_isEnough l g ad th _ _ _  hst hT ) cV_X7_isEnough wg_1070 ⟨Nat.le_of_ble_eq_true rfl, Nat.le_of_ble_eq_true rfl⟩ hG hE hA hP hD hS (hst.1 18 (by decide)) hf43 rfl rfl hl.1 (As := []) (rest := []) rfl (Nat.le_of_ble_eq_true rfl) dX7_tryViews_141 ⟨Nat.le_of_ble_eq_true rfl, Nat.le_of_ble_eq_true rfl⟩) hA hD hS (fun r44 L45 f46 H locs hp47 hP hD hS => ?_)
                obtain ⟨eL48L, eL48T, eL48R⟩ := hp47
                have eL48L : L45 = L := eL48L
                have eL48T : f46 = f_133 := eL48T
                rw [eL48L, eL48T] at hP hD
                have eL48R : In r44 0 1 := eL48R
                refine lv_if_ne (tgt := 280) hx hb dX7_tryViews_144 (by decide) (fun c49 => ?_) (fun c49 => ?_)
                ·
                  have oc0 : (0 : Int32).toInt = 0 := by decide
                  have cc50 : r44.toInt ≠ (0 : Int32).toInt := i32_ne c49
                  have hb51 : In r44 1 1 := In.ne1 eL48R (⟨by decide, by decide⟩ : In 0 0 0) cc50 (by omega) (by omega)
                  exact ret_v hx hb hr hlocks hP hD hS (Nat.le_of_ble_eq_true rfl) (Nat.le_of_ble_eq_true rfl) (⟨rfl, hT, hfr⟩) dX7_tryViews_280
                ·
                  have oc0 : (0 : Int32).toInt = 0 := by decide
                  have cc52 : r44.toInt = (0 : Int32).toInt := congrArg Int32.toInt c49
                  have hb53 : In r44 0 0 := In.eq1 eL48R (⟨by decide, by decide⟩ : In 0 0 0) cc52 (by omega) (by omega)
                  refine lv_iload_n hx hb dX7_tryViews_147 rfl (lv_at hl 2 rfl) ?_
                  refine lv_istore (lv' := [(14, .int z2), (0, .ref (ad 18)), (1, .int 4), (2, .int z2), (3, .long z3), (5, .int z4), (6, .int z5), (7, .int 81), (8, .int r6), (9, .int r13), (10, .int y37_l10), (11, .int x29), (12, .int r30), (13, .int y133_l13)]) hx hb dX7_tryViews_148 hl (by decide) rfl (fun ls hl => ?_)
                  refine lv_iconst (v := 0) hx hb dX7_tryViews_150 (by decide) ?_
                  refine lv_istore (lv' := [(15, .int 0), (14, .int z2), (0, .ref (ad 18)), (1, .int 4), (2, .int z2), (3, .long z3), (5, .int z4), (6, .int z5), (7, .int 81), (8, .int r6), (9, .int r13), (10, .int y37_l10), (11, .int x29), (12, .int r30), (13, .int y133_l13)]) hx hb dX7_tryViews_151 hl (by decide) rfl (fun ls hl => ?_)
                  refine lv_iload hx hb dX7_tryViews_153 (lv_at hl 14 rfl) ?_
                  refine lv_istore (lv' := [(16, .int y133_l13), (15, .int 0), (14, .int z2), (0, .ref (ad 18)), (1, .int 4), (2, .int z2), (3, .long z3), (5, .int z4), (6, .int z5), (7, .int 81), (8, .int r6), (9, .int r13), (10, .int y37_l10), (11, .int x29), (12, .int r30), (13, .int y133_l13)]) hx hb dX7_tryViews_155 hl (by decide) rfl (fun ls hl => ?_)
                  refine lv_iload hx hb dX7_tryViews_157 (lv_at hl 8 rfl) ?_
                  refine lv_istore (lv' := [(17, .int z5), (16, .int y133_l13), (15, .int 0), (14, .int z2), (0, .ref (ad 18)), (1, .int 4), (2, .int z2), (3, .long z3), (5, .int z4), (6, .int z5), (7, .int 81), (8, .int r6), (9, .int r13), (10, .int y37_l10), (11, .int x29), (12, .int r30), (13, .int y133_l13)]) hx hb dX7_tryViews_159 hl (by decide) rfl (fun ls hl => ?_)
                  refine lv_iconst (v := 0) hx hb dX7_tryViews_161 (by decide) ?_
                  refine lv_istore (lv' := [(18, .int 0), (17, .int z5), (16, .int y133_l13), (15, .int 0), (14, .int z2), (0, .ref (ad 18)), (1, .int 4), (2, .int z2), (3, .long z3), (5, .int z4), (6, .int z5), (7, .int 81), (8, .int r6), (9, .int r13), (10, .int y37_l10), (11, .int x29), (12, .int r30), (13, .int y133_l13)]) hx hb dX7_tryViews_162 hl (by decide) rfl (fun ls hl => ?_)
                  have hJ164 : ∀ (k164 : Nat) (y164_l14 : Int32) (y164_l15 : Int32) (y164_l16 : Int32) (y164_l17 : Int32) (y164_l18 : Int32) (H : Heap) (locs : List Loc) (ls : Array Slot), In y164_l14 0 511 → In y164_l15 (-2147483648) 2147483647 → In y164_l16 0 2147483647 → In y164_l17 (-2147483648) 2147483647 → In y164_l18 0 9 → va_P g.1 vwCl (va_pl L f_133) H → va_D A (va_pl L f_133) → va_S A s.heap H locs → lv_has ls 20 [(0, .ref (ad 18)), (1, .int 4), (2, .int z2), (3, .long z3), (5, .int z4), (6, .int z5), (7, .int 81), (8, .int r6), (9, .int r13), (10, .int y37_l10), (11, .int x29), (12, .int r30), (13, .int y133_l13), (14, .int y164_l14), (15, .int y164_l15), (16, .int y164_l16), (17, .int y164_l17), (18, .int y164_l18)] → 9 - y164_l18.toInt < ((k164 : Nat) : Int) → W p l e rm_X7_tryViews_4 s m [.ref (ad 18), .int 4, .int z2, .long z3, .int z4, .int z5].toArray below meth c H locs 0 0 (MQ below (va_Qv (po_X7_tryViews_4 g ad th L f z2 z3 z4 z5) (PstB g A) A) [.ref (ad 18), .int 4, .int z2, .long z3, .int z4, .int z5].toArray s rm_X7_tryViews_4.cells rm_X7_tryViews_4.slots A) (F0 m 164 ls []) := by
                    intro k164
                    induction k164 with
                    | zero =>
                      intro y164_l14 y164_l15 y164_l16 y164_l17 y164_l18 H locs ls hy164_l14 hy164_l15 hy164_l16 hy164_l17 hy164_l18 hP hD hS hl hmz164
                      exact ms0 hy164_l18 hmz164
                    | succ k164 ih164 =>
                      intro y164_l14 y164_l15 y164_l16 y164_l17 y164_l18 H locs ls hy164_l14 hy164_l15 hy164_l16 hy164_l17 hy164_l18 hP hD hS hl hmz164
                      refine lv_iload hx hb dX7_tryViews_164 (lv_at hl 17 rfl) ?_
                      refine lv_aload_n hx hb dX7_tryViews_166 rfl (lv_at hl 0 rfl) ?_
                      refine pl_get (v := .int v10_42) hx hb hts (fun w h => mT (inX7 w h)) hown hG.1 hP (hst.1 18 (by decide)) hf43 rfl 10 (by decide) (hts _ (mT wg_442)) (fun _ h => h) rfl dX7_tryViews_167 ?_
                      refine lv_icmp_ge (tgt := 262) hx hb dX7_tryViews_170 (by decide) (fun c54 => ?_) (fun c54 => ?_)
                      ·
                        have cc55 : v10_42.toInt ≤ y164_l18.toInt := i32_le.mp c54
                        refine lv_aload_n hx hb dX7_tryViews_262 rfl (lv_at hl 0 rfl) ?_
                        refine lv_iload_n hx hb dX7_tryViews_263 rfl (lv_at hl 1 rfl) ?_
                        refine lv_iload hx hb dX7_tryViews_264 (lv_at hl 13 rfl) ?_
                        refine lv_iload hx hb dX7_tryViews_266 (lv_at hl 14 rfl) ?_
                        refine lv_lload_n hx hb dX7_tryViews_268 rfl (lv_at hl 3 rfl) ?_
                        refine lv_iload hx hb dX7_tryViews_269 (lv_at hl 16 rfl) ?_
                        refine call_v (run_V (rm := rm_X7_tryRuler_4) hx hb hml hown hts (s_X7_tryRuler_4 l g ad th _ _ _ y164_l14 y164_l15 z3 y164_l17 hst hT hy164_l14) cV_X7_tryRuler wg_1089 ⟨Nat.le_of_ble_eq_true rfl, Nat.le_of_ble_eq_true rfl⟩ hG hE hA hP hD hS (hst.1 18 (by decide)) hf43 rfl rfl hl.1 (As := [.int 4, .int y164_l14, .int y164_l15, .long z3, .int y164_l17]) (rest := []) rfl (Nat.le_of_ble_eq_true rfl) dX7_tryViews_271 ⟨Nat.le_of_ble_eq_true rfl, Nat.le_of_ble_eq_true rfl⟩) hA hD hS (fun L57 f58 H locs hp59 hP hD hS => ?_)
                        obtain ⟨eL60L, eL60T, eL60F⟩ := hp59
                        have eL60L : L57 = L := eL60L
                        rw [eL60L] at hP hD
                        have hT : TI g ad th f58 := eL60T
                        have eL60F : ∀ b, b ≠ (ad 18) → b ≠ (ad 21) → b ≠ (ad 22) → b ≠ (ad 23) → f58 b = f_133 b := eL60F
                        have hf61 := (eL60F (ad 20) (hst.ne (by decide) (by decide) (by decide)) (hst.ne (by decide) (by decide) (by decide)) (hst.ne (by decide) (by decide) (by decide)) (hst.ne (by decide) (by decide) (by decide))).trans hf35
                        have hf62 := (eL60F (ad 8) (hst.ne (by decide) (by decide) (by decide)) (hst.ne (by decide) (by decide) (by decide)) (hst.ne (by decide) (by decide) (by decide)) (hst.ne (by decide) (by decide) (by decide))).trans hf36
                        have hfr : (∀ b, b ≠ (ad 18) → b ≠ (ad 21) → b ≠ (ad 22) → b ≠ (ad 23) → f58 b = f b) := fun b z0_ z1_ z2_ z3_ => (eL60F b z0_ z1_ z2_ z3_).trans (hfr b z0_ z1_ z2_ z3_)
                        obtain ⟨x63, ex63⟩ : ∃ y : Int32, y = y133_l13 + 1 := ⟨_, rfl⟩
                        have hb64 : In x63 1 2147483647 := ex63 ▸ In.add hb40 (⟨by decide, by decide⟩ : In 1 1 1) (by decide) (by decide) (by decide) (by decide)
                        have et65 : x63.toInt = y133_l13.toInt + 1 := In.adde ex63 hb40 (k := 1) (by decide) (by decide) (by decide)
                        refine lv_iinc (v := x63) (lv' := [(13, .int x63), (0, .ref (ad 18)), (1, .int 4), (2, .int z2), (3, .long z3), (5, .int z4), (6, .int z5), (7, .int 81), (8, .int r6), (9, .int r13), (10, .int y37_l10), (11, .int x29), (12, .int r30), (14, .int y164_l14), (15, .int y164_l15), (16, .int y164_l16), (17, .int y164_l17), (18, .int y164_l18)]) hx hb dX7_tryViews_274 hl (k := 12) rfl (by rw [ex63]; rfl) (by decide) rfl (fun ls hl => ?_)
                        refine lv_goto (tgt := 133) hx hb dX7_tryViews_277 (by decide) ?_
                        exact ih133 x63 _ _ _ _ (In.mono hb64 (by decide) (by decide)) hP hD hS hT hfr hf61 hf62 (lv_sub hl [1, 2, 3, 4, 5, 6, 7, 8, 9, 10, 11, 12, 0] rfl) (msu et65 (by decide) hmz133)
                      ·
                        have cc66 : y164_l18.toInt < v10_42.toInt := i32_nle c54
                        have hb67 : In y164_l18 0 8 := In.lt1 hy164_l18 hv10_42 cc66 (by omega) (by omega)
                        have hb68 : In v10_42 1 9 := In.lt2 hy164_l18 hv10_42 cc66 (by omega) (by omega)
                        refine lv_iload hx hb dX7_tryViews_173 (lv_at hl 6 rfl) ?_
                        refine lv_iload hx hb dX7_tryViews_175 (lv_at hl 15 rfl) ?_
                        refine lv_iload hx hb dX7_tryViews_177 (lv_at hl 9 rfl) ?_
                        have hb69 : In y37_l10 1 9 := In.mk (by obtain ⟨o0a, o0b⟩ := (hy37_l10 : In _ _ _); obtain ⟨o1a, o1b⟩ := (hb22 : In _ _ _); obtain ⟨o2a, o2b⟩ := (hv11_18 : In _ _ _); omega) (by obtain ⟨o0a, o0b⟩ := (hy37_l10 : In _ _ _); obtain ⟨o1a, o1b⟩ := (hb22 : In _ _ _); obtain ⟨o2a, o2b⟩ := (hv11_18 : In _ _ _); omega)
                        refine lv_irem hx hb dX7_tryViews_179 (In.ne0 hb69 (by decide)) ?_
                        refine lv_topi (fun x70 ex70 => ?_)
                        have hb71 : In x70 0 8 := ex70 ▸ In.rem hy164_l16 hb69 (by decide) (by decide) (by decide)
                        refine lv_iadd hx hb dX7_tryViews_180 ?_
                        refine lv_topi (fun x72 ex72 => ?_)
                        have hb73 : In x72 81 89 := ex72 ▸ In.add (⟨by decide, by decide⟩ : In 81 81 81) hb71 (by decide) (by decide) (by decide) (by decide)
                        have et74 : x72.toInt = (81 : Int32).toInt + x70.toInt := In.add2e ex72 (⟨by decide, by decide⟩ : In 81 81 81) hb71 (by decide) (by decide)
                        refine lv_istore (lv' := [(19, .int x72), (0, .ref (ad 18)), (1, .int 4), (2, .int z2), (3, .long z3), (5, .int z4), (6, .int z5), (7, .int 81), (8, .int r6), (9, .int r13), (10, .int y37_l10), (11, .int x29), (12, .int r30), (13, .int y133_l13), (14, .int y164_l14), (15, .int y164_l15), (16, .int y164_l16), (17, .int y164_l17), (18, .int y164_l18)]) hx hb dX7_tryViews_181 hl (by decide) rfl (fun ls hl => ?_)
                        refine lv_iload hx hb dX7_tryViews_183 (lv_at hl 16 rfl) ?_
                        refine lv_iload hx hb dX7_tryViews_185 (lv_at hl 10 rfl) ?_
                        refine lv_idiv hx hb dX7_tryViews_187 (In.ne0 hb69 (by decide)) ?_
                        refine lv_topi (fun x75 ex75 => ?_)
                        have hb76 : In x75 0 2147483647 := ex75 ▸ In.div hy164_l16 hb69 (by decide) (by decide) (by decide) (by decide)
                        refine lv_istore (lv' := [(16, .int x75), (19, .int x72), (0, .ref (ad 18)), (1, .int 4), (2, .int z2), (3, .long z3), (5, .int z4), (6, .int z5), (7, .int 81), (8, .int r6), (9, .int r13), (10, .int y37_l10), (11, .int x29), (12, .int r30), (13, .int y133_l13), (14, .int y164_l14), (15, .int y164_l15), (17, .int y164_l17), (18, .int y164_l18)]) hx hb dX7_tryViews_188 hl (by decide) rfl (fun ls hl => ?_)
                        refine lv_iload hx hb dX7_tryViews_190 (lv_at hl 15 rfl) ?_
                        refine lv_iconst (v := 1) hx hb dX7_tryViews_192 (by decide) ?_
                        refine lv_aload_n hx hb dX7_tryViews_193 rfl (lv_at hl 2 rfl) ?_
                        refine pl_get (v := .ref (ad 19)) hx hb hts (fun w h => mT (inX7 w h)) hown hG.1 hP (hst.1 18 (by decide)) hf43 rfl 1 (by decide) (hts _ (mT wg_433)) (fun _ h => h) rfl dX7_tryViews_194 ?_
                        refine lv_iload hx hb dX7_tryViews_197 (lv_at hl 18 rfl) ?_
                        obtain ⟨rw77, hf78, hc79⟩ := hT.1 19 (by decide)
                        have hin80 : vp_in y164_l18 9 := In.inb hb67 (by decide) (by decide)
                        refine pl_iald hx hb hG.1 hP (hst.1 19 (by decide)) 0 hf78 rfl hin80 dX7_tryViews_199 ?_
                        refine lv_topi (fun x81 ex81 => ?_)
                        have hb82 : In x81 0 8 := by rw [ex81]; exact hc79 _ (vp_nat hin80)
                        refine lv_ishl hx hb dX7_tryViews_200 ?_
                        refine lv_topi (fun x83 ex83 => ?_)
                        have hb84 : In x83 1 256 := ex83 ▸ In.shl (⟨by decide, by decide⟩ : In 1 1 1) hb82 (by decide) (by decide) (by decide) (by decide) (by decide) (by decide)
                        refine lv_aload_n hx hb dX7_tryViews_201 rfl (lv_at hl 2 rfl) ?_
                        refine pl_get (v := .ref (ad 21)) hx hb hts (fun w h => mT (inX7 w h)) hown hG.1 hP (hst.1 18 (by decide)) hf43 rfl 3 (by decide) (hts _ (mT wg_435)) (fun _ h => h) rfl dX7_tryViews_202 ?_
                        refine lv_iload hx hb dX7_tryViews_205 (lv_at hl 1 rfl) ?_
                        obtain ⟨rw85, hf86⟩ := hT.1 21 (by decide)
                        have hin87 : vp_in x72 108 := In.inb hb73 (by decide) (by decide)
                        refine pl_iald hx hb hG.1 hP (hst.1 21 (by decide)) 0 hf86 rfl hin87 dX7_tryViews_207 ?_
                        refine lv_topi (fun x88 ex88 => ?_)
                        refine call_i (run_S (rm := rm_X7_seen) hx hb hml hown hts (s_X7_seen l g ad th _ _ _ y164_l14 x83 x88 hst hT hy164_l14 (In.mono hb84 (by decide) (by decide))) cS_X7_seen wg_1086 ⟨Nat.le_of_ble_eq_true rfl, Nat.le_of_ble_eq_true rfl⟩ hG hE hA hP hD hS rfl hl.1 (As := [.int y164_l14, .int x83, .int x88]) (rest := []) rfl (Nat.le_of_ble_eq_true rfl) dX7_tryViews_208 ⟨Nat.le_of_ble_eq_true rfl, Nat.le_of_ble_eq_true rfl⟩) hA hD hS (fun r89 L90 f91 H locs hp92 hP hD hS => ?_)
                        obtain ⟨eL93L, eL93T, eL93R⟩ := hp92
                        have eL93L : L90 = L := eL93L
                        have eL93T : f91 = f_133 := eL93T
                        rw [eL93L, eL93T] at hP hD
                        have eL93R : In r89 0 511 := eL93R
                        refine lv_istore (lv' := [(14, .int r89), (16, .int x75), (19, .int x72), (0, .ref (ad 18)), (1, .int 4), (2, .int z2), (3, .long z3), (5, .int z4), (6, .int z5), (7, .int 81), (8, .int r6), (9, .int r13), (10, .int y37_l10), (11, .int x29), (12, .int r30), (13, .int y133_l13), (15, .int y164_l15), (17, .int y164_l17), (18, .int y164_l18)]) hx hb dX7_tryViews_211 hl (by decide) rfl (fun ls hl => ?_)
                        refine lv_iload hx hb dX7_tryViews_213 (lv_at hl 16 rfl) ?_
                        refine lv_aload_n hx hb dX7_tryViews_215 rfl (lv_at hl 3 rfl) ?_
                        refine pl_get (v := .ref (ad 21)) hx hb hts (fun w h => mT (inX7 w h)) hown hG.1 hP (hst.1 18 (by decide)) hf43 rfl 3 (by decide) (hts _ (mT wg_435)) (fun _ h => h) rfl dX7_tryViews_216 ?_
                        refine lv_iload hx hb dX7_tryViews_219 (lv_at hl 2 rfl) ?_
                        have hin94 : vp_in x72 108 := In.inb hb73 (by decide) (by decide)
                        refine pl_iald hx hb hG.1 hP (hst.1 21 (by decide)) 0 hf86 rfl hin94 dX7_tryViews_221 ?_
                        refine lv_topi (fun x95 ex95 => ?_)
                        obtain rfl : x88 = x95 := ex88.trans ex95.symm
                        refine lv_iconst (v := 4) hx hb dX7_tryViews_222 (by decide) ?_
                        refine lv_idiv hx hb dX7_tryViews_223 (In.ne0 (⟨by decide, by decide⟩ : In 4 4 4) (by decide)) ?_
                        refine lv_topi (fun x96 ex96 => ?_)
                        refine lv_aload_n hx hb dX7_tryViews_224 rfl (lv_at hl 3 rfl) ?_
                        refine pl_get (v := .ref (ad 19)) hx hb hts (fun w h => mT (inX7 w h)) hown hG.1 hP (hst.1 18 (by decide)) hf43 rfl 1 (by decide) (hts _ (mT wg_433)) (fun _ h => h) rfl dX7_tryViews_225 ?_
                        refine lv_iload hx hb dX7_tryViews_228 (lv_at hl 18 rfl) ?_
                        have hin97 : vp_in y164_l18 9 := In.inb hb67 (by decide) (by decide)
                        refine pl_iald hx hb hG.1 hP (hst.1 19 (by decide)) 0 hf78 rfl hin97 dX7_tryViews_230 ?_
                        refine lv_topi (fun x98 ex98 => ?_)
                        obtain rfl : x81 = x98 := ex81.trans ex98.symm
                        refine lv_ishl hx hb dX7_tryViews_231 ?_
                        refine lv_topi (fun x99 ex99 => ?_)
                        refine lv_ior hx hb dX7_tryViews_232 ?_
                        refine lv_topi (fun x100 ex100 => ?_)
                        refine lv_istore (lv' := [(15, .int x100), (14, .int r89), (16, .int x75), (19, .int x72), (0, .ref (ad 18)), (1, .int 4), (2, .int z2), (3, .long z3), (5, .int z4), (6, .int z5), (7, .int 81), (8, .int r6), (9, .int r13), (10, .int y37_l10), (11, .int x29), (12, .int r30), (13, .int y133_l13), (17, .int y164_l17), (18, .int y164_l18)]) hx hb dX7_tryViews_233 hl (by decide) rfl (fun ls hl => ?_)
                        refine lv_iload hx hb dX7_tryViews_235 (lv_at hl 17 rfl) ?_
                        refine lv_aload_n hx hb dX7_tryViews_237 rfl (lv_at hl 4 rfl) ?_
                        refine lv_aload_n hx hb dX7_tryViews_238 rfl (lv_at hl 4 rfl) ?_
                        refine pl_get (v := .ref (ad 22)) hx hb hts (fun w h => mT (inX7 w h)) hown hG.1 hP (hst.1 18 (by decide)) hf43 rfl 4 (by decide) (hts _ (mT wg_436)) (fun _ h => h) rfl dX7_tryViews_239 ?_
                        refine lv_iload hx hb dX7_tryViews_242 (lv_at hl 3 rfl) ?_
                        obtain ⟨rw101, hf102⟩ := hT.1 22 (by decide)
                        have hin103 : vp_in x72 108 := In.inb hb73 (by decide) (by decide)
                        refine pl_iald hx hb hG.1 hP (hst.1 22 (by decide)) 0 hf102 rfl hin103 dX7_tryViews_244 ?_
                        refine lv_topi (fun x104 ex104 => ?_)
                        refine lv_iload hx hb dX7_tryViews_245 (lv_at hl 14 rfl) ?_
                        refine lv_iload hx hb dX7_tryViews_247 (lv_at hl 18 rfl) ?_
                        refine lv_iadd hx hb dX7_tryViews_249 ?_
                        refine lv_topi (fun x105 ex105 => ?_)
                        refine call_i (run_V (rm := rm_X7_bitsOf) hx hb hml hown hts (s_X7_bitsOf l g ad th _ _ _ x104 x105 hst hT ) cV_X7_bitsOf wg_1077 ⟨Nat.le_of_ble_eq_true rfl, Nat.le_of_ble_eq_true rfl⟩ hG hE hA hP hD hS (hst.1 18 (by decide)) hf43 rfl rfl hl.1 (As := [.int x104, .int x105]) (rest := [.int y164_l17]) rfl (Nat.le_of_ble_eq_true rfl) dX7_tryViews_250 ⟨Nat.le_of_ble_eq_true rfl, Nat.le_of_ble_eq_true rfl⟩) hA hD hS (fun r106 L107 f108 H locs hp109 hP hD hS => ?_)
                        obtain ⟨eL110L, eL110T⟩ := hp109
                        have eL110L : L107 = L := eL110L
                        have eL110T : f108 = f_133 := eL110T
                        rw [eL110L, eL110T] at hP hD
                        refine lv_ior hx hb dX7_tryViews_253 ?_
                        refine lv_topi (fun x111 ex111 => ?_)
                        refine lv_istore (lv' := [(17, .int x111), (15, .int x100), (14, .int r89), (16, .int x75), (19, .int x72), (0, .ref (ad 18)), (1, .int 4), (2, .int z2), (3, .long z3), (5, .int z4), (6, .int z5), (7, .int 81), (8, .int r6), (9, .int r13), (10, .int y37_l10), (11, .int x29), (12, .int r30), (13, .int y133_l13), (18, .int y164_l18)]) hx hb dX7_tryViews_254 hl (by decide) rfl (fun ls hl => ?_)
                        obtain ⟨x112, ex112⟩ : ∃ y : Int32, y = y164_l18 + 1 := ⟨_, rfl⟩
                        have hb113 : In x112 1 9 := ex112 ▸ In.add hb67 (⟨by decide, by decide⟩ : In 1 1 1) (by decide) (by decide) (by decide) (by decide)
                        have et114 : x112.toInt = y164_l18.toInt + 1 := In.adde ex112 hb67 (k := 1) (by decide) (by decide) (by decide)
                        refine lv_iinc (v := x112) (lv' := [(18, .int x112), (17, .int x111), (15, .int x100), (14, .int r89), (16, .int x75), (19, .int x72), (0, .ref (ad 18)), (1, .int 4), (2, .int z2), (3, .long z3), (5, .int z4), (6, .int z5), (7, .int 81), (8, .int r6), (9, .int r13), (10, .int y37_l10), (11, .int x29), (12, .int r30), (13, .int y133_l13)]) hx hb dX7_tryViews_256 hl (k := 18) rfl (by rw [ex112]; rfl) (by decide) rfl (fun ls hl => ?_)
                        refine lv_goto (tgt := 164) hx hb dX7_tryViews_259 (by decide) ?_
                        exact ih164 r89 x100 x75 x111 x112 _ _ _ eL93R (In.full x100) hb76 (In.full x111) (In.mono hb113 (by decide) (by decide)) hP hD hS (lv_sub hl [6, 7, 8, 9, 10, 11, 12, 13, 14, 15, 16, 17, 18, 3, 2, 4, 1, 0] rfl) (msu et114 (by decide) hmz164)
                  exact hJ164 ((9 - (0 : Int32).toInt).toNat + 1) z2 0 y133_l13 z5 0 _ _ _ hz2 (⟨by decide, by decide⟩ : In 0 (-2147483648) 2147483647) (In.mono hb40 (by decide) (by decide)) (In.full z5) (⟨by decide, by decide⟩ : In 0 0 9) hP hD hS (lv_sub hl [5, 6, 7, 8, 9, 10, 11, 12, 13, 14, 15, 16, 17, 4, 3, 2, 1, 0] rfl) (msI _)
          exact hJ133 ((2147483647 - (0 : Int32).toInt).toNat + 1) 0 _ _ _ _ (⟨by decide, by decide⟩ : In 0 0 2147483647) hP hD hS hT hfr hf24 hf28 (lv_sub hl [3, 4, 5, 6, 7, 8, 9, 10, 11, 12, 2, 1, 0] rfl) (msI _)
        refine lv_if_ne (tgt := 118) hx hb dX7_tryViews_103 (by decide) (fun c115 => ?_) (fun c115 => ?_)
        ·
          have oc0 : (0 : Int32).toInt = 0 := by decide
          have cc116 : v0_27.toInt ≠ (0 : Int32).toInt := i32_ne c115
          have hb117 : In v0_27 1 1 := In.ne1 hv0_27 (⟨by decide, by decide⟩ : In 0 0 0) cc116 (by omega) (by omega)
          refine lv_iconst (v := 0) hx hb dX7_tryViews_118 (by decide) ?_
          exact hJ119 0 _ _ _ (⟨by decide, by decide⟩ : In 0 0 81) hP hD hS (lv_sub hl [0, 1, 2, 3, 4, 5, 6, 7, 8, 9, 10] rfl)
        ·
          have oc0 : (0 : Int32).toInt = 0 := by decide
          have cc118 : v0_27.toInt = (0 : Int32).toInt := congrArg Int32.toInt c115
          have hb119 : In v0_27 0 0 := In.eq1 hv0_27 (⟨by decide, by decide⟩ : In 0 0 0) cc118 (by omega) (by omega)
          refine lv_aload_n hx hb dX7_tryViews_106 rfl (lv_at hl 0 rfl) ?_
          refine pl_get (v := .int v11_18) hx hb hts (fun w h => mT (inX7 w h)) hown hG.1 hP (hst.1 18 (by decide)) hf19 rfl 11 (by decide) (hts _ (mT wg_443)) (fun _ h => h) rfl dX7_tryViews_107 ?_
          refine lv_aload_n hx hb dX7_tryViews_110 rfl (lv_at hl 0 rfl) ?_
          refine pl_get (v := .int v10_18) hx hb hts (fun w h => mT (inX7 w h)) hown hG.1 hP (hst.1 18 (by decide)) hf19 rfl 10 (by decide) (hts _ (mT wg_442)) (fun _ h => h) rfl dX7_tryViews_111 ?_
          refine lv_imul hx hb dX7_tryViews_114 ?_
          refine lv_topi (fun x120 ex120 => ?_)
          have hb121 : In x120 0 72 := ex120 ▸ In.mul hv11_18 hv10_18 (by decide) (by decide) (by decide) (by decide) (by decide)
          refine lv_goto (tgt := 119) hx hb dX7_tryViews_115 (by decide) ?_
          exact hJ119 x120 _ _ _ (In.mono hb121 (by decide) (by decide)) hP hD hS (lv_sub hl [0, 1, 2, 3, 4, 5, 6, 7, 8, 9, 10] rfl)
      ·
        have cc122 : y37_l11.toInt ≤ v11_18.toInt := i32_nlt c20
        have hb123 : In y37_l11 0 8 := In.le1 hy37_l11 hv11_18 cc122 (by omega) (by omega)
        refine lv_aload_n hx hb dX7_tryViews_46 rfl (lv_at hl 0 rfl) ?_
        refine pl_get (v := .ref (ad 8)) hx hb hts (fun w h => mT (inX7 w h)) hown hG.1 hP (hst.1 18 (by decide)) hf19 rfl 0 (by decide) (hts _ (mT wg_432)) (fun _ h => h) rfl dX7_tryViews_47 ?_
        refine lv_iload hx hb dX7_tryViews_50 (lv_at hl 7 rfl) ?_
        refine lv_aload_n hx hb dX7_tryViews_52 rfl (lv_at hl 0 rfl) ?_
        refine pl_get (v := .int v11_18) hx hb hts (fun w h => mT (inX7 w h)) hown hG.1 hP (hst.1 18 (by decide)) hf19 rfl 11 (by decide) (hts _ (mT wg_443)) (fun _ h => h) rfl dX7_tryViews_53 ?_
        refine lv_iadd hx hb dX7_tryViews_56 ?_
        refine lv_topi (fun x124 ex124 => ?_)
        have hb125 : In x124 0 17 := ex124 ▸ In.add hb11 hv11_18 (by decide) (by decide) (by decide) (by decide)
        have et126 : x124.toInt = r6.toInt + v11_18.toInt := In.add2e ex124 hb11 hv11_18 (by decide) (by decide)
        refine lv_iload hx hb dX7_tryViews_57 (lv_at hl 10 rfl) ?_
        refine lv_isub hx hb dX7_tryViews_59 ?_
        refine lv_topi (fun x127 ex127 => ?_)
        have hb128 : In x127 (-8) 17 := ex127 ▸ In.sub hb125 hb123 (by decide) (by decide) (by decide) (by decide)
        have et129 : x127.toInt = x124.toInt - y37_l11.toInt := In.sub2e ex127 hb125 hb123 (by decide) (by decide)
        refine lv_iload hx hb dX7_tryViews_60 (lv_at hl 8 rfl) ?_
        refine lv_iload hx hb dX7_tryViews_62 (lv_at hl 10 rfl) ?_
        refine lv_iadd hx hb dX7_tryViews_64 ?_
        refine lv_topi (fun x130 ex130 => ?_)
        have hb131 : In x130 0 71 := ex130 ▸ In.add eL17R hb123 (by decide) (by decide) (by decide) (by decide)
        have et132 : x130.toInt = r13.toInt + y37_l11.toInt := In.add2e ex130 eL17R hb123 (by decide) (by decide)
        obtain ⟨v0_133, v1_133, v2_133, v3_133, v4_133, v5_133, v6_133, v7_133, hf134, hv0_133, hv1_133, hv2_133, hv3_133, hv5_133, hv6_133⟩ := hT.1 8 (by decide)
        refine call_i (run_VN (rm := rm_X2_view_ru) hx hb hml hown hts (s_X2_view_ru l g ad th _ _ _ x127 x130 hst hT ) cV_X2_view wn_1085 ⟨Nat.le_of_ble_eq_true rfl, Nat.le_of_ble_eq_true rfl⟩ hG hE hA hP hD hS (hst.1 8 (by decide)) hf134 rfl rfl hl.1 (As := [.int x127, .int x130]) (rest := []) rfl (Nat.le_of_ble_eq_true rfl) dX7_tryViews_65 ⟨Nat.le_of_ble_eq_true rfl, Nat.le_of_ble_eq_true rfl⟩) hA hD hS (fun r135 L136 f137 H locs hp138 hP hD hS => ?_)
        obtain ⟨eL139L, eL139T, eL139R⟩ := hp138
        have eL139L : L136 = L := eL139L
        have eL139T : f137 = f_37 := eL139T
        rw [eL139L, eL139T] at hP hD
        have eL139R : In r135 0 6 := eL139R
        refine lv_istore (lv' := [(12, .int r135), (0, .ref (ad 18)), (1, .int 4), (2, .int z2), (3, .long z3), (5, .int z4), (6, .int z5), (7, .int 81), (8, .int r6), (9, .int r13), (10, .int y37_l10), (11, .int y37_l11)]) hx hb dX7_tryViews_68 hl (by decide) rfl (fun ls hl => ?_)
        refine lv_aload_n hx hb dX7_tryViews_70 rfl (lv_at hl 1 rfl) ?_
        refine lv_iload hx hb dX7_tryViews_71 (lv_at hl 7 rfl) ?_
        refine lv_iload hx hb dX7_tryViews_73 (lv_at hl 10 rfl) ?_
        refine lv_iload hx hb dX7_tryViews_75 (lv_at hl 0 rfl) ?_
        refine lv_iload hx hb dX7_tryViews_77 (lv_at hl 11 rfl) ?_
        refine call_i (run_V (rm := rm_X7_addChoice) hx hb hml hown hts (s_X7_addChoice l g ad th _ _ _ 81 y37_l10 r135 y37_l11 hst hT (⟨by decide, by decide⟩ : In 81 0 99) (In.mk (by obtain ⟨o0a, o0b⟩ := (hy37_l10 : In _ _ _); obtain ⟨o1a, o1b⟩ := (hb123 : In _ _ _); obtain ⟨o2a, o2b⟩ := (hv11_18 : In _ _ _); omega) (by obtain ⟨o0a, o0b⟩ := (hy37_l10 : In _ _ _); obtain ⟨o1a, o1b⟩ := (hb123 : In _ _ _); obtain ⟨o2a, o2b⟩ := (hv11_18 : In _ _ _); omega))) cV_X7_addChoice wg_1062 ⟨Nat.le_of_ble_eq_true rfl, Nat.le_of_ble_eq_true rfl⟩ hG hE hA hP hD hS (hst.1 18 (by decide)) hf19 rfl rfl hl.1 (As := [.int 81, .int y37_l10, .int r135, .int y37_l11]) (rest := []) rfl (Nat.le_of_ble_eq_true rfl) dX7_tryViews_79 ⟨Nat.le_of_ble_eq_true rfl, Nat.le_of_ble_eq_true rfl⟩) hA hD hS (fun r140 L141 f142 H locs hp143 hP hD hS => ?_)
        obtain ⟨eL144L, eL144T, eL144F, eL144R, eL144X0⟩ := hp143
        have eL144L : L141 = L := eL144L
        rw [eL144L] at hP hD
        have hT : TI g ad th f142 := eL144T
        have eL144F : ∀ b, b ≠ (ad 21) → b ≠ (ad 22) → f142 b = f_37 b := eL144F
        have hf145 := (eL144F (ad 18) (hst.ne (by decide) (by decide) (by decide)) (hst.ne (by decide) (by decide) (by decide))).trans hf19
        have hf146 := (eL144F (ad 8) (hst.ne (by decide) (by decide) (by decide)) (hst.ne (by decide) (by decide) (by decide))).trans hf134
        have hfr : (∀ b, b ≠ (ad 18) → b ≠ (ad 21) → b ≠ (ad 22) → b ≠ (ad 23) → f142 b = f b) := fun b z0_ z1_ z2_ z3_ => (eL144F b z1_ z2_).trans (hfr b z0_ z1_ z2_ z3_)
        have eL144R : In r140 0 9 := eL144R
        have hac147 : r140.toInt ≤ y37_l10.toInt + 1 ∧ 1 ≤ r140.toInt := eL144X0
        refine lv_istore (lv' := [(10, .int r140), (12, .int r135), (0, .ref (ad 18)), (1, .int 4), (2, .int z2), (3, .long z3), (5, .int z4), (6, .int z5), (7, .int 81), (8, .int r6), (9, .int r13), (11, .int y37_l11)]) hx hb dX7_tryViews_82 hl (by decide) rfl (fun ls hl => ?_)
        obtain ⟨x148, ex148⟩ : ∃ y : Int32, y = y37_l11 + 1 := ⟨_, rfl⟩
        have hb149 : In x148 1 9 := ex148 ▸ In.add hb123 (⟨by decide, by decide⟩ : In 1 1 1) (by decide) (by decide) (by decide) (by decide)
        have et150 : x148.toInt = y37_l11.toInt + 1 := In.adde ex148 hb123 (k := 1) (by decide) (by decide) (by decide)
        refine lv_iinc (v := x148) (lv' := [(11, .int x148), (10, .int r140), (12, .int r135), (0, .ref (ad 18)), (1, .int 4), (2, .int z2), (3, .long z3), (5, .int z4), (6, .int z5), (7, .int 81), (8, .int r6), (9, .int r13)]) hx hb dX7_tryViews_84 hl (k := 11) rfl (by rw [ex148]; rfl) (by decide) rfl (fun ls hl => ?_)
        refine lv_goto (tgt := 37) hx hb dX7_tryViews_87 (by decide) ?_
        exact ih37 r140 x148 _ _ _ _ eL144R (In.mono hb149 (by decide) (by decide)) hP hD hS hT hfr (by obtain ⟨o0a, o0b⟩ := (eL144R : In _ _ _); obtain ⟨o1a, o1b⟩ := (hb149 : In _ _ _); obtain ⟨o2a, o2b⟩ := (hy37_l10 : In _ _ _); obtain ⟨o3a, o3b⟩ := (hb123 : In _ _ _); obtain ⟨o4a, o4b⟩ := (hv11_18 : In _ _ _); omega) (lv_sub hl [3, 4, 5, 6, 7, 8, 9, 10, 11, 1, 0] rfl) (msu et150 (by decide) hmz37)
  exact hJ37 ((9 - (0 : Int32).toInt).toNat + 1) 0 0 _ _ _ _ (⟨by decide, by decide⟩ : In 0 0 9) (⟨by decide, by decide⟩ : In 0 0 9) hP hD hS hT hfr (by have oc0 : (0 : Int32).toInt = 0 := (by decide); omega) (lv_sub hl [5, 6, 7, 8, 9, 10, 4, 3, 2, 1, 0] rfl) (msI _)

abbrev rm_X7_tryOffers_4 : Room := { frames := 8, cells := 0, slots := 0, locals := 269 }
abbrev po_X7_tryOffers_4 (g : GG) (ad : Nat → Nat) (th : Nat → Int) (L : List Nat) (f : HP) (z2 : Int32) (z3 : Int64) (z4 : Int32) : (List Nat × HP) → Prop := fun u => u.1 = L ∧ TI g ad th u.2 ∧ (∀ b, b ≠ (ad 18) → b ≠ (ad 21) → b ≠ (ad 22) → b ≠ (ad 23) → u.2 b = f b)
set_option maxHeartbeats 4000000 in
set_option maxRecDepth 100000 in
theorem s_X7_tryOffers_4 (l : Launch) (g : GG) (ad : Nat → Nat) (th : Nat → Int) (L : List Nat) (f : HP) (sz : Nat) (z2 : Int32) (z3 : Int64) (z4 : Int32) (hst : ST ad L) (hT : TI g ad th f) (hz2 : In z2 0 511) : MtV l g yX7_tryOffers cX7_tryOffers 16 rm_X7_tryOffers_4 [.ref (ad 18), .int 4, .int z2, .long z3, .int z4] L f sz (po_X7_tryOffers_4 g ad th L f z2 z3 z4) := by
  refine MtV.of (by decide +kernel) (Nat.le_of_ble_eq_true rfl) ?_
  intro p e s m below meth c A hEn hP hD hS ls hl
  obtain ⟨hx, hb, hr, hml, hown, hlocks, hts, hG, hA, hE, hnm⟩ := hEn
  have hown : s.vm.findClass "RulerWord$Search" = some m.cls := hown
  have hl : lv_has ls 16 [(0, .ref (ad 18)), (1, .int 4), (2, .int z2), (3, .long z3), (5, .int z4)] := hl
  have hfr : (∀ b, b ≠ (ad 18) → b ≠ (ad 21) → b ≠ (ad 22) → b ≠ (ad 23) → f b = f b) := fun b z0_ z1_ z2_ z3_ => rfl
  refine lv_iload_n hx hb dX7_tryOffers_0 rfl (lv_at hl 1 rfl) ?_
  refine lv_iconst (v := 2) hx hb dX7_tryOffers_1 (by decide) ?_
  refine lv_imul hx hb dX7_tryOffers_2 ?_
  refine lv_topi (fun x1 ex1 => ?_)
  obtain rfl : x1 = 8 := ex1.trans (by decide)
  refine lv_bipush (v := 9) hx hb dX7_tryOffers_3 (by decide) ?_
  refine lv_imul hx hb dX7_tryOffers_5 ?_
  refine lv_topi (fun x2 ex2 => ?_)
  obtain rfl : x2 = 72 := ex2.trans (by decide)
  refine lv_istore (lv' := [(6, .int 72), (0, .ref (ad 18)), (1, .int 4), (2, .int z2), (3, .long z3), (5, .int z4)]) hx hb dX7_tryOffers_6 hl (by decide) rfl (fun ls hl => ?_)
  refine lv_iload_n hx hb dX7_tryOffers_8 rfl (lv_at hl 3 rfl) ?_
  refine call_i (run_S (rm := rm_J6_bitCount_0f7a4) hx hb hml hown hts (s_J6_bitCount_0f7a4 l g ad th _ _ _ z2 hst hT ) cS_J6_bitCount_0f7a4 wg_1042 ⟨Nat.le_of_ble_eq_true rfl, Nat.le_of_ble_eq_true rfl⟩ hG hE hA hP hD hS rfl hl.1 (As := [.int z2]) (rest := []) rfl (Nat.le_of_ble_eq_true rfl) dX7_tryOffers_9 ⟨Nat.le_of_ble_eq_true rfl, Nat.le_of_ble_eq_true rfl⟩) hA hD hS (fun r3 L4 f5 H locs hp6 hP hD hS => ?_)
  obtain ⟨eL7L, eL7T, eL7R, eL7X0⟩ := hp6
  have eL7L : L4 = L := eL7L
  have eL7T : f5 = f := eL7T
  rw [eL7L, eL7T] at hP hD
  have eL7R : In r3 0 63 := eL7R
  have hb8 : In r3 0 9 := bc9 hz2 eL7X0
  refine lv_istore (lv' := [(7, .int r3), (6, .int 72), (0, .ref (ad 18)), (1, .int 4), (2, .int z2), (3, .long z3), (5, .int z4)]) hx hb dX7_tryOffers_12 hl (by decide) rfl (fun ls hl => ?_)
  refine lv_iconst (v := 0) hx hb dX7_tryOffers_14 (by decide) ?_
  refine lv_istore (lv' := [(8, .int 0), (7, .int r3), (6, .int 72), (0, .ref (ad 18)), (1, .int 4), (2, .int z2), (3, .long z3), (5, .int z4)]) hx hb dX7_tryOffers_15 hl (by decide) rfl (fun ls hl => ?_)
  refine lv_iconst (v := 0) hx hb dX7_tryOffers_17 (by decide) ?_
  refine lv_istore (lv' := [(9, .int 0), (8, .int 0), (7, .int r3), (6, .int 72), (0, .ref (ad 18)), (1, .int 4), (2, .int z2), (3, .long z3), (5, .int z4)]) hx hb dX7_tryOffers_18 hl (by decide) rfl (fun ls hl => ?_)
  have hJ20 : ∀ (k20 : Nat) (y20_l8 : Int32) (y20_l9 : Int32) (f_20 : HP) (H : Heap) (locs : List Loc) (ls : Array Slot), In y20_l8 0 9 → In y20_l9 0 9 → va_P g.1 vwCl (va_pl L f_20) H → va_D A (va_pl L f_20) → va_S A s.heap H locs → TI g ad th f_20 → (∀ b, b ≠ (ad 18) → b ≠ (ad 21) → b ≠ (ad 22) → b ≠ (ad 23) → f_20 b = f b) → (y20_l8.toInt ≤ y20_l9.toInt ∧ (y20_l9.toInt = 0 ∨ 1 ≤ y20_l8.toInt)) → lv_has ls 16 [(0, .ref (ad 18)), (1, .int 4), (2, .int z2), (3, .long z3), (5, .int z4), (6, .int 72), (7, .int r3), (8, .int y20_l8), (9, .int y20_l9)] → 9 - y20_l9.toInt < ((k20 : Nat) : Int) → W p l e rm_X7_tryOffers_4 s m [.ref (ad 18), .int 4, .int z2, .long z3, .int z4].toArray below meth c H locs 0 0 (MQ below (va_Qv (po_X7_tryOffers_4 g ad th L f z2 z3 z4) (PstB g A) A) [.ref (ad 18), .int 4, .int z2, .long z3, .int z4].toArray s rm_X7_tryOffers_4.cells rm_X7_tryOffers_4.slots A) (F0 m 20 ls []) := by
    intro k20
    induction k20 with
    | zero =>
      intro y20_l8 y20_l9 f_20 H locs ls hy20_l8 hy20_l9 hP hD hS hT hfr hinv20_0 hl hmz20
      exact ms0 hy20_l9 hmz20
    | succ k20 ih20 =>
      intro y20_l8 y20_l9 f_20 H locs ls hy20_l8 hy20_l9 hP hD hS hT hfr hinv20_0 hl hmz20
      refine lv_iload hx hb dX7_tryOffers_20 (lv_at hl 8 rfl) ?_
      refine lv_aload_n hx hb dX7_tryOffers_22 rfl (lv_at hl 0 rfl) ?_
      obtain ⟨v6_9, v7_9, v8_9, v9_9, v10_9, v11_9, v12_9, v13_9, hf10, hv8_9, hv9_9, hv10_9, hv11_9, hv13_9⟩ := hT.1 18 (by decide)
      refine pl_get (v := .int v11_9) hx hb hts (fun w h => mT (inX7 w h)) hown hG.1 hP (hst.1 18 (by decide)) hf10 rfl 11 (by decide) (hts _ (mT wg_443)) (fun _ h => h) rfl dX7_tryOffers_23 ?_
      refine lv_icmp_gt (tgt := 76) hx hb dX7_tryOffers_26 (by decide) (fun c11 => ?_) (fun c11 => ?_)
      ·
        have cc12 : v11_9.toInt < y20_l9.toInt := i32_lt.mp c11
        have hb13 : In y20_l9 1 9 := In.gt1 hy20_l9 hv11_9 cc12 (by omega) (by omega)
        refine lv_aload_n hx hb dX7_tryOffers_76 rfl (lv_at hl 0 rfl) ?_
        refine lv_iload hx hb dX7_tryOffers_77 (lv_at hl 7 rfl) ?_
        refine call_i (run_V (rm := rm_X7_power) hx hb hml hown hts (s_X7_power l g ad th _ _ _ y20_l8 hst hT ) cV_X7_power wg_1066 ⟨Nat.le_of_ble_eq_true rfl, Nat.le_of_ble_eq_true rfl⟩ hG hE hA hP hD hS (hst.1 18 (by decide)) hf10 rfl rfl hl.1 (As := [.int y20_l8]) (rest := []) rfl (Nat.le_of_ble_eq_true rfl) dX7_tryOffers_79 ⟨Nat.le_of_ble_eq_true rfl, Nat.le_of_ble_eq_true rfl⟩) hA hD hS (fun r14 L15 f16 H locs hp17 hP hD hS => ?_)
        obtain ⟨eL18L, eL18T⟩ := hp17
        have eL18L : L15 = L := eL18L
        have eL18T : f16 = f_20 := eL18T
        rw [eL18L, eL18T] at hP hD
        refine lv_istore (lv' := [(9, .int r14), (0, .ref (ad 18)), (1, .int 4), (2, .int z2), (3, .long z3), (5, .int z4), (6, .int 72), (7, .int r3), (8, .int y20_l8)]) hx hb dX7_tryOffers_82 hl (by decide) rfl (fun ls hl => ?_)
        refine lv_iconst (v := 0) hx hb dX7_tryOffers_84 (by decide) ?_
        refine lv_istore (lv' := [(10, .int 0), (9, .int r14), (0, .ref (ad 18)), (1, .int 4), (2, .int z2), (3, .long z3), (5, .int z4), (6, .int 72), (7, .int r3), (8, .int y20_l8)]) hx hb dX7_tryOffers_85 hl (by decide) rfl (fun ls hl => ?_)
        have hJ87 : ∀ (k87 : Nat) (y87_l10 : Int32) (f_87 : HP) (H : Heap) (locs : List Loc) (ls : Array Slot), In y87_l10 0 2147483647 → va_P g.1 vwCl (va_pl L f_87) H → va_D A (va_pl L f_87) → va_S A s.heap H locs → TI g ad th f_87 → (∀ b, b ≠ (ad 18) → b ≠ (ad 21) → b ≠ (ad 22) → b ≠ (ad 23) → f_87 b = f b) → lv_has ls 16 [(0, .ref (ad 18)), (1, .int 4), (2, .int z2), (3, .long z3), (5, .int z4), (6, .int 72), (7, .int r3), (8, .int y20_l8), (9, .int r14), (10, .int y87_l10)] → 2147483647 - y87_l10.toInt < ((k87 : Nat) : Int) → W p l e rm_X7_tryOffers_4 s m [.ref (ad 18), .int 4, .int z2, .long z3, .int z4].toArray below meth c H locs 0 0 (MQ below (va_Qv (po_X7_tryOffers_4 g ad th L f z2 z3 z4) (PstB g A) A) [.ref (ad 18), .int 4, .int z2, .long z3, .int z4].toArray s rm_X7_tryOffers_4.cells rm_X7_tryOffers_4.slots A) (F0 m 87 ls []) := by
          intro k87
          induction k87 with
          | zero =>
            intro y87_l10 f_87 H locs ls hy87_l10 hP hD hS hT hfr hl hmz87
            exact ms0 hy87_l10 hmz87
          | succ k87 ih87 =>
            intro y87_l10 f_87 H locs ls hy87_l10 hP hD hS hT hfr hl hmz87
            refine lv_iload hx hb dX7_tryOffers_87 (lv_at hl 9 rfl) ?_
            refine lv_iload hx hb dX7_tryOffers_89 (lv_at hl 8 rfl) ?_
            refine lv_icmp_ge (tgt := 211) hx hb dX7_tryOffers_91 (by decide) (fun c19 => ?_) (fun c19 => ?_)
            ·
              have cc20 : r14.toInt ≤ y87_l10.toInt := i32_le.mp c19
              exact ret_v hx hb hr hlocks hP hD hS (Nat.le_of_ble_eq_true rfl) (Nat.le_of_ble_eq_true rfl) (⟨rfl, hT, hfr⟩) dX7_tryOffers_211
            ·
              have cc21 : y87_l10.toInt < r14.toInt := i32_nle c19
              have hb22 : In y87_l10 0 2147483646 := In.lt1 hy87_l10 (In.full r14) cc21 (by omega) (by omega)
              have hb23 : In r14 1 2147483647 := In.lt2 hy87_l10 (In.full r14) cc21 (by omega) (by omega)
              refine lv_aload_n hx hb dX7_tryOffers_94 rfl (lv_at hl 0 rfl) ?_
              obtain ⟨v6_24, v7_24, v8_24, v9_24, v10_24, v11_24, v12_24, v13_24, hf25, hv8_24, hv9_24, hv10_24, hv11_24, hv13_24⟩ := hT.1 18 (by decide)
              refine call_i (run_V (rm := rm_X7_isEnough) hx hb hml hown hts (s_X7_isEnough l g ad th _ _ _  hst hT ) cV_X7_isEnough wg_1070 ⟨Nat.le_of_ble_eq_true rfl, Nat.le_of_ble_eq_true rfl⟩ hG hE hA hP hD hS (hst.1 18 (by decide)) hf25 rfl rfl hl.1 (As := []) (rest := []) rfl (Nat.le_of_ble_eq_true rfl) dX7_tryOffers_95 ⟨Nat.le_of_ble_eq_true rfl, Nat.le_of_ble_eq_true rfl⟩) hA hD hS (fun r26 L27 f28 H locs hp29 hP hD hS => ?_)
              obtain ⟨eL30L, eL30T, eL30R⟩ := hp29
              have eL30L : L27 = L := eL30L
              have eL30T : f28 = f_87 := eL30T
              rw [eL30L, eL30T] at hP hD
              have eL30R : In r26 0 1 := eL30R
              refine lv_if_ne (tgt := 211) hx hb dX7_tryOffers_98 (by decide) (fun c31 => ?_) (fun c31 => ?_)
              ·
                have oc0 : (0 : Int32).toInt = 0 := by decide
                have cc32 : r26.toInt ≠ (0 : Int32).toInt := i32_ne c31
                have hb33 : In r26 1 1 := In.ne1 eL30R (⟨by decide, by decide⟩ : In 0 0 0) cc32 (by omega) (by omega)
                exact ret_v hx hb hr hlocks hP hD hS (Nat.le_of_ble_eq_true rfl) (Nat.le_of_ble_eq_true rfl) (⟨rfl, hT, hfr⟩) dX7_tryOffers_211
              ·
                have oc0 : (0 : Int32).toInt = 0 := by decide
                have cc34 : r26.toInt = (0 : Int32).toInt := congrArg Int32.toInt c31
                have hb35 : In r26 0 0 := In.eq1 eL30R (⟨by decide, by decide⟩ : In 0 0 0) cc34 (by omega) (by omega)
                refine lv_iconst (v := 0) hx hb dX7_tryOffers_101 (by decide) ?_
                refine lv_istore (lv' := [(11, .int 0), (0, .ref (ad 18)), (1, .int 4), (2, .int z2), (3, .long z3), (5, .int z4), (6, .int 72), (7, .int r3), (8, .int y20_l8), (9, .int r14), (10, .int y87_l10)]) hx hb dX7_tryOffers_102 hl (by decide) rfl (fun ls hl => ?_)
                refine lv_iload hx hb dX7_tryOffers_104 (lv_at hl 10 rfl) ?_
                refine lv_istore (lv' := [(12, .int y87_l10), (11, .int 0), (0, .ref (ad 18)), (1, .int 4), (2, .int z2), (3, .long z3), (5, .int z4), (6, .int 72), (7, .int r3), (8, .int y20_l8), (9, .int r14), (10, .int y87_l10)]) hx hb dX7_tryOffers_106 hl (by decide) rfl (fun ls hl => ?_)
                refine lv_iload hx hb dX7_tryOffers_108 (lv_at hl 6 rfl) ?_
                refine lv_istore (lv' := [(13, .int z4), (12, .int y87_l10), (11, .int 0), (0, .ref (ad 18)), (1, .int 4), (2, .int z2), (3, .long z3), (5, .int z4), (6, .int 72), (7, .int r3), (8, .int y20_l8), (9, .int r14), (10, .int y87_l10)]) hx hb dX7_tryOffers_110 hl (by decide) rfl (fun ls hl => ?_)
                refine lv_iconst (v := 0) hx hb dX7_tryOffers_112 (by decide) ?_
                refine lv_istore (lv' := [(14, .int 0), (13, .int z4), (12, .int y87_l10), (11, .int 0), (0, .ref (ad 18)), (1, .int 4), (2, .int z2), (3, .long z3), (5, .int z4), (6, .int 72), (7, .int r3), (8, .int y20_l8), (9, .int r14), (10, .int y87_l10)]) hx hb dX7_tryOffers_113 hl (by decide) rfl (fun ls hl => ?_)
                have hJ115 : ∀ (k115 : Nat) (y115_l11 : Int32) (y115_l12 : Int32) (y115_l13 : Int32) (y115_l14 : Int32) (H : Heap) (locs : List Loc) (ls : Array Slot), In y115_l11 (-2147483648) 2147483647 → In y115_l12 0 2147483647 → In y115_l13 (-2147483648) 2147483647 → In y115_l14 0 9 → va_P g.1 vwCl (va_pl L f_87) H → va_D A (va_pl L f_87) → va_S A s.heap H locs → lv_has ls 16 [(0, .ref (ad 18)), (1, .int 4), (2, .int z2), (3, .long z3), (5, .int z4), (6, .int 72), (7, .int r3), (8, .int y20_l8), (9, .int r14), (10, .int y87_l10), (11, .int y115_l11), (12, .int y115_l12), (13, .int y115_l13), (14, .int y115_l14)] → 9 - y115_l14.toInt < ((k115 : Nat) : Int) → W p l e rm_X7_tryOffers_4 s m [.ref (ad 18), .int 4, .int z2, .long z3, .int z4].toArray below meth c H locs 0 0 (MQ below (va_Qv (po_X7_tryOffers_4 g ad th L f z2 z3 z4) (PstB g A) A) [.ref (ad 18), .int 4, .int z2, .long z3, .int z4].toArray s rm_X7_tryOffers_4.cells rm_X7_tryOffers_4.slots A) (F0 m 115 ls []) := by
                  intro k115
                  induction k115 with
                  | zero =>
                    intro y115_l11 y115_l12 y115_l13 y115_l14 H locs ls hy115_l11 hy115_l12 hy115_l13 hy115_l14 hP hD hS hl hmz115
                    exact ms0 hy115_l14 hmz115
                  | succ k115 ih115 =>
                    intro y115_l11 y115_l12 y115_l13 y115_l14 H locs ls hy115_l11 hy115_l12 hy115_l13 hy115_l14 hP hD hS hl hmz115
                    refine lv_iload hx hb dX7_tryOffers_115 (lv_at hl 13 rfl) ?_
                    refine lv_aload_n hx hb dX7_tryOffers_117 rfl (lv_at hl 0 rfl) ?_
                    refine pl_get (v := .int v10_24) hx hb hts (fun w h => mT (inX7 w h)) hown hG.1 hP (hst.1 18 (by decide)) hf25 rfl 10 (by decide) (hts _ (mT wg_442)) (fun _ h => h) rfl dX7_tryOffers_118 ?_
                    refine lv_icmp_ge (tgt := 194) hx hb dX7_tryOffers_121 (by decide) (fun c36 => ?_) (fun c36 => ?_)
                    ·
                      have cc37 : v10_24.toInt ≤ y115_l14.toInt := i32_le.mp c36
                      refine lv_aload_n hx hb dX7_tryOffers_194 rfl (lv_at hl 0 rfl) ?_
                      refine lv_iload_n hx hb dX7_tryOffers_195 rfl (lv_at hl 1 rfl) ?_
                      refine lv_iload_n hx hb dX7_tryOffers_196 rfl (lv_at hl 2 rfl) ?_
                      refine lv_lload_n hx hb dX7_tryOffers_197 rfl (lv_at hl 3 rfl) ?_
                      refine lv_iload hx hb dX7_tryOffers_198 (lv_at hl 10 rfl) ?_
                      refine lv_iload hx hb dX7_tryOffers_200 (lv_at hl 12 rfl) ?_
                      refine call_v (run_V (rm := rm_X7_tryViews_4) hx hb hml hown hts (s_X7_tryViews_4 l g ad th _ _ _ z2 z3 y115_l11 y115_l13 hst hT hz2) cV_X7_tryViews wg_1081 ⟨Nat.le_of_ble_eq_true rfl, Nat.le_of_ble_eq_true rfl⟩ hG hE hA hP hD hS (hst.1 18 (by decide)) hf25 rfl rfl hl.1 (As := [.int 4, .int z2, .long z3, .int y115_l11, .int y115_l13]) (rest := []) rfl (Nat.le_of_ble_eq_true rfl) dX7_tryOffers_202 ⟨Nat.le_of_ble_eq_true rfl, Nat.le_of_ble_eq_true rfl⟩) hA hD hS (fun L39 f40 H locs hp41 hP hD hS => ?_)
                      obtain ⟨eL42L, eL42T, eL42F⟩ := hp41
                      have eL42L : L39 = L := eL42L
                      rw [eL42L] at hP hD
                      have hT : TI g ad th f40 := eL42T
                      have eL42F : ∀ b, b ≠ (ad 18) → b ≠ (ad 21) → b ≠ (ad 22) → b ≠ (ad 23) → f40 b = f_87 b := eL42F
                      have hfr : (∀ b, b ≠ (ad 18) → b ≠ (ad 21) → b ≠ (ad 22) → b ≠ (ad 23) → f40 b = f b) := fun b z0_ z1_ z2_ z3_ => (eL42F b z0_ z1_ z2_ z3_).trans (hfr b z0_ z1_ z2_ z3_)
                      obtain ⟨x43, ex43⟩ : ∃ y : Int32, y = y87_l10 + 1 := ⟨_, rfl⟩
                      have hb44 : In x43 1 2147483647 := ex43 ▸ In.add hb22 (⟨by decide, by decide⟩ : In 1 1 1) (by decide) (by decide) (by decide) (by decide)
                      have et45 : x43.toInt = y87_l10.toInt + 1 := In.adde ex43 hb22 (k := 1) (by decide) (by decide) (by decide)
                      refine lv_iinc (v := x43) (lv' := [(10, .int x43), (0, .ref (ad 18)), (1, .int 4), (2, .int z2), (3, .long z3), (5, .int z4), (6, .int 72), (7, .int r3), (8, .int y20_l8), (9, .int r14), (11, .int y115_l11), (12, .int y115_l12), (13, .int y115_l13), (14, .int y115_l14)]) hx hb dX7_tryOffers_205 hl (k := 9) rfl (by rw [ex43]; rfl) (by decide) rfl (fun ls hl => ?_)
                      refine lv_goto (tgt := 87) hx hb dX7_tryOffers_208 (by decide) ?_
                      exact ih87 x43 _ _ _ _ (In.mono hb44 (by decide) (by decide)) hP hD hS hT hfr (lv_sub hl [1, 2, 3, 4, 5, 6, 7, 8, 9, 0] rfl) (msu et45 (by decide) hmz87)
                    ·
                      have cc46 : y115_l14.toInt < v10_24.toInt := i32_nle c36
                      have hb47 : In y115_l14 0 8 := In.lt1 hy115_l14 hv10_24 cc46 (by omega) (by omega)
                      have hb48 : In v10_24 1 9 := In.lt2 hy115_l14 hv10_24 cc46 (by omega) (by omega)
                      refine lv_iload hx hb dX7_tryOffers_124 (lv_at hl 5 rfl) ?_
                      refine lv_iload hx hb dX7_tryOffers_126 (lv_at hl 11 rfl) ?_
                      refine lv_iload hx hb dX7_tryOffers_128 (lv_at hl 7 rfl) ?_
                      have hb49 : In y20_l8 1 9 := In.mk (by obtain ⟨o0a, o0b⟩ := (hy20_l8 : In _ _ _); obtain ⟨o1a, o1b⟩ := (hb13 : In _ _ _); obtain ⟨o2a, o2b⟩ := (hv11_9 : In _ _ _); omega) (by obtain ⟨o0a, o0b⟩ := (hy20_l8 : In _ _ _); obtain ⟨o1a, o1b⟩ := (hb13 : In _ _ _); obtain ⟨o2a, o2b⟩ := (hv11_9 : In _ _ _); omega)
                      refine lv_irem hx hb dX7_tryOffers_130 (In.ne0 hb49 (by decide)) ?_
                      refine lv_topi (fun x50 ex50 => ?_)
                      have hb51 : In x50 0 8 := ex50 ▸ In.rem hy115_l12 hb49 (by decide) (by decide) (by decide)
                      refine lv_iadd hx hb dX7_tryOffers_131 ?_
                      refine lv_topi (fun x52 ex52 => ?_)
                      have hb53 : In x52 72 80 := ex52 ▸ In.add (⟨by decide, by decide⟩ : In 72 72 72) hb51 (by decide) (by decide) (by decide) (by decide)
                      have et54 : x52.toInt = (72 : Int32).toInt + x50.toInt := In.add2e ex52 (⟨by decide, by decide⟩ : In 72 72 72) hb51 (by decide) (by decide)
                      refine lv_istore (lv' := [(15, .int x52), (0, .ref (ad 18)), (1, .int 4), (2, .int z2), (3, .long z3), (5, .int z4), (6, .int 72), (7, .int r3), (8, .int y20_l8), (9, .int r14), (10, .int y87_l10), (11, .int y115_l11), (12, .int y115_l12), (13, .int y115_l13), (14, .int y115_l14)]) hx hb dX7_tryOffers_132 hl (by decide) rfl (fun ls hl => ?_)
                      refine lv_iload hx hb dX7_tryOffers_134 (lv_at hl 12 rfl) ?_
                      refine lv_iload hx hb dX7_tryOffers_136 (lv_at hl 8 rfl) ?_
                      refine lv_idiv hx hb dX7_tryOffers_138 (In.ne0 hb49 (by decide)) ?_
                      refine lv_topi (fun x55 ex55 => ?_)
                      have hb56 : In x55 0 2147483647 := ex55 ▸ In.div hy115_l12 hb49 (by decide) (by decide) (by decide) (by decide)
                      refine lv_istore (lv' := [(12, .int x55), (15, .int x52), (0, .ref (ad 18)), (1, .int 4), (2, .int z2), (3, .long z3), (5, .int z4), (6, .int 72), (7, .int r3), (8, .int y20_l8), (9, .int r14), (10, .int y87_l10), (11, .int y115_l11), (13, .int y115_l13), (14, .int y115_l14)]) hx hb dX7_tryOffers_139 hl (by decide) rfl (fun ls hl => ?_)
                      refine lv_iload hx hb dX7_tryOffers_141 (lv_at hl 12 rfl) ?_
                      refine lv_aload_n hx hb dX7_tryOffers_143 rfl (lv_at hl 2 rfl) ?_
                      refine pl_get (v := .ref (ad 21)) hx hb hts (fun w h => mT (inX7 w h)) hown hG.1 hP (hst.1 18 (by decide)) hf25 rfl 3 (by decide) (hts _ (mT wg_435)) (fun _ h => h) rfl dX7_tryOffers_144 ?_
                      refine lv_iload hx hb dX7_tryOffers_147 (lv_at hl 1 rfl) ?_
                      obtain ⟨rw57, hf58⟩ := hT.1 21 (by decide)
                      have hin59 : vp_in x52 108 := In.inb hb53 (by decide) (by decide)
                      refine pl_iald hx hb hG.1 hP (hst.1 21 (by decide)) 0 hf58 rfl hin59 dX7_tryOffers_149 ?_
                      refine lv_topi (fun x60 ex60 => ?_)
                      refine lv_aload_n hx hb dX7_tryOffers_150 rfl (lv_at hl 2 rfl) ?_
                      refine pl_get (v := .ref (ad 19)) hx hb hts (fun w h => mT (inX7 w h)) hown hG.1 hP (hst.1 18 (by decide)) hf25 rfl 1 (by decide) (hts _ (mT wg_433)) (fun _ h => h) rfl dX7_tryOffers_151 ?_
                      refine lv_iload hx hb dX7_tryOffers_154 (lv_at hl 14 rfl) ?_
                      obtain ⟨rw61, hf62, hc63⟩ := hT.1 19 (by decide)
                      have hin64 : vp_in y115_l14 9 := In.inb hb47 (by decide) (by decide)
                      refine pl_iald hx hb hG.1 hP (hst.1 19 (by decide)) 0 hf62 rfl hin64 dX7_tryOffers_156 ?_
                      refine lv_topi (fun x65 ex65 => ?_)
                      have hb66 : In x65 0 8 := by rw [ex65]; exact hc63 _ (vp_nat hin64)
                      refine call_i (run_S (rm := rm_X7_wordOf) hx hb hml hown hts (s_X7_wordOf l g ad th _ _ _ x60 x65 hst hT ) cS_X7_wordOf wg_1074 ⟨Nat.le_of_ble_eq_true rfl, Nat.le_of_ble_eq_true rfl⟩ hG hE hA hP hD hS rfl hl.1 (As := [.int x60, .int x65]) (rest := [.int y115_l11]) rfl (Nat.le_of_ble_eq_true rfl) dX7_tryOffers_157 ⟨Nat.le_of_ble_eq_true rfl, Nat.le_of_ble_eq_true rfl⟩) hA hD hS (fun r67 L68 f69 H locs hp70 hP hD hS => ?_)
                      obtain ⟨eL71L, eL71T⟩ := hp70
                      have eL71L : L68 = L := eL71L
                      have eL71T : f69 = f_87 := eL71T
                      rw [eL71L, eL71T] at hP hD
                      refine lv_ior hx hb dX7_tryOffers_160 ?_
                      refine lv_topi (fun x72 ex72 => ?_)
                      refine lv_istore (lv' := [(11, .int x72), (12, .int x55), (15, .int x52), (0, .ref (ad 18)), (1, .int 4), (2, .int z2), (3, .long z3), (5, .int z4), (6, .int 72), (7, .int r3), (8, .int y20_l8), (9, .int r14), (10, .int y87_l10), (13, .int y115_l13), (14, .int y115_l14)]) hx hb dX7_tryOffers_161 hl (by decide) rfl (fun ls hl => ?_)
                      refine lv_iload hx hb dX7_tryOffers_163 (lv_at hl 13 rfl) ?_
                      refine lv_aload_n hx hb dX7_tryOffers_165 rfl (lv_at hl 3 rfl) ?_
                      refine lv_aload_n hx hb dX7_tryOffers_166 rfl (lv_at hl 3 rfl) ?_
                      refine pl_get (v := .ref (ad 22)) hx hb hts (fun w h => mT (inX7 w h)) hown hG.1 hP (hst.1 18 (by decide)) hf25 rfl 4 (by decide) (hts _ (mT wg_436)) (fun _ h => h) rfl dX7_tryOffers_167 ?_
                      refine lv_iload hx hb dX7_tryOffers_170 (lv_at hl 2 rfl) ?_
                      obtain ⟨rw73, hf74⟩ := hT.1 22 (by decide)
                      have hin75 : vp_in x52 108 := In.inb hb53 (by decide) (by decide)
                      refine pl_iald hx hb hG.1 hP (hst.1 22 (by decide)) 0 hf74 rfl hin75 dX7_tryOffers_172 ?_
                      refine lv_topi (fun x76 ex76 => ?_)
                      refine lv_aload_n hx hb dX7_tryOffers_173 rfl (lv_at hl 3 rfl) ?_
                      refine pl_get (v := .ref (ad 20)) hx hb hts (fun w h => mT (inX7 w h)) hown hG.1 hP (hst.1 18 (by decide)) hf25 rfl 2 (by decide) (hts _ (mT wg_434)) (fun _ h => h) rfl dX7_tryOffers_174 ?_
                      refine lv_iload_n hx hb dX7_tryOffers_177 rfl (lv_at hl 4 rfl) ?_
                      obtain ⟨rw77, hf78⟩ := hT.1 20 (by decide)
                      have hin79 : vp_in 4 7 := In.inb (⟨by decide, by decide⟩ : In 4 4 4) (by decide) (by decide)
                      refine pl_iald hx hb hG.1 hP (hst.1 20 (by decide)) 0 hf78 rfl hin79 dX7_tryOffers_178 ?_
                      refine lv_topi (fun x80 ex80 => ?_)
                      refine lv_iload hx hb dX7_tryOffers_179 (lv_at hl 14 rfl) ?_
                      refine lv_iadd hx hb dX7_tryOffers_181 ?_
                      refine lv_topi (fun x81 ex81 => ?_)
                      refine call_i (run_V (rm := rm_X7_bitsOf) hx hb hml hown hts (s_X7_bitsOf l g ad th _ _ _ x76 x81 hst hT ) cV_X7_bitsOf wg_1077 ⟨Nat.le_of_ble_eq_true rfl, Nat.le_of_ble_eq_true rfl⟩ hG hE hA hP hD hS (hst.1 18 (by decide)) hf25 rfl rfl hl.1 (As := [.int x76, .int x81]) (rest := [.int y115_l13]) rfl (Nat.le_of_ble_eq_true rfl) dX7_tryOffers_182 ⟨Nat.le_of_ble_eq_true rfl, Nat.le_of_ble_eq_true rfl⟩) hA hD hS (fun r82 L83 f84 H locs hp85 hP hD hS => ?_)
                      obtain ⟨eL86L, eL86T⟩ := hp85
                      have eL86L : L83 = L := eL86L
                      have eL86T : f84 = f_87 := eL86T
                      rw [eL86L, eL86T] at hP hD
                      refine lv_ior hx hb dX7_tryOffers_185 ?_
                      refine lv_topi (fun x87 ex87 => ?_)
                      refine lv_istore (lv' := [(13, .int x87), (11, .int x72), (12, .int x55), (15, .int x52), (0, .ref (ad 18)), (1, .int 4), (2, .int z2), (3, .long z3), (5, .int z4), (6, .int 72), (7, .int r3), (8, .int y20_l8), (9, .int r14), (10, .int y87_l10), (14, .int y115_l14)]) hx hb dX7_tryOffers_186 hl (by decide) rfl (fun ls hl => ?_)
                      obtain ⟨x88, ex88⟩ : ∃ y : Int32, y = y115_l14 + 1 := ⟨_, rfl⟩
                      have hb89 : In x88 1 9 := ex88 ▸ In.add hb47 (⟨by decide, by decide⟩ : In 1 1 1) (by decide) (by decide) (by decide) (by decide)
                      have et90 : x88.toInt = y115_l14.toInt + 1 := In.adde ex88 hb47 (k := 1) (by decide) (by decide) (by decide)
                      refine lv_iinc (v := x88) (lv' := [(14, .int x88), (13, .int x87), (11, .int x72), (12, .int x55), (15, .int x52), (0, .ref (ad 18)), (1, .int 4), (2, .int z2), (3, .long z3), (5, .int z4), (6, .int 72), (7, .int r3), (8, .int y20_l8), (9, .int r14), (10, .int y87_l10)]) hx hb dX7_tryOffers_188 hl (k := 14) rfl (by rw [ex88]; rfl) (by decide) rfl (fun ls hl => ?_)
                      refine lv_goto (tgt := 115) hx hb dX7_tryOffers_191 (by decide) ?_
                      exact ih115 x72 x55 x87 x88 _ _ _ (In.full x72) hb56 (In.full x87) (In.mono hb89 (by decide) (by decide)) hP hD hS (lv_sub hl [5, 6, 7, 8, 9, 10, 11, 12, 13, 14, 2, 3, 1, 0] rfl) (msu et90 (by decide) hmz115)
                exact hJ115 ((9 - (0 : Int32).toInt).toNat + 1) 0 y87_l10 z4 0 _ _ _ (⟨by decide, by decide⟩ : In 0 (-2147483648) 2147483647) (In.mono hb22 (by decide) (by decide)) (In.full z4) (⟨by decide, by decide⟩ : In 0 0 9) hP hD hS (lv_sub hl [4, 5, 6, 7, 8, 9, 10, 11, 12, 13, 3, 2, 1, 0] rfl) (msI _)
        exact hJ87 ((2147483647 - (0 : Int32).toInt).toNat + 1) 0 _ _ _ _ (⟨by decide, by decide⟩ : In 0 0 2147483647) hP hD hS hT hfr (lv_sub hl [2, 3, 4, 5, 6, 7, 8, 9, 1, 0] rfl) (msI _)
      ·
        have cc91 : y20_l9.toInt ≤ v11_9.toInt := i32_nlt c11
        have hb92 : In y20_l9 0 8 := In.le1 hy20_l9 hv11_9 cc91 (by omega) (by omega)
        refine lv_aload_n hx hb dX7_tryOffers_29 rfl (lv_at hl 0 rfl) ?_
        refine pl_get (v := .ref (ad 8)) hx hb hts (fun w h => mT (inX7 w h)) hown hG.1 hP (hst.1 18 (by decide)) hf10 rfl 0 (by decide) (hts _ (mT wg_432)) (fun _ h => h) rfl dX7_tryOffers_30 ?_
        refine lv_aload_n hx hb dX7_tryOffers_33 rfl (lv_at hl 0 rfl) ?_
        refine pl_get (v := .ref (ad 8)) hx hb hts (fun w h => mT (inX7 w h)) hown hG.1 hP (hst.1 18 (by decide)) hf10 rfl 0 (by decide) (hts _ (mT wg_432)) (fun _ h => h) rfl dX7_tryOffers_34 ?_
        obtain ⟨v0_93, v1_93, v2_93, v3_93, v4_93, v5_93, v6_93, v7_93, hf94, hv0_93, hv1_93, hv2_93, hv3_93, hv5_93, hv6_93⟩ := hT.1 8 (by decide)
        refine pl_getN (v := .int v1_93) hx hb hts (fun w h => mT (inX2 w h)) hown hG.1 hP (hst.1 8 (by decide)) hf94 rfl 1 (by decide) (hG.2.1 _ wn_229) (fun _ h => h) rfl dX7_tryOffers_37 ?_
        refine lv_iload hx hb dX7_tryOffers_40 (lv_at hl 6 rfl) ?_
        refine lv_isub hx hb dX7_tryOffers_42 ?_
        refine lv_topi (fun x95 ex95 => ?_)
        have hb96 : In x95 (-9) 9 := ex95 ▸ In.sub hv1_93 hb8 (by decide) (by decide) (by decide) (by decide)
        have et97 : x95.toInt = v1_93.toInt - r3.toInt := In.sub2e ex95 hv1_93 hb8 (by decide) (by decide)
        refine lv_iload hx hb dX7_tryOffers_43 (lv_at hl 8 rfl) ?_
        refine lv_isub hx hb dX7_tryOffers_45 ?_
        refine lv_topi (fun x98 ex98 => ?_)
        have hb99 : In x98 (-17) 9 := ex98 ▸ In.sub hb96 hb92 (by decide) (by decide) (by decide) (by decide)
        have et100 : x98.toInt = x95.toInt - y20_l9.toInt := In.sub2e ex98 hb96 hb92 (by decide) (by decide)
        refine lv_iload hx hb dX7_tryOffers_46 (lv_at hl 6 rfl) ?_
        refine lv_iload hx hb dX7_tryOffers_48 (lv_at hl 8 rfl) ?_
        refine lv_iadd hx hb dX7_tryOffers_50 ?_
        refine lv_topi (fun x101 ex101 => ?_)
        have hb102 : In x101 0 17 := ex101 ▸ In.add hb8 hb92 (by decide) (by decide) (by decide) (by decide)
        have et103 : x101.toInt = r3.toInt + y20_l9.toInt := In.add2e ex101 hb8 hb92 (by decide) (by decide)
        refine call_i (run_VN (rm := rm_X2_offer_ru) hx hb hml hown hts (s_X2_offer_ru l g ad th _ _ _ x98 x101 hst hT ) cV_X2_offer wn_1061 ⟨Nat.le_of_ble_eq_true rfl, Nat.le_of_ble_eq_true rfl⟩ hG hE hA hP hD hS (hst.1 8 (by decide)) hf94 rfl rfl hl.1 (As := [.int x98, .int x101]) (rest := []) rfl (Nat.le_of_ble_eq_true rfl) dX7_tryOffers_51 ⟨Nat.le_of_ble_eq_true rfl, Nat.le_of_ble_eq_true rfl⟩) hA hD hS (fun r104 L105 f106 H locs hp107 hP hD hS => ?_)
        obtain ⟨eL108L, eL108T, eL108R⟩ := hp107
        have eL108L : L105 = L := eL108L
        have eL108T : f106 = f_20 := eL108T
        rw [eL108L, eL108T] at hP hD
        have eL108R : In r104 0 2 := eL108R
        refine lv_istore (lv' := [(10, .int r104), (0, .ref (ad 18)), (1, .int 4), (2, .int z2), (3, .long z3), (5, .int z4), (6, .int 72), (7, .int r3), (8, .int y20_l8), (9, .int y20_l9)]) hx hb dX7_tryOffers_54 hl (by decide) rfl (fun ls hl => ?_)
        refine lv_aload_n hx hb dX7_tryOffers_56 rfl (lv_at hl 1 rfl) ?_
        refine lv_iload hx hb dX7_tryOffers_57 (lv_at hl 6 rfl) ?_
        refine lv_iload hx hb dX7_tryOffers_59 (lv_at hl 8 rfl) ?_
        refine lv_iload hx hb dX7_tryOffers_61 (lv_at hl 0 rfl) ?_
        refine lv_iload hx hb dX7_tryOffers_63 (lv_at hl 9 rfl) ?_
        refine call_i (run_V (rm := rm_X7_addChoice) hx hb hml hown hts (s_X7_addChoice l g ad th _ _ _ 72 y20_l8 r104 y20_l9 hst hT (⟨by decide, by decide⟩ : In 72 0 99) (In.mk (by obtain ⟨o0a, o0b⟩ := (hy20_l8 : In _ _ _); obtain ⟨o1a, o1b⟩ := (hb92 : In _ _ _); obtain ⟨o2a, o2b⟩ := (hv11_9 : In _ _ _); omega) (by obtain ⟨o0a, o0b⟩ := (hy20_l8 : In _ _ _); obtain ⟨o1a, o1b⟩ := (hb92 : In _ _ _); obtain ⟨o2a, o2b⟩ := (hv11_9 : In _ _ _); omega))) cV_X7_addChoice wg_1062 ⟨Nat.le_of_ble_eq_true rfl, Nat.le_of_ble_eq_true rfl⟩ hG hE hA hP hD hS (hst.1 18 (by decide)) hf10 rfl rfl hl.1 (As := [.int 72, .int y20_l8, .int r104, .int y20_l9]) (rest := []) rfl (Nat.le_of_ble_eq_true rfl) dX7_tryOffers_65 ⟨Nat.le_of_ble_eq_true rfl, Nat.le_of_ble_eq_true rfl⟩) hA hD hS (fun r109 L110 f111 H locs hp112 hP hD hS => ?_)
        obtain ⟨eL113L, eL113T, eL113F, eL113R, eL113X0⟩ := hp112
        have eL113L : L110 = L := eL113L
        rw [eL113L] at hP hD
        have hT : TI g ad th f111 := eL113T
        have eL113F : ∀ b, b ≠ (ad 21) → b ≠ (ad 22) → f111 b = f_20 b := eL113F
        have hf114 := (eL113F (ad 18) (hst.ne (by decide) (by decide) (by decide)) (hst.ne (by decide) (by decide) (by decide))).trans hf10
        have hf115 := (eL113F (ad 8) (hst.ne (by decide) (by decide) (by decide)) (hst.ne (by decide) (by decide) (by decide))).trans hf94
        have hfr : (∀ b, b ≠ (ad 18) → b ≠ (ad 21) → b ≠ (ad 22) → b ≠ (ad 23) → f111 b = f b) := fun b z0_ z1_ z2_ z3_ => (eL113F b z1_ z2_).trans (hfr b z0_ z1_ z2_ z3_)
        have eL113R : In r109 0 9 := eL113R
        have hac116 : r109.toInt ≤ y20_l8.toInt + 1 ∧ 1 ≤ r109.toInt := eL113X0
        refine lv_istore (lv' := [(8, .int r109), (10, .int r104), (0, .ref (ad 18)), (1, .int 4), (2, .int z2), (3, .long z3), (5, .int z4), (6, .int 72), (7, .int r3), (9, .int y20_l9)]) hx hb dX7_tryOffers_68 hl (by decide) rfl (fun ls hl => ?_)
        obtain ⟨x117, ex117⟩ : ∃ y : Int32, y = y20_l9 + 1 := ⟨_, rfl⟩
        have hb118 : In x117 1 9 := ex117 ▸ In.add hb92 (⟨by decide, by decide⟩ : In 1 1 1) (by decide) (by decide) (by decide) (by decide)
        have et119 : x117.toInt = y20_l9.toInt + 1 := In.adde ex117 hb92 (k := 1) (by decide) (by decide) (by decide)
        refine lv_iinc (v := x117) (lv' := [(9, .int x117), (8, .int r109), (10, .int r104), (0, .ref (ad 18)), (1, .int 4), (2, .int z2), (3, .long z3), (5, .int z4), (6, .int 72), (7, .int r3)]) hx hb dX7_tryOffers_70 hl (k := 9) rfl (by rw [ex117]; rfl) (by decide) rfl (fun ls hl => ?_)
        refine lv_goto (tgt := 20) hx hb dX7_tryOffers_73 (by decide) ?_
        exact ih20 r109 x117 _ _ _ _ eL113R (In.mono hb118 (by decide) (by decide)) hP hD hS hT hfr (by obtain ⟨o0a, o0b⟩ := (eL113R : In _ _ _); obtain ⟨o1a, o1b⟩ := (hb118 : In _ _ _); obtain ⟨o2a, o2b⟩ := (hy20_l8 : In _ _ _); obtain ⟨o3a, o3b⟩ := (hb92 : In _ _ _); obtain ⟨o4a, o4b⟩ := (hv11_9 : In _ _ _); omega) (lv_sub hl [3, 4, 5, 6, 7, 8, 9, 1, 0] rfl) (msu et119 (by decide) hmz20)
  exact hJ20 ((9 - (0 : Int32).toInt).toNat + 1) 0 0 _ _ _ _ (⟨by decide, by decide⟩ : In 0 0 9) (⟨by decide, by decide⟩ : In 0 0 9) hP hD hS hT hfr (by have oc0 : (0 : Int32).toInt = 0 := (by decide); omega) (lv_sub hl [4, 5, 6, 7, 8, 3, 2, 1, 0] rfl) (msI _)

abbrev rm_X7_explore_4 : Room := { frames := 9, cells := 0, slots := 0, locals := 304 }
abbrev po_X7_explore_4 (g : GG) (ad : Nat → Nat) (th : Nat → Int) (L : List Nat) (f : HP) (z2 : Int32) (z3 : Int64) (z4 : Int32) : (List Nat × HP) → Prop := fun u => u.1 = L ∧ TI g ad th u.2 ∧ (∀ b, b ≠ (ad 18) → b ≠ (ad 21) → b ≠ (ad 22) → b ≠ (ad 23) → u.2 b = f b)
set_option maxHeartbeats 4000000 in
set_option maxRecDepth 100000 in
theorem s_X7_explore_4 (l : Launch) (g : GG) (ad : Nat → Nat) (th : Nat → Int) (L : List Nat) (f : HP) (sz : Nat) (z2 : Int32) (z3 : Int64) (z4 : Int32) (hst : ST ad L) (hT : TI g ad th f) (hz2 : In z2 0 511) : MtV l g yX7_explore cX7_explore 8 rm_X7_explore_4 [.ref (ad 18), .int 4, .int z2, .long z3, .int z4] L f sz (po_X7_explore_4 g ad th L f z2 z3 z4) := by
  refine MtV.of (by decide +kernel) (Nat.le_of_ble_eq_true rfl) ?_
  intro p e s m below meth c A hEn hP hD hS ls hl
  obtain ⟨hx, hb, hr, hml, hown, hlocks, hts, hG, hA, hE, hnm⟩ := hEn
  have hown : s.vm.findClass "RulerWord$Search" = some m.cls := hown
  have hl : lv_has ls 8 [(0, .ref (ad 18)), (1, .int 4), (2, .int z2), (3, .long z3), (5, .int z4)] := hl
  have hfr : (∀ b, b ≠ (ad 18) → b ≠ (ad 21) → b ≠ (ad 22) → b ≠ (ad 23) → f b = f b) := fun b z0_ z1_ z2_ z3_ => rfl
  refine lv_iload_n hx hb dX7_explore_0 rfl (lv_at hl 1 rfl) ?_
  refine lv_aload_n hx hb dX7_explore_1 rfl (lv_at hl 0 rfl) ?_
  obtain ⟨v6_1, v7_1, v8_1, v9_1, v10_1, v11_1, v12_1, v13_1, hf2, hv8_1, hv9_1, hv10_1, hv11_1, hv13_1⟩ := hT.1 18 (by decide)
  refine pl_get (v := .int v7_1) hx hb hts (fun w h => mT (inX7 w h)) hown hG.1 hP (hst.1 18 (by decide)) hf2 rfl 7 (by decide) (hts _ (mT wg_439)) (fun _ h => h) rfl dX7_explore_2 ?_
  have hJ14 : ∀ (H : Heap) (locs : List Loc) (ls : Array Slot), va_P g.1 vwCl (va_pl L f) H → va_D A (va_pl L f) → va_S A s.heap H locs → lv_has ls 8 [(0, .ref (ad 18)), (1, .int 4), (2, .int z2), (3, .long z3), (5, .int z4)] → W p l e rm_X7_explore_4 s m [.ref (ad 18), .int 4, .int z2, .long z3, .int z4].toArray below meth c H locs 0 0 (MQ below (va_Qv (po_X7_explore_4 g ad th L f z2 z3 z4) (PstB g A) A) [.ref (ad 18), .int 4, .int z2, .long z3, .int z4].toArray s rm_X7_explore_4.cells rm_X7_explore_4.slots A) (F0 m 14 ls []) := by
    intro H locs ls hP hD hS hl
    refine lv_aload_n hx hb dX7_explore_14 rfl (lv_at hl 0 rfl) ?_
    refine lv_iload_n hx hb dX7_explore_15 rfl (lv_at hl 2 rfl) ?_
    refine lv_iload hx hb dX7_explore_16 (lv_at hl 4 rfl) ?_
    refine call_v (run_V (rm := rm_X7_judge) hx hb hml hown hts (s_X7_judge l g ad th _ _ _ z2 z4 hst hT hz2) cV_X7_judge wg_1053 ⟨Nat.le_of_ble_eq_true rfl, Nat.le_of_ble_eq_true rfl⟩ hG hE hA hP hD hS (hst.1 18 (by decide)) hf2 rfl rfl hl.1 (As := [.int z2, .int z4]) (rest := []) rfl (Nat.le_of_ble_eq_true rfl) dX7_explore_18 ⟨Nat.le_of_ble_eq_true rfl, Nat.le_of_ble_eq_true rfl⟩) hA hD hS (fun L4 f5 H locs hp6 hP hD hS => ?_)
    obtain ⟨eL7L, eL7T, eL7F⟩ := hp6
    have eL7L : L4 = L := eL7L
    rw [eL7L] at hP hD
    have hT : TI g ad th f5 := eL7T
    have eL7F : ∀ b, b ≠ (ad 18) → f5 b = f b := eL7F
    have hfr : (∀ b, b ≠ (ad 18) → b ≠ (ad 21) → b ≠ (ad 22) → b ≠ (ad 23) → f5 b = f b) := fun b z0_ z1_ z2_ z3_ => (eL7F b z0_).trans (hfr b z0_ z1_ z2_ z3_)
    exact ret_v hx hb hr hlocks hP hD hS (Nat.le_of_ble_eq_true rfl) (Nat.le_of_ble_eq_true rfl) (⟨rfl, hT, hfr⟩) dX7_explore_21
  refine lv_icmp_ge (tgt := 14) hx hb dX7_explore_5 (by decide) (fun c8 => ?_) (fun c8 => ?_)
  ·
    have cc9 : v7_1.toInt ≤ (4 : Int32).toInt := i32_le.mp c8
    have hb10 : In v7_1 (-2147483648) 4 := In.ge2 (⟨by decide, by decide⟩ : In 4 4 4) (In.full v7_1) cc9 (by omega) (by omega)
    exact hJ14 _ _ _ hP hD hS (lv_sub hl [0, 1, 2, 3, 4] rfl)
  ·
    have cc11 : (4 : Int32).toInt < v7_1.toInt := i32_nle c8
    have hb12 : In v7_1 5 2147483647 := In.lt2 (⟨by decide, by decide⟩ : In 4 4 4) (In.full v7_1) cc11 (by omega) (by omega)
    refine lv_iload_n hx hb dX7_explore_8 rfl (lv_at hl 1 rfl) ?_
    refine lv_bipush (v := 6) hx hb dX7_explore_9 (by decide) ?_
    refine lv_icmp_lt (tgt := 22) hx hb dX7_explore_11 (by decide) (fun c13 => ?_) (fun c13 => ?_)
    ·
      refine lv_iload_n hx hb dX7_explore_22 rfl (lv_at hl 1 rfl) ?_
      refine lv_bipush (v := 9) hx hb dX7_explore_23 (by decide) ?_
      refine lv_ishl hx hb dX7_explore_25 ?_
      refine lv_topi (fun x14 ex14 => ?_)
      obtain rfl : x14 = 2048 := ex14.trans (by decide)
      refine lv_iload_n hx hb dX7_explore_26 rfl (lv_at hl 2 rfl) ?_
      refine lv_ior hx hb dX7_explore_27 ?_
      refine lv_topi (fun x15 ex15 => ?_)
      have hb16 : In x15 2048 2559 := ex15 ▸ In.orc 9 4 hz2 (by decide) (by decide) (by decide) (by decide)
      refine lv_istore (lv' := [(6, .int x15), (0, .ref (ad 18)), (1, .int 4), (2, .int z2), (3, .long z3), (5, .int z4)]) hx hb dX7_explore_28 hl (by decide) rfl (fun ls hl => ?_)
      refine lv_aload_n hx hb dX7_explore_30 rfl (lv_at hl 1 rfl) ?_
      refine pl_get (v := .ref (ad 23)) hx hb hts (fun w h => mT (inX7 w h)) hown hG.1 hP (hst.1 18 (by decide)) hf2 rfl 5 (by decide) (hts _ (mT wg_437)) (fun _ h => h) rfl dX7_explore_31 ?_
      refine lv_iload hx hb dX7_explore_34 (lv_at hl 0 rfl) ?_
      refine lv_bipush (v := 6) hx hb dX7_explore_36 (by decide) ?_
      refine lv_iushr hx hb dX7_explore_38 rfl ?_
      refine lv_topi (fun x17 ex17 => ?_)
      have hb18 : In x17 32 39 := ex17 ▸ In.ushr 6 hb16 (by decide) (by decide) (by decide) (by decide)
      obtain ⟨rw19, hf20⟩ := hT.1 23 (by decide)
      have hin21 : vp_in x17 48 := In.inb hb18 (by decide) (by decide)
      refine pl_lald hx hb hG.1 hP (hst.1 23 (by decide)) 1 hf20 rfl hin21 dX7_explore_39 ?_
      refine lv_topl (fun x22 ex22 => ?_)
      refine lv_iload hx hb dX7_explore_40 (lv_at hl 0 rfl) ?_
      refine lv_lushr hx hb dX7_explore_42 rfl ?_
      refine lv_topl (fun x23 ex23 => ?_)
      refine lv_lconst (v := 1) hx hb dX7_explore_43 (by decide) ?_
      refine lv_land hx hb dX7_explore_44 ?_
      refine lv_topl (fun x24 ex24 => ?_)
      refine lv_lconst (v := 1) hx hb dX7_explore_45 (by decide) ?_
      refine W.lcmp hx hb dX7_explore_46 ?_
      refine lv_topi (fun x25 ex25 => ?_)
      have hb26 : In x25 (-1) 1 := ex25 ▸ In.lcmp _ _
      refine lv_if_ne (tgt := 51) hx hb dX7_explore_47 (by decide) (fun c27 => ?_) (fun c27 => ?_)
      ·
        refine lv_aload_n hx hb dX7_explore_51 rfl (lv_at hl 1 rfl) ?_
        refine pl_get (v := .int v6_1) hx hb hts (fun w h => mT (inX7 w h)) hown hG.1 hP (hst.1 18 (by decide)) hf2 rfl 6 (by decide) (hts _ (mT wg_438)) (fun _ h => h) rfl dX7_explore_52 ?_
        refine lv_istore (lv' := [(7, .int v6_1), (6, .int x15), (0, .ref (ad 18)), (1, .int 4), (2, .int z2), (3, .long z3), (5, .int z4)]) hx hb dX7_explore_55 hl (by decide) rfl (fun ls hl => ?_)
        refine lv_aload_n hx hb dX7_explore_57 rfl (lv_at hl 2 rfl) ?_
        refine pl_get (v := .ref (ad 8)) hx hb hts (fun w h => mT (inX7 w h)) hown hG.1 hP (hst.1 18 (by decide)) hf2 rfl 0 (by decide) (hts _ (mT wg_432)) (fun _ h => h) rfl dX7_explore_58 ?_
        obtain ⟨v0_28, v1_28, v2_28, v3_28, v4_28, v5_28, v6_28, v7_28, hf29, hv0_28, hv1_28, hv2_28, hv3_28, hv5_28, hv6_28⟩ := hT.1 8 (by decide)
        refine pl_getN (v := .int v0_28) hx hb hts (fun w h => mT (inX2 w h)) hown hG.1 hP (hst.1 8 (by decide)) hf29 rfl 0 (by decide) (hG.2.1 _ wn_225) (fun _ h => h) rfl dX7_explore_61 ?_
        have hJ101 : ∀ (f_101 : HP) (H : Heap) (locs : List Loc) (ls : Array Slot), va_P g.1 vwCl (va_pl L f_101) H → va_D A (va_pl L f_101) → va_S A s.heap H locs → TI g ad th f_101 → (∀ b, b ≠ (ad 18) → b ≠ (ad 21) → b ≠ (ad 22) → b ≠ (ad 23) → f_101 b = f b) → f_101 (ad 8) = .inr (2, [.int v0_28, .int v1_28, .int v2_28, .int v3_28, .int v4_28, .int v5_28, .int v6_28, .int v7_28]) → lv_has ls 8 [(0, .ref (ad 18)), (1, .int 4), (2, .int z2), (3, .long z3), (5, .int z4), (6, .int x15), (7, .int v6_1)] → W p l e rm_X7_explore_4 s m [.ref (ad 18), .int 4, .int z2, .long z3, .int z4].toArray below meth c H locs 0 0 (MQ below (va_Qv (po_X7_explore_4 g ad th L f z2 z3 z4) (PstB g A) A) [.ref (ad 18), .int 4, .int z2, .long z3, .int z4].toArray s rm_X7_explore_4.cells rm_X7_explore_4.slots A) (F0 m 101 ls []) := by
          intro f_101 H locs ls hP hD hS hT hfr hf30 hl
          refine lv_aload_n hx hb dX7_explore_101 rfl (lv_at hl 0 rfl) ?_
          obtain ⟨v6_31, v7_31, v8_31, v9_31, v10_31, v11_31, v12_31, v13_31, hf32, hv8_31, hv9_31, hv10_31, hv11_31, hv13_31⟩ := hT.1 18 (by decide)
          refine pl_get (v := .int v6_31) hx hb hts (fun w h => mT (inX7 w h)) hown hG.1 hP (hst.1 18 (by decide)) hf32 rfl 6 (by decide) (hts _ (mT wg_438)) (fun _ h => h) rfl dX7_explore_102 ?_
          refine lv_iload hx hb dX7_explore_105 (lv_at hl 6 rfl) ?_
          refine lv_icmp_ne (tgt := 135) hx hb dX7_explore_107 (by decide) (fun c33 => ?_) (fun c33 => ?_)
          ·
            exact ret_v hx hb hr hlocks hP hD hS (Nat.le_of_ble_eq_true rfl) (Nat.le_of_ble_eq_true rfl) (⟨rfl, hT, hfr⟩) dX7_explore_135
          ·
            refine lv_aload_n hx hb dX7_explore_110 rfl (lv_at hl 0 rfl) ?_
            refine lv_iconst (v := 0) hx hb dX7_explore_111 (by decide) ?_
            refine call_i (run_V (rm := rm_X7_doesSuspicionCount) hx hb hml hown hts (s_X7_doesSuspicionCount l g ad th _ _ _ 0 hst hT (⟨by decide, by decide⟩ : In 0 0 6)) cV_X7_doesSuspicionCount wg_1094 ⟨Nat.le_of_ble_eq_true rfl, Nat.le_of_ble_eq_true rfl⟩ hG hE hA hP hD hS (hst.1 18 (by decide)) hf32 rfl rfl hl.1 (As := [.int 0]) (rest := []) rfl (Nat.le_of_ble_eq_true rfl) dX7_explore_112 ⟨Nat.le_of_ble_eq_true rfl, Nat.le_of_ble_eq_true rfl⟩) hA hD hS (fun r34 L35 f36 H locs hp37 hP hD hS => ?_)
            obtain ⟨eL38L, eL38T, eL38R⟩ := hp37
            have eL38L : L35 = L := eL38L
            have eL38T : f36 = f_101 := eL38T
            rw [eL38L, eL38T] at hP hD
            have eL38R : In r34 0 1 := eL38R
            refine lv_if_ne (tgt := 135) hx hb dX7_explore_115 (by decide) (fun c39 => ?_) (fun c39 => ?_)
            ·
              have cc40 : r34.toInt ≠ (0 : Int32).toInt := i32_ne c39
              have hb41 : In r34 1 1 := In.ne1 eL38R (⟨by decide, by decide⟩ : In 0 0 0) cc40 (by omega) (by omega)
              exact ret_v hx hb hr hlocks hP hD hS (Nat.le_of_ble_eq_true rfl) (Nat.le_of_ble_eq_true rfl) (⟨rfl, hT, hfr⟩) dX7_explore_135
            ·
              have cc42 : r34.toInt = (0 : Int32).toInt := congrArg Int32.toInt c39
              have hb43 : In r34 0 0 := In.eq1 eL38R (⟨by decide, by decide⟩ : In 0 0 0) cc42 (by omega) (by omega)
              refine lv_aload_n hx hb dX7_explore_118 rfl (lv_at hl 0 rfl) ?_
              refine pl_get (v := .ref (ad 23)) hx hb hts (fun w h => mT (inX7 w h)) hown hG.1 hP (hst.1 18 (by decide)) hf32 rfl 5 (by decide) (hts _ (mT wg_437)) (fun _ h => h) rfl dX7_explore_119 ?_
              refine lv_iload hx hb dX7_explore_122 (lv_at hl 5 rfl) ?_
              refine lv_bipush (v := 6) hx hb dX7_explore_124 (by decide) ?_
              refine lv_iushr hx hb dX7_explore_126 rfl ?_
              refine lv_topi (fun x44 ex44 => ?_)
              obtain rfl : x17 = x44 := ex17.trans ex44.symm
              refine lv_dup2_11 hx hb dX7_explore_127 rfl rfl ?_
              obtain ⟨rw45, hf46⟩ := hT.1 23 (by decide)
              have hin47 : vp_in x17 48 := In.inb hb18 (by decide) (by decide)
              refine pl_lald hx hb hG.1 hP (hst.1 23 (by decide)) 1 hf46 rfl hin47 dX7_explore_128 ?_
              refine lv_topl (fun x48 ex48 => ?_)
              refine lv_lconst (v := 1) hx hb dX7_explore_129 (by decide) ?_
              refine lv_iload hx hb dX7_explore_130 (lv_at hl 5 rfl) ?_
              refine lv_lshl hx hb dX7_explore_132 rfl ?_
              refine lv_topl (fun x49 ex49 => ?_)
              refine lv_lor hx hb dX7_explore_133 ?_
              refine lv_topl (fun x50 ex50 => ?_)
              refine pl_lastE hx hb hG.1 hP hD hS (hst.1 23 (by decide)) 1 hf46 rfl (In.inb hb18 (by decide) (by decide)) dX7_explore_134 (fun H locs f51 r54 er54 hf52 ho53 hP hD hS => ?_)
              have hf55 := (ho53 (ad 8) (hst.ne (by decide) (by decide) (by decide))).trans hf30
              have hf56 := (ho53 (ad 18) (hst.ne (by decide) (by decide) (by decide))).trans hf32
              have hfr : (∀ b, b ≠ (ad 18) → b ≠ (ad 21) → b ≠ (ad 22) → b ≠ (ad 23) → f51 b = f b) := fun b z0_ z1_ z2_ z3_ => (ho53 b z3_).trans (hfr b z0_ z1_ z2_ z3_)
              have hT := TI.updA hT hst (k := 23) (by decide) hf52 ho53 ⟨r54, rfl⟩
              exact ret_v hx hb hr hlocks hP hD hS (Nat.le_of_ble_eq_true rfl) (Nat.le_of_ble_eq_true rfl) (⟨rfl, hT, hfr⟩) dX7_explore_135
        refine lv_if_ne (tgt := 79) hx hb dX7_explore_64 (by decide) (fun c57 => ?_) (fun c57 => ?_)
        ·
          have cc58 : v0_28.toInt ≠ (0 : Int32).toInt := i32_ne c57
          have hb59 : In v0_28 1 1 := In.ne1 hv0_28 (⟨by decide, by decide⟩ : In 0 0 0) cc58 (by omega) (by omega)
          refine lv_aload_n hx hb dX7_explore_79 rfl (lv_at hl 2 rfl) ?_
          refine lv_iload_n hx hb dX7_explore_80 rfl (lv_at hl 3 rfl) ?_
          refine lv_iload_n hx hb dX7_explore_81 rfl (lv_at hl 4 rfl) ?_
          refine lv_lload_n hx hb dX7_explore_82 rfl (lv_at hl 5 rfl) ?_
          refine lv_aload_n hx hb dX7_explore_83 rfl (lv_at hl 2 rfl) ?_
          refine pl_get (v := .int v9_1) hx hb hts (fun w h => mT (inX7 w h)) hown hG.1 hP (hst.1 18 (by decide)) hf2 rfl 9 (by decide) (hts _ (mT wg_441)) (fun _ h => h) rfl dX7_explore_84 ?_
          refine lv_iload_n hx hb dX7_explore_87 rfl (lv_at hl 4 rfl) ?_
          refine lv_iconst (v := (-1)) hx hb dX7_explore_88 (by decide) ?_
          refine lv_ixor hx hb dX7_explore_89 ?_
          refine lv_topi (fun x60 ex60 => ?_)
          refine lv_iand hx hb dX7_explore_90 ?_
          refine lv_topi (fun x61 ex61 => ?_)
          have hb62 : In x61 0 511 := ex61 ▸ In.andl hv9_1 (by decide)
          refine lv_iload_n hx hb dX7_explore_91 rfl (lv_at hl 4 rfl) ?_
          refine lv_bipush (v := 9) hx hb dX7_explore_92 (by decide) ?_
          refine lv_ishl hx hb dX7_explore_94 ?_
          refine lv_topi (fun x63 ex63 => ?_)
          have hb64 : In x63 0 261632 := ex63 ▸ In.shl hz2 (⟨by decide, by decide⟩ : In 9 9 9) (by decide) (by decide) (by decide) (by decide) (by decide) (by decide)
          refine lv_ior hx hb dX7_explore_95 ?_
          refine lv_topi (fun x65 ex65 => ?_)
          have hb66 : In x65 0 262143 := ex65 ▸ In.or 18 hb62 hb64 (by decide) (by decide) (by decide) (by decide) (by decide)
          refine lv_iload hx hb dX7_explore_96 (lv_at hl 6 rfl) ?_
          refine call_v (run_V (rm := rm_X7_tryViews_4) hx hb hml hown hts (s_X7_tryViews_4 l g ad th _ _ _ z2 z3 x65 z4 hst hT hz2) cV_X7_tryViews wg_1081 ⟨Nat.le_of_ble_eq_true rfl, Nat.le_of_ble_eq_true rfl⟩ hG hE hA hP hD hS (hst.1 18 (by decide)) hf2 rfl rfl hl.1 (As := [.int 4, .int z2, .long z3, .int x65, .int z4]) (rest := []) rfl (Nat.le_of_ble_eq_true rfl) dX7_explore_98 ⟨Nat.le_of_ble_eq_true rfl, Nat.le_of_ble_eq_true rfl⟩) hA hD hS (fun L68 f69 H locs hp70 hP hD hS => ?_)
          obtain ⟨eL71L, eL71T, eL71F⟩ := hp70
          have eL71L : L68 = L := eL71L
          rw [eL71L] at hP hD
          have hT : TI g ad th f69 := eL71T
          have eL71F : ∀ b, b ≠ (ad 18) → b ≠ (ad 21) → b ≠ (ad 22) → b ≠ (ad 23) → f69 b = f b := eL71F
          have hf72 := (eL71F (ad 8) (hst.ne (by decide) (by decide) (by decide)) (hst.ne (by decide) (by decide) (by decide)) (hst.ne (by decide) (by decide) (by decide)) (hst.ne (by decide) (by decide) (by decide))).trans hf29
          have hfr : (∀ b, b ≠ (ad 18) → b ≠ (ad 21) → b ≠ (ad 22) → b ≠ (ad 23) → f69 b = f b) := fun b z0_ z1_ z2_ z3_ => (eL71F b z0_ z1_ z2_ z3_).trans (hfr b z0_ z1_ z2_ z3_)
          exact hJ101 _ _ _ _ hP hD hS hT hfr hf72 (lv_sub hl [2, 3, 4, 5, 6, 1, 0] rfl)
        ·
          have cc73 : v0_28.toInt = (0 : Int32).toInt := congrArg Int32.toInt c57
          have hb74 : In v0_28 0 0 := In.eq1 hv0_28 (⟨by decide, by decide⟩ : In 0 0 0) cc73 (by omega) (by omega)
          refine lv_aload_n hx hb dX7_explore_67 rfl (lv_at hl 2 rfl) ?_
          refine lv_iload_n hx hb dX7_explore_68 rfl (lv_at hl 3 rfl) ?_
          refine lv_iload_n hx hb dX7_explore_69 rfl (lv_at hl 4 rfl) ?_
          refine lv_lload_n hx hb dX7_explore_70 rfl (lv_at hl 5 rfl) ?_
          refine lv_iload hx hb dX7_explore_71 (lv_at hl 6 rfl) ?_
          refine call_v (run_V (rm := rm_X7_tryOffers_4) hx hb hml hown hts (s_X7_tryOffers_4 l g ad th _ _ _ z2 z3 z4 hst hT hz2) cV_X7_tryOffers wg_1057 ⟨Nat.le_of_ble_eq_true rfl, Nat.le_of_ble_eq_true rfl⟩ hG hE hA hP hD hS (hst.1 18 (by decide)) hf2 rfl rfl hl.1 (As := [.int 4, .int z2, .long z3, .int z4]) (rest := []) rfl (Nat.le_of_ble_eq_true rfl) dX7_explore_73 ⟨Nat.le_of_ble_eq_true rfl, Nat.le_of_ble_eq_true rfl⟩) hA hD hS (fun L76 f77 H locs hp78 hP hD hS => ?_)
          obtain ⟨eL79L, eL79T, eL79F⟩ := hp78
          have eL79L : L76 = L := eL79L
          rw [eL79L] at hP hD
          have hT : TI g ad th f77 := eL79T
          have eL79F : ∀ b, b ≠ (ad 18) → b ≠ (ad 21) → b ≠ (ad 22) → b ≠ (ad 23) → f77 b = f b := eL79F
          have hf80 := (eL79F (ad 8) (hst.ne (by decide) (by decide) (by decide)) (hst.ne (by decide) (by decide) (by decide)) (hst.ne (by decide) (by decide) (by decide)) (hst.ne (by decide) (by decide) (by decide))).trans hf29
          have hfr : (∀ b, b ≠ (ad 18) → b ≠ (ad 21) → b ≠ (ad 22) → b ≠ (ad 23) → f77 b = f b) := fun b z0_ z1_ z2_ z3_ => (eL79F b z0_ z1_ z2_ z3_).trans (hfr b z0_ z1_ z2_ z3_)
          refine lv_goto (tgt := 101) hx hb dX7_explore_76 (by decide) ?_
          exact hJ101 _ _ _ _ hP hD hS hT hfr hf80 (lv_sub hl [2, 3, 4, 5, 6, 1, 0] rfl)
      ·
        have cc81 : x25.toInt = (0 : Int32).toInt := congrArg Int32.toInt c27
        have hb82 : In x25 0 0 := In.eq1 hb26 (⟨by decide, by decide⟩ : In 0 0 0) cc81 (by omega) (by omega)
        exact ret_v hx hb hr hlocks hP hD hS (Nat.le_of_ble_eq_true rfl) (Nat.le_of_ble_eq_true rfl) (⟨rfl, hT, hfr⟩) dX7_explore_50
    ·
      have cc83 : (6 : Int32).toInt ≤ (4 : Int32).toInt := i32_nlt c13
      exact In.empty (lo := 6) (hi := 4) (In.ge1 (⟨by decide, by decide⟩ : In 4 4 4) (⟨by decide, by decide⟩ : In 6 6 6) cc83 (by omega) (by omega)) (by decide)

abbrev rm_X7_tryRuler_3 : Room := { frames := 10, cells := 0, slots := 0, locals := 331 }
abbrev po_X7_tryRuler_3 (g : GG) (ad : Nat → Nat) (th : Nat → Int) (L : List Nat) (f : HP) (z2 : Int32) (z3 : Int32) (z4 : Int64) (z5 : Int32) : (List Nat × HP) → Prop := fun u => u.1 = L ∧ TI g ad th u.2 ∧ (∀ b, b ≠ (ad 18) → b ≠ (ad 21) → b ≠ (ad 22) → b ≠ (ad 23) → u.2 b = f b)
set_option maxHeartbeats 4000000 in
set_option maxRecDepth 100000 in
theorem s_X7_tryRuler_3 (l : Launch) (g : GG) (ad : Nat → Nat) (th : Nat → Int) (L : List Nat) (f : HP) (sz : Nat) (z2 : Int32) (z3 : Int32) (z4 : Int64) (z5 : Int32) (hst : ST ad L) (hT : TI g ad th f) (hz2 : In z2 0 511) : MtV l g yX7_tryRuler cX7_tryRuler 21 rm_X7_tryRuler_3 [.ref (ad 18), .int 3, .int z2, .int z3, .long z4, .int z5] L f sz (po_X7_tryRuler_3 g ad th L f z2 z3 z4 z5) := by
  refine MtV.of (by decide +kernel) (Nat.le_of_ble_eq_true rfl) ?_
  intro p e s m below meth c A hEn hP hD hS ls hl
  obtain ⟨hx, hb, hr, hml, hown, hlocks, hts, hG, hA, hE, hnm⟩ := hEn
  have hown : s.vm.findClass "RulerWord$Search" = some m.cls := hown
  have hl : lv_has ls 21 [(0, .ref (ad 18)), (1, .int 3), (2, .int z2), (3, .int z3), (4, .long z4), (6, .int z5)] := hl
  have hfr : (∀ b, b ≠ (ad 18) → b ≠ (ad 21) → b ≠ (ad 22) → b ≠ (ad 23) → f b = f b) := fun b z0_ z1_ z2_ z3_ => rfl
  refine lv_aload_n hx hb dX7_tryRuler_0 rfl (lv_at hl 0 rfl) ?_
  obtain ⟨v6_1, v7_1, v8_1, v9_1, v10_1, v11_1, v12_1, v13_1, hf2, hv8_1, hv9_1, hv10_1, hv11_1, hv13_1⟩ := hT.1 18 (by decide)
  refine pl_get (v := .ref (ad 8)) hx hb hts (fun w h => mT (inX7 w h)) hown hG.1 hP (hst.1 18 (by decide)) hf2 rfl 0 (by decide) (hts _ (mT wg_432)) (fun _ h => h) rfl dX7_tryRuler_1 ?_
  refine lv_iload_n hx hb dX7_tryRuler_4 rfl (lv_at hl 1 rfl) ?_
  obtain ⟨v0_3, v1_3, v2_3, v3_3, v4_3, v5_3, v6_3, v7_3, hf4, hv0_3, hv1_3, hv2_3, hv3_3, hv5_3, hv6_3⟩ := hT.1 8 (by decide)
  refine call_i (run_VN (rm := rm_X2_ruler_ru) hx hb hml hown hts (s_X2_ruler_ru l g ad th _ _ _ 3 hst hT (⟨by decide, by decide⟩ : In 3 0 6)) cV_X2_ruler wn_1093 ⟨Nat.le_of_ble_eq_true rfl, Nat.le_of_ble_eq_true rfl⟩ hG hE hA hP hD hS (hst.1 8 (by decide)) hf4 rfl rfl hl.1 (As := [.int 3]) (rest := []) rfl (Nat.le_of_ble_eq_true rfl) dX7_tryRuler_5 ⟨Nat.le_of_ble_eq_true rfl, Nat.le_of_ble_eq_true rfl⟩) hA hD hS (fun r5 L6 f7 H locs hp8 hP hD hS => ?_)
  obtain ⟨eL9L, eL9T, eL9R⟩ := hp8
  have eL9L : L6 = L := eL9L
  have eL9T : f7 = f := eL9T
  rw [eL9L, eL9T] at hP hD
  have eL9R : In r5 0 8 := eL9R
  refine lv_istore (lv' := [(7, .int r5), (0, .ref (ad 18)), (1, .int 3), (2, .int z2), (3, .int z3), (4, .long z4), (6, .int z5)]) hx hb dX7_tryRuler_8 hl (by decide) rfl (fun ls hl => ?_)
  refine lv_iload hx hb dX7_tryRuler_10 (lv_at hl 0 rfl) ?_
  refine lv_bipush (v := 9) hx hb dX7_tryRuler_12 (by decide) ?_
  refine lv_imul hx hb dX7_tryRuler_14 ?_
  refine lv_topi (fun x10 ex10 => ?_)
  have hb11 : In x10 0 72 := ex10 ▸ In.mul eL9R (⟨by decide, by decide⟩ : In 9 9 9) (by decide) (by decide) (by decide) (by decide) (by decide)
  refine lv_istore (lv' := [(8, .int x10), (7, .int r5), (0, .ref (ad 18)), (1, .int 3), (2, .int z2), (3, .int z3), (4, .long z4), (6, .int z5)]) hx hb dX7_tryRuler_15 hl (by decide) rfl (fun ls hl => ?_)
  refine lv_aload_n hx hb dX7_tryRuler_17 rfl (lv_at hl 2 rfl) ?_
  refine pl_get (v := .ref (ad 8)) hx hb hts (fun w h => mT (inX7 w h)) hown hG.1 hP (hst.1 18 (by decide)) hf2 rfl 0 (by decide) (hts _ (mT wg_432)) (fun _ h => h) rfl dX7_tryRuler_18 ?_
  refine pl_getN (v := .int v6_3) hx hb hts (fun w h => mT (inX2 w h)) hown hG.1 hP (hst.1 8 (by decide)) hf4 rfl 6 (by decide) (hG.2.1 _ wn_243) (fun _ h => h) rfl dX7_tryRuler_21 ?_
  have hJ41 : ∀ (y41_s0 : Int32) (H : Heap) (locs : List Loc) (ls : Array Slot), In y41_s0 0 511 → va_P g.1 vwCl (va_pl L f) H → va_D A (va_pl L f) → va_S A s.heap H locs → lv_has ls 21 [(0, .ref (ad 18)), (1, .int 3), (2, .int z2), (3, .int z3), (4, .long z4), (6, .int z5), (7, .int r5), (8, .int x10)] → W p l e rm_X7_tryRuler_3 s m [.ref (ad 18), .int 3, .int z2, .int z3, .long z4, .int z5].toArray below meth c H locs 0 0 (MQ below (va_Qv (po_X7_tryRuler_3 g ad th L f z2 z3 z4 z5) (PstB g A) A) [.ref (ad 18), .int 3, .int z2, .int z3, .long z4, .int z5].toArray s rm_X7_tryRuler_3.cells rm_X7_tryRuler_3.slots A) (F0 m 41 ls [.int y41_s0]) := by
    intro y41_s0 H locs ls hy41_s0 hP hD hS hl
    refine lv_istore (lv' := [(9, .int y41_s0), (0, .ref (ad 18)), (1, .int 3), (2, .int z2), (3, .int z3), (4, .long z4), (6, .int z5), (7, .int r5), (8, .int x10)]) hx hb dX7_tryRuler_41 hl (by decide) rfl (fun ls hl => ?_)
    refine lv_aload_n hx hb dX7_tryRuler_43 rfl (lv_at hl 1 rfl) ?_
    refine pl_get (v := .int v9_1) hx hb hts (fun w h => mT (inX7 w h)) hown hG.1 hP (hst.1 18 (by decide)) hf2 rfl 9 (by decide) (hts _ (mT wg_441)) (fun _ h => h) rfl dX7_tryRuler_44 ?_
    refine lv_iload_n hx hb dX7_tryRuler_47 rfl (lv_at hl 4 rfl) ?_
    refine lv_iconst (v := (-1)) hx hb dX7_tryRuler_48 (by decide) ?_
    refine lv_ixor hx hb dX7_tryRuler_49 ?_
    refine lv_topi (fun x12 ex12 => ?_)
    refine lv_iand hx hb dX7_tryRuler_50 ?_
    refine lv_topi (fun x13 ex13 => ?_)
    have hb14 : In x13 0 511 := ex13 ▸ In.andl hv9_1 (by decide)
    refine lv_iload hx hb dX7_tryRuler_51 (lv_at hl 0 rfl) ?_
    refine lv_iconst (v := (-1)) hx hb dX7_tryRuler_53 (by decide) ?_
    refine lv_ixor hx hb dX7_tryRuler_54 ?_
    refine lv_topi (fun x15 ex15 => ?_)
    refine lv_iand hx hb dX7_tryRuler_55 ?_
    refine lv_topi (fun x16 ex16 => ?_)
    have hb17 : In x16 0 511 := ex16 ▸ In.andl hb14 (by decide)
    refine lv_istore (lv' := [(10, .int x16), (9, .int y41_s0), (0, .ref (ad 18)), (1, .int 3), (2, .int z2), (3, .int z3), (4, .long z4), (6, .int z5), (7, .int r5), (8, .int x10)]) hx hb dX7_tryRuler_56 hl (by decide) rfl (fun ls hl => ?_)
    refine lv_iload hx hb dX7_tryRuler_58 (lv_at hl 0 rfl) ?_
    refine lv_aload_n hx hb dX7_tryRuler_60 rfl (lv_at hl 2 rfl) ?_
    refine lv_iload_n hx hb dX7_tryRuler_61 rfl (lv_at hl 3 rfl) ?_
    refine call_i (run_V (rm := rm_X7_doesSuspicionCount) hx hb hml hown hts (s_X7_doesSuspicionCount l g ad th _ _ _ 3 hst hT (⟨by decide, by decide⟩ : In 3 0 6)) cV_X7_doesSuspicionCount wg_1094 ⟨Nat.le_of_ble_eq_true rfl, Nat.le_of_ble_eq_true rfl⟩ hG hE hA hP hD hS (hst.1 18 (by decide)) hf2 rfl rfl hl.1 (As := [.int 3]) (rest := [.int x16]) rfl (Nat.le_of_ble_eq_true rfl) dX7_tryRuler_62 ⟨Nat.le_of_ble_eq_true rfl, Nat.le_of_ble_eq_true rfl⟩) hA hD hS (fun r18 L19 f20 H locs hp21 hP hD hS => ?_)
    obtain ⟨eL22L, eL22T, eL22R⟩ := hp21
    have eL22L : L19 = L := eL22L
    have eL22T : f20 = f := eL22T
    rw [eL22L, eL22T] at hP hD
    have eL22R : In r18 0 1 := eL22R
    have hJ73 : ∀ (y73_s0 : Int32) (H : Heap) (locs : List Loc) (ls : Array Slot), In y73_s0 (-2147483648) 2147483647 → va_P g.1 vwCl (va_pl L f) H → va_D A (va_pl L f) → va_S A s.heap H locs → lv_has ls 21 [(0, .ref (ad 18)), (1, .int 3), (2, .int z2), (3, .int z3), (4, .long z4), (6, .int z5), (7, .int r5), (8, .int x10), (9, .int y41_s0), (10, .int x16)] → W p l e rm_X7_tryRuler_3 s m [.ref (ad 18), .int 3, .int z2, .int z3, .long z4, .int z5].toArray below meth c H locs 0 0 (MQ below (va_Qv (po_X7_tryRuler_3 g ad th L f z2 z3 z4 z5) (PstB g A) A) [.ref (ad 18), .int 3, .int z2, .int z3, .long z4, .int z5].toArray s rm_X7_tryRuler_3.cells rm_X7_tryRuler_3.slots A) (F0 m 73 ls [.int y73_s0, .int x16]) := by
      intro y73_s0 H locs ls hy73_s0 hP hD hS hl
      refine lv_ior hx hb dX7_tryRuler_73 ?_
      refine lv_topi (fun x23 ex23 => ?_)
      refine lv_istore (lv' := [(11, .int x23), (0, .ref (ad 18)), (1, .int 3), (2, .int z2), (3, .int z3), (4, .long z4), (6, .int z5), (7, .int r5), (8, .int x10), (9, .int y41_s0), (10, .int x16)]) hx hb dX7_tryRuler_74 hl (by decide) rfl (fun ls hl => ?_)
      refine lv_iload_n hx hb dX7_tryRuler_76 rfl (lv_at hl 3 rfl) ?_
      refine lv_iload hx hb dX7_tryRuler_77 (lv_at hl 7 rfl) ?_
      refine call_i (run_SN (rm := rm_X10_bit) hx hb hml hown hts (s_X10_bit l g ad th _ _ _ z2 r5 hst hT ) cS_X10_bit wn_1043 ⟨Nat.le_of_ble_eq_true rfl, Nat.le_of_ble_eq_true rfl⟩ hG hE hA hP hD hS rfl hl.1 (As := [.int z2, .int r5]) (rest := []) rfl (Nat.le_of_ble_eq_true rfl) dX7_tryRuler_79 ⟨Nat.le_of_ble_eq_true rfl, Nat.le_of_ble_eq_true rfl⟩) hA hD hS (fun r24 L25 f26 H locs hp27 hP hD hS => ?_)
      obtain ⟨eL28L, eL28T, eL28R, eL28X0⟩ := hp27
      have eL28L : L25 = L := eL28L
      have eL28T : f26 = f := eL28T
      rw [eL28L, eL28T] at hP hD
      have eL28R : In r24 0 1 := eL28R
      refine lv_iconst (v := 1) hx hb dX7_tryRuler_82 (by decide) ?_
      have hJ94 : ∀ (y94_s0 : Int32) (H : Heap) (locs : List Loc) (ls : Array Slot), In y94_s0 0 511 → va_P g.1 vwCl (va_pl L f) H → va_D A (va_pl L f) → va_S A s.heap H locs → lv_has ls 21 [(0, .ref (ad 18)), (1, .int 3), (2, .int z2), (3, .int z3), (4, .long z4), (6, .int z5), (7, .int r5), (8, .int x10), (9, .int y41_s0), (10, .int x16), (11, .int x23)] → W p l e rm_X7_tryRuler_3 s m [.ref (ad 18), .int 3, .int z2, .int z3, .long z4, .int z5].toArray below meth c H locs 0 0 (MQ below (va_Qv (po_X7_tryRuler_3 g ad th L f z2 z3 z4 z5) (PstB g A) A) [.ref (ad 18), .int 3, .int z2, .int z3, .long z4, .int z5].toArray s rm_X7_tryRuler_3.cells rm_X7_tryRuler_3.slots A) (F0 m 94 ls [.int y94_s0]) := by
        intro y94_s0 H locs ls hy94_s0 hP hD hS hl
        refine lv_istore (lv' := [(12, .int y94_s0), (0, .ref (ad 18)), (1, .int 3), (2, .int z2), (3, .int z3), (4, .long z4), (6, .int z5), (7, .int r5), (8, .int x10), (9, .int y41_s0), (10, .int x16), (11, .int x23)]) hx hb dX7_tryRuler_94 hl (by decide) rfl (fun ls hl => ?_)
        refine lv_aload_n hx hb dX7_tryRuler_96 rfl (lv_at hl 1 rfl) ?_
        refine pl_get (v := .ref (ad 20)) hx hb hts (fun w h => mT (inX7 w h)) hown hG.1 hP (hst.1 18 (by decide)) hf2 rfl 2 (by decide) (hts _ (mT wg_434)) (fun _ h => h) rfl dX7_tryRuler_97 ?_
        refine lv_iload_n hx hb dX7_tryRuler_100 rfl (lv_at hl 2 rfl) ?_
        refine lv_iconst (v := 1) hx hb dX7_tryRuler_101 (by decide) ?_
        refine lv_iadd hx hb dX7_tryRuler_102 ?_
        refine lv_topi (fun x29 ex29 => ?_)
        obtain rfl : x29 = 4 := ex29.trans (by decide)
        obtain ⟨rw30, hf31⟩ := hT.1 20 (by decide)
        have hin32 : vp_in 4 7 := In.inb (⟨by decide, by decide⟩ : In 4 4 4) (by decide) (by decide)
        refine pl_iald hx hb hG.1 hP (hst.1 20 (by decide)) 0 hf31 rfl hin32 dX7_tryRuler_103 ?_
        refine lv_topi (fun x33 ex33 => ?_)
        refine lv_aload_n hx hb dX7_tryRuler_104 rfl (lv_at hl 1 rfl) ?_
        refine pl_get (v := .int v10_1) hx hb hts (fun w h => mT (inX7 w h)) hown hG.1 hP (hst.1 18 (by decide)) hf2 rfl 10 (by decide) (hts _ (mT wg_442)) (fun _ h => h) rfl dX7_tryRuler_105 ?_
        refine lv_isub hx hb dX7_tryRuler_108 ?_
        refine lv_topi (fun x34 ex34 => ?_)
        refine lv_istore (lv' := [(13, .int x34), (12, .int y94_s0), (0, .ref (ad 18)), (1, .int 3), (2, .int z2), (3, .int z3), (4, .long z4), (6, .int z5), (7, .int r5), (8, .int x10), (9, .int y41_s0), (10, .int x16), (11, .int x23)]) hx hb dX7_tryRuler_109 hl (by decide) rfl (fun ls hl => ?_)
        refine lv_aload_n hx hb dX7_tryRuler_111 rfl (lv_at hl 2 rfl) ?_
        refine pl_get (v := .int v8_1) hx hb hts (fun w h => mT (inX7 w h)) hown hG.1 hP (hst.1 18 (by decide)) hf2 rfl 8 (by decide) (hts _ (mT wg_440)) (fun _ h => h) rfl dX7_tryRuler_112 ?_
        refine lv_iload hx hb dX7_tryRuler_115 (lv_at hl 8 rfl) ?_
        refine call_i (run_SN (rm := rm_X10_bit) hx hb hml hown hts (s_X10_bit l g ad th _ _ _ v8_1 r5 hst hT ) cS_X10_bit wn_1043 ⟨Nat.le_of_ble_eq_true rfl, Nat.le_of_ble_eq_true rfl⟩ hG hE hA hP hD hS rfl hl.1 (As := [.int v8_1, .int r5]) (rest := []) rfl (Nat.le_of_ble_eq_true rfl) dX7_tryRuler_117 ⟨Nat.le_of_ble_eq_true rfl, Nat.le_of_ble_eq_true rfl⟩) hA hD hS (fun r35 L36 f37 H locs hp38 hP hD hS => ?_)
        obtain ⟨eL39L, eL39T, eL39R, eL39X0⟩ := hp38
        have eL39L : L36 = L := eL39L
        have eL39T : f37 = f := eL39T
        rw [eL39L, eL39T] at hP hD
        have eL39R : In r35 0 1 := eL39R
        refine lv_iconst (v := 1) hx hb dX7_tryRuler_120 (by decide) ?_
        have hJ134 : ∀ (y134_s0 : Int32) (H : Heap) (locs : List Loc) (ls : Array Slot), In y134_s0 1 512 → va_P g.1 vwCl (va_pl L f) H → va_D A (va_pl L f) → va_S A s.heap H locs → lv_has ls 21 [(0, .ref (ad 18)), (1, .int 3), (2, .int z2), (3, .int z3), (4, .long z4), (6, .int z5), (7, .int r5), (8, .int x10), (9, .int y41_s0), (10, .int x16), (11, .int x23), (12, .int y94_s0), (13, .int x34)] → W p l e rm_X7_tryRuler_3 s m [.ref (ad 18), .int 3, .int z2, .int z3, .long z4, .int z5].toArray below meth c H locs 0 0 (MQ below (va_Qv (po_X7_tryRuler_3 g ad th L f z2 z3 z4 z5) (PstB g A) A) [.ref (ad 18), .int 3, .int z2, .int z3, .long z4, .int z5].toArray s rm_X7_tryRuler_3.cells rm_X7_tryRuler_3.slots A) (F0 m 134 ls [.int y134_s0]) := by
          intro y134_s0 H locs ls hy134_s0 hP hD hS hl
          refine lv_istore (lv' := [(14, .int y134_s0), (0, .ref (ad 18)), (1, .int 3), (2, .int z2), (3, .int z3), (4, .long z4), (6, .int z5), (7, .int r5), (8, .int x10), (9, .int y41_s0), (10, .int x16), (11, .int x23), (12, .int y94_s0), (13, .int x34)]) hx hb dX7_tryRuler_134 hl (by decide) rfl (fun ls hl => ?_)
          refine lv_iconst (v := 0) hx hb dX7_tryRuler_136 (by decide) ?_
          refine lv_istore (lv' := [(15, .int 0), (14, .int y134_s0), (0, .ref (ad 18)), (1, .int 3), (2, .int z2), (3, .int z3), (4, .long z4), (6, .int z5), (7, .int r5), (8, .int x10), (9, .int y41_s0), (10, .int x16), (11, .int x23), (12, .int y94_s0), (13, .int x34)]) hx hb dX7_tryRuler_137 hl (by decide) rfl (fun ls hl => ?_)
          have hJ139 : ∀ (k139 : Nat) (y139_l15 : Int32) (f_139 : HP) (H : Heap) (locs : List Loc) (ls : Array Slot), In y139_l15 0 2147483647 → va_P g.1 vwCl (va_pl L f_139) H → va_D A (va_pl L f_139) → va_S A s.heap H locs → TI g ad th f_139 → (∀ b, b ≠ (ad 18) → b ≠ (ad 21) → b ≠ (ad 22) → b ≠ (ad 23) → f_139 b = f b) → f_139 (ad 20) = .inl (g.2.1 0, 7, .inl (rw30)) → f_139 (ad 8) = .inr (2, [.int v0_3, .int v1_3, .int v2_3, .int v3_3, .int v4_3, .int v5_3, .int v6_3, .int v7_3]) → lv_has ls 21 [(0, .ref (ad 18)), (1, .int 3), (2, .int z2), (3, .int z3), (4, .long z4), (6, .int z5), (7, .int r5), (8, .int x10), (9, .int y41_s0), (10, .int x16), (11, .int x23), (12, .int y94_s0), (13, .int x34), (14, .int y134_s0), (15, .int y139_l15)] → 2147483647 - y139_l15.toInt < ((k139 : Nat) : Int) → W p l e rm_X7_tryRuler_3 s m [.ref (ad 18), .int 3, .int z2, .int z3, .long z4, .int z5].toArray below meth c H locs 0 0 (MQ below (va_Qv (po_X7_tryRuler_3 g ad th L f z2 z3 z4 z5) (PstB g A) A) [.ref (ad 18), .int 3, .int z2, .int z3, .long z4, .int z5].toArray s rm_X7_tryRuler_3.cells rm_X7_tryRuler_3.slots A) (F0 m 139 ls []) := by
            intro k139
            induction k139 with
            | zero =>
              intro y139_l15 f_139 H locs ls hy139_l15 hP hD hS hT hfr hf40 hf41 hl hmz139
              exact ms0 hy139_l15 hmz139
            | succ k139 ih139 =>
              intro y139_l15 f_139 H locs ls hy139_l15 hP hD hS hT hfr hf40 hf41 hl hmz139
              refine lv_iload hx hb dX7_tryRuler_139 (lv_at hl 14 rfl) ?_
              refine lv_iload hx hb dX7_tryRuler_141 (lv_at hl 13 rfl) ?_
              refine lv_icmp_ge (tgt := 232) hx hb dX7_tryRuler_143 (by decide) (fun c42 => ?_) (fun c42 => ?_)
              ·
                have cc43 : y134_s0.toInt ≤ y139_l15.toInt := i32_le.mp c42
                have hb44 : In y139_l15 1 2147483647 := In.ge1 hy139_l15 hy134_s0 cc43 (by omega) (by omega)
                exact ret_v hx hb hr hlocks hP hD hS (Nat.le_of_ble_eq_true rfl) (Nat.le_of_ble_eq_true rfl) (⟨rfl, hT, hfr⟩) dX7_tryRuler_232
              ·
                have cc45 : y139_l15.toInt < y134_s0.toInt := i32_nle c42
                have hb46 : In y139_l15 0 511 := In.lt1 hy139_l15 hy134_s0 cc45 (by omega) (by omega)
                refine lv_aload_n hx hb dX7_tryRuler_146 rfl (lv_at hl 0 rfl) ?_
                obtain ⟨v6_47, v7_47, v8_47, v9_47, v10_47, v11_47, v12_47, v13_47, hf48, hv8_47, hv9_47, hv10_47, hv11_47, hv13_47⟩ := hT.1 18 (by decide)
                refine call_i (run_V (rm := rm_X7_isEnough) hx hb hml hown hts (s_X7_isEnough l g ad th _ _ _  hst hT ) cV_X7_isEnough wg_1070 ⟨Nat.le_of_ble_eq_true rfl, Nat.le_of_ble_eq_true rfl⟩ hG hE hA hP hD hS (hst.1 18 (by decide)) hf48 rfl rfl hl.1 (As := []) (rest := []) rfl (Nat.le_of_ble_eq_true rfl) dX7_tryRuler_147 ⟨Nat.le_of_ble_eq_true rfl, Nat.le_of_ble_eq_true rfl⟩) hA hD hS (fun r49 L50 f51 H locs hp52 hP hD hS => ?_)
                obtain ⟨eL53L, eL53T, eL53R⟩ := hp52
                have eL53L : L50 = L := eL53L
                have eL53T : f51 = f_139 := eL53T
                rw [eL53L, eL53T] at hP hD
                have eL53R : In r49 0 1 := eL53R
                refine lv_if_ne (tgt := 232) hx hb dX7_tryRuler_150 (by decide) (fun c54 => ?_) (fun c54 => ?_)
                ·
                  have oc0 : (0 : Int32).toInt = 0 := by decide
                  have cc55 : r49.toInt ≠ (0 : Int32).toInt := i32_ne c54
                  have hb56 : In r49 1 1 := In.ne1 eL53R (⟨by decide, by decide⟩ : In 0 0 0) cc55 (by omega) (by omega)
                  exact ret_v hx hb hr hlocks hP hD hS (Nat.le_of_ble_eq_true rfl) (Nat.le_of_ble_eq_true rfl) (⟨rfl, hT, hfr⟩) dX7_tryRuler_232
                ·
                  have oc0 : (0 : Int32).toInt = 0 := by decide
                  have cc57 : r49.toInt = (0 : Int32).toInt := congrArg Int32.toInt c54
                  have hb58 : In r49 0 0 := In.eq1 eL53R (⟨by decide, by decide⟩ : In 0 0 0) cc57 (by omega) (by omega)
                  refine lv_aload_n hx hb dX7_tryRuler_153 rfl (lv_at hl 0 rfl) ?_
                  refine lv_iload hx hb dX7_tryRuler_154 (lv_at hl 14 rfl) ?_
                  refine call_i (run_V (rm := rm_X7_spread) hx hb hml hown hts (s_X7_spread l g ad th _ _ _ y139_l15 hst hT ) cV_X7_spread wg_1098 ⟨Nat.le_of_ble_eq_true rfl, Nat.le_of_ble_eq_true rfl⟩ hG hE hA hP hD hS (hst.1 18 (by decide)) hf48 rfl rfl hl.1 (As := [.int y139_l15]) (rest := []) rfl (Nat.le_of_ble_eq_true rfl) dX7_tryRuler_156 ⟨Nat.le_of_ble_eq_true rfl, Nat.le_of_ble_eq_true rfl⟩) hA hD hS (fun r59 L60 f61 H locs hp62 hP hD hS => ?_)
                  obtain ⟨eL63L, eL63T, eL63R⟩ := hp62
                  have eL63L : L60 = L := eL63L
                  have eL63T : f61 = f_139 := eL63T
                  rw [eL63L, eL63T] at hP hD
                  have eL63R : In r59 0 511 := eL63R
                  refine lv_istore (lv' := [(16, .int r59), (0, .ref (ad 18)), (1, .int 3), (2, .int z2), (3, .int z3), (4, .long z4), (6, .int z5), (7, .int r5), (8, .int x10), (9, .int y41_s0), (10, .int x16), (11, .int x23), (12, .int y94_s0), (13, .int x34), (14, .int y134_s0), (15, .int y139_l15)]) hx hb dX7_tryRuler_159 hl (by decide) rfl (fun ls hl => ?_)
                  refine lv_iload hx hb dX7_tryRuler_161 (lv_at hl 0 rfl) ?_
                  refine lv_iload hx hb dX7_tryRuler_163 (lv_at hl 11 rfl) ?_
                  refine lv_iconst (v := (-1)) hx hb dX7_tryRuler_165 (by decide) ?_
                  refine lv_ixor hx hb dX7_tryRuler_166 ?_
                  refine lv_topi (fun x64 ex64 => ?_)
                  refine lv_iand hx hb dX7_tryRuler_167 ?_
                  refine lv_topi (fun x65 ex65 => ?_)
                  have hb66 : In x65 0 511 := ex65 ▸ In.andl eL63R (by decide)
                  have hJ226 : ∀ (f_226 : HP) (H : Heap) (locs : List Loc) (ls : Array Slot), va_P g.1 vwCl (va_pl L f_226) H → va_D A (va_pl L f_226) → va_S A s.heap H locs → TI g ad th f_226 → (∀ b, b ≠ (ad 18) → b ≠ (ad 21) → b ≠ (ad 22) → b ≠ (ad 23) → f_226 b = f b) → f_226 (ad 20) = .inl (g.2.1 0, 7, .inl (rw30)) → f_226 (ad 8) = .inr (2, [.int v0_3, .int v1_3, .int v2_3, .int v3_3, .int v4_3, .int v5_3, .int v6_3, .int v7_3]) → lv_has ls 21 [(0, .ref (ad 18)), (1, .int 3), (2, .int z2), (3, .int z3), (4, .long z4), (6, .int z5), (7, .int r5), (8, .int x10), (9, .int y41_s0), (10, .int x16), (11, .int x23), (12, .int y94_s0), (13, .int x34), (14, .int y134_s0), (15, .int y139_l15), (16, .int r59)] → W p l e rm_X7_tryRuler_3 s m [.ref (ad 18), .int 3, .int z2, .int z3, .long z4, .int z5].toArray below meth c H locs 0 0 (MQ below (va_Qv (po_X7_tryRuler_3 g ad th L f z2 z3 z4 z5) (PstB g A) A) [.ref (ad 18), .int 3, .int z2, .int z3, .long z4, .int z5].toArray s rm_X7_tryRuler_3.cells rm_X7_tryRuler_3.slots A) (F0 m 226 ls []) := by
                    intro f_226 H locs ls hP hD hS hT hfr hf67 hf68 hl
                    obtain ⟨x69, ex69⟩ : ∃ y : Int32, y = y139_l15 + 1 := ⟨_, rfl⟩
                    have hb70 : In x69 1 512 := ex69 ▸ In.add hb46 (⟨by decide, by decide⟩ : In 1 1 1) (by decide) (by decide) (by decide) (by decide)
                    have et71 : x69.toInt = y139_l15.toInt + 1 := In.adde ex69 hb46 (k := 1) (by decide) (by decide) (by decide)
                    refine lv_iinc (v := x69) (lv' := [(15, .int x69), (0, .ref (ad 18)), (1, .int 3), (2, .int z2), (3, .int z3), (4, .long z4), (6, .int z5), (7, .int r5), (8, .int x10), (9, .int y41_s0), (10, .int x16), (11, .int x23), (12, .int y94_s0), (13, .int x34), (14, .int y134_s0), (16, .int r59)]) hx hb dX7_tryRuler_226 hl (k := 14) rfl (by rw [ex69]; rfl) (by decide) rfl (fun ls hl => ?_)
                    refine lv_goto (tgt := 139) hx hb dX7_tryRuler_229 (by decide) ?_
                    exact ih139 x69 _ _ _ _ (In.mono hb70 (by decide) (by decide)) hP hD hS hT hfr hf67 hf68 (lv_sub hl [1, 2, 3, 4, 5, 6, 7, 8, 9, 10, 11, 12, 13, 14, 0] rfl) (msu et71 (by decide) hmz139)
                  refine lv_if_ne (tgt := 226) hx hb dX7_tryRuler_168 (by decide) (fun c72 => ?_) (fun c72 => ?_)
                  ·
                    have oc0 : (0 : Int32).toInt = 0 := by decide
                    have cc73 : x65.toInt ≠ (0 : Int32).toInt := i32_ne c72
                    have hb74 : In x65 1 511 := In.ne1 hb66 (⟨by decide, by decide⟩ : In 0 0 0) cc73 (by omega) (by omega)
                    exact hJ226 _ _ _ _ hP hD hS hT hfr hf40 hf41 (lv_sub hl [1, 2, 3, 4, 5, 6, 7, 8, 9, 10, 11, 12, 13, 14, 15, 0] rfl)
                  ·
                    have oc0 : (0 : Int32).toInt = 0 := by decide
                    have cc75 : x65.toInt = (0 : Int32).toInt := congrArg Int32.toInt c72
                    have hb76 : In x65 0 0 := In.eq1 hb66 (⟨by decide, by decide⟩ : In 0 0 0) cc75 (by omega) (by omega)
                    refine lv_iload hx hb dX7_tryRuler_171 (lv_at hl 12 rfl) ?_
                    refine lv_iload hx hb dX7_tryRuler_173 (lv_at hl 0 rfl) ?_
                    refine lv_ior hx hb dX7_tryRuler_175 ?_
                    refine lv_topi (fun x77 ex77 => ?_)
                    have hb78 : In x77 0 511 := ex77 ▸ In.or 9 hy94_s0 eL63R (by decide) (by decide) (by decide) (by decide) (by decide)
                    refine lv_istore (lv' := [(17, .int x77), (16, .int r59), (0, .ref (ad 18)), (1, .int 3), (2, .int z2), (3, .int z3), (4, .long z4), (6, .int z5), (7, .int r5), (8, .int x10), (9, .int y41_s0), (10, .int x16), (11, .int x23), (12, .int y94_s0), (13, .int x34), (14, .int y134_s0), (15, .int y139_l15)]) hx hb dX7_tryRuler_176 hl (by decide) rfl (fun ls hl => ?_)
                    refine lv_iload_n hx hb dX7_tryRuler_178 rfl (lv_at hl 4 rfl) ?_
                    refine lv_iload hx hb dX7_tryRuler_179 (lv_at hl 11 rfl) ?_
                    refine lv_iconst (v := (-1)) hx hb dX7_tryRuler_181 (by decide) ?_
                    refine lv_ixor hx hb dX7_tryRuler_182 ?_
                    refine lv_topi (fun x79 ex79 => ?_)
                    refine lv_iand hx hb dX7_tryRuler_183 ?_
                    refine lv_topi (fun x80 ex80 => ?_)
                    have hb81 : In x80 0 511 := ex80 ▸ In.andl hz2 (by decide)
                    refine lv_iload hx hb dX7_tryRuler_184 (lv_at hl 0 rfl) ?_
                    refine lv_iload hx hb dX7_tryRuler_186 (lv_at hl 11 rfl) ?_
                    refine lv_iand hx hb dX7_tryRuler_188 ?_
                    refine lv_topi (fun x82 ex82 => ?_)
                    have hb83 : In x82 0 511 := ex82 ▸ In.andr hb17 (by decide)
                    refine lv_ior hx hb dX7_tryRuler_189 ?_
                    refine lv_topi (fun x84 ex84 => ?_)
                    have hb85 : In x84 0 511 := ex84 ▸ In.or 9 hb81 hb83 (by decide) (by decide) (by decide) (by decide) (by decide)
                    refine lv_istore (lv' := [(18, .int x84), (17, .int x77), (16, .int r59), (0, .ref (ad 18)), (1, .int 3), (2, .int z2), (3, .int z3), (4, .long z4), (6, .int z5), (7, .int r5), (8, .int x10), (9, .int y41_s0), (10, .int x16), (11, .int x23), (12, .int y94_s0), (13, .int x34), (14, .int y134_s0), (15, .int y139_l15)]) hx hb dX7_tryRuler_190 hl (by decide) rfl (fun ls hl => ?_)
                    refine lv_iload_n hx hb dX7_tryRuler_192 rfl (lv_at hl 6 rfl) ?_
                    refine lv_iload hx hb dX7_tryRuler_193 (lv_at hl 1 rfl) ?_
                    refine lv_iload_n hx hb dX7_tryRuler_195 rfl (lv_at hl 5 rfl) ?_
                    refine lv_ixor hx hb dX7_tryRuler_196 ?_
                    refine lv_topi (fun x86 ex86 => ?_)
                    have hb87 : In x86 0 511 := ex86 ▸ In.xor 9 hb78 hz2 (by decide) (by decide) (by decide) (by decide) (by decide)
                    refine lv_iand hx hb dX7_tryRuler_197 ?_
                    refine lv_topi (fun x88 ex88 => ?_)
                    have hb89 : In x88 0 511 := ex88 ▸ In.andr hb87 (by decide)
                    refine lv_i2l hx hb dX7_tryRuler_198 rfl ?_
                    refine lv_lstore (lv' := [(19, .long (x88.toInt64)), (18, .int x84), (17, .int x77), (16, .int r59), (0, .ref (ad 18)), (1, .int 3), (2, .int z2), (3, .int z3), (4, .long z4), (6, .int z5), (7, .int r5), (8, .int x10), (9, .int y41_s0), (10, .int x16), (11, .int x23), (12, .int y94_s0), (13, .int x34), (14, .int y134_s0), (15, .int y139_l15)]) hx hb dX7_tryRuler_199 hl (by decide) rfl (fun ls hl => ?_)
                    refine lv_aload_n hx hb dX7_tryRuler_201 rfl (lv_at hl 4 rfl) ?_
                    refine lv_iload_n hx hb dX7_tryRuler_202 rfl (lv_at hl 5 rfl) ?_
                    refine lv_iconst (v := 1) hx hb dX7_tryRuler_203 (by decide) ?_
                    refine lv_iadd hx hb dX7_tryRuler_204 ?_
                    refine lv_topi (fun x90 ex90 => ?_)
                    obtain rfl : x90 = 4 := ex90.trans (by decide)
                    refine lv_iload hx hb dX7_tryRuler_205 (lv_at hl 1 rfl) ?_
                    refine lv_lload hx hb dX7_tryRuler_207 (lv_at hl 8 rfl) ?_
                    refine lv_lload hx hb dX7_tryRuler_209 (lv_at hl 0 rfl) ?_
                    refine lv_iload hx hb dX7_tryRuler_211 (lv_at hl 11 rfl) ?_
                    refine lv_lshl hx hb dX7_tryRuler_213 rfl ?_
                    refine lv_topl (fun x91 ex91 => ?_)
                    refine lv_lor hx hb dX7_tryRuler_214 ?_
                    refine lv_topl (fun x92 ex92 => ?_)
                    refine lv_iload hx hb dX7_tryRuler_215 (lv_at hl 9 rfl) ?_
                    refine lv_iload hx hb dX7_tryRuler_217 (lv_at hl 18 rfl) ?_
                    refine lv_iload hx hb dX7_tryRuler_219 (lv_at hl 16 rfl) ?_
                    refine lv_ishl hx hb dX7_tryRuler_221 ?_
                    refine lv_topi (fun x93 ex93 => ?_)
                    refine lv_ior hx hb dX7_tryRuler_222 ?_
                    refine lv_topi (fun x94 ex94 => ?_)
                    refine call_v (run_V (rm := rm_X7_explore_4) hx hb hml hown hts (s_X7_explore_4 l g ad th _ _ _ x84 x92 x94 hst hT hb85) cV_X7_explore wg_1049 ⟨Nat.le_of_ble_eq_true rfl, Nat.le_of_ble_eq_true rfl⟩ hG hE hA hP hD hS (hst.1 18 (by decide)) hf48 rfl rfl hl.1 (As := [.int 4, .int x84, .long x92, .int x94]) (rest := []) rfl (Nat.le_of_ble_eq_true rfl) dX7_tryRuler_223 ⟨Nat.le_of_ble_eq_true rfl, Nat.le_of_ble_eq_true rfl⟩) hA hD hS (fun L96 f97 H locs hp98 hP hD hS => ?_)
                    obtain ⟨eL99L, eL99T, eL99F⟩ := hp98
                    have eL99L : L96 = L := eL99L
                    rw [eL99L] at hP hD
                    have hT : TI g ad th f97 := eL99T
                    have eL99F : ∀ b, b ≠ (ad 18) → b ≠ (ad 21) → b ≠ (ad 22) → b ≠ (ad 23) → f97 b = f_139 b := eL99F
                    have hf100 := (eL99F (ad 8) (hst.ne (by decide) (by decide) (by decide)) (hst.ne (by decide) (by decide) (by decide)) (hst.ne (by decide) (by decide) (by decide)) (hst.ne (by decide) (by decide) (by decide))).trans hf41
                    have hf101 := (eL99F (ad 20) (hst.ne (by decide) (by decide) (by decide)) (hst.ne (by decide) (by decide) (by decide)) (hst.ne (by decide) (by decide) (by decide)) (hst.ne (by decide) (by decide) (by decide))).trans hf40
                    have hfr : (∀ b, b ≠ (ad 18) → b ≠ (ad 21) → b ≠ (ad 22) → b ≠ (ad 23) → f97 b = f b) := fun b z0_ z1_ z2_ z3_ => (eL99F b z0_ z1_ z2_ z3_).trans (hfr b z0_ z1_ z2_ z3_)
                    exact hJ226 _ _ _ _ hP hD hS hT hfr hf101 hf100 (lv_sub hl [4, 5, 6, 7, 8, 9, 10, 11, 12, 13, 14, 15, 16, 17, 18, 3] rfl)
          exact hJ139 ((2147483647 - (0 : Int32).toInt).toNat + 1) 0 _ _ _ _ (⟨by decide, by decide⟩ : In 0 0 2147483647) hP hD hS hT hfr hf31 hf4 (lv_sub hl [2, 3, 4, 5, 6, 7, 8, 9, 10, 11, 12, 13, 14, 1, 0] rfl) (msI _)
        refine lv_icmp_ne (tgt := 133) hx hb dX7_tryRuler_121 (by decide) (fun c102 => ?_) (fun c102 => ?_)
        ·
          have oc1 : (1 : Int32).toInt = 1 := by decide
          have cc103 : r35.toInt ≠ (1 : Int32).toInt := i32_ne c102
          have hb104 : In r35 0 0 := In.ne1 eL39R (⟨by decide, by decide⟩ : In 1 1 1) cc103 (by omega) (by omega)
          refine lv_iconst (v := 1) hx hb dX7_tryRuler_133 (by decide) ?_
          exact hJ134 1 _ _ _ (⟨by decide, by decide⟩ : In 1 1 512) hP hD hS (lv_sub hl [2, 3, 4, 5, 6, 7, 8, 9, 10, 11, 12, 1, 0] rfl)
        ·
          have oc1 : (1 : Int32).toInt = 1 := by decide
          have cc105 : r35.toInt = (1 : Int32).toInt := congrArg Int32.toInt c102
          have hb106 : In r35 1 1 := In.eq1 eL39R (⟨by decide, by decide⟩ : In 1 1 1) cc105 (by omega) (by omega)
          refine lv_iconst (v := 1) hx hb dX7_tryRuler_124 (by decide) ?_
          refine lv_aload_n hx hb dX7_tryRuler_125 rfl (lv_at hl 2 rfl) ?_
          refine pl_get (v := .int v10_1) hx hb hts (fun w h => mT (inX7 w h)) hown hG.1 hP (hst.1 18 (by decide)) hf2 rfl 10 (by decide) (hts _ (mT wg_442)) (fun _ h => h) rfl dX7_tryRuler_126 ?_
          refine lv_ishl hx hb dX7_tryRuler_129 ?_
          refine lv_topi (fun x107 ex107 => ?_)
          have hb108 : In x107 1 512 := ex107 ▸ In.shl (⟨by decide, by decide⟩ : In 1 1 1) hv10_1 (by decide) (by decide) (by decide) (by decide) (by decide) (by decide)
          refine lv_goto (tgt := 134) hx hb dX7_tryRuler_130 (by decide) ?_
          exact hJ134 x107 _ _ _ hb108 hP hD hS (lv_sub hl [2, 3, 4, 5, 6, 7, 8, 9, 10, 11, 12, 1, 0] rfl)
      refine lv_icmp_ne (tgt := 93) hx hb dX7_tryRuler_83 (by decide) (fun c109 => ?_) (fun c109 => ?_)
      ·
        have oc1 : (1 : Int32).toInt = 1 := by decide
        have cc110 : r24.toInt ≠ (1 : Int32).toInt := i32_ne c109
        have hb111 : In r24 0 0 := In.ne1 eL28R (⟨by decide, by decide⟩ : In 1 1 1) cc110 (by omega) (by omega)
        refine lv_iconst (v := 0) hx hb dX7_tryRuler_93 (by decide) ?_
        exact hJ94 0 _ _ _ (⟨by decide, by decide⟩ : In 0 0 511) hP hD hS (lv_sub hl [1, 2, 3, 4, 5, 6, 7, 8, 9, 10, 0] rfl)
      ·
        have oc1 : (1 : Int32).toInt = 1 := by decide
        have cc112 : r24.toInt = (1 : Int32).toInt := congrArg Int32.toInt c109
        have hb113 : In r24 1 1 := In.eq1 eL28R (⟨by decide, by decide⟩ : In 1 1 1) cc112 (by omega) (by omega)
        refine lv_aload_n hx hb dX7_tryRuler_86 rfl (lv_at hl 1 rfl) ?_
        refine pl_get (v := .int v9_1) hx hb hts (fun w h => mT (inX7 w h)) hown hG.1 hP (hst.1 18 (by decide)) hf2 rfl 9 (by decide) (hts _ (mT wg_441)) (fun _ h => h) rfl dX7_tryRuler_87 ?_
        refine lv_goto (tgt := 94) hx hb dX7_tryRuler_90 (by decide) ?_
        exact hJ94 v9_1 _ _ _ hv9_1 hP hD hS (lv_sub hl [1, 2, 3, 4, 5, 6, 7, 8, 9, 10, 0] rfl)
    refine lv_if_eq (tgt := 72) hx hb dX7_tryRuler_65 (by decide) (fun c114 => ?_) (fun c114 => ?_)
    ·
      have oc0 : (0 : Int32).toInt = 0 := by decide
      have cc115 : r18.toInt = (0 : Int32).toInt := congrArg Int32.toInt c114
      have hb116 : In r18 0 0 := In.eq1 eL22R (⟨by decide, by decide⟩ : In 0 0 0) cc115 (by omega) (by omega)
      refine lv_iconst (v := 0) hx hb dX7_tryRuler_72 (by decide) ?_
      exact hJ73 0 _ _ _ (⟨by decide, by decide⟩ : In 0 (-2147483648) 2147483647) hP hD hS (lv_sub hl [2, 3, 4, 5, 6, 7, 8, 9, 1, 0] rfl)
    ·
      have oc0 : (0 : Int32).toInt = 0 := by decide
      have cc117 : r18.toInt ≠ (0 : Int32).toInt := i32_ne c114
      have hb118 : In r18 1 1 := In.ne1 eL22R (⟨by decide, by decide⟩ : In 0 0 0) cc117 (by omega) (by omega)
      refine lv_iload_n hx hb dX7_tryRuler_68 rfl (lv_at hl 5 rfl) ?_
      refine lv_goto (tgt := 73) hx hb dX7_tryRuler_69 (by decide) ?_
      exact hJ73 z3 _ _ _ (In.full z3) hP hD hS (lv_sub hl [2, 3, 4, 5, 6, 7, 8, 9, 1, 0] rfl)
  refine lv_if_eq (tgt := 40) hx hb dX7_tryRuler_24 (by decide) (fun c119 => ?_) (fun c119 => ?_)
  ·
    have oc0 : (0 : Int32).toInt = 0 := by decide
    have cc120 : v6_3.toInt = (0 : Int32).toInt := congrArg Int32.toInt c119
    have hb121 : In v6_3 0 0 := In.eq1 hv6_3 (⟨by decide, by decide⟩ : In 0 0 0) cc120 (by omega) (by omega)
    refine lv_iconst (v := 0) hx hb dX7_tryRuler_40 (by decide) ?_
    exact hJ41 0 _ _ _ (⟨by decide, by decide⟩ : In 0 0 511) hP hD hS (lv_sub hl [2, 3, 4, 5, 6, 7, 1, 0] rfl)
  ·
    have oc0 : (0 : Int32).toInt = 0 := by decide
    have cc122 : v6_3.toInt ≠ (0 : Int32).toInt := i32_ne c119
    have hb123 : In v6_3 1 1 := In.ne1 hv6_3 (⟨by decide, by decide⟩ : In 0 0 0) cc122 (by omega) (by omega)
    refine lv_lload hx hb dX7_tryRuler_27 (lv_at hl 6 rfl) ?_
    refine lv_iload hx hb dX7_tryRuler_29 (lv_at hl 0 rfl) ?_
    refine lv_lushr hx hb dX7_tryRuler_31 rfl ?_
    refine lv_topl (fun x124 ex124 => ?_)
    refine lv_l2i hx hb dX7_tryRuler_32 rfl ?_
    refine lv_topi (fun x125 ex125 => ?_)
    refine lv_sipush (v := 511) hx hb dX7_tryRuler_33 (by decide) ?_
    refine lv_iand hx hb dX7_tryRuler_36 ?_
    refine lv_topi (fun x126 ex126 => ?_)
    have hb127 : In x126 0 511 := ex126 ▸ In.andr (⟨by decide, by decide⟩ : In 511 511 511) (by decide)
    refine lv_goto (tgt := 41) hx hb dX7_tryRuler_37 (by decide) ?_
    exact hJ41 x126 _ _ _ hb127 hP hD hS (lv_sub hl [2, 3, 4, 5, 6, 7, 1, 0] rfl)

abbrev rm_X7_tryViews_3 : Room := { frames := 11, cells := 0, slots := 0, locals := 371 }
abbrev po_X7_tryViews_3 (g : GG) (ad : Nat → Nat) (th : Nat → Int) (L : List Nat) (f : HP) (z2 : Int32) (z3 : Int64) (z4 : Int32) (z5 : Int32) : (List Nat × HP) → Prop := fun u => u.1 = L ∧ TI g ad th u.2 ∧ (∀ b, b ≠ (ad 18) → b ≠ (ad 21) → b ≠ (ad 22) → b ≠ (ad 23) → u.2 b = f b)
set_option maxHeartbeats 4000000 in
set_option maxRecDepth 100000 in
theorem s_X7_tryViews_3 (l : Launch) (g : GG) (ad : Nat → Nat) (th : Nat → Int) (L : List Nat) (f : HP) (sz : Nat) (z2 : Int32) (z3 : Int64) (z4 : Int32) (z5 : Int32) (hst : ST ad L) (hT : TI g ad th f) (hz2 : In z2 0 511) : MtV l g yX7_tryViews cX7_tryViews 20 rm_X7_tryViews_3 [.ref (ad 18), .int 3, .int z2, .long z3, .int z4, .int z5] L f sz (po_X7_tryViews_3 g ad th L f z2 z3 z4 z5) := by
  refine MtV.of (by decide +kernel) (Nat.le_of_ble_eq_true rfl) ?_
  intro p e s m below meth c A hEn hP hD hS ls hl
  obtain ⟨hx, hb, hr, hml, hown, hlocks, hts, hG, hA, hE, hnm⟩ := hEn
  have hown : s.vm.findClass "RulerWord$Search" = some m.cls := hown
  have hl : lv_has ls 20 [(0, .ref (ad 18)), (1, .int 3), (2, .int z2), (3, .long z3), (5, .int z4), (6, .int z5)] := hl
  have hfr : (∀ b, b ≠ (ad 18) → b ≠ (ad 21) → b ≠ (ad 22) → b ≠ (ad 23) → f b = f b) := fun b z0_ z1_ z2_ z3_ => rfl
  refine lv_iload_n hx hb dX7_tryViews_0 rfl (lv_at hl 1 rfl) ?_
  refine lv_iconst (v := 2) hx hb dX7_tryViews_1 (by decide) ?_
  refine lv_imul hx hb dX7_tryViews_2 ?_
  refine lv_topi (fun x1 ex1 => ?_)
  obtain rfl : x1 = 6 := ex1.trans (by decide)
  refine lv_iconst (v := 1) hx hb dX7_tryViews_3 (by decide) ?_
  refine lv_iadd hx hb dX7_tryViews_4 ?_
  refine lv_topi (fun x2 ex2 => ?_)
  obtain rfl : x2 = 7 := ex2.trans (by decide)
  refine lv_bipush (v := 9) hx hb dX7_tryViews_5 (by decide) ?_
  refine lv_imul hx hb dX7_tryViews_7 ?_
  refine lv_topi (fun x3 ex3 => ?_)
  obtain rfl : x3 = 63 := ex3.trans (by decide)
  refine lv_istore (lv' := [(7, .int 63), (0, .ref (ad 18)), (1, .int 3), (2, .int z2), (3, .long z3), (5, .int z4), (6, .int z5)]) hx hb dX7_tryViews_8 hl (by decide) rfl (fun ls hl => ?_)
  refine lv_iload hx hb dX7_tryViews_10 (lv_at hl 5 rfl) ?_
  refine lv_sipush (v := 511) hx hb dX7_tryViews_12 (by decide) ?_
  refine lv_iand hx hb dX7_tryViews_15 ?_
  refine lv_topi (fun x4 ex4 => ?_)
  have hb5 : In x4 0 511 := ex4 ▸ In.andr (⟨by decide, by decide⟩ : In 511 511 511) (by decide)
  refine call_i (run_S (rm := rm_J6_bitCount_0f7a4) hx hb hml hown hts (s_J6_bitCount_0f7a4 l g ad th _ _ _ x4 hst hT ) cS_J6_bitCount_0f7a4 wg_1042 ⟨Nat.le_of_ble_eq_true rfl, Nat.le_of_ble_eq_true rfl⟩ hG hE hA hP hD hS rfl hl.1 (As := [.int x4]) (rest := []) rfl (Nat.le_of_ble_eq_true rfl) dX7_tryViews_16 ⟨Nat.le_of_ble_eq_true rfl, Nat.le_of_ble_eq_true rfl⟩) hA hD hS (fun r6 L7 f8 H locs hp9 hP hD hS => ?_)
  obtain ⟨eL10L, eL10T, eL10R, eL10X0⟩ := hp9
  have eL10L : L7 = L := eL10L
  have eL10T : f8 = f := eL10T
  rw [eL10L, eL10T] at hP hD
  have eL10R : In r6 0 63 := eL10R
  have hb11 : In r6 0 9 := bc9 hb5 eL10X0
  refine lv_istore (lv' := [(8, .int r6), (7, .int 63), (0, .ref (ad 18)), (1, .int 3), (2, .int z2), (3, .long z3), (5, .int z4), (6, .int z5)]) hx hb dX7_tryViews_19 hl (by decide) rfl (fun ls hl => ?_)
  refine lv_iload hx hb dX7_tryViews_21 (lv_at hl 6 rfl) ?_
  refine lv_bipush (v := 9) hx hb dX7_tryViews_23 (by decide) ?_
  refine lv_iushr hx hb dX7_tryViews_25 rfl ?_
  refine lv_topi (fun x12 ex12 => ?_)
  refine call_i (run_S (rm := rm_J6_bitCount_0f7a4) hx hb hml hown hts (s_J6_bitCount_0f7a4 l g ad th _ _ _ x12 hst hT ) cS_J6_bitCount_0f7a4 wg_1042 ⟨Nat.le_of_ble_eq_true rfl, Nat.le_of_ble_eq_true rfl⟩ hG hE hA hP hD hS rfl hl.1 (As := [.int x12]) (rest := []) rfl (Nat.le_of_ble_eq_true rfl) dX7_tryViews_26 ⟨Nat.le_of_ble_eq_true rfl, Nat.le_of_ble_eq_true rfl⟩) hA hD hS (fun r13 L14 f15 H locs hp16 hP hD hS => ?_)
  obtain ⟨eL17L, eL17T, eL17R, eL17X0⟩ := hp16
  have eL17L : L14 = L := eL17L
  have eL17T : f15 = f := eL17T
  rw [eL17L, eL17T] at hP hD
  have eL17R : In r13 0 63 := eL17R
  refine lv_istore (lv' := [(9, .int r13), (8, .int r6), (7, .int 63), (0, .ref (ad 18)), (1, .int 3), (2, .int z2), (3, .long z3), (5, .int z4), (6, .int z5)]) hx hb dX7_tryViews_29 hl (by decide) rfl (fun ls hl => ?_)
  refine lv_iconst (v := 0) hx hb dX7_tryViews_31 (by decide) ?_
  refine lv_istore (lv' := [(10, .int 0), (9, .int r13), (8, .int r6), (7, .int 63), (0, .ref (ad 18)), (1, .int 3), (2, .int z2), (3, .long z3), (5, .int z4), (6, .int z5)]) hx hb dX7_tryViews_32 hl (by decide) rfl (fun ls hl => ?_)
  refine lv_iconst (v := 0) hx hb dX7_tryViews_34 (by decide) ?_
  refine lv_istore (lv' := [(11, .int 0), (10, .int 0), (9, .int r13), (8, .int r6), (7, .int 63), (0, .ref (ad 18)), (1, .int 3), (2, .int z2), (3, .long z3), (5, .int z4), (6, .int z5)]) hx hb dX7_tryViews_35 hl (by decide) rfl (fun ls hl => ?_)
  have hJ37 : ∀ (k37 : Nat) (y37_l10 : Int32) (y37_l11 : Int32) (f_37 : HP) (H : Heap) (locs : List Loc) (ls : Array Slot), In y37_l10 0 9 → In y37_l11 0 9 → va_P g.1 vwCl (va_pl L f_37) H → va_D A (va_pl L f_37) → va_S A s.heap H locs → TI g ad th f_37 → (∀ b, b ≠ (ad 18) → b ≠ (ad 21) → b ≠ (ad 22) → b ≠ (ad 23) → f_37 b = f b) → (y37_l10.toInt ≤ y37_l11.toInt ∧ (y37_l11.toInt = 0 ∨ 1 ≤ y37_l10.toInt)) → lv_has ls 20 [(0, .ref (ad 18)), (1, .int 3), (2, .int z2), (3, .long z3), (5, .int z4), (6, .int z5), (7, .int 63), (8, .int r6), (9, .int r13), (10, .int y37_l10), (11, .int y37_l11)] → 9 - y37_l11.toInt < ((k37 : Nat) : Int) → W p l e rm_X7_tryViews_3 s m [.ref (ad 18), .int 3, .int z2, .long z3, .int z4, .int z5].toArray below meth c H locs 0 0 (MQ below (va_Qv (po_X7_tryViews_3 g ad th L f z2 z3 z4 z5) (PstB g A) A) [.ref (ad 18), .int 3, .int z2, .long z3, .int z4, .int z5].toArray s rm_X7_tryViews_3.cells rm_X7_tryViews_3.slots A) (F0 m 37 ls []) := by
    intro k37
    induction k37 with
    | zero =>
      intro y37_l10 y37_l11 f_37 H locs ls hy37_l10 hy37_l11 hP hD hS hT hfr hinv37_0 hl hmz37
      exact ms0 hy37_l11 hmz37
    | succ k37 ih37 =>
      intro y37_l10 y37_l11 f_37 H locs ls hy37_l10 hy37_l11 hP hD hS hT hfr hinv37_0 hl hmz37
      refine lv_iload hx hb dX7_tryViews_37 (lv_at hl 10 rfl) ?_
      refine lv_aload_n hx hb dX7_tryViews_39 rfl (lv_at hl 0 rfl) ?_
      obtain ⟨v6_18, v7_18, v8_18, v9_18, v10_18, v11_18, v12_18, v13_18, hf19, hv8_18, hv9_18, hv10_18, hv11_18, hv13_18⟩ := hT.1 18 (by decide)
      refine pl_get (v := .int v11_18) hx hb hts (fun w h => mT (inX7 w h)) hown hG.1 hP (hst.1 18 (by decide)) hf19 rfl 11 (by decide) (hts _ (mT wg_443)) (fun _ h => h) rfl dX7_tryViews_40 ?_
      refine lv_icmp_gt (tgt := 90) hx hb dX7_tryViews_43 (by decide) (fun c20 => ?_) (fun c20 => ?_)
      ·
        have cc21 : v11_18.toInt < y37_l11.toInt := i32_lt.mp c20
        have hb22 : In y37_l11 1 9 := In.gt1 hy37_l11 hv11_18 cc21 (by omega) (by omega)
        refine lv_aload_n hx hb dX7_tryViews_90 rfl (lv_at hl 0 rfl) ?_
        refine pl_get (v := .ref (ad 20)) hx hb hts (fun w h => mT (inX7 w h)) hown hG.1 hP (hst.1 18 (by decide)) hf19 rfl 2 (by decide) (hts _ (mT wg_434)) (fun _ h => h) rfl dX7_tryViews_91 ?_
        refine lv_iload_n hx hb dX7_tryViews_94 rfl (lv_at hl 1 rfl) ?_
        obtain ⟨rw23, hf24⟩ := hT.1 20 (by decide)
        have hin25 : vp_in 3 7 := In.inb (⟨by decide, by decide⟩ : In 3 3 3) (by decide) (by decide)
        refine pl_iald hx hb hG.1 hP (hst.1 20 (by decide)) 0 hf24 rfl hin25 dX7_tryViews_95 ?_
        refine lv_topi (fun x26 ex26 => ?_)
        refine lv_aload_n hx hb dX7_tryViews_96 rfl (lv_at hl 0 rfl) ?_
        refine pl_get (v := .ref (ad 8)) hx hb hts (fun w h => mT (inX7 w h)) hown hG.1 hP (hst.1 18 (by decide)) hf19 rfl 0 (by decide) (hts _ (mT wg_432)) (fun _ h => h) rfl dX7_tryViews_97 ?_
        obtain ⟨v0_27, v1_27, v2_27, v3_27, v4_27, v5_27, v6_27, v7_27, hf28, hv0_27, hv1_27, hv2_27, hv3_27, hv5_27, hv6_27⟩ := hT.1 8 (by decide)
        refine pl_getN (v := .int v0_27) hx hb hts (fun w h => mT (inX2 w h)) hown hG.1 hP (hst.1 8 (by decide)) hf28 rfl 0 (by decide) (hG.2.1 _ wn_225) (fun _ h => h) rfl dX7_tryViews_100 ?_
        have hJ119 : ∀ (y119_s0 : Int32) (H : Heap) (locs : List Loc) (ls : Array Slot), In y119_s0 0 81 → va_P g.1 vwCl (va_pl L f_37) H → va_D A (va_pl L f_37) → va_S A s.heap H locs → lv_has ls 20 [(0, .ref (ad 18)), (1, .int 3), (2, .int z2), (3, .long z3), (5, .int z4), (6, .int z5), (7, .int 63), (8, .int r6), (9, .int r13), (10, .int y37_l10), (11, .int y37_l11)] → W p l e rm_X7_tryViews_3 s m [.ref (ad 18), .int 3, .int z2, .long z3, .int z4, .int z5].toArray below meth c H locs 0 0 (MQ below (va_Qv (po_X7_tryViews_3 g ad th L f z2 z3 z4 z5) (PstB g A) A) [.ref (ad 18), .int 3, .int z2, .long z3, .int z4, .int z5].toArray s rm_X7_tryViews_3.cells rm_X7_tryViews_3.slots A) (F0 m 119 ls [.int y119_s0, .int x26]) := by
          intro y119_s0 H locs ls hy119_s0 hP hD hS hl
          refine lv_iadd hx hb dX7_tryViews_119 ?_
          refine lv_topi (fun x29 ex29 => ?_)
          refine lv_istore (lv' := [(11, .int x29), (0, .ref (ad 18)), (1, .int 3), (2, .int z2), (3, .long z3), (5, .int z4), (6, .int z5), (7, .int 63), (8, .int r6), (9, .int r13), (10, .int y37_l10)]) hx hb dX7_tryViews_120 hl (by decide) rfl (fun ls hl => ?_)
          refine lv_aload_n hx hb dX7_tryViews_122 rfl (lv_at hl 1 rfl) ?_
          refine lv_iload hx hb dX7_tryViews_123 (lv_at hl 10 rfl) ?_
          refine call_i (run_V (rm := rm_X7_power) hx hb hml hown hts (s_X7_power l g ad th _ _ _ y37_l10 hst hT ) cV_X7_power wg_1066 ⟨Nat.le_of_ble_eq_true rfl, Nat.le_of_ble_eq_true rfl⟩ hG hE hA hP hD hS (hst.1 18 (by decide)) hf19 rfl rfl hl.1 (As := [.int y37_l10]) (rest := []) rfl (Nat.le_of_ble_eq_true rfl) dX7_tryViews_125 ⟨Nat.le_of_ble_eq_true rfl, Nat.le_of_ble_eq_true rfl⟩) hA hD hS (fun r30 L31 f32 H locs hp33 hP hD hS => ?_)
          obtain ⟨eL34L, eL34T⟩ := hp33
          have eL34L : L31 = L := eL34L
          have eL34T : f32 = f_37 := eL34T
          rw [eL34L, eL34T] at hP hD
          refine lv_istore (lv' := [(12, .int r30), (11, .int x29), (0, .ref (ad 18)), (1, .int 3), (2, .int z2), (3, .long z3), (5, .int z4), (6, .int z5), (7, .int 63), (8, .int r6), (9, .int r13), (10, .int y37_l10)]) hx hb dX7_tryViews_128 hl (by decide) rfl (fun ls hl => ?_)
          refine lv_iconst (v := 0) hx hb dX7_tryViews_130 (by decide) ?_
          refine lv_istore (lv' := [(13, .int 0), (12, .int r30), (11, .int x29), (0, .ref (ad 18)), (1, .int 3), (2, .int z2), (3, .long z3), (5, .int z4), (6, .int z5), (7, .int 63), (8, .int r6), (9, .int r13), (10, .int y37_l10)]) hx hb dX7_tryViews_131 hl (by decide) rfl (fun ls hl => ?_)
          have hJ133 : ∀ (k133 : Nat) (y133_l13 : Int32) (f_133 : HP) (H : Heap) (locs : List Loc) (ls : Array Slot), In y133_l13 0 2147483647 → va_P g.1 vwCl (va_pl L f_133) H → va_D A (va_pl L f_133) → va_S A s.heap H locs → TI g ad th f_133 → (∀ b, b ≠ (ad 18) → b ≠ (ad 21) → b ≠ (ad 22) → b ≠ (ad 23) → f_133 b = f b) → f_133 (ad 20) = .inl (g.2.1 0, 7, .inl (rw23)) → f_133 (ad 8) = .inr (2, [.int v0_27, .int v1_27, .int v2_27, .int v3_27, .int v4_27, .int v5_27, .int v6_27, .int v7_27]) → lv_has ls 20 [(0, .ref (ad 18)), (1, .int 3), (2, .int z2), (3, .long z3), (5, .int z4), (6, .int z5), (7, .int 63), (8, .int r6), (9, .int r13), (10, .int y37_l10), (11, .int x29), (12, .int r30), (13, .int y133_l13)] → 2147483647 - y133_l13.toInt < ((k133 : Nat) : Int) → W p l e rm_X7_tryViews_3 s m [.ref (ad 18), .int 3, .int z2, .long z3, .int z4, .int z5].toArray below meth c H locs 0 0 (MQ below (va_Qv (po_X7_tryViews_3 g ad th L f z2 z3 z4 z5) (PstB g A) A) [.ref (ad 18), .int 3, .int z2, .long z3, .int z4, .int z5].toArray s rm_X7_tryViews_3.cells rm_X7_tryViews_3.slots A) (F0 m 133 ls []) := by
            intro k133
            induction k133 with
            | zero =>
              intro y133_l13 f_133 H locs ls hy133_l13 hP hD hS hT hfr hf35 hf36 hl hmz133
              exact ms0 hy133_l13 hmz133
            | succ k133 ih133 =>
              intro y133_l13 f_133 H locs ls hy133_l13 hP hD hS hT hfr hf35 hf36 hl hmz133
              refine lv_iload hx hb dX7_tryViews_133 (lv_at hl 12 rfl) ?_
              refine lv_iload hx hb dX7_tryViews_135 (lv_at hl 11 rfl) ?_
              refine lv_icmp_ge (tgt := 280) hx hb dX7_tryViews_137 (by decide) (fun c37 => ?_) (fun c37 => ?_)
              ·
                have cc38 : r30.toInt ≤ y133_l13.toInt := i32_le.mp c37
                exact ret_v hx hb hr hlocks hP hD hS (Nat.le_of_ble_eq_true rfl) (Nat.le_of_ble_eq_true rfl) (⟨rfl, hT, hfr⟩) dX7_tryViews_280
              ·
                have cc39 : y133_l13.toInt < r30.toInt := i32_nle c37
                have hb40 : In y133_l13 0 2147483646 := In.lt1 hy133_l13 (In.full r30) cc39 (by omega) (by omega)
                have hb41 : In r30 1 2147483647 := In.lt2 hy133_l13 (In.full r30) cc39 (by omega) (by omega)
                refine lv_aload_n hx hb dX7_tryViews_140 rfl (lv_at hl 0 rfl) ?_
                obtain ⟨v6_42, v7_42, v8_42, v9_42, v10_42, v11_42, v12_42, v13_42, hf43, hv8_42, hv9_42, hv10_42, hv11_42, hv13_42⟩ := hT.1 18 (by decide)
                refine call_i (run_V (rm := rm_X7_isEnough) hx hb hml hown hts (s_X7_isEnough l g ad th _ _ _  hst hT ) cV_X7_isEnough wg_1070 ⟨Nat.le_of_ble_eq_true rfl, Nat.le_of_ble_eq_true rfl⟩ hG hE hA hP hD hS (hst.1 18 (by decide)) hf43 rfl rfl hl.1 (As := []) (rest := []) rfl (Nat.le_of_ble_eq_true rfl) dX7_tryViews_141 ⟨Nat.le_of_ble_eq_true rfl, Nat.le_of_ble_eq_true rfl⟩) hA hD hS (fun r44 L45 f46 H locs hp47 hP hD hS => ?_)
                obtain ⟨eL48L, eL48T, eL48R⟩ := hp47
                have eL48L : L45 = L := eL48L
                have eL48T : f46 = f_133 := eL48T
                rw [eL48L, eL48T] at hP hD
                have eL48R : In r44 0 1 := eL48R
                refine lv_if_ne (tgt := 280) hx hb dX7_tryViews_144 (by decide) (fun c49 => ?_) (fun c49 => ?_)
                ·
                  have oc0 : (0 : Int32).toInt = 0 := by decide
                  have cc50 : r44.toInt ≠ (0 : Int32).toInt := i32_ne c49
                  have hb51 : In r44 1 1 := In.ne1 eL48R (⟨by decide, by decide⟩ : In 0 0 0) cc50 (by omega) (by omega)
                  exact ret_v hx hb hr hlocks hP hD hS (Nat.le_of_ble_eq_true rfl) (Nat.le_of_ble_eq_true rfl) (⟨rfl, hT, hfr⟩) dX7_tryViews_280
                ·
                  have oc0 : (0 : Int32).toInt = 0 := by decide
                  have cc52 : r44.toInt = (0 : Int32).toInt := congrArg Int32.toInt c49
                  have hb53 : In r44 0 0 := In.eq1 eL48R (⟨by decide, by decide⟩ : In 0 0 0) cc52 (by omega) (by omega)
                  refine lv_iload_n hx hb dX7_tryViews_147 rfl (lv_at hl 2 rfl) ?_
                  refine lv_istore (lv' := [(14, .int z2), (0, .ref (ad 18)), (1, .int 3), (2, .int z2), (3, .long z3), (5, .int z4), (6, .int z5), (7, .int 63), (8, .int r6), (9, .int r13), (10, .int y37_l10), (11, .int x29), (12, .int r30), (13, .int y133_l13)]) hx hb dX7_tryViews_148 hl (by decide) rfl (fun ls hl => ?_)
                  refine lv_iconst (v := 0) hx hb dX7_tryViews_150 (by decide) ?_
                  refine lv_istore (lv' := [(15, .int 0), (14, .int z2), (0, .ref (ad 18)), (1, .int 3), (2, .int z2), (3, .long z3), (5, .int z4), (6, .int z5), (7, .int 63), (8, .int r6), (9, .int r13), (10, .int y37_l10), (11, .int x29), (12, .int r30), (13, .int y133_l13)]) hx hb dX7_tryViews_151 hl (by decide) rfl (fun ls hl => ?_)
                  refine lv_iload hx hb dX7_tryViews_153 (lv_at hl 14 rfl) ?_
                  refine lv_istore (lv' := [(16, .int y133_l13), (15, .int 0), (14, .int z2), (0, .ref (ad 18)), (1, .int 3), (2, .int z2), (3, .long z3), (5, .int z4), (6, .int z5), (7, .int 63), (8, .int r6), (9, .int r13), (10, .int y37_l10), (11, .int x29), (12, .int r30), (13, .int y133_l13)]) hx hb dX7_tryViews_155 hl (by decide) rfl (fun ls hl => ?_)
                  refine lv_iload hx hb dX7_tryViews_157 (lv_at hl 8 rfl) ?_
                  refine lv_istore (lv' := [(17, .int z5), (16, .int y133_l13), (15, .int 0), (14, .int z2), (0, .ref (ad 18)), (1, .int 3), (2, .int z2), (3, .long z3), (5, .int z4), (6, .int z5), (7, .int 63), (8, .int r6), (9, .int r13), (10, .int y37_l10), (11, .int x29), (12, .int r30), (13, .int y133_l13)]) hx hb dX7_tryViews_159 hl (by decide) rfl (fun ls hl => ?_)
                  refine lv_iconst (v := 0) hx hb dX7_tryViews_161 (by decide) ?_
                  refine lv_istore (lv' := [(18, .int 0), (17, .int z5), (16, .int y133_l13), (15, .int 0), (14, .int z2), (0, .ref (ad 18)), (1, .int 3), (2, .int z2), (3, .long z3), (5, .int z4), (6, .int z5), (7, .int 63), (8, .int r6), (9, .int r13), (10, .int y37_l10), (11, .int x29), (12, .int r30), (13, .int y133_l13)]) hx hb dX7_tryViews_162 hl (by decide) rfl (fun ls hl => ?_)
                  have hJ164 : ∀ (k164 : Nat) (y164_l14 : Int32) (y164_l15 : Int32) (y164_l16 : Int32) (y164_l17 : Int32) (y164_l18 : Int32) (H : Heap) (locs : List Loc) (ls : Array Slot), In y164_l14 0 511 → In y164_l15 (-2147483648) 2147483647 → In y164_l16 0 2147483647 → In y164_l17 (-2147483648) 2147483647 → In y164_l18 0 9 → va_P g.1 vwCl (va_pl L f_133) H → va_D A (va_pl L f_133) → va_S A s.heap H locs → lv_has ls 20 [(0, .ref (ad 18)), (1, .int 3), (2, .int z2), (3, .long z3), (5, .int z4), (6, .int z5), (7, .int 63), (8, .int r6), (9, .int r13), (10, .int y37_l10), (11, .int x29), (12, .int r30), (13, .int y133_l13), (14, .int y164_l14), (15, .int y164_l15), (16, .int y164_l16), (17, .int y164_l17), (18, .int y164_l18)] → 9 - y164_l18.toInt < ((k164 : Nat) : Int) → W p l e rm_X7_tryViews_3 s m [.ref (ad 18), .int 3, .int z2, .long z3, .int z4, .int z5].toArray below meth c H locs 0 0 (MQ below (va_Qv (po_X7_tryViews_3 g ad th L f z2 z3 z4 z5) (PstB g A) A) [.ref (ad 18), .int 3, .int z2, .long z3, .int z4, .int z5].toArray s rm_X7_tryViews_3.cells rm_X7_tryViews_3.slots A) (F0 m 164 ls []) := by
                    intro k164
                    induction k164 with
                    | zero =>
                      intro y164_l14 y164_l15 y164_l16 y164_l17 y164_l18 H locs ls hy164_l14 hy164_l15 hy164_l16 hy164_l17 hy164_l18 hP hD hS hl hmz164
                      exact ms0 hy164_l18 hmz164
                    | succ k164 ih164 =>
                      intro y164_l14 y164_l15 y164_l16 y164_l17 y164_l18 H locs ls hy164_l14 hy164_l15 hy164_l16 hy164_l17 hy164_l18 hP hD hS hl hmz164
                      refine lv_iload hx hb dX7_tryViews_164 (lv_at hl 17 rfl) ?_
                      refine lv_aload_n hx hb dX7_tryViews_166 rfl (lv_at hl 0 rfl) ?_
                      refine pl_get (v := .int v10_42) hx hb hts (fun w h => mT (inX7 w h)) hown hG.1 hP (hst.1 18 (by decide)) hf43 rfl 10 (by decide) (hts _ (mT wg_442)) (fun _ h => h) rfl dX7_tryViews_167 ?_
                      refine lv_icmp_ge (tgt := 262) hx hb dX7_tryViews_170 (by decide) (fun c54 => ?_) (fun c54 => ?_)
                      ·
                        have cc55 : v10_42.toInt ≤ y164_l18.toInt := i32_le.mp c54
                        refine lv_aload_n hx hb dX7_tryViews_262 rfl (lv_at hl 0 rfl) ?_
                        refine lv_iload_n hx hb dX7_tryViews_263 rfl (lv_at hl 1 rfl) ?_
                        refine lv_iload hx hb dX7_tryViews_264 (lv_at hl 13 rfl) ?_
                        refine lv_iload hx hb dX7_tryViews_266 (lv_at hl 14 rfl) ?_
                        refine lv_lload_n hx hb dX7_tryViews_268 rfl (lv_at hl 3 rfl) ?_
                        refine lv_iload hx hb dX7_tryViews_269 (lv_at hl 16 rfl) ?_
                        refine call_v (run_V (rm := rm_X7_tryRuler_3) hx hb hml hown hts (s_X7_tryRuler_3 l g ad th _ _ _ y164_l14 y164_l15 z3 y164_l17 hst hT hy164_l14) cV_X7_tryRuler wg_1089 ⟨Nat.le_of_ble_eq_true rfl, Nat.le_of_ble_eq_true rfl⟩ hG hE hA hP hD hS (hst.1 18 (by decide)) hf43 rfl rfl hl.1 (As := [.int 3, .int y164_l14, .int y164_l15, .long z3, .int y164_l17]) (rest := []) rfl (Nat.le_of_ble_eq_true rfl) dX7_tryViews_271 ⟨Nat.le_of_ble_eq_true rfl, Nat.le_of_ble_eq_true rfl⟩) hA hD hS (fun L57 f58 H locs hp59 hP hD hS => ?_)
                        obtain ⟨eL60L, eL60T, eL60F⟩ := hp59
                        have eL60L : L57 = L := eL60L
                        rw [eL60L] at hP hD
                        have hT : TI g ad th f58 := eL60T
                        have eL60F : ∀ b, b ≠ (ad 18) → b ≠ (ad 21) → b ≠ (ad 22) → b ≠ (ad 23) → f58 b = f_133 b := eL60F
                        have hf61 := (eL60F (ad 20) (hst.ne (by decide) (by decide) (by decide)) (hst.ne (by decide) (by decide) (by decide)) (hst.ne (by decide) (by decide) (by decide)) (hst.ne (by decide) (by decide) (by decide))).trans hf35
                        have hf62 := (eL60F (ad 8) (hst.ne (by decide) (by decide) (by decide)) (hst.ne (by decide) (by decide) (by decide)) (hst.ne (by decide) (by decide) (by decide)) (hst.ne (by decide) (by decide) (by decide))).trans hf36
                        have hfr : (∀ b, b ≠ (ad 18) → b ≠ (ad 21) → b ≠ (ad 22) → b ≠ (ad 23) → f58 b = f b) := fun b z0_ z1_ z2_ z3_ => (eL60F b z0_ z1_ z2_ z3_).trans (hfr b z0_ z1_ z2_ z3_)
                        obtain ⟨x63, ex63⟩ : ∃ y : Int32, y = y133_l13 + 1 := ⟨_, rfl⟩
                        have hb64 : In x63 1 2147483647 := ex63 ▸ In.add hb40 (⟨by decide, by decide⟩ : In 1 1 1) (by decide) (by decide) (by decide) (by decide)
                        have et65 : x63.toInt = y133_l13.toInt + 1 := In.adde ex63 hb40 (k := 1) (by decide) (by decide) (by decide)
                        refine lv_iinc (v := x63) (lv' := [(13, .int x63), (0, .ref (ad 18)), (1, .int 3), (2, .int z2), (3, .long z3), (5, .int z4), (6, .int z5), (7, .int 63), (8, .int r6), (9, .int r13), (10, .int y37_l10), (11, .int x29), (12, .int r30), (14, .int y164_l14), (15, .int y164_l15), (16, .int y164_l16), (17, .int y164_l17), (18, .int y164_l18)]) hx hb dX7_tryViews_274 hl (k := 12) rfl (by rw [ex63]; rfl) (by decide) rfl (fun ls hl => ?_)
                        refine lv_goto (tgt := 133) hx hb dX7_tryViews_277 (by decide) ?_
                        exact ih133 x63 _ _ _ _ (In.mono hb64 (by decide) (by decide)) hP hD hS hT hfr hf61 hf62 (lv_sub hl [1, 2, 3, 4, 5, 6, 7, 8, 9, 10, 11, 12, 0] rfl) (msu et65 (by decide) hmz133)
                      ·
                        have cc66 : y164_l18.toInt < v10_42.toInt := i32_nle c54
                        have hb67 : In y164_l18 0 8 := In.lt1 hy164_l18 hv10_42 cc66 (by omega) (by omega)
                        have hb68 : In v10_42 1 9 := In.lt2 hy164_l18 hv10_42 cc66 (by omega) (by omega)
                        refine lv_iload hx hb dX7_tryViews_173 (lv_at hl 6 rfl) ?_
                        refine lv_iload hx hb dX7_tryViews_175 (lv_at hl 15 rfl) ?_
                        refine lv_iload hx hb dX7_tryViews_177 (lv_at hl 9 rfl) ?_
                        have hb69 : In y37_l10 1 9 := In.mk (by obtain ⟨o0a, o0b⟩ := (hy37_l10 : In _ _ _); obtain ⟨o1a, o1b⟩ := (hb22 : In _ _ _); obtain ⟨o2a, o2b⟩ := (hv11_18 : In _ _ _); omega) (by obtain ⟨o0a, o0b⟩ := (hy37_l10 : In _ _ _); obtain ⟨o1a, o1b⟩ := (hb22 : In _ _ _); obtain ⟨o2a, o2b⟩ := (hv11_18 : In _ _ _); omega)
                        refine lv_irem hx hb dX7_tryViews_179 (In.ne0 hb69 (by decide)) ?_
                        refine lv_topi (fun x70 ex70 => ?_)
                        have hb71 : In x70 0 8 := ex70 ▸ In.rem hy164_l16 hb69 (by decide) (by decide) (by decide)
                        refine lv_iadd hx hb dX7_tryViews_180 ?_
                        refine lv_topi (fun x72 ex72 => ?_)
                        have hb73 : In x72 63 71 := ex72 ▸ In.add (⟨by decide, by decide⟩ : In 63 63 63) hb71 (by decide) (by decide) (by decide) (by decide)
                        have et74 : x72.toInt = (63 : Int32).toInt + x70.toInt := In.add2e ex72 (⟨by decide, by decide⟩ : In 63 63 63) hb71 (by decide) (by decide)
                        refine lv_istore (lv' := [(19, .int x72), (0, .ref (ad 18)), (1, .int 3), (2, .int z2), (3, .long z3), (5, .int z4), (6, .int z5), (7, .int 63), (8, .int r6), (9, .int r13), (10, .int y37_l10), (11, .int x29), (12, .int r30), (13, .int y133_l13), (14, .int y164_l14), (15, .int y164_l15), (16, .int y164_l16), (17, .int y164_l17), (18, .int y164_l18)]) hx hb dX7_tryViews_181 hl (by decide) rfl (fun ls hl => ?_)
                        refine lv_iload hx hb dX7_tryViews_183 (lv_at hl 16 rfl) ?_
                        refine lv_iload hx hb dX7_tryViews_185 (lv_at hl 10 rfl) ?_
                        refine lv_idiv hx hb dX7_tryViews_187 (In.ne0 hb69 (by decide)) ?_
                        refine lv_topi (fun x75 ex75 => ?_)
                        have hb76 : In x75 0 2147483647 := ex75 ▸ In.div hy164_l16 hb69 (by decide) (by decide) (by decide) (by decide)
                        refine lv_istore (lv' := [(16, .int x75), (19, .int x72), (0, .ref (ad 18)), (1, .int 3), (2, .int z2), (3, .long z3), (5, .int z4), (6, .int z5), (7, .int 63), (8, .int r6), (9, .int r13), (10, .int y37_l10), (11, .int x29), (12, .int r30), (13, .int y133_l13), (14, .int y164_l14), (15, .int y164_l15), (17, .int y164_l17), (18, .int y164_l18)]) hx hb dX7_tryViews_188 hl (by decide) rfl (fun ls hl => ?_)
                        refine lv_iload hx hb dX7_tryViews_190 (lv_at hl 15 rfl) ?_
                        refine lv_iconst (v := 1) hx hb dX7_tryViews_192 (by decide) ?_
                        refine lv_aload_n hx hb dX7_tryViews_193 rfl (lv_at hl 2 rfl) ?_
                        refine pl_get (v := .ref (ad 19)) hx hb hts (fun w h => mT (inX7 w h)) hown hG.1 hP (hst.1 18 (by decide)) hf43 rfl 1 (by decide) (hts _ (mT wg_433)) (fun _ h => h) rfl dX7_tryViews_194 ?_
                        refine lv_iload hx hb dX7_tryViews_197 (lv_at hl 18 rfl) ?_
                        obtain ⟨rw77, hf78, hc79⟩ := hT.1 19 (by decide)
                        have hin80 : vp_in y164_l18 9 := In.inb hb67 (by decide) (by decide)
                        refine pl_iald hx hb hG.1 hP (hst.1 19 (by decide)) 0 hf78 rfl hin80 dX7_tryViews_199 ?_
                        refine lv_topi (fun x81 ex81 => ?_)
                        have hb82 : In x81 0 8 := by rw [ex81]; exact hc79 _ (vp_nat hin80)
                        refine lv_ishl hx hb dX7_tryViews_200 ?_
                        refine lv_topi (fun x83 ex83 => ?_)
                        have hb84 : In x83 1 256 := ex83 ▸ In.shl (⟨by decide, by decide⟩ : In 1 1 1) hb82 (by decide) (by decide) (by decide) (by decide) (by decide) (by decide)
                        refine lv_aload_n hx hb dX7_tryViews_201 rfl (lv_at hl 2 rfl) ?_
                        refine pl_get (v := .ref (ad 21)) hx hb hts (fun w h => mT (inX7 w h)) hown hG.1 hP (hst.1 18 (by decide)) hf43 rfl 3 (by decide) (hts _ (mT wg_435)) (fun _ h => h) rfl dX7_tryViews_202 ?_
                        refine lv_iload hx hb dX7_tryViews_205 (lv_at hl 1 rfl) ?_
                        obtain ⟨rw85, hf86⟩ := hT.1 21 (by decide)
                        have hin87 : vp_in x72 108 := In.inb hb73 (by decide) (by decide)
                        refine pl_iald hx hb hG.1 hP (hst.1 21 (by decide)) 0 hf86 rfl hin87 dX7_tryViews_207 ?_
                        refine lv_topi (fun x88 ex88 => ?_)
                        refine call_i (run_S (rm := rm_X7_seen) hx hb hml hown hts (s_X7_seen l g ad th _ _ _ y164_l14 x83 x88 hst hT hy164_l14 (In.mono hb84 (by decide) (by decide))) cS_X7_seen wg_1086 ⟨Nat.le_of_ble_eq_true rfl, Nat.le_of_ble_eq_true rfl⟩ hG hE hA hP hD hS rfl hl.1 (As := [.int y164_l14, .int x83, .int x88]) (rest := []) rfl (Nat.le_of_ble_eq_true rfl) dX7_tryViews_208 ⟨Nat.le_of_ble_eq_true rfl, Nat.le_of_ble_eq_true rfl⟩) hA hD hS (fun r89 L90 f91 H locs hp92 hP hD hS => ?_)
                        obtain ⟨eL93L, eL93T, eL93R⟩ := hp92
                        have eL93L : L90 = L := eL93L
                        have eL93T : f91 = f_133 := eL93T
                        rw [eL93L, eL93T] at hP hD
                        have eL93R : In r89 0 511 := eL93R
                        refine lv_istore (lv' := [(14, .int r89), (16, .int x75), (19, .int x72), (0, .ref (ad 18)), (1, .int 3), (2, .int z2), (3, .long z3), (5, .int z4), (6, .int z5), (7, .int 63), (8, .int r6), (9, .int r13), (10, .int y37_l10), (11, .int x29), (12, .int r30), (13, .int y133_l13), (15, .int y164_l15), (17, .int y164_l17), (18, .int y164_l18)]) hx hb dX7_tryViews_211 hl (by decide) rfl (fun ls hl => ?_)
                        refine lv_iload hx hb dX7_tryViews_213 (lv_at hl 16 rfl) ?_
                        refine lv_aload_n hx hb dX7_tryViews_215 rfl (lv_at hl 3 rfl) ?_
                        refine pl_get (v := .ref (ad 21)) hx hb hts (fun w h => mT (inX7 w h)) hown hG.1 hP (hst.1 18 (by decide)) hf43 rfl 3 (by decide) (hts _ (mT wg_435)) (fun _ h => h) rfl dX7_tryViews_216 ?_
                        refine lv_iload hx hb dX7_tryViews_219 (lv_at hl 2 rfl) ?_
                        have hin94 : vp_in x72 108 := In.inb hb73 (by decide) (by decide)
                        refine pl_iald hx hb hG.1 hP (hst.1 21 (by decide)) 0 hf86 rfl hin94 dX7_tryViews_221 ?_
                        refine lv_topi (fun x95 ex95 => ?_)
                        obtain rfl : x88 = x95 := ex88.trans ex95.symm
                        refine lv_iconst (v := 4) hx hb dX7_tryViews_222 (by decide) ?_
                        refine lv_idiv hx hb dX7_tryViews_223 (In.ne0 (⟨by decide, by decide⟩ : In 4 4 4) (by decide)) ?_
                        refine lv_topi (fun x96 ex96 => ?_)
                        refine lv_aload_n hx hb dX7_tryViews_224 rfl (lv_at hl 3 rfl) ?_
                        refine pl_get (v := .ref (ad 19)) hx hb hts (fun w h => mT (inX7 w h)) hown hG.1 hP (hst.1 18 (by decide)) hf43 rfl 1 (by decide) (hts _ (mT wg_433)) (fun _ h => h) rfl dX7_tryViews_225 ?_
                        refine lv_iload hx hb dX7_tryViews_228 (lv_at hl 18 rfl) ?_
                        have hin97 : vp_in y164_l18 9 := In.inb hb67 (by decide) (by decide)
                        refine pl_iald hx hb hG.1 hP (hst.1 19 (by decide)) 0 hf78 rfl hin97 dX7_tryViews_230 ?_
                        refine lv_topi (fun x98 ex98 => ?_)
                        obtain rfl : x81 = x98 := ex81.trans ex98.symm
                        refine lv_ishl hx hb dX7_tryViews_231 ?_
                        refine lv_topi (fun x99 ex99 => ?_)
                        refine lv_ior hx hb dX7_tryViews_232 ?_
                        refine lv_topi (fun x100 ex100 => ?_)
                        refine lv_istore (lv' := [(15, .int x100), (14, .int r89), (16, .int x75), (19, .int x72), (0, .ref (ad 18)), (1, .int 3), (2, .int z2), (3, .long z3), (5, .int z4), (6, .int z5), (7, .int 63), (8, .int r6), (9, .int r13), (10, .int y37_l10), (11, .int x29), (12, .int r30), (13, .int y133_l13), (17, .int y164_l17), (18, .int y164_l18)]) hx hb dX7_tryViews_233 hl (by decide) rfl (fun ls hl => ?_)
                        refine lv_iload hx hb dX7_tryViews_235 (lv_at hl 17 rfl) ?_
                        refine lv_aload_n hx hb dX7_tryViews_237 rfl (lv_at hl 4 rfl) ?_
                        refine lv_aload_n hx hb dX7_tryViews_238 rfl (lv_at hl 4 rfl) ?_
                        refine pl_get (v := .ref (ad 22)) hx hb hts (fun w h => mT (inX7 w h)) hown hG.1 hP (hst.1 18 (by decide)) hf43 rfl 4 (by decide) (hts _ (mT wg_436)) (fun _ h => h) rfl dX7_tryViews_239 ?_
                        refine lv_iload hx hb dX7_tryViews_242 (lv_at hl 3 rfl) ?_
                        obtain ⟨rw101, hf102⟩ := hT.1 22 (by decide)
                        have hin103 : vp_in x72 108 := In.inb hb73 (by decide) (by decide)
                        refine pl_iald hx hb hG.1 hP (hst.1 22 (by decide)) 0 hf102 rfl hin103 dX7_tryViews_244 ?_
                        refine lv_topi (fun x104 ex104 => ?_)
                        refine lv_iload hx hb dX7_tryViews_245 (lv_at hl 14 rfl) ?_
                        refine lv_iload hx hb dX7_tryViews_247 (lv_at hl 18 rfl) ?_
                        refine lv_iadd hx hb dX7_tryViews_249 ?_
                        refine lv_topi (fun x105 ex105 => ?_)
                        refine call_i (run_V (rm := rm_X7_bitsOf) hx hb hml hown hts (s_X7_bitsOf l g ad th _ _ _ x104 x105 hst hT ) cV_X7_bitsOf wg_1077 ⟨Nat.le_of_ble_eq_true rfl, Nat.le_of_ble_eq_true rfl⟩ hG hE hA hP hD hS (hst.1 18 (by decide)) hf43 rfl rfl hl.1 (As := [.int x104, .int x105]) (rest := [.int y164_l17]) rfl (Nat.le_of_ble_eq_true rfl) dX7_tryViews_250 ⟨Nat.le_of_ble_eq_true rfl, Nat.le_of_ble_eq_true rfl⟩) hA hD hS (fun r106 L107 f108 H locs hp109 hP hD hS => ?_)
                        obtain ⟨eL110L, eL110T⟩ := hp109
                        have eL110L : L107 = L := eL110L
                        have eL110T : f108 = f_133 := eL110T
                        rw [eL110L, eL110T] at hP hD
                        refine lv_ior hx hb dX7_tryViews_253 ?_
                        refine lv_topi (fun x111 ex111 => ?_)
                        refine lv_istore (lv' := [(17, .int x111), (15, .int x100), (14, .int r89), (16, .int x75), (19, .int x72), (0, .ref (ad 18)), (1, .int 3), (2, .int z2), (3, .long z3), (5, .int z4), (6, .int z5), (7, .int 63), (8, .int r6), (9, .int r13), (10, .int y37_l10), (11, .int x29), (12, .int r30), (13, .int y133_l13), (18, .int y164_l18)]) hx hb dX7_tryViews_254 hl (by decide) rfl (fun ls hl => ?_)
                        obtain ⟨x112, ex112⟩ : ∃ y : Int32, y = y164_l18 + 1 := ⟨_, rfl⟩
                        have hb113 : In x112 1 9 := ex112 ▸ In.add hb67 (⟨by decide, by decide⟩ : In 1 1 1) (by decide) (by decide) (by decide) (by decide)
                        have et114 : x112.toInt = y164_l18.toInt + 1 := In.adde ex112 hb67 (k := 1) (by decide) (by decide) (by decide)
                        refine lv_iinc (v := x112) (lv' := [(18, .int x112), (17, .int x111), (15, .int x100), (14, .int r89), (16, .int x75), (19, .int x72), (0, .ref (ad 18)), (1, .int 3), (2, .int z2), (3, .long z3), (5, .int z4), (6, .int z5), (7, .int 63), (8, .int r6), (9, .int r13), (10, .int y37_l10), (11, .int x29), (12, .int r30), (13, .int y133_l13)]) hx hb dX7_tryViews_256 hl (k := 18) rfl (by rw [ex112]; rfl) (by decide) rfl (fun ls hl => ?_)
                        refine lv_goto (tgt := 164) hx hb dX7_tryViews_259 (by decide) ?_
                        exact ih164 r89 x100 x75 x111 x112 _ _ _ eL93R (In.full x100) hb76 (In.full x111) (In.mono hb113 (by decide) (by decide)) hP hD hS (lv_sub hl [6, 7, 8, 9, 10, 11, 12, 13, 14, 15, 16, 17, 18, 3, 2, 4, 1, 0] rfl) (msu et114 (by decide) hmz164)
                  exact hJ164 ((9 - (0 : Int32).toInt).toNat + 1) z2 0 y133_l13 z5 0 _ _ _ hz2 (⟨by decide, by decide⟩ : In 0 (-2147483648) 2147483647) (In.mono hb40 (by decide) (by decide)) (In.full z5) (⟨by decide, by decide⟩ : In 0 0 9) hP hD hS (lv_sub hl [5, 6, 7, 8, 9, 10, 11, 12, 13, 14, 15, 16, 17, 4, 3, 2, 1, 0] rfl) (msI _)
          exact hJ133 ((2147483647 - (0 : Int32).toInt).toNat + 1) 0 _ _ _ _ (⟨by decide, by decide⟩ : In 0 0 2147483647) hP hD hS hT hfr hf24 hf28 (lv_sub hl [3, 4, 5, 6, 7, 8, 9, 10, 11, 12, 2, 1, 0] rfl) (msI _)
        refine lv_if_ne (tgt := 118) hx hb dX7_tryViews_103 (by decide) (fun c115 => ?_) (fun c115 => ?_)
        ·
          have oc0 : (0 : Int32).toInt = 0 := by decide
          have cc116 : v0_27.toInt ≠ (0 : Int32).toInt := i32_ne c115
          have hb117 : In v0_27 1 1 := In.ne1 hv0_27 (⟨by decide, by decide⟩ : In 0 0 0) cc116 (by omega) (by omega)
          refine lv_iconst (v := 0) hx hb dX7_tryViews_118 (by decide) ?_
          exact hJ119 0 _ _ _ (⟨by decide, by decide⟩ : In 0 0 81) hP hD hS (lv_sub hl [0, 1, 2, 3, 4, 5, 6, 7, 8, 9, 10] rfl)
        ·
          have oc0 : (0 : Int32).toInt = 0 := by decide
          have cc118 : v0_27.toInt = (0 : Int32).toInt := congrArg Int32.toInt c115
          have hb119 : In v0_27 0 0 := In.eq1 hv0_27 (⟨by decide, by decide⟩ : In 0 0 0) cc118 (by omega) (by omega)
          refine lv_aload_n hx hb dX7_tryViews_106 rfl (lv_at hl 0 rfl) ?_
          refine pl_get (v := .int v11_18) hx hb hts (fun w h => mT (inX7 w h)) hown hG.1 hP (hst.1 18 (by decide)) hf19 rfl 11 (by decide) (hts _ (mT wg_443)) (fun _ h => h) rfl dX7_tryViews_107 ?_
          refine lv_aload_n hx hb dX7_tryViews_110 rfl (lv_at hl 0 rfl) ?_
          refine pl_get (v := .int v10_18) hx hb hts (fun w h => mT (inX7 w h)) hown hG.1 hP (hst.1 18 (by decide)) hf19 rfl 10 (by decide) (hts _ (mT wg_442)) (fun _ h => h) rfl dX7_tryViews_111 ?_
          refine lv_imul hx hb dX7_tryViews_114 ?_
          refine lv_topi (fun x120 ex120 => ?_)
          have hb121 : In x120 0 72 := ex120 ▸ In.mul hv11_18 hv10_18 (by decide) (by decide) (by decide) (by decide) (by decide)
          refine lv_goto (tgt := 119) hx hb dX7_tryViews_115 (by decide) ?_
          exact hJ119 x120 _ _ _ (In.mono hb121 (by decide) (by decide)) hP hD hS (lv_sub hl [0, 1, 2, 3, 4, 5, 6, 7, 8, 9, 10] rfl)
      ·
        have cc122 : y37_l11.toInt ≤ v11_18.toInt := i32_nlt c20
        have hb123 : In y37_l11 0 8 := In.le1 hy37_l11 hv11_18 cc122 (by omega) (by omega)
        refine lv_aload_n hx hb dX7_tryViews_46 rfl (lv_at hl 0 rfl) ?_
        refine pl_get (v := .ref (ad 8)) hx hb hts (fun w h => mT (inX7 w h)) hown hG.1 hP (hst.1 18 (by decide)) hf19 rfl 0 (by decide) (hts _ (mT wg_432)) (fun _ h => h) rfl dX7_tryViews_47 ?_
        refine lv_iload hx hb dX7_tryViews_50 (lv_at hl 7 rfl) ?_
        refine lv_aload_n hx hb dX7_tryViews_52 rfl (lv_at hl 0 rfl) ?_
        refine pl_get (v := .int v11_18) hx hb hts (fun w h => mT (inX7 w h)) hown hG.1 hP (hst.1 18 (by decide)) hf19 rfl 11 (by decide) (hts _ (mT wg_443)) (fun _ h => h) rfl dX7_tryViews_53 ?_
        refine lv_iadd hx hb dX7_tryViews_56 ?_
        refine lv_topi (fun x124 ex124 => ?_)
        have hb125 : In x124 0 17 := ex124 ▸ In.add hb11 hv11_18 (by decide) (by decide) (by decide) (by decide)
        have et126 : x124.toInt = r6.toInt + v11_18.toInt := In.add2e ex124 hb11 hv11_18 (by decide) (by decide)
        refine lv_iload hx hb dX7_tryViews_57 (lv_at hl 10 rfl) ?_
        refine lv_isub hx hb dX7_tryViews_59 ?_
        refine lv_topi (fun x127 ex127 => ?_)
        have hb128 : In x127 (-8) 17 := ex127 ▸ In.sub hb125 hb123 (by decide) (by decide) (by decide) (by decide)
        have et129 : x127.toInt = x124.toInt - y37_l11.toInt := In.sub2e ex127 hb125 hb123 (by decide) (by decide)
        refine lv_iload hx hb dX7_tryViews_60 (lv_at hl 8 rfl) ?_
        refine lv_iload hx hb dX7_tryViews_62 (lv_at hl 10 rfl) ?_
        refine lv_iadd hx hb dX7_tryViews_64 ?_
        refine lv_topi (fun x130 ex130 => ?_)
        have hb131 : In x130 0 71 := ex130 ▸ In.add eL17R hb123 (by decide) (by decide) (by decide) (by decide)
        have et132 : x130.toInt = r13.toInt + y37_l11.toInt := In.add2e ex130 eL17R hb123 (by decide) (by decide)
        obtain ⟨v0_133, v1_133, v2_133, v3_133, v4_133, v5_133, v6_133, v7_133, hf134, hv0_133, hv1_133, hv2_133, hv3_133, hv5_133, hv6_133⟩ := hT.1 8 (by decide)
        refine call_i (run_VN (rm := rm_X2_view_ru) hx hb hml hown hts (s_X2_view_ru l g ad th _ _ _ x127 x130 hst hT ) cV_X2_view wn_1085 ⟨Nat.le_of_ble_eq_true rfl, Nat.le_of_ble_eq_true rfl⟩ hG hE hA hP hD hS (hst.1 8 (by decide)) hf134 rfl rfl hl.1 (As := [.int x127, .int x130]) (rest := []) rfl (Nat.le_of_ble_eq_true rfl) dX7_tryViews_65 ⟨Nat.le_of_ble_eq_true rfl, Nat.le_of_ble_eq_true rfl⟩) hA hD hS (fun r135 L136 f137 H locs hp138 hP hD hS => ?_)
        obtain ⟨eL139L, eL139T, eL139R⟩ := hp138
        have eL139L : L136 = L := eL139L
        have eL139T : f137 = f_37 := eL139T
        rw [eL139L, eL139T] at hP hD
        have eL139R : In r135 0 6 := eL139R
        refine lv_istore (lv' := [(12, .int r135), (0, .ref (ad 18)), (1, .int 3), (2, .int z2), (3, .long z3), (5, .int z4), (6, .int z5), (7, .int 63), (8, .int r6), (9, .int r13), (10, .int y37_l10), (11, .int y37_l11)]) hx hb dX7_tryViews_68 hl (by decide) rfl (fun ls hl => ?_)
        refine lv_aload_n hx hb dX7_tryViews_70 rfl (lv_at hl 1 rfl) ?_
        refine lv_iload hx hb dX7_tryViews_71 (lv_at hl 7 rfl) ?_
        refine lv_iload hx hb dX7_tryViews_73 (lv_at hl 10 rfl) ?_
        refine lv_iload hx hb dX7_tryViews_75 (lv_at hl 0 rfl) ?_
        refine lv_iload hx hb dX7_tryViews_77 (lv_at hl 11 rfl) ?_
        refine call_i (run_V (rm := rm_X7_addChoice) hx hb hml hown hts (s_X7_addChoice l g ad th _ _ _ 63 y37_l10 r135 y37_l11 hst hT (⟨by decide, by decide⟩ : In 63 0 99) (In.mk (by obtain ⟨o0a, o0b⟩ := (hy37_l10 : In _ _ _); obtain ⟨o1a, o1b⟩ := (hb123 : In _ _ _); obtain ⟨o2a, o2b⟩ := (hv11_18 : In _ _ _); omega) (by obtain ⟨o0a, o0b⟩ := (hy37_l10 : In _ _ _); obtain ⟨o1a, o1b⟩ := (hb123 : In _ _ _); obtain ⟨o2a, o2b⟩ := (hv11_18 : In _ _ _); omega))) cV_X7_addChoice wg_1062 ⟨Nat.le_of_ble_eq_true rfl, Nat.le_of_ble_eq_true rfl⟩ hG hE hA hP hD hS (hst.1 18 (by decide)) hf19 rfl rfl hl.1 (As := [.int 63, .int y37_l10, .int r135, .int y37_l11]) (rest := []) rfl (Nat.le_of_ble_eq_true rfl) dX7_tryViews_79 ⟨Nat.le_of_ble_eq_true rfl, Nat.le_of_ble_eq_true rfl⟩) hA hD hS (fun r140 L141 f142 H locs hp143 hP hD hS => ?_)
        obtain ⟨eL144L, eL144T, eL144F, eL144R, eL144X0⟩ := hp143
        have eL144L : L141 = L := eL144L
        rw [eL144L] at hP hD
        have hT : TI g ad th f142 := eL144T
        have eL144F : ∀ b, b ≠ (ad 21) → b ≠ (ad 22) → f142 b = f_37 b := eL144F
        have hf145 := (eL144F (ad 18) (hst.ne (by decide) (by decide) (by decide)) (hst.ne (by decide) (by decide) (by decide))).trans hf19
        have hf146 := (eL144F (ad 8) (hst.ne (by decide) (by decide) (by decide)) (hst.ne (by decide) (by decide) (by decide))).trans hf134
        have hfr : (∀ b, b ≠ (ad 18) → b ≠ (ad 21) → b ≠ (ad 22) → b ≠ (ad 23) → f142 b = f b) := fun b z0_ z1_ z2_ z3_ => (eL144F b z1_ z2_).trans (hfr b z0_ z1_ z2_ z3_)
        have eL144R : In r140 0 9 := eL144R
        have hac147 : r140.toInt ≤ y37_l10.toInt + 1 ∧ 1 ≤ r140.toInt := eL144X0
        refine lv_istore (lv' := [(10, .int r140), (12, .int r135), (0, .ref (ad 18)), (1, .int 3), (2, .int z2), (3, .long z3), (5, .int z4), (6, .int z5), (7, .int 63), (8, .int r6), (9, .int r13), (11, .int y37_l11)]) hx hb dX7_tryViews_82 hl (by decide) rfl (fun ls hl => ?_)
        obtain ⟨x148, ex148⟩ : ∃ y : Int32, y = y37_l11 + 1 := ⟨_, rfl⟩
        have hb149 : In x148 1 9 := ex148 ▸ In.add hb123 (⟨by decide, by decide⟩ : In 1 1 1) (by decide) (by decide) (by decide) (by decide)
        have et150 : x148.toInt = y37_l11.toInt + 1 := In.adde ex148 hb123 (k := 1) (by decide) (by decide) (by decide)
        refine lv_iinc (v := x148) (lv' := [(11, .int x148), (10, .int r140), (12, .int r135), (0, .ref (ad 18)), (1, .int 3), (2, .int z2), (3, .long z3), (5, .int z4), (6, .int z5), (7, .int 63), (8, .int r6), (9, .int r13)]) hx hb dX7_tryViews_84 hl (k := 11) rfl (by rw [ex148]; rfl) (by decide) rfl (fun ls hl => ?_)
        refine lv_goto (tgt := 37) hx hb dX7_tryViews_87 (by decide) ?_
        exact ih37 r140 x148 _ _ _ _ eL144R (In.mono hb149 (by decide) (by decide)) hP hD hS hT hfr (by obtain ⟨o0a, o0b⟩ := (eL144R : In _ _ _); obtain ⟨o1a, o1b⟩ := (hb149 : In _ _ _); obtain ⟨o2a, o2b⟩ := (hy37_l10 : In _ _ _); obtain ⟨o3a, o3b⟩ := (hb123 : In _ _ _); obtain ⟨o4a, o4b⟩ := (hv11_18 : In _ _ _); omega) (lv_sub hl [3, 4, 5, 6, 7, 8, 9, 10, 11, 1, 0] rfl) (msu et150 (by decide) hmz37)
  exact hJ37 ((9 - (0 : Int32).toInt).toNat + 1) 0 0 _ _ _ _ (⟨by decide, by decide⟩ : In 0 0 9) (⟨by decide, by decide⟩ : In 0 0 9) hP hD hS hT hfr (by have oc0 : (0 : Int32).toInt = 0 := (by decide); omega) (lv_sub hl [5, 6, 7, 8, 9, 10, 4, 3, 2, 1, 0] rfl) (msI _)

abbrev rm_X7_tryOffers_3 : Room := { frames := 12, cells := 0, slots := 0, locals := 410 }
abbrev po_X7_tryOffers_3 (g : GG) (ad : Nat → Nat) (th : Nat → Int) (L : List Nat) (f : HP) (z2 : Int32) (z3 : Int64) (z4 : Int32) : (List Nat × HP) → Prop := fun u => u.1 = L ∧ TI g ad th u.2 ∧ (∀ b, b ≠ (ad 18) → b ≠ (ad 21) → b ≠ (ad 22) → b ≠ (ad 23) → u.2 b = f b)
set_option maxHeartbeats 4000000 in
set_option maxRecDepth 100000 in
theorem s_X7_tryOffers_3 (l : Launch) (g : GG) (ad : Nat → Nat) (th : Nat → Int) (L : List Nat) (f : HP) (sz : Nat) (z2 : Int32) (z3 : Int64) (z4 : Int32) (hst : ST ad L) (hT : TI g ad th f) (hz2 : In z2 0 511) : MtV l g yX7_tryOffers cX7_tryOffers 16 rm_X7_tryOffers_3 [.ref (ad 18), .int 3, .int z2, .long z3, .int z4] L f sz (po_X7_tryOffers_3 g ad th L f z2 z3 z4) := by
  refine MtV.of (by decide +kernel) (Nat.le_of_ble_eq_true rfl) ?_
  intro p e s m below meth c A hEn hP hD hS ls hl
  obtain ⟨hx, hb, hr, hml, hown, hlocks, hts, hG, hA, hE, hnm⟩ := hEn
  have hown : s.vm.findClass "RulerWord$Search" = some m.cls := hown
  have hl : lv_has ls 16 [(0, .ref (ad 18)), (1, .int 3), (2, .int z2), (3, .long z3), (5, .int z4)] := hl
  have hfr : (∀ b, b ≠ (ad 18) → b ≠ (ad 21) → b ≠ (ad 22) → b ≠ (ad 23) → f b = f b) := fun b z0_ z1_ z2_ z3_ => rfl
  refine lv_iload_n hx hb dX7_tryOffers_0 rfl (lv_at hl 1 rfl) ?_
  refine lv_iconst (v := 2) hx hb dX7_tryOffers_1 (by decide) ?_
  refine lv_imul hx hb dX7_tryOffers_2 ?_
  refine lv_topi (fun x1 ex1 => ?_)
  obtain rfl : x1 = 6 := ex1.trans (by decide)
  refine lv_bipush (v := 9) hx hb dX7_tryOffers_3 (by decide) ?_
  refine lv_imul hx hb dX7_tryOffers_5 ?_
  refine lv_topi (fun x2 ex2 => ?_)
  obtain rfl : x2 = 54 := ex2.trans (by decide)
  refine lv_istore (lv' := [(6, .int 54), (0, .ref (ad 18)), (1, .int 3), (2, .int z2), (3, .long z3), (5, .int z4)]) hx hb dX7_tryOffers_6 hl (by decide) rfl (fun ls hl => ?_)
  refine lv_iload_n hx hb dX7_tryOffers_8 rfl (lv_at hl 3 rfl) ?_
  refine call_i (run_S (rm := rm_J6_bitCount_0f7a4) hx hb hml hown hts (s_J6_bitCount_0f7a4 l g ad th _ _ _ z2 hst hT ) cS_J6_bitCount_0f7a4 wg_1042 ⟨Nat.le_of_ble_eq_true rfl, Nat.le_of_ble_eq_true rfl⟩ hG hE hA hP hD hS rfl hl.1 (As := [.int z2]) (rest := []) rfl (Nat.le_of_ble_eq_true rfl) dX7_tryOffers_9 ⟨Nat.le_of_ble_eq_true rfl, Nat.le_of_ble_eq_true rfl⟩) hA hD hS (fun r3 L4 f5 H locs hp6 hP hD hS => ?_)
  obtain ⟨eL7L, eL7T, eL7R, eL7X0⟩ := hp6
  have eL7L : L4 = L := eL7L
  have eL7T : f5 = f := eL7T
  rw [eL7L, eL7T] at hP hD
  have eL7R : In r3 0 63 := eL7R
  have hb8 : In r3 0 9 := bc9 hz2 eL7X0
  refine lv_istore (lv' := [(7, .int r3), (6, .int 54), (0, .ref (ad 18)), (1, .int 3), (2, .int z2), (3, .long z3), (5, .int z4)]) hx hb dX7_tryOffers_12 hl (by decide) rfl (fun ls hl => ?_)
  refine lv_iconst (v := 0) hx hb dX7_tryOffers_14 (by decide) ?_
  refine lv_istore (lv' := [(8, .int 0), (7, .int r3), (6, .int 54), (0, .ref (ad 18)), (1, .int 3), (2, .int z2), (3, .long z3), (5, .int z4)]) hx hb dX7_tryOffers_15 hl (by decide) rfl (fun ls hl => ?_)
  refine lv_iconst (v := 0) hx hb dX7_tryOffers_17 (by decide) ?_
  refine lv_istore (lv' := [(9, .int 0), (8, .int 0), (7, .int r3), (6, .int 54), (0, .ref (ad 18)), (1, .int 3), (2, .int z2), (3, .long z3), (5, .int z4)]) hx hb dX7_tryOffers_18 hl (by decide) rfl (fun ls hl => ?_)
  have hJ20 : ∀ (k20 : Nat) (y20_l8 : Int32) (y20_l9 : Int32) (f_20 : HP) (H : Heap) (locs : List Loc) (ls : Array Slot), In y20_l8 0 9 → In y20_l9 0 9 → va_P g.1 vwCl (va_pl L f_20) H → va_D A (va_pl L f_20) → va_S A s.heap H locs → TI g ad th f_20 → (∀ b, b ≠ (ad 18) → b ≠ (ad 21) → b ≠ (ad 22) → b ≠ (ad 23) → f_20 b = f b) → (y20_l8.toInt ≤ y20_l9.toInt ∧ (y20_l9.toInt = 0 ∨ 1 ≤ y20_l8.toInt)) → lv_has ls 16 [(0, .ref (ad 18)), (1, .int 3), (2, .int z2), (3, .long z3), (5, .int z4), (6, .int 54), (7, .int r3), (8, .int y20_l8), (9, .int y20_l9)] → 9 - y20_l9.toInt < ((k20 : Nat) : Int) → W p l e rm_X7_tryOffers_3 s m [.ref (ad 18), .int 3, .int z2, .long z3, .int z4].toArray below meth c H locs 0 0 (MQ below (va_Qv (po_X7_tryOffers_3 g ad th L f z2 z3 z4) (PstB g A) A) [.ref (ad 18), .int 3, .int z2, .long z3, .int z4].toArray s rm_X7_tryOffers_3.cells rm_X7_tryOffers_3.slots A) (F0 m 20 ls []) := by
    intro k20
    induction k20 with
    | zero =>
      intro y20_l8 y20_l9 f_20 H locs ls hy20_l8 hy20_l9 hP hD hS hT hfr hinv20_0 hl hmz20
      exact ms0 hy20_l9 hmz20
    | succ k20 ih20 =>
      intro y20_l8 y20_l9 f_20 H locs ls hy20_l8 hy20_l9 hP hD hS hT hfr hinv20_0 hl hmz20
      refine lv_iload hx hb dX7_tryOffers_20 (lv_at hl 8 rfl) ?_
      refine lv_aload_n hx hb dX7_tryOffers_22 rfl (lv_at hl 0 rfl) ?_
      obtain ⟨v6_9, v7_9, v8_9, v9_9, v10_9, v11_9, v12_9, v13_9, hf10, hv8_9, hv9_9, hv10_9, hv11_9, hv13_9⟩ := hT.1 18 (by decide)
      refine pl_get (v := .int v11_9) hx hb hts (fun w h => mT (inX7 w h)) hown hG.1 hP (hst.1 18 (by decide)) hf10 rfl 11 (by decide) (hts _ (mT wg_443)) (fun _ h => h) rfl dX7_tryOffers_23 ?_
      refine lv_icmp_gt (tgt := 76) hx hb dX7_tryOffers_26 (by decide) (fun c11 => ?_) (fun c11 => ?_)
      ·
        have cc12 : v11_9.toInt < y20_l9.toInt := i32_lt.mp c11
        have hb13 : In y20_l9 1 9 := In.gt1 hy20_l9 hv11_9 cc12 (by omega) (by omega)
        refine lv_aload_n hx hb dX7_tryOffers_76 rfl (lv_at hl 0 rfl) ?_
        refine lv_iload hx hb dX7_tryOffers_77 (lv_at hl 7 rfl) ?_
        refine call_i (run_V (rm := rm_X7_power) hx hb hml hown hts (s_X7_power l g ad th _ _ _ y20_l8 hst hT ) cV_X7_power wg_1066 ⟨Nat.le_of_ble_eq_true rfl, Nat.le_of_ble_eq_true rfl⟩ hG hE hA hP hD hS (hst.1 18 (by decide)) hf10 rfl rfl hl.1 (As := [.int y20_l8]) (rest := []) rfl (Nat.le_of_ble_eq_true rfl) dX7_tryOffers_79 ⟨Nat.le_of_ble_eq_true rfl, Nat.le_of_ble_eq_true rfl⟩) hA hD hS (fun r14 L15 f16 H locs hp17 hP hD hS => ?_)
        obtain ⟨eL18L, eL18T⟩ := hp17
        have eL18L : L15 = L := eL18L
        have eL18T : f16 = f_20 := eL18T
        rw [eL18L, eL18T] at hP hD
        refine lv_istore (lv' := [(9, .int r14), (0, .ref (ad 18)), (1, .int 3), (2, .int z2), (3, .long z3), (5, .int z4), (6, .int 54), (7, .int r3), (8, .int y20_l8)]) hx hb dX7_tryOffers_82 hl (by decide) rfl (fun ls hl => ?_)
        refine lv_iconst (v := 0) hx hb dX7_tryOffers_84 (by decide) ?_
        refine lv_istore (lv' := [(10, .int 0), (9, .int r14), (0, .ref (ad 18)), (1, .int 3), (2, .int z2), (3, .long z3), (5, .int z4), (6, .int 54), (7, .int r3), (8, .int y20_l8)]) hx hb dX7_tryOffers_85 hl (by decide) rfl (fun ls hl => ?_)
        have hJ87 : ∀ (k87 : Nat) (y87_l10 : Int32) (f_87 : HP) (H : Heap) (locs : List Loc) (ls : Array Slot), In y87_l10 0 2147483647 → va_P g.1 vwCl (va_pl L f_87) H → va_D A (va_pl L f_87) → va_S A s.heap H locs → TI g ad th f_87 → (∀ b, b ≠ (ad 18) → b ≠ (ad 21) → b ≠ (ad 22) → b ≠ (ad 23) → f_87 b = f b) → lv_has ls 16 [(0, .ref (ad 18)), (1, .int 3), (2, .int z2), (3, .long z3), (5, .int z4), (6, .int 54), (7, .int r3), (8, .int y20_l8), (9, .int r14), (10, .int y87_l10)] → 2147483647 - y87_l10.toInt < ((k87 : Nat) : Int) → W p l e rm_X7_tryOffers_3 s m [.ref (ad 18), .int 3, .int z2, .long z3, .int z4].toArray below meth c H locs 0 0 (MQ below (va_Qv (po_X7_tryOffers_3 g ad th L f z2 z3 z4) (PstB g A) A) [.ref (ad 18), .int 3, .int z2, .long z3, .int z4].toArray s rm_X7_tryOffers_3.cells rm_X7_tryOffers_3.slots A) (F0 m 87 ls []) := by
          intro k87
          induction k87 with
          | zero =>
            intro y87_l10 f_87 H locs ls hy87_l10 hP hD hS hT hfr hl hmz87
            exact ms0 hy87_l10 hmz87
          | succ k87 ih87 =>
            intro y87_l10 f_87 H locs ls hy87_l10 hP hD hS hT hfr hl hmz87
            refine lv_iload hx hb dX7_tryOffers_87 (lv_at hl 9 rfl) ?_
            refine lv_iload hx hb dX7_tryOffers_89 (lv_at hl 8 rfl) ?_
            refine lv_icmp_ge (tgt := 211) hx hb dX7_tryOffers_91 (by decide) (fun c19 => ?_) (fun c19 => ?_)
            ·
              have cc20 : r14.toInt ≤ y87_l10.toInt := i32_le.mp c19
              exact ret_v hx hb hr hlocks hP hD hS (Nat.le_of_ble_eq_true rfl) (Nat.le_of_ble_eq_true rfl) (⟨rfl, hT, hfr⟩) dX7_tryOffers_211
            ·
              have cc21 : y87_l10.toInt < r14.toInt := i32_nle c19
              have hb22 : In y87_l10 0 2147483646 := In.lt1 hy87_l10 (In.full r14) cc21 (by omega) (by omega)
              have hb23 : In r14 1 2147483647 := In.lt2 hy87_l10 (In.full r14) cc21 (by omega) (by omega)
              refine lv_aload_n hx hb dX7_tryOffers_94 rfl (lv_at hl 0 rfl) ?_
              obtain ⟨v6_24, v7_24, v8_24, v9_24, v10_24, v11_24, v12_24, v13_24, hf25, hv8_24, hv9_24, hv10_24, hv11_24, hv13_24⟩ := hT.1 18 (by decide)
              refine call_i (run_V (rm := rm_X7_isEnough) hx hb hml hown hts (s_X7_isEnough l g ad th _ _ _  hst hT ) cV_X7_isEnough wg_1070 ⟨Nat.le_of_ble_eq_true rfl, Nat.le_of_ble_eq_true rfl⟩ hG hE hA hP hD hS (hst.1 18 (by decide)) hf25 rfl rfl hl.1 (As := []) (rest := []) rfl (Nat.le_of_ble_eq_true rfl) dX7_tryOffers_95 ⟨Nat.le_of_ble_eq_true rfl, Nat.le_of_ble_eq_true rfl⟩) hA hD hS (fun r26 L27 f28 H locs hp29 hP hD hS => ?_)
              obtain ⟨eL30L, eL30T, eL30R⟩ := hp29
              have eL30L : L27 = L := eL30L
              have eL30T : f28 = f_87 := eL30T
              rw [eL30L, eL30T] at hP hD
              have eL30R : In r26 0 1 := eL30R
              refine lv_if_ne (tgt := 211) hx hb dX7_tryOffers_98 (by decide) (fun c31 => ?_) (fun c31 => ?_)
              ·
                have oc0 : (0 : Int32).toInt = 0 := by decide
                have cc32 : r26.toInt ≠ (0 : Int32).toInt := i32_ne c31
                have hb33 : In r26 1 1 := In.ne1 eL30R (⟨by decide, by decide⟩ : In 0 0 0) cc32 (by omega) (by omega)
                exact ret_v hx hb hr hlocks hP hD hS (Nat.le_of_ble_eq_true rfl) (Nat.le_of_ble_eq_true rfl) (⟨rfl, hT, hfr⟩) dX7_tryOffers_211
              ·
                have oc0 : (0 : Int32).toInt = 0 := by decide
                have cc34 : r26.toInt = (0 : Int32).toInt := congrArg Int32.toInt c31
                have hb35 : In r26 0 0 := In.eq1 eL30R (⟨by decide, by decide⟩ : In 0 0 0) cc34 (by omega) (by omega)
                refine lv_iconst (v := 0) hx hb dX7_tryOffers_101 (by decide) ?_
                refine lv_istore (lv' := [(11, .int 0), (0, .ref (ad 18)), (1, .int 3), (2, .int z2), (3, .long z3), (5, .int z4), (6, .int 54), (7, .int r3), (8, .int y20_l8), (9, .int r14), (10, .int y87_l10)]) hx hb dX7_tryOffers_102 hl (by decide) rfl (fun ls hl => ?_)
                refine lv_iload hx hb dX7_tryOffers_104 (lv_at hl 10 rfl) ?_
                refine lv_istore (lv' := [(12, .int y87_l10), (11, .int 0), (0, .ref (ad 18)), (1, .int 3), (2, .int z2), (3, .long z3), (5, .int z4), (6, .int 54), (7, .int r3), (8, .int y20_l8), (9, .int r14), (10, .int y87_l10)]) hx hb dX7_tryOffers_106 hl (by decide) rfl (fun ls hl => ?_)
                refine lv_iload hx hb dX7_tryOffers_108 (lv_at hl 6 rfl) ?_
                refine lv_istore (lv' := [(13, .int z4), (12, .int y87_l10), (11, .int 0), (0, .ref (ad 18)), (1, .int 3), (2, .int z2), (3, .long z3), (5, .int z4), (6, .int 54), (7, .int r3), (8, .int y20_l8), (9, .int r14), (10, .int y87_l10)]) hx hb dX7_tryOffers_110 hl (by decide) rfl (fun ls hl => ?_)
                refine lv_iconst (v := 0) hx hb dX7_tryOffers_112 (by decide) ?_
                refine lv_istore (lv' := [(14, .int 0), (13, .int z4), (12, .int y87_l10), (11, .int 0), (0, .ref (ad 18)), (1, .int 3), (2, .int z2), (3, .long z3), (5, .int z4), (6, .int 54), (7, .int r3), (8, .int y20_l8), (9, .int r14), (10, .int y87_l10)]) hx hb dX7_tryOffers_113 hl (by decide) rfl (fun ls hl => ?_)
                have hJ115 : ∀ (k115 : Nat) (y115_l11 : Int32) (y115_l12 : Int32) (y115_l13 : Int32) (y115_l14 : Int32) (H : Heap) (locs : List Loc) (ls : Array Slot), In y115_l11 (-2147483648) 2147483647 → In y115_l12 0 2147483647 → In y115_l13 (-2147483648) 2147483647 → In y115_l14 0 9 → va_P g.1 vwCl (va_pl L f_87) H → va_D A (va_pl L f_87) → va_S A s.heap H locs → lv_has ls 16 [(0, .ref (ad 18)), (1, .int 3), (2, .int z2), (3, .long z3), (5, .int z4), (6, .int 54), (7, .int r3), (8, .int y20_l8), (9, .int r14), (10, .int y87_l10), (11, .int y115_l11), (12, .int y115_l12), (13, .int y115_l13), (14, .int y115_l14)] → 9 - y115_l14.toInt < ((k115 : Nat) : Int) → W p l e rm_X7_tryOffers_3 s m [.ref (ad 18), .int 3, .int z2, .long z3, .int z4].toArray below meth c H locs 0 0 (MQ below (va_Qv (po_X7_tryOffers_3 g ad th L f z2 z3 z4) (PstB g A) A) [.ref (ad 18), .int 3, .int z2, .long z3, .int z4].toArray s rm_X7_tryOffers_3.cells rm_X7_tryOffers_3.slots A) (F0 m 115 ls []) := by
                  intro k115
                  induction k115 with
                  | zero =>
                    intro y115_l11 y115_l12 y115_l13 y115_l14 H locs ls hy115_l11 hy115_l12 hy115_l13 hy115_l14 hP hD hS hl hmz115
                    exact ms0 hy115_l14 hmz115
                  | succ k115 ih115 =>
                    intro y115_l11 y115_l12 y115_l13 y115_l14 H locs ls hy115_l11 hy115_l12 hy115_l13 hy115_l14 hP hD hS hl hmz115
                    refine lv_iload hx hb dX7_tryOffers_115 (lv_at hl 13 rfl) ?_
                    refine lv_aload_n hx hb dX7_tryOffers_117 rfl (lv_at hl 0 rfl) ?_
                    refine pl_get (v := .int v10_24) hx hb hts (fun w h => mT (inX7 w h)) hown hG.1 hP (hst.1 18 (by decide)) hf25 rfl 10 (by decide) (hts _ (mT wg_442)) (fun _ h => h) rfl dX7_tryOffers_118 ?_
                    refine lv_icmp_ge (tgt := 194) hx hb dX7_tryOffers_121 (by decide) (fun c36 => ?_) (fun c36 => ?_)
                    ·
                      have cc37 : v10_24.toInt ≤ y115_l14.toInt := i32_le.mp c36
                      refine lv_aload_n hx hb dX7_tryOffers_194 rfl (lv_at hl 0 rfl) ?_
                      refine lv_iload_n hx hb dX7_tryOffers_195 rfl (lv_at hl 1 rfl) ?_
                      refine lv_iload_n hx hb dX7_tryOffers_196 rfl (lv_at hl 2 rfl) ?_
                      refine lv_lload_n hx hb dX7_tryOffers_197 rfl (lv_at hl 3 rfl) ?_
                      refine lv_iload hx hb dX7_tryOffers_198 (lv_at hl 10 rfl) ?_
                      refine lv_iload hx hb dX7_tryOffers_200 (lv_at hl 12 rfl) ?_
                      refine call_v (run_V (rm := rm_X7_tryViews_3) hx hb hml hown hts (s_X7_tryViews_3 l g ad th _ _ _ z2 z3 y115_l11 y115_l13 hst hT hz2) cV_X7_tryViews wg_1081 ⟨Nat.le_of_ble_eq_true rfl, Nat.le_of_ble_eq_true rfl⟩ hG hE hA hP hD hS (hst.1 18 (by decide)) hf25 rfl rfl hl.1 (As := [.int 3, .int z2, .long z3, .int y115_l11, .int y115_l13]) (rest := []) rfl (Nat.le_of_ble_eq_true rfl) dX7_tryOffers_202 ⟨Nat.le_of_ble_eq_true rfl, Nat.le_of_ble_eq_true rfl⟩) hA hD hS (fun L39 f40 H locs hp41 hP hD hS => ?_)
                      obtain ⟨eL42L, eL42T, eL42F⟩ := hp41
                      have eL42L : L39 = L := eL42L
                      rw [eL42L] at hP hD
                      have hT : TI g ad th f40 := eL42T
                      have eL42F : ∀ b, b ≠ (ad 18) → b ≠ (ad 21) → b ≠ (ad 22) → b ≠ (ad 23) → f40 b = f_87 b := eL42F
                      have hfr : (∀ b, b ≠ (ad 18) → b ≠ (ad 21) → b ≠ (ad 22) → b ≠ (ad 23) → f40 b = f b) := fun b z0_ z1_ z2_ z3_ => (eL42F b z0_ z1_ z2_ z3_).trans (hfr b z0_ z1_ z2_ z3_)
                      obtain ⟨x43, ex43⟩ : ∃ y : Int32, y = y87_l10 + 1 := ⟨_, rfl⟩
                      have hb44 : In x43 1 2147483647 := ex43 ▸ In.add hb22 (⟨by decide, by decide⟩ : In 1 1 1) (by decide) (by decide) (by decide) (by decide)
                      have et45 : x43.toInt = y87_l10.toInt + 1 := In.adde ex43 hb22 (k := 1) (by decide) (by decide) (by decide)
                      refine lv_iinc (v := x43) (lv' := [(10, .int x43), (0, .ref (ad 18)), (1, .int 3), (2, .int z2), (3, .long z3), (5, .int z4), (6, .int 54), (7, .int r3), (8, .int y20_l8), (9, .int r14), (11, .int y115_l11), (12, .int y115_l12), (13, .int y115_l13), (14, .int y115_l14)]) hx hb dX7_tryOffers_205 hl (k := 9) rfl (by rw [ex43]; rfl) (by decide) rfl (fun ls hl => ?_)
                      refine lv_goto (tgt := 87) hx hb dX7_tryOffers_208 (by decide) ?_
                      exact ih87 x43 _ _ _ _ (In.mono hb44 (by decide) (by decide)) hP hD hS hT hfr (lv_sub hl [1, 2, 3, 4, 5, 6, 7, 8, 9, 0] rfl) (msu et45 (by decide) hmz87)
                    ·
                      have cc46 : y115_l14.toInt < v10_24.toInt := i32_nle c36
                      have hb47 : In y115_l14 0 8 := In.lt1 hy115_l14 hv10_24 cc46 (by omega) (by omega)
                      have hb48 : In v10_24 1 9 := In.lt2 hy115_l14 hv10_24 cc46 (by omega) (by omega)
                      refine lv_iload hx hb dX7_tryOffers_124 (lv_at hl 5 rfl) ?_
                      refine lv_iload hx hb dX7_tryOffers_126 (lv_at hl 11 rfl) ?_
                      refine lv_iload hx hb dX7_tryOffers_128 (lv_at hl 7 rfl) ?_
                      have hb49 : In y20_l8 1 9 := In.mk (by obtain ⟨o0a, o0b⟩ := (hy20_l8 : In _ _ _); obtain ⟨o1a, o1b⟩ := (hb13 : In _ _ _); obtain ⟨o2a, o2b⟩ := (hv11_9 : In _ _ _); omega) (by obtain ⟨o0a, o0b⟩ := (hy20_l8 : In _ _ _); obtain ⟨o1a, o1b⟩ := (hb13 : In _ _ _); obtain ⟨o2a, o2b⟩ := (hv11_9 : In _ _ _); omega)
                      refine lv_irem hx hb dX7_tryOffers_130 (In.ne0 hb49 (by decide)) ?_
                      refine lv_topi (fun x50 ex50 => ?_)
                      have hb51 : In x50 0 8 := ex50 ▸ In.rem hy115_l12 hb49 (by decide) (by decide) (by decide)
                      refine lv_iadd hx hb dX7_tryOffers_131 ?_
                      refine lv_topi (fun x52 ex52 => ?_)
                      have hb53 : In x52 54 62 := ex52 ▸ In.add (⟨by decide, by decide⟩ : In 54 54 54) hb51 (by decide) (by decide) (by decide) (by decide)
                      have et54 : x52.toInt = (54 : Int32).toInt + x50.toInt := In.add2e ex52 (⟨by decide, by decide⟩ : In 54 54 54) hb51 (by decide) (by decide)
                      refine lv_istore (lv' := [(15, .int x52), (0, .ref (ad 18)), (1, .int 3), (2, .int z2), (3, .long z3), (5, .int z4), (6, .int 54), (7, .int r3), (8, .int y20_l8), (9, .int r14), (10, .int y87_l10), (11, .int y115_l11), (12, .int y115_l12), (13, .int y115_l13), (14, .int y115_l14)]) hx hb dX7_tryOffers_132 hl (by decide) rfl (fun ls hl => ?_)
                      refine lv_iload hx hb dX7_tryOffers_134 (lv_at hl 12 rfl) ?_
                      refine lv_iload hx hb dX7_tryOffers_136 (lv_at hl 8 rfl) ?_
                      refine lv_idiv hx hb dX7_tryOffers_138 (In.ne0 hb49 (by decide)) ?_
                      refine lv_topi (fun x55 ex55 => ?_)
                      have hb56 : In x55 0 2147483647 := ex55 ▸ In.div hy115_l12 hb49 (by decide) (by decide) (by decide) (by decide)
                      refine lv_istore (lv' := [(12, .int x55), (15, .int x52), (0, .ref (ad 18)), (1, .int 3), (2, .int z2), (3, .long z3), (5, .int z4), (6, .int 54), (7, .int r3), (8, .int y20_l8), (9, .int r14), (10, .int y87_l10), (11, .int y115_l11), (13, .int y115_l13), (14, .int y115_l14)]) hx hb dX7_tryOffers_139 hl (by decide) rfl (fun ls hl => ?_)
                      refine lv_iload hx hb dX7_tryOffers_141 (lv_at hl 12 rfl) ?_
                      refine lv_aload_n hx hb dX7_tryOffers_143 rfl (lv_at hl 2 rfl) ?_
                      refine pl_get (v := .ref (ad 21)) hx hb hts (fun w h => mT (inX7 w h)) hown hG.1 hP (hst.1 18 (by decide)) hf25 rfl 3 (by decide) (hts _ (mT wg_435)) (fun _ h => h) rfl dX7_tryOffers_144 ?_
                      refine lv_iload hx hb dX7_tryOffers_147 (lv_at hl 1 rfl) ?_
                      obtain ⟨rw57, hf58⟩ := hT.1 21 (by decide)
                      have hin59 : vp_in x52 108 := In.inb hb53 (by decide) (by decide)
                      refine pl_iald hx hb hG.1 hP (hst.1 21 (by decide)) 0 hf58 rfl hin59 dX7_tryOffers_149 ?_
                      refine lv_topi (fun x60 ex60 => ?_)
                      refine lv_aload_n hx hb dX7_tryOffers_150 rfl (lv_at hl 2 rfl) ?_
                      refine pl_get (v := .ref (ad 19)) hx hb hts (fun w h => mT (inX7 w h)) hown hG.1 hP (hst.1 18 (by decide)) hf25 rfl 1 (by decide) (hts _ (mT wg_433)) (fun _ h => h) rfl dX7_tryOffers_151 ?_
                      refine lv_iload hx hb dX7_tryOffers_154 (lv_at hl 14 rfl) ?_
                      obtain ⟨rw61, hf62, hc63⟩ := hT.1 19 (by decide)
                      have hin64 : vp_in y115_l14 9 := In.inb hb47 (by decide) (by decide)
                      refine pl_iald hx hb hG.1 hP (hst.1 19 (by decide)) 0 hf62 rfl hin64 dX7_tryOffers_156 ?_
                      refine lv_topi (fun x65 ex65 => ?_)
                      have hb66 : In x65 0 8 := by rw [ex65]; exact hc63 _ (vp_nat hin64)
                      refine call_i (run_S (rm := rm_X7_wordOf) hx hb hml hown hts (s_X7_wordOf l g ad th _ _ _ x60 x65 hst hT ) cS_X7_wordOf wg_1074 ⟨Nat.le_of_ble_eq_true rfl, Nat.le_of_ble_eq_true rfl⟩ hG hE hA hP hD hS rfl hl.1 (As := [.int x60, .int x65]) (rest := [.int y115_l11]) rfl (Nat.le_of_ble_eq_true rfl) dX7_tryOffers_157 ⟨Nat.le_of_ble_eq_true rfl, Nat.le_of_ble_eq_true rfl⟩) hA hD hS (fun r67 L68 f69 H locs hp70 hP hD hS => ?_)
                      obtain ⟨eL71L, eL71T⟩ := hp70
                      have eL71L : L68 = L := eL71L
                      have eL71T : f69 = f_87 := eL71T
                      rw [eL71L, eL71T] at hP hD
                      refine lv_ior hx hb dX7_tryOffers_160 ?_
                      refine lv_topi (fun x72 ex72 => ?_)
                      refine lv_istore (lv' := [(11, .int x72), (12, .int x55), (15, .int x52), (0, .ref (ad 18)), (1, .int 3), (2, .int z2), (3, .long z3), (5, .int z4), (6, .int 54), (7, .int r3), (8, .int y20_l8), (9, .int r14), (10, .int y87_l10), (13, .int y115_l13), (14, .int y115_l14)]) hx hb dX7_tryOffers_161 hl (by decide) rfl (fun ls hl => ?_)
                      refine lv_iload hx hb dX7_tryOffers_163 (lv_at hl 13 rfl) ?_
                      refine lv_aload_n hx hb dX7_tryOffers_165 rfl (lv_at hl 3 rfl) ?_
                      refine lv_aload_n hx hb dX7_tryOffers_166 rfl (lv_at hl 3 rfl) ?_
                      refine pl_get (v := .ref (ad 22)) hx hb hts (fun w h => mT (inX7 w h)) hown hG.1 hP (hst.1 18 (by decide)) hf25 rfl 4 (by decide) (hts _ (mT wg_436)) (fun _ h => h) rfl dX7_tryOffers_167 ?_
                      refine lv_iload hx hb dX7_tryOffers_170 (lv_at hl 2 rfl) ?_
                      obtain ⟨rw73, hf74⟩ := hT.1 22 (by decide)
                      have hin75 : vp_in x52 108 := In.inb hb53 (by decide) (by decide)
                      refine pl_iald hx hb hG.1 hP (hst.1 22 (by decide)) 0 hf74 rfl hin75 dX7_tryOffers_172 ?_
                      refine lv_topi (fun x76 ex76 => ?_)
                      refine lv_aload_n hx hb dX7_tryOffers_173 rfl (lv_at hl 3 rfl) ?_
                      refine pl_get (v := .ref (ad 20)) hx hb hts (fun w h => mT (inX7 w h)) hown hG.1 hP (hst.1 18 (by decide)) hf25 rfl 2 (by decide) (hts _ (mT wg_434)) (fun _ h => h) rfl dX7_tryOffers_174 ?_
                      refine lv_iload_n hx hb dX7_tryOffers_177 rfl (lv_at hl 4 rfl) ?_
                      obtain ⟨rw77, hf78⟩ := hT.1 20 (by decide)
                      have hin79 : vp_in 3 7 := In.inb (⟨by decide, by decide⟩ : In 3 3 3) (by decide) (by decide)
                      refine pl_iald hx hb hG.1 hP (hst.1 20 (by decide)) 0 hf78 rfl hin79 dX7_tryOffers_178 ?_
                      refine lv_topi (fun x80 ex80 => ?_)
                      refine lv_iload hx hb dX7_tryOffers_179 (lv_at hl 14 rfl) ?_
                      refine lv_iadd hx hb dX7_tryOffers_181 ?_
                      refine lv_topi (fun x81 ex81 => ?_)
                      refine call_i (run_V (rm := rm_X7_bitsOf) hx hb hml hown hts (s_X7_bitsOf l g ad th _ _ _ x76 x81 hst hT ) cV_X7_bitsOf wg_1077 ⟨Nat.le_of_ble_eq_true rfl, Nat.le_of_ble_eq_true rfl⟩ hG hE hA hP hD hS (hst.1 18 (by decide)) hf25 rfl rfl hl.1 (As := [.int x76, .int x81]) (rest := [.int y115_l13]) rfl (Nat.le_of_ble_eq_true rfl) dX7_tryOffers_182 ⟨Nat.le_of_ble_eq_true rfl, Nat.le_of_ble_eq_true rfl⟩) hA hD hS (fun r82 L83 f84 H locs hp85 hP hD hS => ?_)
                      obtain ⟨eL86L, eL86T⟩ := hp85
                      have eL86L : L83 = L := eL86L
                      have eL86T : f84 = f_87 := eL86T
                      rw [eL86L, eL86T] at hP hD
                      refine lv_ior hx hb dX7_tryOffers_185 ?_
                      refine lv_topi (fun x87 ex87 => ?_)
                      refine lv_istore (lv' := [(13, .int x87), (11, .int x72), (12, .int x55), (15, .int x52), (0, .ref (ad 18)), (1, .int 3), (2, .int z2), (3, .long z3), (5, .int z4), (6, .int 54), (7, .int r3), (8, .int y20_l8), (9, .int r14), (10, .int y87_l10), (14, .int y115_l14)]) hx hb dX7_tryOffers_186 hl (by decide) rfl (fun ls hl => ?_)
                      obtain ⟨x88, ex88⟩ : ∃ y : Int32, y = y115_l14 + 1 := ⟨_, rfl⟩
                      have hb89 : In x88 1 9 := ex88 ▸ In.add hb47 (⟨by decide, by decide⟩ : In 1 1 1) (by decide) (by decide) (by decide) (by decide)
                      have et90 : x88.toInt = y115_l14.toInt + 1 := In.adde ex88 hb47 (k := 1) (by decide) (by decide) (by decide)
                      refine lv_iinc (v := x88) (lv' := [(14, .int x88), (13, .int x87), (11, .int x72), (12, .int x55), (15, .int x52), (0, .ref (ad 18)), (1, .int 3), (2, .int z2), (3, .long z3), (5, .int z4), (6, .int 54), (7, .int r3), (8, .int y20_l8), (9, .int r14), (10, .int y87_l10)]) hx hb dX7_tryOffers_188 hl (k := 14) rfl (by rw [ex88]; rfl) (by decide) rfl (fun ls hl => ?_)
                      refine lv_goto (tgt := 115) hx hb dX7_tryOffers_191 (by decide) ?_
                      exact ih115 x72 x55 x87 x88 _ _ _ (In.full x72) hb56 (In.full x87) (In.mono hb89 (by decide) (by decide)) hP hD hS (lv_sub hl [5, 6, 7, 8, 9, 10, 11, 12, 13, 14, 2, 3, 1, 0] rfl) (msu et90 (by decide) hmz115)
                exact hJ115 ((9 - (0 : Int32).toInt).toNat + 1) 0 y87_l10 z4 0 _ _ _ (⟨by decide, by decide⟩ : In 0 (-2147483648) 2147483647) (In.mono hb22 (by decide) (by decide)) (In.full z4) (⟨by decide, by decide⟩ : In 0 0 9) hP hD hS (lv_sub hl [4, 5, 6, 7, 8, 9, 10, 11, 12, 13, 3, 2, 1, 0] rfl) (msI _)
        exact hJ87 ((2147483647 - (0 : Int32).toInt).toNat + 1) 0 _ _ _ _ (⟨by decide, by decide⟩ : In 0 0 2147483647) hP hD hS hT hfr (lv_sub hl [2, 3, 4, 5, 6, 7, 8, 9, 1, 0] rfl) (msI _)
      ·
        have cc91 : y20_l9.toInt ≤ v11_9.toInt := i32_nlt c11
        have hb92 : In y20_l9 0 8 := In.le1 hy20_l9 hv11_9 cc91 (by omega) (by omega)
        refine lv_aload_n hx hb dX7_tryOffers_29 rfl (lv_at hl 0 rfl) ?_
        refine pl_get (v := .ref (ad 8)) hx hb hts (fun w h => mT (inX7 w h)) hown hG.1 hP (hst.1 18 (by decide)) hf10 rfl 0 (by decide) (hts _ (mT wg_432)) (fun _ h => h) rfl dX7_tryOffers_30 ?_
        refine lv_aload_n hx hb dX7_tryOffers_33 rfl (lv_at hl 0 rfl) ?_
        refine pl_get (v := .ref (ad 8)) hx hb hts (fun w h => mT (inX7 w h)) hown hG.1 hP (hst.1 18 (by decide)) hf10 rfl 0 (by decide) (hts _ (mT wg_432)) (fun _ h => h) rfl dX7_tryOffers_34 ?_
        obtain ⟨v0_93, v1_93, v2_93, v3_93, v4_93, v5_93, v6_93, v7_93, hf94, hv0_93, hv1_93, hv2_93, hv3_93, hv5_93, hv6_93⟩ := hT.1 8 (by decide)
        refine pl_getN (v := .int v1_93) hx hb hts (fun w h => mT (inX2 w h)) hown hG.1 hP (hst.1 8 (by decide)) hf94 rfl 1 (by decide) (hG.2.1 _ wn_229) (fun _ h => h) rfl dX7_tryOffers_37 ?_
        refine lv_iload hx hb dX7_tryOffers_40 (lv_at hl 6 rfl) ?_
        refine lv_isub hx hb dX7_tryOffers_42 ?_
        refine lv_topi (fun x95 ex95 => ?_)
        have hb96 : In x95 (-9) 9 := ex95 ▸ In.sub hv1_93 hb8 (by decide) (by decide) (by decide) (by decide)
        have et97 : x95.toInt = v1_93.toInt - r3.toInt := In.sub2e ex95 hv1_93 hb8 (by decide) (by decide)
        refine lv_iload hx hb dX7_tryOffers_43 (lv_at hl 8 rfl) ?_
        refine lv_isub hx hb dX7_tryOffers_45 ?_
        refine lv_topi (fun x98 ex98 => ?_)
        have hb99 : In x98 (-17) 9 := ex98 ▸ In.sub hb96 hb92 (by decide) (by decide) (by decide) (by decide)
        have et100 : x98.toInt = x95.toInt - y20_l9.toInt := In.sub2e ex98 hb96 hb92 (by decide) (by decide)
        refine lv_iload hx hb dX7_tryOffers_46 (lv_at hl 6 rfl) ?_
        refine lv_iload hx hb dX7_tryOffers_48 (lv_at hl 8 rfl) ?_
        refine lv_iadd hx hb dX7_tryOffers_50 ?_
        refine lv_topi (fun x101 ex101 => ?_)
        have hb102 : In x101 0 17 := ex101 ▸ In.add hb8 hb92 (by decide) (by decide) (by decide) (by decide)
        have et103 : x101.toInt = r3.toInt + y20_l9.toInt := In.add2e ex101 hb8 hb92 (by decide) (by decide)
        refine call_i (run_VN (rm := rm_X2_offer_ru) hx hb hml hown hts (s_X2_offer_ru l g ad th _ _ _ x98 x101 hst hT ) cV_X2_offer wn_1061 ⟨Nat.le_of_ble_eq_true rfl, Nat.le_of_ble_eq_true rfl⟩ hG hE hA hP hD hS (hst.1 8 (by decide)) hf94 rfl rfl hl.1 (As := [.int x98, .int x101]) (rest := []) rfl (Nat.le_of_ble_eq_true rfl) dX7_tryOffers_51 ⟨Nat.le_of_ble_eq_true rfl, Nat.le_of_ble_eq_true rfl⟩) hA hD hS (fun r104 L105 f106 H locs hp107 hP hD hS => ?_)
        obtain ⟨eL108L, eL108T, eL108R⟩ := hp107
        have eL108L : L105 = L := eL108L
        have eL108T : f106 = f_20 := eL108T
        rw [eL108L, eL108T] at hP hD
        have eL108R : In r104 0 2 := eL108R
        refine lv_istore (lv' := [(10, .int r104), (0, .ref (ad 18)), (1, .int 3), (2, .int z2), (3, .long z3), (5, .int z4), (6, .int 54), (7, .int r3), (8, .int y20_l8), (9, .int y20_l9)]) hx hb dX7_tryOffers_54 hl (by decide) rfl (fun ls hl => ?_)
        refine lv_aload_n hx hb dX7_tryOffers_56 rfl (lv_at hl 1 rfl) ?_
        refine lv_iload hx hb dX7_tryOffers_57 (lv_at hl 6 rfl) ?_
        refine lv_iload hx hb dX7_tryOffers_59 (lv_at hl 8 rfl) ?_
        refine lv_iload hx hb dX7_tryOffers_61 (lv_at hl 0 rfl) ?_
        refine lv_iload hx hb dX7_tryOffers_63 (lv_at hl 9 rfl) ?_
        refine call_i (run_V (rm := rm_X7_addChoice) hx hb hml hown hts (s_X7_addChoice l g ad th _ _ _ 54 y20_l8 r104 y20_l9 hst hT (⟨by decide, by decide⟩ : In 54 0 99) (In.mk (by obtain ⟨o0a, o0b⟩ := (hy20_l8 : In _ _ _); obtain ⟨o1a, o1b⟩ := (hb92 : In _ _ _); obtain ⟨o2a, o2b⟩ := (hv11_9 : In _ _ _); omega) (by obtain ⟨o0a, o0b⟩ := (hy20_l8 : In _ _ _); obtain ⟨o1a, o1b⟩ := (hb92 : In _ _ _); obtain ⟨o2a, o2b⟩ := (hv11_9 : In _ _ _); omega))) cV_X7_addChoice wg_1062 ⟨Nat.le_of_ble_eq_true rfl, Nat.le_of_ble_eq_true rfl⟩ hG hE hA hP hD hS (hst.1 18 (by decide)) hf10 rfl rfl hl.1 (As := [.int 54, .int y20_l8, .int r104, .int y20_l9]) (rest := []) rfl (Nat.le_of_ble_eq_true rfl) dX7_tryOffers_65 ⟨Nat.le_of_ble_eq_true rfl, Nat.le_of_ble_eq_true rfl⟩) hA hD hS (fun r109 L110 f111 H locs hp112 hP hD hS => ?_)
        obtain ⟨eL113L, eL113T, eL113F, eL113R, eL113X0⟩ := hp112
        have eL113L : L110 = L := eL113L
        rw [eL113L] at hP hD
        have hT : TI g ad th f111 := eL113T
        have eL113F : ∀ b, b ≠ (ad 21) → b ≠ (ad 22) → f111 b = f_20 b := eL113F
        have hf114 := (eL113F (ad 18) (hst.ne (by decide) (by decide) (by decide)) (hst.ne (by decide) (by decide) (by decide))).trans hf10
        have hf115 := (eL113F (ad 8) (hst.ne (by decide) (by decide) (by decide)) (hst.ne (by decide) (by decide) (by decide))).trans hf94
        have hfr : (∀ b, b ≠ (ad 18) → b ≠ (ad 21) → b ≠ (ad 22) → b ≠ (ad 23) → f111 b = f b) := fun b z0_ z1_ z2_ z3_ => (eL113F b z1_ z2_).trans (hfr b z0_ z1_ z2_ z3_)
        have eL113R : In r109 0 9 := eL113R
        have hac116 : r109.toInt ≤ y20_l8.toInt + 1 ∧ 1 ≤ r109.toInt := eL113X0
        refine lv_istore (lv' := [(8, .int r109), (10, .int r104), (0, .ref (ad 18)), (1, .int 3), (2, .int z2), (3, .long z3), (5, .int z4), (6, .int 54), (7, .int r3), (9, .int y20_l9)]) hx hb dX7_tryOffers_68 hl (by decide) rfl (fun ls hl => ?_)
        obtain ⟨x117, ex117⟩ : ∃ y : Int32, y = y20_l9 + 1 := ⟨_, rfl⟩
        have hb118 : In x117 1 9 := ex117 ▸ In.add hb92 (⟨by decide, by decide⟩ : In 1 1 1) (by decide) (by decide) (by decide) (by decide)
        have et119 : x117.toInt = y20_l9.toInt + 1 := In.adde ex117 hb92 (k := 1) (by decide) (by decide) (by decide)
        refine lv_iinc (v := x117) (lv' := [(9, .int x117), (8, .int r109), (10, .int r104), (0, .ref (ad 18)), (1, .int 3), (2, .int z2), (3, .long z3), (5, .int z4), (6, .int 54), (7, .int r3)]) hx hb dX7_tryOffers_70 hl (k := 9) rfl (by rw [ex117]; rfl) (by decide) rfl (fun ls hl => ?_)
        refine lv_goto (tgt := 20) hx hb dX7_tryOffers_73 (by decide) ?_
        exact ih20 r109 x117 _ _ _ _ eL113R (In.mono hb118 (by decide) (by decide)) hP hD hS hT hfr (by obtain ⟨o0a, o0b⟩ := (eL113R : In _ _ _); obtain ⟨o1a, o1b⟩ := (hb118 : In _ _ _); obtain ⟨o2a, o2b⟩ := (hy20_l8 : In _ _ _); obtain ⟨o3a, o3b⟩ := (hb92 : In _ _ _); obtain ⟨o4a, o4b⟩ := (hv11_9 : In _ _ _); omega) (lv_sub hl [3, 4, 5, 6, 7, 8, 9, 1, 0] rfl) (msu et119 (by decide) hmz20)
  exact hJ20 ((9 - (0 : Int32).toInt).toNat + 1) 0 0 _ _ _ _ (⟨by decide, by decide⟩ : In 0 0 9) (⟨by decide, by decide⟩ : In 0 0 9) hP hD hS hT hfr (by have oc0 : (0 : Int32).toInt = 0 := (by decide); omega) (lv_sub hl [4, 5, 6, 7, 8, 3, 2, 1, 0] rfl) (msI _)

abbrev rm_X7_explore_3 : Room := { frames := 13, cells := 0, slots := 0, locals := 445 }
abbrev po_X7_explore_3 (g : GG) (ad : Nat → Nat) (th : Nat → Int) (L : List Nat) (f : HP) (z2 : Int32) (z3 : Int64) (z4 : Int32) : (List Nat × HP) → Prop := fun u => u.1 = L ∧ TI g ad th u.2 ∧ (∀ b, b ≠ (ad 18) → b ≠ (ad 21) → b ≠ (ad 22) → b ≠ (ad 23) → u.2 b = f b)
set_option maxHeartbeats 4000000 in
set_option maxRecDepth 100000 in
theorem s_X7_explore_3 (l : Launch) (g : GG) (ad : Nat → Nat) (th : Nat → Int) (L : List Nat) (f : HP) (sz : Nat) (z2 : Int32) (z3 : Int64) (z4 : Int32) (hst : ST ad L) (hT : TI g ad th f) (hz2 : In z2 0 511) : MtV l g yX7_explore cX7_explore 8 rm_X7_explore_3 [.ref (ad 18), .int 3, .int z2, .long z3, .int z4] L f sz (po_X7_explore_3 g ad th L f z2 z3 z4) := by
  refine MtV.of (by decide +kernel) (Nat.le_of_ble_eq_true rfl) ?_
  intro p e s m below meth c A hEn hP hD hS ls hl
  obtain ⟨hx, hb, hr, hml, hown, hlocks, hts, hG, hA, hE, hnm⟩ := hEn
  have hown : s.vm.findClass "RulerWord$Search" = some m.cls := hown
  have hl : lv_has ls 8 [(0, .ref (ad 18)), (1, .int 3), (2, .int z2), (3, .long z3), (5, .int z4)] := hl
  have hfr : (∀ b, b ≠ (ad 18) → b ≠ (ad 21) → b ≠ (ad 22) → b ≠ (ad 23) → f b = f b) := fun b z0_ z1_ z2_ z3_ => rfl
  refine lv_iload_n hx hb dX7_explore_0 rfl (lv_at hl 1 rfl) ?_
  refine lv_aload_n hx hb dX7_explore_1 rfl (lv_at hl 0 rfl) ?_
  obtain ⟨v6_1, v7_1, v8_1, v9_1, v10_1, v11_1, v12_1, v13_1, hf2, hv8_1, hv9_1, hv10_1, hv11_1, hv13_1⟩ := hT.1 18 (by decide)
  refine pl_get (v := .int v7_1) hx hb hts (fun w h => mT (inX7 w h)) hown hG.1 hP (hst.1 18 (by decide)) hf2 rfl 7 (by decide) (hts _ (mT wg_439)) (fun _ h => h) rfl dX7_explore_2 ?_
  have hJ14 : ∀ (H : Heap) (locs : List Loc) (ls : Array Slot), va_P g.1 vwCl (va_pl L f) H → va_D A (va_pl L f) → va_S A s.heap H locs → lv_has ls 8 [(0, .ref (ad 18)), (1, .int 3), (2, .int z2), (3, .long z3), (5, .int z4)] → W p l e rm_X7_explore_3 s m [.ref (ad 18), .int 3, .int z2, .long z3, .int z4].toArray below meth c H locs 0 0 (MQ below (va_Qv (po_X7_explore_3 g ad th L f z2 z3 z4) (PstB g A) A) [.ref (ad 18), .int 3, .int z2, .long z3, .int z4].toArray s rm_X7_explore_3.cells rm_X7_explore_3.slots A) (F0 m 14 ls []) := by
    intro H locs ls hP hD hS hl
    refine lv_aload_n hx hb dX7_explore_14 rfl (lv_at hl 0 rfl) ?_
    refine lv_iload_n hx hb dX7_explore_15 rfl (lv_at hl 2 rfl) ?_
    refine lv_iload hx hb dX7_explore_16 (lv_at hl 4 rfl) ?_
    refine call_v (run_V (rm := rm_X7_judge) hx hb hml hown hts (s_X7_judge l g ad th _ _ _ z2 z4 hst hT hz2) cV_X7_judge wg_1053 ⟨Nat.le_of_ble_eq_true rfl, Nat.le_of_ble_eq_true rfl⟩ hG hE hA hP hD hS (hst.1 18 (by decide)) hf2 rfl rfl hl.1 (As := [.int z2, .int z4]) (rest := []) rfl (Nat.le_of_ble_eq_true rfl) dX7_explore_18 ⟨Nat.le_of_ble_eq_true rfl, Nat.le_of_ble_eq_true rfl⟩) hA hD hS (fun L4 f5 H locs hp6 hP hD hS => ?_)
    obtain ⟨eL7L, eL7T, eL7F⟩ := hp6
    have eL7L : L4 = L := eL7L
    rw [eL7L] at hP hD
    have hT : TI g ad th f5 := eL7T
    have eL7F : ∀ b, b ≠ (ad 18) → f5 b = f b := eL7F
    have hfr : (∀ b, b ≠ (ad 18) → b ≠ (ad 21) → b ≠ (ad 22) → b ≠ (ad 23) → f5 b = f b) := fun b z0_ z1_ z2_ z3_ => (eL7F b z0_).trans (hfr b z0_ z1_ z2_ z3_)
    exact ret_v hx hb hr hlocks hP hD hS (Nat.le_of_ble_eq_true rfl) (Nat.le_of_ble_eq_true rfl) (⟨rfl, hT, hfr⟩) dX7_explore_21
  refine lv_icmp_ge (tgt := 14) hx hb dX7_explore_5 (by decide) (fun c8 => ?_) (fun c8 => ?_)
  ·
    have cc9 : v7_1.toInt ≤ (3 : Int32).toInt := i32_le.mp c8
    have hb10 : In v7_1 (-2147483648) 3 := In.ge2 (⟨by decide, by decide⟩ : In 3 3 3) (In.full v7_1) cc9 (by omega) (by omega)
    exact hJ14 _ _ _ hP hD hS (lv_sub hl [0, 1, 2, 3, 4] rfl)
  ·
    have cc11 : (3 : Int32).toInt < v7_1.toInt := i32_nle c8
    have hb12 : In v7_1 4 2147483647 := In.lt2 (⟨by decide, by decide⟩ : In 3 3 3) (In.full v7_1) cc11 (by omega) (by omega)
    refine lv_iload_n hx hb dX7_explore_8 rfl (lv_at hl 1 rfl) ?_
    refine lv_bipush (v := 6) hx hb dX7_explore_9 (by decide) ?_
    refine lv_icmp_lt (tgt := 22) hx hb dX7_explore_11 (by decide) (fun c13 => ?_) (fun c13 => ?_)
    ·
      refine lv_iload_n hx hb dX7_explore_22 rfl (lv_at hl 1 rfl) ?_
      refine lv_bipush (v := 9) hx hb dX7_explore_23 (by decide) ?_
      refine lv_ishl hx hb dX7_explore_25 ?_
      refine lv_topi (fun x14 ex14 => ?_)
      obtain rfl : x14 = 1536 := ex14.trans (by decide)
      refine lv_iload_n hx hb dX7_explore_26 rfl (lv_at hl 2 rfl) ?_
      refine lv_ior hx hb dX7_explore_27 ?_
      refine lv_topi (fun x15 ex15 => ?_)
      have hb16 : In x15 1536 2047 := ex15 ▸ In.orc 9 3 hz2 (by decide) (by decide) (by decide) (by decide)
      refine lv_istore (lv' := [(6, .int x15), (0, .ref (ad 18)), (1, .int 3), (2, .int z2), (3, .long z3), (5, .int z4)]) hx hb dX7_explore_28 hl (by decide) rfl (fun ls hl => ?_)
      refine lv_aload_n hx hb dX7_explore_30 rfl (lv_at hl 1 rfl) ?_
      refine pl_get (v := .ref (ad 23)) hx hb hts (fun w h => mT (inX7 w h)) hown hG.1 hP (hst.1 18 (by decide)) hf2 rfl 5 (by decide) (hts _ (mT wg_437)) (fun _ h => h) rfl dX7_explore_31 ?_
      refine lv_iload hx hb dX7_explore_34 (lv_at hl 0 rfl) ?_
      refine lv_bipush (v := 6) hx hb dX7_explore_36 (by decide) ?_
      refine lv_iushr hx hb dX7_explore_38 rfl ?_
      refine lv_topi (fun x17 ex17 => ?_)
      have hb18 : In x17 24 31 := ex17 ▸ In.ushr 6 hb16 (by decide) (by decide) (by decide) (by decide)
      obtain ⟨rw19, hf20⟩ := hT.1 23 (by decide)
      have hin21 : vp_in x17 48 := In.inb hb18 (by decide) (by decide)
      refine pl_lald hx hb hG.1 hP (hst.1 23 (by decide)) 1 hf20 rfl hin21 dX7_explore_39 ?_
      refine lv_topl (fun x22 ex22 => ?_)
      refine lv_iload hx hb dX7_explore_40 (lv_at hl 0 rfl) ?_
      refine lv_lushr hx hb dX7_explore_42 rfl ?_
      refine lv_topl (fun x23 ex23 => ?_)
      refine lv_lconst (v := 1) hx hb dX7_explore_43 (by decide) ?_
      refine lv_land hx hb dX7_explore_44 ?_
      refine lv_topl (fun x24 ex24 => ?_)
      refine lv_lconst (v := 1) hx hb dX7_explore_45 (by decide) ?_
      refine W.lcmp hx hb dX7_explore_46 ?_
      refine lv_topi (fun x25 ex25 => ?_)
      have hb26 : In x25 (-1) 1 := ex25 ▸ In.lcmp _ _
      refine lv_if_ne (tgt := 51) hx hb dX7_explore_47 (by decide) (fun c27 => ?_) (fun c27 => ?_)
      ·
        refine lv_aload_n hx hb dX7_explore_51 rfl (lv_at hl 1 rfl) ?_
        refine pl_get (v := .int v6_1) hx hb hts (fun w h => mT (inX7 w h)) hown hG.1 hP (hst.1 18 (by decide)) hf2 rfl 6 (by decide) (hts _ (mT wg_438)) (fun _ h => h) rfl dX7_explore_52 ?_
        refine lv_istore (lv' := [(7, .int v6_1), (6, .int x15), (0, .ref (ad 18)), (1, .int 3), (2, .int z2), (3, .long z3), (5, .int z4)]) hx hb dX7_explore_55 hl (by decide) rfl (fun ls hl => ?_)
        refine lv_aload_n hx hb dX7_explore_57 rfl (lv_at hl 2 rfl) ?_
        refine pl_get (v := .ref (ad 8)) hx hb hts (fun w h => mT (inX7 w h)) hown hG.1 hP (hst.1 18 (by decide)) hf2 rfl 0 (by decide) (hts _ (mT wg_432)) (fun _ h => h) rfl dX7_explore_58 ?_
        obtain ⟨v0_28, v1_28, v2_28, v3_28, v4_28, v5_28, v6_28, v7_28, hf29, hv0_28, hv1_28, hv2_28, hv3_28, hv5_28, hv6_28⟩ := hT.1 8 (by decide)
        refine pl_getN (v := .int v0_28) hx hb hts (fun w h => mT (inX2 w h)) hown hG.1 hP (hst.1 8 (by decide)) hf29 rfl 0 (by decide) (hG.2.1 _ wn_225) (fun _ h => h) rfl dX7_explore_61 ?_
        have hJ101 : ∀ (f_101 : HP) (H : Heap) (locs : List Loc) (ls : Array Slot), va_P g.1 vwCl (va_pl L f_101) H → va_D A (va_pl L f_101) → va_S A s.heap H locs → TI g ad th f_101 → (∀ b, b ≠ (ad 18) → b ≠ (ad 21) → b ≠ (ad 22) → b ≠ (ad 23) → f_101 b = f b) → f_101 (ad 8) = .inr (2, [.int v0_28, .int v1_28, .int v2_28, .int v3_28, .int v4_28, .int v5_28, .int v6_28, .int v7_28]) → lv_has ls 8 [(0, .ref (ad 18)), (1, .int 3), (2, .int z2), (3, .long z3), (5, .int z4), (6, .int x15), (7, .int v6_1)] → W p l e rm_X7_explore_3 s m [.ref (ad 18), .int 3, .int z2, .long z3, .int z4].toArray below meth c H locs 0 0 (MQ below (va_Qv (po_X7_explore_3 g ad th L f z2 z3 z4) (PstB g A) A) [.ref (ad 18), .int 3, .int z2, .long z3, .int z4].toArray s rm_X7_explore_3.cells rm_X7_explore_3.slots A) (F0 m 101 ls []) := by
          intro f_101 H locs ls hP hD hS hT hfr hf30 hl
          refine lv_aload_n hx hb dX7_explore_101 rfl (lv_at hl 0 rfl) ?_
          obtain ⟨v6_31, v7_31, v8_31, v9_31, v10_31, v11_31, v12_31, v13_31, hf32, hv8_31, hv9_31, hv10_31, hv11_31, hv13_31⟩ := hT.1 18 (by decide)
          refine pl_get (v := .int v6_31) hx hb hts (fun w h => mT (inX7 w h)) hown hG.1 hP (hst.1 18 (by decide)) hf32 rfl 6 (by decide) (hts _ (mT wg_438)) (fun _ h => h) rfl dX7_explore_102 ?_
          refine lv_iload hx hb dX7_explore_105 (lv_at hl 6 rfl) ?_
          refine lv_icmp_ne (tgt := 135) hx hb dX7_explore_107 (by decide) (fun c33 => ?_) (fun c33 => ?_)
          ·
            exact ret_v hx hb hr hlocks hP hD hS (Nat.le_of_ble_eq_true rfl) (Nat.le_of_ble_eq_true rfl) (⟨rfl, hT, hfr⟩) dX7_explore_135
          ·
            refine lv_aload_n hx hb dX7_explore_110 rfl (lv_at hl 0 rfl) ?_
            refine lv_iconst (v := 0) hx hb dX7_explore_111 (by decide) ?_
            refine call_i (run_V (rm := rm_X7_doesSuspicionCount) hx hb hml hown hts (s_X7_doesSuspicionCount l g ad th _ _ _ 0 hst hT (⟨by decide, by decide⟩ : In 0 0 6)) cV_X7_doesSuspicionCount wg_1094 ⟨Nat.le_of_ble_eq_true rfl, Nat.le_of_ble_eq_true rfl⟩ hG hE hA hP hD hS (hst.1 18 (by decide)) hf32 rfl rfl hl.1 (As := [.int 0]) (rest := []) rfl (Nat.le_of_ble_eq_true rfl) dX7_explore_112 ⟨Nat.le_of_ble_eq_true rfl, Nat.le_of_ble_eq_true rfl⟩) hA hD hS (fun r34 L35 f36 H locs hp37 hP hD hS => ?_)
            obtain ⟨eL38L, eL38T, eL38R⟩ := hp37
            have eL38L : L35 = L := eL38L
            have eL38T : f36 = f_101 := eL38T
            rw [eL38L, eL38T] at hP hD
            have eL38R : In r34 0 1 := eL38R
            refine lv_if_ne (tgt := 135) hx hb dX7_explore_115 (by decide) (fun c39 => ?_) (fun c39 => ?_)
            ·
              have cc40 : r34.toInt ≠ (0 : Int32).toInt := i32_ne c39
              have hb41 : In r34 1 1 := In.ne1 eL38R (⟨by decide, by decide⟩ : In 0 0 0) cc40 (by omega) (by omega)
              exact ret_v hx hb hr hlocks hP hD hS (Nat.le_of_ble_eq_true rfl) (Nat.le_of_ble_eq_true rfl) (⟨rfl, hT, hfr⟩) dX7_explore_135
            ·
              have cc42 : r34.toInt = (0 : Int32).toInt := congrArg Int32.toInt c39
              have hb43 : In r34 0 0 := In.eq1 eL38R (⟨by decide, by decide⟩ : In 0 0 0) cc42 (by omega) (by omega)
              refine lv_aload_n hx hb dX7_explore_118 rfl (lv_at hl 0 rfl) ?_
              refine pl_get (v := .ref (ad 23)) hx hb hts (fun w h => mT (inX7 w h)) hown hG.1 hP (hst.1 18 (by decide)) hf32 rfl 5 (by decide) (hts _ (mT wg_437)) (fun _ h => h) rfl dX7_explore_119 ?_
              refine lv_iload hx hb dX7_explore_122 (lv_at hl 5 rfl) ?_
              refine lv_bipush (v := 6) hx hb dX7_explore_124 (by decide) ?_
              refine lv_iushr hx hb dX7_explore_126 rfl ?_
              refine lv_topi (fun x44 ex44 => ?_)
              obtain rfl : x17 = x44 := ex17.trans ex44.symm
              refine lv_dup2_11 hx hb dX7_explore_127 rfl rfl ?_
              obtain ⟨rw45, hf46⟩ := hT.1 23 (by decide)
              have hin47 : vp_in x17 48 := In.inb hb18 (by decide) (by decide)
              refine pl_lald hx hb hG.1 hP (hst.1 23 (by decide)) 1 hf46 rfl hin47 dX7_explore_128 ?_
              refine lv_topl (fun x48 ex48 => ?_)
              refine lv_lconst (v := 1) hx hb dX7_explore_129 (by decide) ?_
              refine lv_iload hx hb dX7_explore_130 (lv_at hl 5 rfl) ?_
              refine lv_lshl hx hb dX7_explore_132 rfl ?_
              refine lv_topl (fun x49 ex49 => ?_)
              refine lv_lor hx hb dX7_explore_133 ?_
              refine lv_topl (fun x50 ex50 => ?_)
              refine pl_lastE hx hb hG.1 hP hD hS (hst.1 23 (by decide)) 1 hf46 rfl (In.inb hb18 (by decide) (by decide)) dX7_explore_134 (fun H locs f51 r54 er54 hf52 ho53 hP hD hS => ?_)
              have hf55 := (ho53 (ad 8) (hst.ne (by decide) (by decide) (by decide))).trans hf30
              have hf56 := (ho53 (ad 18) (hst.ne (by decide) (by decide) (by decide))).trans hf32
              have hfr : (∀ b, b ≠ (ad 18) → b ≠ (ad 21) → b ≠ (ad 22) → b ≠ (ad 23) → f51 b = f b) := fun b z0_ z1_ z2_ z3_ => (ho53 b z3_).trans (hfr b z0_ z1_ z2_ z3_)
              have hT := TI.updA hT hst (k := 23) (by decide) hf52 ho53 ⟨r54, rfl⟩
              exact ret_v hx hb hr hlocks hP hD hS (Nat.le_of_ble_eq_true rfl) (Nat.le_of_ble_eq_true rfl) (⟨rfl, hT, hfr⟩) dX7_explore_135
        refine lv_if_ne (tgt := 79) hx hb dX7_explore_64 (by decide) (fun c57 => ?_) (fun c57 => ?_)
        ·
          have cc58 : v0_28.toInt ≠ (0 : Int32).toInt := i32_ne c57
          have hb59 : In v0_28 1 1 := In.ne1 hv0_28 (⟨by decide, by decide⟩ : In 0 0 0) cc58 (by omega) (by omega)
          refine lv_aload_n hx hb dX7_explore_79 rfl (lv_at hl 2 rfl) ?_
          refine lv_iload_n hx hb dX7_explore_80 rfl (lv_at hl 3 rfl) ?_
          refine lv_iload_n hx hb dX7_explore_81 rfl (lv_at hl 4 rfl) ?_
          refine lv_lload_n hx hb dX7_explore_82 rfl (lv_at hl 5 rfl) ?_
          refine lv_aload_n hx hb dX7_explore_83 rfl (lv_at hl 2 rfl) ?_
          refine pl_get (v := .int v9_1) hx hb hts (fun w h => mT (inX7 w h)) hown hG.1 hP (hst.1 18 (by decide)) hf2 rfl 9 (by decide) (hts _ (mT wg_441)) (fun _ h => h) rfl dX7_explore_84 ?_
          refine lv_iload_n hx hb dX7_explore_87 rfl (lv_at hl 4 rfl) ?_
          refine lv_iconst (v := (-1)) hx hb dX7_explore_88 (by decide) ?_
          refine lv_ixor hx hb dX7_explore_89 ?_
          refine lv_topi (fun x60 ex60 => ?_)
          refine lv_iand hx hb dX7_explore_90 ?_
          refine lv_topi (fun x61 ex61 => ?_)
          have hb62 : In x61 0 511 := ex61 ▸ In.andl hv9_1 (by decide)
          refine lv_iload_n hx hb dX7_explore_91 rfl (lv_at hl 4 rfl) ?_
          refine lv_bipush (v := 9) hx hb dX7_explore_92 (by decide) ?_
          refine lv_ishl hx hb dX7_explore_94 ?_
          refine lv_topi (fun x63 ex63 => ?_)
          have hb64 : In x63 0 261632 := ex63 ▸ In.shl hz2 (⟨by decide, by decide⟩ : In 9 9 9) (by decide) (by decide) (by decide) (by decide) (by decide) (by decide)
          refine lv_ior hx hb dX7_explore_95 ?_
          refine lv_topi (fun x65 ex65 => ?_)
          have hb66 : In x65 0 262143 := ex65 ▸ In.or 18 hb62 hb64 (by decide) (by decide) (by decide) (by decide) (by decide)
          refine lv_iload hx hb dX7_explore_96 (lv_at hl 6 rfl) ?_
          refine call_v (run_V (rm := rm_X7_tryViews_3) hx hb hml hown hts (s_X7_tryViews_3 l g ad th _ _ _ z2 z3 x65 z4 hst hT hz2) cV_X7_tryViews wg_1081 ⟨Nat.le_of_ble_eq_true rfl, Nat.le_of_ble_eq_true rfl⟩ hG hE hA hP hD hS (hst.1 18 (by decide)) hf2 rfl rfl hl.1 (As := [.int 3, .int z2, .long z3, .int x65, .int z4]) (rest := []) rfl (Nat.le_of_ble_eq_true rfl) dX7_explore_98 ⟨Nat.le_of_ble_eq_true rfl, Nat.le_of_ble_eq_true rfl⟩) hA hD hS (fun L68 f69 H locs hp70 hP hD hS => ?_)
          obtain ⟨eL71L, eL71T, eL71F⟩ := hp70
          have eL71L : L68 = L := eL71L
          rw [eL71L] at hP hD
          have hT : TI g ad th f69 := eL71T
          have eL71F : ∀ b, b ≠ (ad 18) → b ≠ (ad 21) → b ≠ (ad 22) → b ≠ (ad 23) → f69 b = f b := eL71F
          have hf72 := (eL71F (ad 8) (hst.ne (by decide) (by decide) (by decide)) (hst.ne (by decide) (by decide) (by decide)) (hst.ne (by decide) (by decide) (by decide)) (hst.ne (by decide) (by decide) (by decide))).trans hf29
          have hfr : (∀ b, b ≠ (ad 18) → b ≠ (ad 21) → b ≠ (ad 22) → b ≠ (ad 23) → f69 b = f b) := fun b z0_ z1_ z2_ z3_ => (eL71F b z0_ z1_ z2_ z3_).trans (hfr b z0_ z1_ z2_ z3_)
          exact hJ101 _ _ _ _ hP hD hS hT hfr hf72 (lv_sub hl [2, 3, 4, 5, 6, 1, 0] rfl)
        ·
          have cc73 : v0_28.toInt = (0 : Int32).toInt := congrArg Int32.toInt c57
          have hb74 : In v0_28 0 0 := In.eq1 hv0_28 (⟨by decide, by decide⟩ : In 0 0 0) cc73 (by omega) (by omega)
          refine lv_aload_n hx hb dX7_explore_67 rfl (lv_at hl 2 rfl) ?_
          refine lv_iload_n hx hb dX7_explore_68 rfl (lv_at hl 3 rfl) ?_
          refine lv_iload_n hx hb dX7_explore_69 rfl (lv_at hl 4 rfl) ?_
          refine lv_lload_n hx hb dX7_explore_70 rfl (lv_at hl 5 rfl) ?_
          refine lv_iload hx hb dX7_explore_71 (lv_at hl 6 rfl) ?_
          refine call_v (run_V (rm := rm_X7_tryOffers_3) hx hb hml hown hts (s_X7_tryOffers_3 l g ad th _ _ _ z2 z3 z4 hst hT hz2) cV_X7_tryOffers wg_1057 ⟨Nat.le_of_ble_eq_true rfl, Nat.le_of_ble_eq_true rfl⟩ hG hE hA hP hD hS (hst.1 18 (by decide)) hf2 rfl rfl hl.1 (As := [.int 3, .int z2, .long z3, .int z4]) (rest := []) rfl (Nat.le_of_ble_eq_true rfl) dX7_explore_73 ⟨Nat.le_of_ble_eq_true rfl, Nat.le_of_ble_eq_true rfl⟩) hA hD hS (fun L76 f77 H locs hp78 hP hD hS => ?_)
          obtain ⟨eL79L, eL79T, eL79F⟩ := hp78
          have eL79L : L76 = L := eL79L
          rw [eL79L] at hP hD
          have hT : TI g ad th f77 := eL79T
          have eL79F : ∀ b, b ≠ (ad 18) → b ≠ (ad 21) → b ≠ (ad 22) → b ≠ (ad 23) → f77 b = f b := eL79F
          have hf80 := (eL79F (ad 8) (hst.ne (by decide) (by decide) (by decide)) (hst.ne (by decide) (by decide) (by decide)) (hst.ne (by decide) (by decide) (by decide)) (hst.ne (by decide) (by decide) (by decide))).trans hf29
          have hfr : (∀ b, b ≠ (ad 18) → b ≠ (ad 21) → b ≠ (ad 22) → b ≠ (ad 23) → f77 b = f b) := fun b z0_ z1_ z2_ z3_ => (eL79F b z0_ z1_ z2_ z3_).trans (hfr b z0_ z1_ z2_ z3_)
          refine lv_goto (tgt := 101) hx hb dX7_explore_76 (by decide) ?_
          exact hJ101 _ _ _ _ hP hD hS hT hfr hf80 (lv_sub hl [2, 3, 4, 5, 6, 1, 0] rfl)
      ·
        have cc81 : x25.toInt = (0 : Int32).toInt := congrArg Int32.toInt c27
        have hb82 : In x25 0 0 := In.eq1 hb26 (⟨by decide, by decide⟩ : In 0 0 0) cc81 (by omega) (by omega)
        exact ret_v hx hb hr hlocks hP hD hS (Nat.le_of_ble_eq_true rfl) (Nat.le_of_ble_eq_true rfl) (⟨rfl, hT, hfr⟩) dX7_explore_50
    ·
      have cc83 : (6 : Int32).toInt ≤ (3 : Int32).toInt := i32_nlt c13
      exact In.empty (lo := 6) (hi := 3) (In.ge1 (⟨by decide, by decide⟩ : In 3 3 3) (⟨by decide, by decide⟩ : In 6 6 6) cc83 (by omega) (by omega)) (by decide)

abbrev rm_X7_tryRuler_2 : Room := { frames := 14, cells := 0, slots := 0, locals := 472 }
abbrev po_X7_tryRuler_2 (g : GG) (ad : Nat → Nat) (th : Nat → Int) (L : List Nat) (f : HP) (z2 : Int32) (z3 : Int32) (z4 : Int64) (z5 : Int32) : (List Nat × HP) → Prop := fun u => u.1 = L ∧ TI g ad th u.2 ∧ (∀ b, b ≠ (ad 18) → b ≠ (ad 21) → b ≠ (ad 22) → b ≠ (ad 23) → u.2 b = f b)
set_option maxHeartbeats 4000000 in
set_option maxRecDepth 100000 in
theorem s_X7_tryRuler_2 (l : Launch) (g : GG) (ad : Nat → Nat) (th : Nat → Int) (L : List Nat) (f : HP) (sz : Nat) (z2 : Int32) (z3 : Int32) (z4 : Int64) (z5 : Int32) (hst : ST ad L) (hT : TI g ad th f) (hz2 : In z2 0 511) : MtV l g yX7_tryRuler cX7_tryRuler 21 rm_X7_tryRuler_2 [.ref (ad 18), .int 2, .int z2, .int z3, .long z4, .int z5] L f sz (po_X7_tryRuler_2 g ad th L f z2 z3 z4 z5) := by
  refine MtV.of (by decide +kernel) (Nat.le_of_ble_eq_true rfl) ?_
  intro p e s m below meth c A hEn hP hD hS ls hl
  obtain ⟨hx, hb, hr, hml, hown, hlocks, hts, hG, hA, hE, hnm⟩ := hEn
  have hown : s.vm.findClass "RulerWord$Search" = some m.cls := hown
  have hl : lv_has ls 21 [(0, .ref (ad 18)), (1, .int 2), (2, .int z2), (3, .int z3), (4, .long z4), (6, .int z5)] := hl
  have hfr : (∀ b, b ≠ (ad 18) → b ≠ (ad 21) → b ≠ (ad 22) → b ≠ (ad 23) → f b = f b) := fun b z0_ z1_ z2_ z3_ => rfl
  refine lv_aload_n hx hb dX7_tryRuler_0 rfl (lv_at hl 0 rfl) ?_
  obtain ⟨v6_1, v7_1, v8_1, v9_1, v10_1, v11_1, v12_1, v13_1, hf2, hv8_1, hv9_1, hv10_1, hv11_1, hv13_1⟩ := hT.1 18 (by decide)
  refine pl_get (v := .ref (ad 8)) hx hb hts (fun w h => mT (inX7 w h)) hown hG.1 hP (hst.1 18 (by decide)) hf2 rfl 0 (by decide) (hts _ (mT wg_432)) (fun _ h => h) rfl dX7_tryRuler_1 ?_
  refine lv_iload_n hx hb dX7_tryRuler_4 rfl (lv_at hl 1 rfl) ?_
  obtain ⟨v0_3, v1_3, v2_3, v3_3, v4_3, v5_3, v6_3, v7_3, hf4, hv0_3, hv1_3, hv2_3, hv3_3, hv5_3, hv6_3⟩ := hT.1 8 (by decide)
  refine call_i (run_VN (rm := rm_X2_ruler_ru) hx hb hml hown hts (s_X2_ruler_ru l g ad th _ _ _ 2 hst hT (⟨by decide, by decide⟩ : In 2 0 6)) cV_X2_ruler wn_1093 ⟨Nat.le_of_ble_eq_true rfl, Nat.le_of_ble_eq_true rfl⟩ hG hE hA hP hD hS (hst.1 8 (by decide)) hf4 rfl rfl hl.1 (As := [.int 2]) (rest := []) rfl (Nat.le_of_ble_eq_true rfl) dX7_tryRuler_5 ⟨Nat.le_of_ble_eq_true rfl, Nat.le_of_ble_eq_true rfl⟩) hA hD hS (fun r5 L6 f7 H locs hp8 hP hD hS => ?_)
  obtain ⟨eL9L, eL9T, eL9R⟩ := hp8
  have eL9L : L6 = L := eL9L
  have eL9T : f7 = f := eL9T
  rw [eL9L, eL9T] at hP hD
  have eL9R : In r5 0 8 := eL9R
  refine lv_istore (lv' := [(7, .int r5), (0, .ref (ad 18)), (1, .int 2), (2, .int z2), (3, .int z3), (4, .long z4), (6, .int z5)]) hx hb dX7_tryRuler_8 hl (by decide) rfl (fun ls hl => ?_)
  refine lv_iload hx hb dX7_tryRuler_10 (lv_at hl 0 rfl) ?_
  refine lv_bipush (v := 9) hx hb dX7_tryRuler_12 (by decide) ?_
  refine lv_imul hx hb dX7_tryRuler_14 ?_
  refine lv_topi (fun x10 ex10 => ?_)
  have hb11 : In x10 0 72 := ex10 ▸ In.mul eL9R (⟨by decide, by decide⟩ : In 9 9 9) (by decide) (by decide) (by decide) (by decide) (by decide)
  refine lv_istore (lv' := [(8, .int x10), (7, .int r5), (0, .ref (ad 18)), (1, .int 2), (2, .int z2), (3, .int z3), (4, .long z4), (6, .int z5)]) hx hb dX7_tryRuler_15 hl (by decide) rfl (fun ls hl => ?_)
  refine lv_aload_n hx hb dX7_tryRuler_17 rfl (lv_at hl 2 rfl) ?_
  refine pl_get (v := .ref (ad 8)) hx hb hts (fun w h => mT (inX7 w h)) hown hG.1 hP (hst.1 18 (by decide)) hf2 rfl 0 (by decide) (hts _ (mT wg_432)) (fun _ h => h) rfl dX7_tryRuler_18 ?_
  refine pl_getN (v := .int v6_3) hx hb hts (fun w h => mT (inX2 w h)) hown hG.1 hP (hst.1 8 (by decide)) hf4 rfl 6 (by decide) (hG.2.1 _ wn_243) (fun _ h => h) rfl dX7_tryRuler_21 ?_
  have hJ41 : ∀ (y41_s0 : Int32) (H : Heap) (locs : List Loc) (ls : Array Slot), In y41_s0 0 511 → va_P g.1 vwCl (va_pl L f) H → va_D A (va_pl L f) → va_S A s.heap H locs → lv_has ls 21 [(0, .ref (ad 18)), (1, .int 2), (2, .int z2), (3, .int z3), (4, .long z4), (6, .int z5), (7, .int r5), (8, .int x10)] → W p l e rm_X7_tryRuler_2 s m [.ref (ad 18), .int 2, .int z2, .int z3, .long z4, .int z5].toArray below meth c H locs 0 0 (MQ below (va_Qv (po_X7_tryRuler_2 g ad th L f z2 z3 z4 z5) (PstB g A) A) [.ref (ad 18), .int 2, .int z2, .int z3, .long z4, .int z5].toArray s rm_X7_tryRuler_2.cells rm_X7_tryRuler_2.slots A) (F0 m 41 ls [.int y41_s0]) := by
    intro y41_s0 H locs ls hy41_s0 hP hD hS hl
    refine lv_istore (lv' := [(9, .int y41_s0), (0, .ref (ad 18)), (1, .int 2), (2, .int z2), (3, .int z3), (4, .long z4), (6, .int z5), (7, .int r5), (8, .int x10)]) hx hb dX7_tryRuler_41 hl (by decide) rfl (fun ls hl => ?_)
    refine lv_aload_n hx hb dX7_tryRuler_43 rfl (lv_at hl 1 rfl) ?_
    refine pl_get (v := .int v9_1) hx hb hts (fun w h => mT (inX7 w h)) hown hG.1 hP (hst.1 18 (by decide)) hf2 rfl 9 (by decide) (hts _ (mT wg_441)) (fun _ h => h) rfl dX7_tryRuler_44 ?_
    refine lv_iload_n hx hb dX7_tryRuler_47 rfl (lv_at hl 4 rfl) ?_
    refine lv_iconst (v := (-1)) hx hb dX7_tryRuler_48 (by decide) ?_
    refine lv_ixor hx hb dX7_tryRuler_49 ?_
    refine lv_topi (fun x12 ex12 => ?_)
    refine lv_iand hx hb dX7_tryRuler_50 ?_
    refine lv_topi (fun x13 ex13 => ?_)
    have hb14 : In x13 0 511 := ex13 ▸ In.andl hv9_1 (by decide)
    refine lv_iload hx hb dX7_tryRuler_51 (lv_at hl 0 rfl) ?_
    refine lv_iconst (v := (-1)) hx hb dX7_tryRuler_53 (by decide) ?_
    refine lv_ixor hx hb dX7_tryRuler_54 ?_
    refine lv_topi (fun x15 ex15 => ?_)
    refine lv_iand hx hb dX7_tryRuler_55 ?_
    refine lv_topi (fun x16 ex16 => ?_)
    have hb17 : In x16 0 511 := ex16 ▸ In.andl hb14 (by decide)
    refine lv_istore (lv' := [(10, .int x16), (9, .int y41_s0), (0, .ref (ad 18)), (1, .int 2), (2, .int z2), (3, .int z3), (4, .long z4), (6, .int z5), (7, .int r5), (8, .int x10)]) hx hb dX7_tryRuler_56 hl (by decide) rfl (fun ls hl => ?_)
    refine lv_iload hx hb dX7_tryRuler_58 (lv_at hl 0 rfl) ?_
    refine lv_aload_n hx hb dX7_tryRuler_60 rfl (lv_at hl 2 rfl) ?_
    refine lv_iload_n hx hb dX7_tryRuler_61 rfl (lv_at hl 3 rfl) ?_
    refine call_i (run_V (rm := rm_X7_doesSuspicionCount) hx hb hml hown hts (s_X7_doesSuspicionCount l g ad th _ _ _ 2 hst hT (⟨by decide, by decide⟩ : In 2 0 6)) cV_X7_doesSuspicionCount wg_1094 ⟨Nat.le_of_ble_eq_true rfl, Nat.le_of_ble_eq_true rfl⟩ hG hE hA hP hD hS (hst.1 18 (by decide)) hf2 rfl rfl hl.1 (As := [.int 2]) (rest := [.int x16]) rfl (Nat.le_of_ble_eq_true rfl) dX7_tryRuler_62 ⟨Nat.le_of_ble_eq_true rfl, Nat.le_of_ble_eq_true rfl⟩) hA hD hS (fun r18 L19 f20 H locs hp21 hP hD hS => ?_)
    obtain ⟨eL22L, eL22T, eL22R⟩ := hp21
    have eL22L : L19 = L := eL22L
    have eL22T : f20 = f := eL22T
    rw [eL22L, eL22T] at hP hD
    have eL22R : In r18 0 1 := eL22R
    have hJ73 : ∀ (y73_s0 : Int32) (H : Heap) (locs : List Loc) (ls : Array Slot), In y73_s0 (-2147483648) 2147483647 → va_P g.1 vwCl (va_pl L f) H → va_D A (va_pl L f) → va_S A s.heap H locs → lv_has ls 21 [(0, .ref (ad 18)), (1, .int 2), (2, .int z2), (3, .int z3), (4, .long z4), (6, .int z5), (7, .int r5), (8, .int x10), (9, .int y41_s0), (10, .int x16)] → W p l e rm_X7_tryRuler_2 s m [.ref (ad 18), .int 2, .int z2, .int z3, .long z4, .int z5].toArray below meth c H locs 0 0 (MQ below (va_Qv (po_X7_tryRuler_2 g ad th L f z2 z3 z4 z5) (PstB g A) A) [.ref (ad 18), .int 2, .int z2, .int z3, .long z4, .int z5].toArray s rm_X7_tryRuler_2.cells rm_X7_tryRuler_2.slots A) (F0 m 73 ls [.int y73_s0, .int x16]) := by
      intro y73_s0 H locs ls hy73_s0 hP hD hS hl
      refine lv_ior hx hb dX7_tryRuler_73 ?_
      refine lv_topi (fun x23 ex23 => ?_)
      refine lv_istore (lv' := [(11, .int x23), (0, .ref (ad 18)), (1, .int 2), (2, .int z2), (3, .int z3), (4, .long z4), (6, .int z5), (7, .int r5), (8, .int x10), (9, .int y41_s0), (10, .int x16)]) hx hb dX7_tryRuler_74 hl (by decide) rfl (fun ls hl => ?_)
      refine lv_iload_n hx hb dX7_tryRuler_76 rfl (lv_at hl 3 rfl) ?_
      refine lv_iload hx hb dX7_tryRuler_77 (lv_at hl 7 rfl) ?_
      refine call_i (run_SN (rm := rm_X10_bit) hx hb hml hown hts (s_X10_bit l g ad th _ _ _ z2 r5 hst hT ) cS_X10_bit wn_1043 ⟨Nat.le_of_ble_eq_true rfl, Nat.le_of_ble_eq_true rfl⟩ hG hE hA hP hD hS rfl hl.1 (As := [.int z2, .int r5]) (rest := []) rfl (Nat.le_of_ble_eq_true rfl) dX7_tryRuler_79 ⟨Nat.le_of_ble_eq_true rfl, Nat.le_of_ble_eq_true rfl⟩) hA hD hS (fun r24 L25 f26 H locs hp27 hP hD hS => ?_)
      obtain ⟨eL28L, eL28T, eL28R, eL28X0⟩ := hp27
      have eL28L : L25 = L := eL28L
      have eL28T : f26 = f := eL28T
      rw [eL28L, eL28T] at hP hD
      have eL28R : In r24 0 1 := eL28R
      refine lv_iconst (v := 1) hx hb dX7_tryRuler_82 (by decide) ?_
      have hJ94 : ∀ (y94_s0 : Int32) (H : Heap) (locs : List Loc) (ls : Array Slot), In y94_s0 0 511 → va_P g.1 vwCl (va_pl L f) H → va_D A (va_pl L f) → va_S A s.heap H locs → lv_has ls 21 [(0, .ref (ad 18)), (1, .int 2), (2, .int z2), (3, .int z3), (4, .long z4), (6, .int z5), (7, .int r5), (8, .int x10), (9, .int y41_s0), (10, .int x16), (11, .int x23)] → W p l e rm_X7_tryRuler_2 s m [.ref (ad 18), .int 2, .int z2, .int z3, .long z4, .int z5].toArray below meth c H locs 0 0 (MQ below (va_Qv (po_X7_tryRuler_2 g ad th L f z2 z3 z4 z5) (PstB g A) A) [.ref (ad 18), .int 2, .int z2, .int z3, .long z4, .int z5].toArray s rm_X7_tryRuler_2.cells rm_X7_tryRuler_2.slots A) (F0 m 94 ls [.int y94_s0]) := by
        intro y94_s0 H locs ls hy94_s0 hP hD hS hl
        refine lv_istore (lv' := [(12, .int y94_s0), (0, .ref (ad 18)), (1, .int 2), (2, .int z2), (3, .int z3), (4, .long z4), (6, .int z5), (7, .int r5), (8, .int x10), (9, .int y41_s0), (10, .int x16), (11, .int x23)]) hx hb dX7_tryRuler_94 hl (by decide) rfl (fun ls hl => ?_)
        refine lv_aload_n hx hb dX7_tryRuler_96 rfl (lv_at hl 1 rfl) ?_
        refine pl_get (v := .ref (ad 20)) hx hb hts (fun w h => mT (inX7 w h)) hown hG.1 hP (hst.1 18 (by decide)) hf2 rfl 2 (by decide) (hts _ (mT wg_434)) (fun _ h => h) rfl dX7_tryRuler_97 ?_
        refine lv_iload_n hx hb dX7_tryRuler_100 rfl (lv_at hl 2 rfl) ?_
        refine lv_iconst (v := 1) hx hb dX7_tryRuler_101 (by decide) ?_
        refine lv_iadd hx hb dX7_tryRuler_102 ?_
        refine lv_topi (fun x29 ex29 => ?_)
        obtain rfl : x29 = 3 := ex29.trans (by decide)
        obtain ⟨rw30, hf31⟩ := hT.1 20 (by decide)
        have hin32 : vp_in 3 7 := In.inb (⟨by decide, by decide⟩ : In 3 3 3) (by decide) (by decide)
        refine pl_iald hx hb hG.1 hP (hst.1 20 (by decide)) 0 hf31 rfl hin32 dX7_tryRuler_103 ?_
        refine lv_topi (fun x33 ex33 => ?_)
        refine lv_aload_n hx hb dX7_tryRuler_104 rfl (lv_at hl 1 rfl) ?_
        refine pl_get (v := .int v10_1) hx hb hts (fun w h => mT (inX7 w h)) hown hG.1 hP (hst.1 18 (by decide)) hf2 rfl 10 (by decide) (hts _ (mT wg_442)) (fun _ h => h) rfl dX7_tryRuler_105 ?_
        refine lv_isub hx hb dX7_tryRuler_108 ?_
        refine lv_topi (fun x34 ex34 => ?_)
        refine lv_istore (lv' := [(13, .int x34), (12, .int y94_s0), (0, .ref (ad 18)), (1, .int 2), (2, .int z2), (3, .int z3), (4, .long z4), (6, .int z5), (7, .int r5), (8, .int x10), (9, .int y41_s0), (10, .int x16), (11, .int x23)]) hx hb dX7_tryRuler_109 hl (by decide) rfl (fun ls hl => ?_)
        refine lv_aload_n hx hb dX7_tryRuler_111 rfl (lv_at hl 2 rfl) ?_
        refine pl_get (v := .int v8_1) hx hb hts (fun w h => mT (inX7 w h)) hown hG.1 hP (hst.1 18 (by decide)) hf2 rfl 8 (by decide) (hts _ (mT wg_440)) (fun _ h => h) rfl dX7_tryRuler_112 ?_
        refine lv_iload hx hb dX7_tryRuler_115 (lv_at hl 8 rfl) ?_
        refine call_i (run_SN (rm := rm_X10_bit) hx hb hml hown hts (s_X10_bit l g ad th _ _ _ v8_1 r5 hst hT ) cS_X10_bit wn_1043 ⟨Nat.le_of_ble_eq_true rfl, Nat.le_of_ble_eq_true rfl⟩ hG hE hA hP hD hS rfl hl.1 (As := [.int v8_1, .int r5]) (rest := []) rfl (Nat.le_of_ble_eq_true rfl) dX7_tryRuler_117 ⟨Nat.le_of_ble_eq_true rfl, Nat.le_of_ble_eq_true rfl⟩) hA hD hS (fun r35 L36 f37 H locs hp38 hP hD hS => ?_)
        obtain ⟨eL39L, eL39T, eL39R, eL39X0⟩ := hp38
        have eL39L : L36 = L := eL39L
        have eL39T : f37 = f := eL39T
        rw [eL39L, eL39T] at hP hD
        have eL39R : In r35 0 1 := eL39R
        refine lv_iconst (v := 1) hx hb dX7_tryRuler_120 (by decide) ?_
        have hJ134 : ∀ (y134_s0 : Int32) (H : Heap) (locs : List Loc) (ls : Array Slot), In y134_s0 1 512 → va_P g.1 vwCl (va_pl L f) H → va_D A (va_pl L f) → va_S A s.heap H locs → lv_has ls 21 [(0, .ref (ad 18)), (1, .int 2), (2, .int z2), (3, .int z3), (4, .long z4), (6, .int z5), (7, .int r5), (8, .int x10), (9, .int y41_s0), (10, .int x16), (11, .int x23), (12, .int y94_s0), (13, .int x34)] → W p l e rm_X7_tryRuler_2 s m [.ref (ad 18), .int 2, .int z2, .int z3, .long z4, .int z5].toArray below meth c H locs 0 0 (MQ below (va_Qv (po_X7_tryRuler_2 g ad th L f z2 z3 z4 z5) (PstB g A) A) [.ref (ad 18), .int 2, .int z2, .int z3, .long z4, .int z5].toArray s rm_X7_tryRuler_2.cells rm_X7_tryRuler_2.slots A) (F0 m 134 ls [.int y134_s0]) := by
          intro y134_s0 H locs ls hy134_s0 hP hD hS hl
          refine lv_istore (lv' := [(14, .int y134_s0), (0, .ref (ad 18)), (1, .int 2), (2, .int z2), (3, .int z3), (4, .long z4), (6, .int z5), (7, .int r5), (8, .int x10), (9, .int y41_s0), (10, .int x16), (11, .int x23), (12, .int y94_s0), (13, .int x34)]) hx hb dX7_tryRuler_134 hl (by decide) rfl (fun ls hl => ?_)
          refine lv_iconst (v := 0) hx hb dX7_tryRuler_136 (by decide) ?_
          refine lv_istore (lv' := [(15, .int 0), (14, .int y134_s0), (0, .ref (ad 18)), (1, .int 2), (2, .int z2), (3, .int z3), (4, .long z4), (6, .int z5), (7, .int r5), (8, .int x10), (9, .int y41_s0), (10, .int x16), (11, .int x23), (12, .int y94_s0), (13, .int x34)]) hx hb dX7_tryRuler_137 hl (by decide) rfl (fun ls hl => ?_)
          have hJ139 : ∀ (k139 : Nat) (y139_l15 : Int32) (f_139 : HP) (H : Heap) (locs : List Loc) (ls : Array Slot), In y139_l15 0 2147483647 → va_P g.1 vwCl (va_pl L f_139) H → va_D A (va_pl L f_139) → va_S A s.heap H locs → TI g ad th f_139 → (∀ b, b ≠ (ad 18) → b ≠ (ad 21) → b ≠ (ad 22) → b ≠ (ad 23) → f_139 b = f b) → f_139 (ad 20) = .inl (g.2.1 0, 7, .inl (rw30)) → f_139 (ad 8) = .inr (2, [.int v0_3, .int v1_3, .int v2_3, .int v3_3, .int v4_3, .int v5_3, .int v6_3, .int v7_3]) → lv_has ls 21 [(0, .ref (ad 18)), (1, .int 2), (2, .int z2), (3, .int z3), (4, .long z4), (6, .int z5), (7, .int r5), (8, .int x10), (9, .int y41_s0), (10, .int x16), (11, .int x23), (12, .int y94_s0), (13, .int x34), (14, .int y134_s0), (15, .int y139_l15)] → 2147483647 - y139_l15.toInt < ((k139 : Nat) : Int) → W p l e rm_X7_tryRuler_2 s m [.ref (ad 18), .int 2, .int z2, .int z3, .long z4, .int z5].toArray below meth c H locs 0 0 (MQ below (va_Qv (po_X7_tryRuler_2 g ad th L f z2 z3 z4 z5) (PstB g A) A) [.ref (ad 18), .int 2, .int z2, .int z3, .long z4, .int z5].toArray s rm_X7_tryRuler_2.cells rm_X7_tryRuler_2.slots A) (F0 m 139 ls []) := by
            intro k139
            induction k139 with
            | zero =>
              intro y139_l15 f_139 H locs ls hy139_l15 hP hD hS hT hfr hf40 hf41 hl hmz139
              exact ms0 hy139_l15 hmz139
            | succ k139 ih139 =>
              intro y139_l15 f_139 H locs ls hy139_l15 hP hD hS hT hfr hf40 hf41 hl hmz139
              refine lv_iload hx hb dX7_tryRuler_139 (lv_at hl 14 rfl) ?_
              refine lv_iload hx hb dX7_tryRuler_141 (lv_at hl 13 rfl) ?_
              refine lv_icmp_ge (tgt := 232) hx hb dX7_tryRuler_143 (by decide) (fun c42 => ?_) (fun c42 => ?_)
              ·
                have cc43 : y134_s0.toInt ≤ y139_l15.toInt := i32_le.mp c42
                have hb44 : In y139_l15 1 2147483647 := In.ge1 hy139_l15 hy134_s0 cc43 (by omega) (by omega)
                exact ret_v hx hb hr hlocks hP hD hS (Nat.le_of_ble_eq_true rfl) (Nat.le_of_ble_eq_true rfl) (⟨rfl, hT, hfr⟩) dX7_tryRuler_232
              ·
                have cc45 : y139_l15.toInt < y134_s0.toInt := i32_nle c42
                have hb46 : In y139_l15 0 511 := In.lt1 hy139_l15 hy134_s0 cc45 (by omega) (by omega)
                refine lv_aload_n hx hb dX7_tryRuler_146 rfl (lv_at hl 0 rfl) ?_
                obtain ⟨v6_47, v7_47, v8_47, v9_47, v10_47, v11_47, v12_47, v13_47, hf48, hv8_47, hv9_47, hv10_47, hv11_47, hv13_47⟩ := hT.1 18 (by decide)
                refine call_i (run_V (rm := rm_X7_isEnough) hx hb hml hown hts (s_X7_isEnough l g ad th _ _ _  hst hT ) cV_X7_isEnough wg_1070 ⟨Nat.le_of_ble_eq_true rfl, Nat.le_of_ble_eq_true rfl⟩ hG hE hA hP hD hS (hst.1 18 (by decide)) hf48 rfl rfl hl.1 (As := []) (rest := []) rfl (Nat.le_of_ble_eq_true rfl) dX7_tryRuler_147 ⟨Nat.le_of_ble_eq_true rfl, Nat.le_of_ble_eq_true rfl⟩) hA hD hS (fun r49 L50 f51 H locs hp52 hP hD hS => ?_)
                obtain ⟨eL53L, eL53T, eL53R⟩ := hp52
                have eL53L : L50 = L := eL53L
                have eL53T : f51 = f_139 := eL53T
                rw [eL53L, eL53T] at hP hD
                have eL53R : In r49 0 1 := eL53R
                refine lv_if_ne (tgt := 232) hx hb dX7_tryRuler_150 (by decide) (fun c54 => ?_) (fun c54 => ?_)
                ·
                  have oc0 : (0 : Int32).toInt = 0 := by decide
                  have cc55 : r49.toInt ≠ (0 : Int32).toInt := i32_ne c54
                  have hb56 : In r49 1 1 := In.ne1 eL53R (⟨by decide, by decide⟩ : In 0 0 0) cc55 (by omega) (by omega)
                  exact ret_v hx hb hr hlocks hP hD hS (Nat.le_of_ble_eq_true rfl) (Nat.le_of_ble_eq_true rfl) (⟨rfl, hT, hfr⟩) dX7_tryRuler_232
                ·
                  have oc0 : (0 : Int32).toInt = 0 := by decide
                  have cc57 : r49.toInt = (0 : Int32).toInt := congrArg Int32.toInt c54
                  have hb58 : In r49 0 0 := In.eq1 eL53R (⟨by decide, by decide⟩ : In 0 0 0) cc57 (by omega) (by omega)
                  refine lv_aload_n hx hb dX7_tryRuler_153 rfl (lv_at hl 0 rfl) ?_
                  refine lv_iload hx hb dX7_tryRuler_154 (lv_at hl 14 rfl) ?_
                  refine call_i (run_V (rm := rm_X7_spread) hx hb hml hown hts (s_X7_spread l g ad th _ _ _ y139_l15 hst hT ) cV_X7_spread wg_1098 ⟨Nat.le_of_ble_eq_true rfl, Nat.le_of_ble_eq_true rfl⟩ hG hE hA hP hD hS (hst.1 18 (by decide)) hf48 rfl rfl hl.1 (As := [.int y139_l15]) (rest := []) rfl (Nat.le_of_ble_eq_true rfl) dX7_tryRuler_156 ⟨Nat.le_of_ble_eq_true rfl, Nat.le_of_ble_eq_true rfl⟩) hA hD hS (fun r59 L60 f61 H locs hp62 hP hD hS => ?_)
                  obtain ⟨eL63L, eL63T, eL63R⟩ := hp62
                  have eL63L : L60 = L := eL63L
                  have eL63T : f61 = f_139 := eL63T
                  rw [eL63L, eL63T] at hP hD
                  have eL63R : In r59 0 511 := eL63R
                  refine lv_istore (lv' := [(16, .int r59), (0, .ref (ad 18)), (1, .int 2), (2, .int z2), (3, .int z3), (4, .long z4), (6, .int z5), (7, .int r5), (8, .int x10), (9, .int y41_s0), (10, .int x16), (11, .int x23), (12, .int y94_s0), (13, .int x34), (14, .int y134_s0), (15, .int y139_l15)]) hx hb dX7_tryRuler_159 hl (by decide) rfl (fun ls hl => ?_)
                  refine lv_iload hx hb dX7_tryRuler_161 (lv_at hl 0 rfl) ?_
                  refine lv_iload hx hb dX7_tryRuler_163 (lv_at hl 11 rfl) ?_
                  refine lv_iconst (v := (-1)) hx hb dX7_tryRuler_165 (by decide) ?_
                  refine lv_ixor hx hb dX7_tryRuler_166 ?_
                  refine lv_topi (fun x64 ex64 => ?_)
                  refine lv_iand hx hb dX7_tryRuler_167 ?_
                  refine lv_topi (fun x65 ex65 => ?_)
                  have hb66 : In x65 0 511 := ex65 ▸ In.andl eL63R (by decide)
                  have hJ226 : ∀ (f_226 : HP) (H : Heap) (locs : List Loc) (ls : Array Slot), va_P g.1 vwCl (va_pl L f_226) H → va_D A (va_pl L f_226) → va_S A s.heap H locs → TI g ad th f_226 → (∀ b, b ≠ (ad 18) → b ≠ (ad 21) → b ≠ (ad 22) → b ≠ (ad 23) → f_226 b = f b) → f_226 (ad 20) = .inl (g.2.1 0, 7, .inl (rw30)) → f_226 (ad 8) = .inr (2, [.int v0_3, .int v1_3, .int v2_3, .int v3_3, .int v4_3, .int v5_3, .int v6_3, .int v7_3]) → lv_has ls 21 [(0, .ref (ad 18)), (1, .int 2), (2, .int z2), (3, .int z3), (4, .long z4), (6, .int z5), (7, .int r5), (8, .int x10), (9, .int y41_s0), (10, .int x16), (11, .int x23), (12, .int y94_s0), (13, .int x34), (14, .int y134_s0), (15, .int y139_l15), (16, .int r59)] → W p l e rm_X7_tryRuler_2 s m [.ref (ad 18), .int 2, .int z2, .int z3, .long z4, .int z5].toArray below meth c H locs 0 0 (MQ below (va_Qv (po_X7_tryRuler_2 g ad th L f z2 z3 z4 z5) (PstB g A) A) [.ref (ad 18), .int 2, .int z2, .int z3, .long z4, .int z5].toArray s rm_X7_tryRuler_2.cells rm_X7_tryRuler_2.slots A) (F0 m 226 ls []) := by
                    intro f_226 H locs ls hP hD hS hT hfr hf67 hf68 hl
                    obtain ⟨x69, ex69⟩ : ∃ y : Int32, y = y139_l15 + 1 := ⟨_, rfl⟩
                    have hb70 : In x69 1 512 := ex69 ▸ In.add hb46 (⟨by decide, by decide⟩ : In 1 1 1) (by decide) (by decide) (by decide) (by decide)
                    have et71 : x69.toInt = y139_l15.toInt + 1 := In.adde ex69 hb46 (k := 1) (by decide) (by decide) (by decide)
                    refine lv_iinc (v := x69) (lv' := [(15, .int x69), (0, .ref (ad 18)), (1, .int 2), (2, .int z2), (3, .int z3), (4, .long z4), (6, .int z5), (7, .int r5), (8, .int x10), (9, .int y41_s0), (10, .int x16), (11, .int x23), (12, .int y94_s0), (13, .int x34), (14, .int y134_s0), (16, .int r59)]) hx hb dX7_tryRuler_226 hl (k := 14) rfl (by rw [ex69]; rfl) (by decide) rfl (fun ls hl => ?_)
                    refine lv_goto (tgt := 139) hx hb dX7_tryRuler_229 (by decide) ?_
                    exact ih139 x69 _ _ _ _ (In.mono hb70 (by decide) (by decide)) hP hD hS hT hfr hf67 hf68 (lv_sub hl [1, 2, 3, 4, 5, 6, 7, 8, 9, 10, 11, 12, 13, 14, 0] rfl) (msu et71 (by decide) hmz139)
                  refine lv_if_ne (tgt := 226) hx hb dX7_tryRuler_168 (by decide) (fun c72 => ?_) (fun c72 => ?_)
                  ·
                    have oc0 : (0 : Int32).toInt = 0 := by decide
                    have cc73 : x65.toInt ≠ (0 : Int32).toInt := i32_ne c72
                    have hb74 : In x65 1 511 := In.ne1 hb66 (⟨by decide, by decide⟩ : In 0 0 0) cc73 (by omega) (by omega)
                    exact hJ226 _ _ _ _ hP hD hS hT hfr hf40 hf41 (lv_sub hl [1, 2, 3, 4, 5, 6, 7, 8, 9, 10, 11, 12, 13, 14, 15, 0] rfl)
                  ·
                    have oc0 : (0 : Int32).toInt = 0 := by decide
                    have cc75 : x65.toInt = (0 : Int32).toInt := congrArg Int32.toInt c72
                    have hb76 : In x65 0 0 := In.eq1 hb66 (⟨by decide, by decide⟩ : In 0 0 0) cc75 (by omega) (by omega)
                    refine lv_iload hx hb dX7_tryRuler_171 (lv_at hl 12 rfl) ?_
                    refine lv_iload hx hb dX7_tryRuler_173 (lv_at hl 0 rfl) ?_
                    refine lv_ior hx hb dX7_tryRuler_175 ?_
                    refine lv_topi (fun x77 ex77 => ?_)
                    have hb78 : In x77 0 511 := ex77 ▸ In.or 9 hy94_s0 eL63R (by decide) (by decide) (by decide) (by decide) (by decide)
                    refine lv_istore (lv' := [(17, .int x77), (16, .int r59), (0, .ref (ad 18)), (1, .int 2), (2, .int z2), (3, .int z3), (4, .long z4), (6, .int z5), (7, .int r5), (8, .int x10), (9, .int y41_s0), (10, .int x16), (11, .int x23), (12, .int y94_s0), (13, .int x34), (14, .int y134_s0), (15, .int y139_l15)]) hx hb dX7_tryRuler_176 hl (by decide) rfl (fun ls hl => ?_)
                    refine lv_iload_n hx hb dX7_tryRuler_178 rfl (lv_at hl 4 rfl) ?_
                    refine lv_iload hx hb dX7_tryRuler_179 (lv_at hl 11 rfl) ?_
                    refine lv_iconst (v := (-1)) hx hb dX7_tryRuler_181 (by decide) ?_
                    refine lv_ixor hx hb dX7_tryRuler_182 ?_
                    refine lv_topi (fun x79 ex79 => ?_)
                    refine lv_iand hx hb dX7_tryRuler_183 ?_
                    refine lv_topi (fun x80 ex80 => ?_)
                    have hb81 : In x80 0 511 := ex80 ▸ In.andl hz2 (by decide)
                    refine lv_iload hx hb dX7_tryRuler_184 (lv_at hl 0 rfl) ?_
                    refine lv_iload hx hb dX7_tryRuler_186 (lv_at hl 11 rfl) ?_
                    refine lv_iand hx hb dX7_tryRuler_188 ?_
                    refine lv_topi (fun x82 ex82 => ?_)
                    have hb83 : In x82 0 511 := ex82 ▸ In.andr hb17 (by decide)
                    refine lv_ior hx hb dX7_tryRuler_189 ?_
                    refine lv_topi (fun x84 ex84 => ?_)
                    have hb85 : In x84 0 511 := ex84 ▸ In.or 9 hb81 hb83 (by decide) (by decide) (by decide) (by decide) (by decide)
                    refine lv_istore (lv' := [(18, .int x84), (17, .int x77), (16, .int r59), (0, .ref (ad 18)), (1, .int 2), (2, .int z2), (3, .int z3), (4, .long z4), (6, .int z5), (7, .int r5), (8, .int x10), (9, .int y41_s0), (10, .int x16), (11, .int x23), (12, .int y94_s0), (13, .int x34), (14, .int y134_s0), (15, .int y139_l15)]) hx hb dX7_tryRuler_190 hl (by decide) rfl (fun ls hl => ?_)
                    refine lv_iload_n hx hb dX7_tryRuler_192 rfl (lv_at hl 6 rfl) ?_
                    refine lv_iload hx hb dX7_tryRuler_193 (lv_at hl 1 rfl) ?_
                    refine lv_iload_n hx hb dX7_tryRuler_195 rfl (lv_at hl 5 rfl) ?_
                    refine lv_ixor hx hb dX7_tryRuler_196 ?_
                    refine lv_topi (fun x86 ex86 => ?_)
                    have hb87 : In x86 0 511 := ex86 ▸ In.xor 9 hb78 hz2 (by decide) (by decide) (by decide) (by decide) (by decide)
                    refine lv_iand hx hb dX7_tryRuler_197 ?_
                    refine lv_topi (fun x88 ex88 => ?_)
                    have hb89 : In x88 0 511 := ex88 ▸ In.andr hb87 (by decide)
                    refine lv_i2l hx hb dX7_tryRuler_198 rfl ?_
                    refine lv_lstore (lv' := [(19, .long (x88.toInt64)), (18, .int x84), (17, .int x77), (16, .int r59), (0, .ref (ad 18)), (1, .int 2), (2, .int z2), (3, .int z3), (4, .long z4), (6, .int z5), (7, .int r5), (8, .int x10), (9, .int y41_s0), (10, .int x16), (11, .int x23), (12, .int y94_s0), (13, .int x34), (14, .int y134_s0), (15, .int y139_l15)]) hx hb dX7_tryRuler_199 hl (by decide) rfl (fun ls hl => ?_)
                    refine lv_aload_n hx hb dX7_tryRuler_201 rfl (lv_at hl 4 rfl) ?_
                    refine lv_iload_n hx hb dX7_tryRuler_202 rfl (lv_at hl 5 rfl) ?_
                    refine lv_iconst (v := 1) hx hb dX7_tryRuler_203 (by decide) ?_
                    refine lv_iadd hx hb dX7_tryRuler_204 ?_
                    refine lv_topi (fun x90 ex90 => ?_)
                    obtain rfl : x90 = 3 := ex90.trans (by decide)
                    refine lv_iload hx hb dX7_tryRuler_205 (lv_at hl 1 rfl) ?_
                    refine lv_lload hx hb dX7_tryRuler_207 (lv_at hl 8 rfl) ?_
                    refine lv_lload hx hb dX7_tryRuler_209 (lv_at hl 0 rfl) ?_
                    refine lv_iload hx hb dX7_tryRuler_211 (lv_at hl 11 rfl) ?_
                    refine lv_lshl hx hb dX7_tryRuler_213 rfl ?_
                    refine lv_topl (fun x91 ex91 => ?_)
                    refine lv_lor hx hb dX7_tryRuler_214 ?_
                    refine lv_topl (fun x92 ex92 => ?_)
                    refine lv_iload hx hb dX7_tryRuler_215 (lv_at hl 9 rfl) ?_
                    refine lv_iload hx hb dX7_tryRuler_217 (lv_at hl 18 rfl) ?_
                    refine lv_iload hx hb dX7_tryRuler_219 (lv_at hl 16 rfl) ?_
                    refine lv_ishl hx hb dX7_tryRuler_221 ?_
                    refine lv_topi (fun x93 ex93 => ?_)
                    refine lv_ior hx hb dX7_tryRuler_222 ?_
                    refine lv_topi (fun x94 ex94 => ?_)
                    refine call_v (run_V (rm := rm_X7_explore_3) hx hb hml hown hts (s_X7_explore_3 l g ad th _ _ _ x84 x92 x94 hst hT hb85) cV_X7_explore wg_1049 ⟨Nat.le_of_ble_eq_true rfl, Nat.le_of_ble_eq_true rfl⟩ hG hE hA hP hD hS (hst.1 18 (by decide)) hf48 rfl rfl hl.1 (As := [.int 3, .int x84, .long x92, .int x94]) (rest := []) rfl (Nat.le_of_ble_eq_true rfl) dX7_tryRuler_223 ⟨Nat.le_of_ble_eq_true rfl, Nat.le_of_ble_eq_true rfl⟩) hA hD hS (fun L96 f97 H locs hp98 hP hD hS => ?_)
                    obtain ⟨eL99L, eL99T, eL99F⟩ := hp98
                    have eL99L : L96 = L := eL99L
                    rw [eL99L] at hP hD
                    have hT : TI g ad th f97 := eL99T
                    have eL99F : ∀ b, b ≠ (ad 18) → b ≠ (ad 21) → b ≠ (ad 22) → b ≠ (ad 23) → f97 b = f_139 b := eL99F
                    have hf100 := (eL99F (ad 8) (hst.ne (by decide) (by decide) (by decide)) (hst.ne (by decide) (by decide) (by decide)) (hst.ne (by decide) (by decide) (by decide)) (hst.ne (by decide) (by decide) (by decide))).trans hf41
                    have hf101 := (eL99F (ad 20) (hst.ne (by decide) (by decide) (by decide)) (hst.ne (by decide) (by decide) (by decide)) (hst.ne (by decide) (by decide) (by decide)) (hst.ne (by decide) (by decide) (by decide))).trans hf40
                    have hfr : (∀ b, b ≠ (ad 18) → b ≠ (ad 21) → b ≠ (ad 22) → b ≠ (ad 23) → f97 b = f b) := fun b z0_ z1_ z2_ z3_ => (eL99F b z0_ z1_ z2_ z3_).trans (hfr b z0_ z1_ z2_ z3_)
                    exact hJ226 _ _ _ _ hP hD hS hT hfr hf101 hf100 (lv_sub hl [4, 5, 6, 7, 8, 9, 10, 11, 12, 13, 14, 15, 16, 17, 18, 3] rfl)
          exact hJ139 ((2147483647 - (0 : Int32).toInt).toNat + 1) 0 _ _ _ _ (⟨by decide, by decide⟩ : In 0 0 2147483647) hP hD hS hT hfr hf31 hf4 (lv_sub hl [2, 3, 4, 5, 6, 7, 8, 9, 10, 11, 12, 13, 14, 1, 0] rfl) (msI _)
        refine lv_icmp_ne (tgt := 133) hx hb dX7_tryRuler_121 (by decide) (fun c102 => ?_) (fun c102 => ?_)
        ·
          have oc1 : (1 : Int32).toInt = 1 := by decide
          have cc103 : r35.toInt ≠ (1 : Int32).toInt := i32_ne c102
          have hb104 : In r35 0 0 := In.ne1 eL39R (⟨by decide, by decide⟩ : In 1 1 1) cc103 (by omega) (by omega)
          refine lv_iconst (v := 1) hx hb dX7_tryRuler_133 (by decide) ?_
          exact hJ134 1 _ _ _ (⟨by decide, by decide⟩ : In 1 1 512) hP hD hS (lv_sub hl [2, 3, 4, 5, 6, 7, 8, 9, 10, 11, 12, 1, 0] rfl)
        ·
          have oc1 : (1 : Int32).toInt = 1 := by decide
          have cc105 : r35.toInt = (1 : Int32).toInt := congrArg Int32.toInt c102
          have hb106 : In r35 1 1 := In.eq1 eL39R (⟨by decide, by decide⟩ : In 1 1 1) cc105 (by omega) (by omega)
          refine lv_iconst (v := 1) hx hb dX7_tryRuler_124 (by decide) ?_
          refine lv_aload_n hx hb dX7_tryRuler_125 rfl (lv_at hl 2 rfl) ?_
          refine pl_get (v := .int v10_1) hx hb hts (fun w h => mT (inX7 w h)) hown hG.1 hP (hst.1 18 (by decide)) hf2 rfl 10 (by decide) (hts _ (mT wg_442)) (fun _ h => h) rfl dX7_tryRuler_126 ?_
          refine lv_ishl hx hb dX7_tryRuler_129 ?_
          refine lv_topi (fun x107 ex107 => ?_)
          have hb108 : In x107 1 512 := ex107 ▸ In.shl (⟨by decide, by decide⟩ : In 1 1 1) hv10_1 (by decide) (by decide) (by decide) (by decide) (by decide) (by decide)
          refine lv_goto (tgt := 134) hx hb dX7_tryRuler_130 (by decide) ?_
          exact hJ134 x107 _ _ _ hb108 hP hD hS (lv_sub hl [2, 3, 4, 5, 6, 7, 8, 9, 10, 11, 12, 1, 0] rfl)
      refine lv_icmp_ne (tgt := 93) hx hb dX7_tryRuler_83 (by decide) (fun c109 => ?_) (fun c109 => ?_)
      ·
        have oc1 : (1 : Int32).toInt = 1 := by decide
        have cc110 : r24.toInt ≠ (1 : Int32).toInt := i32_ne c109
        have hb111 : In r24 0 0 := In.ne1 eL28R (⟨by decide, by decide⟩ : In 1 1 1) cc110 (by omega) (by omega)
        refine lv_iconst (v := 0) hx hb dX7_tryRuler_93 (by decide) ?_
        exact hJ94 0 _ _ _ (⟨by decide, by decide⟩ : In 0 0 511) hP hD hS (lv_sub hl [1, 2, 3, 4, 5, 6, 7, 8, 9, 10, 0] rfl)
      ·
        have oc1 : (1 : Int32).toInt = 1 := by decide
        have cc112 : r24.toInt = (1 : Int32).toInt := congrArg Int32.toInt c109
        have hb113 : In r24 1 1 := In.eq1 eL28R (⟨by decide, by decide⟩ : In 1 1 1) cc112 (by omega) (by omega)
        refine lv_aload_n hx hb dX7_tryRuler_86 rfl (lv_at hl 1 rfl) ?_
        refine pl_get (v := .int v9_1) hx hb hts (fun w h => mT (inX7 w h)) hown hG.1 hP (hst.1 18 (by decide)) hf2 rfl 9 (by decide) (hts _ (mT wg_441)) (fun _ h => h) rfl dX7_tryRuler_87 ?_
        refine lv_goto (tgt := 94) hx hb dX7_tryRuler_90 (by decide) ?_
        exact hJ94 v9_1 _ _ _ hv9_1 hP hD hS (lv_sub hl [1, 2, 3, 4, 5, 6, 7, 8, 9, 10, 0] rfl)
    refine lv_if_eq (tgt := 72) hx hb dX7_tryRuler_65 (by decide) (fun c114 => ?_) (fun c114 => ?_)
    ·
      have oc0 : (0 : Int32).toInt = 0 := by decide
      have cc115 : r18.toInt = (0 : Int32).toInt := congrArg Int32.toInt c114
      have hb116 : In r18 0 0 := In.eq1 eL22R (⟨by decide, by decide⟩ : In 0 0 0) cc115 (by omega) (by omega)
      refine lv_iconst (v := 0) hx hb dX7_tryRuler_72 (by decide) ?_
      exact hJ73 0 _ _ _ (⟨by decide, by decide⟩ : In 0 (-2147483648) 2147483647) hP hD hS (lv_sub hl [2, 3, 4, 5, 6, 7, 8, 9, 1, 0] rfl)
    ·
      have oc0 : (0 : Int32).toInt = 0 := by decide
      have cc117 : r18.toInt ≠ (0 : Int32).toInt := i32_ne c114
      have hb118 : In r18 1 1 := In.ne1 eL22R (⟨by decide, by decide⟩ : In 0 0 0) cc117 (by omega) (by omega)
      refine lv_iload_n hx hb dX7_tryRuler_68 rfl (lv_at hl 5 rfl) ?_
      refine lv_goto (tgt := 73) hx hb dX7_tryRuler_69 (by decide) ?_
      exact hJ73 z3 _ _ _ (In.full z3) hP hD hS (lv_sub hl [2, 3, 4, 5, 6, 7, 8, 9, 1, 0] rfl)
  refine lv_if_eq (tgt := 40) hx hb dX7_tryRuler_24 (by decide) (fun c119 => ?_) (fun c119 => ?_)
  ·
    have oc0 : (0 : Int32).toInt = 0 := by decide
    have cc120 : v6_3.toInt = (0 : Int32).toInt := congrArg Int32.toInt c119
    have hb121 : In v6_3 0 0 := In.eq1 hv6_3 (⟨by decide, by decide⟩ : In 0 0 0) cc120 (by omega) (by omega)
    refine lv_iconst (v := 0) hx hb dX7_tryRuler_40 (by decide) ?_
    exact hJ41 0 _ _ _ (⟨by decide, by decide⟩ : In 0 0 511) hP hD hS (lv_sub hl [2, 3, 4, 5, 6, 7, 1, 0] rfl)
  ·
    have oc0 : (0 : Int32).toInt = 0 := by decide
    have cc122 : v6_3.toInt ≠ (0 : Int32).toInt := i32_ne c119
    have hb123 : In v6_3 1 1 := In.ne1 hv6_3 (⟨by decide, by decide⟩ : In 0 0 0) cc122 (by omega) (by omega)
    refine lv_lload hx hb dX7_tryRuler_27 (lv_at hl 6 rfl) ?_
    refine lv_iload hx hb dX7_tryRuler_29 (lv_at hl 0 rfl) ?_
    refine lv_lushr hx hb dX7_tryRuler_31 rfl ?_
    refine lv_topl (fun x124 ex124 => ?_)
    refine lv_l2i hx hb dX7_tryRuler_32 rfl ?_
    refine lv_topi (fun x125 ex125 => ?_)
    refine lv_sipush (v := 511) hx hb dX7_tryRuler_33 (by decide) ?_
    refine lv_iand hx hb dX7_tryRuler_36 ?_
    refine lv_topi (fun x126 ex126 => ?_)
    have hb127 : In x126 0 511 := ex126 ▸ In.andr (⟨by decide, by decide⟩ : In 511 511 511) (by decide)
    refine lv_goto (tgt := 41) hx hb dX7_tryRuler_37 (by decide) ?_
    exact hJ41 x126 _ _ _ hb127 hP hD hS (lv_sub hl [2, 3, 4, 5, 6, 7, 1, 0] rfl)

abbrev rm_X7_tryViews_2 : Room := { frames := 15, cells := 0, slots := 0, locals := 512 }
abbrev po_X7_tryViews_2 (g : GG) (ad : Nat → Nat) (th : Nat → Int) (L : List Nat) (f : HP) (z2 : Int32) (z3 : Int64) (z4 : Int32) (z5 : Int32) : (List Nat × HP) → Prop := fun u => u.1 = L ∧ TI g ad th u.2 ∧ (∀ b, b ≠ (ad 18) → b ≠ (ad 21) → b ≠ (ad 22) → b ≠ (ad 23) → u.2 b = f b)
set_option maxHeartbeats 4000000 in
set_option maxRecDepth 100000 in
theorem s_X7_tryViews_2 (l : Launch) (g : GG) (ad : Nat → Nat) (th : Nat → Int) (L : List Nat) (f : HP) (sz : Nat) (z2 : Int32) (z3 : Int64) (z4 : Int32) (z5 : Int32) (hst : ST ad L) (hT : TI g ad th f) (hz2 : In z2 0 511) : MtV l g yX7_tryViews cX7_tryViews 20 rm_X7_tryViews_2 [.ref (ad 18), .int 2, .int z2, .long z3, .int z4, .int z5] L f sz (po_X7_tryViews_2 g ad th L f z2 z3 z4 z5) := by
  refine MtV.of (by decide +kernel) (Nat.le_of_ble_eq_true rfl) ?_
  intro p e s m below meth c A hEn hP hD hS ls hl
  obtain ⟨hx, hb, hr, hml, hown, hlocks, hts, hG, hA, hE, hnm⟩ := hEn
  have hown : s.vm.findClass "RulerWord$Search" = some m.cls := hown
  have hl : lv_has ls 20 [(0, .ref (ad 18)), (1, .int 2), (2, .int z2), (3, .long z3), (5, .int z4), (6, .int z5)] := hl
  have hfr : (∀ b, b ≠ (ad 18) → b ≠ (ad 21) → b ≠ (ad 22) → b ≠ (ad 23) → f b = f b) := fun b z0_ z1_ z2_ z3_ => rfl
  refine lv_iload_n hx hb dX7_tryViews_0 rfl (lv_at hl 1 rfl) ?_
  refine lv_iconst (v := 2) hx hb dX7_tryViews_1 (by decide) ?_
  refine lv_imul hx hb dX7_tryViews_2 ?_
  refine lv_topi (fun x1 ex1 => ?_)
  obtain rfl : x1 = 4 := ex1.trans (by decide)
  refine lv_iconst (v := 1) hx hb dX7_tryViews_3 (by decide) ?_
  refine lv_iadd hx hb dX7_tryViews_4 ?_
  refine lv_topi (fun x2 ex2 => ?_)
  obtain rfl : x2 = 5 := ex2.trans (by decide)
  refine lv_bipush (v := 9) hx hb dX7_tryViews_5 (by decide) ?_
  refine lv_imul hx hb dX7_tryViews_7 ?_
  refine lv_topi (fun x3 ex3 => ?_)
  obtain rfl : x3 = 45 := ex3.trans (by decide)
  refine lv_istore (lv' := [(7, .int 45), (0, .ref (ad 18)), (1, .int 2), (2, .int z2), (3, .long z3), (5, .int z4), (6, .int z5)]) hx hb dX7_tryViews_8 hl (by decide) rfl (fun ls hl => ?_)
  refine lv_iload hx hb dX7_tryViews_10 (lv_at hl 5 rfl) ?_
  refine lv_sipush (v := 511) hx hb dX7_tryViews_12 (by decide) ?_
  refine lv_iand hx hb dX7_tryViews_15 ?_
  refine lv_topi (fun x4 ex4 => ?_)
  have hb5 : In x4 0 511 := ex4 ▸ In.andr (⟨by decide, by decide⟩ : In 511 511 511) (by decide)
  refine call_i (run_S (rm := rm_J6_bitCount_0f7a4) hx hb hml hown hts (s_J6_bitCount_0f7a4 l g ad th _ _ _ x4 hst hT ) cS_J6_bitCount_0f7a4 wg_1042 ⟨Nat.le_of_ble_eq_true rfl, Nat.le_of_ble_eq_true rfl⟩ hG hE hA hP hD hS rfl hl.1 (As := [.int x4]) (rest := []) rfl (Nat.le_of_ble_eq_true rfl) dX7_tryViews_16 ⟨Nat.le_of_ble_eq_true rfl, Nat.le_of_ble_eq_true rfl⟩) hA hD hS (fun r6 L7 f8 H locs hp9 hP hD hS => ?_)
  obtain ⟨eL10L, eL10T, eL10R, eL10X0⟩ := hp9
  have eL10L : L7 = L := eL10L
  have eL10T : f8 = f := eL10T
  rw [eL10L, eL10T] at hP hD
  have eL10R : In r6 0 63 := eL10R
  have hb11 : In r6 0 9 := bc9 hb5 eL10X0
  refine lv_istore (lv' := [(8, .int r6), (7, .int 45), (0, .ref (ad 18)), (1, .int 2), (2, .int z2), (3, .long z3), (5, .int z4), (6, .int z5)]) hx hb dX7_tryViews_19 hl (by decide) rfl (fun ls hl => ?_)
  refine lv_iload hx hb dX7_tryViews_21 (lv_at hl 6 rfl) ?_
  refine lv_bipush (v := 9) hx hb dX7_tryViews_23 (by decide) ?_
  refine lv_iushr hx hb dX7_tryViews_25 rfl ?_
  refine lv_topi (fun x12 ex12 => ?_)
  refine call_i (run_S (rm := rm_J6_bitCount_0f7a4) hx hb hml hown hts (s_J6_bitCount_0f7a4 l g ad th _ _ _ x12 hst hT ) cS_J6_bitCount_0f7a4 wg_1042 ⟨Nat.le_of_ble_eq_true rfl, Nat.le_of_ble_eq_true rfl⟩ hG hE hA hP hD hS rfl hl.1 (As := [.int x12]) (rest := []) rfl (Nat.le_of_ble_eq_true rfl) dX7_tryViews_26 ⟨Nat.le_of_ble_eq_true rfl, Nat.le_of_ble_eq_true rfl⟩) hA hD hS (fun r13 L14 f15 H locs hp16 hP hD hS => ?_)
  obtain ⟨eL17L, eL17T, eL17R, eL17X0⟩ := hp16
  have eL17L : L14 = L := eL17L
  have eL17T : f15 = f := eL17T
  rw [eL17L, eL17T] at hP hD
  have eL17R : In r13 0 63 := eL17R
  refine lv_istore (lv' := [(9, .int r13), (8, .int r6), (7, .int 45), (0, .ref (ad 18)), (1, .int 2), (2, .int z2), (3, .long z3), (5, .int z4), (6, .int z5)]) hx hb dX7_tryViews_29 hl (by decide) rfl (fun ls hl => ?_)
  refine lv_iconst (v := 0) hx hb dX7_tryViews_31 (by decide) ?_
  refine lv_istore (lv' := [(10, .int 0), (9, .int r13), (8, .int r6), (7, .int 45), (0, .ref (ad 18)), (1, .int 2), (2, .int z2), (3, .long z3), (5, .int z4), (6, .int z5)]) hx hb dX7_tryViews_32 hl (by decide) rfl (fun ls hl => ?_)
  refine lv_iconst (v := 0) hx hb dX7_tryViews_34 (by decide) ?_
  refine lv_istore (lv' := [(11, .int 0), (10, .int 0), (9, .int r13), (8, .int r6), (7, .int 45), (0, .ref (ad 18)), (1, .int 2), (2, .int z2), (3, .long z3), (5, .int z4), (6, .int z5)]) hx hb dX7_tryViews_35 hl (by decide) rfl (fun ls hl => ?_)
  have hJ37 : ∀ (k37 : Nat) (y37_l10 : Int32) (y37_l11 : Int32) (f_37 : HP) (H : Heap) (locs : List Loc) (ls : Array Slot), In y37_l10 0 9 → In y37_l11 0 9 → va_P g.1 vwCl (va_pl L f_37) H → va_D A (va_pl L f_37) → va_S A s.heap H locs → TI g ad th f_37 → (∀ b, b ≠ (ad 18) → b ≠ (ad 21) → b ≠ (ad 22) → b ≠ (ad 23) → f_37 b = f b) → (y37_l10.toInt ≤ y37_l11.toInt ∧ (y37_l11.toInt = 0 ∨ 1 ≤ y37_l10.toInt)) → lv_has ls 20 [(0, .ref (ad 18)), (1, .int 2), (2, .int z2), (3, .long z3), (5, .int z4), (6, .int z5), (7, .int 45), (8, .int r6), (9, .int r13), (10, .int y37_l10), (11, .int y37_l11)] → 9 - y37_l11.toInt < ((k37 : Nat) : Int) → W p l e rm_X7_tryViews_2 s m [.ref (ad 18), .int 2, .int z2, .long z3, .int z4, .int z5].toArray below meth c H locs 0 0 (MQ below (va_Qv (po_X7_tryViews_2 g ad th L f z2 z3 z4 z5) (PstB g A) A) [.ref (ad 18), .int 2, .int z2, .long z3, .int z4, .int z5].toArray s rm_X7_tryViews_2.cells rm_X7_tryViews_2.slots A) (F0 m 37 ls []) := by
    intro k37
    induction k37 with
    | zero =>
      intro y37_l10 y37_l11 f_37 H locs ls hy37_l10 hy37_l11 hP hD hS hT hfr hinv37_0 hl hmz37
      exact ms0 hy37_l11 hmz37
    | succ k37 ih37 =>
      intro y37_l10 y37_l11 f_37 H locs ls hy37_l10 hy37_l11 hP hD hS hT hfr hinv37_0 hl hmz37
      refine lv_iload hx hb dX7_tryViews_37 (lv_at hl 10 rfl) ?_
      refine lv_aload_n hx hb dX7_tryViews_39 rfl (lv_at hl 0 rfl) ?_
      obtain ⟨v6_18, v7_18, v8_18, v9_18, v10_18, v11_18, v12_18, v13_18, hf19, hv8_18, hv9_18, hv10_18, hv11_18, hv13_18⟩ := hT.1 18 (by decide)
      refine pl_get (v := .int v11_18) hx hb hts (fun w h => mT (inX7 w h)) hown hG.1 hP (hst.1 18 (by decide)) hf19 rfl 11 (by decide) (hts _ (mT wg_443)) (fun _ h => h) rfl dX7_tryViews_40 ?_
      refine lv_icmp_gt (tgt := 90) hx hb dX7_tryViews_43 (by decide) (fun c20 => ?_) (fun c20 => ?_)
      ·
        have cc21 : v11_18.toInt < y37_l11.toInt := i32_lt.mp c20
        have hb22 : In y37_l11 1 9 := In.gt1 hy37_l11 hv11_18 cc21 (by omega) (by omega)
        refine lv_aload_n hx hb dX7_tryViews_90 rfl (lv_at hl 0 rfl) ?_
        refine pl_get (v := .ref (ad 20)) hx hb hts (fun w h => mT (inX7 w h)) hown hG.1 hP (hst.1 18 (by decide)) hf19 rfl 2 (by decide) (hts _ (mT wg_434)) (fun _ h => h) rfl dX7_tryViews_91 ?_
        refine lv_iload_n hx hb dX7_tryViews_94 rfl (lv_at hl 1 rfl) ?_
        obtain ⟨rw23, hf24⟩ := hT.1 20 (by decide)
        have hin25 : vp_in 2 7 := In.inb (⟨by decide, by decide⟩ : In 2 2 2) (by decide) (by decide)
        refine pl_iald hx hb hG.1 hP (hst.1 20 (by decide)) 0 hf24 rfl hin25 dX7_tryViews_95 ?_
        refine lv_topi (fun x26 ex26 => ?_)
        refine lv_aload_n hx hb dX7_tryViews_96 rfl (lv_at hl 0 rfl) ?_
        refine pl_get (v := .ref (ad 8)) hx hb hts (fun w h => mT (inX7 w h)) hown hG.1 hP (hst.1 18 (by decide)) hf19 rfl 0 (by decide) (hts _ (mT wg_432)) (fun _ h => h) rfl dX7_tryViews_97 ?_
        obtain ⟨v0_27, v1_27, v2_27, v3_27, v4_27, v5_27, v6_27, v7_27, hf28, hv0_27, hv1_27, hv2_27, hv3_27, hv5_27, hv6_27⟩ := hT.1 8 (by decide)
        refine pl_getN (v := .int v0_27) hx hb hts (fun w h => mT (inX2 w h)) hown hG.1 hP (hst.1 8 (by decide)) hf28 rfl 0 (by decide) (hG.2.1 _ wn_225) (fun _ h => h) rfl dX7_tryViews_100 ?_
        have hJ119 : ∀ (y119_s0 : Int32) (H : Heap) (locs : List Loc) (ls : Array Slot), In y119_s0 0 81 → va_P g.1 vwCl (va_pl L f_37) H → va_D A (va_pl L f_37) → va_S A s.heap H locs → lv_has ls 20 [(0, .ref (ad 18)), (1, .int 2), (2, .int z2), (3, .long z3), (5, .int z4), (6, .int z5), (7, .int 45), (8, .int r6), (9, .int r13), (10, .int y37_l10), (11, .int y37_l11)] → W p l e rm_X7_tryViews_2 s m [.ref (ad 18), .int 2, .int z2, .long z3, .int z4, .int z5].toArray below meth c H locs 0 0 (MQ below (va_Qv (po_X7_tryViews_2 g ad th L f z2 z3 z4 z5) (PstB g A) A) [.ref (ad 18), .int 2, .int z2, .long z3, .int z4, .int z5].toArray s rm_X7_tryViews_2.cells rm_X7_tryViews_2.slots A) (F0 m 119 ls [.int y119_s0, .int x26]) := by
          intro y119_s0 H locs ls hy119_s0 hP hD hS hl
          refine lv_iadd hx hb dX7_tryViews_119 ?_
          refine lv_topi (fun x29 ex29 => ?_)
          refine lv_istore (lv' := [(11, .int x29), (0, .ref (ad 18)), (1, .int 2), (2, .int z2), (3, .long z3), (5, .int z4), (6, .int z5), (7, .int 45), (8, .int r6), (9, .int r13), (10, .int y37_l10)]) hx hb dX7_tryViews_120 hl (by decide) rfl (fun ls hl => ?_)
          refine lv_aload_n hx hb dX7_tryViews_122 rfl (lv_at hl 1 rfl) ?_
          refine lv_iload hx hb dX7_tryViews_123 (lv_at hl 10 rfl) ?_
          refine call_i (run_V (rm := rm_X7_power) hx hb hml hown hts (s_X7_power l g ad th _ _ _ y37_l10 hst hT ) cV_X7_power wg_1066 ⟨Nat.le_of_ble_eq_true rfl, Nat.le_of_ble_eq_true rfl⟩ hG hE hA hP hD hS (hst.1 18 (by decide)) hf19 rfl rfl hl.1 (As := [.int y37_l10]) (rest := []) rfl (Nat.le_of_ble_eq_true rfl) dX7_tryViews_125 ⟨Nat.le_of_ble_eq_true rfl, Nat.le_of_ble_eq_true rfl⟩) hA hD hS (fun r30 L31 f32 H locs hp33 hP hD hS => ?_)
          obtain ⟨eL34L, eL34T⟩ := hp33
          have eL34L : L31 = L := eL34L
          have eL34T : f32 = f_37 := eL34T
          rw [eL34L, eL34T] at hP hD
          refine lv_istore (lv' := [(12, .int r30), (11, .int x29), (0, .ref (ad 18)), (1, .int 2), (2, .int z2), (3, .long z3), (5, .int z4), (6, .int z5), (7, .int 45), (8, .int r6), (9, .int r13), (10, .int y37_l10)]) hx hb dX7_tryViews_128 hl (by decide) rfl (fun ls hl => ?_)
          refine lv_iconst (v := 0) hx hb dX7_tryViews_130 (by decide) ?_
          refine lv_istore (lv' := [(13, .int 0), (12, .int r30), (11, .int x29), (0, .ref (ad 18)), (1, .int 2), (2, .int z2), (3, .long z3), (5, .int z4), (6, .int z5), (7, .int 45), (8, .int r6), (9, .int r13), (10, .int y37_l10)]) hx hb dX7_tryViews_131 hl (by decide) rfl (fun ls hl => ?_)
          have hJ133 : ∀ (k133 : Nat) (y133_l13 : Int32) (f_133 : HP) (H : Heap) (locs : List Loc) (ls : Array Slot), In y133_l13 0 2147483647 → va_P g.1 vwCl (va_pl L f_133) H → va_D A (va_pl L f_133) → va_S A s.heap H locs → TI g ad th f_133 → (∀ b, b ≠ (ad 18) → b ≠ (ad 21) → b ≠ (ad 22) → b ≠ (ad 23) → f_133 b = f b) → f_133 (ad 20) = .inl (g.2.1 0, 7, .inl (rw23)) → f_133 (ad 8) = .inr (2, [.int v0_27, .int v1_27, .int v2_27, .int v3_27, .int v4_27, .int v5_27, .int v6_27, .int v7_27]) → lv_has ls 20 [(0, .ref (ad 18)), (1, .int 2), (2, .int z2), (3, .long z3), (5, .int z4), (6, .int z5), (7, .int 45), (8, .int r6), (9, .int r13), (10, .int y37_l10), (11, .int x29), (12, .int r30), (13, .int y133_l13)] → 2147483647 - y133_l13.toInt < ((k133 : Nat) : Int) → W p l e rm_X7_tryViews_2 s m [.ref (ad 18), .int 2, .int z2, .long z3, .int z4, .int z5].toArray below meth c H locs 0 0 (MQ below (va_Qv (po_X7_tryViews_2 g ad th L f z2 z3 z4 z5) (PstB g A) A) [.ref (ad 18), .int 2, .int z2, .long z3, .int z4, .int z5].toArray s rm_X7_tryViews_2.cells rm_X7_tryViews_2.slots A) (F0 m 133 ls []) := by
            intro k133
            induction k133 with
            | zero =>
              intro y133_l13 f_133 H locs ls hy133_l13 hP hD hS hT hfr hf35 hf36 hl hmz133
              exact ms0 hy133_l13 hmz133
            | succ k133 ih133 =>
              intro y133_l13 f_133 H locs ls hy133_l13 hP hD hS hT hfr hf35 hf36 hl hmz133
              refine lv_iload hx hb dX7_tryViews_133 (lv_at hl 12 rfl) ?_
              refine lv_iload hx hb dX7_tryViews_135 (lv_at hl 11 rfl) ?_
              refine lv_icmp_ge (tgt := 280) hx hb dX7_tryViews_137 (by decide) (fun c37 => ?_) (fun c37 => ?_)
              ·
                have cc38 : r30.toInt ≤ y133_l13.toInt := i32_le.mp c37
                exact ret_v hx hb hr hlocks hP hD hS (Nat.le_of_ble_eq_true rfl) (Nat.le_of_ble_eq_true rfl) (⟨rfl, hT, hfr⟩) dX7_tryViews_280
              ·
                have cc39 : y133_l13.toInt < r30.toInt := i32_nle c37
                have hb40 : In y133_l13 0 2147483646 := In.lt1 hy133_l13 (In.full r30) cc39 (by omega) (by omega)
                have hb41 : In r30 1 2147483647 := In.lt2 hy133_l13 (In.full r30) cc39 (by omega) (by omega)
                refine lv_aload_n hx hb dX7_tryViews_140 rfl (lv_at hl 0 rfl) ?_
                obtain ⟨v6_42, v7_42, v8_42, v9_42, v10_42, v11_42, v12_42, v13_42, hf43, hv8_42, hv9_42, hv10_42, hv11_42, hv13_42⟩ := hT.1 18 (by decide)
                refine call_i (run_V (rm := rm_X7_isEnough) hx hb hml hown hts (s_X7_isEnough l g ad th _ _ _  hst hT ) cV_X7_isEnough wg_1070 ⟨Nat.le_of_ble_eq_true rfl, Nat.le_of_ble_eq_true rfl⟩ hG hE hA hP hD hS (hst.1 18 (by decide)) hf43 rfl rfl hl.1 (As := []) (rest := []) rfl (Nat.le_of_ble_eq_true rfl) dX7_tryViews_141 ⟨Nat.le_of_ble_eq_true rfl, Nat.le_of_ble_eq_true rfl⟩) hA hD hS (fun r44 L45 f46 H locs hp47 hP hD hS => ?_)
                obtain ⟨eL48L, eL48T, eL48R⟩ := hp47
                have eL48L : L45 = L := eL48L
                have eL48T : f46 = f_133 := eL48T
                rw [eL48L, eL48T] at hP hD
                have eL48R : In r44 0 1 := eL48R
                refine lv_if_ne (tgt := 280) hx hb dX7_tryViews_144 (by decide) (fun c49 => ?_) (fun c49 => ?_)
                ·
                  have oc0 : (0 : Int32).toInt = 0 := by decide
                  have cc50 : r44.toInt ≠ (0 : Int32).toInt := i32_ne c49
                  have hb51 : In r44 1 1 := In.ne1 eL48R (⟨by decide, by decide⟩ : In 0 0 0) cc50 (by omega) (by omega)
                  exact ret_v hx hb hr hlocks hP hD hS (Nat.le_of_ble_eq_true rfl) (Nat.le_of_ble_eq_true rfl) (⟨rfl, hT, hfr⟩) dX7_tryViews_280
                ·
                  have oc0 : (0 : Int32).toInt = 0 := by decide
                  have cc52 : r44.toInt = (0 : Int32).toInt := congrArg Int32.toInt c49
                  have hb53 : In r44 0 0 := In.eq1 eL48R (⟨by decide, by decide⟩ : In 0 0 0) cc52 (by omega) (by omega)
                  refine lv_iload_n hx hb dX7_tryViews_147 rfl (lv_at hl 2 rfl) ?_
                  refine lv_istore (lv' := [(14, .int z2), (0, .ref (ad 18)), (1, .int 2), (2, .int z2), (3, .long z3), (5, .int z4), (6, .int z5), (7, .int 45), (8, .int r6), (9, .int r13), (10, .int y37_l10), (11, .int x29), (12, .int r30), (13, .int y133_l13)]) hx hb dX7_tryViews_148 hl (by decide) rfl (fun ls hl => ?_)
                  refine lv_iconst (v := 0) hx hb dX7_tryViews_150 (by decide) ?_
                  refine lv_istore (lv' := [(15, .int 0), (14, .int z2), (0, .ref (ad 18)), (1, .int 2), (2, .int z2), (3, .long z3), (5, .int z4), (6, .int z5), (7, .int 45), (8, .int r6), (9, .int r13), (10, .int y37_l10), (11, .int x29), (12, .int r30), (13, .int y133_l13)]) hx hb dX7_tryViews_151 hl (by decide) rfl (fun ls hl => ?_)
                  refine lv_iload hx hb dX7_tryViews_153 (lv_at hl 14 rfl) ?_
                  refine lv_istore (lv' := [(16, .int y133_l13), (15, .int 0), (14, .int z2), (0, .ref (ad 18)), (1, .int 2), (2, .int z2), (3, .long z3), (5, .int z4), (6, .int z5), (7, .int 45), (8, .int r6), (9, .int r13), (10, .int y37_l10), (11, .int x29), (12, .int r30), (13, .int y133_l13)]) hx hb dX7_tryViews_155 hl (by decide) rfl (fun ls hl => ?_)
                  refine lv_iload hx hb dX7_tryViews_157 (lv_at hl 8 rfl) ?_
                  refine lv_istore (lv' := [(17, .int z5), (16, .int y133_l13), (15, .int 0), (14, .int z2), (0, .ref (ad 18)), (1, .int 2), (2, .int z2), (3, .long z3), (5, .int z4), (6, .int z5), (7, .int 45), (8, .int r6), (9, .int r13), (10, .int y37_l10), (11, .int x29), (12, .int r30), (13, .int y133_l13)]) hx hb dX7_tryViews_159 hl (by decide) rfl (fun ls hl => ?_)
                  refine lv_iconst (v := 0) hx hb dX7_tryViews_161 (by decide) ?_
                  refine lv_istore (lv' := [(18, .int 0), (17, .int z5), (16, .int y133_l13), (15, .int 0), (14, .int z2), (0, .ref (ad 18)), (1, .int 2), (2, .int z2), (3, .long z3), (5, .int z4), (6, .int z5), (7, .int 45), (8, .int r6), (9, .int r13), (10, .int y37_l10), (11, .int x29), (12, .int r30), (13, .int y133_l13)]) hx hb dX7_tryViews_162 hl (by decide) rfl (fun ls hl => ?_)
                  have hJ164 : ∀ (k164 : Nat) (y164_l14 : Int32) (y164_l15 : Int32) (y164_l16 : Int32) (y164_l17 : Int32) (y164_l18 : Int32) (H : Heap) (locs : List Loc) (ls : Array Slot), In y164_l14 0 511 → In y164_l15 (-2147483648) 2147483647 → In y164_l16 0 2147483647 → In y164_l17 (-2147483648) 2147483647 → In y164_l18 0 9 → va_P g.1 vwCl (va_pl L f_133) H → va_D A (va_pl L f_133) → va_S A s.heap H locs → lv_has ls 20 [(0, .ref (ad 18)), (1, .int 2), (2, .int z2), (3, .long z3), (5, .int z4), (6, .int z5), (7, .int 45), (8, .int r6), (9, .int r13), (10, .int y37_l10), (11, .int x29), (12, .int r30), (13, .int y133_l13), (14, .int y164_l14), (15, .int y164_l15), (16, .int y164_l16), (17, .int y164_l17), (18, .int y164_l18)] → 9 - y164_l18.toInt < ((k164 : Nat) : Int) → W p l e rm_X7_tryViews_2 s m [.ref (ad 18), .int 2, .int z2, .long z3, .int z4, .int z5].toArray below meth c H locs 0 0 (MQ below (va_Qv (po_X7_tryViews_2 g ad th L f z2 z3 z4 z5) (PstB g A) A) [.ref (ad 18), .int 2, .int z2, .long z3, .int z4, .int z5].toArray s rm_X7_tryViews_2.cells rm_X7_tryViews_2.slots A) (F0 m 164 ls []) := by
                    intro k164
                    induction k164 with
                    | zero =>
                      intro y164_l14 y164_l15 y164_l16 y164_l17 y164_l18 H locs ls hy164_l14 hy164_l15 hy164_l16 hy164_l17 hy164_l18 hP hD hS hl hmz164
                      exact ms0 hy164_l18 hmz164
                    | succ k164 ih164 =>
                      intro y164_l14 y164_l15 y164_l16 y164_l17 y164_l18 H locs ls hy164_l14 hy164_l15 hy164_l16 hy164_l17 hy164_l18 hP hD hS hl hmz164
                      refine lv_iload hx hb dX7_tryViews_164 (lv_at hl 17 rfl) ?_
                      refine lv_aload_n hx hb dX7_tryViews_166 rfl (lv_at hl 0 rfl) ?_
                      refine pl_get (v := .int v10_42) hx hb hts (fun w h => mT (inX7 w h)) hown hG.1 hP (hst.1 18 (by decide)) hf43 rfl 10 (by decide) (hts _ (mT wg_442)) (fun _ h => h) rfl dX7_tryViews_167 ?_
                      refine lv_icmp_ge (tgt := 262) hx hb dX7_tryViews_170 (by decide) (fun c54 => ?_) (fun c54 => ?_)
                      ·
                        have cc55 : v10_42.toInt ≤ y164_l18.toInt := i32_le.mp c54
                        refine lv_aload_n hx hb dX7_tryViews_262 rfl (lv_at hl 0 rfl) ?_
                        refine lv_iload_n hx hb dX7_tryViews_263 rfl (lv_at hl 1 rfl) ?_
                        refine lv_iload hx hb dX7_tryViews_264 (lv_at hl 13 rfl) ?_
                        refine lv_iload hx hb dX7_tryViews_266 (lv_at hl 14 rfl) ?_
                        refine lv_lload_n hx hb dX7_tryViews_268 rfl (lv_at hl 3 rfl) ?_
                        refine lv_iload hx hb dX7_tryViews_269 (lv_at hl 16 rfl) ?_
                        refine call_v (run_V (rm := rm_X7_tryRuler_2) hx hb hml hown hts (s_X7_tryRuler_2 l g ad th _ _ _ y164_l14 y164_l15 z3 y164_l17 hst hT hy164_l14) cV_X7_tryRuler wg_1089 ⟨Nat.le_of_ble_eq_true rfl, Nat.le_of_ble_eq_true rfl⟩ hG hE hA hP hD hS (hst.1 18 (by decide)) hf43 rfl rfl hl.1 (As := [.int 2, .int y164_l14, .int y164_l15, .long z3, .int y164_l17]) (rest := []) rfl (Nat.le_of_ble_eq_true rfl) dX7_tryViews_271 ⟨Nat.le_of_ble_eq_true rfl, Nat.le_of_ble_eq_true rfl⟩) hA hD hS (fun L57 f58 H locs hp59 hP hD hS => ?_)
                        obtain ⟨eL60L, eL60T, eL60F⟩ := hp59
                        have eL60L : L57 = L := eL60L
                        rw [eL60L] at hP hD
                        have hT : TI g ad th f58 := eL60T
                        have eL60F : ∀ b, b ≠ (ad 18) → b ≠ (ad 21) → b ≠ (ad 22) → b ≠ (ad 23) → f58 b = f_133 b := eL60F
                        have hf61 := (eL60F (ad 20) (hst.ne (by decide) (by decide) (by decide)) (hst.ne (by decide) (by decide) (by decide)) (hst.ne (by decide) (by decide) (by decide)) (hst.ne (by decide) (by decide) (by decide))).trans hf35
                        have hf62 := (eL60F (ad 8) (hst.ne (by decide) (by decide) (by decide)) (hst.ne (by decide) (by decide) (by decide)) (hst.ne (by decide) (by decide) (by decide)) (hst.ne (by decide) (by decide) (by decide))).trans hf36
                        have hfr : (∀ b, b ≠ (ad 18) → b ≠ (ad 21) → b ≠ (ad 22) → b ≠ (ad 23) → f58 b = f b) := fun b z0_ z1_ z2_ z3_ => (eL60F b z0_ z1_ z2_ z3_).trans (hfr b z0_ z1_ z2_ z3_)
                        obtain ⟨x63, ex63⟩ : ∃ y : Int32, y = y133_l13 + 1 := ⟨_, rfl⟩
                        have hb64 : In x63 1 2147483647 := ex63 ▸ In.add hb40 (⟨by decide, by decide⟩ : In 1 1 1) (by decide) (by decide) (by decide) (by decide)
                        have et65 : x63.toInt = y133_l13.toInt + 1 := In.adde ex63 hb40 (k := 1) (by decide) (by decide) (by decide)
                        refine lv_iinc (v := x63) (lv' := [(13, .int x63), (0, .ref (ad 18)), (1, .int 2), (2, .int z2), (3, .long z3), (5, .int z4), (6, .int z5), (7, .int 45), (8, .int r6), (9, .int r13), (10, .int y37_l10), (11, .int x29), (12, .int r30), (14, .int y164_l14), (15, .int y164_l15), (16, .int y164_l16), (17, .int y164_l17), (18, .int y164_l18)]) hx hb dX7_tryViews_274 hl (k := 12) rfl (by rw [ex63]; rfl) (by decide) rfl (fun ls hl => ?_)
                        refine lv_goto (tgt := 133) hx hb dX7_tryViews_277 (by decide) ?_
                        exact ih133 x63 _ _ _ _ (In.mono hb64 (by decide) (by decide)) hP hD hS hT hfr hf61 hf62 (lv_sub hl [1, 2, 3, 4, 5, 6, 7, 8, 9, 10, 11, 12, 0] rfl) (msu et65 (by decide) hmz133)
                      ·
                        have cc66 : y164_l18.toInt < v10_42.toInt := i32_nle c54
                        have hb67 : In y164_l18 0 8 := In.lt1 hy164_l18 hv10_42 cc66 (by omega) (by omega)
                        have hb68 : In v10_42 1 9 := In.lt2 hy164_l18 hv10_42 cc66 (by omega) (by omega)
                        refine lv_iload hx hb dX7_tryViews_173 (lv_at hl 6 rfl) ?_
                        refine lv_iload hx hb dX7_tryViews_175 (lv_at hl 15 rfl) ?_
                        refine lv_iload hx hb dX7_tryViews_177 (lv_at hl 9 rfl) ?_
                        have hb69 : In y37_l10 1 9 := In.mk (by obtain ⟨o0a, o0b⟩ := (hy37_l10 : In _ _ _); obtain ⟨o1a, o1b⟩ := (hb22 : In _ _ _); obtain ⟨o2a, o2b⟩ := (hv11_18 : In _ _ _); omega) (by obtain ⟨o0a, o0b⟩ := (hy37_l10 : In _ _ _); obtain ⟨o1a, o1b⟩ := (hb22 : In _ _ _); obtain ⟨o2a, o2b⟩ := (hv11_18 : In _ _ _); omega)
                        refine lv_irem hx hb dX7_tryViews_179 (In.ne0 hb69 (by decide)) ?_
                        refine lv_topi (fun x70 ex70 => ?_)
                        have hb71 : In x70 0 8 := ex70 ▸ In.rem hy164_l16 hb69 (by decide) (by decide) (by decide)
                        refine lv_iadd hx hb dX7_tryViews_180 ?_
                        refine lv_topi (fun x72 ex72 => ?_)
                        have hb73 : In x72 45 53 := ex72 ▸ In.add (⟨by decide, by decide⟩ : In 45 45 45) hb71 (by decide) (by decide) (by decide) (by decide)
                        have et74 : x72.toInt = (45 : Int32).toInt + x70.toInt := In.add2e ex72 (⟨by decide, by decide⟩ : In 45 45 45) hb71 (by decide) (by decide)
                        refine lv_istore (lv' := [(19, .int x72), (0, .ref (ad 18)), (1, .int 2), (2, .int z2), (3, .long z3), (5, .int z4), (6, .int z5), (7, .int 45), (8, .int r6), (9, .int r13), (10, .int y37_l10), (11, .int x29), (12, .int r30), (13, .int y133_l13), (14, .int y164_l14), (15, .int y164_l15), (16, .int y164_l16), (17, .int y164_l17), (18, .int y164_l18)]) hx hb dX7_tryViews_181 hl (by decide) rfl (fun ls hl => ?_)
                        refine lv_iload hx hb dX7_tryViews_183 (lv_at hl 16 rfl) ?_
                        refine lv_iload hx hb dX7_tryViews_185 (lv_at hl 10 rfl) ?_
                        refine lv_idiv hx hb dX7_tryViews_187 (In.ne0 hb69 (by decide)) ?_
                        refine lv_topi (fun x75 ex75 => ?_)
                        have hb76 : In x75 0 2147483647 := ex75 ▸ In.div hy164_l16 hb69 (by decide) (by decide) (by decide) (by decide)
                        refine lv_istore (lv' := [(16, .int x75), (19, .int x72), (0, .ref (ad 18)), (1, .int 2), (2, .int z2), (3, .long z3), (5, .int z4), (6, .int z5), (7, .int 45), (8, .int r6), (9, .int r13), (10, .int y37_l10), (11, .int x29), (12, .int r30), (13, .int y133_l13), (14, .int y164_l14), (15, .int y164_l15), (17, .int y164_l17), (18, .int y164_l18)]) hx hb dX7_tryViews_188 hl (by decide) rfl (fun ls hl => ?_)
                        refine lv_iload hx hb dX7_tryViews_190 (lv_at hl 15 rfl) ?_
                        refine lv_iconst (v := 1) hx hb dX7_tryViews_192 (by decide) ?_
                        refine lv_aload_n hx hb dX7_tryViews_193 rfl (lv_at hl 2 rfl) ?_
                        refine pl_get (v := .ref (ad 19)) hx hb hts (fun w h => mT (inX7 w h)) hown hG.1 hP (hst.1 18 (by decide)) hf43 rfl 1 (by decide) (hts _ (mT wg_433)) (fun _ h => h) rfl dX7_tryViews_194 ?_
                        refine lv_iload hx hb dX7_tryViews_197 (lv_at hl 18 rfl) ?_
                        obtain ⟨rw77, hf78, hc79⟩ := hT.1 19 (by decide)
                        have hin80 : vp_in y164_l18 9 := In.inb hb67 (by decide) (by decide)
                        refine pl_iald hx hb hG.1 hP (hst.1 19 (by decide)) 0 hf78 rfl hin80 dX7_tryViews_199 ?_
                        refine lv_topi (fun x81 ex81 => ?_)
                        have hb82 : In x81 0 8 := by rw [ex81]; exact hc79 _ (vp_nat hin80)
                        refine lv_ishl hx hb dX7_tryViews_200 ?_
                        refine lv_topi (fun x83 ex83 => ?_)
                        have hb84 : In x83 1 256 := ex83 ▸ In.shl (⟨by decide, by decide⟩ : In 1 1 1) hb82 (by decide) (by decide) (by decide) (by decide) (by decide) (by decide)
                        refine lv_aload_n hx hb dX7_tryViews_201 rfl (lv_at hl 2 rfl) ?_
                        refine pl_get (v := .ref (ad 21)) hx hb hts (fun w h => mT (inX7 w h)) hown hG.1 hP (hst.1 18 (by decide)) hf43 rfl 3 (by decide) (hts _ (mT wg_435)) (fun _ h => h) rfl dX7_tryViews_202 ?_
                        refine lv_iload hx hb dX7_tryViews_205 (lv_at hl 1 rfl) ?_
                        obtain ⟨rw85, hf86⟩ := hT.1 21 (by decide)
                        have hin87 : vp_in x72 108 := In.inb hb73 (by decide) (by decide)
                        refine pl_iald hx hb hG.1 hP (hst.1 21 (by decide)) 0 hf86 rfl hin87 dX7_tryViews_207 ?_
                        refine lv_topi (fun x88 ex88 => ?_)
                        refine call_i (run_S (rm := rm_X7_seen) hx hb hml hown hts (s_X7_seen l g ad th _ _ _ y164_l14 x83 x88 hst hT hy164_l14 (In.mono hb84 (by decide) (by decide))) cS_X7_seen wg_1086 ⟨Nat.le_of_ble_eq_true rfl, Nat.le_of_ble_eq_true rfl⟩ hG hE hA hP hD hS rfl hl.1 (As := [.int y164_l14, .int x83, .int x88]) (rest := []) rfl (Nat.le_of_ble_eq_true rfl) dX7_tryViews_208 ⟨Nat.le_of_ble_eq_true rfl, Nat.le_of_ble_eq_true rfl⟩) hA hD hS (fun r89 L90 f91 H locs hp92 hP hD hS => ?_)
                        obtain ⟨eL93L, eL93T, eL93R⟩ := hp92
                        have eL93L : L90 = L := eL93L
                        have eL93T : f91 = f_133 := eL93T
                        rw [eL93L, eL93T] at hP hD
                        have eL93R : In r89 0 511 := eL93R
                        refine lv_istore (lv' := [(14, .int r89), (16, .int x75), (19, .int x72), (0, .ref (ad 18)), (1, .int 2), (2, .int z2), (3, .long z3), (5, .int z4), (6, .int z5), (7, .int 45), (8, .int r6), (9, .int r13), (10, .int y37_l10), (11, .int x29), (12, .int r30), (13, .int y133_l13), (15, .int y164_l15), (17, .int y164_l17), (18, .int y164_l18)]) hx hb dX7_tryViews_211 hl (by decide) rfl (fun ls hl => ?_)
                        refine lv_iload hx hb dX7_tryViews_213 (lv_at hl 16 rfl) ?_
                        refine lv_aload_n hx hb dX7_tryViews_215 rfl (lv_at hl 3 rfl) ?_
                        refine pl_get (v := .ref (ad 21)) hx hb hts (fun w h => mT (inX7 w h)) hown hG.1 hP (hst.1 18 (by decide)) hf43 rfl 3 (by decide) (hts _ (mT wg_435)) (fun _ h => h) rfl dX7_tryViews_216 ?_
                        refine lv_iload hx hb dX7_tryViews_219 (lv_at hl 2 rfl) ?_
                        have hin94 : vp_in x72 108 := In.inb hb73 (by decide) (by decide)
                        refine pl_iald hx hb hG.1 hP (hst.1 21 (by decide)) 0 hf86 rfl hin94 dX7_tryViews_221 ?_
                        refine lv_topi (fun x95 ex95 => ?_)
                        obtain rfl : x88 = x95 := ex88.trans ex95.symm
                        refine lv_iconst (v := 4) hx hb dX7_tryViews_222 (by decide) ?_
                        refine lv_idiv hx hb dX7_tryViews_223 (In.ne0 (⟨by decide, by decide⟩ : In 4 4 4) (by decide)) ?_
                        refine lv_topi (fun x96 ex96 => ?_)
                        refine lv_aload_n hx hb dX7_tryViews_224 rfl (lv_at hl 3 rfl) ?_
                        refine pl_get (v := .ref (ad 19)) hx hb hts (fun w h => mT (inX7 w h)) hown hG.1 hP (hst.1 18 (by decide)) hf43 rfl 1 (by decide) (hts _ (mT wg_433)) (fun _ h => h) rfl dX7_tryViews_225 ?_
                        refine lv_iload hx hb dX7_tryViews_228 (lv_at hl 18 rfl) ?_
                        have hin97 : vp_in y164_l18 9 := In.inb hb67 (by decide) (by decide)
                        refine pl_iald hx hb hG.1 hP (hst.1 19 (by decide)) 0 hf78 rfl hin97 dX7_tryViews_230 ?_
                        refine lv_topi (fun x98 ex98 => ?_)
                        obtain rfl : x81 = x98 := ex81.trans ex98.symm
                        refine lv_ishl hx hb dX7_tryViews_231 ?_
                        refine lv_topi (fun x99 ex99 => ?_)
                        refine lv_ior hx hb dX7_tryViews_232 ?_
                        refine lv_topi (fun x100 ex100 => ?_)
                        refine lv_istore (lv' := [(15, .int x100), (14, .int r89), (16, .int x75), (19, .int x72), (0, .ref (ad 18)), (1, .int 2), (2, .int z2), (3, .long z3), (5, .int z4), (6, .int z5), (7, .int 45), (8, .int r6), (9, .int r13), (10, .int y37_l10), (11, .int x29), (12, .int r30), (13, .int y133_l13), (17, .int y164_l17), (18, .int y164_l18)]) hx hb dX7_tryViews_233 hl (by decide) rfl (fun ls hl => ?_)
                        refine lv_iload hx hb dX7_tryViews_235 (lv_at hl 17 rfl) ?_
                        refine lv_aload_n hx hb dX7_tryViews_237 rfl (lv_at hl 4 rfl) ?_
                        refine lv_aload_n hx hb dX7_tryViews_238 rfl (lv_at hl 4 rfl) ?_
                        refine pl_get (v := .ref (ad 22)) hx hb hts (fun w h => mT (inX7 w h)) hown hG.1 hP (hst.1 18 (by decide)) hf43 rfl 4 (by decide) (hts _ (mT wg_436)) (fun _ h => h) rfl dX7_tryViews_239 ?_
                        refine lv_iload hx hb dX7_tryViews_242 (lv_at hl 3 rfl) ?_
                        obtain ⟨rw101, hf102⟩ := hT.1 22 (by decide)
                        have hin103 : vp_in x72 108 := In.inb hb73 (by decide) (by decide)
                        refine pl_iald hx hb hG.1 hP (hst.1 22 (by decide)) 0 hf102 rfl hin103 dX7_tryViews_244 ?_
                        refine lv_topi (fun x104 ex104 => ?_)
                        refine lv_iload hx hb dX7_tryViews_245 (lv_at hl 14 rfl) ?_
                        refine lv_iload hx hb dX7_tryViews_247 (lv_at hl 18 rfl) ?_
                        refine lv_iadd hx hb dX7_tryViews_249 ?_
                        refine lv_topi (fun x105 ex105 => ?_)
                        refine call_i (run_V (rm := rm_X7_bitsOf) hx hb hml hown hts (s_X7_bitsOf l g ad th _ _ _ x104 x105 hst hT ) cV_X7_bitsOf wg_1077 ⟨Nat.le_of_ble_eq_true rfl, Nat.le_of_ble_eq_true rfl⟩ hG hE hA hP hD hS (hst.1 18 (by decide)) hf43 rfl rfl hl.1 (As := [.int x104, .int x105]) (rest := [.int y164_l17]) rfl (Nat.le_of_ble_eq_true rfl) dX7_tryViews_250 ⟨Nat.le_of_ble_eq_true rfl, Nat.le_of_ble_eq_true rfl⟩) hA hD hS (fun r106 L107 f108 H locs hp109 hP hD hS => ?_)
                        obtain ⟨eL110L, eL110T⟩ := hp109
                        have eL110L : L107 = L := eL110L
                        have eL110T : f108 = f_133 := eL110T
                        rw [eL110L, eL110T] at hP hD
                        refine lv_ior hx hb dX7_tryViews_253 ?_
                        refine lv_topi (fun x111 ex111 => ?_)
                        refine lv_istore (lv' := [(17, .int x111), (15, .int x100), (14, .int r89), (16, .int x75), (19, .int x72), (0, .ref (ad 18)), (1, .int 2), (2, .int z2), (3, .long z3), (5, .int z4), (6, .int z5), (7, .int 45), (8, .int r6), (9, .int r13), (10, .int y37_l10), (11, .int x29), (12, .int r30), (13, .int y133_l13), (18, .int y164_l18)]) hx hb dX7_tryViews_254 hl (by decide) rfl (fun ls hl => ?_)
                        obtain ⟨x112, ex112⟩ : ∃ y : Int32, y = y164_l18 + 1 := ⟨_, rfl⟩
                        have hb113 : In x112 1 9 := ex112 ▸ In.add hb67 (⟨by decide, by decide⟩ : In 1 1 1) (by decide) (by decide) (by decide) (by decide)
                        have et114 : x112.toInt = y164_l18.toInt + 1 := In.adde ex112 hb67 (k := 1) (by decide) (by decide) (by decide)
                        refine lv_iinc (v := x112) (lv' := [(18, .int x112), (17, .int x111), (15, .int x100), (14, .int r89), (16, .int x75), (19, .int x72), (0, .ref (ad 18)), (1, .int 2), (2, .int z2), (3, .long z3), (5, .int z4), (6, .int z5), (7, .int 45), (8, .int r6), (9, .int r13), (10, .int y37_l10), (11, .int x29), (12, .int r30), (13, .int y133_l13)]) hx hb dX7_tryViews_256 hl (k := 18) rfl (by rw [ex112]; rfl) (by decide) rfl (fun ls hl => ?_)
                        refine lv_goto (tgt := 164) hx hb dX7_tryViews_259 (by decide) ?_
                        exact ih164 r89 x100 x75 x111 x112 _ _ _ eL93R (In.full x100) hb76 (In.full x111) (In.mono hb113 (by decide) (by decide)) hP hD hS (lv_sub hl [6, 7, 8, 9, 10, 11, 12, 13, 14, 15, 16, 17, 18, 3, 2, 4, 1, 0] rfl) (msu et114 (by decide) hmz164)
                  exact hJ164 ((9 - (0 : Int32).toInt).toNat + 1) z2 0 y133_l13 z5 0 _ _ _ hz2 (⟨by decide, by decide⟩ : In 0 (-2147483648) 2147483647) (In.mono hb40 (by decide) (by decide)) (In.full z5) (⟨by decide, by decide⟩ : In 0 0 9) hP hD hS (lv_sub hl [5, 6, 7, 8, 9, 10, 11, 12, 13, 14, 15, 16, 17, 4, 3, 2, 1, 0] rfl) (msI _)
          exact hJ133 ((2147483647 - (0 : Int32).toInt).toNat + 1) 0 _ _ _ _ (⟨by decide, by decide⟩ : In 0 0 2147483647) hP hD hS hT hfr hf24 hf28 (lv_sub hl [3, 4, 5, 6, 7, 8, 9, 10, 11, 12, 2, 1, 0] rfl) (msI _)
        refine lv_if_ne (tgt := 118) hx hb dX7_tryViews_103 (by decide) (fun c115 => ?_) (fun c115 => ?_)
        ·
          have oc0 : (0 : Int32).toInt = 0 := by decide
          have cc116 : v0_27.toInt ≠ (0 : Int32).toInt := i32_ne c115
          have hb117 : In v0_27 1 1 := In.ne1 hv0_27 (⟨by decide, by decide⟩ : In 0 0 0) cc116 (by omega) (by omega)
          refine lv_iconst (v := 0) hx hb dX7_tryViews_118 (by decide) ?_
          exact hJ119 0 _ _ _ (⟨by decide, by decide⟩ : In 0 0 81) hP hD hS (lv_sub hl [0, 1, 2, 3, 4, 5, 6, 7, 8, 9, 10] rfl)
        ·
          have oc0 : (0 : Int32).toInt = 0 := by decide
          have cc118 : v0_27.toInt = (0 : Int32).toInt := congrArg Int32.toInt c115
          have hb119 : In v0_27 0 0 := In.eq1 hv0_27 (⟨by decide, by decide⟩ : In 0 0 0) cc118 (by omega) (by omega)
          refine lv_aload_n hx hb dX7_tryViews_106 rfl (lv_at hl 0 rfl) ?_
          refine pl_get (v := .int v11_18) hx hb hts (fun w h => mT (inX7 w h)) hown hG.1 hP (hst.1 18 (by decide)) hf19 rfl 11 (by decide) (hts _ (mT wg_443)) (fun _ h => h) rfl dX7_tryViews_107 ?_
          refine lv_aload_n hx hb dX7_tryViews_110 rfl (lv_at hl 0 rfl) ?_
          refine pl_get (v := .int v10_18) hx hb hts (fun w h => mT (inX7 w h)) hown hG.1 hP (hst.1 18 (by decide)) hf19 rfl 10 (by decide) (hts _ (mT wg_442)) (fun _ h => h) rfl dX7_tryViews_111 ?_
          refine lv_imul hx hb dX7_tryViews_114 ?_
          refine lv_topi (fun x120 ex120 => ?_)
          have hb121 : In x120 0 72 := ex120 ▸ In.mul hv11_18 hv10_18 (by decide) (by decide) (by decide) (by decide) (by decide)
          refine lv_goto (tgt := 119) hx hb dX7_tryViews_115 (by decide) ?_
          exact hJ119 x120 _ _ _ (In.mono hb121 (by decide) (by decide)) hP hD hS (lv_sub hl [0, 1, 2, 3, 4, 5, 6, 7, 8, 9, 10] rfl)
      ·
        have cc122 : y37_l11.toInt ≤ v11_18.toInt := i32_nlt c20
        have hb123 : In y37_l11 0 8 := In.le1 hy37_l11 hv11_18 cc122 (by omega) (by omega)
        refine lv_aload_n hx hb dX7_tryViews_46 rfl (lv_at hl 0 rfl) ?_
        refine pl_get (v := .ref (ad 8)) hx hb hts (fun w h => mT (inX7 w h)) hown hG.1 hP (hst.1 18 (by decide)) hf19 rfl 0 (by decide) (hts _ (mT wg_432)) (fun _ h => h) rfl dX7_tryViews_47 ?_
        refine lv_iload hx hb dX7_tryViews_50 (lv_at hl 7 rfl) ?_
        refine lv_aload_n hx hb dX7_tryViews_52 rfl (lv_at hl 0 rfl) ?_
        refine pl_get (v := .int v11_18) hx hb hts (fun w h => mT (inX7 w h)) hown hG.1 hP (hst.1 18 (by decide)) hf19 rfl 11 (by decide) (hts _ (mT wg_443)) (fun _ h => h) rfl dX7_tryViews_53 ?_
        refine lv_iadd hx hb dX7_tryViews_56 ?_
        refine lv_topi (fun x124 ex124 => ?_)
        have hb125 : In x124 0 17 := ex124 ▸ In.add hb11 hv11_18 (by decide) (by decide) (by decide) (by decide)
        have et126 : x124.toInt = r6.toInt + v11_18.toInt := In.add2e ex124 hb11 hv11_18 (by decide) (by decide)
        refine lv_iload hx hb dX7_tryViews_57 (lv_at hl 10 rfl) ?_
        refine lv_isub hx hb dX7_tryViews_59 ?_
        refine lv_topi (fun x127 ex127 => ?_)
        have hb128 : In x127 (-8) 17 := ex127 ▸ In.sub hb125 hb123 (by decide) (by decide) (by decide) (by decide)
        have et129 : x127.toInt = x124.toInt - y37_l11.toInt := In.sub2e ex127 hb125 hb123 (by decide) (by decide)
        refine lv_iload hx hb dX7_tryViews_60 (lv_at hl 8 rfl) ?_
        refine lv_iload hx hb dX7_tryViews_62 (lv_at hl 10 rfl) ?_
        refine lv_iadd hx hb dX7_tryViews_64 ?_
        refine lv_topi (fun x130 ex130 => ?_)
        have hb131 : In x130 0 71 := ex130 ▸ In.add eL17R hb123 (by decide) (by decide) (by decide) (by decide)
        have et132 : x130.toInt = r13.toInt + y37_l11.toInt := In.add2e ex130 eL17R hb123 (by decide) (by decide)
        obtain ⟨v0_133, v1_133, v2_133, v3_133, v4_133, v5_133, v6_133, v7_133, hf134, hv0_133, hv1_133, hv2_133, hv3_133, hv5_133, hv6_133⟩ := hT.1 8 (by decide)
        refine call_i (run_VN (rm := rm_X2_view_ru) hx hb hml hown hts (s_X2_view_ru l g ad th _ _ _ x127 x130 hst hT ) cV_X2_view wn_1085 ⟨Nat.le_of_ble_eq_true rfl, Nat.le_of_ble_eq_true rfl⟩ hG hE hA hP hD hS (hst.1 8 (by decide)) hf134 rfl rfl hl.1 (As := [.int x127, .int x130]) (rest := []) rfl (Nat.le_of_ble_eq_true rfl) dX7_tryViews_65 ⟨Nat.le_of_ble_eq_true rfl, Nat.le_of_ble_eq_true rfl⟩) hA hD hS (fun r135 L136 f137 H locs hp138 hP hD hS => ?_)
        obtain ⟨eL139L, eL139T, eL139R⟩ := hp138
        have eL139L : L136 = L := eL139L
        have eL139T : f137 = f_37 := eL139T
        rw [eL139L, eL139T] at hP hD
        have eL139R : In r135 0 6 := eL139R
        refine lv_istore (lv' := [(12, .int r135), (0, .ref (ad 18)), (1, .int 2), (2, .int z2), (3, .long z3), (5, .int z4), (6, .int z5), (7, .int 45), (8, .int r6), (9, .int r13), (10, .int y37_l10), (11, .int y37_l11)]) hx hb dX7_tryViews_68 hl (by decide) rfl (fun ls hl => ?_)
        refine lv_aload_n hx hb dX7_tryViews_70 rfl (lv_at hl 1 rfl) ?_
        refine lv_iload hx hb dX7_tryViews_71 (lv_at hl 7 rfl) ?_
        refine lv_iload hx hb dX7_tryViews_73 (lv_at hl 10 rfl) ?_
        refine lv_iload hx hb dX7_tryViews_75 (lv_at hl 0 rfl) ?_
        refine lv_iload hx hb dX7_tryViews_77 (lv_at hl 11 rfl) ?_
        refine call_i (run_V (rm := rm_X7_addChoice) hx hb hml hown hts (s_X7_addChoice l g ad th _ _ _ 45 y37_l10 r135 y37_l11 hst hT (⟨by decide, by decide⟩ : In 45 0 99) (In.mk (by obtain ⟨o0a, o0b⟩ := (hy37_l10 : In _ _ _); obtain ⟨o1a, o1b⟩ := (hb123 : In _ _ _); obtain ⟨o2a, o2b⟩ := (hv11_18 : In _ _ _); omega) (by obtain ⟨o0a, o0b⟩ := (hy37_l10 : In _ _ _); obtain ⟨o1a, o1b⟩ := (hb123 : In _ _ _); obtain ⟨o2a, o2b⟩ := (hv11_18 : In _ _ _); omega))) cV_X7_addChoice wg_1062 ⟨Nat.le_of_ble_eq_true rfl, Nat.le_of_ble_eq_true rfl⟩ hG hE hA hP hD hS (hst.1 18 (by decide)) hf19 rfl rfl hl.1 (As := [.int 45, .int y37_l10, .int r135, .int y37_l11]) (rest := []) rfl (Nat.le_of_ble_eq_true rfl) dX7_tryViews_79 ⟨Nat.le_of_ble_eq_true rfl, Nat.le_of_ble_eq_true rfl⟩) hA hD hS (fun r140 L141 f142 H locs hp143 hP hD hS => ?_)
        obtain ⟨eL144L, eL144T, eL144F, eL144R, eL144X0⟩ := hp143
        have eL144L : L141 = L := eL144L
        rw [eL144L] at hP hD
        have hT : TI g ad th f142 := eL144T
        have eL144F : ∀ b, b ≠ (ad 21) → b ≠ (ad 22) → f142 b = f_37 b := eL144F
        have hf145 := (eL144F (ad 18) (hst.ne (by decide) (by decide) (by decide)) (hst.ne (by decide) (by decide) (by decide))).trans hf19
        have hf146 := (eL144F (ad 8) (hst.ne (by decide) (by decide) (by decide)) (hst.ne (by decide) (by decide) (by decide))).trans hf134
        have hfr : (∀ b, b ≠ (ad 18) → b ≠ (ad 21) → b ≠ (ad 22) → b ≠ (ad 23) → f142 b = f b) := fun b z0_ z1_ z2_ z3_ => (eL144F b z1_ z2_).trans (hfr b z0_ z1_ z2_ z3_)
        have eL144R : In r140 0 9 := eL144R
        have hac147 : r140.toInt ≤ y37_l10.toInt + 1 ∧ 1 ≤ r140.toInt := eL144X0
        refine lv_istore (lv' := [(10, .int r140), (12, .int r135), (0, .ref (ad 18)), (1, .int 2), (2, .int z2), (3, .long z3), (5, .int z4), (6, .int z5), (7, .int 45), (8, .int r6), (9, .int r13), (11, .int y37_l11)]) hx hb dX7_tryViews_82 hl (by decide) rfl (fun ls hl => ?_)
        obtain ⟨x148, ex148⟩ : ∃ y : Int32, y = y37_l11 + 1 := ⟨_, rfl⟩
        have hb149 : In x148 1 9 := ex148 ▸ In.add hb123 (⟨by decide, by decide⟩ : In 1 1 1) (by decide) (by decide) (by decide) (by decide)
        have et150 : x148.toInt = y37_l11.toInt + 1 := In.adde ex148 hb123 (k := 1) (by decide) (by decide) (by decide)
        refine lv_iinc (v := x148) (lv' := [(11, .int x148), (10, .int r140), (12, .int r135), (0, .ref (ad 18)), (1, .int 2), (2, .int z2), (3, .long z3), (5, .int z4), (6, .int z5), (7, .int 45), (8, .int r6), (9, .int r13)]) hx hb dX7_tryViews_84 hl (k := 11) rfl (by rw [ex148]; rfl) (by decide) rfl (fun ls hl => ?_)
        refine lv_goto (tgt := 37) hx hb dX7_tryViews_87 (by decide) ?_
        exact ih37 r140 x148 _ _ _ _ eL144R (In.mono hb149 (by decide) (by decide)) hP hD hS hT hfr (by obtain ⟨o0a, o0b⟩ := (eL144R : In _ _ _); obtain ⟨o1a, o1b⟩ := (hb149 : In _ _ _); obtain ⟨o2a, o2b⟩ := (hy37_l10 : In _ _ _); obtain ⟨o3a, o3b⟩ := (hb123 : In _ _ _); obtain ⟨o4a, o4b⟩ := (hv11_18 : In _ _ _); omega) (lv_sub hl [3, 4, 5, 6, 7, 8, 9, 10, 11, 1, 0] rfl) (msu et150 (by decide) hmz37)
  exact hJ37 ((9 - (0 : Int32).toInt).toNat + 1) 0 0 _ _ _ _ (⟨by decide, by decide⟩ : In 0 0 9) (⟨by decide, by decide⟩ : In 0 0 9) hP hD hS hT hfr (by have oc0 : (0 : Int32).toInt = 0 := (by decide); omega) (lv_sub hl [5, 6, 7, 8, 9, 10, 4, 3, 2, 1, 0] rfl) (msI _)

abbrev rm_X7_tryOffers_2 : Room := { frames := 16, cells := 0, slots := 0, locals := 551 }
abbrev po_X7_tryOffers_2 (g : GG) (ad : Nat → Nat) (th : Nat → Int) (L : List Nat) (f : HP) (z2 : Int32) (z3 : Int64) (z4 : Int32) : (List Nat × HP) → Prop := fun u => u.1 = L ∧ TI g ad th u.2 ∧ (∀ b, b ≠ (ad 18) → b ≠ (ad 21) → b ≠ (ad 22) → b ≠ (ad 23) → u.2 b = f b)
set_option maxHeartbeats 4000000 in
set_option maxRecDepth 100000 in
theorem s_X7_tryOffers_2 (l : Launch) (g : GG) (ad : Nat → Nat) (th : Nat → Int) (L : List Nat) (f : HP) (sz : Nat) (z2 : Int32) (z3 : Int64) (z4 : Int32) (hst : ST ad L) (hT : TI g ad th f) (hz2 : In z2 0 511) : MtV l g yX7_tryOffers cX7_tryOffers 16 rm_X7_tryOffers_2 [.ref (ad 18), .int 2, .int z2, .long z3, .int z4] L f sz (po_X7_tryOffers_2 g ad th L f z2 z3 z4) := by
  refine MtV.of (by decide +kernel) (Nat.le_of_ble_eq_true rfl) ?_
  intro p e s m below meth c A hEn hP hD hS ls hl
  obtain ⟨hx, hb, hr, hml, hown, hlocks, hts, hG, hA, hE, hnm⟩ := hEn
  have hown : s.vm.findClass "RulerWord$Search" = some m.cls := hown
  have hl : lv_has ls 16 [(0, .ref (ad 18)), (1, .int 2), (2, .int z2), (3, .long z3), (5, .int z4)] := hl
  have hfr : (∀ b, b ≠ (ad 18) → b ≠ (ad 21) → b ≠ (ad 22) → b ≠ (ad 23) → f b = f b) := fun b z0_ z1_ z2_ z3_ => rfl
  refine lv_iload_n hx hb dX7_tryOffers_0 rfl (lv_at hl 1 rfl) ?_
  refine lv_iconst (v := 2) hx hb dX7_tryOffers_1 (by decide) ?_
  refine lv_imul hx hb dX7_tryOffers_2 ?_
  refine lv_topi (fun x1 ex1 => ?_)
  obtain rfl : x1 = 4 := ex1.trans (by decide)
  refine lv_bipush (v := 9) hx hb dX7_tryOffers_3 (by decide) ?_
  refine lv_imul hx hb dX7_tryOffers_5 ?_
  refine lv_topi (fun x2 ex2 => ?_)
  obtain rfl : x2 = 36 := ex2.trans (by decide)
  refine lv_istore (lv' := [(6, .int 36), (0, .ref (ad 18)), (1, .int 2), (2, .int z2), (3, .long z3), (5, .int z4)]) hx hb dX7_tryOffers_6 hl (by decide) rfl (fun ls hl => ?_)
  refine lv_iload_n hx hb dX7_tryOffers_8 rfl (lv_at hl 3 rfl) ?_
  refine call_i (run_S (rm := rm_J6_bitCount_0f7a4) hx hb hml hown hts (s_J6_bitCount_0f7a4 l g ad th _ _ _ z2 hst hT ) cS_J6_bitCount_0f7a4 wg_1042 ⟨Nat.le_of_ble_eq_true rfl, Nat.le_of_ble_eq_true rfl⟩ hG hE hA hP hD hS rfl hl.1 (As := [.int z2]) (rest := []) rfl (Nat.le_of_ble_eq_true rfl) dX7_tryOffers_9 ⟨Nat.le_of_ble_eq_true rfl, Nat.le_of_ble_eq_true rfl⟩) hA hD hS (fun r3 L4 f5 H locs hp6 hP hD hS => ?_)
  obtain ⟨eL7L, eL7T, eL7R, eL7X0⟩ := hp6
  have eL7L : L4 = L := eL7L
  have eL7T : f5 = f := eL7T
  rw [eL7L, eL7T] at hP hD
  have eL7R : In r3 0 63 := eL7R
  have hb8 : In r3 0 9 := bc9 hz2 eL7X0
  refine lv_istore (lv' := [(7, .int r3), (6, .int 36), (0, .ref (ad 18)), (1, .int 2), (2, .int z2), (3, .long z3), (5, .int z4)]) hx hb dX7_tryOffers_12 hl (by decide) rfl (fun ls hl => ?_)
  refine lv_iconst (v := 0) hx hb dX7_tryOffers_14 (by decide) ?_
  refine lv_istore (lv' := [(8, .int 0), (7, .int r3), (6, .int 36), (0, .ref (ad 18)), (1, .int 2), (2, .int z2), (3, .long z3), (5, .int z4)]) hx hb dX7_tryOffers_15 hl (by decide) rfl (fun ls hl => ?_)
  refine lv_iconst (v := 0) hx hb dX7_tryOffers_17 (by decide) ?_
  refine lv_istore (lv' := [(9, .int 0), (8, .int 0), (7, .int r3), (6, .int 36), (0, .ref (ad 18)), (1, .int 2), (2, .int z2), (3, .long z3), (5, .int z4)]) hx hb dX7_tryOffers_18 hl (by decide) rfl (fun ls hl => ?_)
  have hJ20 : ∀ (k20 : Nat) (y20_l8 : Int32) (y20_l9 : Int32) (f_20 : HP) (H : Heap) (locs : List Loc) (ls : Array Slot), In y20_l8 0 9 → In y20_l9 0 9 → va_P g.1 vwCl (va_pl L f_20) H → va_D A (va_pl L f_20) → va_S A s.heap H locs → TI g ad th f_20 → (∀ b, b ≠ (ad 18) → b ≠ (ad 21) → b ≠ (ad 22) → b ≠ (ad 23) → f_20 b = f b) → (y20_l8.toInt ≤ y20_l9.toInt ∧ (y20_l9.toInt = 0 ∨ 1 ≤ y20_l8.toInt)) → lv_has ls 16 [(0, .ref (ad 18)), (1, .int 2), (2, .int z2), (3, .long z3), (5, .int z4), (6, .int 36), (7, .int r3), (8, .int y20_l8), (9, .int y20_l9)] → 9 - y20_l9.toInt < ((k20 : Nat) : Int) → W p l e rm_X7_tryOffers_2 s m [.ref (ad 18), .int 2, .int z2, .long z3, .int z4].toArray below meth c H locs 0 0 (MQ below (va_Qv (po_X7_tryOffers_2 g ad th L f z2 z3 z4) (PstB g A) A) [.ref (ad 18), .int 2, .int z2, .long z3, .int z4].toArray s rm_X7_tryOffers_2.cells rm_X7_tryOffers_2.slots A) (F0 m 20 ls []) := by
    intro k20
    induction k20 with
    | zero =>
      intro y20_l8 y20_l9 f_20 H locs ls hy20_l8 hy20_l9 hP hD hS hT hfr hinv20_0 hl hmz20
      exact ms0 hy20_l9 hmz20
    | succ k20 ih20 =>
      intro y20_l8 y20_l9 f_20 H locs ls hy20_l8 hy20_l9 hP hD hS hT hfr hinv20_0 hl hmz20
      refine lv_iload hx hb dX7_tryOffers_20 (lv_at hl 8 rfl) ?_
      refine lv_aload_n hx hb dX7_tryOffers_22 rfl (lv_at hl 0 rfl) ?_
      obtain ⟨v6_9, v7_9, v8_9, v9_9, v10_9, v11_9, v12_9, v13_9, hf10, hv8_9, hv9_9, hv10_9, hv11_9, hv13_9⟩ := hT.1 18 (by decide)
      refine pl_get (v := .int v11_9) hx hb hts (fun w h => mT (inX7 w h)) hown hG.1 hP (hst.1 18 (by decide)) hf10 rfl 11 (by decide) (hts _ (mT wg_443)) (fun _ h => h) rfl dX7_tryOffers_23 ?_
      refine lv_icmp_gt (tgt := 76) hx hb dX7_tryOffers_26 (by decide) (fun c11 => ?_) (fun c11 => ?_)
      ·
        have cc12 : v11_9.toInt < y20_l9.toInt := i32_lt.mp c11
        have hb13 : In y20_l9 1 9 := In.gt1 hy20_l9 hv11_9 cc12 (by omega) (by omega)
        refine lv_aload_n hx hb dX7_tryOffers_76 rfl (lv_at hl 0 rfl) ?_
        refine lv_iload hx hb dX7_tryOffers_77 (lv_at hl 7 rfl) ?_
        refine call_i (run_V (rm := rm_X7_power) hx hb hml hown hts (s_X7_power l g ad th _ _ _ y20_l8 hst hT ) cV_X7_power wg_1066 ⟨Nat.le_of_ble_eq_true rfl, Nat.le_of_ble_eq_true rfl⟩ hG hE hA hP hD hS (hst.1 18 (by decide)) hf10 rfl rfl hl.1 (As := [.int y20_l8]) (rest := []) rfl (Nat.le_of_ble_eq_true rfl) dX7_tryOffers_79 ⟨Nat.le_of_ble_eq_true rfl, Nat.le_of_ble_eq_true rfl⟩) hA hD hS (fun r14 L15 f16 H locs hp17 hP hD hS => ?_)
        obtain ⟨eL18L, eL18T⟩ := hp17
        have eL18L : L15 = L := eL18L
        have eL18T : f16 = f_20 := eL18T
        rw [eL18L, eL18T] at hP hD
        refine lv_istore (lv' := [(9, .int r14), (0, .ref (ad 18)), (1, .int 2), (2, .int z2), (3, .long z3), (5, .int z4), (6, .int 36), (7, .int r3), (8, .int y20_l8)]) hx hb dX7_tryOffers_82 hl (by decide) rfl (fun ls hl => ?_)
        refine lv_iconst (v := 0) hx hb dX7_tryOffers_84 (by decide) ?_
        refine lv_istore (lv' := [(10, .int 0), (9, .int r14), (0, .ref (ad 18)), (1, .int 2), (2, .int z2), (3, .long z3), (5, .int z4), (6, .int 36), (7, .int r3), (8, .int y20_l8)]) hx hb dX7_tryOffers_85 hl (by decide) rfl (fun ls hl => ?_)
        have hJ87 : ∀ (k87 : Nat) (y87_l10 : Int32) (f_87 : HP) (H : Heap) (locs : List Loc) (ls : Array Slot), In y87_l10 0 2147483647 → va_P g.1 vwCl (va_pl L f_87) H → va_D A (va_pl L f_87) → va_S A s.heap H locs → TI g ad th f_87 → (∀ b, b ≠ (ad 18) → b ≠ (ad 21) → b ≠ (ad 22) → b ≠ (ad 23) → f_87 b = f b) → lv_has ls 16 [(0, .ref (ad 18)), (1, .int 2), (2, .int z2), (3, .long z3), (5, .int z4), (6, .int 36), (7, .int r3), (8, .int y20_l8), (9, .int r14), (10, .int y87_l10)] → 2147483647 - y87_l10.toInt < ((k87 : Nat) : Int) → W p l e rm_X7_tryOffers_2 s m [.ref (ad 18), .int 2, .int z2, .long z3, .int z4].toArray below meth c H locs 0 0 (MQ below (va_Qv (po_X7_tryOffers_2 g ad th L f z2 z3 z4) (PstB g A) A) [.ref (ad 18), .int 2, .int z2, .long z3, .int z4].toArray s rm_X7_tryOffers_2.cells rm_X7_tryOffers_2.slots A) (F0 m 87 ls []) := by
          intro k87
          induction k87 with
          | zero =>
            intro y87_l10 f_87 H locs ls hy87_l10 hP hD hS hT hfr hl hmz87
            exact ms0 hy87_l10 hmz87
          | succ k87 ih87 =>
            intro y87_l10 f_87 H locs ls hy87_l10 hP hD hS hT hfr hl hmz87
            refine lv_iload hx hb dX7_tryOffers_87 (lv_at hl 9 rfl) ?_
            refine lv_iload hx hb dX7_tryOffers_89 (lv_at hl 8 rfl) ?_
            refine lv_icmp_ge (tgt := 211) hx hb dX7_tryOffers_91 (by decide) (fun c19 => ?_) (fun c19 => ?_)
            ·
              have cc20 : r14.toInt ≤ y87_l10.toInt := i32_le.mp c19
              exact ret_v hx hb hr hlocks hP hD hS (Nat.le_of_ble_eq_true rfl) (Nat.le_of_ble_eq_true rfl) (⟨rfl, hT, hfr⟩) dX7_tryOffers_211
            ·
              have cc21 : y87_l10.toInt < r14.toInt := i32_nle c19
              have hb22 : In y87_l10 0 2147483646 := In.lt1 hy87_l10 (In.full r14) cc21 (by omega) (by omega)
              have hb23 : In r14 1 2147483647 := In.lt2 hy87_l10 (In.full r14) cc21 (by omega) (by omega)
              refine lv_aload_n hx hb dX7_tryOffers_94 rfl (lv_at hl 0 rfl) ?_
              obtain ⟨v6_24, v7_24, v8_24, v9_24, v10_24, v11_24, v12_24, v13_24, hf25, hv8_24, hv9_24, hv10_24, hv11_24, hv13_24⟩ := hT.1 18 (by decide)
              refine call_i (run_V (rm := rm_X7_isEnough) hx hb hml hown hts (s_X7_isEnough l g ad th _ _ _  hst hT ) cV_X7_isEnough wg_1070 ⟨Nat.le_of_ble_eq_true rfl, Nat.le_of_ble_eq_true rfl⟩ hG hE hA hP hD hS (hst.1 18 (by decide)) hf25 rfl rfl hl.1 (As := []) (rest := []) rfl (Nat.le_of_ble_eq_true rfl) dX7_tryOffers_95 ⟨Nat.le_of_ble_eq_true rfl, Nat.le_of_ble_eq_true rfl⟩) hA hD hS (fun r26 L27 f28 H locs hp29 hP hD hS => ?_)
              obtain ⟨eL30L, eL30T, eL30R⟩ := hp29
              have eL30L : L27 = L := eL30L
              have eL30T : f28 = f_87 := eL30T
              rw [eL30L, eL30T] at hP hD
              have eL30R : In r26 0 1 := eL30R
              refine lv_if_ne (tgt := 211) hx hb dX7_tryOffers_98 (by decide) (fun c31 => ?_) (fun c31 => ?_)
              ·
                have oc0 : (0 : Int32).toInt = 0 := by decide
                have cc32 : r26.toInt ≠ (0 : Int32).toInt := i32_ne c31
                have hb33 : In r26 1 1 := In.ne1 eL30R (⟨by decide, by decide⟩ : In 0 0 0) cc32 (by omega) (by omega)
                exact ret_v hx hb hr hlocks hP hD hS (Nat.le_of_ble_eq_true rfl) (Nat.le_of_ble_eq_true rfl) (⟨rfl, hT, hfr⟩) dX7_tryOffers_211
              ·
                have oc0 : (0 : Int32).toInt = 0 := by decide
                have cc34 : r26.toInt = (0 : Int32).toInt := congrArg Int32.toInt c31
                have hb35 : In r26 0 0 := In.eq1 eL30R (⟨by decide, by decide⟩ : In 0 0 0) cc34 (by omega) (by omega)
                refine lv_iconst (v := 0) hx hb dX7_tryOffers_101 (by decide) ?_
                refine lv_istore (lv' := [(11, .int 0), (0, .ref (ad 18)), (1, .int 2), (2, .int z2), (3, .long z3), (5, .int z4), (6, .int 36), (7, .int r3), (8, .int y20_l8), (9, .int r14), (10, .int y87_l10)]) hx hb dX7_tryOffers_102 hl (by decide) rfl (fun ls hl => ?_)
                refine lv_iload hx hb dX7_tryOffers_104 (lv_at hl 10 rfl) ?_
                refine lv_istore (lv' := [(12, .int y87_l10), (11, .int 0), (0, .ref (ad 18)), (1, .int 2), (2, .int z2), (3, .long z3), (5, .int z4), (6, .int 36), (7, .int r3), (8, .int y20_l8), (9, .int r14), (10, .int y87_l10)]) hx hb dX7_tryOffers_106 hl (by decide) rfl (fun ls hl => ?_)
                refine lv_iload hx hb dX7_tryOffers_108 (lv_at hl 6 rfl) ?_
                refine lv_istore (lv' := [(13, .int z4), (12, .int y87_l10), (11, .int 0), (0, .ref (ad 18)), (1, .int 2), (2, .int z2), (3, .long z3), (5, .int z4), (6, .int 36), (7, .int r3), (8, .int y20_l8), (9, .int r14), (10, .int y87_l10)]) hx hb dX7_tryOffers_110 hl (by decide) rfl (fun ls hl => ?_)
                refine lv_iconst (v := 0) hx hb dX7_tryOffers_112 (by decide) ?_
                refine lv_istore (lv' := [(14, .int 0), (13, .int z4), (12, .int y87_l10), (11, .int 0), (0, .ref (ad 18)), (1, .int 2), (2, .int z2), (3, .long z3), (5, .int z4), (6, .int 36), (7, .int r3), (8, .int y20_l8), (9, .int r14), (10, .int y87_l10)]) hx hb dX7_tryOffers_113 hl (by decide) rfl (fun ls hl => ?_)
                have hJ115 : ∀ (k115 : Nat) (y115_l11 : Int32) (y115_l12 : Int32) (y115_l13 : Int32) (y115_l14 : Int32) (H : Heap) (locs : List Loc) (ls : Array Slot), In y115_l11 (-2147483648) 2147483647 → In y115_l12 0 2147483647 → In y115_l13 (-2147483648) 2147483647 → In y115_l14 0 9 → va_P g.1 vwCl (va_pl L f_87) H → va_D A (va_pl L f_87) → va_S A s.heap H locs → lv_has ls 16 [(0, .ref (ad 18)), (1, .int 2), (2, .int z2), (3, .long z3), (5, .int z4), (6, .int 36), (7, .int r3), (8, .int y20_l8), (9, .int r14), (10, .int y87_l10), (11, .int y115_l11), (12, .int y115_l12), (13, .int y115_l13), (14, .int y115_l14)] → 9 - y115_l14.toInt < ((k115 : Nat) : Int) → W p l e rm_X7_tryOffers_2 s m [.ref (ad 18), .int 2, .int z2, .long z3, .int z4].toArray below meth c H locs 0 0 (MQ below (va_Qv (po_X7_tryOffers_2 g ad th L f z2 z3 z4) (PstB g A) A) [.ref (ad 18), .int 2, .int z2, .long z3, .int z4].toArray s rm_X7_tryOffers_2.cells rm_X7_tryOffers_2.slots A) (F0 m 115 ls []) := by
                  intro k115
                  induction k115 with
                  | zero =>
                    intro y115_l11 y115_l12 y115_l13 y115_l14 H locs ls hy115_l11 hy115_l12 hy115_l13 hy115_l14 hP hD hS hl hmz115
                    exact ms0 hy115_l14 hmz115
                  | succ k115 ih115 =>
                    intro y115_l11 y115_l12 y115_l13 y115_l14 H locs ls hy115_l11 hy115_l12 hy115_l13 hy115_l14 hP hD hS hl hmz115
                    refine lv_iload hx hb dX7_tryOffers_115 (lv_at hl 13 rfl) ?_
                    refine lv_aload_n hx hb dX7_tryOffers_117 rfl (lv_at hl 0 rfl) ?_
                    refine pl_get (v := .int v10_24) hx hb hts (fun w h => mT (inX7 w h)) hown hG.1 hP (hst.1 18 (by decide)) hf25 rfl 10 (by decide) (hts _ (mT wg_442)) (fun _ h => h) rfl dX7_tryOffers_118 ?_
                    refine lv_icmp_ge (tgt := 194) hx hb dX7_tryOffers_121 (by decide) (fun c36 => ?_) (fun c36 => ?_)
                    ·
                      have cc37 : v10_24.toInt ≤ y115_l14.toInt := i32_le.mp c36
                      refine lv_aload_n hx hb dX7_tryOffers_194 rfl (lv_at hl 0 rfl) ?_
                      refine lv_iload_n hx hb dX7_tryOffers_195 rfl (lv_at hl 1 rfl) ?_
                      refine lv_iload_n hx hb dX7_tryOffers_196 rfl (lv_at hl 2 rfl) ?_
                      refine lv_lload_n hx hb dX7_tryOffers_197 rfl (lv_at hl 3 rfl) ?_
                      refine lv_iload hx hb dX7_tryOffers_198 (lv_at hl 10 rfl) ?_
                      refine lv_iload hx hb dX7_tryOffers_200 (lv_at hl 12 rfl) ?_
                      refine call_v (run_V (rm := rm_X7_tryViews_2) hx hb hml hown hts (s_X7_tryViews_2 l g ad th _ _ _ z2 z3 y115_l11 y115_l13 hst hT hz2) cV_X7_tryViews wg_1081 ⟨Nat.le_of_ble_eq_true rfl, Nat.le_of_ble_eq_true rfl⟩ hG hE hA hP hD hS (hst.1 18 (by decide)) hf25 rfl rfl hl.1 (As := [.int 2, .int z2, .long z3, .int y115_l11, .int y115_l13]) (rest := []) rfl (Nat.le_of_ble_eq_true rfl) dX7_tryOffers_202 ⟨Nat.le_of_ble_eq_true rfl, Nat.le_of_ble_eq_true rfl⟩) hA hD hS (fun L39 f40 H locs hp41 hP hD hS => ?_)
                      obtain ⟨eL42L, eL42T, eL42F⟩ := hp41
                      have eL42L : L39 = L := eL42L
                      rw [eL42L] at hP hD
                      have hT : TI g ad th f40 := eL42T
                      have eL42F : ∀ b, b ≠ (ad 18) → b ≠ (ad 21) → b ≠ (ad 22) → b ≠ (ad 23) → f40 b = f_87 b := eL42F
                      have hfr : (∀ b, b ≠ (ad 18) → b ≠ (ad 21) → b ≠ (ad 22) → b ≠ (ad 23) → f40 b = f b) := fun b z0_ z1_ z2_ z3_ => (eL42F b z0_ z1_ z2_ z3_).trans (hfr b z0_ z1_ z2_ z3_)
                      obtain ⟨x43, ex43⟩ : ∃ y : Int32, y = y87_l10 + 1 := ⟨_, rfl⟩
                      have hb44 : In x43 1 2147483647 := ex43 ▸ In.add hb22 (⟨by decide, by decide⟩ : In 1 1 1) (by decide) (by decide) (by decide) (by decide)
                      have et45 : x43.toInt = y87_l10.toInt + 1 := In.adde ex43 hb22 (k := 1) (by decide) (by decide) (by decide)
                      refine lv_iinc (v := x43) (lv' := [(10, .int x43), (0, .ref (ad 18)), (1, .int 2), (2, .int z2), (3, .long z3), (5, .int z4), (6, .int 36), (7, .int r3), (8, .int y20_l8), (9, .int r14), (11, .int y115_l11), (12, .int y115_l12), (13, .int y115_l13), (14, .int y115_l14)]) hx hb dX7_tryOffers_205 hl (k := 9) rfl (by rw [ex43]; rfl) (by decide) rfl (fun ls hl => ?_)
                      refine lv_goto (tgt := 87) hx hb dX7_tryOffers_208 (by decide) ?_
                      exact ih87 x43 _ _ _ _ (In.mono hb44 (by decide) (by decide)) hP hD hS hT hfr (lv_sub hl [1, 2, 3, 4, 5, 6, 7, 8, 9, 0] rfl) (msu et45 (by decide) hmz87)
                    ·
                      have cc46 : y115_l14.toInt < v10_24.toInt := i32_nle c36
                      have hb47 : In y115_l14 0 8 := In.lt1 hy115_l14 hv10_24 cc46 (by omega) (by omega)
                      have hb48 : In v10_24 1 9 := In.lt2 hy115_l14 hv10_24 cc46 (by omega) (by omega)
                      refine lv_iload hx hb dX7_tryOffers_124 (lv_at hl 5 rfl) ?_
                      refine lv_iload hx hb dX7_tryOffers_126 (lv_at hl 11 rfl) ?_
                      refine lv_iload hx hb dX7_tryOffers_128 (lv_at hl 7 rfl) ?_
                      have hb49 : In y20_l8 1 9 := In.mk (by obtain ⟨o0a, o0b⟩ := (hy20_l8 : In _ _ _); obtain ⟨o1a, o1b⟩ := (hb13 : In _ _ _); obtain ⟨o2a, o2b⟩ := (hv11_9 : In _ _ _); omega) (by obtain ⟨o0a, o0b⟩ := (hy20_l8 : In _ _ _); obtain ⟨o1a, o1b⟩ := (hb13 : In _ _ _); obtain ⟨o2a, o2b⟩ := (hv11_9 : In _ _ _); omega)
                      refine lv_irem hx hb dX7_tryOffers_130 (In.ne0 hb49 (by decide)) ?_
                      refine lv_topi (fun x50 ex50 => ?_)
                      have hb51 : In x50 0 8 := ex50 ▸ In.rem hy115_l12 hb49 (by decide) (by decide) (by decide)
                      refine lv_iadd hx hb dX7_tryOffers_131 ?_
                      refine lv_topi (fun x52 ex52 => ?_)
                      have hb53 : In x52 36 44 := ex52 ▸ In.add (⟨by decide, by decide⟩ : In 36 36 36) hb51 (by decide) (by decide) (by decide) (by decide)
                      have et54 : x52.toInt = (36 : Int32).toInt + x50.toInt := In.add2e ex52 (⟨by decide, by decide⟩ : In 36 36 36) hb51 (by decide) (by decide)
                      refine lv_istore (lv' := [(15, .int x52), (0, .ref (ad 18)), (1, .int 2), (2, .int z2), (3, .long z3), (5, .int z4), (6, .int 36), (7, .int r3), (8, .int y20_l8), (9, .int r14), (10, .int y87_l10), (11, .int y115_l11), (12, .int y115_l12), (13, .int y115_l13), (14, .int y115_l14)]) hx hb dX7_tryOffers_132 hl (by decide) rfl (fun ls hl => ?_)
                      refine lv_iload hx hb dX7_tryOffers_134 (lv_at hl 12 rfl) ?_
                      refine lv_iload hx hb dX7_tryOffers_136 (lv_at hl 8 rfl) ?_
                      refine lv_idiv hx hb dX7_tryOffers_138 (In.ne0 hb49 (by decide)) ?_
                      refine lv_topi (fun x55 ex55 => ?_)
                      have hb56 : In x55 0 2147483647 := ex55 ▸ In.div hy115_l12 hb49 (by decide) (by decide) (by decide) (by decide)
                      refine lv_istore (lv' := [(12, .int x55), (15, .int x52), (0, .ref (ad 18)), (1, .int 2), (2, .int z2), (3, .long z3), (5, .int z4), (6, .int 36), (7, .int r3), (8, .int y20_l8), (9, .int r14), (10, .int y87_l10), (11, .int y115_l11), (13, .int y115_l13), (14, .int y115_l14)]) hx hb dX7_tryOffers_139 hl (by decide) rfl (fun ls hl => ?_)
                      refine lv_iload hx hb dX7_tryOffers_141 (lv_at hl 12 rfl) ?_
                      refine lv_aload_n hx hb dX7_tryOffers_143 rfl (lv_at hl 2 rfl) ?_
                      refine pl_get (v := .ref (ad 21)) hx hb hts (fun w h => mT (inX7 w h)) hown hG.1 hP (hst.1 18 (by decide)) hf25 rfl 3 (by decide) (hts _ (mT wg_435)) (fun _ h => h) rfl dX7_tryOffers_144 ?_
                      refine lv_iload hx hb dX7_tryOffers_147 (lv_at hl 1 rfl) ?_
                      obtain ⟨rw57, hf58⟩ := hT.1 21 (by decide)
                      have hin59 : vp_in x52 108 := In.inb hb53 (by decide) (by decide)
                      refine pl_iald hx hb hG.1 hP (hst.1 21 (by decide)) 0 hf58 rfl hin59 dX7_tryOffers_149 ?_
                      refine lv_topi (fun x60 ex60 => ?_)
                      refine lv_aload_n hx hb dX7_tryOffers_150 rfl (lv_at hl 2 rfl) ?_
                      refine pl_get (v := .ref (ad 19)) hx hb hts (fun w h => mT (inX7 w h)) hown hG.1 hP (hst.1 18 (by decide)) hf25 rfl 1 (by decide) (hts _ (mT wg_433)) (fun _ h => h) rfl dX7_tryOffers_151 ?_
                      refine lv_iload hx hb dX7_tryOffers_154 (lv_at hl 14 rfl) ?_
                      obtain ⟨rw61, hf62, hc63⟩ := hT.1 19 (by decide)
                      have hin64 : vp_in y115_l14 9 := In.inb hb47 (by decide) (by decide)
                      refine pl_iald hx hb hG.1 hP (hst.1 19 (by decide)) 0 hf62 rfl hin64 dX7_tryOffers_156 ?_
                      refine lv_topi (fun x65 ex65 => ?_)
                      have hb66 : In x65 0 8 := by rw [ex65]; exact hc63 _ (vp_nat hin64)
                      refine call_i (run_S (rm := rm_X7_wordOf) hx hb hml hown hts (s_X7_wordOf l g ad th _ _ _ x60 x65 hst hT ) cS_X7_wordOf wg_1074 ⟨Nat.le_of_ble_eq_true rfl, Nat.le_of_ble_eq_true rfl⟩ hG hE hA hP hD hS rfl hl.1 (As := [.int x60, .int x65]) (rest := [.int y115_l11]) rfl (Nat.le_of_ble_eq_true rfl) dX7_tryOffers_157 ⟨Nat.le_of_ble_eq_true rfl, Nat.le_of_ble_eq_true rfl⟩) hA hD hS (fun r67 L68 f69 H locs hp70 hP hD hS => ?_)
                      obtain ⟨eL71L, eL71T⟩ := hp70
                      have eL71L : L68 = L := eL71L
                      have eL71T : f69 = f_87 := eL71T
                      rw [eL71L, eL71T] at hP hD
                      refine lv_ior hx hb dX7_tryOffers_160 ?_
                      refine lv_topi (fun x72 ex72 => ?_)
                      refine lv_istore (lv' := [(11, .int x72), (12, .int x55), (15, .int x52), (0, .ref (ad 18)), (1, .int 2), (2, .int z2), (3, .long z3), (5, .int z4), (6, .int 36), (7, .int r3), (8, .int y20_l8), (9, .int r14), (10, .int y87_l10), (13, .int y115_l13), (14, .int y115_l14)]) hx hb dX7_tryOffers_161 hl (by decide) rfl (fun ls hl => ?_)
                      refine lv_iload hx hb dX7_tryOffers_163 (lv_at hl 13 rfl) ?_
                      refine lv_aload_n hx hb dX7_tryOffers_165 rfl (lv_at hl 3 rfl) ?_
                      refine lv_aload_n hx hb dX7_tryOffers_166 rfl (lv_at hl 3 rfl) ?_
                      refine pl_get (v := .ref (ad 22)) hx hb hts (fun w h => mT (inX7 w h)) hown hG.1 hP (hst.1 18 (by decide)) hf25 rfl 4 (by decide) (hts _ (mT wg_436)) (fun _ h => h) rfl dX7_tryOffers_167 ?_
                      refine lv_iload hx hb dX7_tryOffers_170 (lv_at hl 2 rfl) ?_
                      obtain ⟨rw73, hf74⟩ := hT.1 22 (by decide)
                      have hin75 : vp_in x52 108 := In.inb hb53 (by decide) (by decide)
                      refine pl_iald hx hb hG.1 hP (hst.1 22 (by decide)) 0 hf74 rfl hin75 dX7_tryOffers_172 ?_
                      refine lv_topi (fun x76 ex76 => ?_)
                      refine lv_aload_n hx hb dX7_tryOffers_173 rfl (lv_at hl 3 rfl) ?_
                      refine pl_get (v := .ref (ad 20)) hx hb hts (fun w h => mT (inX7 w h)) hown hG.1 hP (hst.1 18 (by decide)) hf25 rfl 2 (by decide) (hts _ (mT wg_434)) (fun _ h => h) rfl dX7_tryOffers_174 ?_
                      refine lv_iload_n hx hb dX7_tryOffers_177 rfl (lv_at hl 4 rfl) ?_
                      obtain ⟨rw77, hf78⟩ := hT.1 20 (by decide)
                      have hin79 : vp_in 2 7 := In.inb (⟨by decide, by decide⟩ : In 2 2 2) (by decide) (by decide)
                      refine pl_iald hx hb hG.1 hP (hst.1 20 (by decide)) 0 hf78 rfl hin79 dX7_tryOffers_178 ?_
                      refine lv_topi (fun x80 ex80 => ?_)
                      refine lv_iload hx hb dX7_tryOffers_179 (lv_at hl 14 rfl) ?_
                      refine lv_iadd hx hb dX7_tryOffers_181 ?_
                      refine lv_topi (fun x81 ex81 => ?_)
                      refine call_i (run_V (rm := rm_X7_bitsOf) hx hb hml hown hts (s_X7_bitsOf l g ad th _ _ _ x76 x81 hst hT ) cV_X7_bitsOf wg_1077 ⟨Nat.le_of_ble_eq_true rfl, Nat.le_of_ble_eq_true rfl⟩ hG hE hA hP hD hS (hst.1 18 (by decide)) hf25 rfl rfl hl.1 (As := [.int x76, .int x81]) (rest := [.int y115_l13]) rfl (Nat.le_of_ble_eq_true rfl) dX7_tryOffers_182 ⟨Nat.le_of_ble_eq_true rfl, Nat.le_of_ble_eq_true rfl⟩) hA hD hS (fun r82 L83 f84 H locs hp85 hP hD hS => ?_)
                      obtain ⟨eL86L, eL86T⟩ := hp85
                      have eL86L : L83 = L := eL86L
                      have eL86T : f84 = f_87 := eL86T
                      rw [eL86L, eL86T] at hP hD
                      refine lv_ior hx hb dX7_tryOffers_185 ?_
                      refine lv_topi (fun x87 ex87 => ?_)
                      refine lv_istore (lv' := [(13, .int x87), (11, .int x72), (12, .int x55), (15, .int x52), (0, .ref (ad 18)), (1, .int 2), (2, .int z2), (3, .long z3), (5, .int z4), (6, .int 36), (7, .int r3), (8, .int y20_l8), (9, .int r14), (10, .int y87_l10), (14, .int y115_l14)]) hx hb dX7_tryOffers_186 hl (by decide) rfl (fun ls hl => ?_)
                      obtain ⟨x88, ex88⟩ : ∃ y : Int32, y = y115_l14 + 1 := ⟨_, rfl⟩
                      have hb89 : In x88 1 9 := ex88 ▸ In.add hb47 (⟨by decide, by decide⟩ : In 1 1 1) (by decide) (by decide) (by decide) (by decide)
                      have et90 : x88.toInt = y115_l14.toInt + 1 := In.adde ex88 hb47 (k := 1) (by decide) (by decide) (by decide)
                      refine lv_iinc (v := x88) (lv' := [(14, .int x88), (13, .int x87), (11, .int x72), (12, .int x55), (15, .int x52), (0, .ref (ad 18)), (1, .int 2), (2, .int z2), (3, .long z3), (5, .int z4), (6, .int 36), (7, .int r3), (8, .int y20_l8), (9, .int r14), (10, .int y87_l10)]) hx hb dX7_tryOffers_188 hl (k := 14) rfl (by rw [ex88]; rfl) (by decide) rfl (fun ls hl => ?_)
                      refine lv_goto (tgt := 115) hx hb dX7_tryOffers_191 (by decide) ?_
                      exact ih115 x72 x55 x87 x88 _ _ _ (In.full x72) hb56 (In.full x87) (In.mono hb89 (by decide) (by decide)) hP hD hS (lv_sub hl [5, 6, 7, 8, 9, 10, 11, 12, 13, 14, 2, 3, 1, 0] rfl) (msu et90 (by decide) hmz115)
                exact hJ115 ((9 - (0 : Int32).toInt).toNat + 1) 0 y87_l10 z4 0 _ _ _ (⟨by decide, by decide⟩ : In 0 (-2147483648) 2147483647) (In.mono hb22 (by decide) (by decide)) (In.full z4) (⟨by decide, by decide⟩ : In 0 0 9) hP hD hS (lv_sub hl [4, 5, 6, 7, 8, 9, 10, 11, 12, 13, 3, 2, 1, 0] rfl) (msI _)
        exact hJ87 ((2147483647 - (0 : Int32).toInt).toNat + 1) 0 _ _ _ _ (⟨by decide, by decide⟩ : In 0 0 2147483647) hP hD hS hT hfr (lv_sub hl [2, 3, 4, 5, 6, 7, 8, 9, 1, 0] rfl) (msI _)
      ·
        have cc91 : y20_l9.toInt ≤ v11_9.toInt := i32_nlt c11
        have hb92 : In y20_l9 0 8 := In.le1 hy20_l9 hv11_9 cc91 (by omega) (by omega)
        refine lv_aload_n hx hb dX7_tryOffers_29 rfl (lv_at hl 0 rfl) ?_
        refine pl_get (v := .ref (ad 8)) hx hb hts (fun w h => mT (inX7 w h)) hown hG.1 hP (hst.1 18 (by decide)) hf10 rfl 0 (by decide) (hts _ (mT wg_432)) (fun _ h => h) rfl dX7_tryOffers_30 ?_
        refine lv_aload_n hx hb dX7_tryOffers_33 rfl (lv_at hl 0 rfl) ?_
        refine pl_get (v := .ref (ad 8)) hx hb hts (fun w h => mT (inX7 w h)) hown hG.1 hP (hst.1 18 (by decide)) hf10 rfl 0 (by decide) (hts _ (mT wg_432)) (fun _ h => h) rfl dX7_tryOffers_34 ?_
        obtain ⟨v0_93, v1_93, v2_93, v3_93, v4_93, v5_93, v6_93, v7_93, hf94, hv0_93, hv1_93, hv2_93, hv3_93, hv5_93, hv6_93⟩ := hT.1 8 (by decide)
        refine pl_getN (v := .int v1_93) hx hb hts (fun w h => mT (inX2 w h)) hown hG.1 hP (hst.1 8 (by decide)) hf94 rfl 1 (by decide) (hG.2.1 _ wn_229) (fun _ h => h) rfl dX7_tryOffers_37 ?_
        refine lv_iload hx hb dX7_tryOffers_40 (lv_at hl 6 rfl) ?_
        refine lv_isub hx hb dX7_tryOffers_42 ?_
        refine lv_topi (fun x95 ex95 => ?_)
        have hb96 : In x95 (-9) 9 := ex95 ▸ In.sub hv1_93 hb8 (by decide) (by decide) (by decide) (by decide)
        have et97 : x95.toInt = v1_93.toInt - r3.toInt := In.sub2e ex95 hv1_93 hb8 (by decide) (by decide)
        refine lv_iload hx hb dX7_tryOffers_43 (lv_at hl 8 rfl) ?_
        refine lv_isub hx hb dX7_tryOffers_45 ?_
        refine lv_topi (fun x98 ex98 => ?_)
        have hb99 : In x98 (-17) 9 := ex98 ▸ In.sub hb96 hb92 (by decide) (by decide) (by decide) (by decide)
        have et100 : x98.toInt = x95.toInt - y20_l9.toInt := In.sub2e ex98 hb96 hb92 (by decide) (by decide)
        refine lv_iload hx hb dX7_tryOffers_46 (lv_at hl 6 rfl) ?_
        refine lv_iload hx hb dX7_tryOffers_48 (lv_at hl 8 rfl) ?_
        refine lv_iadd hx hb dX7_tryOffers_50 ?_
        refine lv_topi (fun x101 ex101 => ?_)
        have hb102 : In x101 0 17 := ex101 ▸ In.add hb8 hb92 (by decide) (by decide) (by decide) (by decide)
        have et103 : x101.toInt = r3.toInt + y20_l9.toInt := In.add2e ex101 hb8 hb92 (by decide) (by decide)
        refine call_i (run_VN (rm := rm_X2_offer_ru) hx hb hml hown hts (s_X2_offer_ru l g ad th _ _ _ x98 x101 hst hT ) cV_X2_offer wn_1061 ⟨Nat.le_of_ble_eq_true rfl, Nat.le_of_ble_eq_true rfl⟩ hG hE hA hP hD hS (hst.1 8 (by decide)) hf94 rfl rfl hl.1 (As := [.int x98, .int x101]) (rest := []) rfl (Nat.le_of_ble_eq_true rfl) dX7_tryOffers_51 ⟨Nat.le_of_ble_eq_true rfl, Nat.le_of_ble_eq_true rfl⟩) hA hD hS (fun r104 L105 f106 H locs hp107 hP hD hS => ?_)
        obtain ⟨eL108L, eL108T, eL108R⟩ := hp107
        have eL108L : L105 = L := eL108L
        have eL108T : f106 = f_20 := eL108T
        rw [eL108L, eL108T] at hP hD
        have eL108R : In r104 0 2 := eL108R
        refine lv_istore (lv' := [(10, .int r104), (0, .ref (ad 18)), (1, .int 2), (2, .int z2), (3, .long z3), (5, .int z4), (6, .int 36), (7, .int r3), (8, .int y20_l8), (9, .int y20_l9)]) hx hb dX7_tryOffers_54 hl (by decide) rfl (fun ls hl => ?_)
        refine lv_aload_n hx hb dX7_tryOffers_56 rfl (lv_at hl 1 rfl) ?_
        refine lv_iload hx hb dX7_tryOffers_57 (lv_at hl 6 rfl) ?_
        refine lv_iload hx hb dX7_tryOffers_59 (lv_at hl 8 rfl) ?_
        refine lv_iload hx hb dX7_tryOffers_61 (lv_at hl 0 rfl) ?_
        refine lv_iload hx hb dX7_tryOffers_63 (lv_at hl 9 rfl) ?_
        refine call_i (run_V (rm := rm_X7_addChoice) hx hb hml hown hts (s_X7_addChoice l g ad th _ _ _ 36 y20_l8 r104 y20_l9 hst hT (⟨by decide, by decide⟩ : In 36 0 99) (In.mk (by obtain ⟨o0a, o0b⟩ := (hy20_l8 : In _ _ _); obtain ⟨o1a, o1b⟩ := (hb92 : In _ _ _); obtain ⟨o2a, o2b⟩ := (hv11_9 : In _ _ _); omega) (by obtain ⟨o0a, o0b⟩ := (hy20_l8 : In _ _ _); obtain ⟨o1a, o1b⟩ := (hb92 : In _ _ _); obtain ⟨o2a, o2b⟩ := (hv11_9 : In _ _ _); omega))) cV_X7_addChoice wg_1062 ⟨Nat.le_of_ble_eq_true rfl, Nat.le_of_ble_eq_true rfl⟩ hG hE hA hP hD hS (hst.1 18 (by decide)) hf10 rfl rfl hl.1 (As := [.int 36, .int y20_l8, .int r104, .int y20_l9]) (rest := []) rfl (Nat.le_of_ble_eq_true rfl) dX7_tryOffers_65 ⟨Nat.le_of_ble_eq_true rfl, Nat.le_of_ble_eq_true rfl⟩) hA hD hS (fun r109 L110 f111 H locs hp112 hP hD hS => ?_)
        obtain ⟨eL113L, eL113T, eL113F, eL113R, eL113X0⟩ := hp112
        have eL113L : L110 = L := eL113L
        rw [eL113L] at hP hD
        have hT : TI g ad th f111 := eL113T
        have eL113F : ∀ b, b ≠ (ad 21) → b ≠ (ad 22) → f111 b = f_20 b := eL113F
        have hf114 := (eL113F (ad 18) (hst.ne (by decide) (by decide) (by decide)) (hst.ne (by decide) (by decide) (by decide))).trans hf10
        have hf115 := (eL113F (ad 8) (hst.ne (by decide) (by decide) (by decide)) (hst.ne (by decide) (by decide) (by decide))).trans hf94
        have hfr : (∀ b, b ≠ (ad 18) → b ≠ (ad 21) → b ≠ (ad 22) → b ≠ (ad 23) → f111 b = f b) := fun b z0_ z1_ z2_ z3_ => (eL113F b z1_ z2_).trans (hfr b z0_ z1_ z2_ z3_)
        have eL113R : In r109 0 9 := eL113R
        have hac116 : r109.toInt ≤ y20_l8.toInt + 1 ∧ 1 ≤ r109.toInt := eL113X0
        refine lv_istore (lv' := [(8, .int r109), (10, .int r104), (0, .ref (ad 18)), (1, .int 2), (2, .int z2), (3, .long z3), (5, .int z4), (6, .int 36), (7, .int r3), (9, .int y20_l9)]) hx hb dX7_tryOffers_68 hl (by decide) rfl (fun ls hl => ?_)
        obtain ⟨x117, ex117⟩ : ∃ y : Int32, y = y20_l9 + 1 := ⟨_, rfl⟩
        have hb118 : In x117 1 9 := ex117 ▸ In.add hb92 (⟨by decide, by decide⟩ : In 1 1 1) (by decide) (by decide) (by decide) (by decide)
        have et119 : x117.toInt = y20_l9.toInt + 1 := In.adde ex117 hb92 (k := 1) (by decide) (by decide) (by decide)
        refine lv_iinc (v := x117) (lv' := [(9, .int x117), (8, .int r109), (10, .int r104), (0, .ref (ad 18)), (1, .int 2), (2, .int z2), (3, .long z3), (5, .int z4), (6, .int 36), (7, .int r3)]) hx hb dX7_tryOffers_70 hl (k := 9) rfl (by rw [ex117]; rfl) (by decide) rfl (fun ls hl => ?_)
        refine lv_goto (tgt := 20) hx hb dX7_tryOffers_73 (by decide) ?_
        exact ih20 r109 x117 _ _ _ _ eL113R (In.mono hb118 (by decide) (by decide)) hP hD hS hT hfr (by obtain ⟨o0a, o0b⟩ := (eL113R : In _ _ _); obtain ⟨o1a, o1b⟩ := (hb118 : In _ _ _); obtain ⟨o2a, o2b⟩ := (hy20_l8 : In _ _ _); obtain ⟨o3a, o3b⟩ := (hb92 : In _ _ _); obtain ⟨o4a, o4b⟩ := (hv11_9 : In _ _ _); omega) (lv_sub hl [3, 4, 5, 6, 7, 8, 9, 1, 0] rfl) (msu et119 (by decide) hmz20)
  exact hJ20 ((9 - (0 : Int32).toInt).toNat + 1) 0 0 _ _ _ _ (⟨by decide, by decide⟩ : In 0 0 9) (⟨by decide, by decide⟩ : In 0 0 9) hP hD hS hT hfr (by have oc0 : (0 : Int32).toInt = 0 := (by decide); omega) (lv_sub hl [4, 5, 6, 7, 8, 3, 2, 1, 0] rfl) (msI _)

abbrev rm_X7_explore_2 : Room := { frames := 17, cells := 0, slots := 0, locals := 586 }
abbrev po_X7_explore_2 (g : GG) (ad : Nat → Nat) (th : Nat → Int) (L : List Nat) (f : HP) (z2 : Int32) (z3 : Int64) (z4 : Int32) : (List Nat × HP) → Prop := fun u => u.1 = L ∧ TI g ad th u.2 ∧ (∀ b, b ≠ (ad 18) → b ≠ (ad 21) → b ≠ (ad 22) → b ≠ (ad 23) → u.2 b = f b)
set_option maxHeartbeats 4000000 in
set_option maxRecDepth 100000 in
theorem s_X7_explore_2 (l : Launch) (g : GG) (ad : Nat → Nat) (th : Nat → Int) (L : List Nat) (f : HP) (sz : Nat) (z2 : Int32) (z3 : Int64) (z4 : Int32) (hst : ST ad L) (hT : TI g ad th f) (hz2 : In z2 0 511) : MtV l g yX7_explore cX7_explore 8 rm_X7_explore_2 [.ref (ad 18), .int 2, .int z2, .long z3, .int z4] L f sz (po_X7_explore_2 g ad th L f z2 z3 z4) := by
  refine MtV.of (by decide +kernel) (Nat.le_of_ble_eq_true rfl) ?_
  intro p e s m below meth c A hEn hP hD hS ls hl
  obtain ⟨hx, hb, hr, hml, hown, hlocks, hts, hG, hA, hE, hnm⟩ := hEn
  have hown : s.vm.findClass "RulerWord$Search" = some m.cls := hown
  have hl : lv_has ls 8 [(0, .ref (ad 18)), (1, .int 2), (2, .int z2), (3, .long z3), (5, .int z4)] := hl
  have hfr : (∀ b, b ≠ (ad 18) → b ≠ (ad 21) → b ≠ (ad 22) → b ≠ (ad 23) → f b = f b) := fun b z0_ z1_ z2_ z3_ => rfl
  refine lv_iload_n hx hb dX7_explore_0 rfl (lv_at hl 1 rfl) ?_
  refine lv_aload_n hx hb dX7_explore_1 rfl (lv_at hl 0 rfl) ?_
  obtain ⟨v6_1, v7_1, v8_1, v9_1, v10_1, v11_1, v12_1, v13_1, hf2, hv8_1, hv9_1, hv10_1, hv11_1, hv13_1⟩ := hT.1 18 (by decide)
  refine pl_get (v := .int v7_1) hx hb hts (fun w h => mT (inX7 w h)) hown hG.1 hP (hst.1 18 (by decide)) hf2 rfl 7 (by decide) (hts _ (mT wg_439)) (fun _ h => h) rfl dX7_explore_2 ?_
  have hJ14 : ∀ (H : Heap) (locs : List Loc) (ls : Array Slot), va_P g.1 vwCl (va_pl L f) H → va_D A (va_pl L f) → va_S A s.heap H locs → lv_has ls 8 [(0, .ref (ad 18)), (1, .int 2), (2, .int z2), (3, .long z3), (5, .int z4)] → W p l e rm_X7_explore_2 s m [.ref (ad 18), .int 2, .int z2, .long z3, .int z4].toArray below meth c H locs 0 0 (MQ below (va_Qv (po_X7_explore_2 g ad th L f z2 z3 z4) (PstB g A) A) [.ref (ad 18), .int 2, .int z2, .long z3, .int z4].toArray s rm_X7_explore_2.cells rm_X7_explore_2.slots A) (F0 m 14 ls []) := by
    intro H locs ls hP hD hS hl
    refine lv_aload_n hx hb dX7_explore_14 rfl (lv_at hl 0 rfl) ?_
    refine lv_iload_n hx hb dX7_explore_15 rfl (lv_at hl 2 rfl) ?_
    refine lv_iload hx hb dX7_explore_16 (lv_at hl 4 rfl) ?_
    refine call_v (run_V (rm := rm_X7_judge) hx hb hml hown hts (s_X7_judge l g ad th _ _ _ z2 z4 hst hT hz2) cV_X7_judge wg_1053 ⟨Nat.le_of_ble_eq_true rfl, Nat.le_of_ble_eq_true rfl⟩ hG hE hA hP hD hS (hst.1 18 (by decide)) hf2 rfl rfl hl.1 (As := [.int z2, .int z4]) (rest := []) rfl (Nat.le_of_ble_eq_true rfl) dX7_explore_18 ⟨Nat.le_of_ble_eq_true rfl, Nat.le_of_ble_eq_true rfl⟩) hA hD hS (fun L4 f5 H locs hp6 hP hD hS => ?_)
    obtain ⟨eL7L, eL7T, eL7F⟩ := hp6
    have eL7L : L4 = L := eL7L
    rw [eL7L] at hP hD
    have hT : TI g ad th f5 := eL7T
    have eL7F : ∀ b, b ≠ (ad 18) → f5 b = f b := eL7F
    have hfr : (∀ b, b ≠ (ad 18) → b ≠ (ad 21) → b ≠ (ad 22) → b ≠ (ad 23) → f5 b = f b) := fun b z0_ z1_ z2_ z3_ => (eL7F b z0_).trans (hfr b z0_ z1_ z2_ z3_)
    exact ret_v hx hb hr hlocks hP hD hS (Nat.le_of_ble_eq_true rfl) (Nat.le_of_ble_eq_true rfl) (⟨rfl, hT, hfr⟩) dX7_explore_21
  refine lv_icmp_ge (tgt := 14) hx hb dX7_explore_5 (by decide) (fun c8 => ?_) (fun c8 => ?_)
  ·
    have cc9 : v7_1.toInt ≤ (2 : Int32).toInt := i32_le.mp c8
    have hb10 : In v7_1 (-2147483648) 2 := In.ge2 (⟨by decide, by decide⟩ : In 2 2 2) (In.full v7_1) cc9 (by omega) (by omega)
    exact hJ14 _ _ _ hP hD hS (lv_sub hl [0, 1, 2, 3, 4] rfl)
  ·
    have cc11 : (2 : Int32).toInt < v7_1.toInt := i32_nle c8
    have hb12 : In v7_1 3 2147483647 := In.lt2 (⟨by decide, by decide⟩ : In 2 2 2) (In.full v7_1) cc11 (by omega) (by omega)
    refine lv_iload_n hx hb dX7_explore_8 rfl (lv_at hl 1 rfl) ?_
    refine lv_bipush (v := 6) hx hb dX7_explore_9 (by decide) ?_
    refine lv_icmp_lt (tgt := 22) hx hb dX7_explore_11 (by decide) (fun c13 => ?_) (fun c13 => ?_)
    ·
      refine lv_iload_n hx hb dX7_explore_22 rfl (lv_at hl 1 rfl) ?_
      refine lv_bipush (v := 9) hx hb dX7_explore_23 (by decide) ?_
      refine lv_ishl hx hb dX7_explore_25 ?_
      refine lv_topi (fun x14 ex14 => ?_)
      obtain rfl : x14 = 1024 := ex14.trans (by decide)
      refine lv_iload_n hx hb dX7_explore_26 rfl (lv_at hl 2 rfl) ?_
      refine lv_ior hx hb dX7_explore_27 ?_
      refine lv_topi (fun x15 ex15 => ?_)
      have hb16 : In x15 1024 1535 := ex15 ▸ In.orc 9 2 hz2 (by decide) (by decide) (by decide) (by decide)
      refine lv_istore (lv' := [(6, .int x15), (0, .ref (ad 18)), (1, .int 2), (2, .int z2), (3, .long z3), (5, .int z4)]) hx hb dX7_explore_28 hl (by decide) rfl (fun ls hl => ?_)
      refine lv_aload_n hx hb dX7_explore_30 rfl (lv_at hl 1 rfl) ?_
      refine pl_get (v := .ref (ad 23)) hx hb hts (fun w h => mT (inX7 w h)) hown hG.1 hP (hst.1 18 (by decide)) hf2 rfl 5 (by decide) (hts _ (mT wg_437)) (fun _ h => h) rfl dX7_explore_31 ?_
      refine lv_iload hx hb dX7_explore_34 (lv_at hl 0 rfl) ?_
      refine lv_bipush (v := 6) hx hb dX7_explore_36 (by decide) ?_
      refine lv_iushr hx hb dX7_explore_38 rfl ?_
      refine lv_topi (fun x17 ex17 => ?_)
      have hb18 : In x17 16 23 := ex17 ▸ In.ushr 6 hb16 (by decide) (by decide) (by decide) (by decide)
      obtain ⟨rw19, hf20⟩ := hT.1 23 (by decide)
      have hin21 : vp_in x17 48 := In.inb hb18 (by decide) (by decide)
      refine pl_lald hx hb hG.1 hP (hst.1 23 (by decide)) 1 hf20 rfl hin21 dX7_explore_39 ?_
      refine lv_topl (fun x22 ex22 => ?_)
      refine lv_iload hx hb dX7_explore_40 (lv_at hl 0 rfl) ?_
      refine lv_lushr hx hb dX7_explore_42 rfl ?_
      refine lv_topl (fun x23 ex23 => ?_)
      refine lv_lconst (v := 1) hx hb dX7_explore_43 (by decide) ?_
      refine lv_land hx hb dX7_explore_44 ?_
      refine lv_topl (fun x24 ex24 => ?_)
      refine lv_lconst (v := 1) hx hb dX7_explore_45 (by decide) ?_
      refine W.lcmp hx hb dX7_explore_46 ?_
      refine lv_topi (fun x25 ex25 => ?_)
      have hb26 : In x25 (-1) 1 := ex25 ▸ In.lcmp _ _
      refine lv_if_ne (tgt := 51) hx hb dX7_explore_47 (by decide) (fun c27 => ?_) (fun c27 => ?_)
      ·
        refine lv_aload_n hx hb dX7_explore_51 rfl (lv_at hl 1 rfl) ?_
        refine pl_get (v := .int v6_1) hx hb hts (fun w h => mT (inX7 w h)) hown hG.1 hP (hst.1 18 (by decide)) hf2 rfl 6 (by decide) (hts _ (mT wg_438)) (fun _ h => h) rfl dX7_explore_52 ?_
        refine lv_istore (lv' := [(7, .int v6_1), (6, .int x15), (0, .ref (ad 18)), (1, .int 2), (2, .int z2), (3, .long z3), (5, .int z4)]) hx hb dX7_explore_55 hl (by decide) rfl (fun ls hl => ?_)
        refine lv_aload_n hx hb dX7_explore_57 rfl (lv_at hl 2 rfl) ?_
        refine pl_get (v := .ref (ad 8)) hx hb hts (fun w h => mT (inX7 w h)) hown hG.1 hP (hst.1 18 (by decide)) hf2 rfl 0 (by decide) (hts _ (mT wg_432)) (fun _ h => h) rfl dX7_explore_58 ?_
        obtain ⟨v0_28, v1_28, v2_28, v3_28, v4_28, v5_28, v6_28, v7_28, hf29, hv0_28, hv1_28, hv2_28, hv3_28, hv5_28, hv6_28⟩ := hT.1 8 (by decide)
        refine pl_getN (v := .int v0_28) hx hb hts (fun w h => mT (inX2 w h)) hown hG.1 hP (hst.1 8 (by decide)) hf29 rfl 0 (by decide) (hG.2.1 _ wn_225) (fun _ h => h) rfl dX7_explore_61 ?_
        have hJ101 : ∀ (f_101 : HP) (H : Heap) (locs : List Loc) (ls : Array Slot), va_P g.1 vwCl (va_pl L f_101) H → va_D A (va_pl L f_101) → va_S A s.heap H locs → TI g ad th f_101 → (∀ b, b ≠ (ad 18) → b ≠ (ad 21) → b ≠ (ad 22) → b ≠ (ad 23) → f_101 b = f b) → f_101 (ad 8) = .inr (2, [.int v0_28, .int v1_28, .int v2_28, .int v3_28, .int v4_28, .int v5_28, .int v6_28, .int v7_28]) → lv_has ls 8 [(0, .ref (ad 18)), (1, .int 2), (2, .int z2), (3, .long z3), (5, .int z4), (6, .int x15), (7, .int v6_1)] → W p l e rm_X7_explore_2 s m [.ref (ad 18), .int 2, .int z2, .long z3, .int z4].toArray below meth c H locs 0 0 (MQ below (va_Qv (po_X7_explore_2 g ad th L f z2 z3 z4) (PstB g A) A) [.ref (ad 18), .int 2, .int z2, .long z3, .int z4].toArray s rm_X7_explore_2.cells rm_X7_explore_2.slots A) (F0 m 101 ls []) := by
          intro f_101 H locs ls hP hD hS hT hfr hf30 hl
          refine lv_aload_n hx hb dX7_explore_101 rfl (lv_at hl 0 rfl) ?_
          obtain ⟨v6_31, v7_31, v8_31, v9_31, v10_31, v11_31, v12_31, v13_31, hf32, hv8_31, hv9_31, hv10_31, hv11_31, hv13_31⟩ := hT.1 18 (by decide)
          refine pl_get (v := .int v6_31) hx hb hts (fun w h => mT (inX7 w h)) hown hG.1 hP (hst.1 18 (by decide)) hf32 rfl 6 (by decide) (hts _ (mT wg_438)) (fun _ h => h) rfl dX7_explore_102 ?_
          refine lv_iload hx hb dX7_explore_105 (lv_at hl 6 rfl) ?_
          refine lv_icmp_ne (tgt := 135) hx hb dX7_explore_107 (by decide) (fun c33 => ?_) (fun c33 => ?_)
          ·
            exact ret_v hx hb hr hlocks hP hD hS (Nat.le_of_ble_eq_true rfl) (Nat.le_of_ble_eq_true rfl) (⟨rfl, hT, hfr⟩) dX7_explore_135
          ·
            refine lv_aload_n hx hb dX7_explore_110 rfl (lv_at hl 0 rfl) ?_
            refine lv_iconst (v := 0) hx hb dX7_explore_111 (by decide) ?_
            refine call_i (run_V (rm := rm_X7_doesSuspicionCount) hx hb hml hown hts (s_X7_doesSuspicionCount l g ad th _ _ _ 0 hst hT (⟨by decide, by decide⟩ : In 0 0 6)) cV_X7_doesSuspicionCount wg_1094 ⟨Nat.le_of_ble_eq_true rfl, Nat.le_of_ble_eq_true rfl⟩ hG hE hA hP hD hS (hst.1 18 (by decide)) hf32 rfl rfl hl.1 (As := [.int 0]) (rest := []) rfl (Nat.le_of_ble_eq_true rfl) dX7_explore_112 ⟨Nat.le_of_ble_eq_true rfl, Nat.le_of_ble_eq_true rfl⟩) hA hD hS (fun r34 L35 f36 H locs hp37 hP hD hS => ?_)
            obtain ⟨eL38L, eL38T, eL38R⟩ := hp37
            have eL38L : L35 = L := eL38L
            have eL38T : f36 = f_101 := eL38T
            rw [eL38L, eL38T] at hP hD
            have eL38R : In r34 0 1 := eL38R
            refine lv_if_ne (tgt := 135) hx hb dX7_explore_115 (by decide) (fun c39 => ?_) (fun c39 => ?_)
            ·
              have cc40 : r34.toInt ≠ (0 : Int32).toInt := i32_ne c39
              have hb41 : In r34 1 1 := In.ne1 eL38R (⟨by decide, by decide⟩ : In 0 0 0) cc40 (by omega) (by omega)
              exact ret_v hx hb hr hlocks hP hD hS (Nat.le_of_ble_eq_true rfl) (Nat.le_of_ble_eq_true rfl) (⟨rfl, hT, hfr⟩) dX7_explore_135
            ·
              have cc42 : r34.toInt = (0 : Int32).toInt := congrArg Int32.toInt c39
              have hb43 : In r34 0 0 := In.eq1 eL38R (⟨by decide, by decide⟩ : In 0 0 0) cc42 (by omega) (by omega)
              refine lv_aload_n hx hb dX7_explore_118 rfl (lv_at hl 0 rfl) ?_
              refine pl_get (v := .ref (ad 23)) hx hb hts (fun w h => mT (inX7 w h)) hown hG.1 hP (hst.1 18 (by decide)) hf32 rfl 5 (by decide) (hts _ (mT wg_437)) (fun _ h => h) rfl dX7_explore_119 ?_
              refine lv_iload hx hb dX7_explore_122 (lv_at hl 5 rfl) ?_
              refine lv_bipush (v := 6) hx hb dX7_explore_124 (by decide) ?_
              refine lv_iushr hx hb dX7_explore_126 rfl ?_
              refine lv_topi (fun x44 ex44 => ?_)
              obtain rfl : x17 = x44 := ex17.trans ex44.symm
              refine lv_dup2_11 hx hb dX7_explore_127 rfl rfl ?_
              obtain ⟨rw45, hf46⟩ := hT.1 23 (by decide)
              have hin47 : vp_in x17 48 := In.inb hb18 (by decide) (by decide)
              refine pl_lald hx hb hG.1 hP (hst.1 23 (by decide)) 1 hf46 rfl hin47 dX7_explore_128 ?_
              refine lv_topl (fun x48 ex48 => ?_)
              refine lv_lconst (v := 1) hx hb dX7_explore_129 (by decide) ?_
              refine lv_iload hx hb dX7_explore_130 (lv_at hl 5 rfl) ?_
              refine lv_lshl hx hb dX7_explore_132 rfl ?_
              refine lv_topl (fun x49 ex49 => ?_)
              refine lv_lor hx hb dX7_explore_133 ?_
              refine lv_topl (fun x50 ex50 => ?_)
              refine pl_lastE hx hb hG.1 hP hD hS (hst.1 23 (by decide)) 1 hf46 rfl (In.inb hb18 (by decide) (by decide)) dX7_explore_134 (fun H locs f51 r54 er54 hf52 ho53 hP hD hS => ?_)
              have hf55 := (ho53 (ad 8) (hst.ne (by decide) (by decide) (by decide))).trans hf30
              have hf56 := (ho53 (ad 18) (hst.ne (by decide) (by decide) (by decide))).trans hf32
              have hfr : (∀ b, b ≠ (ad 18) → b ≠ (ad 21) → b ≠ (ad 22) → b ≠ (ad 23) → f51 b = f b) := fun b z0_ z1_ z2_ z3_ => (ho53 b z3_).trans (hfr b z0_ z1_ z2_ z3_)
              have hT := TI.updA hT hst (k := 23) (by decide) hf52 ho53 ⟨r54, rfl⟩
              exact ret_v hx hb hr hlocks hP hD hS (Nat.le_of_ble_eq_true rfl) (Nat.le_of_ble_eq_true rfl) (⟨rfl, hT, hfr⟩) dX7_explore_135
        refine lv_if_ne (tgt := 79) hx hb dX7_explore_64 (by decide) (fun c57 => ?_) (fun c57 => ?_)
        ·
          have cc58 : v0_28.toInt ≠ (0 : Int32).toInt := i32_ne c57
          have hb59 : In v0_28 1 1 := In.ne1 hv0_28 (⟨by decide, by decide⟩ : In 0 0 0) cc58 (by omega) (by omega)
          refine lv_aload_n hx hb dX7_explore_79 rfl (lv_at hl 2 rfl) ?_
          refine lv_iload_n hx hb dX7_explore_80 rfl (lv_at hl 3 rfl) ?_
          refine lv_iload_n hx hb dX7_explore_81 rfl (lv_at hl 4 rfl) ?_
          refine lv_lload_n hx hb dX7_explore_82 rfl (lv_at hl 5 rfl) ?_
          refine lv_aload_n hx hb dX7_explore_83 rfl (lv_at hl 2 rfl) ?_
          refine pl_get (v := .int v9_1) hx hb hts (fun w h => mT (inX7 w h)) hown hG.1 hP (hst.1 18 (by decide)) hf2 rfl 9 (by decide) (hts _ (mT wg_441)) (fun _ h => h) rfl dX7_explore_84 ?_
          refine lv_iload_n hx hb dX7_explore_87 rfl (lv_at hl 4 rfl) ?_
          refine lv_iconst (v := (-1)) hx hb dX7_explore_88 (by decide) ?_
          refine lv_ixor hx hb dX7_explore_89 ?_
          refine lv_topi (fun x60 ex60 => ?_)
          refine lv_iand hx hb dX7_explore_90 ?_
          refine lv_topi (fun x61 ex61 => ?_)
          have hb62 : In x61 0 511 := ex61 ▸ In.andl hv9_1 (by decide)
          refine lv_iload_n hx hb dX7_explore_91 rfl (lv_at hl 4 rfl) ?_
          refine lv_bipush (v := 9) hx hb dX7_explore_92 (by decide) ?_
          refine lv_ishl hx hb dX7_explore_94 ?_
          refine lv_topi (fun x63 ex63 => ?_)
          have hb64 : In x63 0 261632 := ex63 ▸ In.shl hz2 (⟨by decide, by decide⟩ : In 9 9 9) (by decide) (by decide) (by decide) (by decide) (by decide) (by decide)
          refine lv_ior hx hb dX7_explore_95 ?_
          refine lv_topi (fun x65 ex65 => ?_)
          have hb66 : In x65 0 262143 := ex65 ▸ In.or 18 hb62 hb64 (by decide) (by decide) (by decide) (by decide) (by decide)
          refine lv_iload hx hb dX7_explore_96 (lv_at hl 6 rfl) ?_
          refine call_v (run_V (rm := rm_X7_tryViews_2) hx hb hml hown hts (s_X7_tryViews_2 l g ad th _ _ _ z2 z3 x65 z4 hst hT hz2) cV_X7_tryViews wg_1081 ⟨Nat.le_of_ble_eq_true rfl, Nat.le_of_ble_eq_true rfl⟩ hG hE hA hP hD hS (hst.1 18 (by decide)) hf2 rfl rfl hl.1 (As := [.int 2, .int z2, .long z3, .int x65, .int z4]) (rest := []) rfl (Nat.le_of_ble_eq_true rfl) dX7_explore_98 ⟨Nat.le_of_ble_eq_true rfl, Nat.le_of_ble_eq_true rfl⟩) hA hD hS (fun L68 f69 H locs hp70 hP hD hS => ?_)
          obtain ⟨eL71L, eL71T, eL71F⟩ := hp70
          have eL71L : L68 = L := eL71L
          rw [eL71L] at hP hD
          have hT : TI g ad th f69 := eL71T
          have eL71F : ∀ b, b ≠ (ad 18) → b ≠ (ad 21) → b ≠ (ad 22) → b ≠ (ad 23) → f69 b = f b := eL71F
          have hf72 := (eL71F (ad 8) (hst.ne (by decide) (by decide) (by decide)) (hst.ne (by decide) (by decide) (by decide)) (hst.ne (by decide) (by decide) (by decide)) (hst.ne (by decide) (by decide) (by decide))).trans hf29
          have hfr : (∀ b, b ≠ (ad 18) → b ≠ (ad 21) → b ≠ (ad 22) → b ≠ (ad 23) → f69 b = f b) := fun b z0_ z1_ z2_ z3_ => (eL71F b z0_ z1_ z2_ z3_).trans (hfr b z0_ z1_ z2_ z3_)
          exact hJ101 _ _ _ _ hP hD hS hT hfr hf72 (lv_sub hl [2, 3, 4, 5, 6, 1, 0] rfl)
        ·
          have cc73 : v0_28.toInt = (0 : Int32).toInt := congrArg Int32.toInt c57
          have hb74 : In v0_28 0 0 := In.eq1 hv0_28 (⟨by decide, by decide⟩ : In 0 0 0) cc73 (by omega) (by omega)
          refine lv_aload_n hx hb dX7_explore_67 rfl (lv_at hl 2 rfl) ?_
          refine lv_iload_n hx hb dX7_explore_68 rfl (lv_at hl 3 rfl) ?_
          refine lv_iload_n hx hb dX7_explore_69 rfl (lv_at hl 4 rfl) ?_
          refine lv_lload_n hx hb dX7_explore_70 rfl (lv_at hl 5 rfl) ?_
          refine lv_iload hx hb dX7_explore_71 (lv_at hl 6 rfl) ?_
          refine call_v (run_V (rm := rm_X7_tryOffers_2) hx hb hml hown hts (s_X7_tryOffers_2 l g ad th _ _ _ z2 z3 z4 hst hT hz2) cV_X7_tryOffers wg_1057 ⟨Nat.le_of_ble_eq_true rfl, Nat.le_of_ble_eq_true rfl⟩ hG hE hA hP hD hS (hst.1 18 (by decide)) hf2 rfl rfl hl.1 (As := [.int 2, .int z2, .long z3, .int z4]) (rest := []) rfl (Nat.le_of_ble_eq_true rfl) dX7_explore_73 ⟨Nat.le_of_ble_eq_true rfl, Nat.le_of_ble_eq_true rfl⟩) hA hD hS (fun L76 f77 H locs hp78 hP hD hS => ?_)
          obtain ⟨eL79L, eL79T, eL79F⟩ := hp78
          have eL79L : L76 = L := eL79L
          rw [eL79L] at hP hD
          have hT : TI g ad th f77 := eL79T
          have eL79F : ∀ b, b ≠ (ad 18) → b ≠ (ad 21) → b ≠ (ad 22) → b ≠ (ad 23) → f77 b = f b := eL79F
          have hf80 := (eL79F (ad 8) (hst.ne (by decide) (by decide) (by decide)) (hst.ne (by decide) (by decide) (by decide)) (hst.ne (by decide) (by decide) (by decide)) (hst.ne (by decide) (by decide) (by decide))).trans hf29
          have hfr : (∀ b, b ≠ (ad 18) → b ≠ (ad 21) → b ≠ (ad 22) → b ≠ (ad 23) → f77 b = f b) := fun b z0_ z1_ z2_ z3_ => (eL79F b z0_ z1_ z2_ z3_).trans (hfr b z0_ z1_ z2_ z3_)
          refine lv_goto (tgt := 101) hx hb dX7_explore_76 (by decide) ?_
          exact hJ101 _ _ _ _ hP hD hS hT hfr hf80 (lv_sub hl [2, 3, 4, 5, 6, 1, 0] rfl)
      ·
        have cc81 : x25.toInt = (0 : Int32).toInt := congrArg Int32.toInt c27
        have hb82 : In x25 0 0 := In.eq1 hb26 (⟨by decide, by decide⟩ : In 0 0 0) cc81 (by omega) (by omega)
        exact ret_v hx hb hr hlocks hP hD hS (Nat.le_of_ble_eq_true rfl) (Nat.le_of_ble_eq_true rfl) (⟨rfl, hT, hfr⟩) dX7_explore_50
    ·
      have cc83 : (6 : Int32).toInt ≤ (2 : Int32).toInt := i32_nlt c13
      exact In.empty (lo := 6) (hi := 2) (In.ge1 (⟨by decide, by decide⟩ : In 2 2 2) (⟨by decide, by decide⟩ : In 6 6 6) cc83 (by omega) (by omega)) (by decide)

abbrev rm_X7_tryRuler_1 : Room := { frames := 18, cells := 0, slots := 0, locals := 613 }
abbrev po_X7_tryRuler_1 (g : GG) (ad : Nat → Nat) (th : Nat → Int) (L : List Nat) (f : HP) (z2 : Int32) (z3 : Int32) (z4 : Int64) (z5 : Int32) : (List Nat × HP) → Prop := fun u => u.1 = L ∧ TI g ad th u.2 ∧ (∀ b, b ≠ (ad 18) → b ≠ (ad 21) → b ≠ (ad 22) → b ≠ (ad 23) → u.2 b = f b)
set_option maxHeartbeats 4000000 in
set_option maxRecDepth 100000 in
theorem s_X7_tryRuler_1 (l : Launch) (g : GG) (ad : Nat → Nat) (th : Nat → Int) (L : List Nat) (f : HP) (sz : Nat) (z2 : Int32) (z3 : Int32) (z4 : Int64) (z5 : Int32) (hst : ST ad L) (hT : TI g ad th f) (hz2 : In z2 0 511) : MtV l g yX7_tryRuler cX7_tryRuler 21 rm_X7_tryRuler_1 [.ref (ad 18), .int 1, .int z2, .int z3, .long z4, .int z5] L f sz (po_X7_tryRuler_1 g ad th L f z2 z3 z4 z5) := by
  refine MtV.of (by decide +kernel) (Nat.le_of_ble_eq_true rfl) ?_
  intro p e s m below meth c A hEn hP hD hS ls hl
  obtain ⟨hx, hb, hr, hml, hown, hlocks, hts, hG, hA, hE, hnm⟩ := hEn
  have hown : s.vm.findClass "RulerWord$Search" = some m.cls := hown
  have hl : lv_has ls 21 [(0, .ref (ad 18)), (1, .int 1), (2, .int z2), (3, .int z3), (4, .long z4), (6, .int z5)] := hl
  have hfr : (∀ b, b ≠ (ad 18) → b ≠ (ad 21) → b ≠ (ad 22) → b ≠ (ad 23) → f b = f b) := fun b z0_ z1_ z2_ z3_ => rfl
  refine lv_aload_n hx hb dX7_tryRuler_0 rfl (lv_at hl 0 rfl) ?_
  obtain ⟨v6_1, v7_1, v8_1, v9_1, v10_1, v11_1, v12_1, v13_1, hf2, hv8_1, hv9_1, hv10_1, hv11_1, hv13_1⟩ := hT.1 18 (by decide)
  refine pl_get (v := .ref (ad 8)) hx hb hts (fun w h => mT (inX7 w h)) hown hG.1 hP (hst.1 18 (by decide)) hf2 rfl 0 (by decide) (hts _ (mT wg_432)) (fun _ h => h) rfl dX7_tryRuler_1 ?_
  refine lv_iload_n hx hb dX7_tryRuler_4 rfl (lv_at hl 1 rfl) ?_
  obtain ⟨v0_3, v1_3, v2_3, v3_3, v4_3, v5_3, v6_3, v7_3, hf4, hv0_3, hv1_3, hv2_3, hv3_3, hv5_3, hv6_3⟩ := hT.1 8 (by decide)
  refine call_i (run_VN (rm := rm_X2_ruler_ru) hx hb hml hown hts (s_X2_ruler_ru l g ad th _ _ _ 1 hst hT (⟨by decide, by decide⟩ : In 1 0 6)) cV_X2_ruler wn_1093 ⟨Nat.le_of_ble_eq_true rfl, Nat.le_of_ble_eq_true rfl⟩ hG hE hA hP hD hS (hst.1 8 (by decide)) hf4 rfl rfl hl.1 (As := [.int 1]) (rest := []) rfl (Nat.le_of_ble_eq_true rfl) dX7_tryRuler_5 ⟨Nat.le_of_ble_eq_true rfl, Nat.le_of_ble_eq_true rfl⟩) hA hD hS (fun r5 L6 f7 H locs hp8 hP hD hS => ?_)
  obtain ⟨eL9L, eL9T, eL9R⟩ := hp8
  have eL9L : L6 = L := eL9L
  have eL9T : f7 = f := eL9T
  rw [eL9L, eL9T] at hP hD
  have eL9R : In r5 0 8 := eL9R
  refine lv_istore (lv' := [(7, .int r5), (0, .ref (ad 18)), (1, .int 1), (2, .int z2), (3, .int z3), (4, .long z4), (6, .int z5)]) hx hb dX7_tryRuler_8 hl (by decide) rfl (fun ls hl => ?_)
  refine lv_iload hx hb dX7_tryRuler_10 (lv_at hl 0 rfl) ?_
  refine lv_bipush (v := 9) hx hb dX7_tryRuler_12 (by decide) ?_
  refine lv_imul hx hb dX7_tryRuler_14 ?_
  refine lv_topi (fun x10 ex10 => ?_)
  have hb11 : In x10 0 72 := ex10 ▸ In.mul eL9R (⟨by decide, by decide⟩ : In 9 9 9) (by decide) (by decide) (by decide) (by decide) (by decide)
  refine lv_istore (lv' := [(8, .int x10), (7, .int r5), (0, .ref (ad 18)), (1, .int 1), (2, .int z2), (3, .int z3), (4, .long z4), (6, .int z5)]) hx hb dX7_tryRuler_15 hl (by decide) rfl (fun ls hl => ?_)
  refine lv_aload_n hx hb dX7_tryRuler_17 rfl (lv_at hl 2 rfl) ?_
  refine pl_get (v := .ref (ad 8)) hx hb hts (fun w h => mT (inX7 w h)) hown hG.1 hP (hst.1 18 (by decide)) hf2 rfl 0 (by decide) (hts _ (mT wg_432)) (fun _ h => h) rfl dX7_tryRuler_18 ?_
  refine pl_getN (v := .int v6_3) hx hb hts (fun w h => mT (inX2 w h)) hown hG.1 hP (hst.1 8 (by decide)) hf4 rfl 6 (by decide) (hG.2.1 _ wn_243) (fun _ h => h) rfl dX7_tryRuler_21 ?_
  have hJ41 : ∀ (y41_s0 : Int32) (H : Heap) (locs : List Loc) (ls : Array Slot), In y41_s0 0 511 → va_P g.1 vwCl (va_pl L f) H → va_D A (va_pl L f) → va_S A s.heap H locs → lv_has ls 21 [(0, .ref (ad 18)), (1, .int 1), (2, .int z2), (3, .int z3), (4, .long z4), (6, .int z5), (7, .int r5), (8, .int x10)] → W p l e rm_X7_tryRuler_1 s m [.ref (ad 18), .int 1, .int z2, .int z3, .long z4, .int z5].toArray below meth c H locs 0 0 (MQ below (va_Qv (po_X7_tryRuler_1 g ad th L f z2 z3 z4 z5) (PstB g A) A) [.ref (ad 18), .int 1, .int z2, .int z3, .long z4, .int z5].toArray s rm_X7_tryRuler_1.cells rm_X7_tryRuler_1.slots A) (F0 m 41 ls [.int y41_s0]) := by
    intro y41_s0 H locs ls hy41_s0 hP hD hS hl
    refine lv_istore (lv' := [(9, .int y41_s0), (0, .ref (ad 18)), (1, .int 1), (2, .int z2), (3, .int z3), (4, .long z4), (6, .int z5), (7, .int r5), (8, .int x10)]) hx hb dX7_tryRuler_41 hl (by decide) rfl (fun ls hl => ?_)
    refine lv_aload_n hx hb dX7_tryRuler_43 rfl (lv_at hl 1 rfl) ?_
    refine pl_get (v := .int v9_1) hx hb hts (fun w h => mT (inX7 w h)) hown hG.1 hP (hst.1 18 (by decide)) hf2 rfl 9 (by decide) (hts _ (mT wg_441)) (fun _ h => h) rfl dX7_tryRuler_44 ?_
    refine lv_iload_n hx hb dX7_tryRuler_47 rfl (lv_at hl 4 rfl) ?_
    refine lv_iconst (v := (-1)) hx hb dX7_tryRuler_48 (by decide) ?_
    refine lv_ixor hx hb dX7_tryRuler_49 ?_
    refine lv_topi (fun x12 ex12 => ?_)
    refine lv_iand hx hb dX7_tryRuler_50 ?_
    refine lv_topi (fun x13 ex13 => ?_)
    have hb14 : In x13 0 511 := ex13 ▸ In.andl hv9_1 (by decide)
    refine lv_iload hx hb dX7_tryRuler_51 (lv_at hl 0 rfl) ?_
    refine lv_iconst (v := (-1)) hx hb dX7_tryRuler_53 (by decide) ?_
    refine lv_ixor hx hb dX7_tryRuler_54 ?_
    refine lv_topi (fun x15 ex15 => ?_)
    refine lv_iand hx hb dX7_tryRuler_55 ?_
    refine lv_topi (fun x16 ex16 => ?_)
    have hb17 : In x16 0 511 := ex16 ▸ In.andl hb14 (by decide)
    refine lv_istore (lv' := [(10, .int x16), (9, .int y41_s0), (0, .ref (ad 18)), (1, .int 1), (2, .int z2), (3, .int z3), (4, .long z4), (6, .int z5), (7, .int r5), (8, .int x10)]) hx hb dX7_tryRuler_56 hl (by decide) rfl (fun ls hl => ?_)
    refine lv_iload hx hb dX7_tryRuler_58 (lv_at hl 0 rfl) ?_
    refine lv_aload_n hx hb dX7_tryRuler_60 rfl (lv_at hl 2 rfl) ?_
    refine lv_iload_n hx hb dX7_tryRuler_61 rfl (lv_at hl 3 rfl) ?_
    refine call_i (run_V (rm := rm_X7_doesSuspicionCount) hx hb hml hown hts (s_X7_doesSuspicionCount l g ad th _ _ _ 1 hst hT (⟨by decide, by decide⟩ : In 1 0 6)) cV_X7_doesSuspicionCount wg_1094 ⟨Nat.le_of_ble_eq_true rfl, Nat.le_of_ble_eq_true rfl⟩ hG hE hA hP hD hS (hst.1 18 (by decide)) hf2 rfl rfl hl.1 (As := [.int 1]) (rest := [.int x16]) rfl (Nat.le_of_ble_eq_true rfl) dX7_tryRuler_62 ⟨Nat.le_of_ble_eq_true rfl, Nat.le_of_ble_eq_true rfl⟩) hA hD hS (fun r18 L19 f20 H locs hp21 hP hD hS => ?_)
    obtain ⟨eL22L, eL22T, eL22R⟩ := hp21
    have eL22L : L19 = L := eL22L
    have eL22T : f20 = f := eL22T
    rw [eL22L, eL22T] at hP hD
    have eL22R : In r18 0 1 := eL22R
    have hJ73 : ∀ (y73_s0 : Int32) (H : Heap) (locs : List Loc) (ls : Array Slot), In y73_s0 (-2147483648) 2147483647 → va_P g.1 vwCl (va_pl L f) H → va_D A (va_pl L f) → va_S A s.heap H locs → lv_has ls 21 [(0, .ref (ad 18)), (1, .int 1), (2, .int z2), (3, .int z3), (4, .long z4), (6, .int z5), (7, .int r5), (8, .int x10), (9, .int y41_s0), (10, .int x16)] → W p l e rm_X7_tryRuler_1 s m [.ref (ad 18), .int 1, .int z2, .int z3, .long z4, .int z5].toArray below meth c H locs 0 0 (MQ below (va_Qv (po_X7_tryRuler_1 g ad th L f z2 z3 z4 z5) (PstB g A) A) [.ref (ad 18), .int 1, .int z2, .int z3, .long z4, .int z5].toArray s rm_X7_tryRuler_1.cells rm_X7_tryRuler_1.slots A) (F0 m 73 ls [.int y73_s0, .int x16]) := by
      intro y73_s0 H locs ls hy73_s0 hP hD hS hl
      refine lv_ior hx hb dX7_tryRuler_73 ?_
      refine lv_topi (fun x23 ex23 => ?_)
      refine lv_istore (lv' := [(11, .int x23), (0, .ref (ad 18)), (1, .int 1), (2, .int z2), (3, .int z3), (4, .long z4), (6, .int z5), (7, .int r5), (8, .int x10), (9, .int y41_s0), (10, .int x16)]) hx hb dX7_tryRuler_74 hl (by decide) rfl (fun ls hl => ?_)
      refine lv_iload_n hx hb dX7_tryRuler_76 rfl (lv_at hl 3 rfl) ?_
      refine lv_iload hx hb dX7_tryRuler_77 (lv_at hl 7 rfl) ?_
      refine call_i (run_SN (rm := rm_X10_bit) hx hb hml hown hts (s_X10_bit l g ad th _ _ _ z2 r5 hst hT ) cS_X10_bit wn_1043 ⟨Nat.le_of_ble_eq_true rfl, Nat.le_of_ble_eq_true rfl⟩ hG hE hA hP hD hS rfl hl.1 (As := [.int z2, .int r5]) (rest := []) rfl (Nat.le_of_ble_eq_true rfl) dX7_tryRuler_79 ⟨Nat.le_of_ble_eq_true rfl, Nat.le_of_ble_eq_true rfl⟩) hA hD hS (fun r24 L25 f26 H locs hp27 hP hD hS => ?_)
      obtain ⟨eL28L, eL28T, eL28R, eL28X0⟩ := hp27
      have eL28L : L25 = L := eL28L
      have eL28T : f26 = f := eL28T
      rw [eL28L, eL28T] at hP hD
      have eL28R : In r24 0 1 := eL28R
      refine lv_iconst (v := 1) hx hb dX7_tryRuler_82 (by decide) ?_
      have hJ94 : ∀ (y94_s0 : Int32) (H : Heap) (locs : List Loc) (ls : Array Slot), In y94_s0 0 511 → va_P g.1 vwCl (va_pl L f) H → va_D A (va_pl L f) → va_S A s.heap H locs → lv_has ls 21 [(0, .ref (ad 18)), (1, .int 1), (2, .int z2), (3, .int z3), (4, .long z4), (6, .int z5), (7, .int r5), (8, .int x10), (9, .int y41_s0), (10, .int x16), (11, .int x23)] → W p l e rm_X7_tryRuler_1 s m [.ref (ad 18), .int 1, .int z2, .int z3, .long z4, .int z5].toArray below meth c H locs 0 0 (MQ below (va_Qv (po_X7_tryRuler_1 g ad th L f z2 z3 z4 z5) (PstB g A) A) [.ref (ad 18), .int 1, .int z2, .int z3, .long z4, .int z5].toArray s rm_X7_tryRuler_1.cells rm_X7_tryRuler_1.slots A) (F0 m 94 ls [.int y94_s0]) := by
        intro y94_s0 H locs ls hy94_s0 hP hD hS hl
        refine lv_istore (lv' := [(12, .int y94_s0), (0, .ref (ad 18)), (1, .int 1), (2, .int z2), (3, .int z3), (4, .long z4), (6, .int z5), (7, .int r5), (8, .int x10), (9, .int y41_s0), (10, .int x16), (11, .int x23)]) hx hb dX7_tryRuler_94 hl (by decide) rfl (fun ls hl => ?_)
        refine lv_aload_n hx hb dX7_tryRuler_96 rfl (lv_at hl 1 rfl) ?_
        refine pl_get (v := .ref (ad 20)) hx hb hts (fun w h => mT (inX7 w h)) hown hG.1 hP (hst.1 18 (by decide)) hf2 rfl 2 (by decide) (hts _ (mT wg_434)) (fun _ h => h) rfl dX7_tryRuler_97 ?_
        refine lv_iload_n hx hb dX7_tryRuler_100 rfl (lv_at hl 2 rfl) ?_
        refine lv_iconst (v := 1) hx hb dX7_tryRuler_101 (by decide) ?_
        refine lv_iadd hx hb dX7_tryRuler_102 ?_
        refine lv_topi (fun x29 ex29 => ?_)
        obtain rfl : x29 = 2 := ex29.trans (by decide)
        obtain ⟨rw30, hf31⟩ := hT.1 20 (by decide)
        have hin32 : vp_in 2 7 := In.inb (⟨by decide, by decide⟩ : In 2 2 2) (by decide) (by decide)
        refine pl_iald hx hb hG.1 hP (hst.1 20 (by decide)) 0 hf31 rfl hin32 dX7_tryRuler_103 ?_
        refine lv_topi (fun x33 ex33 => ?_)
        refine lv_aload_n hx hb dX7_tryRuler_104 rfl (lv_at hl 1 rfl) ?_
        refine pl_get (v := .int v10_1) hx hb hts (fun w h => mT (inX7 w h)) hown hG.1 hP (hst.1 18 (by decide)) hf2 rfl 10 (by decide) (hts _ (mT wg_442)) (fun _ h => h) rfl dX7_tryRuler_105 ?_
        refine lv_isub hx hb dX7_tryRuler_108 ?_
        refine lv_topi (fun x34 ex34 => ?_)
        refine lv_istore (lv' := [(13, .int x34), (12, .int y94_s0), (0, .ref (ad 18)), (1, .int 1), (2, .int z2), (3, .int z3), (4, .long z4), (6, .int z5), (7, .int r5), (8, .int x10), (9, .int y41_s0), (10, .int x16), (11, .int x23)]) hx hb dX7_tryRuler_109 hl (by decide) rfl (fun ls hl => ?_)
        refine lv_aload_n hx hb dX7_tryRuler_111 rfl (lv_at hl 2 rfl) ?_
        refine pl_get (v := .int v8_1) hx hb hts (fun w h => mT (inX7 w h)) hown hG.1 hP (hst.1 18 (by decide)) hf2 rfl 8 (by decide) (hts _ (mT wg_440)) (fun _ h => h) rfl dX7_tryRuler_112 ?_
        refine lv_iload hx hb dX7_tryRuler_115 (lv_at hl 8 rfl) ?_
        refine call_i (run_SN (rm := rm_X10_bit) hx hb hml hown hts (s_X10_bit l g ad th _ _ _ v8_1 r5 hst hT ) cS_X10_bit wn_1043 ⟨Nat.le_of_ble_eq_true rfl, Nat.le_of_ble_eq_true rfl⟩ hG hE hA hP hD hS rfl hl.1 (As := [.int v8_1, .int r5]) (rest := []) rfl (Nat.le_of_ble_eq_true rfl) dX7_tryRuler_117 ⟨Nat.le_of_ble_eq_true rfl, Nat.le_of_ble_eq_true rfl⟩) hA hD hS (fun r35 L36 f37 H locs hp38 hP hD hS => ?_)
        obtain ⟨eL39L, eL39T, eL39R, eL39X0⟩ := hp38
        have eL39L : L36 = L := eL39L
        have eL39T : f37 = f := eL39T
        rw [eL39L, eL39T] at hP hD
        have eL39R : In r35 0 1 := eL39R
        refine lv_iconst (v := 1) hx hb dX7_tryRuler_120 (by decide) ?_
        have hJ134 : ∀ (y134_s0 : Int32) (H : Heap) (locs : List Loc) (ls : Array Slot), In y134_s0 1 512 → va_P g.1 vwCl (va_pl L f) H → va_D A (va_pl L f) → va_S A s.heap H locs → lv_has ls 21 [(0, .ref (ad 18)), (1, .int 1), (2, .int z2), (3, .int z3), (4, .long z4), (6, .int z5), (7, .int r5), (8, .int x10), (9, .int y41_s0), (10, .int x16), (11, .int x23), (12, .int y94_s0), (13, .int x34)] → W p l e rm_X7_tryRuler_1 s m [.ref (ad 18), .int 1, .int z2, .int z3, .long z4, .int z5].toArray below meth c H locs 0 0 (MQ below (va_Qv (po_X7_tryRuler_1 g ad th L f z2 z3 z4 z5) (PstB g A) A) [.ref (ad 18), .int 1, .int z2, .int z3, .long z4, .int z5].toArray s rm_X7_tryRuler_1.cells rm_X7_tryRuler_1.slots A) (F0 m 134 ls [.int y134_s0]) := by
          intro y134_s0 H locs ls hy134_s0 hP hD hS hl
          refine lv_istore (lv' := [(14, .int y134_s0), (0, .ref (ad 18)), (1, .int 1), (2, .int z2), (3, .int z3), (4, .long z4), (6, .int z5), (7, .int r5), (8, .int x10), (9, .int y41_s0), (10, .int x16), (11, .int x23), (12, .int y94_s0), (13, .int x34)]) hx hb dX7_tryRuler_134 hl (by decide) rfl (fun ls hl => ?_)
          refine lv_iconst (v := 0) hx hb dX7_tryRuler_136 (by decide) ?_
          refine lv_istore (lv' := [(15, .int 0), (14, .int y134_s0), (0, .ref (ad 18)), (1, .int 1), (2, .int z2), (3, .int z3), (4, .long z4), (6, .int z5), (7, .int r5), (8, .int x10), (9, .int y41_s0), (10, .int x16), (11, .int x23), (12, .int y94_s0), (13, .int x34)]) hx hb dX7_tryRuler_137 hl (by decide) rfl (fun ls hl => ?_)
          have hJ139 : ∀ (k139 : Nat) (y139_l15 : Int32) (f_139 : HP) (H : Heap) (locs : List Loc) (ls : Array Slot), In y139_l15 0 2147483647 → va_P g.1 vwCl (va_pl L f_139) H → va_D A (va_pl L f_139) → va_S A s.heap H locs → TI g ad th f_139 → (∀ b, b ≠ (ad 18) → b ≠ (ad 21) → b ≠ (ad 22) → b ≠ (ad 23) → f_139 b = f b) → f_139 (ad 20) = .inl (g.2.1 0, 7, .inl (rw30)) → f_139 (ad 8) = .inr (2, [.int v0_3, .int v1_3, .int v2_3, .int v3_3, .int v4_3, .int v5_3, .int v6_3, .int v7_3]) → lv_has ls 21 [(0, .ref (ad 18)), (1, .int 1), (2, .int z2), (3, .int z3), (4, .long z4), (6, .int z5), (7, .int r5), (8, .int x10), (9, .int y41_s0), (10, .int x16), (11, .int x23), (12, .int y94_s0), (13, .int x34), (14, .int y134_s0), (15, .int y139_l15)] → 2147483647 - y139_l15.toInt < ((k139 : Nat) : Int) → W p l e rm_X7_tryRuler_1 s m [.ref (ad 18), .int 1, .int z2, .int z3, .long z4, .int z5].toArray below meth c H locs 0 0 (MQ below (va_Qv (po_X7_tryRuler_1 g ad th L f z2 z3 z4 z5) (PstB g A) A) [.ref (ad 18), .int 1, .int z2, .int z3, .long z4, .int z5].toArray s rm_X7_tryRuler_1.cells rm_X7_tryRuler_1.slots A) (F0 m 139 ls []) := by
            intro k139
            induction k139 with
            | zero =>
              intro y139_l15 f_139 H locs ls hy139_l15 hP hD hS hT hfr hf40 hf41 hl hmz139
              exact ms0 hy139_l15 hmz139
            | succ k139 ih139 =>
              intro y139_l15 f_139 H locs ls hy139_l15 hP hD hS hT hfr hf40 hf41 hl hmz139
              refine lv_iload hx hb dX7_tryRuler_139 (lv_at hl 14 rfl) ?_
              refine lv_iload hx hb dX7_tryRuler_141 (lv_at hl 13 rfl) ?_
              refine lv_icmp_ge (tgt := 232) hx hb dX7_tryRuler_143 (by decide) (fun c42 => ?_) (fun c42 => ?_)
              ·
                have cc43 : y134_s0.toInt ≤ y139_l15.toInt := i32_le.mp c42
                have hb44 : In y139_l15 1 2147483647 := In.ge1 hy139_l15 hy134_s0 cc43 (by omega) (by omega)
                exact ret_v hx hb hr hlocks hP hD hS (Nat.le_of_ble_eq_true rfl) (Nat.le_of_ble_eq_true rfl) (⟨rfl, hT, hfr⟩) dX7_tryRuler_232
              ·
                have cc45 : y139_l15.toInt < y134_s0.toInt := i32_nle c42
                have hb46 : In y139_l15 0 511 := In.lt1 hy139_l15 hy134_s0 cc45 (by omega) (by omega)
                refine lv_aload_n hx hb dX7_tryRuler_146 rfl (lv_at hl 0 rfl) ?_
                obtain ⟨v6_47, v7_47, v8_47, v9_47, v10_47, v11_47, v12_47, v13_47, hf48, hv8_47, hv9_47, hv10_47, hv11_47, hv13_47⟩ := hT.1 18 (by decide)
                refine call_i (run_V (rm := rm_X7_isEnough) hx hb hml hown hts (s_X7_isEnough l g ad th _ _ _  hst hT ) cV_X7_isEnough wg_1070 ⟨Nat.le_of_ble_eq_true rfl, Nat.le_of_ble_eq_true rfl⟩ hG hE hA hP hD hS (hst.1 18 (by decide)) hf48 rfl rfl hl.1 (As := []) (rest := []) rfl (Nat.le_of_ble_eq_true rfl) dX7_tryRuler_147 ⟨Nat.le_of_ble_eq_true rfl, Nat.le_of_ble_eq_true rfl⟩) hA hD hS (fun r49 L50 f51 H locs hp52 hP hD hS => ?_)
                obtain ⟨eL53L, eL53T, eL53R⟩ := hp52
                have eL53L : L50 = L := eL53L
                have eL53T : f51 = f_139 := eL53T
                rw [eL53L, eL53T] at hP hD
                have eL53R : In r49 0 1 := eL53R
                refine lv_if_ne (tgt := 232) hx hb dX7_tryRuler_150 (by decide) (fun c54 => ?_) (fun c54 => ?_)
                ·
                  have oc0 : (0 : Int32).toInt = 0 := by decide
                  have cc55 : r49.toInt ≠ (0 : Int32).toInt := i32_ne c54
                  have hb56 : In r49 1 1 := In.ne1 eL53R (⟨by decide, by decide⟩ : In 0 0 0) cc55 (by omega) (by omega)
                  exact ret_v hx hb hr hlocks hP hD hS (Nat.le_of_ble_eq_true rfl) (Nat.le_of_ble_eq_true rfl) (⟨rfl, hT, hfr⟩) dX7_tryRuler_232
                ·
                  have oc0 : (0 : Int32).toInt = 0 := by decide
                  have cc57 : r49.toInt = (0 : Int32).toInt := congrArg Int32.toInt c54
                  have hb58 : In r49 0 0 := In.eq1 eL53R (⟨by decide, by decide⟩ : In 0 0 0) cc57 (by omega) (by omega)
                  refine lv_aload_n hx hb dX7_tryRuler_153 rfl (lv_at hl 0 rfl) ?_
                  refine lv_iload hx hb dX7_tryRuler_154 (lv_at hl 14 rfl) ?_
                  refine call_i (run_V (rm := rm_X7_spread) hx hb hml hown hts (s_X7_spread l g ad th _ _ _ y139_l15 hst hT ) cV_X7_spread wg_1098 ⟨Nat.le_of_ble_eq_true rfl, Nat.le_of_ble_eq_true rfl⟩ hG hE hA hP hD hS (hst.1 18 (by decide)) hf48 rfl rfl hl.1 (As := [.int y139_l15]) (rest := []) rfl (Nat.le_of_ble_eq_true rfl) dX7_tryRuler_156 ⟨Nat.le_of_ble_eq_true rfl, Nat.le_of_ble_eq_true rfl⟩) hA hD hS (fun r59 L60 f61 H locs hp62 hP hD hS => ?_)
                  obtain ⟨eL63L, eL63T, eL63R⟩ := hp62
                  have eL63L : L60 = L := eL63L
                  have eL63T : f61 = f_139 := eL63T
                  rw [eL63L, eL63T] at hP hD
                  have eL63R : In r59 0 511 := eL63R
                  refine lv_istore (lv' := [(16, .int r59), (0, .ref (ad 18)), (1, .int 1), (2, .int z2), (3, .int z3), (4, .long z4), (6, .int z5), (7, .int r5), (8, .int x10), (9, .int y41_s0), (10, .int x16), (11, .int x23), (12, .int y94_s0), (13, .int x34), (14, .int y134_s0), (15, .int y139_l15)]) hx hb dX7_tryRuler_159 hl (by decide) rfl (fun ls hl => ?_)
                  refine lv_iload hx hb dX7_tryRuler_161 (lv_at hl 0 rfl) ?_
                  refine lv_iload hx hb dX7_tryRuler_163 (lv_at hl 11 rfl) ?_
                  refine lv_iconst (v := (-1)) hx hb dX7_tryRuler_165 (by decide) ?_
                  refine lv_ixor hx hb dX7_tryRuler_166 ?_
                  refine lv_topi (fun x64 ex64 => ?_)
                  refine lv_iand hx hb dX7_tryRuler_167 ?_
                  refine lv_topi (fun x65 ex65 => ?_)
                  have hb66 : In x65 0 511 := ex65 ▸ In.andl eL63R (by decide)
                  have hJ226 : ∀ (f_226 : HP) (H : Heap) (locs : List Loc) (ls : Array Slot), va_P g.1 vwCl (va_pl L f_226) H → va_D A (va_pl L f_226) → va_S A s.heap H locs → TI g ad th f_226 → (∀ b, b ≠ (ad 18) → b ≠ (ad 21) → b ≠ (ad 22) → b ≠ (ad 23) → f_226 b = f b) → f_226 (ad 20) = .inl (g.2.1 0, 7, .inl (rw30)) → f_226 (ad 8) = .inr (2, [.int v0_3, .int v1_3, .int v2_3, .int v3_3, .int v4_3, .int v5_3, .int v6_3, .int v7_3]) → lv_has ls 21 [(0, .ref (ad 18)), (1, .int 1), (2, .int z2), (3, .int z3), (4, .long z4), (6, .int z5), (7, .int r5), (8, .int x10), (9, .int y41_s0), (10, .int x16), (11, .int x23), (12, .int y94_s0), (13, .int x34), (14, .int y134_s0), (15, .int y139_l15), (16, .int r59)] → W p l e rm_X7_tryRuler_1 s m [.ref (ad 18), .int 1, .int z2, .int z3, .long z4, .int z5].toArray below meth c H locs 0 0 (MQ below (va_Qv (po_X7_tryRuler_1 g ad th L f z2 z3 z4 z5) (PstB g A) A) [.ref (ad 18), .int 1, .int z2, .int z3, .long z4, .int z5].toArray s rm_X7_tryRuler_1.cells rm_X7_tryRuler_1.slots A) (F0 m 226 ls []) := by
                    intro f_226 H locs ls hP hD hS hT hfr hf67 hf68 hl
                    obtain ⟨x69, ex69⟩ : ∃ y : Int32, y = y139_l15 + 1 := ⟨_, rfl⟩
                    have hb70 : In x69 1 512 := ex69 ▸ In.add hb46 (⟨by decide, by decide⟩ : In 1 1 1) (by decide) (by decide) (by decide) (by decide)
                    have et71 : x69.toInt = y139_l15.toInt + 1 := In.adde ex69 hb46 (k := 1) (by decide) (by decide) (by decide)
                    refine lv_iinc (v := x69) (lv' := [(15, .int x69), (0, .ref (ad 18)), (1, .int 1), (2, .int z2), (3, .int z3), (4, .long z4), (6, .int z5), (7, .int r5), (8, .int x10), (9, .int y41_s0), (10, .int x16), (11, .int x23), (12, .int y94_s0), (13, .int x34), (14, .int y134_s0), (16, .int r59)]) hx hb dX7_tryRuler_226 hl (k := 14) rfl (by rw [ex69]; rfl) (by decide) rfl (fun ls hl => ?_)
                    refine lv_goto (tgt := 139) hx hb dX7_tryRuler_229 (by decide) ?_
                    exact ih139 x69 _ _ _ _ (In.mono hb70 (by decide) (by decide)) hP hD hS hT hfr hf67 hf68 (lv_sub hl [1, 2, 3, 4, 5, 6, 7, 8, 9, 10, 11, 12, 13, 14, 0] rfl) (msu et71 (by decide) hmz139)
                  refine lv_if_ne (tgt := 226) hx hb dX7_tryRuler_168 (by decide) (fun c72 => ?_) (fun c72 => ?_)
                  ·
                    have oc0 : (0 : Int32).toInt = 0 := by decide
                    have cc73 : x65.toInt ≠ (0 : Int32).toInt := i32_ne c72
                    have hb74 : In x65 1 511 := In.ne1 hb66 (⟨by decide, by decide⟩ : In 0 0 0) cc73 (by omega) (by omega)
                    exact hJ226 _ _ _ _ hP hD hS hT hfr hf40 hf41 (lv_sub hl [1, 2, 3, 4, 5, 6, 7, 8, 9, 10, 11, 12, 13, 14, 15, 0] rfl)
                  ·
                    have oc0 : (0 : Int32).toInt = 0 := by decide
                    have cc75 : x65.toInt = (0 : Int32).toInt := congrArg Int32.toInt c72
                    have hb76 : In x65 0 0 := In.eq1 hb66 (⟨by decide, by decide⟩ : In 0 0 0) cc75 (by omega) (by omega)
                    refine lv_iload hx hb dX7_tryRuler_171 (lv_at hl 12 rfl) ?_
                    refine lv_iload hx hb dX7_tryRuler_173 (lv_at hl 0 rfl) ?_
                    refine lv_ior hx hb dX7_tryRuler_175 ?_
                    refine lv_topi (fun x77 ex77 => ?_)
                    have hb78 : In x77 0 511 := ex77 ▸ In.or 9 hy94_s0 eL63R (by decide) (by decide) (by decide) (by decide) (by decide)
                    refine lv_istore (lv' := [(17, .int x77), (16, .int r59), (0, .ref (ad 18)), (1, .int 1), (2, .int z2), (3, .int z3), (4, .long z4), (6, .int z5), (7, .int r5), (8, .int x10), (9, .int y41_s0), (10, .int x16), (11, .int x23), (12, .int y94_s0), (13, .int x34), (14, .int y134_s0), (15, .int y139_l15)]) hx hb dX7_tryRuler_176 hl (by decide) rfl (fun ls hl => ?_)
                    refine lv_iload_n hx hb dX7_tryRuler_178 rfl (lv_at hl 4 rfl) ?_
                    refine lv_iload hx hb dX7_tryRuler_179 (lv_at hl 11 rfl) ?_
                    refine lv_iconst (v := (-1)) hx hb dX7_tryRuler_181 (by decide) ?_
                    refine lv_ixor hx hb dX7_tryRuler_182 ?_
                    refine lv_topi (fun x79 ex79 => ?_)
                    refine lv_iand hx hb dX7_tryRuler_183 ?_
                    refine lv_topi (fun x80 ex80 => ?_)
                    have hb81 : In x80 0 511 := ex80 ▸ In.andl hz2 (by decide)
                    refine lv_iload hx hb dX7_tryRuler_184 (lv_at hl 0 rfl) ?_
                    refine lv_iload hx hb dX7_tryRuler_186 (lv_at hl 11 rfl) ?_
                    refine lv_iand hx hb dX7_tryRuler_188 ?_
                    refine lv_topi (fun x82 ex82 => ?_)
                    have hb83 : In x82 0 511 := ex82 ▸ In.andr hb17 (by decide)
                    refine lv_ior hx hb dX7_tryRuler_189 ?_
                    refine lv_topi (fun x84 ex84 => ?_)
                    have hb85 : In x84 0 511 := ex84 ▸ In.or 9 hb81 hb83 (by decide) (by decide) (by decide) (by decide) (by decide)
                    refine lv_istore (lv' := [(18, .int x84), (17, .int x77), (16, .int r59), (0, .ref (ad 18)), (1, .int 1), (2, .int z2), (3, .int z3), (4, .long z4), (6, .int z5), (7, .int r5), (8, .int x10), (9, .int y41_s0), (10, .int x16), (11, .int x23), (12, .int y94_s0), (13, .int x34), (14, .int y134_s0), (15, .int y139_l15)]) hx hb dX7_tryRuler_190 hl (by decide) rfl (fun ls hl => ?_)
                    refine lv_iload_n hx hb dX7_tryRuler_192 rfl (lv_at hl 6 rfl) ?_
                    refine lv_iload hx hb dX7_tryRuler_193 (lv_at hl 1 rfl) ?_
                    refine lv_iload_n hx hb dX7_tryRuler_195 rfl (lv_at hl 5 rfl) ?_
                    refine lv_ixor hx hb dX7_tryRuler_196 ?_
                    refine lv_topi (fun x86 ex86 => ?_)
                    have hb87 : In x86 0 511 := ex86 ▸ In.xor 9 hb78 hz2 (by decide) (by decide) (by decide) (by decide) (by decide)
                    refine lv_iand hx hb dX7_tryRuler_197 ?_
                    refine lv_topi (fun x88 ex88 => ?_)
                    have hb89 : In x88 0 511 := ex88 ▸ In.andr hb87 (by decide)
                    refine lv_i2l hx hb dX7_tryRuler_198 rfl ?_
                    refine lv_lstore (lv' := [(19, .long (x88.toInt64)), (18, .int x84), (17, .int x77), (16, .int r59), (0, .ref (ad 18)), (1, .int 1), (2, .int z2), (3, .int z3), (4, .long z4), (6, .int z5), (7, .int r5), (8, .int x10), (9, .int y41_s0), (10, .int x16), (11, .int x23), (12, .int y94_s0), (13, .int x34), (14, .int y134_s0), (15, .int y139_l15)]) hx hb dX7_tryRuler_199 hl (by decide) rfl (fun ls hl => ?_)
                    refine lv_aload_n hx hb dX7_tryRuler_201 rfl (lv_at hl 4 rfl) ?_
                    refine lv_iload_n hx hb dX7_tryRuler_202 rfl (lv_at hl 5 rfl) ?_
                    refine lv_iconst (v := 1) hx hb dX7_tryRuler_203 (by decide) ?_
                    refine lv_iadd hx hb dX7_tryRuler_204 ?_
                    refine lv_topi (fun x90 ex90 => ?_)
                    obtain rfl : x90 = 2 := ex90.trans (by decide)
                    refine lv_iload hx hb dX7_tryRuler_205 (lv_at hl 1 rfl) ?_
                    refine lv_lload hx hb dX7_tryRuler_207 (lv_at hl 8 rfl) ?_
                    refine lv_lload hx hb dX7_tryRuler_209 (lv_at hl 0 rfl) ?_
                    refine lv_iload hx hb dX7_tryRuler_211 (lv_at hl 11 rfl) ?_
                    refine lv_lshl hx hb dX7_tryRuler_213 rfl ?_
                    refine lv_topl (fun x91 ex91 => ?_)
                    refine lv_lor hx hb dX7_tryRuler_214 ?_
                    refine lv_topl (fun x92 ex92 => ?_)
                    refine lv_iload hx hb dX7_tryRuler_215 (lv_at hl 9 rfl) ?_
                    refine lv_iload hx hb dX7_tryRuler_217 (lv_at hl 18 rfl) ?_
                    refine lv_iload hx hb dX7_tryRuler_219 (lv_at hl 16 rfl) ?_
                    refine lv_ishl hx hb dX7_tryRuler_221 ?_
                    refine lv_topi (fun x93 ex93 => ?_)
                    refine lv_ior hx hb dX7_tryRuler_222 ?_
                    refine lv_topi (fun x94 ex94 => ?_)
                    refine call_v (run_V (rm := rm_X7_explore_2) hx hb hml hown hts (s_X7_explore_2 l g ad th _ _ _ x84 x92 x94 hst hT hb85) cV_X7_explore wg_1049 ⟨Nat.le_of_ble_eq_true rfl, Nat.le_of_ble_eq_true rfl⟩ hG hE hA hP hD hS (hst.1 18 (by decide)) hf48 rfl rfl hl.1 (As := [.int 2, .int x84, .long x92, .int x94]) (rest := []) rfl (Nat.le_of_ble_eq_true rfl) dX7_tryRuler_223 ⟨Nat.le_of_ble_eq_true rfl, Nat.le_of_ble_eq_true rfl⟩) hA hD hS (fun L96 f97 H locs hp98 hP hD hS => ?_)
                    obtain ⟨eL99L, eL99T, eL99F⟩ := hp98
                    have eL99L : L96 = L := eL99L
                    rw [eL99L] at hP hD
                    have hT : TI g ad th f97 := eL99T
                    have eL99F : ∀ b, b ≠ (ad 18) → b ≠ (ad 21) → b ≠ (ad 22) → b ≠ (ad 23) → f97 b = f_139 b := eL99F
                    have hf100 := (eL99F (ad 8) (hst.ne (by decide) (by decide) (by decide)) (hst.ne (by decide) (by decide) (by decide)) (hst.ne (by decide) (by decide) (by decide)) (hst.ne (by decide) (by decide) (by decide))).trans hf41
                    have hf101 := (eL99F (ad 20) (hst.ne (by decide) (by decide) (by decide)) (hst.ne (by decide) (by decide) (by decide)) (hst.ne (by decide) (by decide) (by decide)) (hst.ne (by decide) (by decide) (by decide))).trans hf40
                    have hfr : (∀ b, b ≠ (ad 18) → b ≠ (ad 21) → b ≠ (ad 22) → b ≠ (ad 23) → f97 b = f b) := fun b z0_ z1_ z2_ z3_ => (eL99F b z0_ z1_ z2_ z3_).trans (hfr b z0_ z1_ z2_ z3_)
                    exact hJ226 _ _ _ _ hP hD hS hT hfr hf101 hf100 (lv_sub hl [4, 5, 6, 7, 8, 9, 10, 11, 12, 13, 14, 15, 16, 17, 18, 3] rfl)
          exact hJ139 ((2147483647 - (0 : Int32).toInt).toNat + 1) 0 _ _ _ _ (⟨by decide, by decide⟩ : In 0 0 2147483647) hP hD hS hT hfr hf31 hf4 (lv_sub hl [2, 3, 4, 5, 6, 7, 8, 9, 10, 11, 12, 13, 14, 1, 0] rfl) (msI _)
        refine lv_icmp_ne (tgt := 133) hx hb dX7_tryRuler_121 (by decide) (fun c102 => ?_) (fun c102 => ?_)
        ·
          have oc1 : (1 : Int32).toInt = 1 := by decide
          have cc103 : r35.toInt ≠ (1 : Int32).toInt := i32_ne c102
          have hb104 : In r35 0 0 := In.ne1 eL39R (⟨by decide, by decide⟩ : In 1 1 1) cc103 (by omega) (by omega)
          refine lv_iconst (v := 1) hx hb dX7_tryRuler_133 (by decide) ?_
          exact hJ134 1 _ _ _ (⟨by decide, by decide⟩ : In 1 1 512) hP hD hS (lv_sub hl [2, 3, 4, 5, 6, 7, 8, 9, 10, 11, 12, 1, 0] rfl)
        ·
          have oc1 : (1 : Int32).toInt = 1 := by decide
          have cc105 : r35.toInt = (1 : Int32).toInt := congrArg Int32.toInt c102
          have hb106 : In r35 1 1 := In.eq1 eL39R (⟨by decide, by decide⟩ : In 1 1 1) cc105 (by omega) (by omega)
          refine lv_iconst (v := 1) hx hb dX7_tryRuler_124 (by decide) ?_
          refine lv_aload_n hx hb dX7_tryRuler_125 rfl (lv_at hl 2 rfl) ?_
          refine pl_get (v := .int v10_1) hx hb hts (fun w h => mT (inX7 w h)) hown hG.1 hP (hst.1 18 (by decide)) hf2 rfl 10 (by decide) (hts _ (mT wg_442)) (fun _ h => h) rfl dX7_tryRuler_126 ?_
          refine lv_ishl hx hb dX7_tryRuler_129 ?_
          refine lv_topi (fun x107 ex107 => ?_)
          have hb108 : In x107 1 512 := ex107 ▸ In.shl (⟨by decide, by decide⟩ : In 1 1 1) hv10_1 (by decide) (by decide) (by decide) (by decide) (by decide) (by decide)
          refine lv_goto (tgt := 134) hx hb dX7_tryRuler_130 (by decide) ?_
          exact hJ134 x107 _ _ _ hb108 hP hD hS (lv_sub hl [2, 3, 4, 5, 6, 7, 8, 9, 10, 11, 12, 1, 0] rfl)
      refine lv_icmp_ne (tgt := 93) hx hb dX7_tryRuler_83 (by decide) (fun c109 => ?_) (fun c109 => ?_)
      ·
        have oc1 : (1 : Int32).toInt = 1 := by decide
        have cc110 : r24.toInt ≠ (1 : Int32).toInt := i32_ne c109
        have hb111 : In r24 0 0 := In.ne1 eL28R (⟨by decide, by decide⟩ : In 1 1 1) cc110 (by omega) (by omega)
        refine lv_iconst (v := 0) hx hb dX7_tryRuler_93 (by decide) ?_
        exact hJ94 0 _ _ _ (⟨by decide, by decide⟩ : In 0 0 511) hP hD hS (lv_sub hl [1, 2, 3, 4, 5, 6, 7, 8, 9, 10, 0] rfl)
      ·
        have oc1 : (1 : Int32).toInt = 1 := by decide
        have cc112 : r24.toInt = (1 : Int32).toInt := congrArg Int32.toInt c109
        have hb113 : In r24 1 1 := In.eq1 eL28R (⟨by decide, by decide⟩ : In 1 1 1) cc112 (by omega) (by omega)
        refine lv_aload_n hx hb dX7_tryRuler_86 rfl (lv_at hl 1 rfl) ?_
        refine pl_get (v := .int v9_1) hx hb hts (fun w h => mT (inX7 w h)) hown hG.1 hP (hst.1 18 (by decide)) hf2 rfl 9 (by decide) (hts _ (mT wg_441)) (fun _ h => h) rfl dX7_tryRuler_87 ?_
        refine lv_goto (tgt := 94) hx hb dX7_tryRuler_90 (by decide) ?_
        exact hJ94 v9_1 _ _ _ hv9_1 hP hD hS (lv_sub hl [1, 2, 3, 4, 5, 6, 7, 8, 9, 10, 0] rfl)
    refine lv_if_eq (tgt := 72) hx hb dX7_tryRuler_65 (by decide) (fun c114 => ?_) (fun c114 => ?_)
    ·
      have oc0 : (0 : Int32).toInt = 0 := by decide
      have cc115 : r18.toInt = (0 : Int32).toInt := congrArg Int32.toInt c114
      have hb116 : In r18 0 0 := In.eq1 eL22R (⟨by decide, by decide⟩ : In 0 0 0) cc115 (by omega) (by omega)
      refine lv_iconst (v := 0) hx hb dX7_tryRuler_72 (by decide) ?_
      exact hJ73 0 _ _ _ (⟨by decide, by decide⟩ : In 0 (-2147483648) 2147483647) hP hD hS (lv_sub hl [2, 3, 4, 5, 6, 7, 8, 9, 1, 0] rfl)
    ·
      have oc0 : (0 : Int32).toInt = 0 := by decide
      have cc117 : r18.toInt ≠ (0 : Int32).toInt := i32_ne c114
      have hb118 : In r18 1 1 := In.ne1 eL22R (⟨by decide, by decide⟩ : In 0 0 0) cc117 (by omega) (by omega)
      refine lv_iload_n hx hb dX7_tryRuler_68 rfl (lv_at hl 5 rfl) ?_
      refine lv_goto (tgt := 73) hx hb dX7_tryRuler_69 (by decide) ?_
      exact hJ73 z3 _ _ _ (In.full z3) hP hD hS (lv_sub hl [2, 3, 4, 5, 6, 7, 8, 9, 1, 0] rfl)
  refine lv_if_eq (tgt := 40) hx hb dX7_tryRuler_24 (by decide) (fun c119 => ?_) (fun c119 => ?_)
  ·
    have oc0 : (0 : Int32).toInt = 0 := by decide
    have cc120 : v6_3.toInt = (0 : Int32).toInt := congrArg Int32.toInt c119
    have hb121 : In v6_3 0 0 := In.eq1 hv6_3 (⟨by decide, by decide⟩ : In 0 0 0) cc120 (by omega) (by omega)
    refine lv_iconst (v := 0) hx hb dX7_tryRuler_40 (by decide) ?_
    exact hJ41 0 _ _ _ (⟨by decide, by decide⟩ : In 0 0 511) hP hD hS (lv_sub hl [2, 3, 4, 5, 6, 7, 1, 0] rfl)
  ·
    have oc0 : (0 : Int32).toInt = 0 := by decide
    have cc122 : v6_3.toInt ≠ (0 : Int32).toInt := i32_ne c119
    have hb123 : In v6_3 1 1 := In.ne1 hv6_3 (⟨by decide, by decide⟩ : In 0 0 0) cc122 (by omega) (by omega)
    refine lv_lload hx hb dX7_tryRuler_27 (lv_at hl 6 rfl) ?_
    refine lv_iload hx hb dX7_tryRuler_29 (lv_at hl 0 rfl) ?_
    refine lv_lushr hx hb dX7_tryRuler_31 rfl ?_
    refine lv_topl (fun x124 ex124 => ?_)
    refine lv_l2i hx hb dX7_tryRuler_32 rfl ?_
    refine lv_topi (fun x125 ex125 => ?_)
    refine lv_sipush (v := 511) hx hb dX7_tryRuler_33 (by decide) ?_
    refine lv_iand hx hb dX7_tryRuler_36 ?_
    refine lv_topi (fun x126 ex126 => ?_)
    have hb127 : In x126 0 511 := ex126 ▸ In.andr (⟨by decide, by decide⟩ : In 511 511 511) (by decide)
    refine lv_goto (tgt := 41) hx hb dX7_tryRuler_37 (by decide) ?_
    exact hJ41 x126 _ _ _ hb127 hP hD hS (lv_sub hl [2, 3, 4, 5, 6, 7, 1, 0] rfl)

abbrev rm_X7_tryViews_1 : Room := { frames := 19, cells := 0, slots := 0, locals := 653 }
abbrev po_X7_tryViews_1 (g : GG) (ad : Nat → Nat) (th : Nat → Int) (L : List Nat) (f : HP) (z2 : Int32) (z3 : Int64) (z4 : Int32) (z5 : Int32) : (List Nat × HP) → Prop := fun u => u.1 = L ∧ TI g ad th u.2 ∧ (∀ b, b ≠ (ad 18) → b ≠ (ad 21) → b ≠ (ad 22) → b ≠ (ad 23) → u.2 b = f b)
set_option maxHeartbeats 4000000 in
set_option maxRecDepth 100000 in
theorem s_X7_tryViews_1 (l : Launch) (g : GG) (ad : Nat → Nat) (th : Nat → Int) (L : List Nat) (f : HP) (sz : Nat) (z2 : Int32) (z3 : Int64) (z4 : Int32) (z5 : Int32) (hst : ST ad L) (hT : TI g ad th f) (hz2 : In z2 0 511) : MtV l g yX7_tryViews cX7_tryViews 20 rm_X7_tryViews_1 [.ref (ad 18), .int 1, .int z2, .long z3, .int z4, .int z5] L f sz (po_X7_tryViews_1 g ad th L f z2 z3 z4 z5) := by
  refine MtV.of (by decide +kernel) (Nat.le_of_ble_eq_true rfl) ?_
  intro p e s m below meth c A hEn hP hD hS ls hl
  obtain ⟨hx, hb, hr, hml, hown, hlocks, hts, hG, hA, hE, hnm⟩ := hEn
  have hown : s.vm.findClass "RulerWord$Search" = some m.cls := hown
  have hl : lv_has ls 20 [(0, .ref (ad 18)), (1, .int 1), (2, .int z2), (3, .long z3), (5, .int z4), (6, .int z5)] := hl
  have hfr : (∀ b, b ≠ (ad 18) → b ≠ (ad 21) → b ≠ (ad 22) → b ≠ (ad 23) → f b = f b) := fun b z0_ z1_ z2_ z3_ => rfl
  refine lv_iload_n hx hb dX7_tryViews_0 rfl (lv_at hl 1 rfl) ?_
  refine lv_iconst (v := 2) hx hb dX7_tryViews_1 (by decide) ?_
  refine lv_imul hx hb dX7_tryViews_2 ?_
  refine lv_topi (fun x1 ex1 => ?_)
  obtain rfl : x1 = 2 := ex1.trans (by decide)
  refine lv_iconst (v := 1) hx hb dX7_tryViews_3 (by decide) ?_
  refine lv_iadd hx hb dX7_tryViews_4 ?_
  refine lv_topi (fun x2 ex2 => ?_)
  obtain rfl : x2 = 3 := ex2.trans (by decide)
  refine lv_bipush (v := 9) hx hb dX7_tryViews_5 (by decide) ?_
  refine lv_imul hx hb dX7_tryViews_7 ?_
  refine lv_topi (fun x3 ex3 => ?_)
  obtain rfl : x3 = 27 := ex3.trans (by decide)
  refine lv_istore (lv' := [(7, .int 27), (0, .ref (ad 18)), (1, .int 1), (2, .int z2), (3, .long z3), (5, .int z4), (6, .int z5)]) hx hb dX7_tryViews_8 hl (by decide) rfl (fun ls hl => ?_)
  refine lv_iload hx hb dX7_tryViews_10 (lv_at hl 5 rfl) ?_
  refine lv_sipush (v := 511) hx hb dX7_tryViews_12 (by decide) ?_
  refine lv_iand hx hb dX7_tryViews_15 ?_
  refine lv_topi (fun x4 ex4 => ?_)
  have hb5 : In x4 0 511 := ex4 ▸ In.andr (⟨by decide, by decide⟩ : In 511 511 511) (by decide)
  refine call_i (run_S (rm := rm_J6_bitCount_0f7a4) hx hb hml hown hts (s_J6_bitCount_0f7a4 l g ad th _ _ _ x4 hst hT ) cS_J6_bitCount_0f7a4 wg_1042 ⟨Nat.le_of_ble_eq_true rfl, Nat.le_of_ble_eq_true rfl⟩ hG hE hA hP hD hS rfl hl.1 (As := [.int x4]) (rest := []) rfl (Nat.le_of_ble_eq_true rfl) dX7_tryViews_16 ⟨Nat.le_of_ble_eq_true rfl, Nat.le_of_ble_eq_true rfl⟩) hA hD hS (fun r6 L7 f8 H locs hp9 hP hD hS => ?_)
  obtain ⟨eL10L, eL10T, eL10R, eL10X0⟩ := hp9
  have eL10L : L7 = L := eL10L
  have eL10T : f8 = f := eL10T
  rw [eL10L, eL10T] at hP hD
  have eL10R : In r6 0 63 := eL10R
  have hb11 : In r6 0 9 := bc9 hb5 eL10X0
  refine lv_istore (lv' := [(8, .int r6), (7, .int 27), (0, .ref (ad 18)), (1, .int 1), (2, .int z2), (3, .long z3), (5, .int z4), (6, .int z5)]) hx hb dX7_tryViews_19 hl (by decide) rfl (fun ls hl => ?_)
  refine lv_iload hx hb dX7_tryViews_21 (lv_at hl 6 rfl) ?_
  refine lv_bipush (v := 9) hx hb dX7_tryViews_23 (by decide) ?_
  refine lv_iushr hx hb dX7_tryViews_25 rfl ?_
  refine lv_topi (fun x12 ex12 => ?_)
  refine call_i (run_S (rm := rm_J6_bitCount_0f7a4) hx hb hml hown hts (s_J6_bitCount_0f7a4 l g ad th _ _ _ x12 hst hT ) cS_J6_bitCount_0f7a4 wg_1042 ⟨Nat.le_of_ble_eq_true rfl, Nat.le_of_ble_eq_true rfl⟩ hG hE hA hP hD hS rfl hl.1 (As := [.int x12]) (rest := []) rfl (Nat.le_of_ble_eq_true rfl) dX7_tryViews_26 ⟨Nat.le_of_ble_eq_true rfl, Nat.le_of_ble_eq_true rfl⟩) hA hD hS (fun r13 L14 f15 H locs hp16 hP hD hS => ?_)
  obtain ⟨eL17L, eL17T, eL17R, eL17X0⟩ := hp16
  have eL17L : L14 = L := eL17L
  have eL17T : f15 = f := eL17T
  rw [eL17L, eL17T] at hP hD
  have eL17R : In r13 0 63 := eL17R
  refine lv_istore (lv' := [(9, .int r13), (8, .int r6), (7, .int 27), (0, .ref (ad 18)), (1, .int 1), (2, .int z2), (3, .long z3), (5, .int z4), (6, .int z5)]) hx hb dX7_tryViews_29 hl (by decide) rfl (fun ls hl => ?_)
  refine lv_iconst (v := 0) hx hb dX7_tryViews_31 (by decide) ?_
  refine lv_istore (lv' := [(10, .int 0), (9, .int r13), (8, .int r6), (7, .int 27), (0, .ref (ad 18)), (1, .int 1), (2, .int z2), (3, .long z3), (5, .int z4), (6, .int z5)]) hx hb dX7_tryViews_32 hl (by decide) rfl (fun ls hl => ?_)
  refine lv_iconst (v := 0) hx hb dX7_tryViews_34 (by decide) ?_
  refine lv_istore (lv' := [(11, .int 0), (10, .int 0), (9, .int r13), (8, .int r6), (7, .int 27), (0, .ref (ad 18)), (1, .int 1), (2, .int z2), (3, .long z3), (5, .int z4), (6, .int z5)]) hx hb dX7_tryViews_35 hl (by decide) rfl (fun ls hl => ?_)
  have hJ37 : ∀ (k37 : Nat) (y37_l10 : Int32) (y37_l11 : Int32) (f_37 : HP) (H : Heap) (locs : List Loc) (ls : Array Slot), In y37_l10 0 9 → In y37_l11 0 9 → va_P g.1 vwCl (va_pl L f_37) H → va_D A (va_pl L f_37) → va_S A s.heap H locs → TI g ad th f_37 → (∀ b, b ≠ (ad 18) → b ≠ (ad 21) → b ≠ (ad 22) → b ≠ (ad 23) → f_37 b = f b) → (y37_l10.toInt ≤ y37_l11.toInt ∧ (y37_l11.toInt = 0 ∨ 1 ≤ y37_l10.toInt)) → lv_has ls 20 [(0, .ref (ad 18)), (1, .int 1), (2, .int z2), (3, .long z3), (5, .int z4), (6, .int z5), (7, .int 27), (8, .int r6), (9, .int r13), (10, .int y37_l10), (11, .int y37_l11)] → 9 - y37_l11.toInt < ((k37 : Nat) : Int) → W p l e rm_X7_tryViews_1 s m [.ref (ad 18), .int 1, .int z2, .long z3, .int z4, .int z5].toArray below meth c H locs 0 0 (MQ below (va_Qv (po_X7_tryViews_1 g ad th L f z2 z3 z4 z5) (PstB g A) A) [.ref (ad 18), .int 1, .int z2, .long z3, .int z4, .int z5].toArray s rm_X7_tryViews_1.cells rm_X7_tryViews_1.slots A) (F0 m 37 ls []) := by
    intro k37
    induction k37 with
    | zero =>
      intro y37_l10 y37_l11 f_37 H locs ls hy37_l10 hy37_l11 hP hD hS hT hfr hinv37_0 hl hmz37
      exact ms0 hy37_l11 hmz37
    | succ k37 ih37 =>
      intro y37_l10 y37_l11 f_37 H locs ls hy37_l10 hy37_l11 hP hD hS hT hfr hinv37_0 hl hmz37
      refine lv_iload hx hb dX7_tryViews_37 (lv_at hl 10 rfl) ?_
      refine lv_aload_n hx hb dX7_tryViews_39 rfl (lv_at hl 0 rfl) ?_
      obtain ⟨v6_18, v7_18, v8_18, v9_18, v10_18, v11_18, v12_18, v13_18, hf19, hv8_18, hv9_18, hv10_18, hv11_18, hv13_18⟩ := hT.1 18 (by decide)
      refine pl_get (v := .int v11_18) hx hb hts (fun w h => mT (inX7 w h)) hown hG.1 hP (hst.1 18 (by decide)) hf19 rfl 11 (by decide) (hts _ (mT wg_443)) (fun _ h => h) rfl dX7_tryViews_40 ?_
      refine lv_icmp_gt (tgt := 90) hx hb dX7_tryViews_43 (by decide) (fun c20 => ?_) (fun c20 => ?_)
      ·
        have cc21 : v11_18.toInt < y37_l11.toInt := i32_lt.mp c20
        have hb22 : In y37_l11 1 9 := In.gt1 hy37_l11 hv11_18 cc21 (by omega) (by omega)
        refine lv_aload_n hx hb dX7_tryViews_90 rfl (lv_at hl 0 rfl) ?_
        refine pl_get (v := .ref (ad 20)) hx hb hts (fun w h => mT (inX7 w h)) hown hG.1 hP (hst.1 18 (by decide)) hf19 rfl 2 (by decide) (hts _ (mT wg_434)) (fun _ h => h) rfl dX7_tryViews_91 ?_
        refine lv_iload_n hx hb dX7_tryViews_94 rfl (lv_at hl 1 rfl) ?_
        obtain ⟨rw23, hf24⟩ := hT.1 20 (by decide)
        have hin25 : vp_in 1 7 := In.inb (⟨by decide, by decide⟩ : In 1 1 1) (by decide) (by decide)
        refine pl_iald hx hb hG.1 hP (hst.1 20 (by decide)) 0 hf24 rfl hin25 dX7_tryViews_95 ?_
        refine lv_topi (fun x26 ex26 => ?_)
        refine lv_aload_n hx hb dX7_tryViews_96 rfl (lv_at hl 0 rfl) ?_
        refine pl_get (v := .ref (ad 8)) hx hb hts (fun w h => mT (inX7 w h)) hown hG.1 hP (hst.1 18 (by decide)) hf19 rfl 0 (by decide) (hts _ (mT wg_432)) (fun _ h => h) rfl dX7_tryViews_97 ?_
        obtain ⟨v0_27, v1_27, v2_27, v3_27, v4_27, v5_27, v6_27, v7_27, hf28, hv0_27, hv1_27, hv2_27, hv3_27, hv5_27, hv6_27⟩ := hT.1 8 (by decide)
        refine pl_getN (v := .int v0_27) hx hb hts (fun w h => mT (inX2 w h)) hown hG.1 hP (hst.1 8 (by decide)) hf28 rfl 0 (by decide) (hG.2.1 _ wn_225) (fun _ h => h) rfl dX7_tryViews_100 ?_
        have hJ119 : ∀ (y119_s0 : Int32) (H : Heap) (locs : List Loc) (ls : Array Slot), In y119_s0 0 81 → va_P g.1 vwCl (va_pl L f_37) H → va_D A (va_pl L f_37) → va_S A s.heap H locs → lv_has ls 20 [(0, .ref (ad 18)), (1, .int 1), (2, .int z2), (3, .long z3), (5, .int z4), (6, .int z5), (7, .int 27), (8, .int r6), (9, .int r13), (10, .int y37_l10), (11, .int y37_l11)] → W p l e rm_X7_tryViews_1 s m [.ref (ad 18), .int 1, .int z2, .long z3, .int z4, .int z5].toArray below meth c H locs 0 0 (MQ below (va_Qv (po_X7_tryViews_1 g ad th L f z2 z3 z4 z5) (PstB g A) A) [.ref (ad 18), .int 1, .int z2, .long z3, .int z4, .int z5].toArray s rm_X7_tryViews_1.cells rm_X7_tryViews_1.slots A) (F0 m 119 ls [.int y119_s0, .int x26]) := by
          intro y119_s0 H locs ls hy119_s0 hP hD hS hl
          refine lv_iadd hx hb dX7_tryViews_119 ?_
          refine lv_topi (fun x29 ex29 => ?_)
          refine lv_istore (lv' := [(11, .int x29), (0, .ref (ad 18)), (1, .int 1), (2, .int z2), (3, .long z3), (5, .int z4), (6, .int z5), (7, .int 27), (8, .int r6), (9, .int r13), (10, .int y37_l10)]) hx hb dX7_tryViews_120 hl (by decide) rfl (fun ls hl => ?_)
          refine lv_aload_n hx hb dX7_tryViews_122 rfl (lv_at hl 1 rfl) ?_
          refine lv_iload hx hb dX7_tryViews_123 (lv_at hl 10 rfl) ?_
          refine call_i (run_V (rm := rm_X7_power) hx hb hml hown hts (s_X7_power l g ad th _ _ _ y37_l10 hst hT ) cV_X7_power wg_1066 ⟨Nat.le_of_ble_eq_true rfl, Nat.le_of_ble_eq_true rfl⟩ hG hE hA hP hD hS (hst.1 18 (by decide)) hf19 rfl rfl hl.1 (As := [.int y37_l10]) (rest := []) rfl (Nat.le_of_ble_eq_true rfl) dX7_tryViews_125 ⟨Nat.le_of_ble_eq_true rfl, Nat.le_of_ble_eq_true rfl⟩) hA hD hS (fun r30 L31 f32 H locs hp33 hP hD hS => ?_)
          obtain ⟨eL34L, eL34T⟩ := hp33
          have eL34L : L31 = L := eL34L
          have eL34T : f32 = f_37 := eL34T
          rw [eL34L, eL34T] at hP hD
          refine lv_istore (lv' := [(12, .int r30), (11, .int x29), (0, .ref (ad 18)), (1, .int 1), (2, .int z2), (3, .long z3), (5, .int z4), (6, .int z5), (7, .int 27), (8, .int r6), (9, .int r13), (10, .int y37_l10)]) hx hb dX7_tryViews_128 hl (by decide) rfl (fun ls hl => ?_)
          refine lv_iconst (v := 0) hx hb dX7_tryViews_130 (by decide) ?_
          refine lv_istore (lv' := [(13, .int 0), (12, .int r30), (11, .int x29), (0, .ref (ad 18)), (1, .int 1), (2, .int z2), (3, .long z3), (5, .int z4), (6, .int z5), (7, .int 27), (8, .int r6), (9, .int r13), (10, .int y37_l10)]) hx hb dX7_tryViews_131 hl (by decide) rfl (fun ls hl => ?_)
          have hJ133 : ∀ (k133 : Nat) (y133_l13 : Int32) (f_133 : HP) (H : Heap) (locs : List Loc) (ls : Array Slot), In y133_l13 0 2147483647 → va_P g.1 vwCl (va_pl L f_133) H → va_D A (va_pl L f_133) → va_S A s.heap H locs → TI g ad th f_133 → (∀ b, b ≠ (ad 18) → b ≠ (ad 21) → b ≠ (ad 22) → b ≠ (ad 23) → f_133 b = f b) → f_133 (ad 20) = .inl (g.2.1 0, 7, .inl (rw23)) → f_133 (ad 8) = .inr (2, [.int v0_27, .int v1_27, .int v2_27, .int v3_27, .int v4_27, .int v5_27, .int v6_27, .int v7_27]) → lv_has ls 20 [(0, .ref (ad 18)), (1, .int 1), (2, .int z2), (3, .long z3), (5, .int z4), (6, .int z5), (7, .int 27), (8, .int r6), (9, .int r13), (10, .int y37_l10), (11, .int x29), (12, .int r30), (13, .int y133_l13)] → 2147483647 - y133_l13.toInt < ((k133 : Nat) : Int) → W p l e rm_X7_tryViews_1 s m [.ref (ad 18), .int 1, .int z2, .long z3, .int z4, .int z5].toArray below meth c H locs 0 0 (MQ below (va_Qv (po_X7_tryViews_1 g ad th L f z2 z3 z4 z5) (PstB g A) A) [.ref (ad 18), .int 1, .int z2, .long z3, .int z4, .int z5].toArray s rm_X7_tryViews_1.cells rm_X7_tryViews_1.slots A) (F0 m 133 ls []) := by
            intro k133
            induction k133 with
            | zero =>
              intro y133_l13 f_133 H locs ls hy133_l13 hP hD hS hT hfr hf35 hf36 hl hmz133
              exact ms0 hy133_l13 hmz133
            | succ k133 ih133 =>
              intro y133_l13 f_133 H locs ls hy133_l13 hP hD hS hT hfr hf35 hf36 hl hmz133
              refine lv_iload hx hb dX7_tryViews_133 (lv_at hl 12 rfl) ?_
              refine lv_iload hx hb dX7_tryViews_135 (lv_at hl 11 rfl) ?_
              refine lv_icmp_ge (tgt := 280) hx hb dX7_tryViews_137 (by decide) (fun c37 => ?_) (fun c37 => ?_)
              ·
                have cc38 : r30.toInt ≤ y133_l13.toInt := i32_le.mp c37
                exact ret_v hx hb hr hlocks hP hD hS (Nat.le_of_ble_eq_true rfl) (Nat.le_of_ble_eq_true rfl) (⟨rfl, hT, hfr⟩) dX7_tryViews_280
              ·
                have cc39 : y133_l13.toInt < r30.toInt := i32_nle c37
                have hb40 : In y133_l13 0 2147483646 := In.lt1 hy133_l13 (In.full r30) cc39 (by omega) (by omega)
                have hb41 : In r30 1 2147483647 := In.lt2 hy133_l13 (In.full r30) cc39 (by omega) (by omega)
                refine lv_aload_n hx hb dX7_tryViews_140 rfl (lv_at hl 0 rfl) ?_
                obtain ⟨v6_42, v7_42, v8_42, v9_42, v10_42, v11_42, v12_42, v13_42, hf43, hv8_42, hv9_42, hv10_42, hv11_42, hv13_42⟩ := hT.1 18 (by decide)
                refine call_i (run_V (rm := rm_X7_isEnough) hx hb hml hown hts (s_X7_isEnough l g ad th _ _ _  hst hT ) cV_X7_isEnough wg_1070 ⟨Nat.le_of_ble_eq_true rfl, Nat.le_of_ble_eq_true rfl⟩ hG hE hA hP hD hS (hst.1 18 (by decide)) hf43 rfl rfl hl.1 (As := []) (rest := []) rfl (Nat.le_of_ble_eq_true rfl) dX7_tryViews_141 ⟨Nat.le_of_ble_eq_true rfl, Nat.le_of_ble_eq_true rfl⟩) hA hD hS (fun r44 L45 f46 H locs hp47 hP hD hS => ?_)
                obtain ⟨eL48L, eL48T, eL48R⟩ := hp47
                have eL48L : L45 = L := eL48L
                have eL48T : f46 = f_133 := eL48T
                rw [eL48L, eL48T] at hP hD
                have eL48R : In r44 0 1 := eL48R
                refine lv_if_ne (tgt := 280) hx hb dX7_tryViews_144 (by decide) (fun c49 => ?_) (fun c49 => ?_)
                ·
                  have oc0 : (0 : Int32).toInt = 0 := by decide
                  have cc50 : r44.toInt ≠ (0 : Int32).toInt := i32_ne c49
                  have hb51 : In r44 1 1 := In.ne1 eL48R (⟨by decide, by decide⟩ : In 0 0 0) cc50 (by omega) (by omega)
                  exact ret_v hx hb hr hlocks hP hD hS (Nat.le_of_ble_eq_true rfl) (Nat.le_of_ble_eq_true rfl) (⟨rfl, hT, hfr⟩) dX7_tryViews_280
                ·
                  have oc0 : (0 : Int32).toInt = 0 := by decide
                  have cc52 : r44.toInt = (0 : Int32).toInt := congrArg Int32.toInt c49
                  have hb53 : In r44 0 0 := In.eq1 eL48R (⟨by decide, by decide⟩ : In 0 0 0) cc52 (by omega) (by omega)
                  refine lv_iload_n hx hb dX7_tryViews_147 rfl (lv_at hl 2 rfl) ?_
                  refine lv_istore (lv' := [(14, .int z2), (0, .ref (ad 18)), (1, .int 1), (2, .int z2), (3, .long z3), (5, .int z4), (6, .int z5), (7, .int 27), (8, .int r6), (9, .int r13), (10, .int y37_l10), (11, .int x29), (12, .int r30), (13, .int y133_l13)]) hx hb dX7_tryViews_148 hl (by decide) rfl (fun ls hl => ?_)
                  refine lv_iconst (v := 0) hx hb dX7_tryViews_150 (by decide) ?_
                  refine lv_istore (lv' := [(15, .int 0), (14, .int z2), (0, .ref (ad 18)), (1, .int 1), (2, .int z2), (3, .long z3), (5, .int z4), (6, .int z5), (7, .int 27), (8, .int r6), (9, .int r13), (10, .int y37_l10), (11, .int x29), (12, .int r30), (13, .int y133_l13)]) hx hb dX7_tryViews_151 hl (by decide) rfl (fun ls hl => ?_)
                  refine lv_iload hx hb dX7_tryViews_153 (lv_at hl 14 rfl) ?_
                  refine lv_istore (lv' := [(16, .int y133_l13), (15, .int 0), (14, .int z2), (0, .ref (ad 18)), (1, .int 1), (2, .int z2), (3, .long z3), (5, .int z4), (6, .int z5), (7, .int 27), (8, .int r6), (9, .int r13), (10, .int y37_l10), (11, .int x29), (12, .int r30), (13, .int y133_l13)]) hx hb dX7_tryViews_155 hl (by decide) rfl (fun ls hl => ?_)
                  refine lv_iload hx hb dX7_tryViews_157 (lv_at hl 8 rfl) ?_
                  refine lv_istore (lv' := [(17, .int z5), (16, .int y133_l13), (15, .int 0), (14, .int z2), (0, .ref (ad 18)), (1, .int 1), (2, .int z2), (3, .long z3), (5, .int z4), (6, .int z5), (7, .int 27), (8, .int r6), (9, .int r13), (10, .int y37_l10), (11, .int x29), (12, .int r30), (13, .int y133_l13)]) hx hb dX7_tryViews_159 hl (by decide) rfl (fun ls hl => ?_)
                  refine lv_iconst (v := 0) hx hb dX7_tryViews_161 (by decide) ?_
                  refine lv_istore (lv' := [(18, .int 0), (17, .int z5), (16, .int y133_l13), (15, .int 0), (14, .int z2), (0, .ref (ad 18)), (1, .int 1), (2, .int z2), (3, .long z3), (5, .int z4), (6, .int z5), (7, .int 27), (8, .int r6), (9, .int r13), (10, .int y37_l10), (11, .int x29), (12, .int r30), (13, .int y133_l13)]) hx hb dX7_tryViews_162 hl (by decide) rfl (fun ls hl => ?_)
                  have hJ164 : ∀ (k164 : Nat) (y164_l14 : Int32) (y164_l15 : Int32) (y164_l16 : Int32) (y164_l17 : Int32) (y164_l18 : Int32) (H : Heap) (locs : List Loc) (ls : Array Slot), In y164_l14 0 511 → In y164_l15 (-2147483648) 2147483647 → In y164_l16 0 2147483647 → In y164_l17 (-2147483648) 2147483647 → In y164_l18 0 9 → va_P g.1 vwCl (va_pl L f_133) H → va_D A (va_pl L f_133) → va_S A s.heap H locs → lv_has ls 20 [(0, .ref (ad 18)), (1, .int 1), (2, .int z2), (3, .long z3), (5, .int z4), (6, .int z5), (7, .int 27), (8, .int r6), (9, .int r13), (10, .int y37_l10), (11, .int x29), (12, .int r30), (13, .int y133_l13), (14, .int y164_l14), (15, .int y164_l15), (16, .int y164_l16), (17, .int y164_l17), (18, .int y164_l18)] → 9 - y164_l18.toInt < ((k164 : Nat) : Int) → W p l e rm_X7_tryViews_1 s m [.ref (ad 18), .int 1, .int z2, .long z3, .int z4, .int z5].toArray below meth c H locs 0 0 (MQ below (va_Qv (po_X7_tryViews_1 g ad th L f z2 z3 z4 z5) (PstB g A) A) [.ref (ad 18), .int 1, .int z2, .long z3, .int z4, .int z5].toArray s rm_X7_tryViews_1.cells rm_X7_tryViews_1.slots A) (F0 m 164 ls []) := by
                    intro k164
                    induction k164 with
                    | zero =>
                      intro y164_l14 y164_l15 y164_l16 y164_l17 y164_l18 H locs ls hy164_l14 hy164_l15 hy164_l16 hy164_l17 hy164_l18 hP hD hS hl hmz164
                      exact ms0 hy164_l18 hmz164
                    | succ k164 ih164 =>
                      intro y164_l14 y164_l15 y164_l16 y164_l17 y164_l18 H locs ls hy164_l14 hy164_l15 hy164_l16 hy164_l17 hy164_l18 hP hD hS hl hmz164
                      refine lv_iload hx hb dX7_tryViews_164 (lv_at hl 17 rfl) ?_
                      refine lv_aload_n hx hb dX7_tryViews_166 rfl (lv_at hl 0 rfl) ?_
                      refine pl_get (v := .int v10_42) hx hb hts (fun w h => mT (inX7 w h)) hown hG.1 hP (hst.1 18 (by decide)) hf43 rfl 10 (by decide) (hts _ (mT wg_442)) (fun _ h => h) rfl dX7_tryViews_167 ?_
                      refine lv_icmp_ge (tgt := 262) hx hb dX7_tryViews_170 (by decide) (fun c54 => ?_) (fun c54 => ?_)
                      ·
                        have cc55 : v10_42.toInt ≤ y164_l18.toInt := i32_le.mp c54
                        refine lv_aload_n hx hb dX7_tryViews_262 rfl (lv_at hl 0 rfl) ?_
                        refine lv_iload_n hx hb dX7_tryViews_263 rfl (lv_at hl 1 rfl) ?_
                        refine lv_iload hx hb dX7_tryViews_264 (lv_at hl 13 rfl) ?_
                        refine lv_iload hx hb dX7_tryViews_266 (lv_at hl 14 rfl) ?_
                        refine lv_lload_n hx hb dX7_tryViews_268 rfl (lv_at hl 3 rfl) ?_
                        refine lv_iload hx hb dX7_tryViews_269 (lv_at hl 16 rfl) ?_
                        refine call_v (run_V (rm := rm_X7_tryRuler_1) hx hb hml hown hts (s_X7_tryRuler_1 l g ad th _ _ _ y164_l14 y164_l15 z3 y164_l17 hst hT hy164_l14) cV_X7_tryRuler wg_1089 ⟨Nat.le_of_ble_eq_true rfl, Nat.le_of_ble_eq_true rfl⟩ hG hE hA hP hD hS (hst.1 18 (by decide)) hf43 rfl rfl hl.1 (As := [.int 1, .int y164_l14, .int y164_l15, .long z3, .int y164_l17]) (rest := []) rfl (Nat.le_of_ble_eq_true rfl) dX7_tryViews_271 ⟨Nat.le_of_ble_eq_true rfl, Nat.le_of_ble_eq_true rfl⟩) hA hD hS (fun L57 f58 H locs hp59 hP hD hS => ?_)
                        obtain ⟨eL60L, eL60T, eL60F⟩ := hp59
                        have eL60L : L57 = L := eL60L
                        rw [eL60L] at hP hD
                        have hT : TI g ad th f58 := eL60T
                        have eL60F : ∀ b, b ≠ (ad 18) → b ≠ (ad 21) → b ≠ (ad 22) → b ≠ (ad 23) → f58 b = f_133 b := eL60F
                        have hf61 := (eL60F (ad 20) (hst.ne (by decide) (by decide) (by decide)) (hst.ne (by decide) (by decide) (by decide)) (hst.ne (by decide) (by decide) (by decide)) (hst.ne (by decide) (by decide) (by decide))).trans hf35
                        have hf62 := (eL60F (ad 8) (hst.ne (by decide) (by decide) (by decide)) (hst.ne (by decide) (by decide) (by decide)) (hst.ne (by decide) (by decide) (by decide)) (hst.ne (by decide) (by decide) (by decide))).trans hf36
                        have hfr : (∀ b, b ≠ (ad 18) → b ≠ (ad 21) → b ≠ (ad 22) → b ≠ (ad 23) → f58 b = f b) := fun b z0_ z1_ z2_ z3_ => (eL60F b z0_ z1_ z2_ z3_).trans (hfr b z0_ z1_ z2_ z3_)
                        obtain ⟨x63, ex63⟩ : ∃ y : Int32, y = y133_l13 + 1 := ⟨_, rfl⟩
                        have hb64 : In x63 1 2147483647 := ex63 ▸ In.add hb40 (⟨by decide, by decide⟩ : In 1 1 1) (by decide) (by decide) (by decide) (by decide)
                        have et65 : x63.toInt = y133_l13.toInt + 1 := In.adde ex63 hb40 (k := 1) (by decide) (by decide) (by decide)
                        refine lv_iinc (v := x63) (lv' := [(13, .int x63), (0, .ref (ad 18)), (1, .int 1), (2, .int z2), (3, .long z3), (5, .int z4), (6, .int z5), (7, .int 27), (8, .int r6), (9, .int r13), (10, .int y37_l10), (11, .int x29), (12, .int r30), (14, .int y164_l14), (15, .int y164_l15), (16, .int y164_l16), (17, .int y164_l17), (18, .int y164_l18)]) hx hb dX7_tryViews_274 hl (k := 12) rfl (by rw [ex63]; rfl) (by decide) rfl (fun ls hl => ?_)
                        refine lv_goto (tgt := 133) hx hb dX7_tryViews_277 (by decide) ?_
                        exact ih133 x63 _ _ _ _ (In.mono hb64 (by decide) (by decide)) hP hD hS hT hfr hf61 hf62 (lv_sub hl [1, 2, 3, 4, 5, 6, 7, 8, 9, 10, 11, 12, 0] rfl) (msu et65 (by decide) hmz133)
                      ·
                        have cc66 : y164_l18.toInt < v10_42.toInt := i32_nle c54
                        have hb67 : In y164_l18 0 8 := In.lt1 hy164_l18 hv10_42 cc66 (by omega) (by omega)
                        have hb68 : In v10_42 1 9 := In.lt2 hy164_l18 hv10_42 cc66 (by omega) (by omega)
                        refine lv_iload hx hb dX7_tryViews_173 (lv_at hl 6 rfl) ?_
                        refine lv_iload hx hb dX7_tryViews_175 (lv_at hl 15 rfl) ?_
                        refine lv_iload hx hb dX7_tryViews_177 (lv_at hl 9 rfl) ?_
                        have hb69 : In y37_l10 1 9 := In.mk (by obtain ⟨o0a, o0b⟩ := (hy37_l10 : In _ _ _); obtain ⟨o1a, o1b⟩ := (hb22 : In _ _ _); obtain ⟨o2a, o2b⟩ := (hv11_18 : In _ _ _); omega) (by obtain ⟨o0a, o0b⟩ := (hy37_l10 : In _ _ _); obtain ⟨o1a, o1b⟩ := (hb22 : In _ _ _); obtain ⟨o2a, o2b⟩ := (hv11_18 : In _ _ _); omega)
                        refine lv_irem hx hb dX7_tryViews_179 (In.ne0 hb69 (by decide)) ?_
                        refine lv_topi (fun x70 ex70 => ?_)
                        have hb71 : In x70 0 8 := ex70 ▸ In.rem hy164_l16 hb69 (by decide) (by decide) (by decide)
                        refine lv_iadd hx hb dX7_tryViews_180 ?_
                        refine lv_topi (fun x72 ex72 => ?_)
                        have hb73 : In x72 27 35 := ex72 ▸ In.add (⟨by decide, by decide⟩ : In 27 27 27) hb71 (by decide) (by decide) (by decide) (by decide)
                        have et74 : x72.toInt = (27 : Int32).toInt + x70.toInt := In.add2e ex72 (⟨by decide, by decide⟩ : In 27 27 27) hb71 (by decide) (by decide)
                        refine lv_istore (lv' := [(19, .int x72), (0, .ref (ad 18)), (1, .int 1), (2, .int z2), (3, .long z3), (5, .int z4), (6, .int z5), (7, .int 27), (8, .int r6), (9, .int r13), (10, .int y37_l10), (11, .int x29), (12, .int r30), (13, .int y133_l13), (14, .int y164_l14), (15, .int y164_l15), (16, .int y164_l16), (17, .int y164_l17), (18, .int y164_l18)]) hx hb dX7_tryViews_181 hl (by decide) rfl (fun ls hl => ?_)
                        refine lv_iload hx hb dX7_tryViews_183 (lv_at hl 16 rfl) ?_
                        refine lv_iload hx hb dX7_tryViews_185 (lv_at hl 10 rfl) ?_
                        refine lv_idiv hx hb dX7_tryViews_187 (In.ne0 hb69 (by decide)) ?_
                        refine lv_topi (fun x75 ex75 => ?_)
                        have hb76 : In x75 0 2147483647 := ex75 ▸ In.div hy164_l16 hb69 (by decide) (by decide) (by decide) (by decide)
                        refine lv_istore (lv' := [(16, .int x75), (19, .int x72), (0, .ref (ad 18)), (1, .int 1), (2, .int z2), (3, .long z3), (5, .int z4), (6, .int z5), (7, .int 27), (8, .int r6), (9, .int r13), (10, .int y37_l10), (11, .int x29), (12, .int r30), (13, .int y133_l13), (14, .int y164_l14), (15, .int y164_l15), (17, .int y164_l17), (18, .int y164_l18)]) hx hb dX7_tryViews_188 hl (by decide) rfl (fun ls hl => ?_)
                        refine lv_iload hx hb dX7_tryViews_190 (lv_at hl 15 rfl) ?_
                        refine lv_iconst (v := 1) hx hb dX7_tryViews_192 (by decide) ?_
                        refine lv_aload_n hx hb dX7_tryViews_193 rfl (lv_at hl 2 rfl) ?_
                        refine pl_get (v := .ref (ad 19)) hx hb hts (fun w h => mT (inX7 w h)) hown hG.1 hP (hst.1 18 (by decide)) hf43 rfl 1 (by decide) (hts _ (mT wg_433)) (fun _ h => h) rfl dX7_tryViews_194 ?_
                        refine lv_iload hx hb dX7_tryViews_197 (lv_at hl 18 rfl) ?_
                        obtain ⟨rw77, hf78, hc79⟩ := hT.1 19 (by decide)
                        have hin80 : vp_in y164_l18 9 := In.inb hb67 (by decide) (by decide)
                        refine pl_iald hx hb hG.1 hP (hst.1 19 (by decide)) 0 hf78 rfl hin80 dX7_tryViews_199 ?_
                        refine lv_topi (fun x81 ex81 => ?_)
                        have hb82 : In x81 0 8 := by rw [ex81]; exact hc79 _ (vp_nat hin80)
                        refine lv_ishl hx hb dX7_tryViews_200 ?_
                        refine lv_topi (fun x83 ex83 => ?_)
                        have hb84 : In x83 1 256 := ex83 ▸ In.shl (⟨by decide, by decide⟩ : In 1 1 1) hb82 (by decide) (by decide) (by decide) (by decide) (by decide) (by decide)
                        refine lv_aload_n hx hb dX7_tryViews_201 rfl (lv_at hl 2 rfl) ?_
                        refine pl_get (v := .ref (ad 21)) hx hb hts (fun w h => mT (inX7 w h)) hown hG.1 hP (hst.1 18 (by decide)) hf43 rfl 3 (by decide) (hts _ (mT wg_435)) (fun _ h => h) rfl dX7_tryViews_202 ?_
                        refine lv_iload hx hb dX7_tryViews_205 (lv_at hl 1 rfl) ?_
                        obtain ⟨rw85, hf86⟩ := hT.1 21 (by decide)
                        have hin87 : vp_in x72 108 := In.inb hb73 (by decide) (by decide)
                        refine pl_iald hx hb hG.1 hP (hst.1 21 (by decide)) 0 hf86 rfl hin87 dX7_tryViews_207 ?_
                        refine lv_topi (fun x88 ex88 => ?_)
                        refine call_i (run_S (rm := rm_X7_seen) hx hb hml hown hts (s_X7_seen l g ad th _ _ _ y164_l14 x83 x88 hst hT hy164_l14 (In.mono hb84 (by decide) (by decide))) cS_X7_seen wg_1086 ⟨Nat.le_of_ble_eq_true rfl, Nat.le_of_ble_eq_true rfl⟩ hG hE hA hP hD hS rfl hl.1 (As := [.int y164_l14, .int x83, .int x88]) (rest := []) rfl (Nat.le_of_ble_eq_true rfl) dX7_tryViews_208 ⟨Nat.le_of_ble_eq_true rfl, Nat.le_of_ble_eq_true rfl⟩) hA hD hS (fun r89 L90 f91 H locs hp92 hP hD hS => ?_)
                        obtain ⟨eL93L, eL93T, eL93R⟩ := hp92
                        have eL93L : L90 = L := eL93L
                        have eL93T : f91 = f_133 := eL93T
                        rw [eL93L, eL93T] at hP hD
                        have eL93R : In r89 0 511 := eL93R
                        refine lv_istore (lv' := [(14, .int r89), (16, .int x75), (19, .int x72), (0, .ref (ad 18)), (1, .int 1), (2, .int z2), (3, .long z3), (5, .int z4), (6, .int z5), (7, .int 27), (8, .int r6), (9, .int r13), (10, .int y37_l10), (11, .int x29), (12, .int r30), (13, .int y133_l13), (15, .int y164_l15), (17, .int y164_l17), (18, .int y164_l18)]) hx hb dX7_tryViews_211 hl (by decide) rfl (fun ls hl => ?_)
                        refine lv_iload hx hb dX7_tryViews_213 (lv_at hl 16 rfl) ?_
                        refine lv_aload_n hx hb dX7_tryViews_215 rfl (lv_at hl 3 rfl) ?_
                        refine pl_get (v := .ref (ad 21)) hx hb hts (fun w h => mT (inX7 w h)) hown hG.1 hP (hst.1 18 (by decide)) hf43 rfl 3 (by decide) (hts _ (mT wg_435)) (fun _ h => h) rfl dX7_tryViews_216 ?_
                        refine lv_iload hx hb dX7_tryViews_219 (lv_at hl 2 rfl) ?_
                        have hin94 : vp_in x72 108 := In.inb hb73 (by decide) (by decide)
                        refine pl_iald hx hb hG.1 hP (hst.1 21 (by decide)) 0 hf86 rfl hin94 dX7_tryViews_221 ?_
                        refine lv_topi (fun x95 ex95 => ?_)
                        obtain rfl : x88 = x95 := ex88.trans ex95.symm
                        refine lv_iconst (v := 4) hx hb dX7_tryViews_222 (by decide) ?_
                        refine lv_idiv hx hb dX7_tryViews_223 (In.ne0 (⟨by decide, by decide⟩ : In 4 4 4) (by decide)) ?_
                        refine lv_topi (fun x96 ex96 => ?_)
                        refine lv_aload_n hx hb dX7_tryViews_224 rfl (lv_at hl 3 rfl) ?_
                        refine pl_get (v := .ref (ad 19)) hx hb hts (fun w h => mT (inX7 w h)) hown hG.1 hP (hst.1 18 (by decide)) hf43 rfl 1 (by decide) (hts _ (mT wg_433)) (fun _ h => h) rfl dX7_tryViews_225 ?_
                        refine lv_iload hx hb dX7_tryViews_228 (lv_at hl 18 rfl) ?_
                        have hin97 : vp_in y164_l18 9 := In.inb hb67 (by decide) (by decide)
                        refine pl_iald hx hb hG.1 hP (hst.1 19 (by decide)) 0 hf78 rfl hin97 dX7_tryViews_230 ?_
                        refine lv_topi (fun x98 ex98 => ?_)
                        obtain rfl : x81 = x98 := ex81.trans ex98.symm
                        refine lv_ishl hx hb dX7_tryViews_231 ?_
                        refine lv_topi (fun x99 ex99 => ?_)
                        refine lv_ior hx hb dX7_tryViews_232 ?_
                        refine lv_topi (fun x100 ex100 => ?_)
                        refine lv_istore (lv' := [(15, .int x100), (14, .int r89), (16, .int x75), (19, .int x72), (0, .ref (ad 18)), (1, .int 1), (2, .int z2), (3, .long z3), (5, .int z4), (6, .int z5), (7, .int 27), (8, .int r6), (9, .int r13), (10, .int y37_l10), (11, .int x29), (12, .int r30), (13, .int y133_l13), (17, .int y164_l17), (18, .int y164_l18)]) hx hb dX7_tryViews_233 hl (by decide) rfl (fun ls hl => ?_)
                        refine lv_iload hx hb dX7_tryViews_235 (lv_at hl 17 rfl) ?_
                        refine lv_aload_n hx hb dX7_tryViews_237 rfl (lv_at hl 4 rfl) ?_
                        refine lv_aload_n hx hb dX7_tryViews_238 rfl (lv_at hl 4 rfl) ?_
                        refine pl_get (v := .ref (ad 22)) hx hb hts (fun w h => mT (inX7 w h)) hown hG.1 hP (hst.1 18 (by decide)) hf43 rfl 4 (by decide) (hts _ (mT wg_436)) (fun _ h => h) rfl dX7_tryViews_239 ?_
                        refine lv_iload hx hb dX7_tryViews_242 (lv_at hl 3 rfl) ?_
                        obtain ⟨rw101, hf102⟩ := hT.1 22 (by decide)
                        have hin103 : vp_in x72 108 := In.inb hb73 (by decide) (by decide)
                        refine pl_iald hx hb hG.1 hP (hst.1 22 (by decide)) 0 hf102 rfl hin103 dX7_tryViews_244 ?_
                        refine lv_topi (fun x104 ex104 => ?_)
                        refine lv_iload hx hb dX7_tryViews_245 (lv_at hl 14 rfl) ?_
                        refine lv_iload hx hb dX7_tryViews_247 (lv_at hl 18 rfl) ?_
                        refine lv_iadd hx hb dX7_tryViews_249 ?_
                        refine lv_topi (fun x105 ex105 => ?_)
                        refine call_i (run_V (rm := rm_X7_bitsOf) hx hb hml hown hts (s_X7_bitsOf l g ad th _ _ _ x104 x105 hst hT ) cV_X7_bitsOf wg_1077 ⟨Nat.le_of_ble_eq_true rfl, Nat.le_of_ble_eq_true rfl⟩ hG hE hA hP hD hS (hst.1 18 (by decide)) hf43 rfl rfl hl.1 (As := [.int x104, .int x105]) (rest := [.int y164_l17]) rfl (Nat.le_of_ble_eq_true rfl) dX7_tryViews_250 ⟨Nat.le_of_ble_eq_true rfl, Nat.le_of_ble_eq_true rfl⟩) hA hD hS (fun r106 L107 f108 H locs hp109 hP hD hS => ?_)
                        obtain ⟨eL110L, eL110T⟩ := hp109
                        have eL110L : L107 = L := eL110L
                        have eL110T : f108 = f_133 := eL110T
                        rw [eL110L, eL110T] at hP hD
                        refine lv_ior hx hb dX7_tryViews_253 ?_
                        refine lv_topi (fun x111 ex111 => ?_)
                        refine lv_istore (lv' := [(17, .int x111), (15, .int x100), (14, .int r89), (16, .int x75), (19, .int x72), (0, .ref (ad 18)), (1, .int 1), (2, .int z2), (3, .long z3), (5, .int z4), (6, .int z5), (7, .int 27), (8, .int r6), (9, .int r13), (10, .int y37_l10), (11, .int x29), (12, .int r30), (13, .int y133_l13), (18, .int y164_l18)]) hx hb dX7_tryViews_254 hl (by decide) rfl (fun ls hl => ?_)
                        obtain ⟨x112, ex112⟩ : ∃ y : Int32, y = y164_l18 + 1 := ⟨_, rfl⟩
                        have hb113 : In x112 1 9 := ex112 ▸ In.add hb67 (⟨by decide, by decide⟩ : In 1 1 1) (by decide) (by decide) (by decide) (by decide)
                        have et114 : x112.toInt = y164_l18.toInt + 1 := In.adde ex112 hb67 (k := 1) (by decide) (by decide) (by decide)
                        refine lv_iinc (v := x112) (lv' := [(18, .int x112), (17, .int x111), (15, .int x100), (14, .int r89), (16, .int x75), (19, .int x72), (0, .ref (ad 18)), (1, .int 1), (2, .int z2), (3, .long z3), (5, .int z4), (6, .int z5), (7, .int 27), (8, .int r6), (9, .int r13), (10, .int y37_l10), (11, .int x29), (12, .int r30), (13, .int y133_l13)]) hx hb dX7_tryViews_256 hl (k := 18) rfl (by rw [ex112]; rfl) (by decide) rfl (fun ls hl => ?_)
                        refine lv_goto (tgt := 164) hx hb dX7_tryViews_259 (by decide) ?_
                        exact ih164 r89 x100 x75 x111 x112 _ _ _ eL93R (In.full x100) hb76 (In.full x111) (In.mono hb113 (by decide) (by decide)) hP hD hS (lv_sub hl [6, 7, 8, 9, 10, 11, 12, 13, 14, 15, 16, 17, 18, 3, 2, 4, 1, 0] rfl) (msu et114 (by decide) hmz164)
                  exact hJ164 ((9 - (0 : Int32).toInt).toNat + 1) z2 0 y133_l13 z5 0 _ _ _ hz2 (⟨by decide, by decide⟩ : In 0 (-2147483648) 2147483647) (In.mono hb40 (by decide) (by decide)) (In.full z5) (⟨by decide, by decide⟩ : In 0 0 9) hP hD hS (lv_sub hl [5, 6, 7, 8, 9, 10, 11, 12, 13, 14, 15, 16, 17, 4, 3, 2, 1, 0] rfl) (msI _)
          exact hJ133 ((2147483647 - (0 : Int32).toInt).toNat + 1) 0 _ _ _ _ (⟨by decide, by decide⟩ : In 0 0 2147483647) hP hD hS hT hfr hf24 hf28 (lv_sub hl [3, 4, 5, 6, 7, 8, 9, 10, 11, 12, 2, 1, 0] rfl) (msI _)
        refine lv_if_ne (tgt := 118) hx hb dX7_tryViews_103 (by decide) (fun c115 => ?_) (fun c115 => ?_)
        ·
          have oc0 : (0 : Int32).toInt = 0 := by decide
          have cc116 : v0_27.toInt ≠ (0 : Int32).toInt := i32_ne c115
          have hb117 : In v0_27 1 1 := In.ne1 hv0_27 (⟨by decide, by decide⟩ : In 0 0 0) cc116 (by omega) (by omega)
          refine lv_iconst (v := 0) hx hb dX7_tryViews_118 (by decide) ?_
          exact hJ119 0 _ _ _ (⟨by decide, by decide⟩ : In 0 0 81) hP hD hS (lv_sub hl [0, 1, 2, 3, 4, 5, 6, 7, 8, 9, 10] rfl)
        ·
          have oc0 : (0 : Int32).toInt = 0 := by decide
          have cc118 : v0_27.toInt = (0 : Int32).toInt := congrArg Int32.toInt c115
          have hb119 : In v0_27 0 0 := In.eq1 hv0_27 (⟨by decide, by decide⟩ : In 0 0 0) cc118 (by omega) (by omega)
          refine lv_aload_n hx hb dX7_tryViews_106 rfl (lv_at hl 0 rfl) ?_
          refine pl_get (v := .int v11_18) hx hb hts (fun w h => mT (inX7 w h)) hown hG.1 hP (hst.1 18 (by decide)) hf19 rfl 11 (by decide) (hts _ (mT wg_443)) (fun _ h => h) rfl dX7_tryViews_107 ?_
          refine lv_aload_n hx hb dX7_tryViews_110 rfl (lv_at hl 0 rfl) ?_
          refine pl_get (v := .int v10_18) hx hb hts (fun w h => mT (inX7 w h)) hown hG.1 hP (hst.1 18 (by decide)) hf19 rfl 10 (by decide) (hts _ (mT wg_442)) (fun _ h => h) rfl dX7_tryViews_111 ?_
          refine lv_imul hx hb dX7_tryViews_114 ?_
          refine lv_topi (fun x120 ex120 => ?_)
          have hb121 : In x120 0 72 := ex120 ▸ In.mul hv11_18 hv10_18 (by decide) (by decide) (by decide) (by decide) (by decide)
          refine lv_goto (tgt := 119) hx hb dX7_tryViews_115 (by decide) ?_
          exact hJ119 x120 _ _ _ (In.mono hb121 (by decide) (by decide)) hP hD hS (lv_sub hl [0, 1, 2, 3, 4, 5, 6, 7, 8, 9, 10] rfl)
      ·
        have cc122 : y37_l11.toInt ≤ v11_18.toInt := i32_nlt c20
        have hb123 : In y37_l11 0 8 := In.le1 hy37_l11 hv11_18 cc122 (by omega) (by omega)
        refine lv_aload_n hx hb dX7_tryViews_46 rfl (lv_at hl 0 rfl) ?_
        refine pl_get (v := .ref (ad 8)) hx hb hts (fun w h => mT (inX7 w h)) hown hG.1 hP (hst.1 18 (by decide)) hf19 rfl 0 (by decide) (hts _ (mT wg_432)) (fun _ h => h) rfl dX7_tryViews_47 ?_
        refine lv_iload hx hb dX7_tryViews_50 (lv_at hl 7 rfl) ?_
        refine lv_aload_n hx hb dX7_tryViews_52 rfl (lv_at hl 0 rfl) ?_
        refine pl_get (v := .int v11_18) hx hb hts (fun w h => mT (inX7 w h)) hown hG.1 hP (hst.1 18 (by decide)) hf19 rfl 11 (by decide) (hts _ (mT wg_443)) (fun _ h => h) rfl dX7_tryViews_53 ?_
        refine lv_iadd hx hb dX7_tryViews_56 ?_
        refine lv_topi (fun x124 ex124 => ?_)
        have hb125 : In x124 0 17 := ex124 ▸ In.add hb11 hv11_18 (by decide) (by decide) (by decide) (by decide)
        have et126 : x124.toInt = r6.toInt + v11_18.toInt := In.add2e ex124 hb11 hv11_18 (by decide) (by decide)
        refine lv_iload hx hb dX7_tryViews_57 (lv_at hl 10 rfl) ?_
        refine lv_isub hx hb dX7_tryViews_59 ?_
        refine lv_topi (fun x127 ex127 => ?_)
        have hb128 : In x127 (-8) 17 := ex127 ▸ In.sub hb125 hb123 (by decide) (by decide) (by decide) (by decide)
        have et129 : x127.toInt = x124.toInt - y37_l11.toInt := In.sub2e ex127 hb125 hb123 (by decide) (by decide)
        refine lv_iload hx hb dX7_tryViews_60 (lv_at hl 8 rfl) ?_
        refine lv_iload hx hb dX7_tryViews_62 (lv_at hl 10 rfl) ?_
        refine lv_iadd hx hb dX7_tryViews_64 ?_
        refine lv_topi (fun x130 ex130 => ?_)
        have hb131 : In x130 0 71 := ex130 ▸ In.add eL17R hb123 (by decide) (by decide) (by decide) (by decide)
        have et132 : x130.toInt = r13.toInt + y37_l11.toInt := In.add2e ex130 eL17R hb123 (by decide) (by decide)
        obtain ⟨v0_133, v1_133, v2_133, v3_133, v4_133, v5_133, v6_133, v7_133, hf134, hv0_133, hv1_133, hv2_133, hv3_133, hv5_133, hv6_133⟩ := hT.1 8 (by decide)
        refine call_i (run_VN (rm := rm_X2_view_ru) hx hb hml hown hts (s_X2_view_ru l g ad th _ _ _ x127 x130 hst hT ) cV_X2_view wn_1085 ⟨Nat.le_of_ble_eq_true rfl, Nat.le_of_ble_eq_true rfl⟩ hG hE hA hP hD hS (hst.1 8 (by decide)) hf134 rfl rfl hl.1 (As := [.int x127, .int x130]) (rest := []) rfl (Nat.le_of_ble_eq_true rfl) dX7_tryViews_65 ⟨Nat.le_of_ble_eq_true rfl, Nat.le_of_ble_eq_true rfl⟩) hA hD hS (fun r135 L136 f137 H locs hp138 hP hD hS => ?_)
        obtain ⟨eL139L, eL139T, eL139R⟩ := hp138
        have eL139L : L136 = L := eL139L
        have eL139T : f137 = f_37 := eL139T
        rw [eL139L, eL139T] at hP hD
        have eL139R : In r135 0 6 := eL139R
        refine lv_istore (lv' := [(12, .int r135), (0, .ref (ad 18)), (1, .int 1), (2, .int z2), (3, .long z3), (5, .int z4), (6, .int z5), (7, .int 27), (8, .int r6), (9, .int r13), (10, .int y37_l10), (11, .int y37_l11)]) hx hb dX7_tryViews_68 hl (by decide) rfl (fun ls hl => ?_)
        refine lv_aload_n hx hb dX7_tryViews_70 rfl (lv_at hl 1 rfl) ?_
        refine lv_iload hx hb dX7_tryViews_71 (lv_at hl 7 rfl) ?_
        refine lv_iload hx hb dX7_tryViews_73 (lv_at hl 10 rfl) ?_
        refine lv_iload hx hb dX7_tryViews_75 (lv_at hl 0 rfl) ?_
        refine lv_iload hx hb dX7_tryViews_77 (lv_at hl 11 rfl) ?_
        refine call_i (run_V (rm := rm_X7_addChoice) hx hb hml hown hts (s_X7_addChoice l g ad th _ _ _ 27 y37_l10 r135 y37_l11 hst hT (⟨by decide, by decide⟩ : In 27 0 99) (In.mk (by obtain ⟨o0a, o0b⟩ := (hy37_l10 : In _ _ _); obtain ⟨o1a, o1b⟩ := (hb123 : In _ _ _); obtain ⟨o2a, o2b⟩ := (hv11_18 : In _ _ _); omega) (by obtain ⟨o0a, o0b⟩ := (hy37_l10 : In _ _ _); obtain ⟨o1a, o1b⟩ := (hb123 : In _ _ _); obtain ⟨o2a, o2b⟩ := (hv11_18 : In _ _ _); omega))) cV_X7_addChoice wg_1062 ⟨Nat.le_of_ble_eq_true rfl, Nat.le_of_ble_eq_true rfl⟩ hG hE hA hP hD hS (hst.1 18 (by decide)) hf19 rfl rfl hl.1 (As := [.int 27, .int y37_l10, .int r135, .int y37_l11]) (rest := []) rfl (Nat.le_of_ble_eq_true rfl) dX7_tryViews_79 ⟨Nat.le_of_ble_eq_true rfl, Nat.le_of_ble_eq_true rfl⟩) hA hD hS (fun r140 L141 f142 H locs hp143 hP hD hS => ?_)
        obtain ⟨eL144L, eL144T, eL144F, eL144R, eL144X0⟩ := hp143
        have eL144L : L141 = L := eL144L
        rw [eL144L] at hP hD
        have hT : TI g ad th f142 := eL144T
        have eL144F : ∀ b, b ≠ (ad 21) → b ≠ (ad 22) → f142 b = f_37 b := eL144F
        have hf145 := (eL144F (ad 18) (hst.ne (by decide) (by decide) (by decide)) (hst.ne (by decide) (by decide) (by decide))).trans hf19
        have hf146 := (eL144F (ad 8) (hst.ne (by decide) (by decide) (by decide)) (hst.ne (by decide) (by decide) (by decide))).trans hf134
        have hfr : (∀ b, b ≠ (ad 18) → b ≠ (ad 21) → b ≠ (ad 22) → b ≠ (ad 23) → f142 b = f b) := fun b z0_ z1_ z2_ z3_ => (eL144F b z1_ z2_).trans (hfr b z0_ z1_ z2_ z3_)
        have eL144R : In r140 0 9 := eL144R
        have hac147 : r140.toInt ≤ y37_l10.toInt + 1 ∧ 1 ≤ r140.toInt := eL144X0
        refine lv_istore (lv' := [(10, .int r140), (12, .int r135), (0, .ref (ad 18)), (1, .int 1), (2, .int z2), (3, .long z3), (5, .int z4), (6, .int z5), (7, .int 27), (8, .int r6), (9, .int r13), (11, .int y37_l11)]) hx hb dX7_tryViews_82 hl (by decide) rfl (fun ls hl => ?_)
        obtain ⟨x148, ex148⟩ : ∃ y : Int32, y = y37_l11 + 1 := ⟨_, rfl⟩
        have hb149 : In x148 1 9 := ex148 ▸ In.add hb123 (⟨by decide, by decide⟩ : In 1 1 1) (by decide) (by decide) (by decide) (by decide)
        have et150 : x148.toInt = y37_l11.toInt + 1 := In.adde ex148 hb123 (k := 1) (by decide) (by decide) (by decide)
        refine lv_iinc (v := x148) (lv' := [(11, .int x148), (10, .int r140), (12, .int r135), (0, .ref (ad 18)), (1, .int 1), (2, .int z2), (3, .long z3), (5, .int z4), (6, .int z5), (7, .int 27), (8, .int r6), (9, .int r13)]) hx hb dX7_tryViews_84 hl (k := 11) rfl (by rw [ex148]; rfl) (by decide) rfl (fun ls hl => ?_)
        refine lv_goto (tgt := 37) hx hb dX7_tryViews_87 (by decide) ?_
        exact ih37 r140 x148 _ _ _ _ eL144R (In.mono hb149 (by decide) (by decide)) hP hD hS hT hfr (by obtain ⟨o0a, o0b⟩ := (eL144R : In _ _ _); obtain ⟨o1a, o1b⟩ := (hb149 : In _ _ _); obtain ⟨o2a, o2b⟩ := (hy37_l10 : In _ _ _); obtain ⟨o3a, o3b⟩ := (hb123 : In _ _ _); obtain ⟨o4a, o4b⟩ := (hv11_18 : In _ _ _); omega) (lv_sub hl [3, 4, 5, 6, 7, 8, 9, 10, 11, 1, 0] rfl) (msu et150 (by decide) hmz37)
  exact hJ37 ((9 - (0 : Int32).toInt).toNat + 1) 0 0 _ _ _ _ (⟨by decide, by decide⟩ : In 0 0 9) (⟨by decide, by decide⟩ : In 0 0 9) hP hD hS hT hfr (by have oc0 : (0 : Int32).toInt = 0 := (by decide); omega) (lv_sub hl [5, 6, 7, 8, 9, 10, 4, 3, 2, 1, 0] rfl) (msI _)

abbrev rm_X7_tryOffers_1 : Room := { frames := 20, cells := 0, slots := 0, locals := 692 }
abbrev po_X7_tryOffers_1 (g : GG) (ad : Nat → Nat) (th : Nat → Int) (L : List Nat) (f : HP) (z2 : Int32) (z3 : Int64) (z4 : Int32) : (List Nat × HP) → Prop := fun u => u.1 = L ∧ TI g ad th u.2 ∧ (∀ b, b ≠ (ad 18) → b ≠ (ad 21) → b ≠ (ad 22) → b ≠ (ad 23) → u.2 b = f b)
set_option maxHeartbeats 4000000 in
set_option maxRecDepth 100000 in
theorem s_X7_tryOffers_1 (l : Launch) (g : GG) (ad : Nat → Nat) (th : Nat → Int) (L : List Nat) (f : HP) (sz : Nat) (z2 : Int32) (z3 : Int64) (z4 : Int32) (hst : ST ad L) (hT : TI g ad th f) (hz2 : In z2 0 511) : MtV l g yX7_tryOffers cX7_tryOffers 16 rm_X7_tryOffers_1 [.ref (ad 18), .int 1, .int z2, .long z3, .int z4] L f sz (po_X7_tryOffers_1 g ad th L f z2 z3 z4) := by
  refine MtV.of (by decide +kernel) (Nat.le_of_ble_eq_true rfl) ?_
  intro p e s m below meth c A hEn hP hD hS ls hl
  obtain ⟨hx, hb, hr, hml, hown, hlocks, hts, hG, hA, hE, hnm⟩ := hEn
  have hown : s.vm.findClass "RulerWord$Search" = some m.cls := hown
  have hl : lv_has ls 16 [(0, .ref (ad 18)), (1, .int 1), (2, .int z2), (3, .long z3), (5, .int z4)] := hl
  have hfr : (∀ b, b ≠ (ad 18) → b ≠ (ad 21) → b ≠ (ad 22) → b ≠ (ad 23) → f b = f b) := fun b z0_ z1_ z2_ z3_ => rfl
  refine lv_iload_n hx hb dX7_tryOffers_0 rfl (lv_at hl 1 rfl) ?_
  refine lv_iconst (v := 2) hx hb dX7_tryOffers_1 (by decide) ?_
  refine lv_imul hx hb dX7_tryOffers_2 ?_
  refine lv_topi (fun x1 ex1 => ?_)
  obtain rfl : x1 = 2 := ex1.trans (by decide)
  refine lv_bipush (v := 9) hx hb dX7_tryOffers_3 (by decide) ?_
  refine lv_imul hx hb dX7_tryOffers_5 ?_
  refine lv_topi (fun x2 ex2 => ?_)
  obtain rfl : x2 = 18 := ex2.trans (by decide)
  refine lv_istore (lv' := [(6, .int 18), (0, .ref (ad 18)), (1, .int 1), (2, .int z2), (3, .long z3), (5, .int z4)]) hx hb dX7_tryOffers_6 hl (by decide) rfl (fun ls hl => ?_)
  refine lv_iload_n hx hb dX7_tryOffers_8 rfl (lv_at hl 3 rfl) ?_
  refine call_i (run_S (rm := rm_J6_bitCount_0f7a4) hx hb hml hown hts (s_J6_bitCount_0f7a4 l g ad th _ _ _ z2 hst hT ) cS_J6_bitCount_0f7a4 wg_1042 ⟨Nat.le_of_ble_eq_true rfl, Nat.le_of_ble_eq_true rfl⟩ hG hE hA hP hD hS rfl hl.1 (As := [.int z2]) (rest := []) rfl (Nat.le_of_ble_eq_true rfl) dX7_tryOffers_9 ⟨Nat.le_of_ble_eq_true rfl, Nat.le_of_ble_eq_true rfl⟩) hA hD hS (fun r3 L4 f5 H locs hp6 hP hD hS => ?_)
  obtain ⟨eL7L, eL7T, eL7R, eL7X0⟩ := hp6
  have eL7L : L4 = L := eL7L
  have eL7T : f5 = f := eL7T
  rw [eL7L, eL7T] at hP hD
  have eL7R : In r3 0 63 := eL7R
  have hb8 : In r3 0 9 := bc9 hz2 eL7X0
  refine lv_istore (lv' := [(7, .int r3), (6, .int 18), (0, .ref (ad 18)), (1, .int 1), (2, .int z2), (3, .long z3), (5, .int z4)]) hx hb dX7_tryOffers_12 hl (by decide) rfl (fun ls hl => ?_)
  refine lv_iconst (v := 0) hx hb dX7_tryOffers_14 (by decide) ?_
  refine lv_istore (lv' := [(8, .int 0), (7, .int r3), (6, .int 18), (0, .ref (ad 18)), (1, .int 1), (2, .int z2), (3, .long z3), (5, .int z4)]) hx hb dX7_tryOffers_15 hl (by decide) rfl (fun ls hl => ?_)
  refine lv_iconst (v := 0) hx hb dX7_tryOffers_17 (by decide) ?_
  refine lv_istore (lv' := [(9, .int 0), (8, .int 0), (7, .int r3), (6, .int 18), (0, .ref (ad 18)), (1, .int 1), (2, .int z2), (3, .long z3), (5, .int z4)]) hx hb dX7_tryOffers_18 hl (by decide) rfl (fun ls hl => ?_)
  have hJ20 : ∀ (k20 : Nat) (y20_l8 : Int32) (y20_l9 : Int32) (f_20 : HP) (H : Heap) (locs : List Loc) (ls : Array Slot), In y20_l8 0 9 → In y20_l9 0 9 → va_P g.1 vwCl (va_pl L f_20) H → va_D A (va_pl L f_20) → va_S A s.heap H locs → TI g ad th f_20 → (∀ b, b ≠ (ad 18) → b ≠ (ad 21) → b ≠ (ad 22) → b ≠ (ad 23) → f_20 b = f b) → (y20_l8.toInt ≤ y20_l9.toInt ∧ (y20_l9.toInt = 0 ∨ 1 ≤ y20_l8.toInt)) → lv_has ls 16 [(0, .ref (ad 18)), (1, .int 1), (2, .int z2), (3, .long z3), (5, .int z4), (6, .int 18), (7, .int r3), (8, .int y20_l8), (9, .int y20_l9)] → 9 - y20_l9.toInt < ((k20 : Nat) : Int) → W p l e rm_X7_tryOffers_1 s m [.ref (ad 18), .int 1, .int z2, .long z3, .int z4].toArray below meth c H locs 0 0 (MQ below (va_Qv (po_X7_tryOffers_1 g ad th L f z2 z3 z4) (PstB g A) A) [.ref (ad 18), .int 1, .int z2, .long z3, .int z4].toArray s rm_X7_tryOffers_1.cells rm_X7_tryOffers_1.slots A) (F0 m 20 ls []) := by
    intro k20
    induction k20 with
    | zero =>
      intro y20_l8 y20_l9 f_20 H locs ls hy20_l8 hy20_l9 hP hD hS hT hfr hinv20_0 hl hmz20
      exact ms0 hy20_l9 hmz20
    | succ k20 ih20 =>
      intro y20_l8 y20_l9 f_20 H locs ls hy20_l8 hy20_l9 hP hD hS hT hfr hinv20_0 hl hmz20
      refine lv_iload hx hb dX7_tryOffers_20 (lv_at hl 8 rfl) ?_
      refine lv_aload_n hx hb dX7_tryOffers_22 rfl (lv_at hl 0 rfl) ?_
      obtain ⟨v6_9, v7_9, v8_9, v9_9, v10_9, v11_9, v12_9, v13_9, hf10, hv8_9, hv9_9, hv10_9, hv11_9, hv13_9⟩ := hT.1 18 (by decide)
      refine pl_get (v := .int v11_9) hx hb hts (fun w h => mT (inX7 w h)) hown hG.1 hP (hst.1 18 (by decide)) hf10 rfl 11 (by decide) (hts _ (mT wg_443)) (fun _ h => h) rfl dX7_tryOffers_23 ?_
      refine lv_icmp_gt (tgt := 76) hx hb dX7_tryOffers_26 (by decide) (fun c11 => ?_) (fun c11 => ?_)
      ·
        have cc12 : v11_9.toInt < y20_l9.toInt := i32_lt.mp c11
        have hb13 : In y20_l9 1 9 := In.gt1 hy20_l9 hv11_9 cc12 (by omega) (by omega)
        refine lv_aload_n hx hb dX7_tryOffers_76 rfl (lv_at hl 0 rfl) ?_
        refine lv_iload hx hb dX7_tryOffers_77 (lv_at hl 7 rfl) ?_
        refine call_i (run_V (rm := rm_X7_power) hx hb hml hown hts (s_X7_power l g ad th _ _ _ y20_l8 hst hT ) cV_X7_power wg_1066 ⟨Nat.le_of_ble_eq_true rfl, Nat.le_of_ble_eq_true rfl⟩ hG hE hA hP hD hS (hst.1 18 (by decide)) hf10 rfl rfl hl.1 (As := [.int y20_l8]) (rest := []) rfl (Nat.le_of_ble_eq_true rfl) dX7_tryOffers_79 ⟨Nat.le_of_ble_eq_true rfl, Nat.le_of_ble_eq_true rfl⟩) hA hD hS (fun r14 L15 f16 H locs hp17 hP hD hS => ?_)
        obtain ⟨eL18L, eL18T⟩ := hp17
        have eL18L : L15 = L := eL18L
        have eL18T : f16 = f_20 := eL18T
        rw [eL18L, eL18T] at hP hD
        refine lv_istore (lv' := [(9, .int r14), (0, .ref (ad 18)), (1, .int 1), (2, .int z2), (3, .long z3), (5, .int z4), (6, .int 18), (7, .int r3), (8, .int y20_l8)]) hx hb dX7_tryOffers_82 hl (by decide) rfl (fun ls hl => ?_)
        refine lv_iconst (v := 0) hx hb dX7_tryOffers_84 (by decide) ?_
        refine lv_istore (lv' := [(10, .int 0), (9, .int r14), (0, .ref (ad 18)), (1, .int 1), (2, .int z2), (3, .long z3), (5, .int z4), (6, .int 18), (7, .int r3), (8, .int y20_l8)]) hx hb dX7_tryOffers_85 hl (by decide) rfl (fun ls hl => ?_)
        have hJ87 : ∀ (k87 : Nat) (y87_l10 : Int32) (f_87 : HP) (H : Heap) (locs : List Loc) (ls : Array Slot), In y87_l10 0 2147483647 → va_P g.1 vwCl (va_pl L f_87) H → va_D A (va_pl L f_87) → va_S A s.heap H locs → TI g ad th f_87 → (∀ b, b ≠ (ad 18) → b ≠ (ad 21) → b ≠ (ad 22) → b ≠ (ad 23) → f_87 b = f b) → lv_has ls 16 [(0, .ref (ad 18)), (1, .int 1), (2, .int z2), (3, .long z3), (5, .int z4), (6, .int 18), (7, .int r3), (8, .int y20_l8), (9, .int r14), (10, .int y87_l10)] → 2147483647 - y87_l10.toInt < ((k87 : Nat) : Int) → W p l e rm_X7_tryOffers_1 s m [.ref (ad 18), .int 1, .int z2, .long z3, .int z4].toArray below meth c H locs 0 0 (MQ below (va_Qv (po_X7_tryOffers_1 g ad th L f z2 z3 z4) (PstB g A) A) [.ref (ad 18), .int 1, .int z2, .long z3, .int z4].toArray s rm_X7_tryOffers_1.cells rm_X7_tryOffers_1.slots A) (F0 m 87 ls []) := by
          intro k87
          induction k87 with
          | zero =>
            intro y87_l10 f_87 H locs ls hy87_l10 hP hD hS hT hfr hl hmz87
            exact ms0 hy87_l10 hmz87
          | succ k87 ih87 =>
            intro y87_l10 f_87 H locs ls hy87_l10 hP hD hS hT hfr hl hmz87
            refine lv_iload hx hb dX7_tryOffers_87 (lv_at hl 9 rfl) ?_
            refine lv_iload hx hb dX7_tryOffers_89 (lv_at hl 8 rfl) ?_
            refine lv_icmp_ge (tgt := 211) hx hb dX7_tryOffers_91 (by decide) (fun c19 => ?_) (fun c19 => ?_)
            ·
              have cc20 : r14.toInt ≤ y87_l10.toInt := i32_le.mp c19
              exact ret_v hx hb hr hlocks hP hD hS (Nat.le_of_ble_eq_true rfl) (Nat.le_of_ble_eq_true rfl) (⟨rfl, hT, hfr⟩) dX7_tryOffers_211
            ·
              have cc21 : y87_l10.toInt < r14.toInt := i32_nle c19
              have hb22 : In y87_l10 0 2147483646 := In.lt1 hy87_l10 (In.full r14) cc21 (by omega) (by omega)
              have hb23 : In r14 1 2147483647 := In.lt2 hy87_l10 (In.full r14) cc21 (by omega) (by omega)
              refine lv_aload_n hx hb dX7_tryOffers_94 rfl (lv_at hl 0 rfl) ?_
              obtain ⟨v6_24, v7_24, v8_24, v9_24, v10_24, v11_24, v12_24, v13_24, hf25, hv8_24, hv9_24, hv10_24, hv11_24, hv13_24⟩ := hT.1 18 (by decide)
              refine call_i (run_V (rm := rm_X7_isEnough) hx hb hml hown hts (s_X7_isEnough l g ad th _ _ _  hst hT ) cV_X7_isEnough wg_1070 ⟨Nat.le_of_ble_eq_true rfl, Nat.le_of_ble_eq_true rfl⟩ hG hE hA hP hD hS (hst.1 18 (by decide)) hf25 rfl rfl hl.1 (As := []) (rest := []) rfl (Nat.le_of_ble_eq_true rfl) dX7_tryOffers_95 ⟨Nat.le_of_ble_eq_true rfl, Nat.le_of_ble_eq_true rfl⟩) hA hD hS (fun r26 L27 f28 H locs hp29 hP hD hS => ?_)
              obtain ⟨eL30L, eL30T, eL30R⟩ := hp29
              have eL30L : L27 = L := eL30L
              have eL30T : f28 = f_87 := eL30T
              rw [eL30L, eL30T] at hP hD
              have eL30R : In r26 0 1 := eL30R
              refine lv_if_ne (tgt := 211) hx hb dX7_tryOffers_98 (by decide) (fun c31 => ?_) (fun c31 => ?_)
              ·
                have oc0 : (0 : Int32).toInt = 0 := by decide
                have cc32 : r26.toInt ≠ (0 : Int32).toInt := i32_ne c31
                have hb33 : In r26 1 1 := In.ne1 eL30R (⟨by decide, by decide⟩ : In 0 0 0) cc32 (by omega) (by omega)
                exact ret_v hx hb hr hlocks hP hD hS (Nat.le_of_ble_eq_true rfl) (Nat.le_of_ble_eq_true rfl) (⟨rfl, hT, hfr⟩) dX7_tryOffers_211
              ·
                have oc0 : (0 : Int32).toInt = 0 := by decide
                have cc34 : r26.toInt = (0 : Int32).toInt := congrArg Int32.toInt c31
                have hb35 : In r26 0 0 := In.eq1 eL30R (⟨by decide, by decide⟩ : In 0 0 0) cc34 (by omega) (by omega)
                refine lv_iconst (v := 0) hx hb dX7_tryOffers_101 (by decide) ?_
                refine lv_istore (lv' := [(11, .int 0), (0, .ref (ad 18)), (1, .int 1), (2, .int z2), (3, .long z3), (5, .int z4), (6, .int 18), (7, .int r3), (8, .int y20_l8), (9, .int r14), (10, .int y87_l10)]) hx hb dX7_tryOffers_102 hl (by decide) rfl (fun ls hl => ?_)
                refine lv_iload hx hb dX7_tryOffers_104 (lv_at hl 10 rfl) ?_
                refine lv_istore (lv' := [(12, .int y87_l10), (11, .int 0), (0, .ref (ad 18)), (1, .int 1), (2, .int z2), (3, .long z3), (5, .int z4), (6, .int 18), (7, .int r3), (8, .int y20_l8), (9, .int r14), (10, .int y87_l10)]) hx hb dX7_tryOffers_106 hl (by decide) rfl (fun ls hl => ?_)
                refine lv_iload hx hb dX7_tryOffers_108 (lv_at hl 6 rfl) ?_
                refine lv_istore (lv' := [(13, .int z4), (12, .int y87_l10), (11, .int 0), (0, .ref (ad 18)), (1, .int 1), (2, .int z2), (3, .long z3), (5, .int z4), (6, .int 18), (7, .int r3), (8, .int y20_l8), (9, .int r14), (10, .int y87_l10)]) hx hb dX7_tryOffers_110 hl (by decide) rfl (fun ls hl => ?_)
                refine lv_iconst (v := 0) hx hb dX7_tryOffers_112 (by decide) ?_
                refine lv_istore (lv' := [(14, .int 0), (13, .int z4), (12, .int y87_l10), (11, .int 0), (0, .ref (ad 18)), (1, .int 1), (2, .int z2), (3, .long z3), (5, .int z4), (6, .int 18), (7, .int r3), (8, .int y20_l8), (9, .int r14), (10, .int y87_l10)]) hx hb dX7_tryOffers_113 hl (by decide) rfl (fun ls hl => ?_)
                have hJ115 : ∀ (k115 : Nat) (y115_l11 : Int32) (y115_l12 : Int32) (y115_l13 : Int32) (y115_l14 : Int32) (H : Heap) (locs : List Loc) (ls : Array Slot), In y115_l11 (-2147483648) 2147483647 → In y115_l12 0 2147483647 → In y115_l13 (-2147483648) 2147483647 → In y115_l14 0 9 → va_P g.1 vwCl (va_pl L f_87) H → va_D A (va_pl L f_87) → va_S A s.heap H locs → lv_has ls 16 [(0, .ref (ad 18)), (1, .int 1), (2, .int z2), (3, .long z3), (5, .int z4), (6, .int 18), (7, .int r3), (8, .int y20_l8), (9, .int r14), (10, .int y87_l10), (11, .int y115_l11), (12, .int y115_l12), (13, .int y115_l13), (14, .int y115_l14)] → 9 - y115_l14.toInt < ((k115 : Nat) : Int) → W p l e rm_X7_tryOffers_1 s m [.ref (ad 18), .int 1, .int z2, .long z3, .int z4].toArray below meth c H locs 0 0 (MQ below (va_Qv (po_X7_tryOffers_1 g ad th L f z2 z3 z4) (PstB g A) A) [.ref (ad 18), .int 1, .int z2, .long z3, .int z4].toArray s rm_X7_tryOffers_1.cells rm_X7_tryOffers_1.slots A) (F0 m 115 ls []) := by
                  intro k115
                  induction k115 with
                  | zero =>
                    intro y115_l11 y115_l12 y115_l13 y115_l14 H locs ls hy115_l11 hy115_l12 hy115_l13 hy115_l14 hP hD hS hl hmz115
                    exact ms0 hy115_l14 hmz115
                  | succ k115 ih115 =>
                    intro y115_l11 y115_l12 y115_l13 y115_l14 H locs ls hy115_l11 hy115_l12 hy115_l13 hy115_l14 hP hD hS hl hmz115
                    refine lv_iload hx hb dX7_tryOffers_115 (lv_at hl 13 rfl) ?_
                    refine lv_aload_n hx hb dX7_tryOffers_117 rfl (lv_at hl 0 rfl) ?_
                    refine pl_get (v := .int v10_24) hx hb hts (fun w h => mT (inX7 w h)) hown hG.1 hP (hst.1 18 (by decide)) hf25 rfl 10 (by decide) (hts _ (mT wg_442)) (fun _ h => h) rfl dX7_tryOffers_118 ?_
                    refine lv_icmp_ge (tgt := 194) hx hb dX7_tryOffers_121 (by decide) (fun c36 => ?_) (fun c36 => ?_)
                    ·
                      have cc37 : v10_24.toInt ≤ y115_l14.toInt := i32_le.mp c36
                      refine lv_aload_n hx hb dX7_tryOffers_194 rfl (lv_at hl 0 rfl) ?_
                      refine lv_iload_n hx hb dX7_tryOffers_195 rfl (lv_at hl 1 rfl) ?_
                      refine lv_iload_n hx hb dX7_tryOffers_196 rfl (lv_at hl 2 rfl) ?_
                      refine lv_lload_n hx hb dX7_tryOffers_197 rfl (lv_at hl 3 rfl) ?_
                      refine lv_iload hx hb dX7_tryOffers_198 (lv_at hl 10 rfl) ?_
                      refine lv_iload hx hb dX7_tryOffers_200 (lv_at hl 12 rfl) ?_
                      refine call_v (run_V (rm := rm_X7_tryViews_1) hx hb hml hown hts (s_X7_tryViews_1 l g ad th _ _ _ z2 z3 y115_l11 y115_l13 hst hT hz2) cV_X7_tryViews wg_1081 ⟨Nat.le_of_ble_eq_true rfl, Nat.le_of_ble_eq_true rfl⟩ hG hE hA hP hD hS (hst.1 18 (by decide)) hf25 rfl rfl hl.1 (As := [.int 1, .int z2, .long z3, .int y115_l11, .int y115_l13]) (rest := []) rfl (Nat.le_of_ble_eq_true rfl) dX7_tryOffers_202 ⟨Nat.le_of_ble_eq_true rfl, Nat.le_of_ble_eq_true rfl⟩) hA hD hS (fun L39 f40 H locs hp41 hP hD hS => ?_)
                      obtain ⟨eL42L, eL42T, eL42F⟩ := hp41
                      have eL42L : L39 = L := eL42L
                      rw [eL42L] at hP hD
                      have hT : TI g ad th f40 := eL42T
                      have eL42F : ∀ b, b ≠ (ad 18) → b ≠ (ad 21) → b ≠ (ad 22) → b ≠ (ad 23) → f40 b = f_87 b := eL42F
                      have hfr : (∀ b, b ≠ (ad 18) → b ≠ (ad 21) → b ≠ (ad 22) → b ≠ (ad 23) → f40 b = f b) := fun b z0_ z1_ z2_ z3_ => (eL42F b z0_ z1_ z2_ z3_).trans (hfr b z0_ z1_ z2_ z3_)
                      obtain ⟨x43, ex43⟩ : ∃ y : Int32, y = y87_l10 + 1 := ⟨_, rfl⟩
                      have hb44 : In x43 1 2147483647 := ex43 ▸ In.add hb22 (⟨by decide, by decide⟩ : In 1 1 1) (by decide) (by decide) (by decide) (by decide)
                      have et45 : x43.toInt = y87_l10.toInt + 1 := In.adde ex43 hb22 (k := 1) (by decide) (by decide) (by decide)
                      refine lv_iinc (v := x43) (lv' := [(10, .int x43), (0, .ref (ad 18)), (1, .int 1), (2, .int z2), (3, .long z3), (5, .int z4), (6, .int 18), (7, .int r3), (8, .int y20_l8), (9, .int r14), (11, .int y115_l11), (12, .int y115_l12), (13, .int y115_l13), (14, .int y115_l14)]) hx hb dX7_tryOffers_205 hl (k := 9) rfl (by rw [ex43]; rfl) (by decide) rfl (fun ls hl => ?_)
                      refine lv_goto (tgt := 87) hx hb dX7_tryOffers_208 (by decide) ?_
                      exact ih87 x43 _ _ _ _ (In.mono hb44 (by decide) (by decide)) hP hD hS hT hfr (lv_sub hl [1, 2, 3, 4, 5, 6, 7, 8, 9, 0] rfl) (msu et45 (by decide) hmz87)
                    ·
                      have cc46 : y115_l14.toInt < v10_24.toInt := i32_nle c36
                      have hb47 : In y115_l14 0 8 := In.lt1 hy115_l14 hv10_24 cc46 (by omega) (by omega)
                      have hb48 : In v10_24 1 9 := In.lt2 hy115_l14 hv10_24 cc46 (by omega) (by omega)
                      refine lv_iload hx hb dX7_tryOffers_124 (lv_at hl 5 rfl) ?_
                      refine lv_iload hx hb dX7_tryOffers_126 (lv_at hl 11 rfl) ?_
                      refine lv_iload hx hb dX7_tryOffers_128 (lv_at hl 7 rfl) ?_
                      have hb49 : In y20_l8 1 9 := In.mk (by obtain ⟨o0a, o0b⟩ := (hy20_l8 : In _ _ _); obtain ⟨o1a, o1b⟩ := (hb13 : In _ _ _); obtain ⟨o2a, o2b⟩ := (hv11_9 : In _ _ _); omega) (by obtain ⟨o0a, o0b⟩ := (hy20_l8 : In _ _ _); obtain ⟨o1a, o1b⟩ := (hb13 : In _ _ _); obtain ⟨o2a, o2b⟩ := (hv11_9 : In _ _ _); omega)
                      refine lv_irem hx hb dX7_tryOffers_130 (In.ne0 hb49 (by decide)) ?_
                      refine lv_topi (fun x50 ex50 => ?_)
                      have hb51 : In x50 0 8 := ex50 ▸ In.rem hy115_l12 hb49 (by decide) (by decide) (by decide)
                      refine lv_iadd hx hb dX7_tryOffers_131 ?_
                      refine lv_topi (fun x52 ex52 => ?_)
                      have hb53 : In x52 18 26 := ex52 ▸ In.add (⟨by decide, by decide⟩ : In 18 18 18) hb51 (by decide) (by decide) (by decide) (by decide)
                      have et54 : x52.toInt = (18 : Int32).toInt + x50.toInt := In.add2e ex52 (⟨by decide, by decide⟩ : In 18 18 18) hb51 (by decide) (by decide)
                      refine lv_istore (lv' := [(15, .int x52), (0, .ref (ad 18)), (1, .int 1), (2, .int z2), (3, .long z3), (5, .int z4), (6, .int 18), (7, .int r3), (8, .int y20_l8), (9, .int r14), (10, .int y87_l10), (11, .int y115_l11), (12, .int y115_l12), (13, .int y115_l13), (14, .int y115_l14)]) hx hb dX7_tryOffers_132 hl (by decide) rfl (fun ls hl => ?_)
                      refine lv_iload hx hb dX7_tryOffers_134 (lv_at hl 12 rfl) ?_
                      refine lv_iload hx hb dX7_tryOffers_136 (lv_at hl 8 rfl) ?_
                      refine lv_idiv hx hb dX7_tryOffers_138 (In.ne0 hb49 (by decide)) ?_
                      refine lv_topi (fun x55 ex55 => ?_)
                      have hb56 : In x55 0 2147483647 := ex55 ▸ In.div hy115_l12 hb49 (by decide) (by decide) (by decide) (by decide)
                      refine lv_istore (lv' := [(12, .int x55), (15, .int x52), (0, .ref (ad 18)), (1, .int 1), (2, .int z2), (3, .long z3), (5, .int z4), (6, .int 18), (7, .int r3), (8, .int y20_l8), (9, .int r14), (10, .int y87_l10), (11, .int y115_l11), (13, .int y115_l13), (14, .int y115_l14)]) hx hb dX7_tryOffers_139 hl (by decide) rfl (fun ls hl => ?_)
                      refine lv_iload hx hb dX7_tryOffers_141 (lv_at hl 12 rfl) ?_
                      refine lv_aload_n hx hb dX7_tryOffers_143 rfl (lv_at hl 2 rfl) ?_
                      refine pl_get (v := .ref (ad 21)) hx hb hts (fun w h => mT (inX7 w h)) hown hG.1 hP (hst.1 18 (by decide)) hf25 rfl 3 (by decide) (hts _ (mT wg_435)) (fun _ h => h) rfl dX7_tryOffers_144 ?_
                      refine lv_iload hx hb dX7_tryOffers_147 (lv_at hl 1 rfl) ?_
                      obtain ⟨rw57, hf58⟩ := hT.1 21 (by decide)
                      have hin59 : vp_in x52 108 := In.inb hb53 (by decide) (by decide)
                      refine pl_iald hx hb hG.1 hP (hst.1 21 (by decide)) 0 hf58 rfl hin59 dX7_tryOffers_149 ?_
                      refine lv_topi (fun x60 ex60 => ?_)
                      refine lv_aload_n hx hb dX7_tryOffers_150 rfl (lv_at hl 2 rfl) ?_
                      refine pl_get (v := .ref (ad 19)) hx hb hts (fun w h => mT (inX7 w h)) hown hG.1 hP (hst.1 18 (by decide)) hf25 rfl 1 (by decide) (hts _ (mT wg_433)) (fun _ h => h) rfl dX7_tryOffers_151 ?_
                      refine lv_iload hx hb dX7_tryOffers_154 (lv_at hl 14 rfl) ?_
                      obtain ⟨rw61, hf62, hc63⟩ := hT.1 19 (by decide)
                      have hin64 : vp_in y115_l14 9 := In.inb hb47 (by decide) (by decide)
                      refine pl_iald hx hb hG.1 hP (hst.1 19 (by decide)) 0 hf62 rfl hin64 dX7_tryOffers_156 ?_
                      refine lv_topi (fun x65 ex65 => ?_)
                      have hb66 : In x65 0 8 := by rw [ex65]; exact hc63 _ (vp_nat hin64)
                      refine call_i (run_S (rm := rm_X7_wordOf) hx hb hml hown hts (s_X7_wordOf l g ad th _ _ _ x60 x65 hst hT ) cS_X7_wordOf wg_1074 ⟨Nat.le_of_ble_eq_true rfl, Nat.le_of_ble_eq_true rfl⟩ hG hE hA hP hD hS rfl hl.1 (As := [.int x60, .int x65]) (rest := [.int y115_l11]) rfl (Nat.le_of_ble_eq_true rfl) dX7_tryOffers_157 ⟨Nat.le_of_ble_eq_true rfl, Nat.le_of_ble_eq_true rfl⟩) hA hD hS (fun r67 L68 f69 H locs hp70 hP hD hS => ?_)
                      obtain ⟨eL71L, eL71T⟩ := hp70
                      have eL71L : L68 = L := eL71L
                      have eL71T : f69 = f_87 := eL71T
                      rw [eL71L, eL71T] at hP hD
                      refine lv_ior hx hb dX7_tryOffers_160 ?_
                      refine lv_topi (fun x72 ex72 => ?_)
                      refine lv_istore (lv' := [(11, .int x72), (12, .int x55), (15, .int x52), (0, .ref (ad 18)), (1, .int 1), (2, .int z2), (3, .long z3), (5, .int z4), (6, .int 18), (7, .int r3), (8, .int y20_l8), (9, .int r14), (10, .int y87_l10), (13, .int y115_l13), (14, .int y115_l14)]) hx hb dX7_tryOffers_161 hl (by decide) rfl (fun ls hl => ?_)
                      refine lv_iload hx hb dX7_tryOffers_163 (lv_at hl 13 rfl) ?_
                      refine lv_aload_n hx hb dX7_tryOffers_165 rfl (lv_at hl 3 rfl) ?_
                      refine lv_aload_n hx hb dX7_tryOffers_166 rfl (lv_at hl 3 rfl) ?_
                      refine pl_get (v := .ref (ad 22)) hx hb hts (fun w h => mT (inX7 w h)) hown hG.1 hP (hst.1 18 (by decide)) hf25 rfl 4 (by decide) (hts _ (mT wg_436)) (fun _ h => h) rfl dX7_tryOffers_167 ?_
                      refine lv_iload hx hb dX7_tryOffers_170 (lv_at hl 2 rfl) ?_
                      obtain ⟨rw73, hf74⟩ := hT.1 22 (by decide)
                      have hin75 : vp_in x52 108 := In.inb hb53 (by decide) (by decide)
                      refine pl_iald hx hb hG.1 hP (hst.1 22 (by decide)) 0 hf74 rfl hin75 dX7_tryOffers_172 ?_
                      refine lv_topi (fun x76 ex76 => ?_)
                      refine lv_aload_n hx hb dX7_tryOffers_173 rfl (lv_at hl 3 rfl) ?_
                      refine pl_get (v := .ref (ad 20)) hx hb hts (fun w h => mT (inX7 w h)) hown hG.1 hP (hst.1 18 (by decide)) hf25 rfl 2 (by decide) (hts _ (mT wg_434)) (fun _ h => h) rfl dX7_tryOffers_174 ?_
                      refine lv_iload_n hx hb dX7_tryOffers_177 rfl (lv_at hl 4 rfl) ?_
                      obtain ⟨rw77, hf78⟩ := hT.1 20 (by decide)
                      have hin79 : vp_in 1 7 := In.inb (⟨by decide, by decide⟩ : In 1 1 1) (by decide) (by decide)
                      refine pl_iald hx hb hG.1 hP (hst.1 20 (by decide)) 0 hf78 rfl hin79 dX7_tryOffers_178 ?_
                      refine lv_topi (fun x80 ex80 => ?_)
                      refine lv_iload hx hb dX7_tryOffers_179 (lv_at hl 14 rfl) ?_
                      refine lv_iadd hx hb dX7_tryOffers_181 ?_
                      refine lv_topi (fun x81 ex81 => ?_)
                      refine call_i (run_V (rm := rm_X7_bitsOf) hx hb hml hown hts (s_X7_bitsOf l g ad th _ _ _ x76 x81 hst hT ) cV_X7_bitsOf wg_1077 ⟨Nat.le_of_ble_eq_true rfl, Nat.le_of_ble_eq_true rfl⟩ hG hE hA hP hD hS (hst.1 18 (by decide)) hf25 rfl rfl hl.1 (As := [.int x76, .int x81]) (rest := [.int y115_l13]) rfl (Nat.le_of_ble_eq_true rfl) dX7_tryOffers_182 ⟨Nat.le_of_ble_eq_true rfl, Nat.le_of_ble_eq_true rfl⟩) hA hD hS (fun r82 L83 f84 H locs hp85 hP hD hS => ?_)
                      obtain ⟨eL86L, eL86T⟩ := hp85
                      have eL86L : L83 = L := eL86L
                      have eL86T : f84 = f_87 := eL86T
                      rw [eL86L, eL86T] at hP hD
                      refine lv_ior hx hb dX7_tryOffers_185 ?_
                      refine lv_topi (fun x87 ex87 => ?_)
                      refine lv_istore (lv' := [(13, .int x87), (11, .int x72), (12, .int x55), (15, .int x52), (0, .ref (ad 18)), (1, .int 1), (2, .int z2), (3, .long z3), (5, .int z4), (6, .int 18), (7, .int r3), (8, .int y20_l8), (9, .int r14), (10, .int y87_l10), (14, .int y115_l14)]) hx hb dX7_tryOffers_186 hl (by decide) rfl (fun ls hl => ?_)
                      obtain ⟨x88, ex88⟩ : ∃ y : Int32, y = y115_l14 + 1 := ⟨_, rfl⟩
                      have hb89 : In x88 1 9 := ex88 ▸ In.add hb47 (⟨by decide, by decide⟩ : In 1 1 1) (by decide) (by decide) (by decide) (by decide)
                      have et90 : x88.toInt = y115_l14.toInt + 1 := In.adde ex88 hb47 (k := 1) (by decide) (by decide) (by decide)
                      refine lv_iinc (v := x88) (lv' := [(14, .int x88), (13, .int x87), (11, .int x72), (12, .int x55), (15, .int x52), (0, .ref (ad 18)), (1, .int 1), (2, .int z2), (3, .long z3), (5, .int z4), (6, .int 18), (7, .int r3), (8, .int y20_l8), (9, .int r14), (10, .int y87_l10)]) hx hb dX7_tryOffers_188 hl (k := 14) rfl (by rw [ex88]; rfl) (by decide) rfl (fun ls hl => ?_)
                      refine lv_goto (tgt := 115) hx hb dX7_tryOffers_191 (by decide) ?_
                      exact ih115 x72 x55 x87 x88 _ _ _ (In.full x72) hb56 (In.full x87) (In.mono hb89 (by decide) (by decide)) hP hD hS (lv_sub hl [5, 6, 7, 8, 9, 10, 11, 12, 13, 14, 2, 3, 1, 0] rfl) (msu et90 (by decide) hmz115)
                exact hJ115 ((9 - (0 : Int32).toInt).toNat + 1) 0 y87_l10 z4 0 _ _ _ (⟨by decide, by decide⟩ : In 0 (-2147483648) 2147483647) (In.mono hb22 (by decide) (by decide)) (In.full z4) (⟨by decide, by decide⟩ : In 0 0 9) hP hD hS (lv_sub hl [4, 5, 6, 7, 8, 9, 10, 11, 12, 13, 3, 2, 1, 0] rfl) (msI _)
        exact hJ87 ((2147483647 - (0 : Int32).toInt).toNat + 1) 0 _ _ _ _ (⟨by decide, by decide⟩ : In 0 0 2147483647) hP hD hS hT hfr (lv_sub hl [2, 3, 4, 5, 6, 7, 8, 9, 1, 0] rfl) (msI _)
      ·
        have cc91 : y20_l9.toInt ≤ v11_9.toInt := i32_nlt c11
        have hb92 : In y20_l9 0 8 := In.le1 hy20_l9 hv11_9 cc91 (by omega) (by omega)
        refine lv_aload_n hx hb dX7_tryOffers_29 rfl (lv_at hl 0 rfl) ?_
        refine pl_get (v := .ref (ad 8)) hx hb hts (fun w h => mT (inX7 w h)) hown hG.1 hP (hst.1 18 (by decide)) hf10 rfl 0 (by decide) (hts _ (mT wg_432)) (fun _ h => h) rfl dX7_tryOffers_30 ?_
        refine lv_aload_n hx hb dX7_tryOffers_33 rfl (lv_at hl 0 rfl) ?_
        refine pl_get (v := .ref (ad 8)) hx hb hts (fun w h => mT (inX7 w h)) hown hG.1 hP (hst.1 18 (by decide)) hf10 rfl 0 (by decide) (hts _ (mT wg_432)) (fun _ h => h) rfl dX7_tryOffers_34 ?_
        obtain ⟨v0_93, v1_93, v2_93, v3_93, v4_93, v5_93, v6_93, v7_93, hf94, hv0_93, hv1_93, hv2_93, hv3_93, hv5_93, hv6_93⟩ := hT.1 8 (by decide)
        refine pl_getN (v := .int v1_93) hx hb hts (fun w h => mT (inX2 w h)) hown hG.1 hP (hst.1 8 (by decide)) hf94 rfl 1 (by decide) (hG.2.1 _ wn_229) (fun _ h => h) rfl dX7_tryOffers_37 ?_
        refine lv_iload hx hb dX7_tryOffers_40 (lv_at hl 6 rfl) ?_
        refine lv_isub hx hb dX7_tryOffers_42 ?_
        refine lv_topi (fun x95 ex95 => ?_)
        have hb96 : In x95 (-9) 9 := ex95 ▸ In.sub hv1_93 hb8 (by decide) (by decide) (by decide) (by decide)
        have et97 : x95.toInt = v1_93.toInt - r3.toInt := In.sub2e ex95 hv1_93 hb8 (by decide) (by decide)
        refine lv_iload hx hb dX7_tryOffers_43 (lv_at hl 8 rfl) ?_
        refine lv_isub hx hb dX7_tryOffers_45 ?_
        refine lv_topi (fun x98 ex98 => ?_)
        have hb99 : In x98 (-17) 9 := ex98 ▸ In.sub hb96 hb92 (by decide) (by decide) (by decide) (by decide)
        have et100 : x98.toInt = x95.toInt - y20_l9.toInt := In.sub2e ex98 hb96 hb92 (by decide) (by decide)
        refine lv_iload hx hb dX7_tryOffers_46 (lv_at hl 6 rfl) ?_
        refine lv_iload hx hb dX7_tryOffers_48 (lv_at hl 8 rfl) ?_
        refine lv_iadd hx hb dX7_tryOffers_50 ?_
        refine lv_topi (fun x101 ex101 => ?_)
        have hb102 : In x101 0 17 := ex101 ▸ In.add hb8 hb92 (by decide) (by decide) (by decide) (by decide)
        have et103 : x101.toInt = r3.toInt + y20_l9.toInt := In.add2e ex101 hb8 hb92 (by decide) (by decide)
        refine call_i (run_VN (rm := rm_X2_offer_ru) hx hb hml hown hts (s_X2_offer_ru l g ad th _ _ _ x98 x101 hst hT ) cV_X2_offer wn_1061 ⟨Nat.le_of_ble_eq_true rfl, Nat.le_of_ble_eq_true rfl⟩ hG hE hA hP hD hS (hst.1 8 (by decide)) hf94 rfl rfl hl.1 (As := [.int x98, .int x101]) (rest := []) rfl (Nat.le_of_ble_eq_true rfl) dX7_tryOffers_51 ⟨Nat.le_of_ble_eq_true rfl, Nat.le_of_ble_eq_true rfl⟩) hA hD hS (fun r104 L105 f106 H locs hp107 hP hD hS => ?_)
        obtain ⟨eL108L, eL108T, eL108R⟩ := hp107
        have eL108L : L105 = L := eL108L
        have eL108T : f106 = f_20 := eL108T
        rw [eL108L, eL108T] at hP hD
        have eL108R : In r104 0 2 := eL108R
        refine lv_istore (lv' := [(10, .int r104), (0, .ref (ad 18)), (1, .int 1), (2, .int z2), (3, .long z3), (5, .int z4), (6, .int 18), (7, .int r3), (8, .int y20_l8), (9, .int y20_l9)]) hx hb dX7_tryOffers_54 hl (by decide) rfl (fun ls hl => ?_)
        refine lv_aload_n hx hb dX7_tryOffers_56 rfl (lv_at hl 1 rfl) ?_
        refine lv_iload hx hb dX7_tryOffers_57 (lv_at hl 6 rfl) ?_
        refine lv_iload hx hb dX7_tryOffers_59 (lv_at hl 8 rfl) ?_
        refine lv_iload hx hb dX7_tryOffers_61 (lv_at hl 0 rfl) ?_
        refine lv_iload hx hb dX7_tryOffers_63 (lv_at hl 9 rfl) ?_
        refine call_i (run_V (rm := rm_X7_addChoice) hx hb hml hown hts (s_X7_addChoice l g ad th _ _ _ 18 y20_l8 r104 y20_l9 hst hT (⟨by decide, by decide⟩ : In 18 0 99) (In.mk (by obtain ⟨o0a, o0b⟩ := (hy20_l8 : In _ _ _); obtain ⟨o1a, o1b⟩ := (hb92 : In _ _ _); obtain ⟨o2a, o2b⟩ := (hv11_9 : In _ _ _); omega) (by obtain ⟨o0a, o0b⟩ := (hy20_l8 : In _ _ _); obtain ⟨o1a, o1b⟩ := (hb92 : In _ _ _); obtain ⟨o2a, o2b⟩ := (hv11_9 : In _ _ _); omega))) cV_X7_addChoice wg_1062 ⟨Nat.le_of_ble_eq_true rfl, Nat.le_of_ble_eq_true rfl⟩ hG hE hA hP hD hS (hst.1 18 (by decide)) hf10 rfl rfl hl.1 (As := [.int 18, .int y20_l8, .int r104, .int y20_l9]) (rest := []) rfl (Nat.le_of_ble_eq_true rfl) dX7_tryOffers_65 ⟨Nat.le_of_ble_eq_true rfl, Nat.le_of_ble_eq_true rfl⟩) hA hD hS (fun r109 L110 f111 H locs hp112 hP hD hS => ?_)
        obtain ⟨eL113L, eL113T, eL113F, eL113R, eL113X0⟩ := hp112
        have eL113L : L110 = L := eL113L
        rw [eL113L] at hP hD
        have hT : TI g ad th f111 := eL113T
        have eL113F : ∀ b, b ≠ (ad 21) → b ≠ (ad 22) → f111 b = f_20 b := eL113F
        have hf114 := (eL113F (ad 18) (hst.ne (by decide) (by decide) (by decide)) (hst.ne (by decide) (by decide) (by decide))).trans hf10
        have hf115 := (eL113F (ad 8) (hst.ne (by decide) (by decide) (by decide)) (hst.ne (by decide) (by decide) (by decide))).trans hf94
        have hfr : (∀ b, b ≠ (ad 18) → b ≠ (ad 21) → b ≠ (ad 22) → b ≠ (ad 23) → f111 b = f b) := fun b z0_ z1_ z2_ z3_ => (eL113F b z1_ z2_).trans (hfr b z0_ z1_ z2_ z3_)
        have eL113R : In r109 0 9 := eL113R
        have hac116 : r109.toInt ≤ y20_l8.toInt + 1 ∧ 1 ≤ r109.toInt := eL113X0
        refine lv_istore (lv' := [(8, .int r109), (10, .int r104), (0, .ref (ad 18)), (1, .int 1), (2, .int z2), (3, .long z3), (5, .int z4), (6, .int 18), (7, .int r3), (9, .int y20_l9)]) hx hb dX7_tryOffers_68 hl (by decide) rfl (fun ls hl => ?_)
        obtain ⟨x117, ex117⟩ : ∃ y : Int32, y = y20_l9 + 1 := ⟨_, rfl⟩
        have hb118 : In x117 1 9 := ex117 ▸ In.add hb92 (⟨by decide, by decide⟩ : In 1 1 1) (by decide) (by decide) (by decide) (by decide)
        have et119 : x117.toInt = y20_l9.toInt + 1 := In.adde ex117 hb92 (k := 1) (by decide) (by decide) (by decide)
        refine lv_iinc (v := x117) (lv' := [(9, .int x117), (8, .int r109), (10, .int r104), (0, .ref (ad 18)), (1, .int 1), (2, .int z2), (3, .long z3), (5, .int z4), (6, .int 18), (7, .int r3)]) hx hb dX7_tryOffers_70 hl (k := 9) rfl (by rw [ex117]; rfl) (by decide) rfl (fun ls hl => ?_)
        refine lv_goto (tgt := 20) hx hb dX7_tryOffers_73 (by decide) ?_
        exact ih20 r109 x117 _ _ _ _ eL113R (In.mono hb118 (by decide) (by decide)) hP hD hS hT hfr (by obtain ⟨o0a, o0b⟩ := (eL113R : In _ _ _); obtain ⟨o1a, o1b⟩ := (hb118 : In _ _ _); obtain ⟨o2a, o2b⟩ := (hy20_l8 : In _ _ _); obtain ⟨o3a, o3b⟩ := (hb92 : In _ _ _); obtain ⟨o4a, o4b⟩ := (hv11_9 : In _ _ _); omega) (lv_sub hl [3, 4, 5, 6, 7, 8, 9, 1, 0] rfl) (msu et119 (by decide) hmz20)
  exact hJ20 ((9 - (0 : Int32).toInt).toNat + 1) 0 0 _ _ _ _ (⟨by decide, by decide⟩ : In 0 0 9) (⟨by decide, by decide⟩ : In 0 0 9) hP hD hS hT hfr (by have oc0 : (0 : Int32).toInt = 0 := (by decide); omega) (lv_sub hl [4, 5, 6, 7, 8, 3, 2, 1, 0] rfl) (msI _)

abbrev rm_X7_explore_1 : Room := { frames := 21, cells := 0, slots := 0, locals := 727 }
abbrev po_X7_explore_1 (g : GG) (ad : Nat → Nat) (th : Nat → Int) (L : List Nat) (f : HP) (z2 : Int32) (z3 : Int64) (z4 : Int32) : (List Nat × HP) → Prop := fun u => u.1 = L ∧ TI g ad th u.2 ∧ (∀ b, b ≠ (ad 18) → b ≠ (ad 21) → b ≠ (ad 22) → b ≠ (ad 23) → u.2 b = f b)
set_option maxHeartbeats 4000000 in
set_option maxRecDepth 100000 in
theorem s_X7_explore_1 (l : Launch) (g : GG) (ad : Nat → Nat) (th : Nat → Int) (L : List Nat) (f : HP) (sz : Nat) (z2 : Int32) (z3 : Int64) (z4 : Int32) (hst : ST ad L) (hT : TI g ad th f) (hz2 : In z2 0 511) : MtV l g yX7_explore cX7_explore 8 rm_X7_explore_1 [.ref (ad 18), .int 1, .int z2, .long z3, .int z4] L f sz (po_X7_explore_1 g ad th L f z2 z3 z4) := by
  refine MtV.of (by decide +kernel) (Nat.le_of_ble_eq_true rfl) ?_
  intro p e s m below meth c A hEn hP hD hS ls hl
  obtain ⟨hx, hb, hr, hml, hown, hlocks, hts, hG, hA, hE, hnm⟩ := hEn
  have hown : s.vm.findClass "RulerWord$Search" = some m.cls := hown
  have hl : lv_has ls 8 [(0, .ref (ad 18)), (1, .int 1), (2, .int z2), (3, .long z3), (5, .int z4)] := hl
  have hfr : (∀ b, b ≠ (ad 18) → b ≠ (ad 21) → b ≠ (ad 22) → b ≠ (ad 23) → f b = f b) := fun b z0_ z1_ z2_ z3_ => rfl
  refine lv_iload_n hx hb dX7_explore_0 rfl (lv_at hl 1 rfl) ?_
  refine lv_aload_n hx hb dX7_explore_1 rfl (lv_at hl 0 rfl) ?_
  obtain ⟨v6_1, v7_1, v8_1, v9_1, v10_1, v11_1, v12_1, v13_1, hf2, hv8_1, hv9_1, hv10_1, hv11_1, hv13_1⟩ := hT.1 18 (by decide)
  refine pl_get (v := .int v7_1) hx hb hts (fun w h => mT (inX7 w h)) hown hG.1 hP (hst.1 18 (by decide)) hf2 rfl 7 (by decide) (hts _ (mT wg_439)) (fun _ h => h) rfl dX7_explore_2 ?_
  have hJ14 : ∀ (H : Heap) (locs : List Loc) (ls : Array Slot), va_P g.1 vwCl (va_pl L f) H → va_D A (va_pl L f) → va_S A s.heap H locs → lv_has ls 8 [(0, .ref (ad 18)), (1, .int 1), (2, .int z2), (3, .long z3), (5, .int z4)] → W p l e rm_X7_explore_1 s m [.ref (ad 18), .int 1, .int z2, .long z3, .int z4].toArray below meth c H locs 0 0 (MQ below (va_Qv (po_X7_explore_1 g ad th L f z2 z3 z4) (PstB g A) A) [.ref (ad 18), .int 1, .int z2, .long z3, .int z4].toArray s rm_X7_explore_1.cells rm_X7_explore_1.slots A) (F0 m 14 ls []) := by
    intro H locs ls hP hD hS hl
    refine lv_aload_n hx hb dX7_explore_14 rfl (lv_at hl 0 rfl) ?_
    refine lv_iload_n hx hb dX7_explore_15 rfl (lv_at hl 2 rfl) ?_
    refine lv_iload hx hb dX7_explore_16 (lv_at hl 4 rfl) ?_
    refine call_v (run_V (rm := rm_X7_judge) hx hb hml hown hts (s_X7_judge l g ad th _ _ _ z2 z4 hst hT hz2) cV_X7_judge wg_1053 ⟨Nat.le_of_ble_eq_true rfl, Nat.le_of_ble_eq_true rfl⟩ hG hE hA hP hD hS (hst.1 18 (by decide)) hf2 rfl rfl hl.1 (As := [.int z2, .int z4]) (rest := []) rfl (Nat.le_of_ble_eq_true rfl) dX7_explore_18 ⟨Nat.le_of_ble_eq_true rfl, Nat.le_of_ble_eq_true rfl⟩) hA hD hS (fun L4 f5 H locs hp6 hP hD hS => ?_)
    obtain ⟨eL7L, eL7T, eL7F⟩ := hp6
    have eL7L : L4 = L := eL7L
    rw [eL7L] at hP hD
    have hT : TI g ad th f5 := eL7T
    have eL7F : ∀ b, b ≠ (ad 18) → f5 b = f b := eL7F
    have hfr : (∀ b, b ≠ (ad 18) → b ≠ (ad 21) → b ≠ (ad 22) → b ≠ (ad 23) → f5 b = f b) := fun b z0_ z1_ z2_ z3_ => (eL7F b z0_).trans (hfr b z0_ z1_ z2_ z3_)
    exact ret_v hx hb hr hlocks hP hD hS (Nat.le_of_ble_eq_true rfl) (Nat.le_of_ble_eq_true rfl) (⟨rfl, hT, hfr⟩) dX7_explore_21
  refine lv_icmp_ge (tgt := 14) hx hb dX7_explore_5 (by decide) (fun c8 => ?_) (fun c8 => ?_)
  ·
    have cc9 : v7_1.toInt ≤ (1 : Int32).toInt := i32_le.mp c8
    have hb10 : In v7_1 (-2147483648) 1 := In.ge2 (⟨by decide, by decide⟩ : In 1 1 1) (In.full v7_1) cc9 (by omega) (by omega)
    exact hJ14 _ _ _ hP hD hS (lv_sub hl [0, 1, 2, 3, 4] rfl)
  ·
    have cc11 : (1 : Int32).toInt < v7_1.toInt := i32_nle c8
    have hb12 : In v7_1 2 2147483647 := In.lt2 (⟨by decide, by decide⟩ : In 1 1 1) (In.full v7_1) cc11 (by omega) (by omega)
    refine lv_iload_n hx hb dX7_explore_8 rfl (lv_at hl 1 rfl) ?_
    refine lv_bipush (v := 6) hx hb dX7_explore_9 (by decide) ?_
    refine lv_icmp_lt (tgt := 22) hx hb dX7_explore_11 (by decide) (fun c13 => ?_) (fun c13 => ?_)
    ·
      refine lv_iload_n hx hb dX7_explore_22 rfl (lv_at hl 1 rfl) ?_
      refine lv_bipush (v := 9) hx hb dX7_explore_23 (by decide) ?_
      refine lv_ishl hx hb dX7_explore_25 ?_
      refine lv_topi (fun x14 ex14 => ?_)
      obtain rfl : x14 = 512 := ex14.trans (by decide)
      refine lv_iload_n hx hb dX7_explore_26 rfl (lv_at hl 2 rfl) ?_
      refine lv_ior hx hb dX7_explore_27 ?_
      refine lv_topi (fun x15 ex15 => ?_)
      have hb16 : In x15 512 1023 := ex15 ▸ In.orc 9 1 hz2 (by decide) (by decide) (by decide) (by decide)
      refine lv_istore (lv' := [(6, .int x15), (0, .ref (ad 18)), (1, .int 1), (2, .int z2), (3, .long z3), (5, .int z4)]) hx hb dX7_explore_28 hl (by decide) rfl (fun ls hl => ?_)
      refine lv_aload_n hx hb dX7_explore_30 rfl (lv_at hl 1 rfl) ?_
      refine pl_get (v := .ref (ad 23)) hx hb hts (fun w h => mT (inX7 w h)) hown hG.1 hP (hst.1 18 (by decide)) hf2 rfl 5 (by decide) (hts _ (mT wg_437)) (fun _ h => h) rfl dX7_explore_31 ?_
      refine lv_iload hx hb dX7_explore_34 (lv_at hl 0 rfl) ?_
      refine lv_bipush (v := 6) hx hb dX7_explore_36 (by decide) ?_
      refine lv_iushr hx hb dX7_explore_38 rfl ?_
      refine lv_topi (fun x17 ex17 => ?_)
      have hb18 : In x17 8 15 := ex17 ▸ In.ushr 6 hb16 (by decide) (by decide) (by decide) (by decide)
      obtain ⟨rw19, hf20⟩ := hT.1 23 (by decide)
      have hin21 : vp_in x17 48 := In.inb hb18 (by decide) (by decide)
      refine pl_lald hx hb hG.1 hP (hst.1 23 (by decide)) 1 hf20 rfl hin21 dX7_explore_39 ?_
      refine lv_topl (fun x22 ex22 => ?_)
      refine lv_iload hx hb dX7_explore_40 (lv_at hl 0 rfl) ?_
      refine lv_lushr hx hb dX7_explore_42 rfl ?_
      refine lv_topl (fun x23 ex23 => ?_)
      refine lv_lconst (v := 1) hx hb dX7_explore_43 (by decide) ?_
      refine lv_land hx hb dX7_explore_44 ?_
      refine lv_topl (fun x24 ex24 => ?_)
      refine lv_lconst (v := 1) hx hb dX7_explore_45 (by decide) ?_
      refine W.lcmp hx hb dX7_explore_46 ?_
      refine lv_topi (fun x25 ex25 => ?_)
      have hb26 : In x25 (-1) 1 := ex25 ▸ In.lcmp _ _
      refine lv_if_ne (tgt := 51) hx hb dX7_explore_47 (by decide) (fun c27 => ?_) (fun c27 => ?_)
      ·
        refine lv_aload_n hx hb dX7_explore_51 rfl (lv_at hl 1 rfl) ?_
        refine pl_get (v := .int v6_1) hx hb hts (fun w h => mT (inX7 w h)) hown hG.1 hP (hst.1 18 (by decide)) hf2 rfl 6 (by decide) (hts _ (mT wg_438)) (fun _ h => h) rfl dX7_explore_52 ?_
        refine lv_istore (lv' := [(7, .int v6_1), (6, .int x15), (0, .ref (ad 18)), (1, .int 1), (2, .int z2), (3, .long z3), (5, .int z4)]) hx hb dX7_explore_55 hl (by decide) rfl (fun ls hl => ?_)
        refine lv_aload_n hx hb dX7_explore_57 rfl (lv_at hl 2 rfl) ?_
        refine pl_get (v := .ref (ad 8)) hx hb hts (fun w h => mT (inX7 w h)) hown hG.1 hP (hst.1 18 (by decide)) hf2 rfl 0 (by decide) (hts _ (mT wg_432)) (fun _ h => h) rfl dX7_explore_58 ?_
        obtain ⟨v0_28, v1_28, v2_28, v3_28, v4_28, v5_28, v6_28, v7_28, hf29, hv0_28, hv1_28, hv2_28, hv3_28, hv5_28, hv6_28⟩ := hT.1 8 (by decide)
        refine pl_getN (v := .int v0_28) hx hb hts (fun w h => mT (inX2 w h)) hown hG.1 hP (hst.1 8 (by decide)) hf29 rfl 0 (by decide) (hG.2.1 _ wn_225) (fun _ h => h) rfl dX7_explore_61 ?_
        have hJ101 : ∀ (f_101 : HP) (H : Heap) (locs : List Loc) (ls : Array Slot), va_P g.1 vwCl (va_pl L f_101) H → va_D A (va_pl L f_101) → va_S A s.heap H locs → TI g ad th f_101 → (∀ b, b ≠ (ad 18) → b ≠ (ad 21) → b ≠ (ad 22) → b ≠ (ad 23) → f_101 b = f b) → f_101 (ad 8) = .inr (2, [.int v0_28, .int v1_28, .int v2_28, .int v3_28, .int v4_28, .int v5_28, .int v6_28, .int v7_28]) → lv_has ls 8 [(0, .ref (ad 18)), (1, .int 1), (2, .int z2), (3, .long z3), (5, .int z4), (6, .int x15), (7, .int v6_1)] → W p l e rm_X7_explore_1 s m [.ref (ad 18), .int 1, .int z2, .long z3, .int z4].toArray below meth c H locs 0 0 (MQ below (va_Qv (po_X7_explore_1 g ad th L f z2 z3 z4) (PstB g A) A) [.ref (ad 18), .int 1, .int z2, .long z3, .int z4].toArray s rm_X7_explore_1.cells rm_X7_explore_1.slots A) (F0 m 101 ls []) := by
          intro f_101 H locs ls hP hD hS hT hfr hf30 hl
          refine lv_aload_n hx hb dX7_explore_101 rfl (lv_at hl 0 rfl) ?_
          obtain ⟨v6_31, v7_31, v8_31, v9_31, v10_31, v11_31, v12_31, v13_31, hf32, hv8_31, hv9_31, hv10_31, hv11_31, hv13_31⟩ := hT.1 18 (by decide)
          refine pl_get (v := .int v6_31) hx hb hts (fun w h => mT (inX7 w h)) hown hG.1 hP (hst.1 18 (by decide)) hf32 rfl 6 (by decide) (hts _ (mT wg_438)) (fun _ h => h) rfl dX7_explore_102 ?_
          refine lv_iload hx hb dX7_explore_105 (lv_at hl 6 rfl) ?_
          refine lv_icmp_ne (tgt := 135) hx hb dX7_explore_107 (by decide) (fun c33 => ?_) (fun c33 => ?_)
          ·
            exact ret_v hx hb hr hlocks hP hD hS (Nat.le_of_ble_eq_true rfl) (Nat.le_of_ble_eq_true rfl) (⟨rfl, hT, hfr⟩) dX7_explore_135
          ·
            refine lv_aload_n hx hb dX7_explore_110 rfl (lv_at hl 0 rfl) ?_
            refine lv_iconst (v := 0) hx hb dX7_explore_111 (by decide) ?_
            refine call_i (run_V (rm := rm_X7_doesSuspicionCount) hx hb hml hown hts (s_X7_doesSuspicionCount l g ad th _ _ _ 0 hst hT (⟨by decide, by decide⟩ : In 0 0 6)) cV_X7_doesSuspicionCount wg_1094 ⟨Nat.le_of_ble_eq_true rfl, Nat.le_of_ble_eq_true rfl⟩ hG hE hA hP hD hS (hst.1 18 (by decide)) hf32 rfl rfl hl.1 (As := [.int 0]) (rest := []) rfl (Nat.le_of_ble_eq_true rfl) dX7_explore_112 ⟨Nat.le_of_ble_eq_true rfl, Nat.le_of_ble_eq_true rfl⟩) hA hD hS (fun r34 L35 f36 H locs hp37 hP hD hS => ?_)
            obtain ⟨eL38L, eL38T, eL38R⟩ := hp37
            have eL38L : L35 = L := eL38L
            have eL38T : f36 = f_101 := eL38T
            rw [eL38L, eL38T] at hP hD
            have eL38R : In r34 0 1 := eL38R
            refine lv_if_ne (tgt := 135) hx hb dX7_explore_115 (by decide) (fun c39 => ?_) (fun c39 => ?_)
            ·
              have cc40 : r34.toInt ≠ (0 : Int32).toInt := i32_ne c39
              have hb41 : In r34 1 1 := In.ne1 eL38R (⟨by decide, by decide⟩ : In 0 0 0) cc40 (by omega) (by omega)
              exact ret_v hx hb hr hlocks hP hD hS (Nat.le_of_ble_eq_true rfl) (Nat.le_of_ble_eq_true rfl) (⟨rfl, hT, hfr⟩) dX7_explore_135
            ·
              have cc42 : r34.toInt = (0 : Int32).toInt := congrArg Int32.toInt c39
              have hb43 : In r34 0 0 := In.eq1 eL38R (⟨by decide, by decide⟩ : In 0 0 0) cc42 (by omega) (by omega)
              refine lv_aload_n hx hb dX7_explore_118 rfl (lv_at hl 0 rfl) ?_
              refine pl_get (v := .ref (ad 23)) hx hb hts (fun w h => mT (inX7 w h)) hown hG.1 hP (hst.1 18 (by decide)) hf32 rfl 5 (by decide) (hts _ (mT wg_437)) (fun _ h => h) rfl dX7_explore_119 ?_
              refine lv_iload hx hb dX7_explore_122 (lv_at hl 5 rfl) ?_
              refine lv_bipush (v := 6) hx hb dX7_explore_124 (by decide) ?_
              refine lv_iushr hx hb dX7_explore_126 rfl ?_
              refine lv_topi (fun x44 ex44 => ?_)
              obtain rfl : x17 = x44 := ex17.trans ex44.symm
              refine lv_dup2_11 hx hb dX7_explore_127 rfl rfl ?_
              obtain ⟨rw45, hf46⟩ := hT.1 23 (by decide)
              have hin47 : vp_in x17 48 := In.inb hb18 (by decide) (by decide)
              refine pl_lald hx hb hG.1 hP (hst.1 23 (by decide)) 1 hf46 rfl hin47 dX7_explore_128 ?_
              refine lv_topl (fun x48 ex48 => ?_)
              refine lv_lconst (v := 1) hx hb dX7_explore_129 (by decide) ?_
              refine lv_iload hx hb dX7_explore_130 (lv_at hl 5 rfl) ?_
              refine lv_lshl hx hb dX7_explore_132 rfl ?_
              refine lv_topl (fun x49 ex49 => ?_)
              refine lv_lor hx hb dX7_explore_133 ?_
              refine lv_topl (fun x50 ex50 => ?_)
              refine pl_lastE hx hb hG.1 hP hD hS (hst.1 23 (by decide)) 1 hf46 rfl (In.inb hb18 (by decide) (by decide)) dX7_explore_134 (fun H locs f51 r54 er54 hf52 ho53 hP hD hS => ?_)
              have hf55 := (ho53 (ad 8) (hst.ne (by decide) (by decide) (by decide))).trans hf30
              have hf56 := (ho53 (ad 18) (hst.ne (by decide) (by decide) (by decide))).trans hf32
              have hfr : (∀ b, b ≠ (ad 18) → b ≠ (ad 21) → b ≠ (ad 22) → b ≠ (ad 23) → f51 b = f b) := fun b z0_ z1_ z2_ z3_ => (ho53 b z3_).trans (hfr b z0_ z1_ z2_ z3_)
              have hT := TI.updA hT hst (k := 23) (by decide) hf52 ho53 ⟨r54, rfl⟩
              exact ret_v hx hb hr hlocks hP hD hS (Nat.le_of_ble_eq_true rfl) (Nat.le_of_ble_eq_true rfl) (⟨rfl, hT, hfr⟩) dX7_explore_135
        refine lv_if_ne (tgt := 79) hx hb dX7_explore_64 (by decide) (fun c57 => ?_) (fun c57 => ?_)
        ·
          have cc58 : v0_28.toInt ≠ (0 : Int32).toInt := i32_ne c57
          have hb59 : In v0_28 1 1 := In.ne1 hv0_28 (⟨by decide, by decide⟩ : In 0 0 0) cc58 (by omega) (by omega)
          refine lv_aload_n hx hb dX7_explore_79 rfl (lv_at hl 2 rfl) ?_
          refine lv_iload_n hx hb dX7_explore_80 rfl (lv_at hl 3 rfl) ?_
          refine lv_iload_n hx hb dX7_explore_81 rfl (lv_at hl 4 rfl) ?_
          refine lv_lload_n hx hb dX7_explore_82 rfl (lv_at hl 5 rfl) ?_
          refine lv_aload_n hx hb dX7_explore_83 rfl (lv_at hl 2 rfl) ?_
          refine pl_get (v := .int v9_1) hx hb hts (fun w h => mT (inX7 w h)) hown hG.1 hP (hst.1 18 (by decide)) hf2 rfl 9 (by decide) (hts _ (mT wg_441)) (fun _ h => h) rfl dX7_explore_84 ?_
          refine lv_iload_n hx hb dX7_explore_87 rfl (lv_at hl 4 rfl) ?_
          refine lv_iconst (v := (-1)) hx hb dX7_explore_88 (by decide) ?_
          refine lv_ixor hx hb dX7_explore_89 ?_
          refine lv_topi (fun x60 ex60 => ?_)
          refine lv_iand hx hb dX7_explore_90 ?_
          refine lv_topi (fun x61 ex61 => ?_)
          have hb62 : In x61 0 511 := ex61 ▸ In.andl hv9_1 (by decide)
          refine lv_iload_n hx hb dX7_explore_91 rfl (lv_at hl 4 rfl) ?_
          refine lv_bipush (v := 9) hx hb dX7_explore_92 (by decide) ?_
          refine lv_ishl hx hb dX7_explore_94 ?_
          refine lv_topi (fun x63 ex63 => ?_)
          have hb64 : In x63 0 261632 := ex63 ▸ In.shl hz2 (⟨by decide, by decide⟩ : In 9 9 9) (by decide) (by decide) (by decide) (by decide) (by decide) (by decide)
          refine lv_ior hx hb dX7_explore_95 ?_
          refine lv_topi (fun x65 ex65 => ?_)
          have hb66 : In x65 0 262143 := ex65 ▸ In.or 18 hb62 hb64 (by decide) (by decide) (by decide) (by decide) (by decide)
          refine lv_iload hx hb dX7_explore_96 (lv_at hl 6 rfl) ?_
          refine call_v (run_V (rm := rm_X7_tryViews_1) hx hb hml hown hts (s_X7_tryViews_1 l g ad th _ _ _ z2 z3 x65 z4 hst hT hz2) cV_X7_tryViews wg_1081 ⟨Nat.le_of_ble_eq_true rfl, Nat.le_of_ble_eq_true rfl⟩ hG hE hA hP hD hS (hst.1 18 (by decide)) hf2 rfl rfl hl.1 (As := [.int 1, .int z2, .long z3, .int x65, .int z4]) (rest := []) rfl (Nat.le_of_ble_eq_true rfl) dX7_explore_98 ⟨Nat.le_of_ble_eq_true rfl, Nat.le_of_ble_eq_true rfl⟩) hA hD hS (fun L68 f69 H locs hp70 hP hD hS => ?_)
          obtain ⟨eL71L, eL71T, eL71F⟩ := hp70
          have eL71L : L68 = L := eL71L
          rw [eL71L] at hP hD
          have hT : TI g ad th f69 := eL71T
          have eL71F : ∀ b, b ≠ (ad 18) → b ≠ (ad 21) → b ≠ (ad 22) → b ≠ (ad 23) → f69 b = f b := eL71F
          have hf72 := (eL71F (ad 8) (hst.ne (by decide) (by decide) (by decide)) (hst.ne (by decide) (by decide) (by decide)) (hst.ne (by decide) (by decide) (by decide)) (hst.ne (by decide) (by decide) (by decide))).trans hf29
          have hfr : (∀ b, b ≠ (ad 18) → b ≠ (ad 21) → b ≠ (ad 22) → b ≠ (ad 23) → f69 b = f b) := fun b z0_ z1_ z2_ z3_ => (eL71F b z0_ z1_ z2_ z3_).trans (hfr b z0_ z1_ z2_ z3_)
          exact hJ101 _ _ _ _ hP hD hS hT hfr hf72 (lv_sub hl [2, 3, 4, 5, 6, 1, 0] rfl)
        ·
          have cc73 : v0_28.toInt = (0 : Int32).toInt := congrArg Int32.toInt c57
          have hb74 : In v0_28 0 0 := In.eq1 hv0_28 (⟨by decide, by decide⟩ : In 0 0 0) cc73 (by omega) (by omega)
          refine lv_aload_n hx hb dX7_explore_67 rfl (lv_at hl 2 rfl) ?_
          refine lv_iload_n hx hb dX7_explore_68 rfl (lv_at hl 3 rfl) ?_
          refine lv_iload_n hx hb dX7_explore_69 rfl (lv_at hl 4 rfl) ?_
          refine lv_lload_n hx hb dX7_explore_70 rfl (lv_at hl 5 rfl) ?_
          refine lv_iload hx hb dX7_explore_71 (lv_at hl 6 rfl) ?_
          refine call_v (run_V (rm := rm_X7_tryOffers_1) hx hb hml hown hts (s_X7_tryOffers_1 l g ad th _ _ _ z2 z3 z4 hst hT hz2) cV_X7_tryOffers wg_1057 ⟨Nat.le_of_ble_eq_true rfl, Nat.le_of_ble_eq_true rfl⟩ hG hE hA hP hD hS (hst.1 18 (by decide)) hf2 rfl rfl hl.1 (As := [.int 1, .int z2, .long z3, .int z4]) (rest := []) rfl (Nat.le_of_ble_eq_true rfl) dX7_explore_73 ⟨Nat.le_of_ble_eq_true rfl, Nat.le_of_ble_eq_true rfl⟩) hA hD hS (fun L76 f77 H locs hp78 hP hD hS => ?_)
          obtain ⟨eL79L, eL79T, eL79F⟩ := hp78
          have eL79L : L76 = L := eL79L
          rw [eL79L] at hP hD
          have hT : TI g ad th f77 := eL79T
          have eL79F : ∀ b, b ≠ (ad 18) → b ≠ (ad 21) → b ≠ (ad 22) → b ≠ (ad 23) → f77 b = f b := eL79F
          have hf80 := (eL79F (ad 8) (hst.ne (by decide) (by decide) (by decide)) (hst.ne (by decide) (by decide) (by decide)) (hst.ne (by decide) (by decide) (by decide)) (hst.ne (by decide) (by decide) (by decide))).trans hf29
          have hfr : (∀ b, b ≠ (ad 18) → b ≠ (ad 21) → b ≠ (ad 22) → b ≠ (ad 23) → f77 b = f b) := fun b z0_ z1_ z2_ z3_ => (eL79F b z0_ z1_ z2_ z3_).trans (hfr b z0_ z1_ z2_ z3_)
          refine lv_goto (tgt := 101) hx hb dX7_explore_76 (by decide) ?_
          exact hJ101 _ _ _ _ hP hD hS hT hfr hf80 (lv_sub hl [2, 3, 4, 5, 6, 1, 0] rfl)
      ·
        have cc81 : x25.toInt = (0 : Int32).toInt := congrArg Int32.toInt c27
        have hb82 : In x25 0 0 := In.eq1 hb26 (⟨by decide, by decide⟩ : In 0 0 0) cc81 (by omega) (by omega)
        exact ret_v hx hb hr hlocks hP hD hS (Nat.le_of_ble_eq_true rfl) (Nat.le_of_ble_eq_true rfl) (⟨rfl, hT, hfr⟩) dX7_explore_50
    ·
      have cc83 : (6 : Int32).toInt ≤ (1 : Int32).toInt := i32_nlt c13
      exact In.empty (lo := 6) (hi := 1) (In.ge1 (⟨by decide, by decide⟩ : In 1 1 1) (⟨by decide, by decide⟩ : In 6 6 6) cc83 (by omega) (by omega)) (by decide)

abbrev rm_X7_tryRuler_0 : Room := { frames := 22, cells := 0, slots := 0, locals := 754 }
abbrev po_X7_tryRuler_0 (g : GG) (ad : Nat → Nat) (th : Nat → Int) (L : List Nat) (f : HP) (z2 : Int32) (z3 : Int32) (z4 : Int64) (z5 : Int32) : (List Nat × HP) → Prop := fun u => u.1 = L ∧ TI g ad th u.2 ∧ (∀ b, b ≠ (ad 18) → b ≠ (ad 21) → b ≠ (ad 22) → b ≠ (ad 23) → u.2 b = f b)
set_option maxHeartbeats 4000000 in
set_option maxRecDepth 100000 in
theorem s_X7_tryRuler_0 (l : Launch) (g : GG) (ad : Nat → Nat) (th : Nat → Int) (L : List Nat) (f : HP) (sz : Nat) (z2 : Int32) (z3 : Int32) (z4 : Int64) (z5 : Int32) (hst : ST ad L) (hT : TI g ad th f) (hz2 : In z2 0 511) : MtV l g yX7_tryRuler cX7_tryRuler 21 rm_X7_tryRuler_0 [.ref (ad 18), .int 0, .int z2, .int z3, .long z4, .int z5] L f sz (po_X7_tryRuler_0 g ad th L f z2 z3 z4 z5) := by
  refine MtV.of (by decide +kernel) (Nat.le_of_ble_eq_true rfl) ?_
  intro p e s m below meth c A hEn hP hD hS ls hl
  obtain ⟨hx, hb, hr, hml, hown, hlocks, hts, hG, hA, hE, hnm⟩ := hEn
  have hown : s.vm.findClass "RulerWord$Search" = some m.cls := hown
  have hl : lv_has ls 21 [(0, .ref (ad 18)), (1, .int 0), (2, .int z2), (3, .int z3), (4, .long z4), (6, .int z5)] := hl
  have hfr : (∀ b, b ≠ (ad 18) → b ≠ (ad 21) → b ≠ (ad 22) → b ≠ (ad 23) → f b = f b) := fun b z0_ z1_ z2_ z3_ => rfl
  refine lv_aload_n hx hb dX7_tryRuler_0 rfl (lv_at hl 0 rfl) ?_
  obtain ⟨v6_1, v7_1, v8_1, v9_1, v10_1, v11_1, v12_1, v13_1, hf2, hv8_1, hv9_1, hv10_1, hv11_1, hv13_1⟩ := hT.1 18 (by decide)
  refine pl_get (v := .ref (ad 8)) hx hb hts (fun w h => mT (inX7 w h)) hown hG.1 hP (hst.1 18 (by decide)) hf2 rfl 0 (by decide) (hts _ (mT wg_432)) (fun _ h => h) rfl dX7_tryRuler_1 ?_
  refine lv_iload_n hx hb dX7_tryRuler_4 rfl (lv_at hl 1 rfl) ?_
  obtain ⟨v0_3, v1_3, v2_3, v3_3, v4_3, v5_3, v6_3, v7_3, hf4, hv0_3, hv1_3, hv2_3, hv3_3, hv5_3, hv6_3⟩ := hT.1 8 (by decide)
  refine call_i (run_VN (rm := rm_X2_ruler_ru) hx hb hml hown hts (s_X2_ruler_ru l g ad th _ _ _ 0 hst hT (⟨by decide, by decide⟩ : In 0 0 6)) cV_X2_ruler wn_1093 ⟨Nat.le_of_ble_eq_true rfl, Nat.le_of_ble_eq_true rfl⟩ hG hE hA hP hD hS (hst.1 8 (by decide)) hf4 rfl rfl hl.1 (As := [.int 0]) (rest := []) rfl (Nat.le_of_ble_eq_true rfl) dX7_tryRuler_5 ⟨Nat.le_of_ble_eq_true rfl, Nat.le_of_ble_eq_true rfl⟩) hA hD hS (fun r5 L6 f7 H locs hp8 hP hD hS => ?_)
  obtain ⟨eL9L, eL9T, eL9R⟩ := hp8
  have eL9L : L6 = L := eL9L
  have eL9T : f7 = f := eL9T
  rw [eL9L, eL9T] at hP hD
  have eL9R : In r5 0 8 := eL9R
  refine lv_istore (lv' := [(7, .int r5), (0, .ref (ad 18)), (1, .int 0), (2, .int z2), (3, .int z3), (4, .long z4), (6, .int z5)]) hx hb dX7_tryRuler_8 hl (by decide) rfl (fun ls hl => ?_)
  refine lv_iload hx hb dX7_tryRuler_10 (lv_at hl 0 rfl) ?_
  refine lv_bipush (v := 9) hx hb dX7_tryRuler_12 (by decide) ?_
  refine lv_imul hx hb dX7_tryRuler_14 ?_
  refine lv_topi (fun x10 ex10 => ?_)
  have hb11 : In x10 0 72 := ex10 ▸ In.mul eL9R (⟨by decide, by decide⟩ : In 9 9 9) (by decide) (by decide) (by decide) (by decide) (by decide)
  refine lv_istore (lv' := [(8, .int x10), (7, .int r5), (0, .ref (ad 18)), (1, .int 0), (2, .int z2), (3, .int z3), (4, .long z4), (6, .int z5)]) hx hb dX7_tryRuler_15 hl (by decide) rfl (fun ls hl => ?_)
  refine lv_aload_n hx hb dX7_tryRuler_17 rfl (lv_at hl 2 rfl) ?_
  refine pl_get (v := .ref (ad 8)) hx hb hts (fun w h => mT (inX7 w h)) hown hG.1 hP (hst.1 18 (by decide)) hf2 rfl 0 (by decide) (hts _ (mT wg_432)) (fun _ h => h) rfl dX7_tryRuler_18 ?_
  refine pl_getN (v := .int v6_3) hx hb hts (fun w h => mT (inX2 w h)) hown hG.1 hP (hst.1 8 (by decide)) hf4 rfl 6 (by decide) (hG.2.1 _ wn_243) (fun _ h => h) rfl dX7_tryRuler_21 ?_
  have hJ41 : ∀ (y41_s0 : Int32) (H : Heap) (locs : List Loc) (ls : Array Slot), In y41_s0 0 511 → va_P g.1 vwCl (va_pl L f) H → va_D A (va_pl L f) → va_S A s.heap H locs → lv_has ls 21 [(0, .ref (ad 18)), (1, .int 0), (2, .int z2), (3, .int z3), (4, .long z4), (6, .int z5), (7, .int r5), (8, .int x10)] → W p l e rm_X7_tryRuler_0 s m [.ref (ad 18), .int 0, .int z2, .int z3, .long z4, .int z5].toArray below meth c H locs 0 0 (MQ below (va_Qv (po_X7_tryRuler_0 g ad th L f z2 z3 z4 z5) (PstB g A) A) [.ref (ad 18), .int 0, .int z2, .int z3, .long z4, .int z5].toArray s rm_X7_tryRuler_0.cells rm_X7_tryRuler_0.slots A) (F0 m 41 ls [.int y41_s0]) := by
    intro y41_s0 H locs ls hy41_s0 hP hD hS hl
    refine lv_istore (lv' := [(9, .int y41_s0), (0, .ref (ad 18)), (1, .int 0), (2, .int z2), (3, .int z3), (4, .long z4), (6, .int z5), (7, .int r5), (8, .int x10)]) hx hb dX7_tryRuler_41 hl (by decide) rfl (fun ls hl => ?_)
    refine lv_aload_n hx hb dX7_tryRuler_43 rfl (lv_at hl 1 rfl) ?_
    refine pl_get (v := .int v9_1) hx hb hts (fun w h => mT (inX7 w h)) hown hG.1 hP (hst.1 18 (by decide)) hf2 rfl 9 (by decide) (hts _ (mT wg_441)) (fun _ h => h) rfl dX7_tryRuler_44 ?_
    refine lv_iload_n hx hb dX7_tryRuler_47 rfl (lv_at hl 4 rfl) ?_
    refine lv_iconst (v := (-1)) hx hb dX7_tryRuler_48 (by decide) ?_
    refine lv_ixor hx hb dX7_tryRuler_49 ?_
    refine lv_topi (fun x12 ex12 => ?_)
    refine lv_iand hx hb dX7_tryRuler_50 ?_
    refine lv_topi (fun x13 ex13 => ?_)
    have hb14 : In x13 0 511 := ex13 ▸ In.andl hv9_1 (by decide)
    refine lv_iload hx hb dX7_tryRuler_51 (lv_at hl 0 rfl) ?_
    refine lv_iconst (v := (-1)) hx hb dX7_tryRuler_53 (by decide) ?_
    refine lv_ixor hx hb dX7_tryRuler_54 ?_
    refine lv_topi (fun x15 ex15 => ?_)
    refine lv_iand hx hb dX7_tryRuler_55 ?_
    refine lv_topi (fun x16 ex16 => ?_)
    have hb17 : In x16 0 511 := ex16 ▸ In.andl hb14 (by decide)
    refine lv_istore (lv' := [(10, .int x16), (9, .int y41_s0), (0, .ref (ad 18)), (1, .int 0), (2, .int z2), (3, .int z3), (4, .long z4), (6, .int z5), (7, .int r5), (8, .int x10)]) hx hb dX7_tryRuler_56 hl (by decide) rfl (fun ls hl => ?_)
    refine lv_iload hx hb dX7_tryRuler_58 (lv_at hl 0 rfl) ?_
    refine lv_aload_n hx hb dX7_tryRuler_60 rfl (lv_at hl 2 rfl) ?_
    refine lv_iload_n hx hb dX7_tryRuler_61 rfl (lv_at hl 3 rfl) ?_
    refine call_i (run_V (rm := rm_X7_doesSuspicionCount) hx hb hml hown hts (s_X7_doesSuspicionCount l g ad th _ _ _ 0 hst hT (⟨by decide, by decide⟩ : In 0 0 6)) cV_X7_doesSuspicionCount wg_1094 ⟨Nat.le_of_ble_eq_true rfl, Nat.le_of_ble_eq_true rfl⟩ hG hE hA hP hD hS (hst.1 18 (by decide)) hf2 rfl rfl hl.1 (As := [.int 0]) (rest := [.int x16]) rfl (Nat.le_of_ble_eq_true rfl) dX7_tryRuler_62 ⟨Nat.le_of_ble_eq_true rfl, Nat.le_of_ble_eq_true rfl⟩) hA hD hS (fun r18 L19 f20 H locs hp21 hP hD hS => ?_)
    obtain ⟨eL22L, eL22T, eL22R⟩ := hp21
    have eL22L : L19 = L := eL22L
    have eL22T : f20 = f := eL22T
    rw [eL22L, eL22T] at hP hD
    have eL22R : In r18 0 1 := eL22R
    have hJ73 : ∀ (y73_s0 : Int32) (H : Heap) (locs : List Loc) (ls : Array Slot), In y73_s0 (-2147483648) 2147483647 → va_P g.1 vwCl (va_pl L f) H → va_D A (va_pl L f) → va_S A s.heap H locs → lv_has ls 21 [(0, .ref (ad 18)), (1, .int 0), (2, .int z2), (3, .int z3), (4, .long z4), (6, .int z5), (7, .int r5), (8, .int x10), (9, .int y41_s0), (10, .int x16)] → W p l e rm_X7_tryRuler_0 s m [.ref (ad 18), .int 0, .int z2, .int z3, .long z4, .int z5].toArray below meth c H locs 0 0 (MQ below (va_Qv (po_X7_tryRuler_0 g ad th L f z2 z3 z4 z5) (PstB g A) A) [.ref (ad 18), .int 0, .int z2, .int z3, .long z4, .int z5].toArray s rm_X7_tryRuler_0.cells rm_X7_tryRuler_0.slots A) (F0 m 73 ls [.int y73_s0, .int x16]) := by
      intro y73_s0 H locs ls hy73_s0 hP hD hS hl
      refine lv_ior hx hb dX7_tryRuler_73 ?_
      refine lv_topi (fun x23 ex23 => ?_)
      refine lv_istore (lv' := [(11, .int x23), (0, .ref (ad 18)), (1, .int 0), (2, .int z2), (3, .int z3), (4, .long z4), (6, .int z5), (7, .int r5), (8, .int x10), (9, .int y41_s0), (10, .int x16)]) hx hb dX7_tryRuler_74 hl (by decide) rfl (fun ls hl => ?_)
      refine lv_iload_n hx hb dX7_tryRuler_76 rfl (lv_at hl 3 rfl) ?_
      refine lv_iload hx hb dX7_tryRuler_77 (lv_at hl 7 rfl) ?_
      refine call_i (run_SN (rm := rm_X10_bit) hx hb hml hown hts (s_X10_bit l g ad th _ _ _ z2 r5 hst hT ) cS_X10_bit wn_1043 ⟨Nat.le_of_ble_eq_true rfl, Nat.le_of_ble_eq_true rfl⟩ hG hE hA hP hD hS rfl hl.1 (As := [.int z2, .int r5]) (rest := []) rfl (Nat.le_of_ble_eq_true rfl) dX7_tryRuler_79 ⟨Nat.le_of_ble_eq_true rfl, Nat.le_of_ble_eq_true rfl⟩) hA hD hS (fun r24 L25 f26 H locs hp27 hP hD hS => ?_)
      obtain ⟨eL28L, eL28T, eL28R, eL28X0⟩ := hp27
      have eL28L : L25 = L := eL28L
      have eL28T : f26 = f := eL28T
      rw [eL28L, eL28T] at hP hD
      have eL28R : In r24 0 1 := eL28R
      refine lv_iconst (v := 1) hx hb dX7_tryRuler_82 (by decide) ?_
      have hJ94 : ∀ (y94_s0 : Int32) (H : Heap) (locs : List Loc) (ls : Array Slot), In y94_s0 0 511 → va_P g.1 vwCl (va_pl L f) H → va_D A (va_pl L f) → va_S A s.heap H locs → lv_has ls 21 [(0, .ref (ad 18)), (1, .int 0), (2, .int z2), (3, .int z3), (4, .long z4), (6, .int z5), (7, .int r5), (8, .int x10), (9, .int y41_s0), (10, .int x16), (11, .int x23)] → W p l e rm_X7_tryRuler_0 s m [.ref (ad 18), .int 0, .int z2, .int z3, .long z4, .int z5].toArray below meth c H locs 0 0 (MQ below (va_Qv (po_X7_tryRuler_0 g ad th L f z2 z3 z4 z5) (PstB g A) A) [.ref (ad 18), .int 0, .int z2, .int z3, .long z4, .int z5].toArray s rm_X7_tryRuler_0.cells rm_X7_tryRuler_0.slots A) (F0 m 94 ls [.int y94_s0]) := by
        intro y94_s0 H locs ls hy94_s0 hP hD hS hl
        refine lv_istore (lv' := [(12, .int y94_s0), (0, .ref (ad 18)), (1, .int 0), (2, .int z2), (3, .int z3), (4, .long z4), (6, .int z5), (7, .int r5), (8, .int x10), (9, .int y41_s0), (10, .int x16), (11, .int x23)]) hx hb dX7_tryRuler_94 hl (by decide) rfl (fun ls hl => ?_)
        refine lv_aload_n hx hb dX7_tryRuler_96 rfl (lv_at hl 1 rfl) ?_
        refine pl_get (v := .ref (ad 20)) hx hb hts (fun w h => mT (inX7 w h)) hown hG.1 hP (hst.1 18 (by decide)) hf2 rfl 2 (by decide) (hts _ (mT wg_434)) (fun _ h => h) rfl dX7_tryRuler_97 ?_
        refine lv_iload_n hx hb dX7_tryRuler_100 rfl (lv_at hl 2 rfl) ?_
        refine lv_iconst (v := 1) hx hb dX7_tryRuler_101 (by decide) ?_
        refine lv_iadd hx hb dX7_tryRuler_102 ?_
        refine lv_topi (fun x29 ex29 => ?_)
        obtain rfl : x29 = 1 := ex29.trans (by decide)
        obtain ⟨rw30, hf31⟩ := hT.1 20 (by decide)
        have hin32 : vp_in 1 7 := In.inb (⟨by decide, by decide⟩ : In 1 1 1) (by decide) (by decide)
        refine pl_iald hx hb hG.1 hP (hst.1 20 (by decide)) 0 hf31 rfl hin32 dX7_tryRuler_103 ?_
        refine lv_topi (fun x33 ex33 => ?_)
        refine lv_aload_n hx hb dX7_tryRuler_104 rfl (lv_at hl 1 rfl) ?_
        refine pl_get (v := .int v10_1) hx hb hts (fun w h => mT (inX7 w h)) hown hG.1 hP (hst.1 18 (by decide)) hf2 rfl 10 (by decide) (hts _ (mT wg_442)) (fun _ h => h) rfl dX7_tryRuler_105 ?_
        refine lv_isub hx hb dX7_tryRuler_108 ?_
        refine lv_topi (fun x34 ex34 => ?_)
        refine lv_istore (lv' := [(13, .int x34), (12, .int y94_s0), (0, .ref (ad 18)), (1, .int 0), (2, .int z2), (3, .int z3), (4, .long z4), (6, .int z5), (7, .int r5), (8, .int x10), (9, .int y41_s0), (10, .int x16), (11, .int x23)]) hx hb dX7_tryRuler_109 hl (by decide) rfl (fun ls hl => ?_)
        refine lv_aload_n hx hb dX7_tryRuler_111 rfl (lv_at hl 2 rfl) ?_
        refine pl_get (v := .int v8_1) hx hb hts (fun w h => mT (inX7 w h)) hown hG.1 hP (hst.1 18 (by decide)) hf2 rfl 8 (by decide) (hts _ (mT wg_440)) (fun _ h => h) rfl dX7_tryRuler_112 ?_
        refine lv_iload hx hb dX7_tryRuler_115 (lv_at hl 8 rfl) ?_
        refine call_i (run_SN (rm := rm_X10_bit) hx hb hml hown hts (s_X10_bit l g ad th _ _ _ v8_1 r5 hst hT ) cS_X10_bit wn_1043 ⟨Nat.le_of_ble_eq_true rfl, Nat.le_of_ble_eq_true rfl⟩ hG hE hA hP hD hS rfl hl.1 (As := [.int v8_1, .int r5]) (rest := []) rfl (Nat.le_of_ble_eq_true rfl) dX7_tryRuler_117 ⟨Nat.le_of_ble_eq_true rfl, Nat.le_of_ble_eq_true rfl⟩) hA hD hS (fun r35 L36 f37 H locs hp38 hP hD hS => ?_)
        obtain ⟨eL39L, eL39T, eL39R, eL39X0⟩ := hp38
        have eL39L : L36 = L := eL39L
        have eL39T : f37 = f := eL39T
        rw [eL39L, eL39T] at hP hD
        have eL39R : In r35 0 1 := eL39R
        refine lv_iconst (v := 1) hx hb dX7_tryRuler_120 (by decide) ?_
        have hJ134 : ∀ (y134_s0 : Int32) (H : Heap) (locs : List Loc) (ls : Array Slot), In y134_s0 1 512 → va_P g.1 vwCl (va_pl L f) H → va_D A (va_pl L f) → va_S A s.heap H locs → lv_has ls 21 [(0, .ref (ad 18)), (1, .int 0), (2, .int z2), (3, .int z3), (4, .long z4), (6, .int z5), (7, .int r5), (8, .int x10), (9, .int y41_s0), (10, .int x16), (11, .int x23), (12, .int y94_s0), (13, .int x34)] → W p l e rm_X7_tryRuler_0 s m [.ref (ad 18), .int 0, .int z2, .int z3, .long z4, .int z5].toArray below meth c H locs 0 0 (MQ below (va_Qv (po_X7_tryRuler_0 g ad th L f z2 z3 z4 z5) (PstB g A) A) [.ref (ad 18), .int 0, .int z2, .int z3, .long z4, .int z5].toArray s rm_X7_tryRuler_0.cells rm_X7_tryRuler_0.slots A) (F0 m 134 ls [.int y134_s0]) := by
          intro y134_s0 H locs ls hy134_s0 hP hD hS hl
          refine lv_istore (lv' := [(14, .int y134_s0), (0, .ref (ad 18)), (1, .int 0), (2, .int z2), (3, .int z3), (4, .long z4), (6, .int z5), (7, .int r5), (8, .int x10), (9, .int y41_s0), (10, .int x16), (11, .int x23), (12, .int y94_s0), (13, .int x34)]) hx hb dX7_tryRuler_134 hl (by decide) rfl (fun ls hl => ?_)
          refine lv_iconst (v := 0) hx hb dX7_tryRuler_136 (by decide) ?_
          refine lv_istore (lv' := [(15, .int 0), (14, .int y134_s0), (0, .ref (ad 18)), (1, .int 0), (2, .int z2), (3, .int z3), (4, .long z4), (6, .int z5), (7, .int r5), (8, .int x10), (9, .int y41_s0), (10, .int x16), (11, .int x23), (12, .int y94_s0), (13, .int x34)]) hx hb dX7_tryRuler_137 hl (by decide) rfl (fun ls hl => ?_)
          have hJ139 : ∀ (k139 : Nat) (y139_l15 : Int32) (f_139 : HP) (H : Heap) (locs : List Loc) (ls : Array Slot), In y139_l15 0 2147483647 → va_P g.1 vwCl (va_pl L f_139) H → va_D A (va_pl L f_139) → va_S A s.heap H locs → TI g ad th f_139 → (∀ b, b ≠ (ad 18) → b ≠ (ad 21) → b ≠ (ad 22) → b ≠ (ad 23) → f_139 b = f b) → f_139 (ad 20) = .inl (g.2.1 0, 7, .inl (rw30)) → f_139 (ad 8) = .inr (2, [.int v0_3, .int v1_3, .int v2_3, .int v3_3, .int v4_3, .int v5_3, .int v6_3, .int v7_3]) → lv_has ls 21 [(0, .ref (ad 18)), (1, .int 0), (2, .int z2), (3, .int z3), (4, .long z4), (6, .int z5), (7, .int r5), (8, .int x10), (9, .int y41_s0), (10, .int x16), (11, .int x23), (12, .int y94_s0), (13, .int x34), (14, .int y134_s0), (15, .int y139_l15)] → 2147483647 - y139_l15.toInt < ((k139 : Nat) : Int) → W p l e rm_X7_tryRuler_0 s m [.ref (ad 18), .int 0, .int z2, .int z3, .long z4, .int z5].toArray below meth c H locs 0 0 (MQ below (va_Qv (po_X7_tryRuler_0 g ad th L f z2 z3 z4 z5) (PstB g A) A) [.ref (ad 18), .int 0, .int z2, .int z3, .long z4, .int z5].toArray s rm_X7_tryRuler_0.cells rm_X7_tryRuler_0.slots A) (F0 m 139 ls []) := by
            intro k139
            induction k139 with
            | zero =>
              intro y139_l15 f_139 H locs ls hy139_l15 hP hD hS hT hfr hf40 hf41 hl hmz139
              exact ms0 hy139_l15 hmz139
            | succ k139 ih139 =>
              intro y139_l15 f_139 H locs ls hy139_l15 hP hD hS hT hfr hf40 hf41 hl hmz139
              refine lv_iload hx hb dX7_tryRuler_139 (lv_at hl 14 rfl) ?_
              refine lv_iload hx hb dX7_tryRuler_141 (lv_at hl 13 rfl) ?_
              refine lv_icmp_ge (tgt := 232) hx hb dX7_tryRuler_143 (by decide) (fun c42 => ?_) (fun c42 => ?_)
              ·
                have cc43 : y134_s0.toInt ≤ y139_l15.toInt := i32_le.mp c42
                have hb44 : In y139_l15 1 2147483647 := In.ge1 hy139_l15 hy134_s0 cc43 (by omega) (by omega)
                exact ret_v hx hb hr hlocks hP hD hS (Nat.le_of_ble_eq_true rfl) (Nat.le_of_ble_eq_true rfl) (⟨rfl, hT, hfr⟩) dX7_tryRuler_232
              ·
                have cc45 : y139_l15.toInt < y134_s0.toInt := i32_nle c42
                have hb46 : In y139_l15 0 511 := In.lt1 hy139_l15 hy134_s0 cc45 (by omega) (by omega)
                refine lv_aload_n hx hb dX7_tryRuler_146 rfl (lv_at hl 0 rfl) ?_
                obtain ⟨v6_47, v7_47, v8_47, v9_47, v10_47, v11_47, v12_47, v13_47, hf48, hv8_47, hv9_47, hv10_47, hv11_47, hv13_47⟩ := hT.1 18 (by decide)
                refine call_i (run_V (rm := rm_X7_isEnough) hx hb hml hown hts (s_X7_isEnough l g ad th _ _ _  hst hT ) cV_X7_isEnough wg_1070 ⟨Nat.le_of_ble_eq_true rfl, Nat.le_of_ble_eq_true rfl⟩ hG hE hA hP hD hS (hst.1 18 (by decide)) hf48 rfl rfl hl.1 (As := []) (rest := []) rfl (Nat.le_of_ble_eq_true rfl) dX7_tryRuler_147 ⟨Nat.le_of_ble_eq_true rfl, Nat.le_of_ble_eq_true rfl⟩) hA hD hS (fun r49 L50 f51 H locs hp52 hP hD hS => ?_)
                obtain ⟨eL53L, eL53T, eL53R⟩ := hp52
                have eL53L : L50 = L := eL53L
                have eL53T : f51 = f_139 := eL53T
                rw [eL53L, eL53T] at hP hD
                have eL53R : In r49 0 1 := eL53R
                refine lv_if_ne (tgt := 232) hx hb dX7_tryRuler_150 (by decide) (fun c54 => ?_) (fun c54 => ?_)
                ·
                  have oc0 : (0 : Int32).toInt = 0 := by decide
                  have cc55 : r49.toInt ≠ (0 : Int32).toInt := i32_ne c54
                  have hb56 : In r49 1 1 := In.ne1 eL53R (⟨by decide, by decide⟩ : In 0 0 0) cc55 (by omega) (by omega)
                  exact ret_v hx hb hr hlocks hP hD hS (Nat.le_of_ble_eq_true rfl) (Nat.le_of_ble_eq_true rfl) (⟨rfl, hT, hfr⟩) dX7_tryRuler_232
                ·
                  have oc0 : (0 : Int32).toInt = 0 := by decide
                  have cc57 : r49.toInt = (0 : Int32).toInt := congrArg Int32.toInt c54
                  have hb58 : In r49 0 0 := In.eq1 eL53R (⟨by decide, by decide⟩ : In 0 0 0) cc57 (by omega) (by omega)
                  refine lv_aload_n hx hb dX7_tryRuler_153 rfl (lv_at hl 0 rfl) ?_
                  refine lv_iload hx hb dX7_tryRuler_154 (lv_at hl 14 rfl) ?_
                  refine call_i (run_V (rm := rm_X7_spread) hx hb hml hown hts (s_X7_spread l g ad th _ _ _ y139_l15 hst hT ) cV_X7_spread wg_1098 ⟨Nat.le_of_ble_eq_true rfl, Nat.le_of_ble_eq_true rfl⟩ hG hE hA hP hD hS (hst.1 18 (by decide)) hf48 rfl rfl hl.1 (As := [.int y139_l15]) (rest := []) rfl (Nat.le_of_ble_eq_true rfl) dX7_tryRuler_156 ⟨Nat.le_of_ble_eq_true rfl, Nat.le_of_ble_eq_true rfl⟩) hA hD hS (fun r59 L60 f61 H locs hp62 hP hD hS => ?_)
                  obtain ⟨eL63L, eL63T, eL63R⟩ := hp62
                  have eL63L : L60 = L := eL63L
                  have eL63T : f61 = f_139 := eL63T
                  rw [eL63L, eL63T] at hP hD
                  have eL63R : In r59 0 511 := eL63R
                  refine lv_istore (lv' := [(16, .int r59), (0, .ref (ad 18)), (1, .int 0), (2, .int z2), (3, .int z3), (4, .long z4), (6, .int z5), (7, .int r5), (8, .int x10), (9, .int y41_s0), (10, .int x16), (11, .int x23), (12, .int y94_s0), (13, .int x34), (14, .int y134_s0), (15, .int y139_l15)]) hx hb dX7_tryRuler_159 hl (by decide) rfl (fun ls hl => ?_)
                  refine lv_iload hx hb dX7_tryRuler_161 (lv_at hl 0 rfl) ?_
                  refine lv_iload hx hb dX7_tryRuler_163 (lv_at hl 11 rfl) ?_
                  refine lv_iconst (v := (-1)) hx hb dX7_tryRuler_165 (by decide) ?_
                  refine lv_ixor hx hb dX7_tryRuler_166 ?_
                  refine lv_topi (fun x64 ex64 => ?_)
                  refine lv_iand hx hb dX7_tryRuler_167 ?_
                  refine lv_topi (fun x65 ex65 => ?_)
                  have hb66 : In x65 0 511 := ex65 ▸ In.andl eL63R (by decide)
                  have hJ226 : ∀ (f_226 : HP) (H : Heap) (locs : List Loc) (ls : Array Slot), va_P g.1 vwCl (va_pl L f_226) H → va_D A (va_pl L f_226) → va_S A s.heap H locs → TI g ad th f_226 → (∀ b, b ≠ (ad 18) → b ≠ (ad 21) → b ≠ (ad 22) → b ≠ (ad 23) → f_226 b = f b) → f_226 (ad 20) = .inl (g.2.1 0, 7, .inl (rw30)) → f_226 (ad 8) = .inr (2, [.int v0_3, .int v1_3, .int v2_3, .int v3_3, .int v4_3, .int v5_3, .int v6_3, .int v7_3]) → lv_has ls 21 [(0, .ref (ad 18)), (1, .int 0), (2, .int z2), (3, .int z3), (4, .long z4), (6, .int z5), (7, .int r5), (8, .int x10), (9, .int y41_s0), (10, .int x16), (11, .int x23), (12, .int y94_s0), (13, .int x34), (14, .int y134_s0), (15, .int y139_l15), (16, .int r59)] → W p l e rm_X7_tryRuler_0 s m [.ref (ad 18), .int 0, .int z2, .int z3, .long z4, .int z5].toArray below meth c H locs 0 0 (MQ below (va_Qv (po_X7_tryRuler_0 g ad th L f z2 z3 z4 z5) (PstB g A) A) [.ref (ad 18), .int 0, .int z2, .int z3, .long z4, .int z5].toArray s rm_X7_tryRuler_0.cells rm_X7_tryRuler_0.slots A) (F0 m 226 ls []) := by
                    intro f_226 H locs ls hP hD hS hT hfr hf67 hf68 hl
                    obtain ⟨x69, ex69⟩ : ∃ y : Int32, y = y139_l15 + 1 := ⟨_, rfl⟩
                    have hb70 : In x69 1 512 := ex69 ▸ In.add hb46 (⟨by decide, by decide⟩ : In 1 1 1) (by decide) (by decide) (by decide) (by decide)
                    have et71 : x69.toInt = y139_l15.toInt + 1 := In.adde ex69 hb46 (k := 1) (by decide) (by decide) (by decide)
                    refine lv_iinc (v := x69) (lv' := [(15, .int x69), (0, .ref (ad 18)), (1, .int 0), (2, .int z2), (3, .int z3), (4, .long z4), (6, .int z5), (7, .int r5), (8, .int x10), (9, .int y41_s0), (10, .int x16), (11, .int x23), (12, .int y94_s0), (13, .int x34), (14, .int y134_s0), (16, .int r59)]) hx hb dX7_tryRuler_226 hl (k := 14) rfl (by rw [ex69]; rfl) (by decide) rfl (fun ls hl => ?_)
                    refine lv_goto (tgt := 139) hx hb dX7_tryRuler_229 (by decide) ?_
                    exact ih139 x69 _ _ _ _ (In.mono hb70 (by decide) (by decide)) hP hD hS hT hfr hf67 hf68 (lv_sub hl [1, 2, 3, 4, 5, 6, 7, 8, 9, 10, 11, 12, 13, 14, 0] rfl) (msu et71 (by decide) hmz139)
                  refine lv_if_ne (tgt := 226) hx hb dX7_tryRuler_168 (by decide) (fun c72 => ?_) (fun c72 => ?_)
                  ·
                    have oc0 : (0 : Int32).toInt = 0 := by decide
                    have cc73 : x65.toInt ≠ (0 : Int32).toInt := i32_ne c72
                    have hb74 : In x65 1 511 := In.ne1 hb66 (⟨by decide, by decide⟩ : In 0 0 0) cc73 (by omega) (by omega)
                    exact hJ226 _ _ _ _ hP hD hS hT hfr hf40 hf41 (lv_sub hl [1, 2, 3, 4, 5, 6, 7, 8, 9, 10, 11, 12, 13, 14, 15, 0] rfl)
                  ·
                    have oc0 : (0 : Int32).toInt = 0 := by decide
                    have cc75 : x65.toInt = (0 : Int32).toInt := congrArg Int32.toInt c72
                    have hb76 : In x65 0 0 := In.eq1 hb66 (⟨by decide, by decide⟩ : In 0 0 0) cc75 (by omega) (by omega)
                    refine lv_iload hx hb dX7_tryRuler_171 (lv_at hl 12 rfl) ?_
                    refine lv_iload hx hb dX7_tryRuler_173 (lv_at hl 0 rfl) ?_
                    refine lv_ior hx hb dX7_tryRuler_175 ?_
                    refine lv_topi (fun x77 ex77 => ?_)
                    have hb78 : In x77 0 511 := ex77 ▸ In.or 9 hy94_s0 eL63R (by decide) (by decide) (by decide) (by decide) (by decide)
                    refine lv_istore (lv' := [(17, .int x77), (16, .int r59), (0, .ref (ad 18)), (1, .int 0), (2, .int z2), (3, .int z3), (4, .long z4), (6, .int z5), (7, .int r5), (8, .int x10), (9, .int y41_s0), (10, .int x16), (11, .int x23), (12, .int y94_s0), (13, .int x34), (14, .int y134_s0), (15, .int y139_l15)]) hx hb dX7_tryRuler_176 hl (by decide) rfl (fun ls hl => ?_)
                    refine lv_iload_n hx hb dX7_tryRuler_178 rfl (lv_at hl 4 rfl) ?_
                    refine lv_iload hx hb dX7_tryRuler_179 (lv_at hl 11 rfl) ?_
                    refine lv_iconst (v := (-1)) hx hb dX7_tryRuler_181 (by decide) ?_
                    refine lv_ixor hx hb dX7_tryRuler_182 ?_
                    refine lv_topi (fun x79 ex79 => ?_)
                    refine lv_iand hx hb dX7_tryRuler_183 ?_
                    refine lv_topi (fun x80 ex80 => ?_)
                    have hb81 : In x80 0 511 := ex80 ▸ In.andl hz2 (by decide)
                    refine lv_iload hx hb dX7_tryRuler_184 (lv_at hl 0 rfl) ?_
                    refine lv_iload hx hb dX7_tryRuler_186 (lv_at hl 11 rfl) ?_
                    refine lv_iand hx hb dX7_tryRuler_188 ?_
                    refine lv_topi (fun x82 ex82 => ?_)
                    have hb83 : In x82 0 511 := ex82 ▸ In.andr hb17 (by decide)
                    refine lv_ior hx hb dX7_tryRuler_189 ?_
                    refine lv_topi (fun x84 ex84 => ?_)
                    have hb85 : In x84 0 511 := ex84 ▸ In.or 9 hb81 hb83 (by decide) (by decide) (by decide) (by decide) (by decide)
                    refine lv_istore (lv' := [(18, .int x84), (17, .int x77), (16, .int r59), (0, .ref (ad 18)), (1, .int 0), (2, .int z2), (3, .int z3), (4, .long z4), (6, .int z5), (7, .int r5), (8, .int x10), (9, .int y41_s0), (10, .int x16), (11, .int x23), (12, .int y94_s0), (13, .int x34), (14, .int y134_s0), (15, .int y139_l15)]) hx hb dX7_tryRuler_190 hl (by decide) rfl (fun ls hl => ?_)
                    refine lv_iload_n hx hb dX7_tryRuler_192 rfl (lv_at hl 6 rfl) ?_
                    refine lv_iload hx hb dX7_tryRuler_193 (lv_at hl 1 rfl) ?_
                    refine lv_iload_n hx hb dX7_tryRuler_195 rfl (lv_at hl 5 rfl) ?_
                    refine lv_ixor hx hb dX7_tryRuler_196 ?_
                    refine lv_topi (fun x86 ex86 => ?_)
                    have hb87 : In x86 0 511 := ex86 ▸ In.xor 9 hb78 hz2 (by decide) (by decide) (by decide) (by decide) (by decide)
                    refine lv_iand hx hb dX7_tryRuler_197 ?_
                    refine lv_topi (fun x88 ex88 => ?_)
                    have hb89 : In x88 0 511 := ex88 ▸ In.andr hb87 (by decide)
                    refine lv_i2l hx hb dX7_tryRuler_198 rfl ?_
                    refine lv_lstore (lv' := [(19, .long (x88.toInt64)), (18, .int x84), (17, .int x77), (16, .int r59), (0, .ref (ad 18)), (1, .int 0), (2, .int z2), (3, .int z3), (4, .long z4), (6, .int z5), (7, .int r5), (8, .int x10), (9, .int y41_s0), (10, .int x16), (11, .int x23), (12, .int y94_s0), (13, .int x34), (14, .int y134_s0), (15, .int y139_l15)]) hx hb dX7_tryRuler_199 hl (by decide) rfl (fun ls hl => ?_)
                    refine lv_aload_n hx hb dX7_tryRuler_201 rfl (lv_at hl 4 rfl) ?_
                    refine lv_iload_n hx hb dX7_tryRuler_202 rfl (lv_at hl 5 rfl) ?_
                    refine lv_iconst (v := 1) hx hb dX7_tryRuler_203 (by decide) ?_
                    refine lv_iadd hx hb dX7_tryRuler_204 ?_
                    refine lv_topi (fun x90 ex90 => ?_)
                    obtain rfl : x90 = 1 := ex90.trans (by decide)
                    refine lv_iload hx hb dX7_tryRuler_205 (lv_at hl 1 rfl) ?_
                    refine lv_lload hx hb dX7_tryRuler_207 (lv_at hl 8 rfl) ?_
                    refine lv_lload hx hb dX7_tryRuler_209 (lv_at hl 0 rfl) ?_
                    refine lv_iload hx hb dX7_tryRuler_211 (lv_at hl 11 rfl) ?_
                    refine lv_lshl hx hb dX7_tryRuler_213 rfl ?_
                    refine lv_topl (fun x91 ex91 => ?_)
                    refine lv_lor hx hb dX7_tryRuler_214 ?_
                    refine lv_topl (fun x92 ex92 => ?_)
                    refine lv_iload hx hb dX7_tryRuler_215 (lv_at hl 9 rfl) ?_
                    refine lv_iload hx hb dX7_tryRuler_217 (lv_at hl 18 rfl) ?_
                    refine lv_iload hx hb dX7_tryRuler_219 (lv_at hl 16 rfl) ?_
                    refine lv_ishl hx hb dX7_tryRuler_221 ?_
                    refine lv_topi (fun x93 ex93 => ?_)
                    refine lv_ior hx hb dX7_tryRuler_222 ?_
                    refine lv_topi (fun x94 ex94 => ?_)
                    refine call_v (run_V (rm := rm_X7_explore_1) hx hb hml hown hts (s_X7_explore_1 l g ad th _ _ _ x84 x92 x94 hst hT hb85) cV_X7_explore wg_1049 ⟨Nat.le_of_ble_eq_true rfl, Nat.le_of_ble_eq_true rfl⟩ hG hE hA hP hD hS (hst.1 18 (by decide)) hf48 rfl rfl hl.1 (As := [.int 1, .int x84, .long x92, .int x94]) (rest := []) rfl (Nat.le_of_ble_eq_true rfl) dX7_tryRuler_223 ⟨Nat.le_of_ble_eq_true rfl, Nat.le_of_ble_eq_true rfl⟩) hA hD hS (fun L96 f97 H locs hp98 hP hD hS => ?_)
                    obtain ⟨eL99L, eL99T, eL99F⟩ := hp98
                    have eL99L : L96 = L := eL99L
                    rw [eL99L] at hP hD
                    have hT : TI g ad th f97 := eL99T
                    have eL99F : ∀ b, b ≠ (ad 18) → b ≠ (ad 21) → b ≠ (ad 22) → b ≠ (ad 23) → f97 b = f_139 b := eL99F
                    have hf100 := (eL99F (ad 8) (hst.ne (by decide) (by decide) (by decide)) (hst.ne (by decide) (by decide) (by decide)) (hst.ne (by decide) (by decide) (by decide)) (hst.ne (by decide) (by decide) (by decide))).trans hf41
                    have hf101 := (eL99F (ad 20) (hst.ne (by decide) (by decide) (by decide)) (hst.ne (by decide) (by decide) (by decide)) (hst.ne (by decide) (by decide) (by decide)) (hst.ne (by decide) (by decide) (by decide))).trans hf40
                    have hfr : (∀ b, b ≠ (ad 18) → b ≠ (ad 21) → b ≠ (ad 22) → b ≠ (ad 23) → f97 b = f b) := fun b z0_ z1_ z2_ z3_ => (eL99F b z0_ z1_ z2_ z3_).trans (hfr b z0_ z1_ z2_ z3_)
                    exact hJ226 _ _ _ _ hP hD hS hT hfr hf101 hf100 (lv_sub hl [4, 5, 6, 7, 8, 9, 10, 11, 12, 13, 14, 15, 16, 17, 18, 3] rfl)
          exact hJ139 ((2147483647 - (0 : Int32).toInt).toNat + 1) 0 _ _ _ _ (⟨by decide, by decide⟩ : In 0 0 2147483647) hP hD hS hT hfr hf31 hf4 (lv_sub hl [2, 3, 4, 5, 6, 7, 8, 9, 10, 11, 12, 13, 14, 1, 0] rfl) (msI _)
        refine lv_icmp_ne (tgt := 133) hx hb dX7_tryRuler_121 (by decide) (fun c102 => ?_) (fun c102 => ?_)
        ·
          have oc1 : (1 : Int32).toInt = 1 := by decide
          have cc103 : r35.toInt ≠ (1 : Int32).toInt := i32_ne c102
          have hb104 : In r35 0 0 := In.ne1 eL39R (⟨by decide, by decide⟩ : In 1 1 1) cc103 (by omega) (by omega)
          refine lv_iconst (v := 1) hx hb dX7_tryRuler_133 (by decide) ?_
          exact hJ134 1 _ _ _ (⟨by decide, by decide⟩ : In 1 1 512) hP hD hS (lv_sub hl [2, 3, 4, 5, 6, 7, 8, 9, 10, 11, 12, 1, 0] rfl)
        ·
          have oc1 : (1 : Int32).toInt = 1 := by decide
          have cc105 : r35.toInt = (1 : Int32).toInt := congrArg Int32.toInt c102
          have hb106 : In r35 1 1 := In.eq1 eL39R (⟨by decide, by decide⟩ : In 1 1 1) cc105 (by omega) (by omega)
          refine lv_iconst (v := 1) hx hb dX7_tryRuler_124 (by decide) ?_
          refine lv_aload_n hx hb dX7_tryRuler_125 rfl (lv_at hl 2 rfl) ?_
          refine pl_get (v := .int v10_1) hx hb hts (fun w h => mT (inX7 w h)) hown hG.1 hP (hst.1 18 (by decide)) hf2 rfl 10 (by decide) (hts _ (mT wg_442)) (fun _ h => h) rfl dX7_tryRuler_126 ?_
          refine lv_ishl hx hb dX7_tryRuler_129 ?_
          refine lv_topi (fun x107 ex107 => ?_)
          have hb108 : In x107 1 512 := ex107 ▸ In.shl (⟨by decide, by decide⟩ : In 1 1 1) hv10_1 (by decide) (by decide) (by decide) (by decide) (by decide) (by decide)
          refine lv_goto (tgt := 134) hx hb dX7_tryRuler_130 (by decide) ?_
          exact hJ134 x107 _ _ _ hb108 hP hD hS (lv_sub hl [2, 3, 4, 5, 6, 7, 8, 9, 10, 11, 12, 1, 0] rfl)
      refine lv_icmp_ne (tgt := 93) hx hb dX7_tryRuler_83 (by decide) (fun c109 => ?_) (fun c109 => ?_)
      ·
        have oc1 : (1 : Int32).toInt = 1 := by decide
        have cc110 : r24.toInt ≠ (1 : Int32).toInt := i32_ne c109
        have hb111 : In r24 0 0 := In.ne1 eL28R (⟨by decide, by decide⟩ : In 1 1 1) cc110 (by omega) (by omega)
        refine lv_iconst (v := 0) hx hb dX7_tryRuler_93 (by decide) ?_
        exact hJ94 0 _ _ _ (⟨by decide, by decide⟩ : In 0 0 511) hP hD hS (lv_sub hl [1, 2, 3, 4, 5, 6, 7, 8, 9, 10, 0] rfl)
      ·
        have oc1 : (1 : Int32).toInt = 1 := by decide
        have cc112 : r24.toInt = (1 : Int32).toInt := congrArg Int32.toInt c109
        have hb113 : In r24 1 1 := In.eq1 eL28R (⟨by decide, by decide⟩ : In 1 1 1) cc112 (by omega) (by omega)
        refine lv_aload_n hx hb dX7_tryRuler_86 rfl (lv_at hl 1 rfl) ?_
        refine pl_get (v := .int v9_1) hx hb hts (fun w h => mT (inX7 w h)) hown hG.1 hP (hst.1 18 (by decide)) hf2 rfl 9 (by decide) (hts _ (mT wg_441)) (fun _ h => h) rfl dX7_tryRuler_87 ?_
        refine lv_goto (tgt := 94) hx hb dX7_tryRuler_90 (by decide) ?_
        exact hJ94 v9_1 _ _ _ hv9_1 hP hD hS (lv_sub hl [1, 2, 3, 4, 5, 6, 7, 8, 9, 10, 0] rfl)
    refine lv_if_eq (tgt := 72) hx hb dX7_tryRuler_65 (by decide) (fun c114 => ?_) (fun c114 => ?_)
    ·
      have oc0 : (0 : Int32).toInt = 0 := by decide
      have cc115 : r18.toInt = (0 : Int32).toInt := congrArg Int32.toInt c114
      have hb116 : In r18 0 0 := In.eq1 eL22R (⟨by decide, by decide⟩ : In 0 0 0) cc115 (by omega) (by omega)
      refine lv_iconst (v := 0) hx hb dX7_tryRuler_72 (by decide) ?_
      exact hJ73 0 _ _ _ (⟨by decide, by decide⟩ : In 0 (-2147483648) 2147483647) hP hD hS (lv_sub hl [2, 3, 4, 5, 6, 7, 8, 9, 1, 0] rfl)
    ·
      have oc0 : (0 : Int32).toInt = 0 := by decide
      have cc117 : r18.toInt ≠ (0 : Int32).toInt := i32_ne c114
      have hb118 : In r18 1 1 := In.ne1 eL22R (⟨by decide, by decide⟩ : In 0 0 0) cc117 (by omega) (by omega)
      refine lv_iload_n hx hb dX7_tryRuler_68 rfl (lv_at hl 5 rfl) ?_
      refine lv_goto (tgt := 73) hx hb dX7_tryRuler_69 (by decide) ?_
      exact hJ73 z3 _ _ _ (In.full z3) hP hD hS (lv_sub hl [2, 3, 4, 5, 6, 7, 8, 9, 1, 0] rfl)
  refine lv_if_eq (tgt := 40) hx hb dX7_tryRuler_24 (by decide) (fun c119 => ?_) (fun c119 => ?_)
  ·
    have oc0 : (0 : Int32).toInt = 0 := by decide
    have cc120 : v6_3.toInt = (0 : Int32).toInt := congrArg Int32.toInt c119
    have hb121 : In v6_3 0 0 := In.eq1 hv6_3 (⟨by decide, by decide⟩ : In 0 0 0) cc120 (by omega) (by omega)
    refine lv_iconst (v := 0) hx hb dX7_tryRuler_40 (by decide) ?_
    exact hJ41 0 _ _ _ (⟨by decide, by decide⟩ : In 0 0 511) hP hD hS (lv_sub hl [2, 3, 4, 5, 6, 7, 1, 0] rfl)
  ·
    have oc0 : (0 : Int32).toInt = 0 := by decide
    have cc122 : v6_3.toInt ≠ (0 : Int32).toInt := i32_ne c119
    have hb123 : In v6_3 1 1 := In.ne1 hv6_3 (⟨by decide, by decide⟩ : In 0 0 0) cc122 (by omega) (by omega)
    refine lv_lload hx hb dX7_tryRuler_27 (lv_at hl 6 rfl) ?_
    refine lv_iload hx hb dX7_tryRuler_29 (lv_at hl 0 rfl) ?_
    refine lv_lushr hx hb dX7_tryRuler_31 rfl ?_
    refine lv_topl (fun x124 ex124 => ?_)
    refine lv_l2i hx hb dX7_tryRuler_32 rfl ?_
    refine lv_topi (fun x125 ex125 => ?_)
    refine lv_sipush (v := 511) hx hb dX7_tryRuler_33 (by decide) ?_
    refine lv_iand hx hb dX7_tryRuler_36 ?_
    refine lv_topi (fun x126 ex126 => ?_)
    have hb127 : In x126 0 511 := ex126 ▸ In.andr (⟨by decide, by decide⟩ : In 511 511 511) (by decide)
    refine lv_goto (tgt := 41) hx hb dX7_tryRuler_37 (by decide) ?_
    exact hJ41 x126 _ _ _ hb127 hP hD hS (lv_sub hl [2, 3, 4, 5, 6, 7, 1, 0] rfl)

abbrev rm_X7_tryViews_0 : Room := { frames := 23, cells := 0, slots := 0, locals := 794 }
abbrev po_X7_tryViews_0 (g : GG) (ad : Nat → Nat) (th : Nat → Int) (L : List Nat) (f : HP) (z2 : Int32) (z3 : Int64) (z4 : Int32) (z5 : Int32) : (List Nat × HP) → Prop := fun u => u.1 = L ∧ TI g ad th u.2 ∧ (∀ b, b ≠ (ad 18) → b ≠ (ad 21) → b ≠ (ad 22) → b ≠ (ad 23) → u.2 b = f b)
set_option maxHeartbeats 4000000 in
set_option maxRecDepth 100000 in
theorem s_X7_tryViews_0 (l : Launch) (g : GG) (ad : Nat → Nat) (th : Nat → Int) (L : List Nat) (f : HP) (sz : Nat) (z2 : Int32) (z3 : Int64) (z4 : Int32) (z5 : Int32) (hst : ST ad L) (hT : TI g ad th f) (hz2 : In z2 0 511) : MtV l g yX7_tryViews cX7_tryViews 20 rm_X7_tryViews_0 [.ref (ad 18), .int 0, .int z2, .long z3, .int z4, .int z5] L f sz (po_X7_tryViews_0 g ad th L f z2 z3 z4 z5) := by
  refine MtV.of (by decide +kernel) (Nat.le_of_ble_eq_true rfl) ?_
  intro p e s m below meth c A hEn hP hD hS ls hl
  obtain ⟨hx, hb, hr, hml, hown, hlocks, hts, hG, hA, hE, hnm⟩ := hEn
  have hown : s.vm.findClass "RulerWord$Search" = some m.cls := hown
  have hl : lv_has ls 20 [(0, .ref (ad 18)), (1, .int 0), (2, .int z2), (3, .long z3), (5, .int z4), (6, .int z5)] := hl
  have hfr : (∀ b, b ≠ (ad 18) → b ≠ (ad 21) → b ≠ (ad 22) → b ≠ (ad 23) → f b = f b) := fun b z0_ z1_ z2_ z3_ => rfl
  refine lv_iload_n hx hb dX7_tryViews_0 rfl (lv_at hl 1 rfl) ?_
  refine lv_iconst (v := 2) hx hb dX7_tryViews_1 (by decide) ?_
  refine lv_imul hx hb dX7_tryViews_2 ?_
  refine lv_topi (fun x1 ex1 => ?_)
  obtain rfl : x1 = 0 := ex1.trans (by decide)
  refine lv_iconst (v := 1) hx hb dX7_tryViews_3 (by decide) ?_
  refine lv_iadd hx hb dX7_tryViews_4 ?_
  refine lv_topi (fun x2 ex2 => ?_)
  obtain rfl : x2 = 1 := ex2.trans (by decide)
  refine lv_bipush (v := 9) hx hb dX7_tryViews_5 (by decide) ?_
  refine lv_imul hx hb dX7_tryViews_7 ?_
  refine lv_topi (fun x3 ex3 => ?_)
  obtain rfl : x3 = 9 := ex3.trans (by decide)
  refine lv_istore (lv' := [(7, .int 9), (0, .ref (ad 18)), (1, .int 0), (2, .int z2), (3, .long z3), (5, .int z4), (6, .int z5)]) hx hb dX7_tryViews_8 hl (by decide) rfl (fun ls hl => ?_)
  refine lv_iload hx hb dX7_tryViews_10 (lv_at hl 5 rfl) ?_
  refine lv_sipush (v := 511) hx hb dX7_tryViews_12 (by decide) ?_
  refine lv_iand hx hb dX7_tryViews_15 ?_
  refine lv_topi (fun x4 ex4 => ?_)
  have hb5 : In x4 0 511 := ex4 ▸ In.andr (⟨by decide, by decide⟩ : In 511 511 511) (by decide)
  refine call_i (run_S (rm := rm_J6_bitCount_0f7a4) hx hb hml hown hts (s_J6_bitCount_0f7a4 l g ad th _ _ _ x4 hst hT ) cS_J6_bitCount_0f7a4 wg_1042 ⟨Nat.le_of_ble_eq_true rfl, Nat.le_of_ble_eq_true rfl⟩ hG hE hA hP hD hS rfl hl.1 (As := [.int x4]) (rest := []) rfl (Nat.le_of_ble_eq_true rfl) dX7_tryViews_16 ⟨Nat.le_of_ble_eq_true rfl, Nat.le_of_ble_eq_true rfl⟩) hA hD hS (fun r6 L7 f8 H locs hp9 hP hD hS => ?_)
  obtain ⟨eL10L, eL10T, eL10R, eL10X0⟩ := hp9
  have eL10L : L7 = L := eL10L
  have eL10T : f8 = f := eL10T
  rw [eL10L, eL10T] at hP hD
  have eL10R : In r6 0 63 := eL10R
  have hb11 : In r6 0 9 := bc9 hb5 eL10X0
  refine lv_istore (lv' := [(8, .int r6), (7, .int 9), (0, .ref (ad 18)), (1, .int 0), (2, .int z2), (3, .long z3), (5, .int z4), (6, .int z5)]) hx hb dX7_tryViews_19 hl (by decide) rfl (fun ls hl => ?_)
  refine lv_iload hx hb dX7_tryViews_21 (lv_at hl 6 rfl) ?_
  refine lv_bipush (v := 9) hx hb dX7_tryViews_23 (by decide) ?_
  refine lv_iushr hx hb dX7_tryViews_25 rfl ?_
  refine lv_topi (fun x12 ex12 => ?_)
  refine call_i (run_S (rm := rm_J6_bitCount_0f7a4) hx hb hml hown hts (s_J6_bitCount_0f7a4 l g ad th _ _ _ x12 hst hT ) cS_J6_bitCount_0f7a4 wg_1042 ⟨Nat.le_of_ble_eq_true rfl, Nat.le_of_ble_eq_true rfl⟩ hG hE hA hP hD hS rfl hl.1 (As := [.int x12]) (rest := []) rfl (Nat.le_of_ble_eq_true rfl) dX7_tryViews_26 ⟨Nat.le_of_ble_eq_true rfl, Nat.le_of_ble_eq_true rfl⟩) hA hD hS (fun r13 L14 f15 H locs hp16 hP hD hS => ?_)
  obtain ⟨eL17L, eL17T, eL17R, eL17X0⟩ := hp16
  have eL17L : L14 = L := eL17L
  have eL17T : f15 = f := eL17T
  rw [eL17L, eL17T] at hP hD
  have eL17R : In r13 0 63 := eL17R
  refine lv_istore (lv' := [(9, .int r13), (8, .int r6), (7, .int 9), (0, .ref (ad 18)), (1, .int 0), (2, .int z2), (3, .long z3), (5, .int z4), (6, .int z5)]) hx hb dX7_tryViews_29 hl (by decide) rfl (fun ls hl => ?_)
  refine lv_iconst (v := 0) hx hb dX7_tryViews_31 (by decide) ?_
  refine lv_istore (lv' := [(10, .int 0), (9, .int r13), (8, .int r6), (7, .int 9), (0, .ref (ad 18)), (1, .int 0), (2, .int z2), (3, .long z3), (5, .int z4), (6, .int z5)]) hx hb dX7_tryViews_32 hl (by decide) rfl (fun ls hl => ?_)
  refine lv_iconst (v := 0) hx hb dX7_tryViews_34 (by decide) ?_
  refine lv_istore (lv' := [(11, .int 0), (10, .int 0), (9, .int r13), (8, .int r6), (7, .int 9), (0, .ref (ad 18)), (1, .int 0), (2, .int z2), (3, .long z3), (5, .int z4), (6, .int z5)]) hx hb dX7_tryViews_35 hl (by decide) rfl (fun ls hl => ?_)
  have hJ37 : ∀ (k37 : Nat) (y37_l10 : Int32) (y37_l11 : Int32) (f_37 : HP) (H : Heap) (locs : List Loc) (ls : Array Slot), In y37_l10 0 9 → In y37_l11 0 9 → va_P g.1 vwCl (va_pl L f_37) H → va_D A (va_pl L f_37) → va_S A s.heap H locs → TI g ad th f_37 → (∀ b, b ≠ (ad 18) → b ≠ (ad 21) → b ≠ (ad 22) → b ≠ (ad 23) → f_37 b = f b) → (y37_l10.toInt ≤ y37_l11.toInt ∧ (y37_l11.toInt = 0 ∨ 1 ≤ y37_l10.toInt)) → lv_has ls 20 [(0, .ref (ad 18)), (1, .int 0), (2, .int z2), (3, .long z3), (5, .int z4), (6, .int z5), (7, .int 9), (8, .int r6), (9, .int r13), (10, .int y37_l10), (11, .int y37_l11)] → 9 - y37_l11.toInt < ((k37 : Nat) : Int) → W p l e rm_X7_tryViews_0 s m [.ref (ad 18), .int 0, .int z2, .long z3, .int z4, .int z5].toArray below meth c H locs 0 0 (MQ below (va_Qv (po_X7_tryViews_0 g ad th L f z2 z3 z4 z5) (PstB g A) A) [.ref (ad 18), .int 0, .int z2, .long z3, .int z4, .int z5].toArray s rm_X7_tryViews_0.cells rm_X7_tryViews_0.slots A) (F0 m 37 ls []) := by
    intro k37
    induction k37 with
    | zero =>
      intro y37_l10 y37_l11 f_37 H locs ls hy37_l10 hy37_l11 hP hD hS hT hfr hinv37_0 hl hmz37
      exact ms0 hy37_l11 hmz37
    | succ k37 ih37 =>
      intro y37_l10 y37_l11 f_37 H locs ls hy37_l10 hy37_l11 hP hD hS hT hfr hinv37_0 hl hmz37
      refine lv_iload hx hb dX7_tryViews_37 (lv_at hl 10 rfl) ?_
      refine lv_aload_n hx hb dX7_tryViews_39 rfl (lv_at hl 0 rfl) ?_
      obtain ⟨v6_18, v7_18, v8_18, v9_18, v10_18, v11_18, v12_18, v13_18, hf19, hv8_18, hv9_18, hv10_18, hv11_18, hv13_18⟩ := hT.1 18 (by decide)
      refine pl_get (v := .int v11_18) hx hb hts (fun w h => mT (inX7 w h)) hown hG.1 hP (hst.1 18 (by decide)) hf19 rfl 11 (by decide) (hts _ (mT wg_443)) (fun _ h => h) rfl dX7_tryViews_40 ?_
      refine lv_icmp_gt (tgt := 90) hx hb dX7_tryViews_43 (by decide) (fun c20 => ?_) (fun c20 => ?_)
      ·
        have cc21 : v11_18.toInt < y37_l11.toInt := i32_lt.mp c20
        have hb22 : In y37_l11 1 9 := In.gt1 hy37_l11 hv11_18 cc21 (by omega) (by omega)
        refine lv_aload_n hx hb dX7_tryViews_90 rfl (lv_at hl 0 rfl) ?_
        refine pl_get (v := .ref (ad 20)) hx hb hts (fun w h => mT (inX7 w h)) hown hG.1 hP (hst.1 18 (by decide)) hf19 rfl 2 (by decide) (hts _ (mT wg_434)) (fun _ h => h) rfl dX7_tryViews_91 ?_
        refine lv_iload_n hx hb dX7_tryViews_94 rfl (lv_at hl 1 rfl) ?_
        obtain ⟨rw23, hf24⟩ := hT.1 20 (by decide)
        have hin25 : vp_in 0 7 := In.inb (⟨by decide, by decide⟩ : In 0 0 0) (by decide) (by decide)
        refine pl_iald hx hb hG.1 hP (hst.1 20 (by decide)) 0 hf24 rfl hin25 dX7_tryViews_95 ?_
        refine lv_topi (fun x26 ex26 => ?_)
        refine lv_aload_n hx hb dX7_tryViews_96 rfl (lv_at hl 0 rfl) ?_
        refine pl_get (v := .ref (ad 8)) hx hb hts (fun w h => mT (inX7 w h)) hown hG.1 hP (hst.1 18 (by decide)) hf19 rfl 0 (by decide) (hts _ (mT wg_432)) (fun _ h => h) rfl dX7_tryViews_97 ?_
        obtain ⟨v0_27, v1_27, v2_27, v3_27, v4_27, v5_27, v6_27, v7_27, hf28, hv0_27, hv1_27, hv2_27, hv3_27, hv5_27, hv6_27⟩ := hT.1 8 (by decide)
        refine pl_getN (v := .int v0_27) hx hb hts (fun w h => mT (inX2 w h)) hown hG.1 hP (hst.1 8 (by decide)) hf28 rfl 0 (by decide) (hG.2.1 _ wn_225) (fun _ h => h) rfl dX7_tryViews_100 ?_
        have hJ119 : ∀ (y119_s0 : Int32) (H : Heap) (locs : List Loc) (ls : Array Slot), In y119_s0 0 81 → va_P g.1 vwCl (va_pl L f_37) H → va_D A (va_pl L f_37) → va_S A s.heap H locs → lv_has ls 20 [(0, .ref (ad 18)), (1, .int 0), (2, .int z2), (3, .long z3), (5, .int z4), (6, .int z5), (7, .int 9), (8, .int r6), (9, .int r13), (10, .int y37_l10), (11, .int y37_l11)] → W p l e rm_X7_tryViews_0 s m [.ref (ad 18), .int 0, .int z2, .long z3, .int z4, .int z5].toArray below meth c H locs 0 0 (MQ below (va_Qv (po_X7_tryViews_0 g ad th L f z2 z3 z4 z5) (PstB g A) A) [.ref (ad 18), .int 0, .int z2, .long z3, .int z4, .int z5].toArray s rm_X7_tryViews_0.cells rm_X7_tryViews_0.slots A) (F0 m 119 ls [.int y119_s0, .int x26]) := by
          intro y119_s0 H locs ls hy119_s0 hP hD hS hl
          refine lv_iadd hx hb dX7_tryViews_119 ?_
          refine lv_topi (fun x29 ex29 => ?_)
          refine lv_istore (lv' := [(11, .int x29), (0, .ref (ad 18)), (1, .int 0), (2, .int z2), (3, .long z3), (5, .int z4), (6, .int z5), (7, .int 9), (8, .int r6), (9, .int r13), (10, .int y37_l10)]) hx hb dX7_tryViews_120 hl (by decide) rfl (fun ls hl => ?_)
          refine lv_aload_n hx hb dX7_tryViews_122 rfl (lv_at hl 1 rfl) ?_
          refine lv_iload hx hb dX7_tryViews_123 (lv_at hl 10 rfl) ?_
          refine call_i (run_V (rm := rm_X7_power) hx hb hml hown hts (s_X7_power l g ad th _ _ _ y37_l10 hst hT ) cV_X7_power wg_1066 ⟨Nat.le_of_ble_eq_true rfl, Nat.le_of_ble_eq_true rfl⟩ hG hE hA hP hD hS (hst.1 18 (by decide)) hf19 rfl rfl hl.1 (As := [.int y37_l10]) (rest := []) rfl (Nat.le_of_ble_eq_true rfl) dX7_tryViews_125 ⟨Nat.le_of_ble_eq_true rfl, Nat.le_of_ble_eq_true rfl⟩) hA hD hS (fun r30 L31 f32 H locs hp33 hP hD hS => ?_)
          obtain ⟨eL34L, eL34T⟩ := hp33
          have eL34L : L31 = L := eL34L
          have eL34T : f32 = f_37 := eL34T
          rw [eL34L, eL34T] at hP hD
          refine lv_istore (lv' := [(12, .int r30), (11, .int x29), (0, .ref (ad 18)), (1, .int 0), (2, .int z2), (3, .long z3), (5, .int z4), (6, .int z5), (7, .int 9), (8, .int r6), (9, .int r13), (10, .int y37_l10)]) hx hb dX7_tryViews_128 hl (by decide) rfl (fun ls hl => ?_)
          refine lv_iconst (v := 0) hx hb dX7_tryViews_130 (by decide) ?_
          refine lv_istore (lv' := [(13, .int 0), (12, .int r30), (11, .int x29), (0, .ref (ad 18)), (1, .int 0), (2, .int z2), (3, .long z3), (5, .int z4), (6, .int z5), (7, .int 9), (8, .int r6), (9, .int r13), (10, .int y37_l10)]) hx hb dX7_tryViews_131 hl (by decide) rfl (fun ls hl => ?_)
          have hJ133 : ∀ (k133 : Nat) (y133_l13 : Int32) (f_133 : HP) (H : Heap) (locs : List Loc) (ls : Array Slot), In y133_l13 0 2147483647 → va_P g.1 vwCl (va_pl L f_133) H → va_D A (va_pl L f_133) → va_S A s.heap H locs → TI g ad th f_133 → (∀ b, b ≠ (ad 18) → b ≠ (ad 21) → b ≠ (ad 22) → b ≠ (ad 23) → f_133 b = f b) → f_133 (ad 20) = .inl (g.2.1 0, 7, .inl (rw23)) → f_133 (ad 8) = .inr (2, [.int v0_27, .int v1_27, .int v2_27, .int v3_27, .int v4_27, .int v5_27, .int v6_27, .int v7_27]) → lv_has ls 20 [(0, .ref (ad 18)), (1, .int 0), (2, .int z2), (3, .long z3), (5, .int z4), (6, .int z5), (7, .int 9), (8, .int r6), (9, .int r13), (10, .int y37_l10), (11, .int x29), (12, .int r30), (13, .int y133_l13)] → 2147483647 - y133_l13.toInt < ((k133 : Nat) : Int) → W p l e rm_X7_tryViews_0 s m [.ref (ad 18), .int 0, .int z2, .long z3, .int z4, .int z5].toArray below meth c H locs 0 0 (MQ below (va_Qv (po_X7_tryViews_0 g ad th L f z2 z3 z4 z5) (PstB g A) A) [.ref (ad 18), .int 0, .int z2, .long z3, .int z4, .int z5].toArray s rm_X7_tryViews_0.cells rm_X7_tryViews_0.slots A) (F0 m 133 ls []) := by
            intro k133
            induction k133 with
            | zero =>
              intro y133_l13 f_133 H locs ls hy133_l13 hP hD hS hT hfr hf35 hf36 hl hmz133
              exact ms0 hy133_l13 hmz133
            | succ k133 ih133 =>
              intro y133_l13 f_133 H locs ls hy133_l13 hP hD hS hT hfr hf35 hf36 hl hmz133
              refine lv_iload hx hb dX7_tryViews_133 (lv_at hl 12 rfl) ?_
              refine lv_iload hx hb dX7_tryViews_135 (lv_at hl 11 rfl) ?_
              refine lv_icmp_ge (tgt := 280) hx hb dX7_tryViews_137 (by decide) (fun c37 => ?_) (fun c37 => ?_)
              ·
                have cc38 : r30.toInt ≤ y133_l13.toInt := i32_le.mp c37
                exact ret_v hx hb hr hlocks hP hD hS (Nat.le_of_ble_eq_true rfl) (Nat.le_of_ble_eq_true rfl) (⟨rfl, hT, hfr⟩) dX7_tryViews_280
              ·
                have cc39 : y133_l13.toInt < r30.toInt := i32_nle c37
                have hb40 : In y133_l13 0 2147483646 := In.lt1 hy133_l13 (In.full r30) cc39 (by omega) (by omega)
                have hb41 : In r30 1 2147483647 := In.lt2 hy133_l13 (In.full r30) cc39 (by omega) (by omega)
                refine lv_aload_n hx hb dX7_tryViews_140 rfl (lv_at hl 0 rfl) ?_
                obtain ⟨v6_42, v7_42, v8_42, v9_42, v10_42, v11_42, v12_42, v13_42, hf43, hv8_42, hv9_42, hv10_42, hv11_42, hv13_42⟩ := hT.1 18 (by decide)
                refine call_i (run_V (rm := rm_X7_isEnough) hx hb hml hown hts (s_X7_isEnough l g ad th _ _ _  hst hT ) cV_X7_isEnough wg_1070 ⟨Nat.le_of_ble_eq_true rfl, Nat.le_of_ble_eq_true rfl⟩ hG hE hA hP hD hS (hst.1 18 (by decide)) hf43 rfl rfl hl.1 (As := []) (rest := []) rfl (Nat.le_of_ble_eq_true rfl) dX7_tryViews_141 ⟨Nat.le_of_ble_eq_true rfl, Nat.le_of_ble_eq_true rfl⟩) hA hD hS (fun r44 L45 f46 H locs hp47 hP hD hS => ?_)
                obtain ⟨eL48L, eL48T, eL48R⟩ := hp47
                have eL48L : L45 = L := eL48L
                have eL48T : f46 = f_133 := eL48T
                rw [eL48L, eL48T] at hP hD
                have eL48R : In r44 0 1 := eL48R
                refine lv_if_ne (tgt := 280) hx hb dX7_tryViews_144 (by decide) (fun c49 => ?_) (fun c49 => ?_)
                ·
                  have oc0 : (0 : Int32).toInt = 0 := by decide
                  have cc50 : r44.toInt ≠ (0 : Int32).toInt := i32_ne c49
                  have hb51 : In r44 1 1 := In.ne1 eL48R (⟨by decide, by decide⟩ : In 0 0 0) cc50 (by omega) (by omega)
                  exact ret_v hx hb hr hlocks hP hD hS (Nat.le_of_ble_eq_true rfl) (Nat.le_of_ble_eq_true rfl) (⟨rfl, hT, hfr⟩) dX7_tryViews_280
                ·
                  have oc0 : (0 : Int32).toInt = 0 := by decide
                  have cc52 : r44.toInt = (0 : Int32).toInt := congrArg Int32.toInt c49
                  have hb53 : In r44 0 0 := In.eq1 eL48R (⟨by decide, by decide⟩ : In 0 0 0) cc52 (by omega) (by omega)
                  refine lv_iload_n hx hb dX7_tryViews_147 rfl (lv_at hl 2 rfl) ?_
                  refine lv_istore (lv' := [(14, .int z2), (0, .ref (ad 18)), (1, .int 0), (2, .int z2), (3, .long z3), (5, .int z4), (6, .int z5), (7, .int 9), (8, .int r6), (9, .int r13), (10, .int y37_l10), (11, .int x29), (12, .int r30), (13, .int y133_l13)]) hx hb dX7_tryViews_148 hl (by decide) rfl (fun ls hl => ?_)
                  refine lv_iconst (v := 0) hx hb dX7_tryViews_150 (by decide) ?_
                  refine lv_istore (lv' := [(15, .int 0), (14, .int z2), (0, .ref (ad 18)), (1, .int 0), (2, .int z2), (3, .long z3), (5, .int z4), (6, .int z5), (7, .int 9), (8, .int r6), (9, .int r13), (10, .int y37_l10), (11, .int x29), (12, .int r30), (13, .int y133_l13)]) hx hb dX7_tryViews_151 hl (by decide) rfl (fun ls hl => ?_)
                  refine lv_iload hx hb dX7_tryViews_153 (lv_at hl 14 rfl) ?_
                  refine lv_istore (lv' := [(16, .int y133_l13), (15, .int 0), (14, .int z2), (0, .ref (ad 18)), (1, .int 0), (2, .int z2), (3, .long z3), (5, .int z4), (6, .int z5), (7, .int 9), (8, .int r6), (9, .int r13), (10, .int y37_l10), (11, .int x29), (12, .int r30), (13, .int y133_l13)]) hx hb dX7_tryViews_155 hl (by decide) rfl (fun ls hl => ?_)
                  refine lv_iload hx hb dX7_tryViews_157 (lv_at hl 8 rfl) ?_
                  refine lv_istore (lv' := [(17, .int z5), (16, .int y133_l13), (15, .int 0), (14, .int z2), (0, .ref (ad 18)), (1, .int 0), (2, .int z2), (3, .long z3), (5, .int z4), (6, .int z5), (7, .int 9), (8, .int r6), (9, .int r13), (10, .int y37_l10), (11, .int x29), (12, .int r30), (13, .int y133_l13)]) hx hb dX7_tryViews_159 hl (by decide) rfl (fun ls hl => ?_)
                  refine lv_iconst (v := 0) hx hb dX7_tryViews_161 (by decide) ?_
                  refine lv_istore (lv' := [(18, .int 0), (17, .int z5), (16, .int y133_l13), (15, .int 0), (14, .int z2), (0, .ref (ad 18)), (1, .int 0), (2, .int z2), (3, .long z3), (5, .int z4), (6, .int z5), (7, .int 9), (8, .int r6), (9, .int r13), (10, .int y37_l10), (11, .int x29), (12, .int r30), (13, .int y133_l13)]) hx hb dX7_tryViews_162 hl (by decide) rfl (fun ls hl => ?_)
                  have hJ164 : ∀ (k164 : Nat) (y164_l14 : Int32) (y164_l15 : Int32) (y164_l16 : Int32) (y164_l17 : Int32) (y164_l18 : Int32) (H : Heap) (locs : List Loc) (ls : Array Slot), In y164_l14 0 511 → In y164_l15 (-2147483648) 2147483647 → In y164_l16 0 2147483647 → In y164_l17 (-2147483648) 2147483647 → In y164_l18 0 9 → va_P g.1 vwCl (va_pl L f_133) H → va_D A (va_pl L f_133) → va_S A s.heap H locs → lv_has ls 20 [(0, .ref (ad 18)), (1, .int 0), (2, .int z2), (3, .long z3), (5, .int z4), (6, .int z5), (7, .int 9), (8, .int r6), (9, .int r13), (10, .int y37_l10), (11, .int x29), (12, .int r30), (13, .int y133_l13), (14, .int y164_l14), (15, .int y164_l15), (16, .int y164_l16), (17, .int y164_l17), (18, .int y164_l18)] → 9 - y164_l18.toInt < ((k164 : Nat) : Int) → W p l e rm_X7_tryViews_0 s m [.ref (ad 18), .int 0, .int z2, .long z3, .int z4, .int z5].toArray below meth c H locs 0 0 (MQ below (va_Qv (po_X7_tryViews_0 g ad th L f z2 z3 z4 z5) (PstB g A) A) [.ref (ad 18), .int 0, .int z2, .long z3, .int z4, .int z5].toArray s rm_X7_tryViews_0.cells rm_X7_tryViews_0.slots A) (F0 m 164 ls []) := by
                    intro k164
                    induction k164 with
                    | zero =>
                      intro y164_l14 y164_l15 y164_l16 y164_l17 y164_l18 H locs ls hy164_l14 hy164_l15 hy164_l16 hy164_l17 hy164_l18 hP hD hS hl hmz164
                      exact ms0 hy164_l18 hmz164
                    | succ k164 ih164 =>
                      intro y164_l14 y164_l15 y164_l16 y164_l17 y164_l18 H locs ls hy164_l14 hy164_l15 hy164_l16 hy164_l17 hy164_l18 hP hD hS hl hmz164
                      refine lv_iload hx hb dX7_tryViews_164 (lv_at hl 17 rfl) ?_
                      refine lv_aload_n hx hb dX7_tryViews_166 rfl (lv_at hl 0 rfl) ?_
                      refine pl_get (v := .int v10_42) hx hb hts (fun w h => mT (inX7 w h)) hown hG.1 hP (hst.1 18 (by decide)) hf43 rfl 10 (by decide) (hts _ (mT wg_442)) (fun _ h => h) rfl dX7_tryViews_167 ?_
                      refine lv_icmp_ge (tgt := 262) hx hb dX7_tryViews_170 (by decide) (fun c54 => ?_) (fun c54 => ?_)
                      ·
                        have cc55 : v10_42.toInt ≤ y164_l18.toInt := i32_le.mp c54
                        refine lv_aload_n hx hb dX7_tryViews_262 rfl (lv_at hl 0 rfl) ?_
                        refine lv_iload_n hx hb dX7_tryViews_263 rfl (lv_at hl 1 rfl) ?_
                        refine lv_iload hx hb dX7_tryViews_264 (lv_at hl 13 rfl) ?_
                        refine lv_iload hx hb dX7_tryViews_266 (lv_at hl 14 rfl) ?_
                        refine lv_lload_n hx hb dX7_tryViews_268 rfl (lv_at hl 3 rfl) ?_
                        refine lv_iload hx hb dX7_tryViews_269 (lv_at hl 16 rfl) ?_
                        refine call_v (run_V (rm := rm_X7_tryRuler_0) hx hb hml hown hts (s_X7_tryRuler_0 l g ad th _ _ _ y164_l14 y164_l15 z3 y164_l17 hst hT hy164_l14) cV_X7_tryRuler wg_1089 ⟨Nat.le_of_ble_eq_true rfl, Nat.le_of_ble_eq_true rfl⟩ hG hE hA hP hD hS (hst.1 18 (by decide)) hf43 rfl rfl hl.1 (As := [.int 0, .int y164_l14, .int y164_l15, .long z3, .int y164_l17]) (rest := []) rfl (Nat.le_of_ble_eq_true rfl) dX7_tryViews_271 ⟨Nat.le_of_ble_eq_true rfl, Nat.le_of_ble_eq_true rfl⟩) hA hD hS (fun L57 f58 H locs hp59 hP hD hS => ?_)
                        obtain ⟨eL60L, eL60T, eL60F⟩ := hp59
                        have eL60L : L57 = L := eL60L
                        rw [eL60L] at hP hD
                        have hT : TI g ad th f58 := eL60T
                        have eL60F : ∀ b, b ≠ (ad 18) → b ≠ (ad 21) → b ≠ (ad 22) → b ≠ (ad 23) → f58 b = f_133 b := eL60F
                        have hf61 := (eL60F (ad 20) (hst.ne (by decide) (by decide) (by decide)) (hst.ne (by decide) (by decide) (by decide)) (hst.ne (by decide) (by decide) (by decide)) (hst.ne (by decide) (by decide) (by decide))).trans hf35
                        have hf62 := (eL60F (ad 8) (hst.ne (by decide) (by decide) (by decide)) (hst.ne (by decide) (by decide) (by decide)) (hst.ne (by decide) (by decide) (by decide)) (hst.ne (by decide) (by decide) (by decide))).trans hf36
                        have hfr : (∀ b, b ≠ (ad 18) → b ≠ (ad 21) → b ≠ (ad 22) → b ≠ (ad 23) → f58 b = f b) := fun b z0_ z1_ z2_ z3_ => (eL60F b z0_ z1_ z2_ z3_).trans (hfr b z0_ z1_ z2_ z3_)
                        obtain ⟨x63, ex63⟩ : ∃ y : Int32, y = y133_l13 + 1 := ⟨_, rfl⟩
                        have hb64 : In x63 1 2147483647 := ex63 ▸ In.add hb40 (⟨by decide, by decide⟩ : In 1 1 1) (by decide) (by decide) (by decide) (by decide)
                        have et65 : x63.toInt = y133_l13.toInt + 1 := In.adde ex63 hb40 (k := 1) (by decide) (by decide) (by decide)
                        refine lv_iinc (v := x63) (lv' := [(13, .int x63), (0, .ref (ad 18)), (1, .int 0), (2, .int z2), (3, .long z3), (5, .int z4), (6, .int z5), (7, .int 9), (8, .int r6), (9, .int r13), (10, .int y37_l10), (11, .int x29), (12, .int r30), (14, .int y164_l14), (15, .int y164_l15), (16, .int y164_l16), (17, .int y164_l17), (18, .int y164_l18)]) hx hb dX7_tryViews_274 hl (k := 12) rfl (by rw [ex63]; rfl) (by decide) rfl (fun ls hl => ?_)
                        refine lv_goto (tgt := 133) hx hb dX7_tryViews_277 (by decide) ?_
                        exact ih133 x63 _ _ _ _ (In.mono hb64 (by decide) (by decide)) hP hD hS hT hfr hf61 hf62 (lv_sub hl [1, 2, 3, 4, 5, 6, 7, 8, 9, 10, 11, 12, 0] rfl) (msu et65 (by decide) hmz133)
                      ·
                        have cc66 : y164_l18.toInt < v10_42.toInt := i32_nle c54
                        have hb67 : In y164_l18 0 8 := In.lt1 hy164_l18 hv10_42 cc66 (by omega) (by omega)
                        have hb68 : In v10_42 1 9 := In.lt2 hy164_l18 hv10_42 cc66 (by omega) (by omega)
                        refine lv_iload hx hb dX7_tryViews_173 (lv_at hl 6 rfl) ?_
                        refine lv_iload hx hb dX7_tryViews_175 (lv_at hl 15 rfl) ?_
                        refine lv_iload hx hb dX7_tryViews_177 (lv_at hl 9 rfl) ?_
                        have hb69 : In y37_l10 1 9 := In.mk (by obtain ⟨o0a, o0b⟩ := (hy37_l10 : In _ _ _); obtain ⟨o1a, o1b⟩ := (hb22 : In _ _ _); obtain ⟨o2a, o2b⟩ := (hv11_18 : In _ _ _); omega) (by obtain ⟨o0a, o0b⟩ := (hy37_l10 : In _ _ _); obtain ⟨o1a, o1b⟩ := (hb22 : In _ _ _); obtain ⟨o2a, o2b⟩ := (hv11_18 : In _ _ _); omega)
                        refine lv_irem hx hb dX7_tryViews_179 (In.ne0 hb69 (by decide)) ?_
                        refine lv_topi (fun x70 ex70 => ?_)
                        have hb71 : In x70 0 8 := ex70 ▸ In.rem hy164_l16 hb69 (by decide) (by decide) (by decide)
                        refine lv_iadd hx hb dX7_tryViews_180 ?_
                        refine lv_topi (fun x72 ex72 => ?_)
                        have hb73 : In x72 9 17 := ex72 ▸ In.add (⟨by decide, by decide⟩ : In 9 9 9) hb71 (by decide) (by decide) (by decide) (by decide)
                        have et74 : x72.toInt = (9 : Int32).toInt + x70.toInt := In.add2e ex72 (⟨by decide, by decide⟩ : In 9 9 9) hb71 (by decide) (by decide)
                        refine lv_istore (lv' := [(19, .int x72), (0, .ref (ad 18)), (1, .int 0), (2, .int z2), (3, .long z3), (5, .int z4), (6, .int z5), (7, .int 9), (8, .int r6), (9, .int r13), (10, .int y37_l10), (11, .int x29), (12, .int r30), (13, .int y133_l13), (14, .int y164_l14), (15, .int y164_l15), (16, .int y164_l16), (17, .int y164_l17), (18, .int y164_l18)]) hx hb dX7_tryViews_181 hl (by decide) rfl (fun ls hl => ?_)
                        refine lv_iload hx hb dX7_tryViews_183 (lv_at hl 16 rfl) ?_
                        refine lv_iload hx hb dX7_tryViews_185 (lv_at hl 10 rfl) ?_
                        refine lv_idiv hx hb dX7_tryViews_187 (In.ne0 hb69 (by decide)) ?_
                        refine lv_topi (fun x75 ex75 => ?_)
                        have hb76 : In x75 0 2147483647 := ex75 ▸ In.div hy164_l16 hb69 (by decide) (by decide) (by decide) (by decide)
                        refine lv_istore (lv' := [(16, .int x75), (19, .int x72), (0, .ref (ad 18)), (1, .int 0), (2, .int z2), (3, .long z3), (5, .int z4), (6, .int z5), (7, .int 9), (8, .int r6), (9, .int r13), (10, .int y37_l10), (11, .int x29), (12, .int r30), (13, .int y133_l13), (14, .int y164_l14), (15, .int y164_l15), (17, .int y164_l17), (18, .int y164_l18)]) hx hb dX7_tryViews_188 hl (by decide) rfl (fun ls hl => ?_)
                        refine lv_iload hx hb dX7_tryViews_190 (lv_at hl 15 rfl) ?_
                        refine lv_iconst (v := 1) hx hb dX7_tryViews_192 (by decide) ?_
                        refine lv_aload_n hx hb dX7_tryViews_193 rfl (lv_at hl 2 rfl) ?_
                        refine pl_get (v := .ref (ad 19)) hx hb hts (fun w h => mT (inX7 w h)) hown hG.1 hP (hst.1 18 (by decide)) hf43 rfl 1 (by decide) (hts _ (mT wg_433)) (fun _ h => h) rfl dX7_tryViews_194 ?_
                        refine lv_iload hx hb dX7_tryViews_197 (lv_at hl 18 rfl) ?_
                        obtain ⟨rw77, hf78, hc79⟩ := hT.1 19 (by decide)
                        have hin80 : vp_in y164_l18 9 := In.inb hb67 (by decide) (by decide)
                        refine pl_iald hx hb hG.1 hP (hst.1 19 (by decide)) 0 hf78 rfl hin80 dX7_tryViews_199 ?_
                        refine lv_topi (fun x81 ex81 => ?_)
                        have hb82 : In x81 0 8 := by rw [ex81]; exact hc79 _ (vp_nat hin80)
                        refine lv_ishl hx hb dX7_tryViews_200 ?_
                        refine lv_topi (fun x83 ex83 => ?_)
                        have hb84 : In x83 1 256 := ex83 ▸ In.shl (⟨by decide, by decide⟩ : In 1 1 1) hb82 (by decide) (by decide) (by decide) (by decide) (by decide) (by decide)
                        refine lv_aload_n hx hb dX7_tryViews_201 rfl (lv_at hl 2 rfl) ?_
                        refine pl_get (v := .ref (ad 21)) hx hb hts (fun w h => mT (inX7 w h)) hown hG.1 hP (hst.1 18 (by decide)) hf43 rfl 3 (by decide) (hts _ (mT wg_435)) (fun _ h => h) rfl dX7_tryViews_202 ?_
                        refine lv_iload hx hb dX7_tryViews_205 (lv_at hl 1 rfl) ?_
                        obtain ⟨rw85, hf86⟩ := hT.1 21 (by decide)
                        have hin87 : vp_in x72 108 := In.inb hb73 (by decide) (by decide)
                        refine pl_iald hx hb hG.1 hP (hst.1 21 (by decide)) 0 hf86 rfl hin87 dX7_tryViews_207 ?_
                        refine lv_topi (fun x88 ex88 => ?_)
                        refine call_i (run_S (rm := rm_X7_seen) hx hb hml hown hts (s_X7_seen l g ad th _ _ _ y164_l14 x83 x88 hst hT hy164_l14 (In.mono hb84 (by decide) (by decide))) cS_X7_seen wg_1086 ⟨Nat.le_of_ble_eq_true rfl, Nat.le_of_ble_eq_true rfl⟩ hG hE hA hP hD hS rfl hl.1 (As := [.int y164_l14, .int x83, .int x88]) (rest := []) rfl (Nat.le_of_ble_eq_true rfl) dX7_tryViews_208 ⟨Nat.le_of_ble_eq_true rfl, Nat.le_of_ble_eq_true rfl⟩) hA hD hS (fun r89 L90 f91 H locs hp92 hP hD hS => ?_)
                        obtain ⟨eL93L, eL93T, eL93R⟩ := hp92
                        have eL93L : L90 = L := eL93L
                        have eL93T : f91 = f_133 := eL93T
                        rw [eL93L, eL93T] at hP hD
                        have eL93R : In r89 0 511 := eL93R
                        refine lv_istore (lv' := [(14, .int r89), (16, .int x75), (19, .int x72), (0, .ref (ad 18)), (1, .int 0), (2, .int z2), (3, .long z3), (5, .int z4), (6, .int z5), (7, .int 9), (8, .int r6), (9, .int r13), (10, .int y37_l10), (11, .int x29), (12, .int r30), (13, .int y133_l13), (15, .int y164_l15), (17, .int y164_l17), (18, .int y164_l18)]) hx hb dX7_tryViews_211 hl (by decide) rfl (fun ls hl => ?_)
                        refine lv_iload hx hb dX7_tryViews_213 (lv_at hl 16 rfl) ?_
                        refine lv_aload_n hx hb dX7_tryViews_215 rfl (lv_at hl 3 rfl) ?_
                        refine pl_get (v := .ref (ad 21)) hx hb hts (fun w h => mT (inX7 w h)) hown hG.1 hP (hst.1 18 (by decide)) hf43 rfl 3 (by decide) (hts _ (mT wg_435)) (fun _ h => h) rfl dX7_tryViews_216 ?_
                        refine lv_iload hx hb dX7_tryViews_219 (lv_at hl 2 rfl) ?_
                        have hin94 : vp_in x72 108 := In.inb hb73 (by decide) (by decide)
                        refine pl_iald hx hb hG.1 hP (hst.1 21 (by decide)) 0 hf86 rfl hin94 dX7_tryViews_221 ?_
                        refine lv_topi (fun x95 ex95 => ?_)
                        obtain rfl : x88 = x95 := ex88.trans ex95.symm
                        refine lv_iconst (v := 4) hx hb dX7_tryViews_222 (by decide) ?_
                        refine lv_idiv hx hb dX7_tryViews_223 (In.ne0 (⟨by decide, by decide⟩ : In 4 4 4) (by decide)) ?_
                        refine lv_topi (fun x96 ex96 => ?_)
                        refine lv_aload_n hx hb dX7_tryViews_224 rfl (lv_at hl 3 rfl) ?_
                        refine pl_get (v := .ref (ad 19)) hx hb hts (fun w h => mT (inX7 w h)) hown hG.1 hP (hst.1 18 (by decide)) hf43 rfl 1 (by decide) (hts _ (mT wg_433)) (fun _ h => h) rfl dX7_tryViews_225 ?_
                        refine lv_iload hx hb dX7_tryViews_228 (lv_at hl 18 rfl) ?_
                        have hin97 : vp_in y164_l18 9 := In.inb hb67 (by decide) (by decide)
                        refine pl_iald hx hb hG.1 hP (hst.1 19 (by decide)) 0 hf78 rfl hin97 dX7_tryViews_230 ?_
                        refine lv_topi (fun x98 ex98 => ?_)
                        obtain rfl : x81 = x98 := ex81.trans ex98.symm
                        refine lv_ishl hx hb dX7_tryViews_231 ?_
                        refine lv_topi (fun x99 ex99 => ?_)
                        refine lv_ior hx hb dX7_tryViews_232 ?_
                        refine lv_topi (fun x100 ex100 => ?_)
                        refine lv_istore (lv' := [(15, .int x100), (14, .int r89), (16, .int x75), (19, .int x72), (0, .ref (ad 18)), (1, .int 0), (2, .int z2), (3, .long z3), (5, .int z4), (6, .int z5), (7, .int 9), (8, .int r6), (9, .int r13), (10, .int y37_l10), (11, .int x29), (12, .int r30), (13, .int y133_l13), (17, .int y164_l17), (18, .int y164_l18)]) hx hb dX7_tryViews_233 hl (by decide) rfl (fun ls hl => ?_)
                        refine lv_iload hx hb dX7_tryViews_235 (lv_at hl 17 rfl) ?_
                        refine lv_aload_n hx hb dX7_tryViews_237 rfl (lv_at hl 4 rfl) ?_
                        refine lv_aload_n hx hb dX7_tryViews_238 rfl (lv_at hl 4 rfl) ?_
                        refine pl_get (v := .ref (ad 22)) hx hb hts (fun w h => mT (inX7 w h)) hown hG.1 hP (hst.1 18 (by decide)) hf43 rfl 4 (by decide) (hts _ (mT wg_436)) (fun _ h => h) rfl dX7_tryViews_239 ?_
                        refine lv_iload hx hb dX7_tryViews_242 (lv_at hl 3 rfl) ?_
                        obtain ⟨rw101, hf102⟩ := hT.1 22 (by decide)
                        have hin103 : vp_in x72 108 := In.inb hb73 (by decide) (by decide)
                        refine pl_iald hx hb hG.1 hP (hst.1 22 (by decide)) 0 hf102 rfl hin103 dX7_tryViews_244 ?_
                        refine lv_topi (fun x104 ex104 => ?_)
                        refine lv_iload hx hb dX7_tryViews_245 (lv_at hl 14 rfl) ?_
                        refine lv_iload hx hb dX7_tryViews_247 (lv_at hl 18 rfl) ?_
                        refine lv_iadd hx hb dX7_tryViews_249 ?_
                        refine lv_topi (fun x105 ex105 => ?_)
                        refine call_i (run_V (rm := rm_X7_bitsOf) hx hb hml hown hts (s_X7_bitsOf l g ad th _ _ _ x104 x105 hst hT ) cV_X7_bitsOf wg_1077 ⟨Nat.le_of_ble_eq_true rfl, Nat.le_of_ble_eq_true rfl⟩ hG hE hA hP hD hS (hst.1 18 (by decide)) hf43 rfl rfl hl.1 (As := [.int x104, .int x105]) (rest := [.int y164_l17]) rfl (Nat.le_of_ble_eq_true rfl) dX7_tryViews_250 ⟨Nat.le_of_ble_eq_true rfl, Nat.le_of_ble_eq_true rfl⟩) hA hD hS (fun r106 L107 f108 H locs hp109 hP hD hS => ?_)
                        obtain ⟨eL110L, eL110T⟩ := hp109
                        have eL110L : L107 = L := eL110L
                        have eL110T : f108 = f_133 := eL110T
                        rw [eL110L, eL110T] at hP hD
                        refine lv_ior hx hb dX7_tryViews_253 ?_
                        refine lv_topi (fun x111 ex111 => ?_)
                        refine lv_istore (lv' := [(17, .int x111), (15, .int x100), (14, .int r89), (16, .int x75), (19, .int x72), (0, .ref (ad 18)), (1, .int 0), (2, .int z2), (3, .long z3), (5, .int z4), (6, .int z5), (7, .int 9), (8, .int r6), (9, .int r13), (10, .int y37_l10), (11, .int x29), (12, .int r30), (13, .int y133_l13), (18, .int y164_l18)]) hx hb dX7_tryViews_254 hl (by decide) rfl (fun ls hl => ?_)
                        obtain ⟨x112, ex112⟩ : ∃ y : Int32, y = y164_l18 + 1 := ⟨_, rfl⟩
                        have hb113 : In x112 1 9 := ex112 ▸ In.add hb67 (⟨by decide, by decide⟩ : In 1 1 1) (by decide) (by decide) (by decide) (by decide)
                        have et114 : x112.toInt = y164_l18.toInt + 1 := In.adde ex112 hb67 (k := 1) (by decide) (by decide) (by decide)
                        refine lv_iinc (v := x112) (lv' := [(18, .int x112), (17, .int x111), (15, .int x100), (14, .int r89), (16, .int x75), (19, .int x72), (0, .ref (ad 18)), (1, .int 0), (2, .int z2), (3, .long z3), (5, .int z4), (6, .int z5), (7, .int 9), (8, .int r6), (9, .int r13), (10, .int y37_l10), (11, .int x29), (12, .int r30), (13, .int y133_l13)]) hx hb dX7_tryViews_256 hl (k := 18) rfl (by rw [ex112]; rfl) (by decide) rfl (fun ls hl => ?_)
                        refine lv_goto (tgt := 164) hx hb dX7_tryViews_259 (by decide) ?_
                        exact ih164 r89 x100 x75 x111 x112 _ _ _ eL93R (In.full x100) hb76 (In.full x111) (In.mono hb113 (by decide) (by decide)) hP hD hS (lv_sub hl [6, 7, 8, 9, 10, 11, 12, 13, 14, 15, 16, 17, 18, 3, 2, 4, 1, 0] rfl) (msu et114 (by decide) hmz164)
                  exact hJ164 ((9 - (0 : Int32).toInt).toNat + 1) z2 0 y133_l13 z5 0 _ _ _ hz2 (⟨by decide, by decide⟩ : In 0 (-2147483648) 2147483647) (In.mono hb40 (by decide) (by decide)) (In.full z5) (⟨by decide, by decide⟩ : In 0 0 9) hP hD hS (lv_sub hl [5, 6, 7, 8, 9, 10, 11, 12, 13, 14, 15, 16, 17, 4, 3, 2, 1, 0] rfl) (msI _)
          exact hJ133 ((2147483647 - (0 : Int32).toInt).toNat + 1) 0 _ _ _ _ (⟨by decide, by decide⟩ : In 0 0 2147483647) hP hD hS hT hfr hf24 hf28 (lv_sub hl [3, 4, 5, 6, 7, 8, 9, 10, 11, 12, 2, 1, 0] rfl) (msI _)
        refine lv_if_ne (tgt := 118) hx hb dX7_tryViews_103 (by decide) (fun c115 => ?_) (fun c115 => ?_)
        ·
          have oc0 : (0 : Int32).toInt = 0 := by decide
          have cc116 : v0_27.toInt ≠ (0 : Int32).toInt := i32_ne c115
          have hb117 : In v0_27 1 1 := In.ne1 hv0_27 (⟨by decide, by decide⟩ : In 0 0 0) cc116 (by omega) (by omega)
          refine lv_iconst (v := 0) hx hb dX7_tryViews_118 (by decide) ?_
          exact hJ119 0 _ _ _ (⟨by decide, by decide⟩ : In 0 0 81) hP hD hS (lv_sub hl [0, 1, 2, 3, 4, 5, 6, 7, 8, 9, 10] rfl)
        ·
          have oc0 : (0 : Int32).toInt = 0 := by decide
          have cc118 : v0_27.toInt = (0 : Int32).toInt := congrArg Int32.toInt c115
          have hb119 : In v0_27 0 0 := In.eq1 hv0_27 (⟨by decide, by decide⟩ : In 0 0 0) cc118 (by omega) (by omega)
          refine lv_aload_n hx hb dX7_tryViews_106 rfl (lv_at hl 0 rfl) ?_
          refine pl_get (v := .int v11_18) hx hb hts (fun w h => mT (inX7 w h)) hown hG.1 hP (hst.1 18 (by decide)) hf19 rfl 11 (by decide) (hts _ (mT wg_443)) (fun _ h => h) rfl dX7_tryViews_107 ?_
          refine lv_aload_n hx hb dX7_tryViews_110 rfl (lv_at hl 0 rfl) ?_
          refine pl_get (v := .int v10_18) hx hb hts (fun w h => mT (inX7 w h)) hown hG.1 hP (hst.1 18 (by decide)) hf19 rfl 10 (by decide) (hts _ (mT wg_442)) (fun _ h => h) rfl dX7_tryViews_111 ?_
          refine lv_imul hx hb dX7_tryViews_114 ?_
          refine lv_topi (fun x120 ex120 => ?_)
          have hb121 : In x120 0 72 := ex120 ▸ In.mul hv11_18 hv10_18 (by decide) (by decide) (by decide) (by decide) (by decide)
          refine lv_goto (tgt := 119) hx hb dX7_tryViews_115 (by decide) ?_
          exact hJ119 x120 _ _ _ (In.mono hb121 (by decide) (by decide)) hP hD hS (lv_sub hl [0, 1, 2, 3, 4, 5, 6, 7, 8, 9, 10] rfl)
      ·
        have cc122 : y37_l11.toInt ≤ v11_18.toInt := i32_nlt c20
        have hb123 : In y37_l11 0 8 := In.le1 hy37_l11 hv11_18 cc122 (by omega) (by omega)
        refine lv_aload_n hx hb dX7_tryViews_46 rfl (lv_at hl 0 rfl) ?_
        refine pl_get (v := .ref (ad 8)) hx hb hts (fun w h => mT (inX7 w h)) hown hG.1 hP (hst.1 18 (by decide)) hf19 rfl 0 (by decide) (hts _ (mT wg_432)) (fun _ h => h) rfl dX7_tryViews_47 ?_
        refine lv_iload hx hb dX7_tryViews_50 (lv_at hl 7 rfl) ?_
        refine lv_aload_n hx hb dX7_tryViews_52 rfl (lv_at hl 0 rfl) ?_
        refine pl_get (v := .int v11_18) hx hb hts (fun w h => mT (inX7 w h)) hown hG.1 hP (hst.1 18 (by decide)) hf19 rfl 11 (by decide) (hts _ (mT wg_443)) (fun _ h => h) rfl dX7_tryViews_53 ?_
        refine lv_iadd hx hb dX7_tryViews_56 ?_
        refine lv_topi (fun x124 ex124 => ?_)
        have hb125 : In x124 0 17 := ex124 ▸ In.add hb11 hv11_18 (by decide) (by decide) (by decide) (by decide)
        have et126 : x124.toInt = r6.toInt + v11_18.toInt := In.add2e ex124 hb11 hv11_18 (by decide) (by decide)
        refine lv_iload hx hb dX7_tryViews_57 (lv_at hl 10 rfl) ?_
        refine lv_isub hx hb dX7_tryViews_59 ?_
        refine lv_topi (fun x127 ex127 => ?_)
        have hb128 : In x127 (-8) 17 := ex127 ▸ In.sub hb125 hb123 (by decide) (by decide) (by decide) (by decide)
        have et129 : x127.toInt = x124.toInt - y37_l11.toInt := In.sub2e ex127 hb125 hb123 (by decide) (by decide)
        refine lv_iload hx hb dX7_tryViews_60 (lv_at hl 8 rfl) ?_
        refine lv_iload hx hb dX7_tryViews_62 (lv_at hl 10 rfl) ?_
        refine lv_iadd hx hb dX7_tryViews_64 ?_
        refine lv_topi (fun x130 ex130 => ?_)
        have hb131 : In x130 0 71 := ex130 ▸ In.add eL17R hb123 (by decide) (by decide) (by decide) (by decide)
        have et132 : x130.toInt = r13.toInt + y37_l11.toInt := In.add2e ex130 eL17R hb123 (by decide) (by decide)
        obtain ⟨v0_133, v1_133, v2_133, v3_133, v4_133, v5_133, v6_133, v7_133, hf134, hv0_133, hv1_133, hv2_133, hv3_133, hv5_133, hv6_133⟩ := hT.1 8 (by decide)
        refine call_i (run_VN (rm := rm_X2_view_ru) hx hb hml hown hts (s_X2_view_ru l g ad th _ _ _ x127 x130 hst hT ) cV_X2_view wn_1085 ⟨Nat.le_of_ble_eq_true rfl, Nat.le_of_ble_eq_true rfl⟩ hG hE hA hP hD hS (hst.1 8 (by decide)) hf134 rfl rfl hl.1 (As := [.int x127, .int x130]) (rest := []) rfl (Nat.le_of_ble_eq_true rfl) dX7_tryViews_65 ⟨Nat.le_of_ble_eq_true rfl, Nat.le_of_ble_eq_true rfl⟩) hA hD hS (fun r135 L136 f137 H locs hp138 hP hD hS => ?_)
        obtain ⟨eL139L, eL139T, eL139R⟩ := hp138
        have eL139L : L136 = L := eL139L
        have eL139T : f137 = f_37 := eL139T
        rw [eL139L, eL139T] at hP hD
        have eL139R : In r135 0 6 := eL139R
        refine lv_istore (lv' := [(12, .int r135), (0, .ref (ad 18)), (1, .int 0), (2, .int z2), (3, .long z3), (5, .int z4), (6, .int z5), (7, .int 9), (8, .int r6), (9, .int r13), (10, .int y37_l10), (11, .int y37_l11)]) hx hb dX7_tryViews_68 hl (by decide) rfl (fun ls hl => ?_)
        refine lv_aload_n hx hb dX7_tryViews_70 rfl (lv_at hl 1 rfl) ?_
        refine lv_iload hx hb dX7_tryViews_71 (lv_at hl 7 rfl) ?_
        refine lv_iload hx hb dX7_tryViews_73 (lv_at hl 10 rfl) ?_
        refine lv_iload hx hb dX7_tryViews_75 (lv_at hl 0 rfl) ?_
        refine lv_iload hx hb dX7_tryViews_77 (lv_at hl 11 rfl) ?_
        refine call_i (run_V (rm := rm_X7_addChoice) hx hb hml hown hts (s_X7_addChoice l g ad th _ _ _ 9 y37_l10 r135 y37_l11 hst hT (⟨by decide, by decide⟩ : In 9 0 99) (In.mk (by obtain ⟨o0a, o0b⟩ := (hy37_l10 : In _ _ _); obtain ⟨o1a, o1b⟩ := (hb123 : In _ _ _); obtain ⟨o2a, o2b⟩ := (hv11_18 : In _ _ _); omega) (by obtain ⟨o0a, o0b⟩ := (hy37_l10 : In _ _ _); obtain ⟨o1a, o1b⟩ := (hb123 : In _ _ _); obtain ⟨o2a, o2b⟩ := (hv11_18 : In _ _ _); omega))) cV_X7_addChoice wg_1062 ⟨Nat.le_of_ble_eq_true rfl, Nat.le_of_ble_eq_true rfl⟩ hG hE hA hP hD hS (hst.1 18 (by decide)) hf19 rfl rfl hl.1 (As := [.int 9, .int y37_l10, .int r135, .int y37_l11]) (rest := []) rfl (Nat.le_of_ble_eq_true rfl) dX7_tryViews_79 ⟨Nat.le_of_ble_eq_true rfl, Nat.le_of_ble_eq_true rfl⟩) hA hD hS (fun r140 L141 f142 H locs hp143 hP hD hS => ?_)
        obtain ⟨eL144L, eL144T, eL144F, eL144R, eL144X0⟩ := hp143
        have eL144L : L141 = L := eL144L
        rw [eL144L] at hP hD
        have hT : TI g ad th f142 := eL144T
        have eL144F : ∀ b, b ≠ (ad 21) → b ≠ (ad 22) → f142 b = f_37 b := eL144F
        have hf145 := (eL144F (ad 18) (hst.ne (by decide) (by decide) (by decide)) (hst.ne (by decide) (by decide) (by decide))).trans hf19
        have hf146 := (eL144F (ad 8) (hst.ne (by decide) (by decide) (by decide)) (hst.ne (by decide) (by decide) (by decide))).trans hf134
        have hfr : (∀ b, b ≠ (ad 18) → b ≠ (ad 21) → b ≠ (ad 22) → b ≠ (ad 23) → f142 b = f b) := fun b z0_ z1_ z2_ z3_ => (eL144F b z1_ z2_).trans (hfr b z0_ z1_ z2_ z3_)
        have eL144R : In r140 0 9 := eL144R
        have hac147 : r140.toInt ≤ y37_l10.toInt + 1 ∧ 1 ≤ r140.toInt := eL144X0
        refine lv_istore (lv' := [(10, .int r140), (12, .int r135), (0, .ref (ad 18)), (1, .int 0), (2, .int z2), (3, .long z3), (5, .int z4), (6, .int z5), (7, .int 9), (8, .int r6), (9, .int r13), (11, .int y37_l11)]) hx hb dX7_tryViews_82 hl (by decide) rfl (fun ls hl => ?_)
        obtain ⟨x148, ex148⟩ : ∃ y : Int32, y = y37_l11 + 1 := ⟨_, rfl⟩
        have hb149 : In x148 1 9 := ex148 ▸ In.add hb123 (⟨by decide, by decide⟩ : In 1 1 1) (by decide) (by decide) (by decide) (by decide)
        have et150 : x148.toInt = y37_l11.toInt + 1 := In.adde ex148 hb123 (k := 1) (by decide) (by decide) (by decide)
        refine lv_iinc (v := x148) (lv' := [(11, .int x148), (10, .int r140), (12, .int r135), (0, .ref (ad 18)), (1, .int 0), (2, .int z2), (3, .long z3), (5, .int z4), (6, .int z5), (7, .int 9), (8, .int r6), (9, .int r13)]) hx hb dX7_tryViews_84 hl (k := 11) rfl (by rw [ex148]; rfl) (by decide) rfl (fun ls hl => ?_)
        refine lv_goto (tgt := 37) hx hb dX7_tryViews_87 (by decide) ?_
        exact ih37 r140 x148 _ _ _ _ eL144R (In.mono hb149 (by decide) (by decide)) hP hD hS hT hfr (by obtain ⟨o0a, o0b⟩ := (eL144R : In _ _ _); obtain ⟨o1a, o1b⟩ := (hb149 : In _ _ _); obtain ⟨o2a, o2b⟩ := (hy37_l10 : In _ _ _); obtain ⟨o3a, o3b⟩ := (hb123 : In _ _ _); obtain ⟨o4a, o4b⟩ := (hv11_18 : In _ _ _); omega) (lv_sub hl [3, 4, 5, 6, 7, 8, 9, 10, 11, 1, 0] rfl) (msu et150 (by decide) hmz37)
  exact hJ37 ((9 - (0 : Int32).toInt).toNat + 1) 0 0 _ _ _ _ (⟨by decide, by decide⟩ : In 0 0 9) (⟨by decide, by decide⟩ : In 0 0 9) hP hD hS hT hfr (by have oc0 : (0 : Int32).toInt = 0 := (by decide); omega) (lv_sub hl [5, 6, 7, 8, 9, 10, 4, 3, 2, 1, 0] rfl) (msI _)

abbrev rm_X7_tryOffers_0 : Room := { frames := 24, cells := 0, slots := 0, locals := 833 }
abbrev po_X7_tryOffers_0 (g : GG) (ad : Nat → Nat) (th : Nat → Int) (L : List Nat) (f : HP) (z2 : Int32) (z3 : Int64) (z4 : Int32) : (List Nat × HP) → Prop := fun u => u.1 = L ∧ TI g ad th u.2 ∧ (∀ b, b ≠ (ad 18) → b ≠ (ad 21) → b ≠ (ad 22) → b ≠ (ad 23) → u.2 b = f b)
set_option maxHeartbeats 4000000 in
set_option maxRecDepth 100000 in
theorem s_X7_tryOffers_0 (l : Launch) (g : GG) (ad : Nat → Nat) (th : Nat → Int) (L : List Nat) (f : HP) (sz : Nat) (z2 : Int32) (z3 : Int64) (z4 : Int32) (hst : ST ad L) (hT : TI g ad th f) (hz2 : In z2 0 511) : MtV l g yX7_tryOffers cX7_tryOffers 16 rm_X7_tryOffers_0 [.ref (ad 18), .int 0, .int z2, .long z3, .int z4] L f sz (po_X7_tryOffers_0 g ad th L f z2 z3 z4) := by
  refine MtV.of (by decide +kernel) (Nat.le_of_ble_eq_true rfl) ?_
  intro p e s m below meth c A hEn hP hD hS ls hl
  obtain ⟨hx, hb, hr, hml, hown, hlocks, hts, hG, hA, hE, hnm⟩ := hEn
  have hown : s.vm.findClass "RulerWord$Search" = some m.cls := hown
  have hl : lv_has ls 16 [(0, .ref (ad 18)), (1, .int 0), (2, .int z2), (3, .long z3), (5, .int z4)] := hl
  have hfr : (∀ b, b ≠ (ad 18) → b ≠ (ad 21) → b ≠ (ad 22) → b ≠ (ad 23) → f b = f b) := fun b z0_ z1_ z2_ z3_ => rfl
  refine lv_iload_n hx hb dX7_tryOffers_0 rfl (lv_at hl 1 rfl) ?_
  refine lv_iconst (v := 2) hx hb dX7_tryOffers_1 (by decide) ?_
  refine lv_imul hx hb dX7_tryOffers_2 ?_
  refine lv_topi (fun x1 ex1 => ?_)
  obtain rfl : x1 = 0 := ex1.trans (by decide)
  refine lv_bipush (v := 9) hx hb dX7_tryOffers_3 (by decide) ?_
  refine lv_imul hx hb dX7_tryOffers_5 ?_
  refine lv_topi (fun x2 ex2 => ?_)
  obtain rfl : x2 = 0 := ex2.trans (by decide)
  refine lv_istore (lv' := [(6, .int 0), (0, .ref (ad 18)), (1, .int 0), (2, .int z2), (3, .long z3), (5, .int z4)]) hx hb dX7_tryOffers_6 hl (by decide) rfl (fun ls hl => ?_)
  refine lv_iload_n hx hb dX7_tryOffers_8 rfl (lv_at hl 3 rfl) ?_
  refine call_i (run_S (rm := rm_J6_bitCount_0f7a4) hx hb hml hown hts (s_J6_bitCount_0f7a4 l g ad th _ _ _ z2 hst hT ) cS_J6_bitCount_0f7a4 wg_1042 ⟨Nat.le_of_ble_eq_true rfl, Nat.le_of_ble_eq_true rfl⟩ hG hE hA hP hD hS rfl hl.1 (As := [.int z2]) (rest := []) rfl (Nat.le_of_ble_eq_true rfl) dX7_tryOffers_9 ⟨Nat.le_of_ble_eq_true rfl, Nat.le_of_ble_eq_true rfl⟩) hA hD hS (fun r3 L4 f5 H locs hp6 hP hD hS => ?_)
  obtain ⟨eL7L, eL7T, eL7R, eL7X0⟩ := hp6
  have eL7L : L4 = L := eL7L
  have eL7T : f5 = f := eL7T
  rw [eL7L, eL7T] at hP hD
  have eL7R : In r3 0 63 := eL7R
  have hb8 : In r3 0 9 := bc9 hz2 eL7X0
  refine lv_istore (lv' := [(7, .int r3), (6, .int 0), (0, .ref (ad 18)), (1, .int 0), (2, .int z2), (3, .long z3), (5, .int z4)]) hx hb dX7_tryOffers_12 hl (by decide) rfl (fun ls hl => ?_)
  refine lv_iconst (v := 0) hx hb dX7_tryOffers_14 (by decide) ?_
  refine lv_istore (lv' := [(8, .int 0), (7, .int r3), (6, .int 0), (0, .ref (ad 18)), (1, .int 0), (2, .int z2), (3, .long z3), (5, .int z4)]) hx hb dX7_tryOffers_15 hl (by decide) rfl (fun ls hl => ?_)
  refine lv_iconst (v := 0) hx hb dX7_tryOffers_17 (by decide) ?_
  refine lv_istore (lv' := [(9, .int 0), (8, .int 0), (7, .int r3), (6, .int 0), (0, .ref (ad 18)), (1, .int 0), (2, .int z2), (3, .long z3), (5, .int z4)]) hx hb dX7_tryOffers_18 hl (by decide) rfl (fun ls hl => ?_)
  have hJ20 : ∀ (k20 : Nat) (y20_l8 : Int32) (y20_l9 : Int32) (f_20 : HP) (H : Heap) (locs : List Loc) (ls : Array Slot), In y20_l8 0 9 → In y20_l9 0 9 → va_P g.1 vwCl (va_pl L f_20) H → va_D A (va_pl L f_20) → va_S A s.heap H locs → TI g ad th f_20 → (∀ b, b ≠ (ad 18) → b ≠ (ad 21) → b ≠ (ad 22) → b ≠ (ad 23) → f_20 b = f b) → (y20_l8.toInt ≤ y20_l9.toInt ∧ (y20_l9.toInt = 0 ∨ 1 ≤ y20_l8.toInt)) → lv_has ls 16 [(0, .ref (ad 18)), (1, .int 0), (2, .int z2), (3, .long z3), (5, .int z4), (6, .int 0), (7, .int r3), (8, .int y20_l8), (9, .int y20_l9)] → 9 - y20_l9.toInt < ((k20 : Nat) : Int) → W p l e rm_X7_tryOffers_0 s m [.ref (ad 18), .int 0, .int z2, .long z3, .int z4].toArray below meth c H locs 0 0 (MQ below (va_Qv (po_X7_tryOffers_0 g ad th L f z2 z3 z4) (PstB g A) A) [.ref (ad 18), .int 0, .int z2, .long z3, .int z4].toArray s rm_X7_tryOffers_0.cells rm_X7_tryOffers_0.slots A) (F0 m 20 ls []) := by
    intro k20
    induction k20 with
    | zero =>
      intro y20_l8 y20_l9 f_20 H locs ls hy20_l8 hy20_l9 hP hD hS hT hfr hinv20_0 hl hmz20
      exact ms0 hy20_l9 hmz20
    | succ k20 ih20 =>
      intro y20_l8 y20_l9 f_20 H locs ls hy20_l8 hy20_l9 hP hD hS hT hfr hinv20_0 hl hmz20
      refine lv_iload hx hb dX7_tryOffers_20 (lv_at hl 8 rfl) ?_
      refine lv_aload_n hx hb dX7_tryOffers_22 rfl (lv_at hl 0 rfl) ?_
      obtain ⟨v6_9, v7_9, v8_9, v9_9, v10_9, v11_9, v12_9, v13_9, hf10, hv8_9, hv9_9, hv10_9, hv11_9, hv13_9⟩ := hT.1 18 (by decide)
      refine pl_get (v := .int v11_9) hx hb hts (fun w h => mT (inX7 w h)) hown hG.1 hP (hst.1 18 (by decide)) hf10 rfl 11 (by decide) (hts _ (mT wg_443)) (fun _ h => h) rfl dX7_tryOffers_23 ?_
      refine lv_icmp_gt (tgt := 76) hx hb dX7_tryOffers_26 (by decide) (fun c11 => ?_) (fun c11 => ?_)
      ·
        have cc12 : v11_9.toInt < y20_l9.toInt := i32_lt.mp c11
        have hb13 : In y20_l9 1 9 := In.gt1 hy20_l9 hv11_9 cc12 (by omega) (by omega)
        refine lv_aload_n hx hb dX7_tryOffers_76 rfl (lv_at hl 0 rfl) ?_
        refine lv_iload hx hb dX7_tryOffers_77 (lv_at hl 7 rfl) ?_
        refine call_i (run_V (rm := rm_X7_power) hx hb hml hown hts (s_X7_power l g ad th _ _ _ y20_l8 hst hT ) cV_X7_power wg_1066 ⟨Nat.le_of_ble_eq_true rfl, Nat.le_of_ble_eq_true rfl⟩ hG hE hA hP hD hS (hst.1 18 (by decide)) hf10 rfl rfl hl.1 (As := [.int y20_l8]) (rest := []) rfl (Nat.le_of_ble_eq_true rfl) dX7_tryOffers_79 ⟨Nat.le_of_ble_eq_true rfl, Nat.le_of_ble_eq_true rfl⟩) hA hD hS (fun r14 L15 f16 H locs hp17 hP hD hS => ?_)
        obtain ⟨eL18L, eL18T⟩ := hp17
        have eL18L : L15 = L := eL18L
        have eL18T : f16 = f_20 := eL18T
        rw [eL18L, eL18T] at hP hD
        refine lv_istore (lv' := [(9, .int r14), (0, .ref (ad 18)), (1, .int 0), (2, .int z2), (3, .long z3), (5, .int z4), (6, .int 0), (7, .int r3), (8, .int y20_l8)]) hx hb dX7_tryOffers_82 hl (by decide) rfl (fun ls hl => ?_)
        refine lv_iconst (v := 0) hx hb dX7_tryOffers_84 (by decide) ?_
        refine lv_istore (lv' := [(10, .int 0), (9, .int r14), (0, .ref (ad 18)), (1, .int 0), (2, .int z2), (3, .long z3), (5, .int z4), (6, .int 0), (7, .int r3), (8, .int y20_l8)]) hx hb dX7_tryOffers_85 hl (by decide) rfl (fun ls hl => ?_)
        have hJ87 : ∀ (k87 : Nat) (y87_l10 : Int32) (f_87 : HP) (H : Heap) (locs : List Loc) (ls : Array Slot), In y87_l10 0 2147483647 → va_P g.1 vwCl (va_pl L f_87) H → va_D A (va_pl L f_87) → va_S A s.heap H locs → TI g ad th f_87 → (∀ b, b ≠ (ad 18) → b ≠ (ad 21) → b ≠ (ad 22) → b ≠ (ad 23) → f_87 b = f b) → lv_has ls 16 [(0, .ref (ad 18)), (1, .int 0), (2, .int z2), (3, .long z3), (5, .int z4), (6, .int 0), (7, .int r3), (8, .int y20_l8), (9, .int r14), (10, .int y87_l10)] → 2147483647 - y87_l10.toInt < ((k87 : Nat) : Int) → W p l e rm_X7_tryOffers_0 s m [.ref (ad 18), .int 0, .int z2, .long z3, .int z4].toArray below meth c H locs 0 0 (MQ below (va_Qv (po_X7_tryOffers_0 g ad th L f z2 z3 z4) (PstB g A) A) [.ref (ad 18), .int 0, .int z2, .long z3, .int z4].toArray s rm_X7_tryOffers_0.cells rm_X7_tryOffers_0.slots A) (F0 m 87 ls []) := by
          intro k87
          induction k87 with
          | zero =>
            intro y87_l10 f_87 H locs ls hy87_l10 hP hD hS hT hfr hl hmz87
            exact ms0 hy87_l10 hmz87
          | succ k87 ih87 =>
            intro y87_l10 f_87 H locs ls hy87_l10 hP hD hS hT hfr hl hmz87
            refine lv_iload hx hb dX7_tryOffers_87 (lv_at hl 9 rfl) ?_
            refine lv_iload hx hb dX7_tryOffers_89 (lv_at hl 8 rfl) ?_
            refine lv_icmp_ge (tgt := 211) hx hb dX7_tryOffers_91 (by decide) (fun c19 => ?_) (fun c19 => ?_)
            ·
              have cc20 : r14.toInt ≤ y87_l10.toInt := i32_le.mp c19
              exact ret_v hx hb hr hlocks hP hD hS (Nat.le_of_ble_eq_true rfl) (Nat.le_of_ble_eq_true rfl) (⟨rfl, hT, hfr⟩) dX7_tryOffers_211
            ·
              have cc21 : y87_l10.toInt < r14.toInt := i32_nle c19
              have hb22 : In y87_l10 0 2147483646 := In.lt1 hy87_l10 (In.full r14) cc21 (by omega) (by omega)
              have hb23 : In r14 1 2147483647 := In.lt2 hy87_l10 (In.full r14) cc21 (by omega) (by omega)
              refine lv_aload_n hx hb dX7_tryOffers_94 rfl (lv_at hl 0 rfl) ?_
              obtain ⟨v6_24, v7_24, v8_24, v9_24, v10_24, v11_24, v12_24, v13_24, hf25, hv8_24, hv9_24, hv10_24, hv11_24, hv13_24⟩ := hT.1 18 (by decide)
              refine call_i (run_V (rm := rm_X7_isEnough) hx hb hml hown hts (s_X7_isEnough l g ad th _ _ _  hst hT ) cV_X7_isEnough wg_1070 ⟨Nat.le_of_ble_eq_true rfl, Nat.le_of_ble_eq_true rfl⟩ hG hE hA hP hD hS (hst.1 18 (by decide)) hf25 rfl rfl hl.1 (As := []) (rest := []) rfl (Nat.le_of_ble_eq_true rfl) dX7_tryOffers_95 ⟨Nat.le_of_ble_eq_true rfl, Nat.le_of_ble_eq_true rfl⟩) hA hD hS (fun r26 L27 f28 H locs hp29 hP hD hS => ?_)
              obtain ⟨eL30L, eL30T, eL30R⟩ := hp29
              have eL30L : L27 = L := eL30L
              have eL30T : f28 = f_87 := eL30T
              rw [eL30L, eL30T] at hP hD
              have eL30R : In r26 0 1 := eL30R
              refine lv_if_ne (tgt := 211) hx hb dX7_tryOffers_98 (by decide) (fun c31 => ?_) (fun c31 => ?_)
              ·
                have oc0 : (0 : Int32).toInt = 0 := by decide
                have cc32 : r26.toInt ≠ (0 : Int32).toInt := i32_ne c31
                have hb33 : In r26 1 1 := In.ne1 eL30R (⟨by decide, by decide⟩ : In 0 0 0) cc32 (by omega) (by omega)
                exact ret_v hx hb hr hlocks hP hD hS (Nat.le_of_ble_eq_true rfl) (Nat.le_of_ble_eq_true rfl) (⟨rfl, hT, hfr⟩) dX7_tryOffers_211
              ·
                have oc0 : (0 : Int32).toInt = 0 := by decide
                have cc34 : r26.toInt = (0 : Int32).toInt := congrArg Int32.toInt c31
                have hb35 : In r26 0 0 := In.eq1 eL30R (⟨by decide, by decide⟩ : In 0 0 0) cc34 (by omega) (by omega)
                refine lv_iconst (v := 0) hx hb dX7_tryOffers_101 (by decide) ?_
                refine lv_istore (lv' := [(11, .int 0), (0, .ref (ad 18)), (1, .int 0), (2, .int z2), (3, .long z3), (5, .int z4), (6, .int 0), (7, .int r3), (8, .int y20_l8), (9, .int r14), (10, .int y87_l10)]) hx hb dX7_tryOffers_102 hl (by decide) rfl (fun ls hl => ?_)
                refine lv_iload hx hb dX7_tryOffers_104 (lv_at hl 10 rfl) ?_
                refine lv_istore (lv' := [(12, .int y87_l10), (11, .int 0), (0, .ref (ad 18)), (1, .int 0), (2, .int z2), (3, .long z3), (5, .int z4), (6, .int 0), (7, .int r3), (8, .int y20_l8), (9, .int r14), (10, .int y87_l10)]) hx hb dX7_tryOffers_106 hl (by decide) rfl (fun ls hl => ?_)
                refine lv_iload hx hb dX7_tryOffers_108 (lv_at hl 6 rfl) ?_
                refine lv_istore (lv' := [(13, .int z4), (12, .int y87_l10), (11, .int 0), (0, .ref (ad 18)), (1, .int 0), (2, .int z2), (3, .long z3), (5, .int z4), (6, .int 0), (7, .int r3), (8, .int y20_l8), (9, .int r14), (10, .int y87_l10)]) hx hb dX7_tryOffers_110 hl (by decide) rfl (fun ls hl => ?_)
                refine lv_iconst (v := 0) hx hb dX7_tryOffers_112 (by decide) ?_
                refine lv_istore (lv' := [(14, .int 0), (13, .int z4), (12, .int y87_l10), (11, .int 0), (0, .ref (ad 18)), (1, .int 0), (2, .int z2), (3, .long z3), (5, .int z4), (6, .int 0), (7, .int r3), (8, .int y20_l8), (9, .int r14), (10, .int y87_l10)]) hx hb dX7_tryOffers_113 hl (by decide) rfl (fun ls hl => ?_)
                have hJ115 : ∀ (k115 : Nat) (y115_l11 : Int32) (y115_l12 : Int32) (y115_l13 : Int32) (y115_l14 : Int32) (H : Heap) (locs : List Loc) (ls : Array Slot), In y115_l11 (-2147483648) 2147483647 → In y115_l12 0 2147483647 → In y115_l13 (-2147483648) 2147483647 → In y115_l14 0 9 → va_P g.1 vwCl (va_pl L f_87) H → va_D A (va_pl L f_87) → va_S A s.heap H locs → lv_has ls 16 [(0, .ref (ad 18)), (1, .int 0), (2, .int z2), (3, .long z3), (5, .int z4), (6, .int 0), (7, .int r3), (8, .int y20_l8), (9, .int r14), (10, .int y87_l10), (11, .int y115_l11), (12, .int y115_l12), (13, .int y115_l13), (14, .int y115_l14)] → 9 - y115_l14.toInt < ((k115 : Nat) : Int) → W p l e rm_X7_tryOffers_0 s m [.ref (ad 18), .int 0, .int z2, .long z3, .int z4].toArray below meth c H locs 0 0 (MQ below (va_Qv (po_X7_tryOffers_0 g ad th L f z2 z3 z4) (PstB g A) A) [.ref (ad 18), .int 0, .int z2, .long z3, .int z4].toArray s rm_X7_tryOffers_0.cells rm_X7_tryOffers_0.slots A) (F0 m 115 ls []) := by
                  intro k115
                  induction k115 with
                  | zero =>
                    intro y115_l11 y115_l12 y115_l13 y115_l14 H locs ls hy115_l11 hy115_l12 hy115_l13 hy115_l14 hP hD hS hl hmz115
                    exact ms0 hy115_l14 hmz115
                  | succ k115 ih115 =>
                    intro y115_l11 y115_l12 y115_l13 y115_l14 H locs ls hy115_l11 hy115_l12 hy115_l13 hy115_l14 hP hD hS hl hmz115
                    refine lv_iload hx hb dX7_tryOffers_115 (lv_at hl 13 rfl) ?_
                    refine lv_aload_n hx hb dX7_tryOffers_117 rfl (lv_at hl 0 rfl) ?_
                    refine pl_get (v := .int v10_24) hx hb hts (fun w h => mT (inX7 w h)) hown hG.1 hP (hst.1 18 (by decide)) hf25 rfl 10 (by decide) (hts _ (mT wg_442)) (fun _ h => h) rfl dX7_tryOffers_118 ?_
                    refine lv_icmp_ge (tgt := 194) hx hb dX7_tryOffers_121 (by decide) (fun c36 => ?_) (fun c36 => ?_)
                    ·
                      have cc37 : v10_24.toInt ≤ y115_l14.toInt := i32_le.mp c36
                      refine lv_aload_n hx hb dX7_tryOffers_194 rfl (lv_at hl 0 rfl) ?_
                      refine lv_iload_n hx hb dX7_tryOffers_195 rfl (lv_at hl 1 rfl) ?_
                      refine lv_iload_n hx hb dX7_tryOffers_196 rfl (lv_at hl 2 rfl) ?_
                      refine lv_lload_n hx hb dX7_tryOffers_197 rfl (lv_at hl 3 rfl) ?_
                      refine lv_iload hx hb dX7_tryOffers_198 (lv_at hl 10 rfl) ?_
                      refine lv_iload hx hb dX7_tryOffers_200 (lv_at hl 12 rfl) ?_
                      refine call_v (run_V (rm := rm_X7_tryViews_0) hx hb hml hown hts (s_X7_tryViews_0 l g ad th _ _ _ z2 z3 y115_l11 y115_l13 hst hT hz2) cV_X7_tryViews wg_1081 ⟨Nat.le_of_ble_eq_true rfl, Nat.le_of_ble_eq_true rfl⟩ hG hE hA hP hD hS (hst.1 18 (by decide)) hf25 rfl rfl hl.1 (As := [.int 0, .int z2, .long z3, .int y115_l11, .int y115_l13]) (rest := []) rfl (Nat.le_of_ble_eq_true rfl) dX7_tryOffers_202 ⟨Nat.le_of_ble_eq_true rfl, Nat.le_of_ble_eq_true rfl⟩) hA hD hS (fun L39 f40 H locs hp41 hP hD hS => ?_)
                      obtain ⟨eL42L, eL42T, eL42F⟩ := hp41
                      have eL42L : L39 = L := eL42L
                      rw [eL42L] at hP hD
                      have hT : TI g ad th f40 := eL42T
                      have eL42F : ∀ b, b ≠ (ad 18) → b ≠ (ad 21) → b ≠ (ad 22) → b ≠ (ad 23) → f40 b = f_87 b := eL42F
                      have hfr : (∀ b, b ≠ (ad 18) → b ≠ (ad 21) → b ≠ (ad 22) → b ≠ (ad 23) → f40 b = f b) := fun b z0_ z1_ z2_ z3_ => (eL42F b z0_ z1_ z2_ z3_).trans (hfr b z0_ z1_ z2_ z3_)
                      obtain ⟨x43, ex43⟩ : ∃ y : Int32, y = y87_l10 + 1 := ⟨_, rfl⟩
                      have hb44 : In x43 1 2147483647 := ex43 ▸ In.add hb22 (⟨by decide, by decide⟩ : In 1 1 1) (by decide) (by decide) (by decide) (by decide)
                      have et45 : x43.toInt = y87_l10.toInt + 1 := In.adde ex43 hb22 (k := 1) (by decide) (by decide) (by decide)
                      refine lv_iinc (v := x43) (lv' := [(10, .int x43), (0, .ref (ad 18)), (1, .int 0), (2, .int z2), (3, .long z3), (5, .int z4), (6, .int 0), (7, .int r3), (8, .int y20_l8), (9, .int r14), (11, .int y115_l11), (12, .int y115_l12), (13, .int y115_l13), (14, .int y115_l14)]) hx hb dX7_tryOffers_205 hl (k := 9) rfl (by rw [ex43]; rfl) (by decide) rfl (fun ls hl => ?_)
                      refine lv_goto (tgt := 87) hx hb dX7_tryOffers_208 (by decide) ?_
                      exact ih87 x43 _ _ _ _ (In.mono hb44 (by decide) (by decide)) hP hD hS hT hfr (lv_sub hl [1, 2, 3, 4, 5, 6, 7, 8, 9, 0] rfl) (msu et45 (by decide) hmz87)
                    ·
                      have cc46 : y115_l14.toInt < v10_24.toInt := i32_nle c36
                      have hb47 : In y115_l14 0 8 := In.lt1 hy115_l14 hv10_24 cc46 (by omega) (by omega)
                      have hb48 : In v10_24 1 9 := In.lt2 hy115_l14 hv10_24 cc46 (by omega) (by omega)
                      refine lv_iload hx hb dX7_tryOffers_124 (lv_at hl 5 rfl) ?_
                      refine lv_iload hx hb dX7_tryOffers_126 (lv_at hl 11 rfl) ?_
                      refine lv_iload hx hb dX7_tryOffers_128 (lv_at hl 7 rfl) ?_
                      have hb49 : In y20_l8 1 9 := In.mk (by obtain ⟨o0a, o0b⟩ := (hy20_l8 : In _ _ _); obtain ⟨o1a, o1b⟩ := (hb13 : In _ _ _); obtain ⟨o2a, o2b⟩ := (hv11_9 : In _ _ _); omega) (by obtain ⟨o0a, o0b⟩ := (hy20_l8 : In _ _ _); obtain ⟨o1a, o1b⟩ := (hb13 : In _ _ _); obtain ⟨o2a, o2b⟩ := (hv11_9 : In _ _ _); omega)
                      refine lv_irem hx hb dX7_tryOffers_130 (In.ne0 hb49 (by decide)) ?_
                      refine lv_topi (fun x50 ex50 => ?_)
                      have hb51 : In x50 0 8 := ex50 ▸ In.rem hy115_l12 hb49 (by decide) (by decide) (by decide)
                      refine lv_iadd hx hb dX7_tryOffers_131 ?_
                      refine lv_topi (fun x52 ex52 => ?_)
                      have hb53 : In x52 0 8 := ex52 ▸ In.add (⟨by decide, by decide⟩ : In 0 0 0) hb51 (by decide) (by decide) (by decide) (by decide)
                      have et54 : x52.toInt = (0 : Int32).toInt + x50.toInt := In.add2e ex52 (⟨by decide, by decide⟩ : In 0 0 0) hb51 (by decide) (by decide)
                      refine lv_istore (lv' := [(15, .int x52), (0, .ref (ad 18)), (1, .int 0), (2, .int z2), (3, .long z3), (5, .int z4), (6, .int 0), (7, .int r3), (8, .int y20_l8), (9, .int r14), (10, .int y87_l10), (11, .int y115_l11), (12, .int y115_l12), (13, .int y115_l13), (14, .int y115_l14)]) hx hb dX7_tryOffers_132 hl (by decide) rfl (fun ls hl => ?_)
                      refine lv_iload hx hb dX7_tryOffers_134 (lv_at hl 12 rfl) ?_
                      refine lv_iload hx hb dX7_tryOffers_136 (lv_at hl 8 rfl) ?_
                      refine lv_idiv hx hb dX7_tryOffers_138 (In.ne0 hb49 (by decide)) ?_
                      refine lv_topi (fun x55 ex55 => ?_)
                      have hb56 : In x55 0 2147483647 := ex55 ▸ In.div hy115_l12 hb49 (by decide) (by decide) (by decide) (by decide)
                      refine lv_istore (lv' := [(12, .int x55), (15, .int x52), (0, .ref (ad 18)), (1, .int 0), (2, .int z2), (3, .long z3), (5, .int z4), (6, .int 0), (7, .int r3), (8, .int y20_l8), (9, .int r14), (10, .int y87_l10), (11, .int y115_l11), (13, .int y115_l13), (14, .int y115_l14)]) hx hb dX7_tryOffers_139 hl (by decide) rfl (fun ls hl => ?_)
                      refine lv_iload hx hb dX7_tryOffers_141 (lv_at hl 12 rfl) ?_
                      refine lv_aload_n hx hb dX7_tryOffers_143 rfl (lv_at hl 2 rfl) ?_
                      refine pl_get (v := .ref (ad 21)) hx hb hts (fun w h => mT (inX7 w h)) hown hG.1 hP (hst.1 18 (by decide)) hf25 rfl 3 (by decide) (hts _ (mT wg_435)) (fun _ h => h) rfl dX7_tryOffers_144 ?_
                      refine lv_iload hx hb dX7_tryOffers_147 (lv_at hl 1 rfl) ?_
                      obtain ⟨rw57, hf58⟩ := hT.1 21 (by decide)
                      have hin59 : vp_in x52 108 := In.inb hb53 (by decide) (by decide)
                      refine pl_iald hx hb hG.1 hP (hst.1 21 (by decide)) 0 hf58 rfl hin59 dX7_tryOffers_149 ?_
                      refine lv_topi (fun x60 ex60 => ?_)
                      refine lv_aload_n hx hb dX7_tryOffers_150 rfl (lv_at hl 2 rfl) ?_
                      refine pl_get (v := .ref (ad 19)) hx hb hts (fun w h => mT (inX7 w h)) hown hG.1 hP (hst.1 18 (by decide)) hf25 rfl 1 (by decide) (hts _ (mT wg_433)) (fun _ h => h) rfl dX7_tryOffers_151 ?_
                      refine lv_iload hx hb dX7_tryOffers_154 (lv_at hl 14 rfl) ?_
                      obtain ⟨rw61, hf62, hc63⟩ := hT.1 19 (by decide)
                      have hin64 : vp_in y115_l14 9 := In.inb hb47 (by decide) (by decide)
                      refine pl_iald hx hb hG.1 hP (hst.1 19 (by decide)) 0 hf62 rfl hin64 dX7_tryOffers_156 ?_
                      refine lv_topi (fun x65 ex65 => ?_)
                      have hb66 : In x65 0 8 := by rw [ex65]; exact hc63 _ (vp_nat hin64)
                      refine call_i (run_S (rm := rm_X7_wordOf) hx hb hml hown hts (s_X7_wordOf l g ad th _ _ _ x60 x65 hst hT ) cS_X7_wordOf wg_1074 ⟨Nat.le_of_ble_eq_true rfl, Nat.le_of_ble_eq_true rfl⟩ hG hE hA hP hD hS rfl hl.1 (As := [.int x60, .int x65]) (rest := [.int y115_l11]) rfl (Nat.le_of_ble_eq_true rfl) dX7_tryOffers_157 ⟨Nat.le_of_ble_eq_true rfl, Nat.le_of_ble_eq_true rfl⟩) hA hD hS (fun r67 L68 f69 H locs hp70 hP hD hS => ?_)
                      obtain ⟨eL71L, eL71T⟩ := hp70
                      have eL71L : L68 = L := eL71L
                      have eL71T : f69 = f_87 := eL71T
                      rw [eL71L, eL71T] at hP hD
                      refine lv_ior hx hb dX7_tryOffers_160 ?_
                      refine lv_topi (fun x72 ex72 => ?_)
                      refine lv_istore (lv' := [(11, .int x72), (12, .int x55), (15, .int x52), (0, .ref (ad 18)), (1, .int 0), (2, .int z2), (3, .long z3), (5, .int z4), (6, .int 0), (7, .int r3), (8, .int y20_l8), (9, .int r14), (10, .int y87_l10), (13, .int y115_l13), (14, .int y115_l14)]) hx hb dX7_tryOffers_161 hl (by decide) rfl (fun ls hl => ?_)
                      refine lv_iload hx hb dX7_tryOffers_163 (lv_at hl 13 rfl) ?_
                      refine lv_aload_n hx hb dX7_tryOffers_165 rfl (lv_at hl 3 rfl) ?_
                      refine lv_aload_n hx hb dX7_tryOffers_166 rfl (lv_at hl 3 rfl) ?_
                      refine pl_get (v := .ref (ad 22)) hx hb hts (fun w h => mT (inX7 w h)) hown hG.1 hP (hst.1 18 (by decide)) hf25 rfl 4 (by decide) (hts _ (mT wg_436)) (fun _ h => h) rfl dX7_tryOffers_167 ?_
                      refine lv_iload hx hb dX7_tryOffers_170 (lv_at hl 2 rfl) ?_
                      obtain ⟨rw73, hf74⟩ := hT.1 22 (by decide)
                      have hin75 : vp_in x52 108 := In.inb hb53 (by decide) (by decide)
                      refine pl_iald hx hb hG.1 hP (hst.1 22 (by decide)) 0 hf74 rfl hin75 dX7_tryOffers_172 ?_
                      refine lv_topi (fun x76 ex76 => ?_)
                      refine lv_aload_n hx hb dX7_tryOffers_173 rfl (lv_at hl 3 rfl) ?_
                      refine pl_get (v := .ref (ad 20)) hx hb hts (fun w h => mT (inX7 w h)) hown hG.1 hP (hst.1 18 (by decide)) hf25 rfl 2 (by decide) (hts _ (mT wg_434)) (fun _ h => h) rfl dX7_tryOffers_174 ?_
                      refine lv_iload_n hx hb dX7_tryOffers_177 rfl (lv_at hl 4 rfl) ?_
                      obtain ⟨rw77, hf78⟩ := hT.1 20 (by decide)
                      have hin79 : vp_in 0 7 := In.inb (⟨by decide, by decide⟩ : In 0 0 0) (by decide) (by decide)
                      refine pl_iald hx hb hG.1 hP (hst.1 20 (by decide)) 0 hf78 rfl hin79 dX7_tryOffers_178 ?_
                      refine lv_topi (fun x80 ex80 => ?_)
                      refine lv_iload hx hb dX7_tryOffers_179 (lv_at hl 14 rfl) ?_
                      refine lv_iadd hx hb dX7_tryOffers_181 ?_
                      refine lv_topi (fun x81 ex81 => ?_)
                      refine call_i (run_V (rm := rm_X7_bitsOf) hx hb hml hown hts (s_X7_bitsOf l g ad th _ _ _ x76 x81 hst hT ) cV_X7_bitsOf wg_1077 ⟨Nat.le_of_ble_eq_true rfl, Nat.le_of_ble_eq_true rfl⟩ hG hE hA hP hD hS (hst.1 18 (by decide)) hf25 rfl rfl hl.1 (As := [.int x76, .int x81]) (rest := [.int y115_l13]) rfl (Nat.le_of_ble_eq_true rfl) dX7_tryOffers_182 ⟨Nat.le_of_ble_eq_true rfl, Nat.le_of_ble_eq_true rfl⟩) hA hD hS (fun r82 L83 f84 H locs hp85 hP hD hS => ?_)
                      obtain ⟨eL86L, eL86T⟩ := hp85
                      have eL86L : L83 = L := eL86L
                      have eL86T : f84 = f_87 := eL86T
                      rw [eL86L, eL86T] at hP hD
                      refine lv_ior hx hb dX7_tryOffers_185 ?_
                      refine lv_topi (fun x87 ex87 => ?_)
                      refine lv_istore (lv' := [(13, .int x87), (11, .int x72), (12, .int x55), (15, .int x52), (0, .ref (ad 18)), (1, .int 0), (2, .int z2), (3, .long z3), (5, .int z4), (6, .int 0), (7, .int r3), (8, .int y20_l8), (9, .int r14), (10, .int y87_l10), (14, .int y115_l14)]) hx hb dX7_tryOffers_186 hl (by decide) rfl (fun ls hl => ?_)
                      obtain ⟨x88, ex88⟩ : ∃ y : Int32, y = y115_l14 + 1 := ⟨_, rfl⟩
                      have hb89 : In x88 1 9 := ex88 ▸ In.add hb47 (⟨by decide, by decide⟩ : In 1 1 1) (by decide) (by decide) (by decide) (by decide)
                      have et90 : x88.toInt = y115_l14.toInt + 1 := In.adde ex88 hb47 (k := 1) (by decide) (by decide) (by decide)
                      refine lv_iinc (v := x88) (lv' := [(14, .int x88), (13, .int x87), (11, .int x72), (12, .int x55), (15, .int x52), (0, .ref (ad 18)), (1, .int 0), (2, .int z2), (3, .long z3), (5, .int z4), (6, .int 0), (7, .int r3), (8, .int y20_l8), (9, .int r14), (10, .int y87_l10)]) hx hb dX7_tryOffers_188 hl (k := 14) rfl (by rw [ex88]; rfl) (by decide) rfl (fun ls hl => ?_)
                      refine lv_goto (tgt := 115) hx hb dX7_tryOffers_191 (by decide) ?_
                      exact ih115 x72 x55 x87 x88 _ _ _ (In.full x72) hb56 (In.full x87) (In.mono hb89 (by decide) (by decide)) hP hD hS (lv_sub hl [5, 6, 7, 8, 9, 10, 11, 12, 13, 14, 2, 3, 1, 0] rfl) (msu et90 (by decide) hmz115)
                exact hJ115 ((9 - (0 : Int32).toInt).toNat + 1) 0 y87_l10 z4 0 _ _ _ (⟨by decide, by decide⟩ : In 0 (-2147483648) 2147483647) (In.mono hb22 (by decide) (by decide)) (In.full z4) (⟨by decide, by decide⟩ : In 0 0 9) hP hD hS (lv_sub hl [4, 5, 6, 7, 8, 9, 10, 11, 12, 13, 3, 2, 1, 0] rfl) (msI _)
        exact hJ87 ((2147483647 - (0 : Int32).toInt).toNat + 1) 0 _ _ _ _ (⟨by decide, by decide⟩ : In 0 0 2147483647) hP hD hS hT hfr (lv_sub hl [2, 3, 4, 5, 6, 7, 8, 9, 1, 0] rfl) (msI _)
      ·
        have cc91 : y20_l9.toInt ≤ v11_9.toInt := i32_nlt c11
        have hb92 : In y20_l9 0 8 := In.le1 hy20_l9 hv11_9 cc91 (by omega) (by omega)
        refine lv_aload_n hx hb dX7_tryOffers_29 rfl (lv_at hl 0 rfl) ?_
        refine pl_get (v := .ref (ad 8)) hx hb hts (fun w h => mT (inX7 w h)) hown hG.1 hP (hst.1 18 (by decide)) hf10 rfl 0 (by decide) (hts _ (mT wg_432)) (fun _ h => h) rfl dX7_tryOffers_30 ?_
        refine lv_aload_n hx hb dX7_tryOffers_33 rfl (lv_at hl 0 rfl) ?_
        refine pl_get (v := .ref (ad 8)) hx hb hts (fun w h => mT (inX7 w h)) hown hG.1 hP (hst.1 18 (by decide)) hf10 rfl 0 (by decide) (hts _ (mT wg_432)) (fun _ h => h) rfl dX7_tryOffers_34 ?_
        obtain ⟨v0_93, v1_93, v2_93, v3_93, v4_93, v5_93, v6_93, v7_93, hf94, hv0_93, hv1_93, hv2_93, hv3_93, hv5_93, hv6_93⟩ := hT.1 8 (by decide)
        refine pl_getN (v := .int v1_93) hx hb hts (fun w h => mT (inX2 w h)) hown hG.1 hP (hst.1 8 (by decide)) hf94 rfl 1 (by decide) (hG.2.1 _ wn_229) (fun _ h => h) rfl dX7_tryOffers_37 ?_
        refine lv_iload hx hb dX7_tryOffers_40 (lv_at hl 6 rfl) ?_
        refine lv_isub hx hb dX7_tryOffers_42 ?_
        refine lv_topi (fun x95 ex95 => ?_)
        have hb96 : In x95 (-9) 9 := ex95 ▸ In.sub hv1_93 hb8 (by decide) (by decide) (by decide) (by decide)
        have et97 : x95.toInt = v1_93.toInt - r3.toInt := In.sub2e ex95 hv1_93 hb8 (by decide) (by decide)
        refine lv_iload hx hb dX7_tryOffers_43 (lv_at hl 8 rfl) ?_
        refine lv_isub hx hb dX7_tryOffers_45 ?_
        refine lv_topi (fun x98 ex98 => ?_)
        have hb99 : In x98 (-17) 9 := ex98 ▸ In.sub hb96 hb92 (by decide) (by decide) (by decide) (by decide)
        have et100 : x98.toInt = x95.toInt - y20_l9.toInt := In.sub2e ex98 hb96 hb92 (by decide) (by decide)
        refine lv_iload hx hb dX7_tryOffers_46 (lv_at hl 6 rfl) ?_
        refine lv_iload hx hb dX7_tryOffers_48 (lv_at hl 8 rfl) ?_
        refine lv_iadd hx hb dX7_tryOffers_50 ?_
        refine lv_topi (fun x101 ex101 => ?_)
        have hb102 : In x101 0 17 := ex101 ▸ In.add hb8 hb92 (by decide) (by decide) (by decide) (by decide)
        have et103 : x101.toInt = r3.toInt + y20_l9.toInt := In.add2e ex101 hb8 hb92 (by decide) (by decide)
        refine call_i (run_VN (rm := rm_X2_offer_ru) hx hb hml hown hts (s_X2_offer_ru l g ad th _ _ _ x98 x101 hst hT ) cV_X2_offer wn_1061 ⟨Nat.le_of_ble_eq_true rfl, Nat.le_of_ble_eq_true rfl⟩ hG hE hA hP hD hS (hst.1 8 (by decide)) hf94 rfl rfl hl.1 (As := [.int x98, .int x101]) (rest := []) rfl (Nat.le_of_ble_eq_true rfl) dX7_tryOffers_51 ⟨Nat.le_of_ble_eq_true rfl, Nat.le_of_ble_eq_true rfl⟩) hA hD hS (fun r104 L105 f106 H locs hp107 hP hD hS => ?_)
        obtain ⟨eL108L, eL108T, eL108R⟩ := hp107
        have eL108L : L105 = L := eL108L
        have eL108T : f106 = f_20 := eL108T
        rw [eL108L, eL108T] at hP hD
        have eL108R : In r104 0 2 := eL108R
        refine lv_istore (lv' := [(10, .int r104), (0, .ref (ad 18)), (1, .int 0), (2, .int z2), (3, .long z3), (5, .int z4), (6, .int 0), (7, .int r3), (8, .int y20_l8), (9, .int y20_l9)]) hx hb dX7_tryOffers_54 hl (by decide) rfl (fun ls hl => ?_)
        refine lv_aload_n hx hb dX7_tryOffers_56 rfl (lv_at hl 1 rfl) ?_
        refine lv_iload hx hb dX7_tryOffers_57 (lv_at hl 6 rfl) ?_
        refine lv_iload hx hb dX7_tryOffers_59 (lv_at hl 8 rfl) ?_
        refine lv_iload hx hb dX7_tryOffers_61 (lv_at hl 0 rfl) ?_
        refine lv_iload hx hb dX7_tryOffers_63 (lv_at hl 9 rfl) ?_
        refine call_i (run_V (rm := rm_X7_addChoice) hx hb hml hown hts (s_X7_addChoice l g ad th _ _ _ 0 y20_l8 r104 y20_l9 hst hT (⟨by decide, by decide⟩ : In 0 0 99) (In.mk (by obtain ⟨o0a, o0b⟩ := (hy20_l8 : In _ _ _); obtain ⟨o1a, o1b⟩ := (hb92 : In _ _ _); obtain ⟨o2a, o2b⟩ := (hv11_9 : In _ _ _); omega) (by obtain ⟨o0a, o0b⟩ := (hy20_l8 : In _ _ _); obtain ⟨o1a, o1b⟩ := (hb92 : In _ _ _); obtain ⟨o2a, o2b⟩ := (hv11_9 : In _ _ _); omega))) cV_X7_addChoice wg_1062 ⟨Nat.le_of_ble_eq_true rfl, Nat.le_of_ble_eq_true rfl⟩ hG hE hA hP hD hS (hst.1 18 (by decide)) hf10 rfl rfl hl.1 (As := [.int 0, .int y20_l8, .int r104, .int y20_l9]) (rest := []) rfl (Nat.le_of_ble_eq_true rfl) dX7_tryOffers_65 ⟨Nat.le_of_ble_eq_true rfl, Nat.le_of_ble_eq_true rfl⟩) hA hD hS (fun r109 L110 f111 H locs hp112 hP hD hS => ?_)
        obtain ⟨eL113L, eL113T, eL113F, eL113R, eL113X0⟩ := hp112
        have eL113L : L110 = L := eL113L
        rw [eL113L] at hP hD
        have hT : TI g ad th f111 := eL113T
        have eL113F : ∀ b, b ≠ (ad 21) → b ≠ (ad 22) → f111 b = f_20 b := eL113F
        have hf114 := (eL113F (ad 18) (hst.ne (by decide) (by decide) (by decide)) (hst.ne (by decide) (by decide) (by decide))).trans hf10
        have hf115 := (eL113F (ad 8) (hst.ne (by decide) (by decide) (by decide)) (hst.ne (by decide) (by decide) (by decide))).trans hf94
        have hfr : (∀ b, b ≠ (ad 18) → b ≠ (ad 21) → b ≠ (ad 22) → b ≠ (ad 23) → f111 b = f b) := fun b z0_ z1_ z2_ z3_ => (eL113F b z1_ z2_).trans (hfr b z0_ z1_ z2_ z3_)
        have eL113R : In r109 0 9 := eL113R
        have hac116 : r109.toInt ≤ y20_l8.toInt + 1 ∧ 1 ≤ r109.toInt := eL113X0
        refine lv_istore (lv' := [(8, .int r109), (10, .int r104), (0, .ref (ad 18)), (1, .int 0), (2, .int z2), (3, .long z3), (5, .int z4), (6, .int 0), (7, .int r3), (9, .int y20_l9)]) hx hb dX7_tryOffers_68 hl (by decide) rfl (fun ls hl => ?_)
        obtain ⟨x117, ex117⟩ : ∃ y : Int32, y = y20_l9 + 1 := ⟨_, rfl⟩
        have hb118 : In x117 1 9 := ex117 ▸ In.add hb92 (⟨by decide, by decide⟩ : In 1 1 1) (by decide) (by decide) (by decide) (by decide)
        have et119 : x117.toInt = y20_l9.toInt + 1 := In.adde ex117 hb92 (k := 1) (by decide) (by decide) (by decide)
        refine lv_iinc (v := x117) (lv' := [(9, .int x117), (8, .int r109), (10, .int r104), (0, .ref (ad 18)), (1, .int 0), (2, .int z2), (3, .long z3), (5, .int z4), (6, .int 0), (7, .int r3)]) hx hb dX7_tryOffers_70 hl (k := 9) rfl (by rw [ex117]; rfl) (by decide) rfl (fun ls hl => ?_)
        refine lv_goto (tgt := 20) hx hb dX7_tryOffers_73 (by decide) ?_
        exact ih20 r109 x117 _ _ _ _ eL113R (In.mono hb118 (by decide) (by decide)) hP hD hS hT hfr (by obtain ⟨o0a, o0b⟩ := (eL113R : In _ _ _); obtain ⟨o1a, o1b⟩ := (hb118 : In _ _ _); obtain ⟨o2a, o2b⟩ := (hy20_l8 : In _ _ _); obtain ⟨o3a, o3b⟩ := (hb92 : In _ _ _); obtain ⟨o4a, o4b⟩ := (hv11_9 : In _ _ _); omega) (lv_sub hl [3, 4, 5, 6, 7, 8, 9, 1, 0] rfl) (msu et119 (by decide) hmz20)
  exact hJ20 ((9 - (0 : Int32).toInt).toNat + 1) 0 0 _ _ _ _ (⟨by decide, by decide⟩ : In 0 0 9) (⟨by decide, by decide⟩ : In 0 0 9) hP hD hS hT hfr (by have oc0 : (0 : Int32).toInt = 0 := (by decide); omega) (lv_sub hl [4, 5, 6, 7, 8, 3, 2, 1, 0] rfl) (msI _)

abbrev rm_X7_explore_0 : Room := { frames := 25, cells := 0, slots := 0, locals := 868 }
abbrev po_X7_explore_0 (g : GG) (ad : Nat → Nat) (th : Nat → Int) (L : List Nat) (f : HP) (z2 : Int32) (z3 : Int64) (z4 : Int32) : (List Nat × HP) → Prop := fun u => u.1 = L ∧ TI g ad th u.2 ∧ (∀ b, b ≠ (ad 18) → b ≠ (ad 21) → b ≠ (ad 22) → b ≠ (ad 23) → u.2 b = f b)
set_option maxHeartbeats 4000000 in
set_option maxRecDepth 100000 in
theorem s_X7_explore_0 (l : Launch) (g : GG) (ad : Nat → Nat) (th : Nat → Int) (L : List Nat) (f : HP) (sz : Nat) (z2 : Int32) (z3 : Int64) (z4 : Int32) (hst : ST ad L) (hT : TI g ad th f) (hz2 : In z2 0 511) : MtV l g yX7_explore cX7_explore 8 rm_X7_explore_0 [.ref (ad 18), .int 0, .int z2, .long z3, .int z4] L f sz (po_X7_explore_0 g ad th L f z2 z3 z4) := by
  refine MtV.of (by decide +kernel) (Nat.le_of_ble_eq_true rfl) ?_
  intro p e s m below meth c A hEn hP hD hS ls hl
  obtain ⟨hx, hb, hr, hml, hown, hlocks, hts, hG, hA, hE, hnm⟩ := hEn
  have hown : s.vm.findClass "RulerWord$Search" = some m.cls := hown
  have hl : lv_has ls 8 [(0, .ref (ad 18)), (1, .int 0), (2, .int z2), (3, .long z3), (5, .int z4)] := hl
  have hfr : (∀ b, b ≠ (ad 18) → b ≠ (ad 21) → b ≠ (ad 22) → b ≠ (ad 23) → f b = f b) := fun b z0_ z1_ z2_ z3_ => rfl
  refine lv_iload_n hx hb dX7_explore_0 rfl (lv_at hl 1 rfl) ?_
  refine lv_aload_n hx hb dX7_explore_1 rfl (lv_at hl 0 rfl) ?_
  obtain ⟨v6_1, v7_1, v8_1, v9_1, v10_1, v11_1, v12_1, v13_1, hf2, hv8_1, hv9_1, hv10_1, hv11_1, hv13_1⟩ := hT.1 18 (by decide)
  refine pl_get (v := .int v7_1) hx hb hts (fun w h => mT (inX7 w h)) hown hG.1 hP (hst.1 18 (by decide)) hf2 rfl 7 (by decide) (hts _ (mT wg_439)) (fun _ h => h) rfl dX7_explore_2 ?_
  have hJ14 : ∀ (H : Heap) (locs : List Loc) (ls : Array Slot), va_P g.1 vwCl (va_pl L f) H → va_D A (va_pl L f) → va_S A s.heap H locs → lv_has ls 8 [(0, .ref (ad 18)), (1, .int 0), (2, .int z2), (3, .long z3), (5, .int z4)] → W p l e rm_X7_explore_0 s m [.ref (ad 18), .int 0, .int z2, .long z3, .int z4].toArray below meth c H locs 0 0 (MQ below (va_Qv (po_X7_explore_0 g ad th L f z2 z3 z4) (PstB g A) A) [.ref (ad 18), .int 0, .int z2, .long z3, .int z4].toArray s rm_X7_explore_0.cells rm_X7_explore_0.slots A) (F0 m 14 ls []) := by
    intro H locs ls hP hD hS hl
    refine lv_aload_n hx hb dX7_explore_14 rfl (lv_at hl 0 rfl) ?_
    refine lv_iload_n hx hb dX7_explore_15 rfl (lv_at hl 2 rfl) ?_
    refine lv_iload hx hb dX7_explore_16 (lv_at hl 4 rfl) ?_
    refine call_v (run_V (rm := rm_X7_judge) hx hb hml hown hts (s_X7_judge l g ad th _ _ _ z2 z4 hst hT hz2) cV_X7_judge wg_1053 ⟨Nat.le_of_ble_eq_true rfl, Nat.le_of_ble_eq_true rfl⟩ hG hE hA hP hD hS (hst.1 18 (by decide)) hf2 rfl rfl hl.1 (As := [.int z2, .int z4]) (rest := []) rfl (Nat.le_of_ble_eq_true rfl) dX7_explore_18 ⟨Nat.le_of_ble_eq_true rfl, Nat.le_of_ble_eq_true rfl⟩) hA hD hS (fun L4 f5 H locs hp6 hP hD hS => ?_)
    obtain ⟨eL7L, eL7T, eL7F⟩ := hp6
    have eL7L : L4 = L := eL7L
    rw [eL7L] at hP hD
    have hT : TI g ad th f5 := eL7T
    have eL7F : ∀ b, b ≠ (ad 18) → f5 b = f b := eL7F
    have hfr : (∀ b, b ≠ (ad 18) → b ≠ (ad 21) → b ≠ (ad 22) → b ≠ (ad 23) → f5 b = f b) := fun b z0_ z1_ z2_ z3_ => (eL7F b z0_).trans (hfr b z0_ z1_ z2_ z3_)
    exact ret_v hx hb hr hlocks hP hD hS (Nat.le_of_ble_eq_true rfl) (Nat.le_of_ble_eq_true rfl) (⟨rfl, hT, hfr⟩) dX7_explore_21
  refine lv_icmp_ge (tgt := 14) hx hb dX7_explore_5 (by decide) (fun c8 => ?_) (fun c8 => ?_)
  ·
    have cc9 : v7_1.toInt ≤ (0 : Int32).toInt := i32_le.mp c8
    have hb10 : In v7_1 (-2147483648) 0 := In.ge2 (⟨by decide, by decide⟩ : In 0 0 0) (In.full v7_1) cc9 (by omega) (by omega)
    exact hJ14 _ _ _ hP hD hS (lv_sub hl [0, 1, 2, 3, 4] rfl)
  ·
    have cc11 : (0 : Int32).toInt < v7_1.toInt := i32_nle c8
    have hb12 : In v7_1 1 2147483647 := In.lt2 (⟨by decide, by decide⟩ : In 0 0 0) (In.full v7_1) cc11 (by omega) (by omega)
    refine lv_iload_n hx hb dX7_explore_8 rfl (lv_at hl 1 rfl) ?_
    refine lv_bipush (v := 6) hx hb dX7_explore_9 (by decide) ?_
    refine lv_icmp_lt (tgt := 22) hx hb dX7_explore_11 (by decide) (fun c13 => ?_) (fun c13 => ?_)
    ·
      refine lv_iload_n hx hb dX7_explore_22 rfl (lv_at hl 1 rfl) ?_
      refine lv_bipush (v := 9) hx hb dX7_explore_23 (by decide) ?_
      refine lv_ishl hx hb dX7_explore_25 ?_
      refine lv_topi (fun x14 ex14 => ?_)
      obtain rfl : x14 = 0 := ex14.trans (by decide)
      refine lv_iload_n hx hb dX7_explore_26 rfl (lv_at hl 2 rfl) ?_
      refine lv_ior hx hb dX7_explore_27 ?_
      refine lv_topi (fun x15 ex15 => ?_)
      have hb16 : In x15 0 511 := ex15 ▸ In.or 9 (⟨by decide, by decide⟩ : In 0 0 0) hz2 (by decide) (by decide) (by decide) (by decide) (by decide)
      refine lv_istore (lv' := [(6, .int x15), (0, .ref (ad 18)), (1, .int 0), (2, .int z2), (3, .long z3), (5, .int z4)]) hx hb dX7_explore_28 hl (by decide) rfl (fun ls hl => ?_)
      refine lv_aload_n hx hb dX7_explore_30 rfl (lv_at hl 1 rfl) ?_
      refine pl_get (v := .ref (ad 23)) hx hb hts (fun w h => mT (inX7 w h)) hown hG.1 hP (hst.1 18 (by decide)) hf2 rfl 5 (by decide) (hts _ (mT wg_437)) (fun _ h => h) rfl dX7_explore_31 ?_
      refine lv_iload hx hb dX7_explore_34 (lv_at hl 0 rfl) ?_
      refine lv_bipush (v := 6) hx hb dX7_explore_36 (by decide) ?_
      refine lv_iushr hx hb dX7_explore_38 rfl ?_
      refine lv_topi (fun x17 ex17 => ?_)
      have hb18 : In x17 0 7 := ex17 ▸ In.ushr 6 hb16 (by decide) (by decide) (by decide) (by decide)
      obtain ⟨rw19, hf20⟩ := hT.1 23 (by decide)
      have hin21 : vp_in x17 48 := In.inb hb18 (by decide) (by decide)
      refine pl_lald hx hb hG.1 hP (hst.1 23 (by decide)) 1 hf20 rfl hin21 dX7_explore_39 ?_
      refine lv_topl (fun x22 ex22 => ?_)
      refine lv_iload hx hb dX7_explore_40 (lv_at hl 0 rfl) ?_
      refine lv_lushr hx hb dX7_explore_42 rfl ?_
      refine lv_topl (fun x23 ex23 => ?_)
      refine lv_lconst (v := 1) hx hb dX7_explore_43 (by decide) ?_
      refine lv_land hx hb dX7_explore_44 ?_
      refine lv_topl (fun x24 ex24 => ?_)
      refine lv_lconst (v := 1) hx hb dX7_explore_45 (by decide) ?_
      refine W.lcmp hx hb dX7_explore_46 ?_
      refine lv_topi (fun x25 ex25 => ?_)
      have hb26 : In x25 (-1) 1 := ex25 ▸ In.lcmp _ _
      refine lv_if_ne (tgt := 51) hx hb dX7_explore_47 (by decide) (fun c27 => ?_) (fun c27 => ?_)
      ·
        refine lv_aload_n hx hb dX7_explore_51 rfl (lv_at hl 1 rfl) ?_
        refine pl_get (v := .int v6_1) hx hb hts (fun w h => mT (inX7 w h)) hown hG.1 hP (hst.1 18 (by decide)) hf2 rfl 6 (by decide) (hts _ (mT wg_438)) (fun _ h => h) rfl dX7_explore_52 ?_
        refine lv_istore (lv' := [(7, .int v6_1), (6, .int x15), (0, .ref (ad 18)), (1, .int 0), (2, .int z2), (3, .long z3), (5, .int z4)]) hx hb dX7_explore_55 hl (by decide) rfl (fun ls hl => ?_)
        refine lv_aload_n hx hb dX7_explore_57 rfl (lv_at hl 2 rfl) ?_
        refine pl_get (v := .ref (ad 8)) hx hb hts (fun w h => mT (inX7 w h)) hown hG.1 hP (hst.1 18 (by decide)) hf2 rfl 0 (by decide) (hts _ (mT wg_432)) (fun _ h => h) rfl dX7_explore_58 ?_
        obtain ⟨v0_28, v1_28, v2_28, v3_28, v4_28, v5_28, v6_28, v7_28, hf29, hv0_28, hv1_28, hv2_28, hv3_28, hv5_28, hv6_28⟩ := hT.1 8 (by decide)
        refine pl_getN (v := .int v0_28) hx hb hts (fun w h => mT (inX2 w h)) hown hG.1 hP (hst.1 8 (by decide)) hf29 rfl 0 (by decide) (hG.2.1 _ wn_225) (fun _ h => h) rfl dX7_explore_61 ?_
        have hJ101 : ∀ (f_101 : HP) (H : Heap) (locs : List Loc) (ls : Array Slot), va_P g.1 vwCl (va_pl L f_101) H → va_D A (va_pl L f_101) → va_S A s.heap H locs → TI g ad th f_101 → (∀ b, b ≠ (ad 18) → b ≠ (ad 21) → b ≠ (ad 22) → b ≠ (ad 23) → f_101 b = f b) → f_101 (ad 8) = .inr (2, [.int v0_28, .int v1_28, .int v2_28, .int v3_28, .int v4_28, .int v5_28, .int v6_28, .int v7_28]) → lv_has ls 8 [(0, .ref (ad 18)), (1, .int 0), (2, .int z2), (3, .long z3), (5, .int z4), (6, .int x15), (7, .int v6_1)] → W p l e rm_X7_explore_0 s m [.ref (ad 18), .int 0, .int z2, .long z3, .int z4].toArray below meth c H locs 0 0 (MQ below (va_Qv (po_X7_explore_0 g ad th L f z2 z3 z4) (PstB g A) A) [.ref (ad 18), .int 0, .int z2, .long z3, .int z4].toArray s rm_X7_explore_0.cells rm_X7_explore_0.slots A) (F0 m 101 ls []) := by
          intro f_101 H locs ls hP hD hS hT hfr hf30 hl
          refine lv_aload_n hx hb dX7_explore_101 rfl (lv_at hl 0 rfl) ?_
          obtain ⟨v6_31, v7_31, v8_31, v9_31, v10_31, v11_31, v12_31, v13_31, hf32, hv8_31, hv9_31, hv10_31, hv11_31, hv13_31⟩ := hT.1 18 (by decide)
          refine pl_get (v := .int v6_31) hx hb hts (fun w h => mT (inX7 w h)) hown hG.1 hP (hst.1 18 (by decide)) hf32 rfl 6 (by decide) (hts _ (mT wg_438)) (fun _ h => h) rfl dX7_explore_102 ?_
          refine lv_iload hx hb dX7_explore_105 (lv_at hl 6 rfl) ?_
          refine lv_icmp_ne (tgt := 135) hx hb dX7_explore_107 (by decide) (fun c33 => ?_) (fun c33 => ?_)
          ·
            exact ret_v hx hb hr hlocks hP hD hS (Nat.le_of_ble_eq_true rfl) (Nat.le_of_ble_eq_true rfl) (⟨rfl, hT, hfr⟩) dX7_explore_135
          ·
            refine lv_aload_n hx hb dX7_explore_110 rfl (lv_at hl 0 rfl) ?_
            refine lv_iconst (v := 0) hx hb dX7_explore_111 (by decide) ?_
            refine call_i (run_V (rm := rm_X7_doesSuspicionCount) hx hb hml hown hts (s_X7_doesSuspicionCount l g ad th _ _ _ 0 hst hT (⟨by decide, by decide⟩ : In 0 0 6)) cV_X7_doesSuspicionCount wg_1094 ⟨Nat.le_of_ble_eq_true rfl, Nat.le_of_ble_eq_true rfl⟩ hG hE hA hP hD hS (hst.1 18 (by decide)) hf32 rfl rfl hl.1 (As := [.int 0]) (rest := []) rfl (Nat.le_of_ble_eq_true rfl) dX7_explore_112 ⟨Nat.le_of_ble_eq_true rfl, Nat.le_of_ble_eq_true rfl⟩) hA hD hS (fun r34 L35 f36 H locs hp37 hP hD hS => ?_)
            obtain ⟨eL38L, eL38T, eL38R⟩ := hp37
            have eL38L : L35 = L := eL38L
            have eL38T : f36 = f_101 := eL38T
            rw [eL38L, eL38T] at hP hD
            have eL38R : In r34 0 1 := eL38R
            refine lv_if_ne (tgt := 135) hx hb dX7_explore_115 (by decide) (fun c39 => ?_) (fun c39 => ?_)
            ·
              have cc40 : r34.toInt ≠ (0 : Int32).toInt := i32_ne c39
              have hb41 : In r34 1 1 := In.ne1 eL38R (⟨by decide, by decide⟩ : In 0 0 0) cc40 (by omega) (by omega)
              exact ret_v hx hb hr hlocks hP hD hS (Nat.le_of_ble_eq_true rfl) (Nat.le_of_ble_eq_true rfl) (⟨rfl, hT, hfr⟩) dX7_explore_135
            ·
              have cc42 : r34.toInt = (0 : Int32).toInt := congrArg Int32.toInt c39
              have hb43 : In r34 0 0 := In.eq1 eL38R (⟨by decide, by decide⟩ : In 0 0 0) cc42 (by omega) (by omega)
              refine lv_aload_n hx hb dX7_explore_118 rfl (lv_at hl 0 rfl) ?_
              refine pl_get (v := .ref (ad 23)) hx hb hts (fun w h => mT (inX7 w h)) hown hG.1 hP (hst.1 18 (by decide)) hf32 rfl 5 (by decide) (hts _ (mT wg_437)) (fun _ h => h) rfl dX7_explore_119 ?_
              refine lv_iload hx hb dX7_explore_122 (lv_at hl 5 rfl) ?_
              refine lv_bipush (v := 6) hx hb dX7_explore_124 (by decide) ?_
              refine lv_iushr hx hb dX7_explore_126 rfl ?_
              refine lv_topi (fun x44 ex44 => ?_)
              obtain rfl : x17 = x44 := ex17.trans ex44.symm
              refine lv_dup2_11 hx hb dX7_explore_127 rfl rfl ?_
              obtain ⟨rw45, hf46⟩ := hT.1 23 (by decide)
              have hin47 : vp_in x17 48 := In.inb hb18 (by decide) (by decide)
              refine pl_lald hx hb hG.1 hP (hst.1 23 (by decide)) 1 hf46 rfl hin47 dX7_explore_128 ?_
              refine lv_topl (fun x48 ex48 => ?_)
              refine lv_lconst (v := 1) hx hb dX7_explore_129 (by decide) ?_
              refine lv_iload hx hb dX7_explore_130 (lv_at hl 5 rfl) ?_
              refine lv_lshl hx hb dX7_explore_132 rfl ?_
              refine lv_topl (fun x49 ex49 => ?_)
              refine lv_lor hx hb dX7_explore_133 ?_
              refine lv_topl (fun x50 ex50 => ?_)
              refine pl_lastE hx hb hG.1 hP hD hS (hst.1 23 (by decide)) 1 hf46 rfl (In.inb hb18 (by decide) (by decide)) dX7_explore_134 (fun H locs f51 r54 er54 hf52 ho53 hP hD hS => ?_)
              have hf55 := (ho53 (ad 8) (hst.ne (by decide) (by decide) (by decide))).trans hf30
              have hf56 := (ho53 (ad 18) (hst.ne (by decide) (by decide) (by decide))).trans hf32
              have hfr : (∀ b, b ≠ (ad 18) → b ≠ (ad 21) → b ≠ (ad 22) → b ≠ (ad 23) → f51 b = f b) := fun b z0_ z1_ z2_ z3_ => (ho53 b z3_).trans (hfr b z0_ z1_ z2_ z3_)
              have hT := TI.updA hT hst (k := 23) (by decide) hf52 ho53 ⟨r54, rfl⟩
              exact ret_v hx hb hr hlocks hP hD hS (Nat.le_of_ble_eq_true rfl) (Nat.le_of_ble_eq_true rfl) (⟨rfl, hT, hfr⟩) dX7_explore_135
        refine lv_if_ne (tgt := 79) hx hb dX7_explore_64 (by decide) (fun c57 => ?_) (fun c57 => ?_)
        ·
          have cc58 : v0_28.toInt ≠ (0 : Int32).toInt := i32_ne c57
          have hb59 : In v0_28 1 1 := In.ne1 hv0_28 (⟨by decide, by decide⟩ : In 0 0 0) cc58 (by omega) (by omega)
          refine lv_aload_n hx hb dX7_explore_79 rfl (lv_at hl 2 rfl) ?_
          refine lv_iload_n hx hb dX7_explore_80 rfl (lv_at hl 3 rfl) ?_
          refine lv_iload_n hx hb dX7_explore_81 rfl (lv_at hl 4 rfl) ?_
          refine lv_lload_n hx hb dX7_explore_82 rfl (lv_at hl 5 rfl) ?_
          refine lv_aload_n hx hb dX7_explore_83 rfl (lv_at hl 2 rfl) ?_
          refine pl_get (v := .int v9_1) hx hb hts (fun w h => mT (inX7 w h)) hown hG.1 hP (hst.1 18 (by decide)) hf2 rfl 9 (by decide) (hts _ (mT wg_441)) (fun _ h => h) rfl dX7_explore_84 ?_
          refine lv_iload_n hx hb dX7_explore_87 rfl (lv_at hl 4 rfl) ?_
          refine lv_iconst (v := (-1)) hx hb dX7_explore_88 (by decide) ?_
          refine lv_ixor hx hb dX7_explore_89 ?_
          refine lv_topi (fun x60 ex60 => ?_)
          refine lv_iand hx hb dX7_explore_90 ?_
          refine lv_topi (fun x61 ex61 => ?_)
          have hb62 : In x61 0 511 := ex61 ▸ In.andl hv9_1 (by decide)
          refine lv_iload_n hx hb dX7_explore_91 rfl (lv_at hl 4 rfl) ?_
          refine lv_bipush (v := 9) hx hb dX7_explore_92 (by decide) ?_
          refine lv_ishl hx hb dX7_explore_94 ?_
          refine lv_topi (fun x63 ex63 => ?_)
          have hb64 : In x63 0 261632 := ex63 ▸ In.shl hz2 (⟨by decide, by decide⟩ : In 9 9 9) (by decide) (by decide) (by decide) (by decide) (by decide) (by decide)
          refine lv_ior hx hb dX7_explore_95 ?_
          refine lv_topi (fun x65 ex65 => ?_)
          have hb66 : In x65 0 262143 := ex65 ▸ In.or 18 hb62 hb64 (by decide) (by decide) (by decide) (by decide) (by decide)
          refine lv_iload hx hb dX7_explore_96 (lv_at hl 6 rfl) ?_
          refine call_v (run_V (rm := rm_X7_tryViews_0) hx hb hml hown hts (s_X7_tryViews_0 l g ad th _ _ _ z2 z3 x65 z4 hst hT hz2) cV_X7_tryViews wg_1081 ⟨Nat.le_of_ble_eq_true rfl, Nat.le_of_ble_eq_true rfl⟩ hG hE hA hP hD hS (hst.1 18 (by decide)) hf2 rfl rfl hl.1 (As := [.int 0, .int z2, .long z3, .int x65, .int z4]) (rest := []) rfl (Nat.le_of_ble_eq_true rfl) dX7_explore_98 ⟨Nat.le_of_ble_eq_true rfl, Nat.le_of_ble_eq_true rfl⟩) hA hD hS (fun L68 f69 H locs hp70 hP hD hS => ?_)
          obtain ⟨eL71L, eL71T, eL71F⟩ := hp70
          have eL71L : L68 = L := eL71L
          rw [eL71L] at hP hD
          have hT : TI g ad th f69 := eL71T
          have eL71F : ∀ b, b ≠ (ad 18) → b ≠ (ad 21) → b ≠ (ad 22) → b ≠ (ad 23) → f69 b = f b := eL71F
          have hf72 := (eL71F (ad 8) (hst.ne (by decide) (by decide) (by decide)) (hst.ne (by decide) (by decide) (by decide)) (hst.ne (by decide) (by decide) (by decide)) (hst.ne (by decide) (by decide) (by decide))).trans hf29
          have hfr : (∀ b, b ≠ (ad 18) → b ≠ (ad 21) → b ≠ (ad 22) → b ≠ (ad 23) → f69 b = f b) := fun b z0_ z1_ z2_ z3_ => (eL71F b z0_ z1_ z2_ z3_).trans (hfr b z0_ z1_ z2_ z3_)
          exact hJ101 _ _ _ _ hP hD hS hT hfr hf72 (lv_sub hl [2, 3, 4, 5, 6, 1, 0] rfl)
        ·
          have cc73 : v0_28.toInt = (0 : Int32).toInt := congrArg Int32.toInt c57
          have hb74 : In v0_28 0 0 := In.eq1 hv0_28 (⟨by decide, by decide⟩ : In 0 0 0) cc73 (by omega) (by omega)
          refine lv_aload_n hx hb dX7_explore_67 rfl (lv_at hl 2 rfl) ?_
          refine lv_iload_n hx hb dX7_explore_68 rfl (lv_at hl 3 rfl) ?_
          refine lv_iload_n hx hb dX7_explore_69 rfl (lv_at hl 4 rfl) ?_
          refine lv_lload_n hx hb dX7_explore_70 rfl (lv_at hl 5 rfl) ?_
          refine lv_iload hx hb dX7_explore_71 (lv_at hl 6 rfl) ?_
          refine call_v (run_V (rm := rm_X7_tryOffers_0) hx hb hml hown hts (s_X7_tryOffers_0 l g ad th _ _ _ z2 z3 z4 hst hT hz2) cV_X7_tryOffers wg_1057 ⟨Nat.le_of_ble_eq_true rfl, Nat.le_of_ble_eq_true rfl⟩ hG hE hA hP hD hS (hst.1 18 (by decide)) hf2 rfl rfl hl.1 (As := [.int 0, .int z2, .long z3, .int z4]) (rest := []) rfl (Nat.le_of_ble_eq_true rfl) dX7_explore_73 ⟨Nat.le_of_ble_eq_true rfl, Nat.le_of_ble_eq_true rfl⟩) hA hD hS (fun L76 f77 H locs hp78 hP hD hS => ?_)
          obtain ⟨eL79L, eL79T, eL79F⟩ := hp78
          have eL79L : L76 = L := eL79L
          rw [eL79L] at hP hD
          have hT : TI g ad th f77 := eL79T
          have eL79F : ∀ b, b ≠ (ad 18) → b ≠ (ad 21) → b ≠ (ad 22) → b ≠ (ad 23) → f77 b = f b := eL79F
          have hf80 := (eL79F (ad 8) (hst.ne (by decide) (by decide) (by decide)) (hst.ne (by decide) (by decide) (by decide)) (hst.ne (by decide) (by decide) (by decide)) (hst.ne (by decide) (by decide) (by decide))).trans hf29
          have hfr : (∀ b, b ≠ (ad 18) → b ≠ (ad 21) → b ≠ (ad 22) → b ≠ (ad 23) → f77 b = f b) := fun b z0_ z1_ z2_ z3_ => (eL79F b z0_ z1_ z2_ z3_).trans (hfr b z0_ z1_ z2_ z3_)
          refine lv_goto (tgt := 101) hx hb dX7_explore_76 (by decide) ?_
          exact hJ101 _ _ _ _ hP hD hS hT hfr hf80 (lv_sub hl [2, 3, 4, 5, 6, 1, 0] rfl)
      ·
        have cc81 : x25.toInt = (0 : Int32).toInt := congrArg Int32.toInt c27
        have hb82 : In x25 0 0 := In.eq1 hb26 (⟨by decide, by decide⟩ : In 0 0 0) cc81 (by omega) (by omega)
        exact ret_v hx hb hr hlocks hP hD hS (Nat.le_of_ble_eq_true rfl) (Nat.le_of_ble_eq_true rfl) (⟨rfl, hT, hfr⟩) dX7_explore_50
    ·
      have cc83 : (6 : Int32).toInt ≤ (0 : Int32).toInt := i32_nlt c13
      exact In.empty (lo := 6) (hi := 0) (In.ge1 (⟨by decide, by decide⟩ : In 0 0 0) (⟨by decide, by decide⟩ : In 6 6 6) cc83 (by omega) (by omega)) (by decide)

abbrev rm_X7_least : Room := { frames := 26, cells := 0, slots := 0, locals := 895 }
abbrev po_X7_least (g : GG) (ad : Nat → Nat) (th : Nat → Int) (L : List Nat) (f : HP) (z1 : Int32) : Int32 → (List Nat × HP) → Prop := fun r u => u.1 = L ∧ TI g ad th u.2 ∧ (∀ b, b ≠ (ad 18) → b ≠ (ad 21) → b ≠ (ad 22) → b ≠ (ad 23) → u.2 b = f b)
set_option maxHeartbeats 4000000 in
set_option maxRecDepth 100000 in
theorem s_X7_least (l : Launch) (g : GG) (ad : Nat → Nat) (th : Nat → Int) (L : List Nat) (f : HP) (sz : Nat) (z1 : Int32) (hst : ST ad L) (hT : TI g ad th f)  : MtI l g yX7_least cX7_least 2 (some .int) rm_X7_least [.ref (ad 18), .int z1] L f sz (po_X7_least g ad th L f z1) := by
  refine MtI.of (by decide +kernel) (Nat.le_of_ble_eq_true rfl) ?_
  intro p e s m below meth c A hEn hP hD hS ls hl
  obtain ⟨hx, hb, hr, hml, hown, hlocks, hts, hG, hA, hE, hnm⟩ := hEn
  have hown : s.vm.findClass "RulerWord$Search" = some m.cls := hown
  have hl : lv_has ls 2 [(0, .ref (ad 18)), (1, .int z1)] := hl
  have hfr : (∀ b, b ≠ (ad 18) → b ≠ (ad 21) → b ≠ (ad 22) → b ≠ (ad 23) → f b = f b) := fun b z0_ z1_ z2_ z3_ => rfl
  refine lv_aload_n hx hb dX7_least_0 rfl (lv_at hl 0 rfl) ?_
  refine lv_iconst (v := 0) hx hb dX7_least_1 (by decide) ?_
  obtain ⟨v6_1, v7_1, v8_1, v9_1, v10_1, v11_1, v12_1, v13_1, hf2, hv8_1, hv9_1, hv10_1, hv11_1, hv13_1⟩ := hT.1 18 (by decide)
  refine pl_put (ty := .boolean) (v := .int 0) (fs' := [.ref (ad 8), .ref (ad 19), .ref (ad 20), .ref (ad 21), .ref (ad 22), .ref (ad 23), .int v6_1, .int v7_1, .int v8_1, .int v9_1, .int v10_1, .int v11_1, .int v12_1, .int 0]) hx hb hts (fun w h => mT (inX7 w h)) tyX7 tyX7_ok nmX7 hown hG.1 hP hD hS (hst.1 18 (by decide)) hf2 rfl 13 (by decide) (hts _ (mT wg_445)) (fun _ h => h) rfl (by decide +kernel) (rfl) (rfl) (Nat.le_of_ble_eq_true rfl) rfl dX7_least_2 (fun H locs f3 hf4 ho5 hP hD hS => ?_)
  have hfr : (∀ b, b ≠ (ad 18) → b ≠ (ad 21) → b ≠ (ad 22) → b ≠ (ad 23) → f3 b = f b) := fun b z0_ z1_ z2_ z3_ => (ho5 b z0_).trans (hfr b z0_ z1_ z2_ z3_)
  refine lv_aload_n hx hb dX7_least_5 rfl (lv_at hl 0 rfl) ?_
  refine lv_iconst (v := (-1)) hx hb dX7_least_6 (by decide) ?_
  refine pl_put (ty := .int) (v := .int (-1)) (fs' := [.ref (ad 8), .ref (ad 19), .ref (ad 20), .ref (ad 21), .ref (ad 22), .ref (ad 23), .int v6_1, .int v7_1, .int v8_1, .int v9_1, .int v10_1, .int v11_1, .int (-1), .int 0]) hx hb hts (fun w h => mT (inX7 w h)) tyX7 tyX7_ok nmX7 hown hG.1 hP hD hS (hst.1 18 (by decide)) hf4 rfl 12 (by decide) (hts _ (mT wg_444)) (fun _ h => h) rfl (by decide +kernel) (rfl) (rfl) (Nat.le_of_ble_eq_true rfl) rfl dX7_least_7 (fun H locs f6 hf7 ho8 hP hD hS => ?_)
  have ho9 : ∀ b, b ≠ (ad 18) → f6 b = _ := fun b hb => (ho8 b hb).trans (ho5 b hb)
  have hfr : (∀ b, b ≠ (ad 18) → b ≠ (ad 21) → b ≠ (ad 22) → b ≠ (ad 23) → f6 b = f b) := fun b z0_ z1_ z2_ z3_ => (ho8 b z0_).trans (hfr b z0_ z1_ z2_ z3_)
  refine lv_aload_n hx hb dX7_least_10 rfl (lv_at hl 0 rfl) ?_
  refine lv_iconst (v := 0) hx hb dX7_least_11 (by decide) ?_
  refine lv_iload_n hx hb dX7_least_12 rfl (lv_at hl 1 rfl) ?_
  refine lv_aload_n hx hb dX7_least_13 rfl (lv_at hl 0 rfl) ?_
  refine pl_get (v := .int v9_1) hx hb hts (fun w h => mT (inX7 w h)) hown hG.1 hP (hst.1 18 (by decide)) hf7 rfl 9 (by decide) (hts _ (mT wg_441)) (fun _ h => h) rfl dX7_least_14 ?_
  refine lv_iand hx hb dX7_least_17 ?_
  refine lv_topi (fun x10 ex10 => ?_)
  have hb11 : In x10 0 511 := ex10 ▸ In.andr hv9_1 (by decide)
  refine lv_lconst (v := 0) hx hb dX7_least_18 (by decide) ?_
  refine lv_iconst (v := 0) hx hb dX7_least_19 (by decide) ?_
  have hT := TI.updA hT hst (k := 18) (by decide) hf7 ho9 ⟨v6_1, v7_1, v8_1, v9_1, v10_1, v11_1, (-1), 0, rfl, hv8_1, hv9_1, hv10_1, hv11_1, (⟨by decide, by decide⟩ : In 0 0 1)⟩
  refine call_v (run_V (rm := rm_X7_explore_0) hx hb hml hown hts (s_X7_explore_0 l g ad th _ _ _ x10 0 0 hst hT hb11) cV_X7_explore wg_1049 ⟨Nat.le_of_ble_eq_true rfl, Nat.le_of_ble_eq_true rfl⟩ hG hE hA hP hD hS (hst.1 18 (by decide)) hf7 rfl rfl hl.1 (As := [.int 0, .int x10, .long 0, .int 0]) (rest := []) rfl (Nat.le_of_ble_eq_true rfl) dX7_least_20 ⟨Nat.le_of_ble_eq_true rfl, Nat.le_of_ble_eq_true rfl⟩) hA hD hS (fun L13 f14 H locs hp15 hP hD hS => ?_)
  obtain ⟨eL16L, eL16T, eL16F⟩ := hp15
  have eL16L : L13 = L := eL16L
  rw [eL16L] at hP hD
  have hT : TI g ad th f14 := eL16T
  have eL16F : ∀ b, b ≠ (ad 18) → b ≠ (ad 21) → b ≠ (ad 22) → b ≠ (ad 23) → f14 b = f6 b := eL16F
  have hfr : (∀ b, b ≠ (ad 18) → b ≠ (ad 21) → b ≠ (ad 22) → b ≠ (ad 23) → f14 b = f b) := fun b z0_ z1_ z2_ z3_ => (eL16F b z0_ z1_ z2_ z3_).trans (hfr b z0_ z1_ z2_ z3_)
  refine lv_aload_n hx hb dX7_least_23 rfl (lv_at hl 0 rfl) ?_
  obtain ⟨v6_17, v7_17, v8_17, v9_17, v10_17, v11_17, v12_17, v13_17, hf18, hv8_17, hv9_17, hv10_17, hv11_17, hv13_17⟩ := hT.1 18 (by decide)
  refine pl_get (v := .int v12_17) hx hb hts (fun w h => mT (inX7 w h)) hown hG.1 hP (hst.1 18 (by decide)) hf18 rfl 12 (by decide) (hts _ (mT wg_444)) (fun _ h => h) rfl dX7_least_24 ?_
  exact ret_i (ty := .int) hx hb hr hlocks (rfl) hP hD hS (Nat.le_of_ble_eq_true rfl) (Nat.le_of_ble_eq_true rfl) (⟨rfl, hT, hfr⟩) dX7_least_27

abbrev rm_X7_isBroken : Room := { frames := 26, cells := 0, slots := 0, locals := 895 }
abbrev po_X7_isBroken (g : GG) (ad : Nat → Nat) (th : Nat → Int) (L : List Nat) (f : HP) (z1 : Int32) : Int32 → (List Nat × HP) → Prop := fun r u => u.1 = L ∧ TI g ad th u.2 ∧ (∀ b, b ≠ (ad 18) → b ≠ (ad 21) → b ≠ (ad 22) → b ≠ (ad 23) → u.2 b = f b) ∧ In r 0 1
set_option maxHeartbeats 4000000 in
set_option maxRecDepth 100000 in
theorem s_X7_isBroken (l : Launch) (g : GG) (ad : Nat → Nat) (th : Nat → Int) (L : List Nat) (f : HP) (sz : Nat) (z1 : Int32) (hst : ST ad L) (hT : TI g ad th f)  : MtI l g yX7_isBroken cX7_isBroken 2 (some .boolean) rm_X7_isBroken [.ref (ad 18), .int z1] L f sz (po_X7_isBroken g ad th L f z1) := by
  refine MtI.of (by decide +kernel) (Nat.le_of_ble_eq_true rfl) ?_
  intro p e s m below meth c A hEn hP hD hS ls hl
  obtain ⟨hx, hb, hr, hml, hown, hlocks, hts, hG, hA, hE, hnm⟩ := hEn
  have hown : s.vm.findClass "RulerWord$Search" = some m.cls := hown
  have hl : lv_has ls 2 [(0, .ref (ad 18)), (1, .int z1)] := hl
  have hfr : (∀ b, b ≠ (ad 18) → b ≠ (ad 21) → b ≠ (ad 22) → b ≠ (ad 23) → f b = f b) := fun b z0_ z1_ z2_ z3_ => rfl
  refine lv_aload_n hx hb dX7_isBroken_0 rfl (lv_at hl 0 rfl) ?_
  refine lv_iconst (v := 1) hx hb dX7_isBroken_1 (by decide) ?_
  obtain ⟨v6_1, v7_1, v8_1, v9_1, v10_1, v11_1, v12_1, v13_1, hf2, hv8_1, hv9_1, hv10_1, hv11_1, hv13_1⟩ := hT.1 18 (by decide)
  refine pl_put (ty := .boolean) (v := .int 1) (fs' := [.ref (ad 8), .ref (ad 19), .ref (ad 20), .ref (ad 21), .ref (ad 22), .ref (ad 23), .int v6_1, .int v7_1, .int v8_1, .int v9_1, .int v10_1, .int v11_1, .int v12_1, .int 1]) hx hb hts (fun w h => mT (inX7 w h)) tyX7 tyX7_ok nmX7 hown hG.1 hP hD hS (hst.1 18 (by decide)) hf2 rfl 13 (by decide) (hts _ (mT wg_445)) (fun _ h => h) rfl (by decide +kernel) (rfl) (rfl) (Nat.le_of_ble_eq_true rfl) rfl dX7_isBroken_2 (fun H locs f3 hf4 ho5 hP hD hS => ?_)
  have hfr : (∀ b, b ≠ (ad 18) → b ≠ (ad 21) → b ≠ (ad 22) → b ≠ (ad 23) → f3 b = f b) := fun b z0_ z1_ z2_ z3_ => (ho5 b z0_).trans (hfr b z0_ z1_ z2_ z3_)
  refine lv_aload_n hx hb dX7_isBroken_5 rfl (lv_at hl 0 rfl) ?_
  refine lv_iconst (v := (-1)) hx hb dX7_isBroken_6 (by decide) ?_
  refine pl_put (ty := .int) (v := .int (-1)) (fs' := [.ref (ad 8), .ref (ad 19), .ref (ad 20), .ref (ad 21), .ref (ad 22), .ref (ad 23), .int v6_1, .int v7_1, .int v8_1, .int v9_1, .int v10_1, .int v11_1, .int (-1), .int 1]) hx hb hts (fun w h => mT (inX7 w h)) tyX7 tyX7_ok nmX7 hown hG.1 hP hD hS (hst.1 18 (by decide)) hf4 rfl 12 (by decide) (hts _ (mT wg_444)) (fun _ h => h) rfl (by decide +kernel) (rfl) (rfl) (Nat.le_of_ble_eq_true rfl) rfl dX7_isBroken_7 (fun H locs f6 hf7 ho8 hP hD hS => ?_)
  have ho9 : ∀ b, b ≠ (ad 18) → f6 b = _ := fun b hb => (ho8 b hb).trans (ho5 b hb)
  have hfr : (∀ b, b ≠ (ad 18) → b ≠ (ad 21) → b ≠ (ad 22) → b ≠ (ad 23) → f6 b = f b) := fun b z0_ z1_ z2_ z3_ => (ho8 b z0_).trans (hfr b z0_ z1_ z2_ z3_)
  refine lv_aload_n hx hb dX7_isBroken_10 rfl (lv_at hl 0 rfl) ?_
  refine lv_iconst (v := 0) hx hb dX7_isBroken_11 (by decide) ?_
  refine lv_iload_n hx hb dX7_isBroken_12 rfl (lv_at hl 1 rfl) ?_
  refine lv_aload_n hx hb dX7_isBroken_13 rfl (lv_at hl 0 rfl) ?_
  refine pl_get (v := .int v9_1) hx hb hts (fun w h => mT (inX7 w h)) hown hG.1 hP (hst.1 18 (by decide)) hf7 rfl 9 (by decide) (hts _ (mT wg_441)) (fun _ h => h) rfl dX7_isBroken_14 ?_
  refine lv_iand hx hb dX7_isBroken_17 ?_
  refine lv_topi (fun x10 ex10 => ?_)
  have hb11 : In x10 0 511 := ex10 ▸ In.andr hv9_1 (by decide)
  refine lv_lconst (v := 0) hx hb dX7_isBroken_18 (by decide) ?_
  refine lv_iconst (v := 0) hx hb dX7_isBroken_19 (by decide) ?_
  have hT := TI.updA hT hst (k := 18) (by decide) hf7 ho9 ⟨v6_1, v7_1, v8_1, v9_1, v10_1, v11_1, (-1), 1, rfl, hv8_1, hv9_1, hv10_1, hv11_1, (⟨by decide, by decide⟩ : In 1 0 1)⟩
  refine call_v (run_V (rm := rm_X7_explore_0) hx hb hml hown hts (s_X7_explore_0 l g ad th _ _ _ x10 0 0 hst hT hb11) cV_X7_explore wg_1049 ⟨Nat.le_of_ble_eq_true rfl, Nat.le_of_ble_eq_true rfl⟩ hG hE hA hP hD hS (hst.1 18 (by decide)) hf7 rfl rfl hl.1 (As := [.int 0, .int x10, .long 0, .int 0]) (rest := []) rfl (Nat.le_of_ble_eq_true rfl) dX7_isBroken_20 ⟨Nat.le_of_ble_eq_true rfl, Nat.le_of_ble_eq_true rfl⟩) hA hD hS (fun L13 f14 H locs hp15 hP hD hS => ?_)
  obtain ⟨eL16L, eL16T, eL16F⟩ := hp15
  have eL16L : L13 = L := eL16L
  rw [eL16L] at hP hD
  have hT : TI g ad th f14 := eL16T
  have eL16F : ∀ b, b ≠ (ad 18) → b ≠ (ad 21) → b ≠ (ad 22) → b ≠ (ad 23) → f14 b = f6 b := eL16F
  have hfr : (∀ b, b ≠ (ad 18) → b ≠ (ad 21) → b ≠ (ad 22) → b ≠ (ad 23) → f14 b = f b) := fun b z0_ z1_ z2_ z3_ => (eL16F b z0_ z1_ z2_ z3_).trans (hfr b z0_ z1_ z2_ z3_)
  refine lv_aload_n hx hb dX7_isBroken_23 rfl (lv_at hl 0 rfl) ?_
  obtain ⟨v6_17, v7_17, v8_17, v9_17, v10_17, v11_17, v12_17, v13_17, hf18, hv8_17, hv9_17, hv10_17, hv11_17, hv13_17⟩ := hT.1 18 (by decide)
  refine pl_get (v := .int v12_17) hx hb hts (fun w h => mT (inX7 w h)) hown hG.1 hP (hst.1 18 (by decide)) hf18 rfl 12 (by decide) (hts _ (mT wg_444)) (fun _ h => h) rfl dX7_isBroken_24 ?_
  refine lv_iconst (v := (-1)) hx hb dX7_isBroken_27 (by decide) ?_
  refine lv_icmp_eq (tgt := 35) hx hb dX7_isBroken_28 (by decide) (fun c19 => ?_) (fun c19 => ?_)
  ·
    have cc20 : v12_17.toInt = ((-1) : Int32).toInt := congrArg Int32.toInt c19
    have hb21 : In v12_17 (-1) (-1) := In.eq1 (In.full v12_17) (⟨by decide, by decide⟩ : In (-1) (-1) (-1)) cc20 (by omega) (by omega)
    refine lv_iconst (v := 0) hx hb dX7_isBroken_35 (by decide) ?_
    exact ret_i (ty := .boolean) hx hb hr hlocks (rfl) hP hD hS (Nat.le_of_ble_eq_true rfl) (Nat.le_of_ble_eq_true rfl) (⟨rfl, hT, hfr, (⟨by decide, by decide⟩ : In 0 0 1)⟩) dX7_isBroken_36
  ·
    refine lv_iconst (v := 1) hx hb dX7_isBroken_31 (by decide) ?_
    refine lv_goto (tgt := 36) hx hb dX7_isBroken_32 (by decide) ?_
    exact ret_i (ty := .boolean) hx hb hr hlocks (rfl) hP hD hS (Nat.le_of_ble_eq_true rfl) (Nat.le_of_ble_eq_true rfl) (⟨rfl, hT, hfr, (⟨by decide, by decide⟩ : In 1 0 1)⟩) dX7_isBroken_36
