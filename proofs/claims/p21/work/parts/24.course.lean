abbrev rm_X3_copy : Room := { frames := 1, cells := 0, slots := 0, locals := 200 }
abbrev po_X3_copy (g : GG) (ad : Nat → Nat) (th : Nat → Int) (L : List Nat) (f : HP) (j i : Nat) : (List Nat × HP) → Prop := fun u => u.1 = L ∧ TI g ad (gset (gset th (200 + j) (th (200 + i))) (300 + j) (th (300 + i))) u.2 ∧ (∀ b, b ≠ (cr ad j 0) → b ≠ (cr ad j 1) → b ≠ (cr ad j 2) → b ≠ (cr ad j 3) → b ≠ (cr ad j 4) → b ≠ (cr ad j 5) → b ≠ (cr ad j 6) → b ≠ (cr ad j 7) → b ≠ (cr ad j 8) → b ≠ (cr ad j 9) → u.2 b = f b)
set_option maxHeartbeats 4000000 in
set_option maxRecDepth 100000 in
theorem s_X3_copy (l : Launch) (g : GG) (ad : Nat → Nat) (th : Nat → Int) (L : List Nat) (f : HP) (sz : Nat) (j i : Nat) (hst : ST ad L) (hT : TI g ad th f) (hj : j < 23) (hi : i < 23) (hji : j ≠ i) : MtV l g yX3_copy cX3_copy 2 rm_X3_copy [.ref (cr ad j 0), .ref (cr ad i 0)] L f sz (po_X3_copy g ad th L f j i) := by
  refine MtV.of (by decide +kernel) (Nat.le_of_ble_eq_true rfl) ?_
  intro p e s m below meth c A hEn hP hD hS ls hl
  obtain ⟨hx, hb, hr, hml, hown, hlocks, hts, hG, hA, hE, hnm⟩ := hEn
  have hown : s.vm.findClass "RulerWord$Course" = some m.cls := hown
  have hl : lv_has ls 2 [(0, .ref (cr ad j 0)), (1, .ref (cr ad i 0))] := hl
  have hfr : (∀ b, b ≠ (cr ad j 0) → b ≠ (cr ad j 1) → b ≠ (cr ad j 2) → b ≠ (cr ad j 3) → b ≠ (cr ad j 4) → b ≠ (cr ad j 5) → b ≠ (cr ad j 6) → b ≠ (cr ad j 7) → b ≠ (cr ad j 8) → b ≠ (cr ad j 9) → f b = f b) := fun b z0_ z1_ z2_ z3_ z4_ z5_ z6_ z7_ z8_ z9_ => rfl
  refine lv_aload_n hx hb dX3_copy_0 rfl (lv_at hl 0 rfl) ?_
  refine lv_aload_n hx hb dX3_copy_1 rfl (lv_at hl 1 rfl) ?_
  obtain ⟨v0_1, v1_1, v2_1, v3_1, v4_1, v5_1, v6_1, v7_1, v8_1, hf2, hv1_1, hg1_1, hv2_1, hg2_1, hv6_1⟩ := hT.2.1 i hi 0 (by decide)
  refine pl_get (v := .int v0_1) hx hb hts (fun w h => mT (inX3 w h)) hown hG.1 hP (hst.c hi (by decide)) hf2 rfl 0 (by decide) (hts _ (mT wg_335)) (fun _ h => h) rfl dX3_copy_2 ?_
  obtain ⟨v0_3, v1_3, v2_3, v3_3, v4_3, v5_3, v6_3, v7_3, v8_3, hf4, hv1_3, hg1_3, hv2_3, hg2_3, hv6_3⟩ := hT.2.1 j hj 0 (by decide)
  refine pl_put (ty := .int) (v := .int v0_1) (fs' := [.int v0_1, .int v1_3, .int v2_3, .int v3_3, .int v4_3, .int v5_3, .int v6_3, .long v7_3, .long v8_3, .ref (cr ad j 1), .ref (cr ad j 2), .ref (cr ad j 3), .ref (cr ad j 4), .ref (cr ad j 5), .ref (cr ad j 6), .ref (cr ad j 7), .ref (cr ad j 8), .ref (cr ad j 9)]) hx hb hts (fun w h => mT (inX3 w h)) tyX3 tyX3_ok nmX3 hown hG.1 hP hD hS (hst.c hj (by decide)) hf4 rfl 0 (by decide) (hts _ (mT wg_335)) (fun _ h => h) rfl (by decide +kernel) (rfl) (rfl) (Nat.le_of_ble_eq_true rfl) rfl dX3_copy_5 (fun H locs f5 hf6 ho7 hP hD hS => ?_)
  have hf8 := (ho7 (cr ad i 0) (hst.ne (by omega) (by omega) (by omega))).trans hf2
  have hfr : (∀ b, b ≠ (cr ad j 0) → b ≠ (cr ad j 1) → b ≠ (cr ad j 2) → b ≠ (cr ad j 3) → b ≠ (cr ad j 4) → b ≠ (cr ad j 5) → b ≠ (cr ad j 6) → b ≠ (cr ad j 7) → b ≠ (cr ad j 8) → b ≠ (cr ad j 9) → f5 b = f b) := fun b z0_ z1_ z2_ z3_ z4_ z5_ z6_ z7_ z8_ z9_ => (ho7 b z0_).trans (hfr b z0_ z1_ z2_ z3_ z4_ z5_ z6_ z7_ z8_ z9_)
  refine lv_aload_n hx hb dX3_copy_8 rfl (lv_at hl 0 rfl) ?_
  refine lv_aload_n hx hb dX3_copy_9 rfl (lv_at hl 1 rfl) ?_
  refine pl_get (v := .int v1_1) hx hb hts (fun w h => mT (inX3 w h)) hown hG.1 hP (hst.c hi (by decide)) hf8 rfl 1 (by decide) (hts _ (mT wg_338)) (fun _ h => h) rfl dX3_copy_10 ?_
  refine pl_put (ty := .int) (v := .int v1_1) (fs' := [.int v0_1, .int v1_1, .int v2_3, .int v3_3, .int v4_3, .int v5_3, .int v6_3, .long v7_3, .long v8_3, .ref (cr ad j 1), .ref (cr ad j 2), .ref (cr ad j 3), .ref (cr ad j 4), .ref (cr ad j 5), .ref (cr ad j 6), .ref (cr ad j 7), .ref (cr ad j 8), .ref (cr ad j 9)]) hx hb hts (fun w h => mT (inX3 w h)) tyX3 tyX3_ok nmX3 hown hG.1 hP hD hS (hst.c hj (by decide)) hf6 rfl 1 (by decide) (hts _ (mT wg_338)) (fun _ h => h) rfl (by decide +kernel) (rfl) (rfl) (Nat.le_of_ble_eq_true rfl) rfl dX3_copy_13 (fun H locs f9 hf10 ho11 hP hD hS => ?_)
  have hf12 := (ho11 (cr ad i 0) (hst.ne (by omega) (by omega) (by omega))).trans hf8
  have ho13 : ∀ b, b ≠ (cr ad j 0) → f9 b = _ := fun b hb => (ho11 b hb).trans (ho7 b hb)
  have hfr : (∀ b, b ≠ (cr ad j 0) → b ≠ (cr ad j 1) → b ≠ (cr ad j 2) → b ≠ (cr ad j 3) → b ≠ (cr ad j 4) → b ≠ (cr ad j 5) → b ≠ (cr ad j 6) → b ≠ (cr ad j 7) → b ≠ (cr ad j 8) → b ≠ (cr ad j 9) → f9 b = f b) := fun b z0_ z1_ z2_ z3_ z4_ z5_ z6_ z7_ z8_ z9_ => (ho11 b z0_).trans (hfr b z0_ z1_ z2_ z3_ z4_ z5_ z6_ z7_ z8_ z9_)
  refine lv_aload_n hx hb dX3_copy_16 rfl (lv_at hl 0 rfl) ?_
  refine lv_aload_n hx hb dX3_copy_17 rfl (lv_at hl 1 rfl) ?_
  refine pl_get (v := .int v2_1) hx hb hts (fun w h => mT (inX3 w h)) hown hG.1 hP (hst.c hi (by decide)) hf12 rfl 2 (by decide) (hts _ (mT wg_340)) (fun _ h => h) rfl dX3_copy_18 ?_
  refine pl_put (ty := .int) (v := .int v2_1) (fs' := [.int v0_1, .int v1_1, .int v2_1, .int v3_3, .int v4_3, .int v5_3, .int v6_3, .long v7_3, .long v8_3, .ref (cr ad j 1), .ref (cr ad j 2), .ref (cr ad j 3), .ref (cr ad j 4), .ref (cr ad j 5), .ref (cr ad j 6), .ref (cr ad j 7), .ref (cr ad j 8), .ref (cr ad j 9)]) hx hb hts (fun w h => mT (inX3 w h)) tyX3 tyX3_ok nmX3 hown hG.1 hP hD hS (hst.c hj (by decide)) hf10 rfl 2 (by decide) (hts _ (mT wg_340)) (fun _ h => h) rfl (by decide +kernel) (rfl) (rfl) (Nat.le_of_ble_eq_true rfl) rfl dX3_copy_21 (fun H locs f14 hf15 ho16 hP hD hS => ?_)
  have hf17 := (ho16 (cr ad i 0) (hst.ne (by omega) (by omega) (by omega))).trans hf12
  have ho18 : ∀ b, b ≠ (cr ad j 0) → f14 b = _ := fun b hb => (ho16 b hb).trans (ho13 b hb)
  have hfr : (∀ b, b ≠ (cr ad j 0) → b ≠ (cr ad j 1) → b ≠ (cr ad j 2) → b ≠ (cr ad j 3) → b ≠ (cr ad j 4) → b ≠ (cr ad j 5) → b ≠ (cr ad j 6) → b ≠ (cr ad j 7) → b ≠ (cr ad j 8) → b ≠ (cr ad j 9) → f14 b = f b) := fun b z0_ z1_ z2_ z3_ z4_ z5_ z6_ z7_ z8_ z9_ => (ho16 b z0_).trans (hfr b z0_ z1_ z2_ z3_ z4_ z5_ z6_ z7_ z8_ z9_)
  refine lv_aload_n hx hb dX3_copy_24 rfl (lv_at hl 0 rfl) ?_
  refine lv_aload_n hx hb dX3_copy_25 rfl (lv_at hl 1 rfl) ?_
  refine pl_get (v := .int v3_1) hx hb hts (fun w h => mT (inX3 w h)) hown hG.1 hP (hst.c hi (by decide)) hf17 rfl 3 (by decide) (hts _ (mT wg_342)) (fun _ h => h) rfl dX3_copy_26 ?_
  refine pl_put (ty := .int) (v := .int v3_1) (fs' := [.int v0_1, .int v1_1, .int v2_1, .int v3_1, .int v4_3, .int v5_3, .int v6_3, .long v7_3, .long v8_3, .ref (cr ad j 1), .ref (cr ad j 2), .ref (cr ad j 3), .ref (cr ad j 4), .ref (cr ad j 5), .ref (cr ad j 6), .ref (cr ad j 7), .ref (cr ad j 8), .ref (cr ad j 9)]) hx hb hts (fun w h => mT (inX3 w h)) tyX3 tyX3_ok nmX3 hown hG.1 hP hD hS (hst.c hj (by decide)) hf15 rfl 3 (by decide) (hts _ (mT wg_342)) (fun _ h => h) rfl (by decide +kernel) (rfl) (rfl) (Nat.le_of_ble_eq_true rfl) rfl dX3_copy_29 (fun H locs f19 hf20 ho21 hP hD hS => ?_)
  have hf22 := (ho21 (cr ad i 0) (hst.ne (by omega) (by omega) (by omega))).trans hf17
  have ho23 : ∀ b, b ≠ (cr ad j 0) → f19 b = _ := fun b hb => (ho21 b hb).trans (ho18 b hb)
  have hfr : (∀ b, b ≠ (cr ad j 0) → b ≠ (cr ad j 1) → b ≠ (cr ad j 2) → b ≠ (cr ad j 3) → b ≠ (cr ad j 4) → b ≠ (cr ad j 5) → b ≠ (cr ad j 6) → b ≠ (cr ad j 7) → b ≠ (cr ad j 8) → b ≠ (cr ad j 9) → f19 b = f b) := fun b z0_ z1_ z2_ z3_ z4_ z5_ z6_ z7_ z8_ z9_ => (ho21 b z0_).trans (hfr b z0_ z1_ z2_ z3_ z4_ z5_ z6_ z7_ z8_ z9_)
  refine lv_aload_n hx hb dX3_copy_32 rfl (lv_at hl 0 rfl) ?_
  refine lv_aload_n hx hb dX3_copy_33 rfl (lv_at hl 1 rfl) ?_
  refine pl_get (v := .int v4_1) hx hb hts (fun w h => mT (inX3 w h)) hown hG.1 hP (hst.c hi (by decide)) hf22 rfl 4 (by decide) (hts _ (mT wg_344)) (fun _ h => h) rfl dX3_copy_34 ?_
  refine pl_put (ty := .int) (v := .int v4_1) (fs' := [.int v0_1, .int v1_1, .int v2_1, .int v3_1, .int v4_1, .int v5_3, .int v6_3, .long v7_3, .long v8_3, .ref (cr ad j 1), .ref (cr ad j 2), .ref (cr ad j 3), .ref (cr ad j 4), .ref (cr ad j 5), .ref (cr ad j 6), .ref (cr ad j 7), .ref (cr ad j 8), .ref (cr ad j 9)]) hx hb hts (fun w h => mT (inX3 w h)) tyX3 tyX3_ok nmX3 hown hG.1 hP hD hS (hst.c hj (by decide)) hf20 rfl 4 (by decide) (hts _ (mT wg_344)) (fun _ h => h) rfl (by decide +kernel) (rfl) (rfl) (Nat.le_of_ble_eq_true rfl) rfl dX3_copy_37 (fun H locs f24 hf25 ho26 hP hD hS => ?_)
  have hf27 := (ho26 (cr ad i 0) (hst.ne (by omega) (by omega) (by omega))).trans hf22
  have ho28 : ∀ b, b ≠ (cr ad j 0) → f24 b = _ := fun b hb => (ho26 b hb).trans (ho23 b hb)
  have hfr : (∀ b, b ≠ (cr ad j 0) → b ≠ (cr ad j 1) → b ≠ (cr ad j 2) → b ≠ (cr ad j 3) → b ≠ (cr ad j 4) → b ≠ (cr ad j 5) → b ≠ (cr ad j 6) → b ≠ (cr ad j 7) → b ≠ (cr ad j 8) → b ≠ (cr ad j 9) → f24 b = f b) := fun b z0_ z1_ z2_ z3_ z4_ z5_ z6_ z7_ z8_ z9_ => (ho26 b z0_).trans (hfr b z0_ z1_ z2_ z3_ z4_ z5_ z6_ z7_ z8_ z9_)
  refine lv_aload_n hx hb dX3_copy_40 rfl (lv_at hl 0 rfl) ?_
  refine lv_aload_n hx hb dX3_copy_41 rfl (lv_at hl 1 rfl) ?_
  refine pl_get (v := .int v5_1) hx hb hts (fun w h => mT (inX3 w h)) hown hG.1 hP (hst.c hi (by decide)) hf27 rfl 5 (by decide) (hts _ (mT wg_346)) (fun _ h => h) rfl dX3_copy_42 ?_
  refine pl_put (ty := .int) (v := .int v5_1) (fs' := [.int v0_1, .int v1_1, .int v2_1, .int v3_1, .int v4_1, .int v5_1, .int v6_3, .long v7_3, .long v8_3, .ref (cr ad j 1), .ref (cr ad j 2), .ref (cr ad j 3), .ref (cr ad j 4), .ref (cr ad j 5), .ref (cr ad j 6), .ref (cr ad j 7), .ref (cr ad j 8), .ref (cr ad j 9)]) hx hb hts (fun w h => mT (inX3 w h)) tyX3 tyX3_ok nmX3 hown hG.1 hP hD hS (hst.c hj (by decide)) hf25 rfl 5 (by decide) (hts _ (mT wg_346)) (fun _ h => h) rfl (by decide +kernel) (rfl) (rfl) (Nat.le_of_ble_eq_true rfl) rfl dX3_copy_45 (fun H locs f29 hf30 ho31 hP hD hS => ?_)
  have hf32 := (ho31 (cr ad i 0) (hst.ne (by omega) (by omega) (by omega))).trans hf27
  have ho33 : ∀ b, b ≠ (cr ad j 0) → f29 b = _ := fun b hb => (ho31 b hb).trans (ho28 b hb)
  have hfr : (∀ b, b ≠ (cr ad j 0) → b ≠ (cr ad j 1) → b ≠ (cr ad j 2) → b ≠ (cr ad j 3) → b ≠ (cr ad j 4) → b ≠ (cr ad j 5) → b ≠ (cr ad j 6) → b ≠ (cr ad j 7) → b ≠ (cr ad j 8) → b ≠ (cr ad j 9) → f29 b = f b) := fun b z0_ z1_ z2_ z3_ z4_ z5_ z6_ z7_ z8_ z9_ => (ho31 b z0_).trans (hfr b z0_ z1_ z2_ z3_ z4_ z5_ z6_ z7_ z8_ z9_)
  refine lv_aload_n hx hb dX3_copy_48 rfl (lv_at hl 0 rfl) ?_
  refine lv_aload_n hx hb dX3_copy_49 rfl (lv_at hl 1 rfl) ?_
  refine pl_get (v := .int v6_1) hx hb hts (fun w h => mT (inX3 w h)) hown hG.1 hP (hst.c hi (by decide)) hf32 rfl 6 (by decide) (hts _ (mT wg_348)) (fun _ h => h) rfl dX3_copy_50 ?_
  refine pl_put (ty := .int) (v := .int v6_1) (fs' := [.int v0_1, .int v1_1, .int v2_1, .int v3_1, .int v4_1, .int v5_1, .int v6_1, .long v7_3, .long v8_3, .ref (cr ad j 1), .ref (cr ad j 2), .ref (cr ad j 3), .ref (cr ad j 4), .ref (cr ad j 5), .ref (cr ad j 6), .ref (cr ad j 7), .ref (cr ad j 8), .ref (cr ad j 9)]) hx hb hts (fun w h => mT (inX3 w h)) tyX3 tyX3_ok nmX3 hown hG.1 hP hD hS (hst.c hj (by decide)) hf30 rfl 6 (by decide) (hts _ (mT wg_348)) (fun _ h => h) rfl (by decide +kernel) (rfl) (rfl) (Nat.le_of_ble_eq_true rfl) rfl dX3_copy_53 (fun H locs f34 hf35 ho36 hP hD hS => ?_)
  have hf37 := (ho36 (cr ad i 0) (hst.ne (by omega) (by omega) (by omega))).trans hf32
  have ho38 : ∀ b, b ≠ (cr ad j 0) → f34 b = _ := fun b hb => (ho36 b hb).trans (ho33 b hb)
  have hfr : (∀ b, b ≠ (cr ad j 0) → b ≠ (cr ad j 1) → b ≠ (cr ad j 2) → b ≠ (cr ad j 3) → b ≠ (cr ad j 4) → b ≠ (cr ad j 5) → b ≠ (cr ad j 6) → b ≠ (cr ad j 7) → b ≠ (cr ad j 8) → b ≠ (cr ad j 9) → f34 b = f b) := fun b z0_ z1_ z2_ z3_ z4_ z5_ z6_ z7_ z8_ z9_ => (ho36 b z0_).trans (hfr b z0_ z1_ z2_ z3_ z4_ z5_ z6_ z7_ z8_ z9_)
  refine lv_aload_n hx hb dX3_copy_56 rfl (lv_at hl 0 rfl) ?_
  refine lv_aload_n hx hb dX3_copy_57 rfl (lv_at hl 1 rfl) ?_
  refine pl_get (v := .long v7_1) hx hb hts (fun w h => mT (inX3 w h)) hown hG.1 hP (hst.c hi (by decide)) hf37 rfl 7 (by decide) (hts _ (mT wg_350)) (fun _ h => h) rfl dX3_copy_58 ?_
  refine pl_put (ty := .long) (v := .long v7_1) (fs' := [.int v0_1, .int v1_1, .int v2_1, .int v3_1, .int v4_1, .int v5_1, .int v6_1, .long v7_1, .long v8_3, .ref (cr ad j 1), .ref (cr ad j 2), .ref (cr ad j 3), .ref (cr ad j 4), .ref (cr ad j 5), .ref (cr ad j 6), .ref (cr ad j 7), .ref (cr ad j 8), .ref (cr ad j 9)]) hx hb hts (fun w h => mT (inX3 w h)) tyX3 tyX3_ok nmX3 hown hG.1 hP hD hS (hst.c hj (by decide)) hf35 rfl 7 (by decide) (hts _ (mT wg_350)) (fun _ h => h) rfl (by decide +kernel) (rfl) (rfl) (Nat.le_of_ble_eq_true rfl) rfl dX3_copy_61 (fun H locs f39 hf40 ho41 hP hD hS => ?_)
  have hf42 := (ho41 (cr ad i 0) (hst.ne (by omega) (by omega) (by omega))).trans hf37
  have ho43 : ∀ b, b ≠ (cr ad j 0) → f39 b = _ := fun b hb => (ho41 b hb).trans (ho38 b hb)
  have hfr : (∀ b, b ≠ (cr ad j 0) → b ≠ (cr ad j 1) → b ≠ (cr ad j 2) → b ≠ (cr ad j 3) → b ≠ (cr ad j 4) → b ≠ (cr ad j 5) → b ≠ (cr ad j 6) → b ≠ (cr ad j 7) → b ≠ (cr ad j 8) → b ≠ (cr ad j 9) → f39 b = f b) := fun b z0_ z1_ z2_ z3_ z4_ z5_ z6_ z7_ z8_ z9_ => (ho41 b z0_).trans (hfr b z0_ z1_ z2_ z3_ z4_ z5_ z6_ z7_ z8_ z9_)
  refine lv_aload_n hx hb dX3_copy_64 rfl (lv_at hl 0 rfl) ?_
  refine lv_aload_n hx hb dX3_copy_65 rfl (lv_at hl 1 rfl) ?_
  refine pl_get (v := .long v8_1) hx hb hts (fun w h => mT (inX3 w h)) hown hG.1 hP (hst.c hi (by decide)) hf42 rfl 8 (by decide) (hts _ (mT wg_351)) (fun _ h => h) rfl dX3_copy_66 ?_
  refine pl_put (ty := .long) (v := .long v8_1) (fs' := [.int v0_1, .int v1_1, .int v2_1, .int v3_1, .int v4_1, .int v5_1, .int v6_1, .long v7_1, .long v8_1, .ref (cr ad j 1), .ref (cr ad j 2), .ref (cr ad j 3), .ref (cr ad j 4), .ref (cr ad j 5), .ref (cr ad j 6), .ref (cr ad j 7), .ref (cr ad j 8), .ref (cr ad j 9)]) hx hb hts (fun w h => mT (inX3 w h)) tyX3 tyX3_ok nmX3 hown hG.1 hP hD hS (hst.c hj (by decide)) hf40 rfl 8 (by decide) (hts _ (mT wg_351)) (fun _ h => h) rfl (by decide +kernel) (rfl) (rfl) (Nat.le_of_ble_eq_true rfl) rfl dX3_copy_69 (fun H locs f44 hf45 ho46 hP hD hS => ?_)
  have hf47 := (ho46 (cr ad i 0) (hst.ne (by omega) (by omega) (by omega))).trans hf42
  have ho48 : ∀ b, b ≠ (cr ad j 0) → f44 b = _ := fun b hb => (ho46 b hb).trans (ho43 b hb)
  have hfr : (∀ b, b ≠ (cr ad j 0) → b ≠ (cr ad j 1) → b ≠ (cr ad j 2) → b ≠ (cr ad j 3) → b ≠ (cr ad j 4) → b ≠ (cr ad j 5) → b ≠ (cr ad j 6) → b ≠ (cr ad j 7) → b ≠ (cr ad j 8) → b ≠ (cr ad j 9) → f44 b = f b) := fun b z0_ z1_ z2_ z3_ z4_ z5_ z6_ z7_ z8_ z9_ => (ho46 b z0_).trans (hfr b z0_ z1_ z2_ z3_ z4_ z5_ z6_ z7_ z8_ z9_)
  refine lv_aload_n hx hb dX3_copy_72 rfl (lv_at hl 1 rfl) ?_
  refine pl_get (v := .ref (cr ad i 1)) hx hb hts (fun w h => mT (inX3 w h)) hown hG.1 hP (hst.c hi (by decide)) hf47 rfl 9 (by decide) (hts _ (mT wg_352)) (fun _ h => h) rfl dX3_copy_73 ?_
  refine lv_iconst (v := 0) hx hb dX3_copy_76 (by decide) ?_
  refine lv_aload_n hx hb dX3_copy_77 rfl (lv_at hl 0 rfl) ?_
  refine pl_get (v := .ref (cr ad j 1)) hx hb hts (fun w h => mT (inX3 w h)) hown hG.1 hP (hst.c hj (by decide)) hf45 rfl 9 (by decide) (hts _ (mT wg_352)) (fun _ h => h) rfl dX3_copy_78 ?_
  refine lv_iconst (v := 0) hx hb dX3_copy_81 (by decide) ?_
  refine lv_aload_n hx hb dX3_copy_82 rfl (lv_at hl 0 rfl) ?_
  refine pl_get (v := .ref (cr ad j 1)) hx hb hts (fun w h => mT (inX3 w h)) hown hG.1 hP (hst.c hj (by decide)) hf45 rfl 9 (by decide) (hts _ (mT wg_352)) (fun _ h => h) rfl dX3_copy_83 ?_
  have hT := TI.updCG (th' := (gset (gset th (200 + j) (th (200 + i))) (300 + j) (th (300 + i)))) hT hst hj hf45 ho48 ⟨v0_1, v1_1, v2_1, v3_1, v4_1, v5_1, v6_1, v7_1, v8_1, rfl, hv1_1, (by simp [gset, hg1_1]), hv2_1, (by simp [gset, hg2_1]), hv6_1⟩ (fun k h1 h2 => by simp [gset, h1, h2])
  obtain ⟨rw49, hf50⟩ := hT.2.1 j hj 1 (by decide)
  refine pl_alen (v := 30) hx hb hG.1 hP (hst.c hj (by decide)) 0 hf50 rfl (rfl) dX3_copy_86 ?_
  obtain ⟨rw51, hf52⟩ := hT.2.1 i hi 1 (by decide)
  refine pl_copyi hx hb (hml.trans hl.1.symm) hown (hts _ (mT wg_767)) (hts _ (mT wg_728)) (hts _ (mT wg_727)) (hts _ (mT wg_173)) hG.1 hP hD hS (hst.c hi (by decide)) (hst.c hj (by decide)) 0 hf52 hf50 rfl rfl (by decide) (by decide) (by decide) (by decide) (by decide) (fun _ _ => rfl) (by decide) (by decide) dX3_copy_87 (fun H locs f53 r56 hf54 ho55 hP hD hS => ?_)
  have hf57 := (ho55 (cr ad i 1) (hst.ne (by omega) (by omega) (by omega))).trans hf52
  have hfr : (∀ b, b ≠ (cr ad j 0) → b ≠ (cr ad j 1) → b ≠ (cr ad j 2) → b ≠ (cr ad j 3) → b ≠ (cr ad j 4) → b ≠ (cr ad j 5) → b ≠ (cr ad j 6) → b ≠ (cr ad j 7) → b ≠ (cr ad j 8) → b ≠ (cr ad j 9) → f53 b = f b) := fun b z0_ z1_ z2_ z3_ z4_ z5_ z6_ z7_ z8_ z9_ => (ho55 b z1_).trans (hfr b z0_ z1_ z2_ z3_ z4_ z5_ z6_ z7_ z8_ z9_)
  refine lv_aload_n hx hb dX3_copy_90 rfl (lv_at hl 1 rfl) ?_
  have hT := TI.updC hT hst hj (k := 1) (by decide) hf54 ho55 ⟨r56, rfl⟩
  obtain ⟨v0_58, v1_58, v2_58, v3_58, v4_58, v5_58, v6_58, v7_58, v8_58, hf59, hv1_58, hg1_58, hv2_58, hg2_58, hv6_58⟩ := hT.2.1 i hi 0 (by decide)
  refine pl_get (v := .ref (cr ad i 2)) hx hb hts (fun w h => mT (inX3 w h)) hown hG.1 hP (hst.c hi (by decide)) hf59 rfl 10 (by decide) (hts _ (mT wg_353)) (fun _ h => h) rfl dX3_copy_91 ?_
  refine lv_iconst (v := 0) hx hb dX3_copy_94 (by decide) ?_
  refine lv_aload_n hx hb dX3_copy_95 rfl (lv_at hl 0 rfl) ?_
  obtain ⟨v0_60, v1_60, v2_60, v3_60, v4_60, v5_60, v6_60, v7_60, v8_60, hf61, hv1_60, hg1_60, hv2_60, hg2_60, hv6_60⟩ := hT.2.1 j hj 0 (by decide)
  refine pl_get (v := .ref (cr ad j 2)) hx hb hts (fun w h => mT (inX3 w h)) hown hG.1 hP (hst.c hj (by decide)) hf61 rfl 10 (by decide) (hts _ (mT wg_353)) (fun _ h => h) rfl dX3_copy_96 ?_
  refine lv_iconst (v := 0) hx hb dX3_copy_99 (by decide) ?_
  refine lv_aload_n hx hb dX3_copy_100 rfl (lv_at hl 0 rfl) ?_
  refine pl_get (v := .ref (cr ad j 2)) hx hb hts (fun w h => mT (inX3 w h)) hown hG.1 hP (hst.c hj (by decide)) hf61 rfl 10 (by decide) (hts _ (mT wg_353)) (fun _ h => h) rfl dX3_copy_101 ?_
  obtain ⟨rw62, hf63⟩ := hT.2.1 j hj 2 (by decide)
  refine pl_alen (v := 162) hx hb hG.1 hP (hst.c hj (by decide)) 1 hf63 rfl (rfl) dX3_copy_104 ?_
  obtain ⟨rw64, hf65⟩ := hT.2.1 i hi 2 (by decide)
  refine pl_copyl hx hb (hml.trans hl.1.symm) hown (hts _ (mT wg_767)) (hts _ (mT wg_728)) (hts _ (mT wg_727)) (hts _ (mT wg_173)) hG.1 hP hD hS (hst.c hi (by decide)) (hst.c hj (by decide)) 1 hf65 hf63 rfl rfl (by decide) (by decide) (by decide) (by decide) (by decide) (fun _ _ => rfl) (by decide) (by decide) dX3_copy_105 (fun H locs f66 r69 hf67 ho68 hP hD hS => ?_)
  have hf70 := (ho68 (cr ad j 1) (hst.ne (by omega) (by omega) (by omega))).trans hf54
  have hf71 := (ho68 (cr ad i 1) (hst.ne (by omega) (by omega) (by omega))).trans hf57
  have hf72 := (ho68 (cr ad i 0) (hst.ne (by omega) (by omega) (by omega))).trans hf59
  have hf73 := (ho68 (cr ad j 0) (hst.ne (by omega) (by omega) (by omega))).trans hf61
  have hf74 := (ho68 (cr ad i 2) (hst.ne (by omega) (by omega) (by omega))).trans hf65
  have hfr : (∀ b, b ≠ (cr ad j 0) → b ≠ (cr ad j 1) → b ≠ (cr ad j 2) → b ≠ (cr ad j 3) → b ≠ (cr ad j 4) → b ≠ (cr ad j 5) → b ≠ (cr ad j 6) → b ≠ (cr ad j 7) → b ≠ (cr ad j 8) → b ≠ (cr ad j 9) → f66 b = f b) := fun b z0_ z1_ z2_ z3_ z4_ z5_ z6_ z7_ z8_ z9_ => (ho68 b z2_).trans (hfr b z0_ z1_ z2_ z3_ z4_ z5_ z6_ z7_ z8_ z9_)
  refine lv_aload_n hx hb dX3_copy_108 rfl (lv_at hl 1 rfl) ?_
  refine pl_get (v := .ref (cr ad i 3)) hx hb hts (fun w h => mT (inX3 w h)) hown hG.1 hP (hst.c hi (by decide)) hf72 rfl 11 (by decide) (hts _ (mT wg_354)) (fun _ h => h) rfl dX3_copy_109 ?_
  refine lv_iconst (v := 0) hx hb dX3_copy_112 (by decide) ?_
  refine lv_aload_n hx hb dX3_copy_113 rfl (lv_at hl 0 rfl) ?_
  refine pl_get (v := .ref (cr ad j 3)) hx hb hts (fun w h => mT (inX3 w h)) hown hG.1 hP (hst.c hj (by decide)) hf73 rfl 11 (by decide) (hts _ (mT wg_354)) (fun _ h => h) rfl dX3_copy_114 ?_
  refine lv_iconst (v := 0) hx hb dX3_copy_117 (by decide) ?_
  refine lv_aload_n hx hb dX3_copy_118 rfl (lv_at hl 0 rfl) ?_
  refine pl_get (v := .ref (cr ad j 3)) hx hb hts (fun w h => mT (inX3 w h)) hown hG.1 hP (hst.c hj (by decide)) hf73 rfl 11 (by decide) (hts _ (mT wg_354)) (fun _ h => h) rfl dX3_copy_119 ?_
  have hT := TI.updC hT hst hj (k := 2) (by decide) hf67 ho68 ⟨r69, rfl⟩
  obtain ⟨rw75, hf76⟩ := hT.2.1 j hj 3 (by decide)
  refine pl_alen (v := 18) hx hb hG.1 hP (hst.c hj (by decide)) 1 hf76 rfl (rfl) dX3_copy_122 ?_
  obtain ⟨rw77, hf78⟩ := hT.2.1 i hi 3 (by decide)
  refine pl_copyl hx hb (hml.trans hl.1.symm) hown (hts _ (mT wg_767)) (hts _ (mT wg_728)) (hts _ (mT wg_727)) (hts _ (mT wg_173)) hG.1 hP hD hS (hst.c hi (by decide)) (hst.c hj (by decide)) 1 hf78 hf76 rfl rfl (by decide) (by decide) (by decide) (by decide) (by decide) (fun _ _ => rfl) (by decide) (by decide) dX3_copy_123 (fun H locs f79 r82 hf80 ho81 hP hD hS => ?_)
  have hf83 := (ho81 (cr ad j 1) (hst.ne (by omega) (by omega) (by omega))).trans hf70
  have hf84 := (ho81 (cr ad i 1) (hst.ne (by omega) (by omega) (by omega))).trans hf71
  have hf85 := (ho81 (cr ad i 0) (hst.ne (by omega) (by omega) (by omega))).trans hf72
  have hf86 := (ho81 (cr ad j 0) (hst.ne (by omega) (by omega) (by omega))).trans hf73
  have hf87 := (ho81 (cr ad j 2) (hst.ne (by omega) (by omega) (by omega))).trans hf67
  have hf88 := (ho81 (cr ad i 2) (hst.ne (by omega) (by omega) (by omega))).trans hf74
  have hf89 := (ho81 (cr ad i 3) (hst.ne (by omega) (by omega) (by omega))).trans hf78
  have hfr : (∀ b, b ≠ (cr ad j 0) → b ≠ (cr ad j 1) → b ≠ (cr ad j 2) → b ≠ (cr ad j 3) → b ≠ (cr ad j 4) → b ≠ (cr ad j 5) → b ≠ (cr ad j 6) → b ≠ (cr ad j 7) → b ≠ (cr ad j 8) → b ≠ (cr ad j 9) → f79 b = f b) := fun b z0_ z1_ z2_ z3_ z4_ z5_ z6_ z7_ z8_ z9_ => (ho81 b z3_).trans (hfr b z0_ z1_ z2_ z3_ z4_ z5_ z6_ z7_ z8_ z9_)
  refine lv_aload_n hx hb dX3_copy_126 rfl (lv_at hl 1 rfl) ?_
  refine pl_get (v := .ref (cr ad i 4)) hx hb hts (fun w h => mT (inX3 w h)) hown hG.1 hP (hst.c hi (by decide)) hf85 rfl 12 (by decide) (hts _ (mT wg_355)) (fun _ h => h) rfl dX3_copy_127 ?_
  refine lv_iconst (v := 0) hx hb dX3_copy_130 (by decide) ?_
  refine lv_aload_n hx hb dX3_copy_131 rfl (lv_at hl 0 rfl) ?_
  refine pl_get (v := .ref (cr ad j 4)) hx hb hts (fun w h => mT (inX3 w h)) hown hG.1 hP (hst.c hj (by decide)) hf86 rfl 12 (by decide) (hts _ (mT wg_355)) (fun _ h => h) rfl dX3_copy_132 ?_
  refine lv_iconst (v := 0) hx hb dX3_copy_135 (by decide) ?_
  refine lv_aload_n hx hb dX3_copy_136 rfl (lv_at hl 0 rfl) ?_
  refine pl_get (v := .ref (cr ad j 4)) hx hb hts (fun w h => mT (inX3 w h)) hown hG.1 hP (hst.c hj (by decide)) hf86 rfl 12 (by decide) (hts _ (mT wg_355)) (fun _ h => h) rfl dX3_copy_137 ?_
  have hT := TI.updC hT hst hj (k := 3) (by decide) hf80 ho81 ⟨r82, rfl⟩
  obtain ⟨rw90, hf91⟩ := hT.2.1 j hj 4 (by decide)
  refine pl_alen (v := 18) hx hb hG.1 hP (hst.c hj (by decide)) 1 hf91 rfl (rfl) dX3_copy_140 ?_
  obtain ⟨rw92, hf93⟩ := hT.2.1 i hi 4 (by decide)
  refine pl_copyl hx hb (hml.trans hl.1.symm) hown (hts _ (mT wg_767)) (hts _ (mT wg_728)) (hts _ (mT wg_727)) (hts _ (mT wg_173)) hG.1 hP hD hS (hst.c hi (by decide)) (hst.c hj (by decide)) 1 hf93 hf91 rfl rfl (by decide) (by decide) (by decide) (by decide) (by decide) (fun _ _ => rfl) (by decide) (by decide) dX3_copy_141 (fun H locs f94 r97 hf95 ho96 hP hD hS => ?_)
  have hf98 := (ho96 (cr ad j 1) (hst.ne (by omega) (by omega) (by omega))).trans hf83
  have hf99 := (ho96 (cr ad i 1) (hst.ne (by omega) (by omega) (by omega))).trans hf84
  have hf100 := (ho96 (cr ad i 0) (hst.ne (by omega) (by omega) (by omega))).trans hf85
  have hf101 := (ho96 (cr ad j 0) (hst.ne (by omega) (by omega) (by omega))).trans hf86
  have hf102 := (ho96 (cr ad j 2) (hst.ne (by omega) (by omega) (by omega))).trans hf87
  have hf103 := (ho96 (cr ad i 2) (hst.ne (by omega) (by omega) (by omega))).trans hf88
  have hf104 := (ho96 (cr ad j 3) (hst.ne (by omega) (by omega) (by omega))).trans hf80
  have hf105 := (ho96 (cr ad i 3) (hst.ne (by omega) (by omega) (by omega))).trans hf89
  have hf106 := (ho96 (cr ad i 4) (hst.ne (by omega) (by omega) (by omega))).trans hf93
  have hfr : (∀ b, b ≠ (cr ad j 0) → b ≠ (cr ad j 1) → b ≠ (cr ad j 2) → b ≠ (cr ad j 3) → b ≠ (cr ad j 4) → b ≠ (cr ad j 5) → b ≠ (cr ad j 6) → b ≠ (cr ad j 7) → b ≠ (cr ad j 8) → b ≠ (cr ad j 9) → f94 b = f b) := fun b z0_ z1_ z2_ z3_ z4_ z5_ z6_ z7_ z8_ z9_ => (ho96 b z4_).trans (hfr b z0_ z1_ z2_ z3_ z4_ z5_ z6_ z7_ z8_ z9_)
  refine lv_aload_n hx hb dX3_copy_144 rfl (lv_at hl 1 rfl) ?_
  refine pl_get (v := .ref (cr ad i 5)) hx hb hts (fun w h => mT (inX3 w h)) hown hG.1 hP (hst.c hi (by decide)) hf100 rfl 13 (by decide) (hts _ (mT wg_356)) (fun _ h => h) rfl dX3_copy_145 ?_
  refine lv_iconst (v := 0) hx hb dX3_copy_148 (by decide) ?_
  refine lv_aload_n hx hb dX3_copy_149 rfl (lv_at hl 0 rfl) ?_
  refine pl_get (v := .ref (cr ad j 5)) hx hb hts (fun w h => mT (inX3 w h)) hown hG.1 hP (hst.c hj (by decide)) hf101 rfl 13 (by decide) (hts _ (mT wg_356)) (fun _ h => h) rfl dX3_copy_150 ?_
  refine lv_iconst (v := 0) hx hb dX3_copy_153 (by decide) ?_
  refine lv_aload_n hx hb dX3_copy_154 rfl (lv_at hl 0 rfl) ?_
  refine pl_get (v := .ref (cr ad j 5)) hx hb hts (fun w h => mT (inX3 w h)) hown hG.1 hP (hst.c hj (by decide)) hf101 rfl 13 (by decide) (hts _ (mT wg_356)) (fun _ h => h) rfl dX3_copy_155 ?_
  have hT := TI.updC hT hst hj (k := 4) (by decide) hf95 ho96 ⟨r97, rfl⟩
  obtain ⟨rw107, hf108⟩ := hT.2.1 j hj 5 (by decide)
  refine pl_alen (v := 6) hx hb hG.1 hP (hst.c hj (by decide)) 1 hf108 rfl (rfl) dX3_copy_158 ?_
  obtain ⟨rw109, hf110⟩ := hT.2.1 i hi 5 (by decide)
  refine pl_copyl hx hb (hml.trans hl.1.symm) hown (hts _ (mT wg_767)) (hts _ (mT wg_728)) (hts _ (mT wg_727)) (hts _ (mT wg_173)) hG.1 hP hD hS (hst.c hi (by decide)) (hst.c hj (by decide)) 1 hf110 hf108 rfl rfl (by decide) (by decide) (by decide) (by decide) (by decide) (fun _ _ => rfl) (by decide) (by decide) dX3_copy_159 (fun H locs f111 r114 hf112 ho113 hP hD hS => ?_)
  have hf115 := (ho113 (cr ad j 1) (hst.ne (by omega) (by omega) (by omega))).trans hf98
  have hf116 := (ho113 (cr ad i 1) (hst.ne (by omega) (by omega) (by omega))).trans hf99
  have hf117 := (ho113 (cr ad i 0) (hst.ne (by omega) (by omega) (by omega))).trans hf100
  have hf118 := (ho113 (cr ad j 0) (hst.ne (by omega) (by omega) (by omega))).trans hf101
  have hf119 := (ho113 (cr ad j 2) (hst.ne (by omega) (by omega) (by omega))).trans hf102
  have hf120 := (ho113 (cr ad i 2) (hst.ne (by omega) (by omega) (by omega))).trans hf103
  have hf121 := (ho113 (cr ad j 3) (hst.ne (by omega) (by omega) (by omega))).trans hf104
  have hf122 := (ho113 (cr ad i 3) (hst.ne (by omega) (by omega) (by omega))).trans hf105
  have hf123 := (ho113 (cr ad j 4) (hst.ne (by omega) (by omega) (by omega))).trans hf95
  have hf124 := (ho113 (cr ad i 4) (hst.ne (by omega) (by omega) (by omega))).trans hf106
  have hf125 := (ho113 (cr ad i 5) (hst.ne (by omega) (by omega) (by omega))).trans hf110
  have hfr : (∀ b, b ≠ (cr ad j 0) → b ≠ (cr ad j 1) → b ≠ (cr ad j 2) → b ≠ (cr ad j 3) → b ≠ (cr ad j 4) → b ≠ (cr ad j 5) → b ≠ (cr ad j 6) → b ≠ (cr ad j 7) → b ≠ (cr ad j 8) → b ≠ (cr ad j 9) → f111 b = f b) := fun b z0_ z1_ z2_ z3_ z4_ z5_ z6_ z7_ z8_ z9_ => (ho113 b z5_).trans (hfr b z0_ z1_ z2_ z3_ z4_ z5_ z6_ z7_ z8_ z9_)
  refine lv_aload_n hx hb dX3_copy_162 rfl (lv_at hl 1 rfl) ?_
  refine pl_get (v := .ref (cr ad i 6)) hx hb hts (fun w h => mT (inX3 w h)) hown hG.1 hP (hst.c hi (by decide)) hf117 rfl 14 (by decide) (hts _ (mT wg_358)) (fun _ h => h) rfl dX3_copy_163 ?_
  refine lv_iconst (v := 0) hx hb dX3_copy_166 (by decide) ?_
  refine lv_aload_n hx hb dX3_copy_167 rfl (lv_at hl 0 rfl) ?_
  refine pl_get (v := .ref (cr ad j 6)) hx hb hts (fun w h => mT (inX3 w h)) hown hG.1 hP (hst.c hj (by decide)) hf118 rfl 14 (by decide) (hts _ (mT wg_358)) (fun _ h => h) rfl dX3_copy_168 ?_
  refine lv_iconst (v := 0) hx hb dX3_copy_171 (by decide) ?_
  refine lv_aload_n hx hb dX3_copy_172 rfl (lv_at hl 0 rfl) ?_
  refine pl_get (v := .ref (cr ad j 6)) hx hb hts (fun w h => mT (inX3 w h)) hown hG.1 hP (hst.c hj (by decide)) hf118 rfl 14 (by decide) (hts _ (mT wg_358)) (fun _ h => h) rfl dX3_copy_173 ?_
  have hT := TI.updC hT hst hj (k := 5) (by decide) hf112 ho113 ⟨r114, rfl⟩
  obtain ⟨rw126, hf127⟩ := hT.2.1 j hj 6 (by decide)
  refine pl_alen (v := 6) hx hb hG.1 hP (hst.c hj (by decide)) 0 hf127 rfl (rfl) dX3_copy_176 ?_
  obtain ⟨rw128, hf129⟩ := hT.2.1 i hi 6 (by decide)
  refine pl_copyi hx hb (hml.trans hl.1.symm) hown (hts _ (mT wg_767)) (hts _ (mT wg_728)) (hts _ (mT wg_727)) (hts _ (mT wg_173)) hG.1 hP hD hS (hst.c hi (by decide)) (hst.c hj (by decide)) 0 hf129 hf127 rfl rfl (by decide) (by decide) (by decide) (by decide) (by decide) (fun _ _ => rfl) (by decide) (by decide) dX3_copy_177 (fun H locs f130 r133 hf131 ho132 hP hD hS => ?_)
  have hf134 := (ho132 (cr ad j 1) (hst.ne (by omega) (by omega) (by omega))).trans hf115
  have hf135 := (ho132 (cr ad i 1) (hst.ne (by omega) (by omega) (by omega))).trans hf116
  have hf136 := (ho132 (cr ad i 0) (hst.ne (by omega) (by omega) (by omega))).trans hf117
  have hf137 := (ho132 (cr ad j 0) (hst.ne (by omega) (by omega) (by omega))).trans hf118
  have hf138 := (ho132 (cr ad j 2) (hst.ne (by omega) (by omega) (by omega))).trans hf119
  have hf139 := (ho132 (cr ad i 2) (hst.ne (by omega) (by omega) (by omega))).trans hf120
  have hf140 := (ho132 (cr ad j 3) (hst.ne (by omega) (by omega) (by omega))).trans hf121
  have hf141 := (ho132 (cr ad i 3) (hst.ne (by omega) (by omega) (by omega))).trans hf122
  have hf142 := (ho132 (cr ad j 4) (hst.ne (by omega) (by omega) (by omega))).trans hf123
  have hf143 := (ho132 (cr ad i 4) (hst.ne (by omega) (by omega) (by omega))).trans hf124
  have hf144 := (ho132 (cr ad j 5) (hst.ne (by omega) (by omega) (by omega))).trans hf112
  have hf145 := (ho132 (cr ad i 5) (hst.ne (by omega) (by omega) (by omega))).trans hf125
  have hf146 := (ho132 (cr ad i 6) (hst.ne (by omega) (by omega) (by omega))).trans hf129
  have hfr : (∀ b, b ≠ (cr ad j 0) → b ≠ (cr ad j 1) → b ≠ (cr ad j 2) → b ≠ (cr ad j 3) → b ≠ (cr ad j 4) → b ≠ (cr ad j 5) → b ≠ (cr ad j 6) → b ≠ (cr ad j 7) → b ≠ (cr ad j 8) → b ≠ (cr ad j 9) → f130 b = f b) := fun b z0_ z1_ z2_ z3_ z4_ z5_ z6_ z7_ z8_ z9_ => (ho132 b z6_).trans (hfr b z0_ z1_ z2_ z3_ z4_ z5_ z6_ z7_ z8_ z9_)
  refine lv_aload_n hx hb dX3_copy_180 rfl (lv_at hl 1 rfl) ?_
  refine pl_get (v := .ref (cr ad i 7)) hx hb hts (fun w h => mT (inX3 w h)) hown hG.1 hP (hst.c hi (by decide)) hf136 rfl 15 (by decide) (hts _ (mT wg_360)) (fun _ h => h) rfl dX3_copy_181 ?_
  refine lv_iconst (v := 0) hx hb dX3_copy_184 (by decide) ?_
  refine lv_aload_n hx hb dX3_copy_185 rfl (lv_at hl 0 rfl) ?_
  refine pl_get (v := .ref (cr ad j 7)) hx hb hts (fun w h => mT (inX3 w h)) hown hG.1 hP (hst.c hj (by decide)) hf137 rfl 15 (by decide) (hts _ (mT wg_360)) (fun _ h => h) rfl dX3_copy_186 ?_
  refine lv_iconst (v := 0) hx hb dX3_copy_189 (by decide) ?_
  refine lv_aload_n hx hb dX3_copy_190 rfl (lv_at hl 0 rfl) ?_
  refine pl_get (v := .ref (cr ad j 7)) hx hb hts (fun w h => mT (inX3 w h)) hown hG.1 hP (hst.c hj (by decide)) hf137 rfl 15 (by decide) (hts _ (mT wg_360)) (fun _ h => h) rfl dX3_copy_191 ?_
  have hT := TI.updC hT hst hj (k := 6) (by decide) hf131 ho132 ⟨r133, rfl⟩
  obtain ⟨rw147, hf148⟩ := hT.2.1 j hj 7 (by decide)
  refine pl_alen (v := 6) hx hb hG.1 hP (hst.c hj (by decide)) 0 hf148 rfl (rfl) dX3_copy_194 ?_
  obtain ⟨rw149, hf150⟩ := hT.2.1 i hi 7 (by decide)
  refine pl_copyi hx hb (hml.trans hl.1.symm) hown (hts _ (mT wg_767)) (hts _ (mT wg_728)) (hts _ (mT wg_727)) (hts _ (mT wg_173)) hG.1 hP hD hS (hst.c hi (by decide)) (hst.c hj (by decide)) 0 hf150 hf148 rfl rfl (by decide) (by decide) (by decide) (by decide) (by decide) (fun _ _ => rfl) (by decide) (by decide) dX3_copy_195 (fun H locs f151 r154 hf152 ho153 hP hD hS => ?_)
  have hf155 := (ho153 (cr ad j 1) (hst.ne (by omega) (by omega) (by omega))).trans hf134
  have hf156 := (ho153 (cr ad i 1) (hst.ne (by omega) (by omega) (by omega))).trans hf135
  have hf157 := (ho153 (cr ad i 0) (hst.ne (by omega) (by omega) (by omega))).trans hf136
  have hf158 := (ho153 (cr ad j 0) (hst.ne (by omega) (by omega) (by omega))).trans hf137
  have hf159 := (ho153 (cr ad j 2) (hst.ne (by omega) (by omega) (by omega))).trans hf138
  have hf160 := (ho153 (cr ad i 2) (hst.ne (by omega) (by omega) (by omega))).trans hf139
  have hf161 := (ho153 (cr ad j 3) (hst.ne (by omega) (by omega) (by omega))).trans hf140
  have hf162 := (ho153 (cr ad i 3) (hst.ne (by omega) (by omega) (by omega))).trans hf141
  have hf163 := (ho153 (cr ad j 4) (hst.ne (by omega) (by omega) (by omega))).trans hf142
  have hf164 := (ho153 (cr ad i 4) (hst.ne (by omega) (by omega) (by omega))).trans hf143
  have hf165 := (ho153 (cr ad j 5) (hst.ne (by omega) (by omega) (by omega))).trans hf144
  have hf166 := (ho153 (cr ad i 5) (hst.ne (by omega) (by omega) (by omega))).trans hf145
  have hf167 := (ho153 (cr ad j 6) (hst.ne (by omega) (by omega) (by omega))).trans hf131
  have hf168 := (ho153 (cr ad i 6) (hst.ne (by omega) (by omega) (by omega))).trans hf146
  have hf169 := (ho153 (cr ad i 7) (hst.ne (by omega) (by omega) (by omega))).trans hf150
  have hfr : (∀ b, b ≠ (cr ad j 0) → b ≠ (cr ad j 1) → b ≠ (cr ad j 2) → b ≠ (cr ad j 3) → b ≠ (cr ad j 4) → b ≠ (cr ad j 5) → b ≠ (cr ad j 6) → b ≠ (cr ad j 7) → b ≠ (cr ad j 8) → b ≠ (cr ad j 9) → f151 b = f b) := fun b z0_ z1_ z2_ z3_ z4_ z5_ z6_ z7_ z8_ z9_ => (ho153 b z7_).trans (hfr b z0_ z1_ z2_ z3_ z4_ z5_ z6_ z7_ z8_ z9_)
  refine lv_aload_n hx hb dX3_copy_198 rfl (lv_at hl 1 rfl) ?_
  refine pl_get (v := .ref (cr ad i 8)) hx hb hts (fun w h => mT (inX3 w h)) hown hG.1 hP (hst.c hi (by decide)) hf157 rfl 16 (by decide) (hts _ (mT wg_362)) (fun _ h => h) rfl dX3_copy_199 ?_
  refine lv_iconst (v := 0) hx hb dX3_copy_202 (by decide) ?_
  refine lv_aload_n hx hb dX3_copy_203 rfl (lv_at hl 0 rfl) ?_
  refine pl_get (v := .ref (cr ad j 8)) hx hb hts (fun w h => mT (inX3 w h)) hown hG.1 hP (hst.c hj (by decide)) hf158 rfl 16 (by decide) (hts _ (mT wg_362)) (fun _ h => h) rfl dX3_copy_204 ?_
  refine lv_iconst (v := 0) hx hb dX3_copy_207 (by decide) ?_
  refine lv_aload_n hx hb dX3_copy_208 rfl (lv_at hl 0 rfl) ?_
  refine pl_get (v := .ref (cr ad j 8)) hx hb hts (fun w h => mT (inX3 w h)) hown hG.1 hP (hst.c hj (by decide)) hf158 rfl 16 (by decide) (hts _ (mT wg_362)) (fun _ h => h) rfl dX3_copy_209 ?_
  have hT := TI.updC hT hst hj (k := 7) (by decide) hf152 ho153 ⟨r154, rfl⟩
  obtain ⟨rw170, hf171⟩ := hT.2.1 j hj 8 (by decide)
  refine pl_alen (v := 6) hx hb hG.1 hP (hst.c hj (by decide)) 0 hf171 rfl (rfl) dX3_copy_212 ?_
  obtain ⟨rw172, hf173⟩ := hT.2.1 i hi 8 (by decide)
  refine pl_copyi hx hb (hml.trans hl.1.symm) hown (hts _ (mT wg_767)) (hts _ (mT wg_728)) (hts _ (mT wg_727)) (hts _ (mT wg_173)) hG.1 hP hD hS (hst.c hi (by decide)) (hst.c hj (by decide)) 0 hf173 hf171 rfl rfl (by decide) (by decide) (by decide) (by decide) (by decide) (fun _ _ => rfl) (by decide) (by decide) dX3_copy_213 (fun H locs f174 r177 hf175 ho176 hP hD hS => ?_)
  have hf178 := (ho176 (cr ad j 1) (hst.ne (by omega) (by omega) (by omega))).trans hf155
  have hf179 := (ho176 (cr ad i 1) (hst.ne (by omega) (by omega) (by omega))).trans hf156
  have hf180 := (ho176 (cr ad i 0) (hst.ne (by omega) (by omega) (by omega))).trans hf157
  have hf181 := (ho176 (cr ad j 0) (hst.ne (by omega) (by omega) (by omega))).trans hf158
  have hf182 := (ho176 (cr ad j 2) (hst.ne (by omega) (by omega) (by omega))).trans hf159
  have hf183 := (ho176 (cr ad i 2) (hst.ne (by omega) (by omega) (by omega))).trans hf160
  have hf184 := (ho176 (cr ad j 3) (hst.ne (by omega) (by omega) (by omega))).trans hf161
  have hf185 := (ho176 (cr ad i 3) (hst.ne (by omega) (by omega) (by omega))).trans hf162
  have hf186 := (ho176 (cr ad j 4) (hst.ne (by omega) (by omega) (by omega))).trans hf163
  have hf187 := (ho176 (cr ad i 4) (hst.ne (by omega) (by omega) (by omega))).trans hf164
  have hf188 := (ho176 (cr ad j 5) (hst.ne (by omega) (by omega) (by omega))).trans hf165
  have hf189 := (ho176 (cr ad i 5) (hst.ne (by omega) (by omega) (by omega))).trans hf166
  have hf190 := (ho176 (cr ad j 6) (hst.ne (by omega) (by omega) (by omega))).trans hf167
  have hf191 := (ho176 (cr ad i 6) (hst.ne (by omega) (by omega) (by omega))).trans hf168
  have hf192 := (ho176 (cr ad j 7) (hst.ne (by omega) (by omega) (by omega))).trans hf152
  have hf193 := (ho176 (cr ad i 7) (hst.ne (by omega) (by omega) (by omega))).trans hf169
  have hf194 := (ho176 (cr ad i 8) (hst.ne (by omega) (by omega) (by omega))).trans hf173
  have hfr : (∀ b, b ≠ (cr ad j 0) → b ≠ (cr ad j 1) → b ≠ (cr ad j 2) → b ≠ (cr ad j 3) → b ≠ (cr ad j 4) → b ≠ (cr ad j 5) → b ≠ (cr ad j 6) → b ≠ (cr ad j 7) → b ≠ (cr ad j 8) → b ≠ (cr ad j 9) → f174 b = f b) := fun b z0_ z1_ z2_ z3_ z4_ z5_ z6_ z7_ z8_ z9_ => (ho176 b z8_).trans (hfr b z0_ z1_ z2_ z3_ z4_ z5_ z6_ z7_ z8_ z9_)
  refine lv_aload_n hx hb dX3_copy_216 rfl (lv_at hl 1 rfl) ?_
  refine pl_get (v := .ref (cr ad i 9)) hx hb hts (fun w h => mT (inX3 w h)) hown hG.1 hP (hst.c hi (by decide)) hf180 rfl 17 (by decide) (hts _ (mT wg_364)) (fun _ h => h) rfl dX3_copy_217 ?_
  refine lv_iconst (v := 0) hx hb dX3_copy_220 (by decide) ?_
  refine lv_aload_n hx hb dX3_copy_221 rfl (lv_at hl 0 rfl) ?_
  refine pl_get (v := .ref (cr ad j 9)) hx hb hts (fun w h => mT (inX3 w h)) hown hG.1 hP (hst.c hj (by decide)) hf181 rfl 17 (by decide) (hts _ (mT wg_364)) (fun _ h => h) rfl dX3_copy_222 ?_
  refine lv_iconst (v := 0) hx hb dX3_copy_225 (by decide) ?_
  refine lv_aload_n hx hb dX3_copy_226 rfl (lv_at hl 0 rfl) ?_
  refine pl_get (v := .ref (cr ad j 9)) hx hb hts (fun w h => mT (inX3 w h)) hown hG.1 hP (hst.c hj (by decide)) hf181 rfl 17 (by decide) (hts _ (mT wg_364)) (fun _ h => h) rfl dX3_copy_227 ?_
  have hT := TI.updC hT hst hj (k := 8) (by decide) hf175 ho176 ⟨r177, rfl⟩
  obtain ⟨rw195, hf196⟩ := hT.2.1 j hj 9 (by decide)
  refine pl_alen (v := 6) hx hb hG.1 hP (hst.c hj (by decide)) 0 hf196 rfl (rfl) dX3_copy_230 ?_
  obtain ⟨rw197, hf198⟩ := hT.2.1 i hi 9 (by decide)
  refine pl_copyi hx hb (hml.trans hl.1.symm) hown (hts _ (mT wg_767)) (hts _ (mT wg_728)) (hts _ (mT wg_727)) (hts _ (mT wg_173)) hG.1 hP hD hS (hst.c hi (by decide)) (hst.c hj (by decide)) 0 hf198 hf196 rfl rfl (by decide) (by decide) (by decide) (by decide) (by decide) (fun _ _ => rfl) (by decide) (by decide) dX3_copy_231 (fun H locs f199 r202 hf200 ho201 hP hD hS => ?_)
  have hf203 := (ho201 (cr ad j 1) (hst.ne (by omega) (by omega) (by omega))).trans hf178
  have hf204 := (ho201 (cr ad i 1) (hst.ne (by omega) (by omega) (by omega))).trans hf179
  have hf205 := (ho201 (cr ad i 0) (hst.ne (by omega) (by omega) (by omega))).trans hf180
  have hf206 := (ho201 (cr ad j 0) (hst.ne (by omega) (by omega) (by omega))).trans hf181
  have hf207 := (ho201 (cr ad j 2) (hst.ne (by omega) (by omega) (by omega))).trans hf182
  have hf208 := (ho201 (cr ad i 2) (hst.ne (by omega) (by omega) (by omega))).trans hf183
  have hf209 := (ho201 (cr ad j 3) (hst.ne (by omega) (by omega) (by omega))).trans hf184
  have hf210 := (ho201 (cr ad i 3) (hst.ne (by omega) (by omega) (by omega))).trans hf185
  have hf211 := (ho201 (cr ad j 4) (hst.ne (by omega) (by omega) (by omega))).trans hf186
  have hf212 := (ho201 (cr ad i 4) (hst.ne (by omega) (by omega) (by omega))).trans hf187
  have hf213 := (ho201 (cr ad j 5) (hst.ne (by omega) (by omega) (by omega))).trans hf188
  have hf214 := (ho201 (cr ad i 5) (hst.ne (by omega) (by omega) (by omega))).trans hf189
  have hf215 := (ho201 (cr ad j 6) (hst.ne (by omega) (by omega) (by omega))).trans hf190
  have hf216 := (ho201 (cr ad i 6) (hst.ne (by omega) (by omega) (by omega))).trans hf191
  have hf217 := (ho201 (cr ad j 7) (hst.ne (by omega) (by omega) (by omega))).trans hf192
  have hf218 := (ho201 (cr ad i 7) (hst.ne (by omega) (by omega) (by omega))).trans hf193
  have hf219 := (ho201 (cr ad j 8) (hst.ne (by omega) (by omega) (by omega))).trans hf175
  have hf220 := (ho201 (cr ad i 8) (hst.ne (by omega) (by omega) (by omega))).trans hf194
  have hf221 := (ho201 (cr ad i 9) (hst.ne (by omega) (by omega) (by omega))).trans hf198
  have hfr : (∀ b, b ≠ (cr ad j 0) → b ≠ (cr ad j 1) → b ≠ (cr ad j 2) → b ≠ (cr ad j 3) → b ≠ (cr ad j 4) → b ≠ (cr ad j 5) → b ≠ (cr ad j 6) → b ≠ (cr ad j 7) → b ≠ (cr ad j 8) → b ≠ (cr ad j 9) → f199 b = f b) := fun b z0_ z1_ z2_ z3_ z4_ z5_ z6_ z7_ z8_ z9_ => (ho201 b z9_).trans (hfr b z0_ z1_ z2_ z3_ z4_ z5_ z6_ z7_ z8_ z9_)
  have hT := TI.updC hT hst hj (k := 9) (by decide) hf200 ho201 ⟨r202, rfl⟩
  exact ret_v hx hb hr hlocks hP hD hS (Nat.le_of_ble_eq_true rfl) (Nat.le_of_ble_eq_true rfl) (⟨rfl, hT, hfr⟩) dX3_copy_234

abbrev rm_X3_trueLetter_co_pn : Room := { frames := 1, cells := 0, slots := 0, locals := 22 }
abbrev po_X3_trueLetter_co_pn (g : GG) (ad : Nat → Nat) (th : Nat → Int) (L : List Nat) (f : HP) (j : Nat) (z3 : Int32) : Int32 → (List Nat × HP) → Prop := fun _ u => u.1 = L ∧ u.2 = f
set_option maxHeartbeats 4000000 in
set_option maxRecDepth 100000 in
theorem s_X3_trueLetter_co_pn (l : Launch) (g : GG) (ad : Nat → Nat) (th : Nat → Int) (L : List Nat) (f : HP) (sz : Nat) (j : Nat) (z3 : Int32) (hst : ST ad L) (hT : TI g ad th f) (hj : j < 23) : MtI l g yX3_trueLetter cX3_trueLetter 5 (some .int) rm_X3_trueLetter_co_pn [.ref (cr ad j 0), .ref (ad 6), .ref (ad 13), .int z3] L f sz (po_X3_trueLetter_co_pn g ad th L f j z3) := by
  refine MtI.of (by decide +kernel) (Nat.le_of_ble_eq_true rfl) ?_
  intro p e s m below meth c A hEn hP hD hS ls hl
  obtain ⟨hx, hb, hr, hml, hown, hlocks, hts, hG, hA, hE, hnm⟩ := hEn
  have hown : s.vm.findClass "RulerWord$Course" = some m.cls := hown
  have hl : lv_has ls 5 [(0, .ref (cr ad j 0)), (1, .ref (ad 6)), (2, .ref (ad 13)), (3, .int z3)] := hl
  refine lv_aload_n hx hb dX3_trueLetter_0 rfl (lv_at hl 2 rfl) ?_
  obtain ⟨v0_1, v1_1, hf2, hv0_1, hv1_1⟩ := hT.1 13 (by decide)
  refine pl_get (v := .int v1_1) hx hb hts (fun w h => mT (inX6 w h)) hown hG.1 hP (hst.1 13 (by decide)) hf2 rfl 1 (by decide) (hts _ (mT wg_295)) (fun _ h => h) rfl dX3_trueLetter_1 ?_
  have hJ27 : ∀ (y27_s0 : Int32) (H : Heap) (locs : List Loc) (ls : Array Slot), In y27_s0 0 1 → va_P g.1 vwCl (va_pl L f) H → va_D A (va_pl L f) → va_S A s.heap H locs → lv_has ls 5 [(0, .ref (cr ad j 0)), (1, .ref (ad 6)), (2, .ref (ad 13)), (3, .int z3)] → W p l e rm_X3_trueLetter_co_pn s m [.ref (cr ad j 0), .ref (ad 6), .ref (ad 13), .int z3].toArray below meth c H locs 0 0 (MQ below (va_Qi (po_X3_trueLetter_co_pn g ad th L f j z3) (PstB g A) A) [.ref (cr ad j 0), .ref (ad 6), .ref (ad 13), .int z3].toArray s rm_X3_trueLetter_co_pn.cells rm_X3_trueLetter_co_pn.slots A) (F0 m 27 ls [.int y27_s0]) := by
    intro y27_s0 H locs ls hy27_s0 hP hD hS hl
    refine lv_istore (lv' := [(4, .int y27_s0), (0, .ref (cr ad j 0)), (1, .ref (ad 6)), (2, .ref (ad 13)), (3, .int z3)]) hx hb dX3_trueLetter_27 hl (by decide) rfl (fun ls hl => ?_)
    refine lv_iload hx hb dX3_trueLetter_29 (lv_at hl 0 rfl) ?_
    refine lv_if_eq (tgt := 45) hx hb dX3_trueLetter_31 (by decide) (fun c3 => ?_) (fun c3 => ?_)
    ·
      have cc4 : y27_s0.toInt = (0 : Int32).toInt := congrArg Int32.toInt c3
      have hb5 : In y27_s0 0 0 := In.eq1 hy27_s0 (⟨by decide, by decide⟩ : In 0 0 0) cc4 (by omega) (by omega)
      refine lv_aload_n hx hb dX3_trueLetter_45 rfl (lv_at hl 1 rfl) ?_
      obtain ⟨v0_6, v1_6, v2_6, v3_6, v4_6, v5_6, v6_6, v7_6, v8_6, hf7, hv1_6, hg1_6, hv2_6, hg2_6, hv6_6⟩ := hT.2.1 j hj 0 (by decide)
      refine pl_get (v := .ref (cr ad j 5)) hx hb hts (fun w h => mT (inX3 w h)) hown hG.1 hP (hst.c hj (by decide)) hf7 rfl 13 (by decide) (hts _ (mT wg_356)) (fun _ h => h) rfl dX3_trueLetter_46 ?_
      refine lv_aload_n hx hb dX3_trueLetter_49 rfl (lv_at hl 3 rfl) ?_
      refine pl_get (v := .int v0_1) hx hb hts (fun w h => mT (inX6 w h)) hown hG.1 hP (hst.1 13 (by decide)) hf2 rfl 0 (by decide) (hts _ (mT wg_292)) (fun _ h => h) rfl dX3_trueLetter_50 ?_
      obtain ⟨rw8, hf9⟩ := hT.2.1 j hj 5 (by decide)
      have hin10 : vp_in v0_1 6 := In.inb hv0_1 (by decide) (by decide)
      refine pl_lald hx hb hG.1 hP (hst.c hj (by decide)) 1 hf9 rfl hin10 dX3_trueLetter_53 ?_
      refine lv_topl (fun x11 ex11 => ?_)
      refine lv_iload_n hx hb dX3_trueLetter_54 rfl (lv_at hl 4 rfl) ?_
      refine call_i (run_SN (rm := rm_X10_nibble) hx hb hml hown hts (s_X10_nibble l g ad th _ _ _ x11 z3 hst hT ) cS_X10_nibble wn_795 ⟨Nat.le_of_ble_eq_true rfl, Nat.le_of_ble_eq_true rfl⟩ hG hE hA hP hD hS rfl hl.1 (As := [.long x11, .int z3]) (rest := []) rfl (Nat.le_of_ble_eq_true rfl) dX3_trueLetter_55 ⟨Nat.le_of_ble_eq_true rfl, Nat.le_of_ble_eq_true rfl⟩) hA hD hS (fun r12 L13 f14 H locs hp15 hP hD hS => ?_)
      obtain ⟨eL16L, eL16T, eL16R⟩ := hp15
      have eL16L : L13 = L := eL16L
      have eL16T : f14 = f := eL16T
      rw [eL16L, eL16T] at hP hD
      have eL16R : In r12 0 15 := eL16R
      exact ret_i (ty := .int) hx hb hr hlocks (rfl) hP hD hS (Nat.le_of_ble_eq_true rfl) (Nat.le_of_ble_eq_true rfl) (⟨rfl, rfl⟩) dX3_trueLetter_58
    ·
      have cc17 : y27_s0.toInt ≠ (0 : Int32).toInt := i32_ne c3
      have hb18 : In y27_s0 1 1 := In.ne1 hy27_s0 (⟨by decide, by decide⟩ : In 0 0 0) cc17 (by omega) (by omega)
      refine lv_aload_n hx hb dX3_trueLetter_34 rfl (lv_at hl 1 rfl) ?_
      obtain ⟨v0_19, v1_19, v2_19, v3_19, v4_19, v5_19, v6_19, v7_19, v8_19, hf20, hv1_19, hg1_19, hv2_19, hg2_19, hv6_19⟩ := hT.2.1 j hj 0 (by decide)
      refine pl_get (v := .int v3_19) hx hb hts (fun w h => mT (inX3 w h)) hown hG.1 hP (hst.c hj (by decide)) hf20 rfl 3 (by decide) (hts _ (mT wg_342)) (fun _ h => h) rfl dX3_trueLetter_35 ?_
      refine lv_iload_n hx hb dX3_trueLetter_38 rfl (lv_at hl 4 rfl) ?_
      refine call_i (run_SN (rm := rm_X10_bit) hx hb hml hown hts (s_X10_bit l g ad th _ _ _ v3_19 z3 hst hT ) cS_X10_bit wn_794 ⟨Nat.le_of_ble_eq_true rfl, Nat.le_of_ble_eq_true rfl⟩ hG hE hA hP hD hS rfl hl.1 (As := [.int v3_19, .int z3]) (rest := []) rfl (Nat.le_of_ble_eq_true rfl) dX3_trueLetter_39 ⟨Nat.le_of_ble_eq_true rfl, Nat.le_of_ble_eq_true rfl⟩) hA hD hS (fun r21 L22 f23 H locs hp24 hP hD hS => ?_)
      obtain ⟨eL25L, eL25T, eL25R, eL25X0⟩ := hp24
      have eL25L : L22 = L := eL25L
      have eL25T : f23 = f := eL25T
      rw [eL25L, eL25T] at hP hD
      have eL25R : In r21 0 1 := eL25R
      refine lv_goto (tgt := 58) hx hb dX3_trueLetter_42 (by decide) ?_
      exact ret_i (ty := .int) hx hb hr hlocks (rfl) hP hD hS (Nat.le_of_ble_eq_true rfl) (Nat.le_of_ble_eq_true rfl) (⟨rfl, rfl⟩) dX3_trueLetter_58
  have hJ22 : ∀ (H : Heap) (locs : List Loc) (ls : Array Slot), va_P g.1 vwCl (va_pl L f) H → va_D A (va_pl L f) → va_S A s.heap H locs → lv_has ls 5 [(0, .ref (cr ad j 0)), (1, .ref (ad 6)), (2, .ref (ad 13)), (3, .int z3)] → W p l e rm_X3_trueLetter_co_pn s m [.ref (cr ad j 0), .ref (ad 6), .ref (ad 13), .int z3].toArray below meth c H locs 0 0 (MQ below (va_Qi (po_X3_trueLetter_co_pn g ad th L f j z3) (PstB g A) A) [.ref (cr ad j 0), .ref (ad 6), .ref (ad 13), .int z3].toArray s rm_X3_trueLetter_co_pn.cells rm_X3_trueLetter_co_pn.slots A) (F0 m 22 ls []) := by
    intro H locs ls hP hD hS hl
    refine lv_iconst (v := 1) hx hb dX3_trueLetter_22 (by decide) ?_
    refine lv_goto (tgt := 27) hx hb dX3_trueLetter_23 (by decide) ?_
    exact hJ27 1 _ _ _ (⟨by decide, by decide⟩ : In 1 0 1) hP hD hS (lv_sub hl [0, 1, 2, 3] rfl)
  refine lv_if_eq (tgt := 22) hx hb dX3_trueLetter_4 (by decide) (fun c26 => ?_) (fun c26 => ?_)
  ·
    have cc27 : v1_1.toInt = (0 : Int32).toInt := congrArg Int32.toInt c26
    have hb28 : In v1_1 0 0 := In.eq1 hv1_1 (⟨by decide, by decide⟩ : In 0 0 0) cc27 (by omega) (by omega)
    exact hJ22 _ _ _ hP hD hS (lv_sub hl [0, 1, 2, 3] rfl)
  ·
    have cc29 : v1_1.toInt ≠ (0 : Int32).toInt := i32_ne c26
    have hb30 : In v1_1 1 2 := In.ne1 hv1_1 (⟨by decide, by decide⟩ : In 0 0 0) cc29 (by omega) (by omega)
    refine lv_aload_n hx hb dX3_trueLetter_7 rfl (lv_at hl 1 rfl) ?_
    obtain ⟨v0_31, v1_31, v2_31, v3_31, v4_31, v5_31, v6_31, v7_31, hf32, hv0_31, hg0_31, hv1_31, hg1_31, hv2_31, hv3_31, hv5_31, hv6_31, hrel0_31⟩ := hT.1 6 (by decide)
    refine pl_getN (v := .int v0_31) hx hb hts (fun w h => mT (inX2 w h)) hown hG.1 hP (hst.1 6 (by decide)) hf32 rfl 0 (by decide) (hG.2.1 _ wn_227) (fun _ h => h) rfl dX3_trueLetter_8 ?_
    have hJ26 : ∀ (H : Heap) (locs : List Loc) (ls : Array Slot), va_P g.1 vwCl (va_pl L f) H → va_D A (va_pl L f) → va_S A s.heap H locs → lv_has ls 5 [(0, .ref (cr ad j 0)), (1, .ref (ad 6)), (2, .ref (ad 13)), (3, .int z3)] → W p l e rm_X3_trueLetter_co_pn s m [.ref (cr ad j 0), .ref (ad 6), .ref (ad 13), .int z3].toArray below meth c H locs 0 0 (MQ below (va_Qi (po_X3_trueLetter_co_pn g ad th L f j z3) (PstB g A) A) [.ref (cr ad j 0), .ref (ad 6), .ref (ad 13), .int z3].toArray s rm_X3_trueLetter_co_pn.cells rm_X3_trueLetter_co_pn.slots A) (F0 m 26 ls []) := by
      intro H locs ls hP hD hS hl
      refine lv_iconst (v := 0) hx hb dX3_trueLetter_26 (by decide) ?_
      exact hJ27 0 _ _ _ (⟨by decide, by decide⟩ : In 0 0 1) hP hD hS (lv_sub hl [0, 1, 2, 3] rfl)
    refine lv_if_ne (tgt := 26) hx hb dX3_trueLetter_11 (by decide) (fun c33 => ?_) (fun c33 => ?_)
    ·
      have cc34 : v0_31.toInt ≠ (0 : Int32).toInt := i32_ne c33
      have hb35 : In v0_31 1 1 := In.ne1 hv0_31 (⟨by decide, by decide⟩ : In 0 0 0) cc34 (by omega) (by omega)
      exact hJ26 _ _ _ hP hD hS (lv_sub hl [0, 1, 2, 3] rfl)
    ·
      have cc36 : v0_31.toInt = (0 : Int32).toInt := congrArg Int32.toInt c33
      have hb37 : In v0_31 0 0 := In.eq1 hv0_31 (⟨by decide, by decide⟩ : In 0 0 0) cc36 (by omega) (by omega)
      refine lv_aload_n hx hb dX3_trueLetter_14 rfl (lv_at hl 2 rfl) ?_
      refine pl_get (v := .int v1_1) hx hb hts (fun w h => mT (inX6 w h)) hown hG.1 hP (hst.1 13 (by decide)) hf2 rfl 1 (by decide) (hts _ (mT wg_295)) (fun _ h => h) rfl dX3_trueLetter_15 ?_
      refine lv_iconst (v := 2) hx hb dX3_trueLetter_18 (by decide) ?_
      refine lv_icmp_ne (tgt := 26) hx hb dX3_trueLetter_19 (by decide) (fun c38 => ?_) (fun c38 => ?_)
      ·
        have cc39 : v1_1.toInt ≠ (2 : Int32).toInt := i32_ne c38
        have hb40 : In v1_1 1 1 := In.ne1 hb30 (⟨by decide, by decide⟩ : In 2 2 2) cc39 (by omega) (by omega)
        exact hJ26 _ _ _ hP hD hS (lv_sub hl [0, 1, 2, 3] rfl)
      ·
        have cc41 : v1_1.toInt = (2 : Int32).toInt := congrArg Int32.toInt c38
        have hb42 : In v1_1 2 2 := In.eq1 hb30 (⟨by decide, by decide⟩ : In 2 2 2) cc41 (by omega) (by omega)
        exact hJ22 _ _ _ hP hD hS (lv_sub hl [0, 1, 2, 3] rfl)

abbrev rm_X3_trueLetter_ot_pn : Room := { frames := 1, cells := 0, slots := 0, locals := 22 }
abbrev po_X3_trueLetter_ot_pn (g : GG) (ad : Nat → Nat) (th : Nat → Int) (L : List Nat) (f : HP) (j : Nat) (z3 : Int32) : Int32 → (List Nat × HP) → Prop := fun _ u => u.1 = L ∧ u.2 = f
set_option maxHeartbeats 4000000 in
set_option maxRecDepth 100000 in
theorem s_X3_trueLetter_ot_pn (l : Launch) (g : GG) (ad : Nat → Nat) (th : Nat → Int) (L : List Nat) (f : HP) (sz : Nat) (j : Nat) (z3 : Int32) (hst : ST ad L) (hT : TI g ad th f) (hj : j < 23) : MtI l g yX3_trueLetter cX3_trueLetter 5 (some .int) rm_X3_trueLetter_ot_pn [.ref (cr ad j 0), .ref (ad 7), .ref (ad 13), .int z3] L f sz (po_X3_trueLetter_ot_pn g ad th L f j z3) := by
  refine MtI.of (by decide +kernel) (Nat.le_of_ble_eq_true rfl) ?_
  intro p e s m below meth c A hEn hP hD hS ls hl
  obtain ⟨hx, hb, hr, hml, hown, hlocks, hts, hG, hA, hE, hnm⟩ := hEn
  have hown : s.vm.findClass "RulerWord$Course" = some m.cls := hown
  have hl : lv_has ls 5 [(0, .ref (cr ad j 0)), (1, .ref (ad 7)), (2, .ref (ad 13)), (3, .int z3)] := hl
  refine lv_aload_n hx hb dX3_trueLetter_0 rfl (lv_at hl 2 rfl) ?_
  obtain ⟨v0_1, v1_1, hf2, hv0_1, hv1_1⟩ := hT.1 13 (by decide)
  refine pl_get (v := .int v1_1) hx hb hts (fun w h => mT (inX6 w h)) hown hG.1 hP (hst.1 13 (by decide)) hf2 rfl 1 (by decide) (hts _ (mT wg_295)) (fun _ h => h) rfl dX3_trueLetter_1 ?_
  have hJ27 : ∀ (y27_s0 : Int32) (H : Heap) (locs : List Loc) (ls : Array Slot), In y27_s0 0 1 → va_P g.1 vwCl (va_pl L f) H → va_D A (va_pl L f) → va_S A s.heap H locs → lv_has ls 5 [(0, .ref (cr ad j 0)), (1, .ref (ad 7)), (2, .ref (ad 13)), (3, .int z3)] → W p l e rm_X3_trueLetter_ot_pn s m [.ref (cr ad j 0), .ref (ad 7), .ref (ad 13), .int z3].toArray below meth c H locs 0 0 (MQ below (va_Qi (po_X3_trueLetter_ot_pn g ad th L f j z3) (PstB g A) A) [.ref (cr ad j 0), .ref (ad 7), .ref (ad 13), .int z3].toArray s rm_X3_trueLetter_ot_pn.cells rm_X3_trueLetter_ot_pn.slots A) (F0 m 27 ls [.int y27_s0]) := by
    intro y27_s0 H locs ls hy27_s0 hP hD hS hl
    refine lv_istore (lv' := [(4, .int y27_s0), (0, .ref (cr ad j 0)), (1, .ref (ad 7)), (2, .ref (ad 13)), (3, .int z3)]) hx hb dX3_trueLetter_27 hl (by decide) rfl (fun ls hl => ?_)
    refine lv_iload hx hb dX3_trueLetter_29 (lv_at hl 0 rfl) ?_
    refine lv_if_eq (tgt := 45) hx hb dX3_trueLetter_31 (by decide) (fun c3 => ?_) (fun c3 => ?_)
    ·
      have cc4 : y27_s0.toInt = (0 : Int32).toInt := congrArg Int32.toInt c3
      have hb5 : In y27_s0 0 0 := In.eq1 hy27_s0 (⟨by decide, by decide⟩ : In 0 0 0) cc4 (by omega) (by omega)
      refine lv_aload_n hx hb dX3_trueLetter_45 rfl (lv_at hl 1 rfl) ?_
      obtain ⟨v0_6, v1_6, v2_6, v3_6, v4_6, v5_6, v6_6, v7_6, v8_6, hf7, hv1_6, hg1_6, hv2_6, hg2_6, hv6_6⟩ := hT.2.1 j hj 0 (by decide)
      refine pl_get (v := .ref (cr ad j 5)) hx hb hts (fun w h => mT (inX3 w h)) hown hG.1 hP (hst.c hj (by decide)) hf7 rfl 13 (by decide) (hts _ (mT wg_356)) (fun _ h => h) rfl dX3_trueLetter_46 ?_
      refine lv_aload_n hx hb dX3_trueLetter_49 rfl (lv_at hl 3 rfl) ?_
      refine pl_get (v := .int v0_1) hx hb hts (fun w h => mT (inX6 w h)) hown hG.1 hP (hst.1 13 (by decide)) hf2 rfl 0 (by decide) (hts _ (mT wg_292)) (fun _ h => h) rfl dX3_trueLetter_50 ?_
      obtain ⟨rw8, hf9⟩ := hT.2.1 j hj 5 (by decide)
      have hin10 : vp_in v0_1 6 := In.inb hv0_1 (by decide) (by decide)
      refine pl_lald hx hb hG.1 hP (hst.c hj (by decide)) 1 hf9 rfl hin10 dX3_trueLetter_53 ?_
      refine lv_topl (fun x11 ex11 => ?_)
      refine lv_iload_n hx hb dX3_trueLetter_54 rfl (lv_at hl 4 rfl) ?_
      refine call_i (run_SN (rm := rm_X10_nibble) hx hb hml hown hts (s_X10_nibble l g ad th _ _ _ x11 z3 hst hT ) cS_X10_nibble wn_795 ⟨Nat.le_of_ble_eq_true rfl, Nat.le_of_ble_eq_true rfl⟩ hG hE hA hP hD hS rfl hl.1 (As := [.long x11, .int z3]) (rest := []) rfl (Nat.le_of_ble_eq_true rfl) dX3_trueLetter_55 ⟨Nat.le_of_ble_eq_true rfl, Nat.le_of_ble_eq_true rfl⟩) hA hD hS (fun r12 L13 f14 H locs hp15 hP hD hS => ?_)
      obtain ⟨eL16L, eL16T, eL16R⟩ := hp15
      have eL16L : L13 = L := eL16L
      have eL16T : f14 = f := eL16T
      rw [eL16L, eL16T] at hP hD
      have eL16R : In r12 0 15 := eL16R
      exact ret_i (ty := .int) hx hb hr hlocks (rfl) hP hD hS (Nat.le_of_ble_eq_true rfl) (Nat.le_of_ble_eq_true rfl) (⟨rfl, rfl⟩) dX3_trueLetter_58
    ·
      have cc17 : y27_s0.toInt ≠ (0 : Int32).toInt := i32_ne c3
      have hb18 : In y27_s0 1 1 := In.ne1 hy27_s0 (⟨by decide, by decide⟩ : In 0 0 0) cc17 (by omega) (by omega)
      refine lv_aload_n hx hb dX3_trueLetter_34 rfl (lv_at hl 1 rfl) ?_
      obtain ⟨v0_19, v1_19, v2_19, v3_19, v4_19, v5_19, v6_19, v7_19, v8_19, hf20, hv1_19, hg1_19, hv2_19, hg2_19, hv6_19⟩ := hT.2.1 j hj 0 (by decide)
      refine pl_get (v := .int v3_19) hx hb hts (fun w h => mT (inX3 w h)) hown hG.1 hP (hst.c hj (by decide)) hf20 rfl 3 (by decide) (hts _ (mT wg_342)) (fun _ h => h) rfl dX3_trueLetter_35 ?_
      refine lv_iload_n hx hb dX3_trueLetter_38 rfl (lv_at hl 4 rfl) ?_
      refine call_i (run_SN (rm := rm_X10_bit) hx hb hml hown hts (s_X10_bit l g ad th _ _ _ v3_19 z3 hst hT ) cS_X10_bit wn_794 ⟨Nat.le_of_ble_eq_true rfl, Nat.le_of_ble_eq_true rfl⟩ hG hE hA hP hD hS rfl hl.1 (As := [.int v3_19, .int z3]) (rest := []) rfl (Nat.le_of_ble_eq_true rfl) dX3_trueLetter_39 ⟨Nat.le_of_ble_eq_true rfl, Nat.le_of_ble_eq_true rfl⟩) hA hD hS (fun r21 L22 f23 H locs hp24 hP hD hS => ?_)
      obtain ⟨eL25L, eL25T, eL25R, eL25X0⟩ := hp24
      have eL25L : L22 = L := eL25L
      have eL25T : f23 = f := eL25T
      rw [eL25L, eL25T] at hP hD
      have eL25R : In r21 0 1 := eL25R
      refine lv_goto (tgt := 58) hx hb dX3_trueLetter_42 (by decide) ?_
      exact ret_i (ty := .int) hx hb hr hlocks (rfl) hP hD hS (Nat.le_of_ble_eq_true rfl) (Nat.le_of_ble_eq_true rfl) (⟨rfl, rfl⟩) dX3_trueLetter_58
  have hJ22 : ∀ (H : Heap) (locs : List Loc) (ls : Array Slot), va_P g.1 vwCl (va_pl L f) H → va_D A (va_pl L f) → va_S A s.heap H locs → lv_has ls 5 [(0, .ref (cr ad j 0)), (1, .ref (ad 7)), (2, .ref (ad 13)), (3, .int z3)] → W p l e rm_X3_trueLetter_ot_pn s m [.ref (cr ad j 0), .ref (ad 7), .ref (ad 13), .int z3].toArray below meth c H locs 0 0 (MQ below (va_Qi (po_X3_trueLetter_ot_pn g ad th L f j z3) (PstB g A) A) [.ref (cr ad j 0), .ref (ad 7), .ref (ad 13), .int z3].toArray s rm_X3_trueLetter_ot_pn.cells rm_X3_trueLetter_ot_pn.slots A) (F0 m 22 ls []) := by
    intro H locs ls hP hD hS hl
    refine lv_iconst (v := 1) hx hb dX3_trueLetter_22 (by decide) ?_
    refine lv_goto (tgt := 27) hx hb dX3_trueLetter_23 (by decide) ?_
    exact hJ27 1 _ _ _ (⟨by decide, by decide⟩ : In 1 0 1) hP hD hS (lv_sub hl [0, 1, 2, 3] rfl)
  refine lv_if_eq (tgt := 22) hx hb dX3_trueLetter_4 (by decide) (fun c26 => ?_) (fun c26 => ?_)
  ·
    have cc27 : v1_1.toInt = (0 : Int32).toInt := congrArg Int32.toInt c26
    have hb28 : In v1_1 0 0 := In.eq1 hv1_1 (⟨by decide, by decide⟩ : In 0 0 0) cc27 (by omega) (by omega)
    exact hJ22 _ _ _ hP hD hS (lv_sub hl [0, 1, 2, 3] rfl)
  ·
    have cc29 : v1_1.toInt ≠ (0 : Int32).toInt := i32_ne c26
    have hb30 : In v1_1 1 2 := In.ne1 hv1_1 (⟨by decide, by decide⟩ : In 0 0 0) cc29 (by omega) (by omega)
    refine lv_aload_n hx hb dX3_trueLetter_7 rfl (lv_at hl 1 rfl) ?_
    obtain ⟨v0_31, v1_31, v2_31, v3_31, v4_31, v5_31, v6_31, v7_31, hf32, hv0_31, hg0_31, hv1_31, hv2_31, hv3_31, hv5_31, hv6_31⟩ := hT.1 7 (by decide)
    refine pl_getN (v := .int v0_31) hx hb hts (fun w h => mT (inX2 w h)) hown hG.1 hP (hst.1 7 (by decide)) hf32 rfl 0 (by decide) (hG.2.1 _ wn_227) (fun _ h => h) rfl dX3_trueLetter_8 ?_
    have hJ26 : ∀ (H : Heap) (locs : List Loc) (ls : Array Slot), va_P g.1 vwCl (va_pl L f) H → va_D A (va_pl L f) → va_S A s.heap H locs → lv_has ls 5 [(0, .ref (cr ad j 0)), (1, .ref (ad 7)), (2, .ref (ad 13)), (3, .int z3)] → W p l e rm_X3_trueLetter_ot_pn s m [.ref (cr ad j 0), .ref (ad 7), .ref (ad 13), .int z3].toArray below meth c H locs 0 0 (MQ below (va_Qi (po_X3_trueLetter_ot_pn g ad th L f j z3) (PstB g A) A) [.ref (cr ad j 0), .ref (ad 7), .ref (ad 13), .int z3].toArray s rm_X3_trueLetter_ot_pn.cells rm_X3_trueLetter_ot_pn.slots A) (F0 m 26 ls []) := by
      intro H locs ls hP hD hS hl
      refine lv_iconst (v := 0) hx hb dX3_trueLetter_26 (by decide) ?_
      exact hJ27 0 _ _ _ (⟨by decide, by decide⟩ : In 0 0 1) hP hD hS (lv_sub hl [0, 1, 2, 3] rfl)
    refine lv_if_ne (tgt := 26) hx hb dX3_trueLetter_11 (by decide) (fun c33 => ?_) (fun c33 => ?_)
    ·
      have cc34 : v0_31.toInt ≠ (0 : Int32).toInt := i32_ne c33
      have hb35 : In v0_31 1 1 := In.ne1 hv0_31 (⟨by decide, by decide⟩ : In 0 0 0) cc34 (by omega) (by omega)
      exact hJ26 _ _ _ hP hD hS (lv_sub hl [0, 1, 2, 3] rfl)
    ·
      have cc36 : v0_31.toInt = (0 : Int32).toInt := congrArg Int32.toInt c33
      have hb37 : In v0_31 0 0 := In.eq1 hv0_31 (⟨by decide, by decide⟩ : In 0 0 0) cc36 (by omega) (by omega)
      refine lv_aload_n hx hb dX3_trueLetter_14 rfl (lv_at hl 2 rfl) ?_
      refine pl_get (v := .int v1_1) hx hb hts (fun w h => mT (inX6 w h)) hown hG.1 hP (hst.1 13 (by decide)) hf2 rfl 1 (by decide) (hts _ (mT wg_295)) (fun _ h => h) rfl dX3_trueLetter_15 ?_
      refine lv_iconst (v := 2) hx hb dX3_trueLetter_18 (by decide) ?_
      refine lv_icmp_ne (tgt := 26) hx hb dX3_trueLetter_19 (by decide) (fun c38 => ?_) (fun c38 => ?_)
      ·
        have cc39 : v1_1.toInt ≠ (2 : Int32).toInt := i32_ne c38
        have hb40 : In v1_1 1 1 := In.ne1 hb30 (⟨by decide, by decide⟩ : In 2 2 2) cc39 (by omega) (by omega)
        exact hJ26 _ _ _ hP hD hS (lv_sub hl [0, 1, 2, 3] rfl)
      ·
        have cc41 : v1_1.toInt = (2 : Int32).toInt := congrArg Int32.toInt c38
        have hb42 : In v1_1 2 2 := In.eq1 hb30 (⟨by decide, by decide⟩ : In 2 2 2) cc41 (by omega) (by omega)
        exact hJ22 _ _ _ hP hD hS (lv_sub hl [0, 1, 2, 3] rfl)

abbrev rm_X3_trueLetter_co_ch : Room := { frames := 1, cells := 0, slots := 0, locals := 22 }
abbrev po_X3_trueLetter_co_ch (g : GG) (ad : Nat → Nat) (th : Nat → Int) (L : List Nat) (f : HP) (j : Nat) (z3 : Int32) : Int32 → (List Nat × HP) → Prop := fun _ u => u.1 = L ∧ u.2 = f
set_option maxHeartbeats 4000000 in
set_option maxRecDepth 100000 in
theorem s_X3_trueLetter_co_ch (l : Launch) (g : GG) (ad : Nat → Nat) (th : Nat → Int) (L : List Nat) (f : HP) (sz : Nat) (j : Nat) (z3 : Int32) (hst : ST ad L) (hT : TI g ad th f) (hj : j < 23) : MtI l g yX3_trueLetter cX3_trueLetter 5 (some .int) rm_X3_trueLetter_co_ch [.ref (cr ad j 0), .ref (ad 6), .ref (ad 14), .int z3] L f sz (po_X3_trueLetter_co_ch g ad th L f j z3) := by
  refine MtI.of (by decide +kernel) (Nat.le_of_ble_eq_true rfl) ?_
  intro p e s m below meth c A hEn hP hD hS ls hl
  obtain ⟨hx, hb, hr, hml, hown, hlocks, hts, hG, hA, hE, hnm⟩ := hEn
  have hown : s.vm.findClass "RulerWord$Course" = some m.cls := hown
  have hl : lv_has ls 5 [(0, .ref (cr ad j 0)), (1, .ref (ad 6)), (2, .ref (ad 14)), (3, .int z3)] := hl
  refine lv_aload_n hx hb dX3_trueLetter_0 rfl (lv_at hl 2 rfl) ?_
  obtain ⟨v0_1, v1_1, hf2, hv0_1, hv1_1⟩ := hT.1 14 (by decide)
  refine pl_get (v := .int v1_1) hx hb hts (fun w h => mT (inX1 w h)) hown hG.1 hP (hst.1 14 (by decide)) hf2 rfl 1 (by decide) (hts _ (mT wg_295)) (fun _ h => h) rfl dX3_trueLetter_1 ?_
  have hJ27 : ∀ (y27_s0 : Int32) (H : Heap) (locs : List Loc) (ls : Array Slot), In y27_s0 0 1 → va_P g.1 vwCl (va_pl L f) H → va_D A (va_pl L f) → va_S A s.heap H locs → lv_has ls 5 [(0, .ref (cr ad j 0)), (1, .ref (ad 6)), (2, .ref (ad 14)), (3, .int z3)] → W p l e rm_X3_trueLetter_co_ch s m [.ref (cr ad j 0), .ref (ad 6), .ref (ad 14), .int z3].toArray below meth c H locs 0 0 (MQ below (va_Qi (po_X3_trueLetter_co_ch g ad th L f j z3) (PstB g A) A) [.ref (cr ad j 0), .ref (ad 6), .ref (ad 14), .int z3].toArray s rm_X3_trueLetter_co_ch.cells rm_X3_trueLetter_co_ch.slots A) (F0 m 27 ls [.int y27_s0]) := by
    intro y27_s0 H locs ls hy27_s0 hP hD hS hl
    refine lv_istore (lv' := [(4, .int y27_s0), (0, .ref (cr ad j 0)), (1, .ref (ad 6)), (2, .ref (ad 14)), (3, .int z3)]) hx hb dX3_trueLetter_27 hl (by decide) rfl (fun ls hl => ?_)
    refine lv_iload hx hb dX3_trueLetter_29 (lv_at hl 0 rfl) ?_
    refine lv_if_eq (tgt := 45) hx hb dX3_trueLetter_31 (by decide) (fun c3 => ?_) (fun c3 => ?_)
    ·
      have cc4 : y27_s0.toInt = (0 : Int32).toInt := congrArg Int32.toInt c3
      have hb5 : In y27_s0 0 0 := In.eq1 hy27_s0 (⟨by decide, by decide⟩ : In 0 0 0) cc4 (by omega) (by omega)
      refine lv_aload_n hx hb dX3_trueLetter_45 rfl (lv_at hl 1 rfl) ?_
      obtain ⟨v0_6, v1_6, v2_6, v3_6, v4_6, v5_6, v6_6, v7_6, v8_6, hf7, hv1_6, hg1_6, hv2_6, hg2_6, hv6_6⟩ := hT.2.1 j hj 0 (by decide)
      refine pl_get (v := .ref (cr ad j 5)) hx hb hts (fun w h => mT (inX3 w h)) hown hG.1 hP (hst.c hj (by decide)) hf7 rfl 13 (by decide) (hts _ (mT wg_356)) (fun _ h => h) rfl dX3_trueLetter_46 ?_
      refine lv_aload_n hx hb dX3_trueLetter_49 rfl (lv_at hl 3 rfl) ?_
      refine pl_get (v := .int v0_1) hx hb hts (fun w h => mT (inX1 w h)) hown hG.1 hP (hst.1 14 (by decide)) hf2 rfl 0 (by decide) (hts _ (mT wg_292)) (fun _ h => h) rfl dX3_trueLetter_50 ?_
      obtain ⟨rw8, hf9⟩ := hT.2.1 j hj 5 (by decide)
      have hin10 : vp_in v0_1 6 := In.inb hv0_1 (by decide) (by decide)
      refine pl_lald hx hb hG.1 hP (hst.c hj (by decide)) 1 hf9 rfl hin10 dX3_trueLetter_53 ?_
      refine lv_topl (fun x11 ex11 => ?_)
      refine lv_iload_n hx hb dX3_trueLetter_54 rfl (lv_at hl 4 rfl) ?_
      refine call_i (run_SN (rm := rm_X10_nibble) hx hb hml hown hts (s_X10_nibble l g ad th _ _ _ x11 z3 hst hT ) cS_X10_nibble wn_795 ⟨Nat.le_of_ble_eq_true rfl, Nat.le_of_ble_eq_true rfl⟩ hG hE hA hP hD hS rfl hl.1 (As := [.long x11, .int z3]) (rest := []) rfl (Nat.le_of_ble_eq_true rfl) dX3_trueLetter_55 ⟨Nat.le_of_ble_eq_true rfl, Nat.le_of_ble_eq_true rfl⟩) hA hD hS (fun r12 L13 f14 H locs hp15 hP hD hS => ?_)
      obtain ⟨eL16L, eL16T, eL16R⟩ := hp15
      have eL16L : L13 = L := eL16L
      have eL16T : f14 = f := eL16T
      rw [eL16L, eL16T] at hP hD
      have eL16R : In r12 0 15 := eL16R
      exact ret_i (ty := .int) hx hb hr hlocks (rfl) hP hD hS (Nat.le_of_ble_eq_true rfl) (Nat.le_of_ble_eq_true rfl) (⟨rfl, rfl⟩) dX3_trueLetter_58
    ·
      have cc17 : y27_s0.toInt ≠ (0 : Int32).toInt := i32_ne c3
      have hb18 : In y27_s0 1 1 := In.ne1 hy27_s0 (⟨by decide, by decide⟩ : In 0 0 0) cc17 (by omega) (by omega)
      refine lv_aload_n hx hb dX3_trueLetter_34 rfl (lv_at hl 1 rfl) ?_
      obtain ⟨v0_19, v1_19, v2_19, v3_19, v4_19, v5_19, v6_19, v7_19, v8_19, hf20, hv1_19, hg1_19, hv2_19, hg2_19, hv6_19⟩ := hT.2.1 j hj 0 (by decide)
      refine pl_get (v := .int v3_19) hx hb hts (fun w h => mT (inX3 w h)) hown hG.1 hP (hst.c hj (by decide)) hf20 rfl 3 (by decide) (hts _ (mT wg_342)) (fun _ h => h) rfl dX3_trueLetter_35 ?_
      refine lv_iload_n hx hb dX3_trueLetter_38 rfl (lv_at hl 4 rfl) ?_
      refine call_i (run_SN (rm := rm_X10_bit) hx hb hml hown hts (s_X10_bit l g ad th _ _ _ v3_19 z3 hst hT ) cS_X10_bit wn_794 ⟨Nat.le_of_ble_eq_true rfl, Nat.le_of_ble_eq_true rfl⟩ hG hE hA hP hD hS rfl hl.1 (As := [.int v3_19, .int z3]) (rest := []) rfl (Nat.le_of_ble_eq_true rfl) dX3_trueLetter_39 ⟨Nat.le_of_ble_eq_true rfl, Nat.le_of_ble_eq_true rfl⟩) hA hD hS (fun r21 L22 f23 H locs hp24 hP hD hS => ?_)
      obtain ⟨eL25L, eL25T, eL25R, eL25X0⟩ := hp24
      have eL25L : L22 = L := eL25L
      have eL25T : f23 = f := eL25T
      rw [eL25L, eL25T] at hP hD
      have eL25R : In r21 0 1 := eL25R
      refine lv_goto (tgt := 58) hx hb dX3_trueLetter_42 (by decide) ?_
      exact ret_i (ty := .int) hx hb hr hlocks (rfl) hP hD hS (Nat.le_of_ble_eq_true rfl) (Nat.le_of_ble_eq_true rfl) (⟨rfl, rfl⟩) dX3_trueLetter_58
  have hJ22 : ∀ (H : Heap) (locs : List Loc) (ls : Array Slot), va_P g.1 vwCl (va_pl L f) H → va_D A (va_pl L f) → va_S A s.heap H locs → lv_has ls 5 [(0, .ref (cr ad j 0)), (1, .ref (ad 6)), (2, .ref (ad 14)), (3, .int z3)] → W p l e rm_X3_trueLetter_co_ch s m [.ref (cr ad j 0), .ref (ad 6), .ref (ad 14), .int z3].toArray below meth c H locs 0 0 (MQ below (va_Qi (po_X3_trueLetter_co_ch g ad th L f j z3) (PstB g A) A) [.ref (cr ad j 0), .ref (ad 6), .ref (ad 14), .int z3].toArray s rm_X3_trueLetter_co_ch.cells rm_X3_trueLetter_co_ch.slots A) (F0 m 22 ls []) := by
    intro H locs ls hP hD hS hl
    refine lv_iconst (v := 1) hx hb dX3_trueLetter_22 (by decide) ?_
    refine lv_goto (tgt := 27) hx hb dX3_trueLetter_23 (by decide) ?_
    exact hJ27 1 _ _ _ (⟨by decide, by decide⟩ : In 1 0 1) hP hD hS (lv_sub hl [0, 1, 2, 3] rfl)
  refine lv_if_eq (tgt := 22) hx hb dX3_trueLetter_4 (by decide) (fun c26 => ?_) (fun c26 => ?_)
  ·
    have cc27 : v1_1.toInt = (0 : Int32).toInt := congrArg Int32.toInt c26
    have hb28 : In v1_1 0 0 := In.eq1 hv1_1 (⟨by decide, by decide⟩ : In 0 0 0) cc27 (by omega) (by omega)
    exact hJ22 _ _ _ hP hD hS (lv_sub hl [0, 1, 2, 3] rfl)
  ·
    have cc29 : v1_1.toInt ≠ (0 : Int32).toInt := i32_ne c26
    have hb30 : In v1_1 1 2 := In.ne1 hv1_1 (⟨by decide, by decide⟩ : In 0 0 0) cc29 (by omega) (by omega)
    refine lv_aload_n hx hb dX3_trueLetter_7 rfl (lv_at hl 1 rfl) ?_
    obtain ⟨v0_31, v1_31, v2_31, v3_31, v4_31, v5_31, v6_31, v7_31, hf32, hv0_31, hg0_31, hv1_31, hg1_31, hv2_31, hv3_31, hv5_31, hv6_31, hrel0_31⟩ := hT.1 6 (by decide)
    refine pl_getN (v := .int v0_31) hx hb hts (fun w h => mT (inX2 w h)) hown hG.1 hP (hst.1 6 (by decide)) hf32 rfl 0 (by decide) (hG.2.1 _ wn_227) (fun _ h => h) rfl dX3_trueLetter_8 ?_
    have hJ26 : ∀ (H : Heap) (locs : List Loc) (ls : Array Slot), va_P g.1 vwCl (va_pl L f) H → va_D A (va_pl L f) → va_S A s.heap H locs → lv_has ls 5 [(0, .ref (cr ad j 0)), (1, .ref (ad 6)), (2, .ref (ad 14)), (3, .int z3)] → W p l e rm_X3_trueLetter_co_ch s m [.ref (cr ad j 0), .ref (ad 6), .ref (ad 14), .int z3].toArray below meth c H locs 0 0 (MQ below (va_Qi (po_X3_trueLetter_co_ch g ad th L f j z3) (PstB g A) A) [.ref (cr ad j 0), .ref (ad 6), .ref (ad 14), .int z3].toArray s rm_X3_trueLetter_co_ch.cells rm_X3_trueLetter_co_ch.slots A) (F0 m 26 ls []) := by
      intro H locs ls hP hD hS hl
      refine lv_iconst (v := 0) hx hb dX3_trueLetter_26 (by decide) ?_
      exact hJ27 0 _ _ _ (⟨by decide, by decide⟩ : In 0 0 1) hP hD hS (lv_sub hl [0, 1, 2, 3] rfl)
    refine lv_if_ne (tgt := 26) hx hb dX3_trueLetter_11 (by decide) (fun c33 => ?_) (fun c33 => ?_)
    ·
      have cc34 : v0_31.toInt ≠ (0 : Int32).toInt := i32_ne c33
      have hb35 : In v0_31 1 1 := In.ne1 hv0_31 (⟨by decide, by decide⟩ : In 0 0 0) cc34 (by omega) (by omega)
      exact hJ26 _ _ _ hP hD hS (lv_sub hl [0, 1, 2, 3] rfl)
    ·
      have cc36 : v0_31.toInt = (0 : Int32).toInt := congrArg Int32.toInt c33
      have hb37 : In v0_31 0 0 := In.eq1 hv0_31 (⟨by decide, by decide⟩ : In 0 0 0) cc36 (by omega) (by omega)
      refine lv_aload_n hx hb dX3_trueLetter_14 rfl (lv_at hl 2 rfl) ?_
      refine pl_get (v := .int v1_1) hx hb hts (fun w h => mT (inX1 w h)) hown hG.1 hP (hst.1 14 (by decide)) hf2 rfl 1 (by decide) (hts _ (mT wg_295)) (fun _ h => h) rfl dX3_trueLetter_15 ?_
      refine lv_iconst (v := 2) hx hb dX3_trueLetter_18 (by decide) ?_
      refine lv_icmp_ne (tgt := 26) hx hb dX3_trueLetter_19 (by decide) (fun c38 => ?_) (fun c38 => ?_)
      ·
        have cc39 : v1_1.toInt ≠ (2 : Int32).toInt := i32_ne c38
        have hb40 : In v1_1 1 1 := In.ne1 hb30 (⟨by decide, by decide⟩ : In 2 2 2) cc39 (by omega) (by omega)
        exact hJ26 _ _ _ hP hD hS (lv_sub hl [0, 1, 2, 3] rfl)
      ·
        have cc41 : v1_1.toInt = (2 : Int32).toInt := congrArg Int32.toInt c38
        have hb42 : In v1_1 2 2 := In.eq1 hb30 (⟨by decide, by decide⟩ : In 2 2 2) cc41 (by omega) (by omega)
        exact hJ22 _ _ _ hP hD hS (lv_sub hl [0, 1, 2, 3] rfl)

abbrev rm_X3_trueLetter_ot_ch : Room := { frames := 1, cells := 0, slots := 0, locals := 22 }
abbrev po_X3_trueLetter_ot_ch (g : GG) (ad : Nat → Nat) (th : Nat → Int) (L : List Nat) (f : HP) (j : Nat) (z3 : Int32) : Int32 → (List Nat × HP) → Prop := fun _ u => u.1 = L ∧ u.2 = f
set_option maxHeartbeats 4000000 in
set_option maxRecDepth 100000 in
theorem s_X3_trueLetter_ot_ch (l : Launch) (g : GG) (ad : Nat → Nat) (th : Nat → Int) (L : List Nat) (f : HP) (sz : Nat) (j : Nat) (z3 : Int32) (hst : ST ad L) (hT : TI g ad th f) (hj : j < 23) : MtI l g yX3_trueLetter cX3_trueLetter 5 (some .int) rm_X3_trueLetter_ot_ch [.ref (cr ad j 0), .ref (ad 7), .ref (ad 14), .int z3] L f sz (po_X3_trueLetter_ot_ch g ad th L f j z3) := by
  refine MtI.of (by decide +kernel) (Nat.le_of_ble_eq_true rfl) ?_
  intro p e s m below meth c A hEn hP hD hS ls hl
  obtain ⟨hx, hb, hr, hml, hown, hlocks, hts, hG, hA, hE, hnm⟩ := hEn
  have hown : s.vm.findClass "RulerWord$Course" = some m.cls := hown
  have hl : lv_has ls 5 [(0, .ref (cr ad j 0)), (1, .ref (ad 7)), (2, .ref (ad 14)), (3, .int z3)] := hl
  refine lv_aload_n hx hb dX3_trueLetter_0 rfl (lv_at hl 2 rfl) ?_
  obtain ⟨v0_1, v1_1, hf2, hv0_1, hv1_1⟩ := hT.1 14 (by decide)
  refine pl_get (v := .int v1_1) hx hb hts (fun w h => mT (inX1 w h)) hown hG.1 hP (hst.1 14 (by decide)) hf2 rfl 1 (by decide) (hts _ (mT wg_295)) (fun _ h => h) rfl dX3_trueLetter_1 ?_
  have hJ27 : ∀ (y27_s0 : Int32) (H : Heap) (locs : List Loc) (ls : Array Slot), In y27_s0 0 1 → va_P g.1 vwCl (va_pl L f) H → va_D A (va_pl L f) → va_S A s.heap H locs → lv_has ls 5 [(0, .ref (cr ad j 0)), (1, .ref (ad 7)), (2, .ref (ad 14)), (3, .int z3)] → W p l e rm_X3_trueLetter_ot_ch s m [.ref (cr ad j 0), .ref (ad 7), .ref (ad 14), .int z3].toArray below meth c H locs 0 0 (MQ below (va_Qi (po_X3_trueLetter_ot_ch g ad th L f j z3) (PstB g A) A) [.ref (cr ad j 0), .ref (ad 7), .ref (ad 14), .int z3].toArray s rm_X3_trueLetter_ot_ch.cells rm_X3_trueLetter_ot_ch.slots A) (F0 m 27 ls [.int y27_s0]) := by
    intro y27_s0 H locs ls hy27_s0 hP hD hS hl
    refine lv_istore (lv' := [(4, .int y27_s0), (0, .ref (cr ad j 0)), (1, .ref (ad 7)), (2, .ref (ad 14)), (3, .int z3)]) hx hb dX3_trueLetter_27 hl (by decide) rfl (fun ls hl => ?_)
    refine lv_iload hx hb dX3_trueLetter_29 (lv_at hl 0 rfl) ?_
    refine lv_if_eq (tgt := 45) hx hb dX3_trueLetter_31 (by decide) (fun c3 => ?_) (fun c3 => ?_)
    ·
      have cc4 : y27_s0.toInt = (0 : Int32).toInt := congrArg Int32.toInt c3
      have hb5 : In y27_s0 0 0 := In.eq1 hy27_s0 (⟨by decide, by decide⟩ : In 0 0 0) cc4 (by omega) (by omega)
      refine lv_aload_n hx hb dX3_trueLetter_45 rfl (lv_at hl 1 rfl) ?_
      obtain ⟨v0_6, v1_6, v2_6, v3_6, v4_6, v5_6, v6_6, v7_6, v8_6, hf7, hv1_6, hg1_6, hv2_6, hg2_6, hv6_6⟩ := hT.2.1 j hj 0 (by decide)
      refine pl_get (v := .ref (cr ad j 5)) hx hb hts (fun w h => mT (inX3 w h)) hown hG.1 hP (hst.c hj (by decide)) hf7 rfl 13 (by decide) (hts _ (mT wg_356)) (fun _ h => h) rfl dX3_trueLetter_46 ?_
      refine lv_aload_n hx hb dX3_trueLetter_49 rfl (lv_at hl 3 rfl) ?_
      refine pl_get (v := .int v0_1) hx hb hts (fun w h => mT (inX1 w h)) hown hG.1 hP (hst.1 14 (by decide)) hf2 rfl 0 (by decide) (hts _ (mT wg_292)) (fun _ h => h) rfl dX3_trueLetter_50 ?_
      obtain ⟨rw8, hf9⟩ := hT.2.1 j hj 5 (by decide)
      have hin10 : vp_in v0_1 6 := In.inb hv0_1 (by decide) (by decide)
      refine pl_lald hx hb hG.1 hP (hst.c hj (by decide)) 1 hf9 rfl hin10 dX3_trueLetter_53 ?_
      refine lv_topl (fun x11 ex11 => ?_)
      refine lv_iload_n hx hb dX3_trueLetter_54 rfl (lv_at hl 4 rfl) ?_
      refine call_i (run_SN (rm := rm_X10_nibble) hx hb hml hown hts (s_X10_nibble l g ad th _ _ _ x11 z3 hst hT ) cS_X10_nibble wn_795 ⟨Nat.le_of_ble_eq_true rfl, Nat.le_of_ble_eq_true rfl⟩ hG hE hA hP hD hS rfl hl.1 (As := [.long x11, .int z3]) (rest := []) rfl (Nat.le_of_ble_eq_true rfl) dX3_trueLetter_55 ⟨Nat.le_of_ble_eq_true rfl, Nat.le_of_ble_eq_true rfl⟩) hA hD hS (fun r12 L13 f14 H locs hp15 hP hD hS => ?_)
      obtain ⟨eL16L, eL16T, eL16R⟩ := hp15
      have eL16L : L13 = L := eL16L
      have eL16T : f14 = f := eL16T
      rw [eL16L, eL16T] at hP hD
      have eL16R : In r12 0 15 := eL16R
      exact ret_i (ty := .int) hx hb hr hlocks (rfl) hP hD hS (Nat.le_of_ble_eq_true rfl) (Nat.le_of_ble_eq_true rfl) (⟨rfl, rfl⟩) dX3_trueLetter_58
    ·
      have cc17 : y27_s0.toInt ≠ (0 : Int32).toInt := i32_ne c3
      have hb18 : In y27_s0 1 1 := In.ne1 hy27_s0 (⟨by decide, by decide⟩ : In 0 0 0) cc17 (by omega) (by omega)
      refine lv_aload_n hx hb dX3_trueLetter_34 rfl (lv_at hl 1 rfl) ?_
      obtain ⟨v0_19, v1_19, v2_19, v3_19, v4_19, v5_19, v6_19, v7_19, v8_19, hf20, hv1_19, hg1_19, hv2_19, hg2_19, hv6_19⟩ := hT.2.1 j hj 0 (by decide)
      refine pl_get (v := .int v3_19) hx hb hts (fun w h => mT (inX3 w h)) hown hG.1 hP (hst.c hj (by decide)) hf20 rfl 3 (by decide) (hts _ (mT wg_342)) (fun _ h => h) rfl dX3_trueLetter_35 ?_
      refine lv_iload_n hx hb dX3_trueLetter_38 rfl (lv_at hl 4 rfl) ?_
      refine call_i (run_SN (rm := rm_X10_bit) hx hb hml hown hts (s_X10_bit l g ad th _ _ _ v3_19 z3 hst hT ) cS_X10_bit wn_794 ⟨Nat.le_of_ble_eq_true rfl, Nat.le_of_ble_eq_true rfl⟩ hG hE hA hP hD hS rfl hl.1 (As := [.int v3_19, .int z3]) (rest := []) rfl (Nat.le_of_ble_eq_true rfl) dX3_trueLetter_39 ⟨Nat.le_of_ble_eq_true rfl, Nat.le_of_ble_eq_true rfl⟩) hA hD hS (fun r21 L22 f23 H locs hp24 hP hD hS => ?_)
      obtain ⟨eL25L, eL25T, eL25R, eL25X0⟩ := hp24
      have eL25L : L22 = L := eL25L
      have eL25T : f23 = f := eL25T
      rw [eL25L, eL25T] at hP hD
      have eL25R : In r21 0 1 := eL25R
      refine lv_goto (tgt := 58) hx hb dX3_trueLetter_42 (by decide) ?_
      exact ret_i (ty := .int) hx hb hr hlocks (rfl) hP hD hS (Nat.le_of_ble_eq_true rfl) (Nat.le_of_ble_eq_true rfl) (⟨rfl, rfl⟩) dX3_trueLetter_58
  have hJ22 : ∀ (H : Heap) (locs : List Loc) (ls : Array Slot), va_P g.1 vwCl (va_pl L f) H → va_D A (va_pl L f) → va_S A s.heap H locs → lv_has ls 5 [(0, .ref (cr ad j 0)), (1, .ref (ad 7)), (2, .ref (ad 14)), (3, .int z3)] → W p l e rm_X3_trueLetter_ot_ch s m [.ref (cr ad j 0), .ref (ad 7), .ref (ad 14), .int z3].toArray below meth c H locs 0 0 (MQ below (va_Qi (po_X3_trueLetter_ot_ch g ad th L f j z3) (PstB g A) A) [.ref (cr ad j 0), .ref (ad 7), .ref (ad 14), .int z3].toArray s rm_X3_trueLetter_ot_ch.cells rm_X3_trueLetter_ot_ch.slots A) (F0 m 22 ls []) := by
    intro H locs ls hP hD hS hl
    refine lv_iconst (v := 1) hx hb dX3_trueLetter_22 (by decide) ?_
    refine lv_goto (tgt := 27) hx hb dX3_trueLetter_23 (by decide) ?_
    exact hJ27 1 _ _ _ (⟨by decide, by decide⟩ : In 1 0 1) hP hD hS (lv_sub hl [0, 1, 2, 3] rfl)
  refine lv_if_eq (tgt := 22) hx hb dX3_trueLetter_4 (by decide) (fun c26 => ?_) (fun c26 => ?_)
  ·
    have cc27 : v1_1.toInt = (0 : Int32).toInt := congrArg Int32.toInt c26
    have hb28 : In v1_1 0 0 := In.eq1 hv1_1 (⟨by decide, by decide⟩ : In 0 0 0) cc27 (by omega) (by omega)
    exact hJ22 _ _ _ hP hD hS (lv_sub hl [0, 1, 2, 3] rfl)
  ·
    have cc29 : v1_1.toInt ≠ (0 : Int32).toInt := i32_ne c26
    have hb30 : In v1_1 1 2 := In.ne1 hv1_1 (⟨by decide, by decide⟩ : In 0 0 0) cc29 (by omega) (by omega)
    refine lv_aload_n hx hb dX3_trueLetter_7 rfl (lv_at hl 1 rfl) ?_
    obtain ⟨v0_31, v1_31, v2_31, v3_31, v4_31, v5_31, v6_31, v7_31, hf32, hv0_31, hg0_31, hv1_31, hv2_31, hv3_31, hv5_31, hv6_31⟩ := hT.1 7 (by decide)
    refine pl_getN (v := .int v0_31) hx hb hts (fun w h => mT (inX2 w h)) hown hG.1 hP (hst.1 7 (by decide)) hf32 rfl 0 (by decide) (hG.2.1 _ wn_227) (fun _ h => h) rfl dX3_trueLetter_8 ?_
    have hJ26 : ∀ (H : Heap) (locs : List Loc) (ls : Array Slot), va_P g.1 vwCl (va_pl L f) H → va_D A (va_pl L f) → va_S A s.heap H locs → lv_has ls 5 [(0, .ref (cr ad j 0)), (1, .ref (ad 7)), (2, .ref (ad 14)), (3, .int z3)] → W p l e rm_X3_trueLetter_ot_ch s m [.ref (cr ad j 0), .ref (ad 7), .ref (ad 14), .int z3].toArray below meth c H locs 0 0 (MQ below (va_Qi (po_X3_trueLetter_ot_ch g ad th L f j z3) (PstB g A) A) [.ref (cr ad j 0), .ref (ad 7), .ref (ad 14), .int z3].toArray s rm_X3_trueLetter_ot_ch.cells rm_X3_trueLetter_ot_ch.slots A) (F0 m 26 ls []) := by
      intro H locs ls hP hD hS hl
      refine lv_iconst (v := 0) hx hb dX3_trueLetter_26 (by decide) ?_
      exact hJ27 0 _ _ _ (⟨by decide, by decide⟩ : In 0 0 1) hP hD hS (lv_sub hl [0, 1, 2, 3] rfl)
    refine lv_if_ne (tgt := 26) hx hb dX3_trueLetter_11 (by decide) (fun c33 => ?_) (fun c33 => ?_)
    ·
      have cc34 : v0_31.toInt ≠ (0 : Int32).toInt := i32_ne c33
      have hb35 : In v0_31 1 1 := In.ne1 hv0_31 (⟨by decide, by decide⟩ : In 0 0 0) cc34 (by omega) (by omega)
      exact hJ26 _ _ _ hP hD hS (lv_sub hl [0, 1, 2, 3] rfl)
    ·
      have cc36 : v0_31.toInt = (0 : Int32).toInt := congrArg Int32.toInt c33
      have hb37 : In v0_31 0 0 := In.eq1 hv0_31 (⟨by decide, by decide⟩ : In 0 0 0) cc36 (by omega) (by omega)
      refine lv_aload_n hx hb dX3_trueLetter_14 rfl (lv_at hl 2 rfl) ?_
      refine pl_get (v := .int v1_1) hx hb hts (fun w h => mT (inX1 w h)) hown hG.1 hP (hst.1 14 (by decide)) hf2 rfl 1 (by decide) (hts _ (mT wg_295)) (fun _ h => h) rfl dX3_trueLetter_15 ?_
      refine lv_iconst (v := 2) hx hb dX3_trueLetter_18 (by decide) ?_
      refine lv_icmp_ne (tgt := 26) hx hb dX3_trueLetter_19 (by decide) (fun c38 => ?_) (fun c38 => ?_)
      ·
        have cc39 : v1_1.toInt ≠ (2 : Int32).toInt := i32_ne c38
        have hb40 : In v1_1 1 1 := In.ne1 hb30 (⟨by decide, by decide⟩ : In 2 2 2) cc39 (by omega) (by omega)
        exact hJ26 _ _ _ hP hD hS (lv_sub hl [0, 1, 2, 3] rfl)
      ·
        have cc41 : v1_1.toInt = (2 : Int32).toInt := congrArg Int32.toInt c38
        have hb42 : In v1_1 2 2 := In.eq1 hb30 (⟨by decide, by decide⟩ : In 2 2 2) cc41 (by omega) (by omega)
        exact hJ22 _ _ _ hP hD hS (lv_sub hl [0, 1, 2, 3] rfl)

abbrev rm_X3_trueLetter_co_fr : Room := { frames := 1, cells := 0, slots := 0, locals := 22 }
abbrev po_X3_trueLetter_co_fr (g : GG) (ad : Nat → Nat) (th : Nat → Int) (L : List Nat) (f : HP) (j : Nat) (z3 : Int32) : Int32 → (List Nat × HP) → Prop := fun _ u => u.1 = L ∧ u.2 = f
set_option maxHeartbeats 4000000 in
set_option maxRecDepth 100000 in
theorem s_X3_trueLetter_co_fr (l : Launch) (g : GG) (ad : Nat → Nat) (th : Nat → Int) (L : List Nat) (f : HP) (sz : Nat) (j : Nat) (z3 : Int32) (hst : ST ad L) (hT : TI g ad th f) (hj : j < 23) : MtI l g yX3_trueLetter cX3_trueLetter 5 (some .int) rm_X3_trueLetter_co_fr [.ref (cr ad j 0), .ref (ad 6), .ref (ad 15), .int z3] L f sz (po_X3_trueLetter_co_fr g ad th L f j z3) := by
  refine MtI.of (by decide +kernel) (Nat.le_of_ble_eq_true rfl) ?_
  intro p e s m below meth c A hEn hP hD hS ls hl
  obtain ⟨hx, hb, hr, hml, hown, hlocks, hts, hG, hA, hE, hnm⟩ := hEn
  have hown : s.vm.findClass "RulerWord$Course" = some m.cls := hown
  have hl : lv_has ls 5 [(0, .ref (cr ad j 0)), (1, .ref (ad 6)), (2, .ref (ad 15)), (3, .int z3)] := hl
  refine lv_aload_n hx hb dX3_trueLetter_0 rfl (lv_at hl 2 rfl) ?_
  obtain ⟨v0_1, v1_1, v2_1, v3_1, hf2, hv0_1, hv1_1⟩ := hT.1 15 (by decide)
  refine pl_get (v := .int v1_1) hx hb hts (fun w h => mT (inX4 w h)) hown hG.1 hP (hst.1 15 (by decide)) hf2 rfl 1 (by decide) (hts _ (mT wg_295)) (fun _ h => h) rfl dX3_trueLetter_1 ?_
  have hJ27 : ∀ (y27_s0 : Int32) (H : Heap) (locs : List Loc) (ls : Array Slot), In y27_s0 0 1 → va_P g.1 vwCl (va_pl L f) H → va_D A (va_pl L f) → va_S A s.heap H locs → lv_has ls 5 [(0, .ref (cr ad j 0)), (1, .ref (ad 6)), (2, .ref (ad 15)), (3, .int z3)] → W p l e rm_X3_trueLetter_co_fr s m [.ref (cr ad j 0), .ref (ad 6), .ref (ad 15), .int z3].toArray below meth c H locs 0 0 (MQ below (va_Qi (po_X3_trueLetter_co_fr g ad th L f j z3) (PstB g A) A) [.ref (cr ad j 0), .ref (ad 6), .ref (ad 15), .int z3].toArray s rm_X3_trueLetter_co_fr.cells rm_X3_trueLetter_co_fr.slots A) (F0 m 27 ls [.int y27_s0]) := by
    intro y27_s0 H locs ls hy27_s0 hP hD hS hl
    refine lv_istore (lv' := [(4, .int y27_s0), (0, .ref (cr ad j 0)), (1, .ref (ad 6)), (2, .ref (ad 15)), (3, .int z3)]) hx hb dX3_trueLetter_27 hl (by decide) rfl (fun ls hl => ?_)
    refine lv_iload hx hb dX3_trueLetter_29 (lv_at hl 0 rfl) ?_
    refine lv_if_eq (tgt := 45) hx hb dX3_trueLetter_31 (by decide) (fun c3 => ?_) (fun c3 => ?_)
    ·
      have cc4 : y27_s0.toInt = (0 : Int32).toInt := congrArg Int32.toInt c3
      have hb5 : In y27_s0 0 0 := In.eq1 hy27_s0 (⟨by decide, by decide⟩ : In 0 0 0) cc4 (by omega) (by omega)
      refine lv_aload_n hx hb dX3_trueLetter_45 rfl (lv_at hl 1 rfl) ?_
      obtain ⟨v0_6, v1_6, v2_6, v3_6, v4_6, v5_6, v6_6, v7_6, v8_6, hf7, hv1_6, hg1_6, hv2_6, hg2_6, hv6_6⟩ := hT.2.1 j hj 0 (by decide)
      refine pl_get (v := .ref (cr ad j 5)) hx hb hts (fun w h => mT (inX3 w h)) hown hG.1 hP (hst.c hj (by decide)) hf7 rfl 13 (by decide) (hts _ (mT wg_356)) (fun _ h => h) rfl dX3_trueLetter_46 ?_
      refine lv_aload_n hx hb dX3_trueLetter_49 rfl (lv_at hl 3 rfl) ?_
      refine pl_get (v := .int v0_1) hx hb hts (fun w h => mT (inX4 w h)) hown hG.1 hP (hst.1 15 (by decide)) hf2 rfl 0 (by decide) (hts _ (mT wg_292)) (fun _ h => h) rfl dX3_trueLetter_50 ?_
      obtain ⟨rw8, hf9⟩ := hT.2.1 j hj 5 (by decide)
      have hin10 : vp_in v0_1 6 := In.inb hv0_1 (by decide) (by decide)
      refine pl_lald hx hb hG.1 hP (hst.c hj (by decide)) 1 hf9 rfl hin10 dX3_trueLetter_53 ?_
      refine lv_topl (fun x11 ex11 => ?_)
      refine lv_iload_n hx hb dX3_trueLetter_54 rfl (lv_at hl 4 rfl) ?_
      refine call_i (run_SN (rm := rm_X10_nibble) hx hb hml hown hts (s_X10_nibble l g ad th _ _ _ x11 z3 hst hT ) cS_X10_nibble wn_795 ⟨Nat.le_of_ble_eq_true rfl, Nat.le_of_ble_eq_true rfl⟩ hG hE hA hP hD hS rfl hl.1 (As := [.long x11, .int z3]) (rest := []) rfl (Nat.le_of_ble_eq_true rfl) dX3_trueLetter_55 ⟨Nat.le_of_ble_eq_true rfl, Nat.le_of_ble_eq_true rfl⟩) hA hD hS (fun r12 L13 f14 H locs hp15 hP hD hS => ?_)
      obtain ⟨eL16L, eL16T, eL16R⟩ := hp15
      have eL16L : L13 = L := eL16L
      have eL16T : f14 = f := eL16T
      rw [eL16L, eL16T] at hP hD
      have eL16R : In r12 0 15 := eL16R
      exact ret_i (ty := .int) hx hb hr hlocks (rfl) hP hD hS (Nat.le_of_ble_eq_true rfl) (Nat.le_of_ble_eq_true rfl) (⟨rfl, rfl⟩) dX3_trueLetter_58
    ·
      have cc17 : y27_s0.toInt ≠ (0 : Int32).toInt := i32_ne c3
      have hb18 : In y27_s0 1 1 := In.ne1 hy27_s0 (⟨by decide, by decide⟩ : In 0 0 0) cc17 (by omega) (by omega)
      refine lv_aload_n hx hb dX3_trueLetter_34 rfl (lv_at hl 1 rfl) ?_
      obtain ⟨v0_19, v1_19, v2_19, v3_19, v4_19, v5_19, v6_19, v7_19, v8_19, hf20, hv1_19, hg1_19, hv2_19, hg2_19, hv6_19⟩ := hT.2.1 j hj 0 (by decide)
      refine pl_get (v := .int v3_19) hx hb hts (fun w h => mT (inX3 w h)) hown hG.1 hP (hst.c hj (by decide)) hf20 rfl 3 (by decide) (hts _ (mT wg_342)) (fun _ h => h) rfl dX3_trueLetter_35 ?_
      refine lv_iload_n hx hb dX3_trueLetter_38 rfl (lv_at hl 4 rfl) ?_
      refine call_i (run_SN (rm := rm_X10_bit) hx hb hml hown hts (s_X10_bit l g ad th _ _ _ v3_19 z3 hst hT ) cS_X10_bit wn_794 ⟨Nat.le_of_ble_eq_true rfl, Nat.le_of_ble_eq_true rfl⟩ hG hE hA hP hD hS rfl hl.1 (As := [.int v3_19, .int z3]) (rest := []) rfl (Nat.le_of_ble_eq_true rfl) dX3_trueLetter_39 ⟨Nat.le_of_ble_eq_true rfl, Nat.le_of_ble_eq_true rfl⟩) hA hD hS (fun r21 L22 f23 H locs hp24 hP hD hS => ?_)
      obtain ⟨eL25L, eL25T, eL25R, eL25X0⟩ := hp24
      have eL25L : L22 = L := eL25L
      have eL25T : f23 = f := eL25T
      rw [eL25L, eL25T] at hP hD
      have eL25R : In r21 0 1 := eL25R
      refine lv_goto (tgt := 58) hx hb dX3_trueLetter_42 (by decide) ?_
      exact ret_i (ty := .int) hx hb hr hlocks (rfl) hP hD hS (Nat.le_of_ble_eq_true rfl) (Nat.le_of_ble_eq_true rfl) (⟨rfl, rfl⟩) dX3_trueLetter_58
  have hJ22 : ∀ (H : Heap) (locs : List Loc) (ls : Array Slot), va_P g.1 vwCl (va_pl L f) H → va_D A (va_pl L f) → va_S A s.heap H locs → lv_has ls 5 [(0, .ref (cr ad j 0)), (1, .ref (ad 6)), (2, .ref (ad 15)), (3, .int z3)] → W p l e rm_X3_trueLetter_co_fr s m [.ref (cr ad j 0), .ref (ad 6), .ref (ad 15), .int z3].toArray below meth c H locs 0 0 (MQ below (va_Qi (po_X3_trueLetter_co_fr g ad th L f j z3) (PstB g A) A) [.ref (cr ad j 0), .ref (ad 6), .ref (ad 15), .int z3].toArray s rm_X3_trueLetter_co_fr.cells rm_X3_trueLetter_co_fr.slots A) (F0 m 22 ls []) := by
    intro H locs ls hP hD hS hl
    refine lv_iconst (v := 1) hx hb dX3_trueLetter_22 (by decide) ?_
    refine lv_goto (tgt := 27) hx hb dX3_trueLetter_23 (by decide) ?_
    exact hJ27 1 _ _ _ (⟨by decide, by decide⟩ : In 1 0 1) hP hD hS (lv_sub hl [0, 1, 2, 3] rfl)
  refine lv_if_eq (tgt := 22) hx hb dX3_trueLetter_4 (by decide) (fun c26 => ?_) (fun c26 => ?_)
  ·
    have cc27 : v1_1.toInt = (0 : Int32).toInt := congrArg Int32.toInt c26
    have hb28 : In v1_1 0 0 := In.eq1 hv1_1 (⟨by decide, by decide⟩ : In 0 0 0) cc27 (by omega) (by omega)
    exact hJ22 _ _ _ hP hD hS (lv_sub hl [0, 1, 2, 3] rfl)
  ·
    have cc29 : v1_1.toInt ≠ (0 : Int32).toInt := i32_ne c26
    have hb30 : In v1_1 1 2 := In.ne1 hv1_1 (⟨by decide, by decide⟩ : In 0 0 0) cc29 (by omega) (by omega)
    refine lv_aload_n hx hb dX3_trueLetter_7 rfl (lv_at hl 1 rfl) ?_
    obtain ⟨v0_31, v1_31, v2_31, v3_31, v4_31, v5_31, v6_31, v7_31, hf32, hv0_31, hg0_31, hv1_31, hg1_31, hv2_31, hv3_31, hv5_31, hv6_31, hrel0_31⟩ := hT.1 6 (by decide)
    refine pl_getN (v := .int v0_31) hx hb hts (fun w h => mT (inX2 w h)) hown hG.1 hP (hst.1 6 (by decide)) hf32 rfl 0 (by decide) (hG.2.1 _ wn_227) (fun _ h => h) rfl dX3_trueLetter_8 ?_
    have hJ26 : ∀ (H : Heap) (locs : List Loc) (ls : Array Slot), va_P g.1 vwCl (va_pl L f) H → va_D A (va_pl L f) → va_S A s.heap H locs → lv_has ls 5 [(0, .ref (cr ad j 0)), (1, .ref (ad 6)), (2, .ref (ad 15)), (3, .int z3)] → W p l e rm_X3_trueLetter_co_fr s m [.ref (cr ad j 0), .ref (ad 6), .ref (ad 15), .int z3].toArray below meth c H locs 0 0 (MQ below (va_Qi (po_X3_trueLetter_co_fr g ad th L f j z3) (PstB g A) A) [.ref (cr ad j 0), .ref (ad 6), .ref (ad 15), .int z3].toArray s rm_X3_trueLetter_co_fr.cells rm_X3_trueLetter_co_fr.slots A) (F0 m 26 ls []) := by
      intro H locs ls hP hD hS hl
      refine lv_iconst (v := 0) hx hb dX3_trueLetter_26 (by decide) ?_
      exact hJ27 0 _ _ _ (⟨by decide, by decide⟩ : In 0 0 1) hP hD hS (lv_sub hl [0, 1, 2, 3] rfl)
    refine lv_if_ne (tgt := 26) hx hb dX3_trueLetter_11 (by decide) (fun c33 => ?_) (fun c33 => ?_)
    ·
      have cc34 : v0_31.toInt ≠ (0 : Int32).toInt := i32_ne c33
      have hb35 : In v0_31 1 1 := In.ne1 hv0_31 (⟨by decide, by decide⟩ : In 0 0 0) cc34 (by omega) (by omega)
      exact hJ26 _ _ _ hP hD hS (lv_sub hl [0, 1, 2, 3] rfl)
    ·
      have cc36 : v0_31.toInt = (0 : Int32).toInt := congrArg Int32.toInt c33
      have hb37 : In v0_31 0 0 := In.eq1 hv0_31 (⟨by decide, by decide⟩ : In 0 0 0) cc36 (by omega) (by omega)
      refine lv_aload_n hx hb dX3_trueLetter_14 rfl (lv_at hl 2 rfl) ?_
      refine pl_get (v := .int v1_1) hx hb hts (fun w h => mT (inX4 w h)) hown hG.1 hP (hst.1 15 (by decide)) hf2 rfl 1 (by decide) (hts _ (mT wg_295)) (fun _ h => h) rfl dX3_trueLetter_15 ?_
      refine lv_iconst (v := 2) hx hb dX3_trueLetter_18 (by decide) ?_
      refine lv_icmp_ne (tgt := 26) hx hb dX3_trueLetter_19 (by decide) (fun c38 => ?_) (fun c38 => ?_)
      ·
        have cc39 : v1_1.toInt ≠ (2 : Int32).toInt := i32_ne c38
        have hb40 : In v1_1 1 1 := In.ne1 hb30 (⟨by decide, by decide⟩ : In 2 2 2) cc39 (by omega) (by omega)
        exact hJ26 _ _ _ hP hD hS (lv_sub hl [0, 1, 2, 3] rfl)
      ·
        have cc41 : v1_1.toInt = (2 : Int32).toInt := congrArg Int32.toInt c38
        have hb42 : In v1_1 2 2 := In.eq1 hb30 (⟨by decide, by decide⟩ : In 2 2 2) cc41 (by omega) (by omega)
        exact hJ22 _ _ _ hP hD hS (lv_sub hl [0, 1, 2, 3] rfl)

abbrev rm_X3_trueLetter_ot_fr : Room := { frames := 1, cells := 0, slots := 0, locals := 22 }
abbrev po_X3_trueLetter_ot_fr (g : GG) (ad : Nat → Nat) (th : Nat → Int) (L : List Nat) (f : HP) (j : Nat) (z3 : Int32) : Int32 → (List Nat × HP) → Prop := fun _ u => u.1 = L ∧ u.2 = f
set_option maxHeartbeats 4000000 in
set_option maxRecDepth 100000 in
theorem s_X3_trueLetter_ot_fr (l : Launch) (g : GG) (ad : Nat → Nat) (th : Nat → Int) (L : List Nat) (f : HP) (sz : Nat) (j : Nat) (z3 : Int32) (hst : ST ad L) (hT : TI g ad th f) (hj : j < 23) : MtI l g yX3_trueLetter cX3_trueLetter 5 (some .int) rm_X3_trueLetter_ot_fr [.ref (cr ad j 0), .ref (ad 7), .ref (ad 15), .int z3] L f sz (po_X3_trueLetter_ot_fr g ad th L f j z3) := by
  refine MtI.of (by decide +kernel) (Nat.le_of_ble_eq_true rfl) ?_
  intro p e s m below meth c A hEn hP hD hS ls hl
  obtain ⟨hx, hb, hr, hml, hown, hlocks, hts, hG, hA, hE, hnm⟩ := hEn
  have hown : s.vm.findClass "RulerWord$Course" = some m.cls := hown
  have hl : lv_has ls 5 [(0, .ref (cr ad j 0)), (1, .ref (ad 7)), (2, .ref (ad 15)), (3, .int z3)] := hl
  refine lv_aload_n hx hb dX3_trueLetter_0 rfl (lv_at hl 2 rfl) ?_
  obtain ⟨v0_1, v1_1, v2_1, v3_1, hf2, hv0_1, hv1_1⟩ := hT.1 15 (by decide)
  refine pl_get (v := .int v1_1) hx hb hts (fun w h => mT (inX4 w h)) hown hG.1 hP (hst.1 15 (by decide)) hf2 rfl 1 (by decide) (hts _ (mT wg_295)) (fun _ h => h) rfl dX3_trueLetter_1 ?_
  have hJ27 : ∀ (y27_s0 : Int32) (H : Heap) (locs : List Loc) (ls : Array Slot), In y27_s0 0 1 → va_P g.1 vwCl (va_pl L f) H → va_D A (va_pl L f) → va_S A s.heap H locs → lv_has ls 5 [(0, .ref (cr ad j 0)), (1, .ref (ad 7)), (2, .ref (ad 15)), (3, .int z3)] → W p l e rm_X3_trueLetter_ot_fr s m [.ref (cr ad j 0), .ref (ad 7), .ref (ad 15), .int z3].toArray below meth c H locs 0 0 (MQ below (va_Qi (po_X3_trueLetter_ot_fr g ad th L f j z3) (PstB g A) A) [.ref (cr ad j 0), .ref (ad 7), .ref (ad 15), .int z3].toArray s rm_X3_trueLetter_ot_fr.cells rm_X3_trueLetter_ot_fr.slots A) (F0 m 27 ls [.int y27_s0]) := by
    intro y27_s0 H locs ls hy27_s0 hP hD hS hl
    refine lv_istore (lv' := [(4, .int y27_s0), (0, .ref (cr ad j 0)), (1, .ref (ad 7)), (2, .ref (ad 15)), (3, .int z3)]) hx hb dX3_trueLetter_27 hl (by decide) rfl (fun ls hl => ?_)
    refine lv_iload hx hb dX3_trueLetter_29 (lv_at hl 0 rfl) ?_
    refine lv_if_eq (tgt := 45) hx hb dX3_trueLetter_31 (by decide) (fun c3 => ?_) (fun c3 => ?_)
    ·
      have cc4 : y27_s0.toInt = (0 : Int32).toInt := congrArg Int32.toInt c3
      have hb5 : In y27_s0 0 0 := In.eq1 hy27_s0 (⟨by decide, by decide⟩ : In 0 0 0) cc4 (by omega) (by omega)
      refine lv_aload_n hx hb dX3_trueLetter_45 rfl (lv_at hl 1 rfl) ?_
      obtain ⟨v0_6, v1_6, v2_6, v3_6, v4_6, v5_6, v6_6, v7_6, v8_6, hf7, hv1_6, hg1_6, hv2_6, hg2_6, hv6_6⟩ := hT.2.1 j hj 0 (by decide)
      refine pl_get (v := .ref (cr ad j 5)) hx hb hts (fun w h => mT (inX3 w h)) hown hG.1 hP (hst.c hj (by decide)) hf7 rfl 13 (by decide) (hts _ (mT wg_356)) (fun _ h => h) rfl dX3_trueLetter_46 ?_
      refine lv_aload_n hx hb dX3_trueLetter_49 rfl (lv_at hl 3 rfl) ?_
      refine pl_get (v := .int v0_1) hx hb hts (fun w h => mT (inX4 w h)) hown hG.1 hP (hst.1 15 (by decide)) hf2 rfl 0 (by decide) (hts _ (mT wg_292)) (fun _ h => h) rfl dX3_trueLetter_50 ?_
      obtain ⟨rw8, hf9⟩ := hT.2.1 j hj 5 (by decide)
      have hin10 : vp_in v0_1 6 := In.inb hv0_1 (by decide) (by decide)
      refine pl_lald hx hb hG.1 hP (hst.c hj (by decide)) 1 hf9 rfl hin10 dX3_trueLetter_53 ?_
      refine lv_topl (fun x11 ex11 => ?_)
      refine lv_iload_n hx hb dX3_trueLetter_54 rfl (lv_at hl 4 rfl) ?_
      refine call_i (run_SN (rm := rm_X10_nibble) hx hb hml hown hts (s_X10_nibble l g ad th _ _ _ x11 z3 hst hT ) cS_X10_nibble wn_795 ⟨Nat.le_of_ble_eq_true rfl, Nat.le_of_ble_eq_true rfl⟩ hG hE hA hP hD hS rfl hl.1 (As := [.long x11, .int z3]) (rest := []) rfl (Nat.le_of_ble_eq_true rfl) dX3_trueLetter_55 ⟨Nat.le_of_ble_eq_true rfl, Nat.le_of_ble_eq_true rfl⟩) hA hD hS (fun r12 L13 f14 H locs hp15 hP hD hS => ?_)
      obtain ⟨eL16L, eL16T, eL16R⟩ := hp15
      have eL16L : L13 = L := eL16L
      have eL16T : f14 = f := eL16T
      rw [eL16L, eL16T] at hP hD
      have eL16R : In r12 0 15 := eL16R
      exact ret_i (ty := .int) hx hb hr hlocks (rfl) hP hD hS (Nat.le_of_ble_eq_true rfl) (Nat.le_of_ble_eq_true rfl) (⟨rfl, rfl⟩) dX3_trueLetter_58
    ·
      have cc17 : y27_s0.toInt ≠ (0 : Int32).toInt := i32_ne c3
      have hb18 : In y27_s0 1 1 := In.ne1 hy27_s0 (⟨by decide, by decide⟩ : In 0 0 0) cc17 (by omega) (by omega)
      refine lv_aload_n hx hb dX3_trueLetter_34 rfl (lv_at hl 1 rfl) ?_
      obtain ⟨v0_19, v1_19, v2_19, v3_19, v4_19, v5_19, v6_19, v7_19, v8_19, hf20, hv1_19, hg1_19, hv2_19, hg2_19, hv6_19⟩ := hT.2.1 j hj 0 (by decide)
      refine pl_get (v := .int v3_19) hx hb hts (fun w h => mT (inX3 w h)) hown hG.1 hP (hst.c hj (by decide)) hf20 rfl 3 (by decide) (hts _ (mT wg_342)) (fun _ h => h) rfl dX3_trueLetter_35 ?_
      refine lv_iload_n hx hb dX3_trueLetter_38 rfl (lv_at hl 4 rfl) ?_
      refine call_i (run_SN (rm := rm_X10_bit) hx hb hml hown hts (s_X10_bit l g ad th _ _ _ v3_19 z3 hst hT ) cS_X10_bit wn_794 ⟨Nat.le_of_ble_eq_true rfl, Nat.le_of_ble_eq_true rfl⟩ hG hE hA hP hD hS rfl hl.1 (As := [.int v3_19, .int z3]) (rest := []) rfl (Nat.le_of_ble_eq_true rfl) dX3_trueLetter_39 ⟨Nat.le_of_ble_eq_true rfl, Nat.le_of_ble_eq_true rfl⟩) hA hD hS (fun r21 L22 f23 H locs hp24 hP hD hS => ?_)
      obtain ⟨eL25L, eL25T, eL25R, eL25X0⟩ := hp24
      have eL25L : L22 = L := eL25L
      have eL25T : f23 = f := eL25T
      rw [eL25L, eL25T] at hP hD
      have eL25R : In r21 0 1 := eL25R
      refine lv_goto (tgt := 58) hx hb dX3_trueLetter_42 (by decide) ?_
      exact ret_i (ty := .int) hx hb hr hlocks (rfl) hP hD hS (Nat.le_of_ble_eq_true rfl) (Nat.le_of_ble_eq_true rfl) (⟨rfl, rfl⟩) dX3_trueLetter_58
  have hJ22 : ∀ (H : Heap) (locs : List Loc) (ls : Array Slot), va_P g.1 vwCl (va_pl L f) H → va_D A (va_pl L f) → va_S A s.heap H locs → lv_has ls 5 [(0, .ref (cr ad j 0)), (1, .ref (ad 7)), (2, .ref (ad 15)), (3, .int z3)] → W p l e rm_X3_trueLetter_ot_fr s m [.ref (cr ad j 0), .ref (ad 7), .ref (ad 15), .int z3].toArray below meth c H locs 0 0 (MQ below (va_Qi (po_X3_trueLetter_ot_fr g ad th L f j z3) (PstB g A) A) [.ref (cr ad j 0), .ref (ad 7), .ref (ad 15), .int z3].toArray s rm_X3_trueLetter_ot_fr.cells rm_X3_trueLetter_ot_fr.slots A) (F0 m 22 ls []) := by
    intro H locs ls hP hD hS hl
    refine lv_iconst (v := 1) hx hb dX3_trueLetter_22 (by decide) ?_
    refine lv_goto (tgt := 27) hx hb dX3_trueLetter_23 (by decide) ?_
    exact hJ27 1 _ _ _ (⟨by decide, by decide⟩ : In 1 0 1) hP hD hS (lv_sub hl [0, 1, 2, 3] rfl)
  refine lv_if_eq (tgt := 22) hx hb dX3_trueLetter_4 (by decide) (fun c26 => ?_) (fun c26 => ?_)
  ·
    have cc27 : v1_1.toInt = (0 : Int32).toInt := congrArg Int32.toInt c26
    have hb28 : In v1_1 0 0 := In.eq1 hv1_1 (⟨by decide, by decide⟩ : In 0 0 0) cc27 (by omega) (by omega)
    exact hJ22 _ _ _ hP hD hS (lv_sub hl [0, 1, 2, 3] rfl)
  ·
    have cc29 : v1_1.toInt ≠ (0 : Int32).toInt := i32_ne c26
    have hb30 : In v1_1 1 2 := In.ne1 hv1_1 (⟨by decide, by decide⟩ : In 0 0 0) cc29 (by omega) (by omega)
    refine lv_aload_n hx hb dX3_trueLetter_7 rfl (lv_at hl 1 rfl) ?_
    obtain ⟨v0_31, v1_31, v2_31, v3_31, v4_31, v5_31, v6_31, v7_31, hf32, hv0_31, hg0_31, hv1_31, hv2_31, hv3_31, hv5_31, hv6_31⟩ := hT.1 7 (by decide)
    refine pl_getN (v := .int v0_31) hx hb hts (fun w h => mT (inX2 w h)) hown hG.1 hP (hst.1 7 (by decide)) hf32 rfl 0 (by decide) (hG.2.1 _ wn_227) (fun _ h => h) rfl dX3_trueLetter_8 ?_
    have hJ26 : ∀ (H : Heap) (locs : List Loc) (ls : Array Slot), va_P g.1 vwCl (va_pl L f) H → va_D A (va_pl L f) → va_S A s.heap H locs → lv_has ls 5 [(0, .ref (cr ad j 0)), (1, .ref (ad 7)), (2, .ref (ad 15)), (3, .int z3)] → W p l e rm_X3_trueLetter_ot_fr s m [.ref (cr ad j 0), .ref (ad 7), .ref (ad 15), .int z3].toArray below meth c H locs 0 0 (MQ below (va_Qi (po_X3_trueLetter_ot_fr g ad th L f j z3) (PstB g A) A) [.ref (cr ad j 0), .ref (ad 7), .ref (ad 15), .int z3].toArray s rm_X3_trueLetter_ot_fr.cells rm_X3_trueLetter_ot_fr.slots A) (F0 m 26 ls []) := by
      intro H locs ls hP hD hS hl
      refine lv_iconst (v := 0) hx hb dX3_trueLetter_26 (by decide) ?_
      exact hJ27 0 _ _ _ (⟨by decide, by decide⟩ : In 0 0 1) hP hD hS (lv_sub hl [0, 1, 2, 3] rfl)
    refine lv_if_ne (tgt := 26) hx hb dX3_trueLetter_11 (by decide) (fun c33 => ?_) (fun c33 => ?_)
    ·
      have cc34 : v0_31.toInt ≠ (0 : Int32).toInt := i32_ne c33
      have hb35 : In v0_31 1 1 := In.ne1 hv0_31 (⟨by decide, by decide⟩ : In 0 0 0) cc34 (by omega) (by omega)
      exact hJ26 _ _ _ hP hD hS (lv_sub hl [0, 1, 2, 3] rfl)
    ·
      have cc36 : v0_31.toInt = (0 : Int32).toInt := congrArg Int32.toInt c33
      have hb37 : In v0_31 0 0 := In.eq1 hv0_31 (⟨by decide, by decide⟩ : In 0 0 0) cc36 (by omega) (by omega)
      refine lv_aload_n hx hb dX3_trueLetter_14 rfl (lv_at hl 2 rfl) ?_
      refine pl_get (v := .int v1_1) hx hb hts (fun w h => mT (inX4 w h)) hown hG.1 hP (hst.1 15 (by decide)) hf2 rfl 1 (by decide) (hts _ (mT wg_295)) (fun _ h => h) rfl dX3_trueLetter_15 ?_
      refine lv_iconst (v := 2) hx hb dX3_trueLetter_18 (by decide) ?_
      refine lv_icmp_ne (tgt := 26) hx hb dX3_trueLetter_19 (by decide) (fun c38 => ?_) (fun c38 => ?_)
      ·
        have cc39 : v1_1.toInt ≠ (2 : Int32).toInt := i32_ne c38
        have hb40 : In v1_1 1 1 := In.ne1 hb30 (⟨by decide, by decide⟩ : In 2 2 2) cc39 (by omega) (by omega)
        exact hJ26 _ _ _ hP hD hS (lv_sub hl [0, 1, 2, 3] rfl)
      ·
        have cc41 : v1_1.toInt = (2 : Int32).toInt := congrArg Int32.toInt c38
        have hb42 : In v1_1 2 2 := In.eq1 hb30 (⟨by decide, by decide⟩ : In 2 2 2) cc41 (by omega) (by omega)
        exact hJ22 _ _ _ hP hD hS (lv_sub hl [0, 1, 2, 3] rfl)

abbrev rm_X3_zerosHeard_co : Room := { frames := 2, cells := 0, slots := 0, locals := 45 }
abbrev po_X3_zerosHeard_co (g : GG) (ad : Nat → Nat) (th : Nat → Int) (L : List Nat) (f : HP) (j : Nat) (z2 : Int32) (z3 : Int32) (z4 : Int32) : Int32 → (List Nat × HP) → Prop := fun _ u => u.1 = L ∧ u.2 = f
set_option maxHeartbeats 4000000 in
set_option maxRecDepth 100000 in
theorem s_X3_zerosHeard_co (l : Launch) (g : GG) (ad : Nat → Nat) (th : Nat → Int) (L : List Nat) (f : HP) (sz : Nat) (j : Nat) (z2 : Int32) (z3 : Int32) (z4 : Int32) (hst : ST ad L) (hT : TI g ad th f) (hj : j < 23) (hz2 : In z2 0 5) (hz3 : In z3 0 2) : MtI l g yX3_zerosHeard cX3_zerosHeard 5 (some .int) rm_X3_zerosHeard_co [.ref (cr ad j 0), .ref (ad 6), .int z2, .int z3, .int z4] L f sz (po_X3_zerosHeard_co g ad th L f j z2 z3 z4) := by
  refine MtI.of (by decide +kernel) (Nat.le_of_ble_eq_true rfl) ?_
  intro p e s m below meth c A hEn hP hD hS ls hl
  obtain ⟨hx, hb, hr, hml, hown, hlocks, hts, hG, hA, hE, hnm⟩ := hEn
  have hown : s.vm.findClass "RulerWord$Course" = some m.cls := hown
  have hl : lv_has ls 5 [(0, .ref (cr ad j 0)), (1, .ref (ad 6)), (2, .int z2), (3, .int z3), (4, .int z4)] := hl
  refine lv_aload_n hx hb dX3_zerosHeard_0 rfl (lv_at hl 1 rfl) ?_
  obtain ⟨v0_1, v1_1, v2_1, v3_1, v4_1, v5_1, v6_1, v7_1, hf2, hv0_1, hg0_1, hv1_1, hg1_1, hv2_1, hv3_1, hv5_1, hv6_1, hrel0_1⟩ := hT.1 6 (by decide)
  refine pl_getN (v := .int v1_1) hx hb hts (fun w h => mT (inX2 w h)) hown hG.1 hP (hst.1 6 (by decide)) hf2 rfl 1 (by decide) (hG.2.1 _ wn_231) (fun _ h => h) rfl dX3_zerosHeard_1 ?_
  refine lv_aload_n hx hb dX3_zerosHeard_4 rfl (lv_at hl 0 rfl) ?_
  refine lv_iload_n hx hb dX3_zerosHeard_5 rfl (lv_at hl 2 rfl) ?_
  refine lv_iload_n hx hb dX3_zerosHeard_6 rfl (lv_at hl 3 rfl) ?_
  refine lv_iload hx hb dX3_zerosHeard_7 (lv_at hl 4 rfl) ?_
  obtain ⟨v0_3, v1_3, v2_3, v3_3, v4_3, v5_3, v6_3, v7_3, v8_3, hf4, hv1_3, hg1_3, hv2_3, hg2_3, hv6_3⟩ := hT.2.1 j hj 0 (by decide)
  refine call_i (run_V (rm := rm_X3_onesHeard) hx hb hml hown hts (s_X3_onesHeard l g ad th _ _ _ j z2 z3 z4 hst hT hj hz2 hz3) cV_X3_onesHeard wg_862 ⟨Nat.le_of_ble_eq_true rfl, Nat.le_of_ble_eq_true rfl⟩ hG hE hA hP hD hS (hst.c hj (by decide)) hf4 rfl rfl hl.1 (As := [.int z2, .int z3, .int z4]) (rest := [.int v1_1]) rfl (Nat.le_of_ble_eq_true rfl) dX3_zerosHeard_9 ⟨Nat.le_of_ble_eq_true rfl, Nat.le_of_ble_eq_true rfl⟩) hA hD hS (fun r5 L6 f7 H locs hp8 hP hD hS => ?_)
  obtain ⟨eL9L, eL9T, eL9R⟩ := hp8
  have eL9L : L6 = L := eL9L
  have eL9T : f7 = f := eL9T
  rw [eL9L, eL9T] at hP hD
  have eL9R : In r5 0 15 := eL9R
  refine lv_isub hx hb dX3_zerosHeard_12 ?_
  refine lv_topi (fun x10 ex10 => ?_)
  have hb11 : In x10 (-15) 9 := ex10 ▸ In.sub hv1_1 eL9R (by decide) (by decide) (by decide) (by decide)
  have et12 : x10.toInt = v1_1.toInt - r5.toInt := In.sub2e ex10 hv1_1 eL9R (by decide) (by decide)
  refine lv_aload_n hx hb dX3_zerosHeard_13 rfl (lv_at hl 0 rfl) ?_
  refine pl_get (v := .ref (cr ad j 4)) hx hb hts (fun w h => mT (inX3 w h)) hown hG.1 hP (hst.c hj (by decide)) hf4 rfl 12 (by decide) (hts _ (mT wg_355)) (fun _ h => h) rfl dX3_zerosHeard_14 ?_
  refine lv_iload_n hx hb dX3_zerosHeard_17 rfl (lv_at hl 2 rfl) ?_
  refine lv_iconst (v := 3) hx hb dX3_zerosHeard_18 (by decide) ?_
  refine lv_imul hx hb dX3_zerosHeard_19 ?_
  refine lv_topi (fun x13 ex13 => ?_)
  have hb14 : In x13 0 15 := ex13 ▸ In.mul hz2 (⟨by decide, by decide⟩ : In 3 3 3) (by decide) (by decide) (by decide) (by decide) (by decide)
  refine lv_iload_n hx hb dX3_zerosHeard_20 rfl (lv_at hl 3 rfl) ?_
  refine lv_iadd hx hb dX3_zerosHeard_21 ?_
  refine lv_topi (fun x15 ex15 => ?_)
  have hb16 : In x15 0 17 := ex15 ▸ In.add hb14 hz3 (by decide) (by decide) (by decide) (by decide)
  have et17 : x15.toInt = x13.toInt + z3.toInt := In.add2e ex15 hb14 hz3 (by decide) (by decide)
  obtain ⟨rw18, hf19⟩ := hT.2.1 j hj 4 (by decide)
  have hin20 : vp_in x15 18 := In.inb hb16 (by decide) (by decide)
  refine pl_lald hx hb hG.1 hP (hst.c hj (by decide)) 1 hf19 rfl hin20 dX3_zerosHeard_22 ?_
  refine lv_topl (fun x21 ex21 => ?_)
  refine lv_iload hx hb dX3_zerosHeard_23 (lv_at hl 4 rfl) ?_
  refine call_i (run_SN (rm := rm_X10_nibble) hx hb hml hown hts (s_X10_nibble l g ad th _ _ _ x21 z4 hst hT ) cS_X10_nibble wn_795 ⟨Nat.le_of_ble_eq_true rfl, Nat.le_of_ble_eq_true rfl⟩ hG hE hA hP hD hS rfl hl.1 (As := [.long x21, .int z4]) (rest := [.int x10]) rfl (Nat.le_of_ble_eq_true rfl) dX3_zerosHeard_25 ⟨Nat.le_of_ble_eq_true rfl, Nat.le_of_ble_eq_true rfl⟩) hA hD hS (fun r22 L23 f24 H locs hp25 hP hD hS => ?_)
  obtain ⟨eL26L, eL26T, eL26R⟩ := hp25
  have eL26L : L23 = L := eL26L
  have eL26T : f24 = f := eL26T
  rw [eL26L, eL26T] at hP hD
  have eL26R : In r22 0 15 := eL26R
  refine lv_isub hx hb dX3_zerosHeard_28 ?_
  refine lv_topi (fun x27 ex27 => ?_)
  have hb28 : In x27 (-30) 9 := ex27 ▸ In.sub hb11 eL26R (by decide) (by decide) (by decide) (by decide)
  have et29 : x27.toInt = x10.toInt - r22.toInt := In.sub2e ex27 hb11 eL26R (by decide) (by decide)
  exact ret_i (ty := .int) hx hb hr hlocks (rfl) hP hD hS (Nat.le_of_ble_eq_true rfl) (Nat.le_of_ble_eq_true rfl) (⟨rfl, rfl⟩) dX3_zerosHeard_29

abbrev rm_X3_takeView_co : Room := { frames := 0, cells := 0, slots := 0, locals := 0 }
abbrev po_X3_takeView_co (g : GG) (ad : Nat → Nat) (th : Nat → Int) (L : List Nat) (f : HP) (j : Nat) (z2 : Int32) (z3 : Int32) (z4 : Int32) : (List Nat × HP) → Prop := fun u => u.1 = L ∧ TI g ad th u.2 ∧ (∀ b, b ≠ (cr ad j 0) → b ≠ (cr ad j 5) → b ≠ (cr ad j 7) → u.2 b = f b)
set_option maxHeartbeats 4000000 in
set_option maxRecDepth 100000 in
theorem s_X3_takeView_co (l : Launch) (g : GG) (ad : Nat → Nat) (th : Nat → Int) (L : List Nat) (f : HP) (sz : Nat) (j : Nat) (z2 : Int32) (z3 : Int32) (z4 : Int32) (hst : ST ad L) (hT : TI g ad th f) (hj : j < 23) (hz2 : In z2 0 5) : MtV l g yX3_takeView cX3_takeView 6 rm_X3_takeView_co [.ref (cr ad j 0), .ref (ad 6), .int z2, .int z3, .int z4] L f sz (po_X3_takeView_co g ad th L f j z2 z3 z4) := by
  refine MtV.of (by decide +kernel) (Nat.le_of_ble_eq_true rfl) ?_
  intro p e s m below meth c A hEn hP hD hS ls hl
  obtain ⟨hx, hb, hr, hml, hown, hlocks, hts, hG, hA, hE, hnm⟩ := hEn
  have hown : s.vm.findClass "RulerWord$Course" = some m.cls := hown
  have hl : lv_has ls 6 [(0, .ref (cr ad j 0)), (1, .ref (ad 6)), (2, .int z2), (3, .int z3), (4, .int z4)] := hl
  have hfr : (∀ b, b ≠ (cr ad j 0) → b ≠ (cr ad j 5) → b ≠ (cr ad j 7) → f b = f b) := fun b z0_ z1_ z2_ => rfl
  refine lv_iload hx hb dX3_takeView_0 (lv_at hl 4 rfl) ?_
  refine lv_iconst (v := 4) hx hb dX3_takeView_2 (by decide) ?_
  refine lv_irem hx hb dX3_takeView_3 (In.ne0 (⟨by decide, by decide⟩ : In 4 4 4) (by decide)) ?_
  refine lv_topi (fun x1 ex1 => ?_)
  refine lv_istore (lv' := [(5, .int x1), (0, .ref (cr ad j 0)), (1, .ref (ad 6)), (2, .int z2), (3, .int z3), (4, .int z4)]) hx hb dX3_takeView_4 hl (by decide) rfl (fun ls hl => ?_)
  refine lv_aload_n hx hb dX3_takeView_6 rfl (lv_at hl 1 rfl) ?_
  obtain ⟨v0_2, v1_2, v2_2, v3_2, v4_2, v5_2, v6_2, v7_2, v8_2, hf3, hv1_2, hg1_2, hv2_2, hg2_2, hv6_2⟩ := hT.2.1 j hj 0 (by decide)
  refine pl_get (v := .ref (cr ad j 7)) hx hb hts (fun w h => mT (inX3 w h)) hown hG.1 hP (hst.c hj (by decide)) hf3 rfl 15 (by decide) (hts _ (mT wg_360)) (fun _ h => h) rfl dX3_takeView_7 ?_
  refine lv_iload_n hx hb dX3_takeView_10 rfl (lv_at hl 3 rfl) ?_
  refine lv_dup2_11 hx hb dX3_takeView_11 rfl rfl ?_
  obtain ⟨rw4, hf5⟩ := hT.2.1 j hj 7 (by decide)
  have hin6 : vp_in z2 6 := In.inb hz2 (by decide) (by decide)
  refine pl_iald hx hb hG.1 hP (hst.c hj (by decide)) 0 hf5 rfl hin6 dX3_takeView_12 ?_
  refine lv_topi (fun x7 ex7 => ?_)
  refine lv_iload hx hb dX3_takeView_13 (lv_at hl 5 rfl) ?_
  refine lv_iconst (v := 4) hx hb dX3_takeView_15 (by decide) ?_
  refine lv_idiv hx hb dX3_takeView_16 (In.ne0 (⟨by decide, by decide⟩ : In 4 4 4) (by decide)) ?_
  refine lv_topi (fun x8 ex8 => ?_)
  refine lv_iload_n hx hb dX3_takeView_17 rfl (lv_at hl 4 rfl) ?_
  refine lv_ishl hx hb dX3_takeView_18 ?_
  refine lv_topi (fun x9 ex9 => ?_)
  refine lv_ior hx hb dX3_takeView_19 ?_
  refine lv_topi (fun x10 ex10 => ?_)
  refine pl_iastE hx hb hG.1 hP hD hS (hst.c hj (by decide)) 0 hf5 rfl (In.inb hz2 (by decide) (by decide)) dX3_takeView_20 (fun H locs f11 r14 er14 hf12 ho13 hP hD hS => ?_)
  have hf15 := (ho13 (cr ad j 0) (hst.ne (by omega) (by omega) (by omega))).trans hf3
  have hfr : (∀ b, b ≠ (cr ad j 0) → b ≠ (cr ad j 5) → b ≠ (cr ad j 7) → f11 b = f b) := fun b z0_ z1_ z2_ => (ho13 b z2_).trans (hfr b z0_ z1_ z2_)
  refine lv_aload_n hx hb dX3_takeView_21 rfl (lv_at hl 2 rfl) ?_
  have hT := TI.updC hT hst hj (k := 7) (by decide) hf12 ho13 ⟨r14, rfl⟩
  obtain ⟨v0_16, v1_16, v2_16, v3_16, v4_16, v5_16, v6_16, v7_16, hf17, hv0_16, hg0_16, hv1_16, hg1_16, hv2_16, hv3_16, hv5_16, hv6_16, hrel0_16⟩ := hT.1 6 (by decide)
  refine pl_getN (v := .int v0_16) hx hb hts (fun w h => mT (inX2 w h)) hown hG.1 hP (hst.1 6 (by decide)) hf17 rfl 0 (by decide) (hG.2.1 _ wn_227) (fun _ h => h) rfl dX3_takeView_22 ?_
  refine lv_iconst (v := 1) hx hb dX3_takeView_25 (by decide) ?_
  refine lv_icmp_ne (tgt := 48) hx hb dX3_takeView_26 (by decide) (fun c18 => ?_) (fun c18 => ?_)
  ·
    have cc19 : v0_16.toInt ≠ (1 : Int32).toInt := i32_ne c18
    have hb20 : In v0_16 0 0 := In.ne1 hv0_16 (⟨by decide, by decide⟩ : In 1 1 1) cc19 (by omega) (by omega)
    refine lv_iload hx hb dX3_takeView_48 (lv_at hl 0 rfl) ?_
    refine lv_iconst (v := 2) hx hb dX3_takeView_50 (by decide) ?_
    refine lv_icmp_eq (tgt := 73) hx hb dX3_takeView_51 (by decide) (fun c21 => ?_) (fun c21 => ?_)
    ·
      have cc22 : x1.toInt = (2 : Int32).toInt := congrArg Int32.toInt c21
      have hb23 : In x1 2 2 := In.eq1 (In.full x1) (⟨by decide, by decide⟩ : In 2 2 2) cc22 (by omega) (by omega)
      exact ret_v hx hb hr hlocks hP hD hS (Nat.le_of_ble_eq_true rfl) (Nat.le_of_ble_eq_true rfl) (⟨rfl, hT, hfr⟩) dX3_takeView_73
    ·
      refine lv_aload_n hx hb dX3_takeView_54 rfl (lv_at hl 1 rfl) ?_
      refine lv_aload_n hx hb dX3_takeView_55 rfl (lv_at hl 1 rfl) ?_
      refine pl_get (v := .int v3_2) hx hb hts (fun w h => mT (inX3 w h)) hown hG.1 hP (hst.c hj (by decide)) hf15 rfl 3 (by decide) (hts _ (mT wg_342)) (fun _ h => h) rfl dX3_takeView_56 ?_
      refine lv_iconst (v := 1) hx hb dX3_takeView_59 (by decide) ?_
      refine lv_iload_n hx hb dX3_takeView_60 rfl (lv_at hl 4 rfl) ?_
      refine lv_ishl hx hb dX3_takeView_61 ?_
      refine lv_topi (fun x24 ex24 => ?_)
      refine lv_iconst (v := (-1)) hx hb dX3_takeView_62 (by decide) ?_
      refine lv_ixor hx hb dX3_takeView_63 ?_
      refine lv_topi (fun x25 ex25 => ?_)
      refine lv_iand hx hb dX3_takeView_64 ?_
      refine lv_topi (fun x26 ex26 => ?_)
      refine lv_iload hx hb dX3_takeView_65 (lv_at hl 0 rfl) ?_
      refine lv_iload_n hx hb dX3_takeView_67 rfl (lv_at hl 4 rfl) ?_
      refine lv_ishl hx hb dX3_takeView_68 ?_
      refine lv_topi (fun x27 ex27 => ?_)
      refine lv_ior hx hb dX3_takeView_69 ?_
      refine lv_topi (fun x28 ex28 => ?_)
      refine pl_put (ty := .int) (v := .int x28) (fs' := [.int v0_2, .int v1_2, .int v2_2, .int x28, .int v4_2, .int v5_2, .int v6_2, .long v7_2, .long v8_2, .ref (cr ad j 1), .ref (cr ad j 2), .ref (cr ad j 3), .ref (cr ad j 4), .ref (cr ad j 5), .ref (cr ad j 6), .ref (cr ad j 7), .ref (cr ad j 8), .ref (cr ad j 9)]) hx hb hts (fun w h => mT (inX3 w h)) tyX3 tyX3_ok nmX3 hown hG.1 hP hD hS (hst.c hj (by decide)) hf15 rfl 3 (by decide) (hts _ (mT wg_342)) (fun _ h => h) rfl (by decide +kernel) (rfl) (rfl) (Nat.le_of_ble_eq_true rfl) rfl dX3_takeView_70 (fun H locs f29 hf30 ho31 hP hD hS => ?_)
      have hf32 := (ho31 (cr ad j 7) (hst.ne (by omega) (by omega) (by omega))).trans hf12
      have hf33 := (ho31 (ad 6) (hst.ne (by omega) (by omega) (by omega))).trans hf17
      have hfr : (∀ b, b ≠ (cr ad j 0) → b ≠ (cr ad j 5) → b ≠ (cr ad j 7) → f29 b = f b) := fun b z0_ z1_ z2_ => (ho31 b z0_).trans (hfr b z0_ z1_ z2_)
      have hT := TI.updC hT hst hj (k := 0) (by decide) hf30 ho31 ⟨v0_2, v1_2, v2_2, x28, v4_2, v5_2, v6_2, v7_2, v8_2, rfl, hv1_2, hg1_2, hv2_2, hg2_2, hv6_2⟩
      exact ret_v hx hb hr hlocks hP hD hS (Nat.le_of_ble_eq_true rfl) (Nat.le_of_ble_eq_true rfl) (⟨rfl, hT, hfr⟩) dX3_takeView_73
  ·
    have cc34 : v0_16.toInt = (1 : Int32).toInt := congrArg Int32.toInt c18
    have hb35 : In v0_16 1 1 := In.eq1 hv0_16 (⟨by decide, by decide⟩ : In 1 1 1) cc34 (by omega) (by omega)
    refine lv_aload_n hx hb dX3_takeView_29 rfl (lv_at hl 1 rfl) ?_
    refine pl_get (v := .ref (cr ad j 5)) hx hb hts (fun w h => mT (inX3 w h)) hown hG.1 hP (hst.c hj (by decide)) hf15 rfl 13 (by decide) (hts _ (mT wg_356)) (fun _ h => h) rfl dX3_takeView_30 ?_
    refine lv_iload_n hx hb dX3_takeView_33 rfl (lv_at hl 3 rfl) ?_
    refine lv_dup2_11 hx hb dX3_takeView_34 rfl rfl ?_
    obtain ⟨rw36, hf37⟩ := hT.2.1 j hj 5 (by decide)
    have hin38 : vp_in z2 6 := In.inb hz2 (by decide) (by decide)
    refine pl_lald hx hb hG.1 hP (hst.c hj (by decide)) 1 hf37 rfl hin38 dX3_takeView_35 ?_
    refine lv_topl (fun x39 ex39 => ?_)
    refine lv_iload hx hb dX3_takeView_36 (lv_at hl 0 rfl) ?_
    refine lv_i2l hx hb dX3_takeView_38 rfl ?_
    refine lv_iconst (v := 4) hx hb dX3_takeView_39 (by decide) ?_
    refine lv_iload_n hx hb dX3_takeView_40 rfl (lv_at hl 4 rfl) ?_
    refine lv_imul hx hb dX3_takeView_41 ?_
    refine lv_topi (fun x40 ex40 => ?_)
    refine lv_lshl hx hb dX3_takeView_42 rfl ?_
    refine lv_topl (fun x41 ex41 => ?_)
    refine lv_lor hx hb dX3_takeView_43 ?_
    refine lv_topl (fun x42 ex42 => ?_)
    refine pl_lastE hx hb hG.1 hP hD hS (hst.c hj (by decide)) 1 hf37 rfl (In.inb hz2 (by decide) (by decide)) dX3_takeView_44 (fun H locs f43 r46 er46 hf44 ho45 hP hD hS => ?_)
    have hf47 := (ho45 (cr ad j 0) (hst.ne (by omega) (by omega) (by omega))).trans hf15
    have hf48 := (ho45 (cr ad j 7) (hst.ne (by omega) (by omega) (by omega))).trans hf12
    have hf49 := (ho45 (ad 6) (hst.ne (by omega) (by omega) (by omega))).trans hf17
    have hfr : (∀ b, b ≠ (cr ad j 0) → b ≠ (cr ad j 5) → b ≠ (cr ad j 7) → f43 b = f b) := fun b z0_ z1_ z2_ => (ho45 b z1_).trans (hfr b z0_ z1_ z2_)
    have hT := TI.updC hT hst hj (k := 5) (by decide) hf44 ho45 ⟨r46, rfl⟩
    refine lv_goto (tgt := 73) hx hb dX3_takeView_45 (by decide) ?_
    exact ret_v hx hb hr hlocks hP hD hS (Nat.le_of_ble_eq_true rfl) (Nat.le_of_ble_eq_true rfl) (⟨rfl, hT, hfr⟩) dX3_takeView_73

abbrev rm_X3_hearAll_co : Room := { frames := 3, cells := 0, slots := 0, locals := 69 }
abbrev po_X3_hearAll_co (g : GG) (ad : Nat → Nat) (th : Nat → Int) (L : List Nat) (f : HP) (j : Nat) (z2 : Int32) (z3 : Int32) : (List Nat × HP) → Prop := fun u => u.1 = L ∧ TI g ad th u.2 ∧ (∀ b, b ≠ (cr ad j 0) → b ≠ (cr ad j 5) → b ≠ (cr ad j 7) → u.2 b = f b)
set_option maxHeartbeats 4000000 in
set_option maxRecDepth 100000 in
theorem s_X3_hearAll_co (l : Launch) (g : GG) (ad : Nat → Nat) (th : Nat → Int) (L : List Nat) (f : HP) (sz : Nat) (j : Nat) (z2 : Int32) (z3 : Int32) (hst : ST ad L) (hT : TI g ad th f) (hj : j < 23) (hz2 : In z2 0 5) (hz3 : In z3 0 2) : MtV l g yX3_hearAll cX3_hearAll 8 rm_X3_hearAll_co [.ref (cr ad j 0), .ref (ad 6), .int z2, .int z3] L f sz (po_X3_hearAll_co g ad th L f j z2 z3) := by
  refine MtV.of (by decide +kernel) (Nat.le_of_ble_eq_true rfl) ?_
  intro p e s m below meth c A hEn hP hD hS ls hl
  obtain ⟨hx, hb, hr, hml, hown, hlocks, hts, hG, hA, hE, hnm⟩ := hEn
  have hown : s.vm.findClass "RulerWord$Course" = some m.cls := hown
  have hl : lv_has ls 8 [(0, .ref (cr ad j 0)), (1, .ref (ad 6)), (2, .int z2), (3, .int z3)] := hl
  have hfr : (∀ b, b ≠ (cr ad j 0) → b ≠ (cr ad j 5) → b ≠ (cr ad j 7) → f b = f b) := fun b z0_ z1_ z2_ => rfl
  refine lv_aload_n hx hb dX3_hearAll_0 rfl (lv_at hl 1 rfl) ?_
  obtain ⟨v0_1, v1_1, v2_1, v3_1, v4_1, v5_1, v6_1, v7_1, hf2, hv0_1, hg0_1, hv1_1, hg1_1, hv2_1, hv3_1, hv5_1, hv6_1, hrel0_1⟩ := hT.1 6 (by decide)
  refine pl_getN (v := .int v0_1) hx hb hts (fun w h => mT (inX2 w h)) hown hG.1 hP (hst.1 6 (by decide)) hf2 rfl 0 (by decide) (hG.2.1 _ wn_227) (fun _ h => h) rfl dX3_hearAll_1 ?_
  have hJ16 : ∀ (y16_s0 : Int32) (H : Heap) (locs : List Loc) (ls : Array Slot), In y16_s0 0 1 → va_P g.1 vwCl (va_pl L f) H → va_D A (va_pl L f) → va_S A s.heap H locs → lv_has ls 8 [(0, .ref (cr ad j 0)), (1, .ref (ad 6)), (2, .int z2), (3, .int z3)] → W p l e rm_X3_hearAll_co s m [.ref (cr ad j 0), .ref (ad 6), .int z2, .int z3].toArray below meth c H locs 0 0 (MQ below (va_Qv (po_X3_hearAll_co g ad th L f j z2 z3) (PstB g A) A) [.ref (cr ad j 0), .ref (ad 6), .int z2, .int z3].toArray s rm_X3_hearAll_co.cells rm_X3_hearAll_co.slots A) (F0 m 16 ls [.int y16_s0]) := by
    intro y16_s0 H locs ls hy16_s0 hP hD hS hl
    refine lv_istore (lv' := [(4, .int y16_s0), (0, .ref (cr ad j 0)), (1, .ref (ad 6)), (2, .int z2), (3, .int z3)]) hx hb dX3_hearAll_16 hl (by decide) rfl (fun ls hl => ?_)
    refine lv_iload hx hb dX3_hearAll_18 (lv_at hl 0 rfl) ?_
    have hJ30 : ∀ (f_30 : HP) (H : Heap) (locs : List Loc) (ls : Array Slot), va_P g.1 vwCl (va_pl L f_30) H → va_D A (va_pl L f_30) → va_S A s.heap H locs → TI g ad th f_30 → (∀ b, b ≠ (cr ad j 0) → b ≠ (cr ad j 5) → b ≠ (cr ad j 7) → f_30 b = f b) → f_30 (ad 6) = .inr (2, [.int v0_1, .int v1_1, .int v2_1, .int v3_1, .int v4_1, .int v5_1, .int v6_1, .int v7_1]) → lv_has ls 8 [(0, .ref (cr ad j 0)), (1, .ref (ad 6)), (2, .int z2), (3, .int z3), (4, .int y16_s0)] → W p l e rm_X3_hearAll_co s m [.ref (cr ad j 0), .ref (ad 6), .int z2, .int z3].toArray below meth c H locs 0 0 (MQ below (va_Qv (po_X3_hearAll_co g ad th L f j z2 z3) (PstB g A) A) [.ref (cr ad j 0), .ref (ad 6), .int z2, .int z3].toArray s rm_X3_hearAll_co.cells rm_X3_hearAll_co.slots A) (F0 m 30 ls []) := by
      intro f_30 H locs ls hP hD hS hT hfr hf3 hl
      refine lv_iload hx hb dX3_hearAll_30 (lv_at hl 4 rfl) ?_
      have hJ50 : ∀ (f_50 : HP) (H : Heap) (locs : List Loc) (ls : Array Slot), va_P g.1 vwCl (va_pl L f_50) H → va_D A (va_pl L f_50) → va_S A s.heap H locs → TI g ad th f_50 → (∀ b, b ≠ (cr ad j 0) → b ≠ (cr ad j 5) → b ≠ (cr ad j 7) → f_50 b = f b) → f_50 (ad 6) = .inr (2, [.int v0_1, .int v1_1, .int v2_1, .int v3_1, .int v4_1, .int v5_1, .int v6_1, .int v7_1]) → lv_has ls 8 [(0, .ref (cr ad j 0)), (1, .ref (ad 6)), (2, .int z2), (3, .int z3), (4, .int y16_s0)] → W p l e rm_X3_hearAll_co s m [.ref (cr ad j 0), .ref (ad 6), .int z2, .int z3].toArray below meth c H locs 0 0 (MQ below (va_Qv (po_X3_hearAll_co g ad th L f j z2 z3) (PstB g A) A) [.ref (cr ad j 0), .ref (ad 6), .int z2, .int z3].toArray s rm_X3_hearAll_co.cells rm_X3_hearAll_co.slots A) (F0 m 50 ls []) := by
        intro f_50 H locs ls hP hD hS hT hfr hf4 hl
        refine lv_iconst (v := 0) hx hb dX3_hearAll_50 (by decide) ?_
        refine lv_istore (lv' := [(5, .int 0), (0, .ref (cr ad j 0)), (1, .ref (ad 6)), (2, .int z2), (3, .int z3), (4, .int y16_s0)]) hx hb dX3_hearAll_51 hl (by decide) rfl (fun ls hl => ?_)
        have hJ53 : ∀ (k53 : Nat) (y53_l5 : Int32) (f_53 : HP) (H : Heap) (locs : List Loc) (ls : Array Slot), In y53_l5 0 9 → va_P g.1 vwCl (va_pl L f_53) H → va_D A (va_pl L f_53) → va_S A s.heap H locs → TI g ad th f_53 → (∀ b, b ≠ (cr ad j 0) → b ≠ (cr ad j 5) → b ≠ (cr ad j 7) → f_53 b = f b) → f_53 (ad 6) = .inr (2, [.int v0_1, .int v1_1, .int v2_1, .int v3_1, .int v4_1, .int v5_1, .int v6_1, .int v7_1]) → lv_has ls 8 [(0, .ref (cr ad j 0)), (1, .ref (ad 6)), (2, .int z2), (3, .int z3), (4, .int y16_s0), (5, .int y53_l5)] → 9 - y53_l5.toInt < ((k53 : Nat) : Int) → W p l e rm_X3_hearAll_co s m [.ref (cr ad j 0), .ref (ad 6), .int z2, .int z3].toArray below meth c H locs 0 0 (MQ below (va_Qv (po_X3_hearAll_co g ad th L f j z2 z3) (PstB g A) A) [.ref (cr ad j 0), .ref (ad 6), .int z2, .int z3].toArray s rm_X3_hearAll_co.cells rm_X3_hearAll_co.slots A) (F0 m 53 ls []) := by
          intro k53
          induction k53 with
          | zero =>
            intro y53_l5 f_53 H locs ls hy53_l5 hP hD hS hT hfr hf5 hl hmz53
            exact ms0 hy53_l5 hmz53
          | succ k53 ih53 =>
            intro y53_l5 f_53 H locs ls hy53_l5 hP hD hS hT hfr hf5 hl hmz53
            refine lv_iload hx hb dX3_hearAll_53 (lv_at hl 5 rfl) ?_
            refine lv_aload_n hx hb dX3_hearAll_55 rfl (lv_at hl 1 rfl) ?_
            refine pl_getN (v := .int v1_1) hx hb hts (fun w h => mT (inX2 w h)) hown hG.1 hP (hst.1 6 (by decide)) hf5 rfl 1 (by decide) (hG.2.1 _ wn_231) (fun _ h => h) rfl dX3_hearAll_56 ?_
            refine lv_icmp_ge (tgt := 136) hx hb dX3_hearAll_59 (by decide) (fun c6 => ?_) (fun c6 => ?_)
            ·
              exact ret_v hx hb hr hlocks hP hD hS (Nat.le_of_ble_eq_true rfl) (Nat.le_of_ble_eq_true rfl) (⟨rfl, hT, hfr⟩) dX3_hearAll_136
            ·
              have cc7 : y53_l5.toInt < v1_1.toInt := i32_nle c6
              have hb8 : In y53_l5 0 8 := In.lt1 hy53_l5 hv1_1 cc7 (by omega) (by omega)
              have hb9 : In v1_1 1 9 := In.lt2 hy53_l5 hv1_1 cc7 (by omega) (by omega)
              refine lv_aload_n hx hb dX3_hearAll_62 rfl (lv_at hl 0 rfl) ?_
              refine lv_aload_n hx hb dX3_hearAll_63 rfl (lv_at hl 1 rfl) ?_
              refine lv_iload_n hx hb dX3_hearAll_64 rfl (lv_at hl 2 rfl) ?_
              refine lv_iload_n hx hb dX3_hearAll_65 rfl (lv_at hl 3 rfl) ?_
              refine lv_iload hx hb dX3_hearAll_66 (lv_at hl 5 rfl) ?_
              obtain ⟨v0_10, v1_10, v2_10, v3_10, v4_10, v5_10, v6_10, v7_10, v8_10, hf11, hv1_10, hg1_10, hv2_10, hg2_10, hv6_10⟩ := hT.2.1 j hj 0 (by decide)
              refine call_i (run_V (rm := rm_X3_zerosHeard_co) hx hb hml hown hts (s_X3_zerosHeard_co l g ad th _ _ _ j z2 z3 y53_l5 hst hT hj hz2 hz3) cV_X3_zerosHeard wg_858 ⟨Nat.le_of_ble_eq_true rfl, Nat.le_of_ble_eq_true rfl⟩ hG hE hA hP hD hS (hst.c hj (by decide)) hf11 rfl rfl hl.1 (As := [.ref (ad 6), .int z2, .int z3, .int y53_l5]) (rest := []) rfl (Nat.le_of_ble_eq_true rfl) dX3_hearAll_68 ⟨Nat.le_of_ble_eq_true rfl, Nat.le_of_ble_eq_true rfl⟩) hA hD hS (fun r12 L13 f14 H locs hp15 hP hD hS => ?_)
              obtain ⟨eL16L, eL16T⟩ := hp15
              have eL16L : L13 = L := eL16L
              have eL16T : f14 = f_53 := eL16T
              rw [eL16L, eL16T] at hP hD
              refine lv_istore (lv' := [(6, .int r12), (0, .ref (cr ad j 0)), (1, .ref (ad 6)), (2, .int z2), (3, .int z3), (4, .int y16_s0), (5, .int y53_l5)]) hx hb dX3_hearAll_71 hl (by decide) rfl (fun ls hl => ?_)
              refine lv_aload_n hx hb dX3_hearAll_73 rfl (lv_at hl 1 rfl) ?_
              refine lv_iload_n hx hb dX3_hearAll_74 rfl (lv_at hl 3 rfl) ?_
              refine lv_iload_n hx hb dX3_hearAll_75 rfl (lv_at hl 4 rfl) ?_
              refine lv_iload hx hb dX3_hearAll_76 (lv_at hl 6 rfl) ?_
              refine call_i (run_V (rm := rm_X3_onesHeard) hx hb hml hown hts (s_X3_onesHeard l g ad th _ _ _ j z2 z3 y53_l5 hst hT hj hz2 hz3) cV_X3_onesHeard wg_862 ⟨Nat.le_of_ble_eq_true rfl, Nat.le_of_ble_eq_true rfl⟩ hG hE hA hP hD hS (hst.c hj (by decide)) hf11 rfl rfl hl.1 (As := [.int z2, .int z3, .int y53_l5]) (rest := []) rfl (Nat.le_of_ble_eq_true rfl) dX3_hearAll_78 ⟨Nat.le_of_ble_eq_true rfl, Nat.le_of_ble_eq_true rfl⟩) hA hD hS (fun r17 L18 f19 H locs hp20 hP hD hS => ?_)
              obtain ⟨eL21L, eL21T, eL21R⟩ := hp20
              have eL21L : L18 = L := eL21L
              have eL21T : f19 = f_53 := eL21T
              rw [eL21L, eL21T] at hP hD
              have eL21R : In r17 0 15 := eL21R
              refine lv_istore (lv' := [(7, .int r17), (6, .int r12), (0, .ref (cr ad j 0)), (1, .ref (ad 6)), (2, .int z2), (3, .int z3), (4, .int y16_s0), (5, .int y53_l5)]) hx hb dX3_hearAll_81 hl (by decide) rfl (fun ls hl => ?_)
              refine lv_iload hx hb dX3_hearAll_83 (lv_at hl 6 rfl) ?_
              have hJ130 : ∀ (f_130 : HP) (H : Heap) (locs : List Loc) (ls : Array Slot), va_P g.1 vwCl (va_pl L f_130) H → va_D A (va_pl L f_130) → va_S A s.heap H locs → TI g ad th f_130 → (∀ b, b ≠ (cr ad j 0) → b ≠ (cr ad j 5) → b ≠ (cr ad j 7) → f_130 b = f b) → f_130 (ad 6) = .inr (2, [.int v0_1, .int v1_1, .int v2_1, .int v3_1, .int v4_1, .int v5_1, .int v6_1, .int v7_1]) → lv_has ls 8 [(0, .ref (cr ad j 0)), (1, .ref (ad 6)), (2, .int z2), (3, .int z3), (4, .int y16_s0), (5, .int y53_l5), (6, .int r12), (7, .int r17)] → W p l e rm_X3_hearAll_co s m [.ref (cr ad j 0), .ref (ad 6), .int z2, .int z3].toArray below meth c H locs 0 0 (MQ below (va_Qv (po_X3_hearAll_co g ad th L f j z2 z3) (PstB g A) A) [.ref (cr ad j 0), .ref (ad 6), .int z2, .int z3].toArray s rm_X3_hearAll_co.cells rm_X3_hearAll_co.slots A) (F0 m 130 ls []) := by
                intro f_130 H locs ls hP hD hS hT hfr hf22 hl
                obtain ⟨x23, ex23⟩ : ∃ y : Int32, y = y53_l5 + 1 := ⟨_, rfl⟩
                have hb24 : In x23 1 9 := ex23 ▸ In.add hb8 (⟨by decide, by decide⟩ : In 1 1 1) (by decide) (by decide) (by decide) (by decide)
                have et25 : x23.toInt = y53_l5.toInt + 1 := In.adde ex23 hb8 (k := 1) (by decide) (by decide) (by decide)
                refine lv_iinc (v := x23) (lv' := [(5, .int x23), (0, .ref (cr ad j 0)), (1, .ref (ad 6)), (2, .int z2), (3, .int z3), (4, .int y16_s0), (6, .int r12), (7, .int r17)]) hx hb dX3_hearAll_130 hl (k := 5) rfl (by rw [ex23]; rfl) (by decide) rfl (fun ls hl => ?_)
                refine lv_goto (tgt := 53) hx hb dX3_hearAll_133 (by decide) ?_
                exact ih53 x23 _ _ _ _ (In.mono hb24 (by decide) (by decide)) hP hD hS hT hfr hf22 (lv_sub hl [1, 2, 3, 4, 5, 0] rfl) (msu et25 (by decide) hmz53)
              refine lv_if_eq (tgt := 114) hx hb dX3_hearAll_85 (by decide) (fun c26 => ?_) (fun c26 => ?_)
              ·
                have cc27 : y16_s0.toInt = (0 : Int32).toInt := congrArg Int32.toInt c26
                have hb28 : In y16_s0 0 0 := In.eq1 hy16_s0 (⟨by decide, by decide⟩ : In 0 0 0) cc27 (by omega) (by omega)
                refine lv_aload_n hx hb dX3_hearAll_114 rfl (lv_at hl 2 rfl) ?_
                refine lv_aload_n hx hb dX3_hearAll_115 rfl (lv_at hl 3 rfl) ?_
                refine lv_iload_n hx hb dX3_hearAll_116 rfl (lv_at hl 4 rfl) ?_
                refine lv_iload hx hb dX3_hearAll_117 (lv_at hl 7 rfl) ?_
                refine lv_aload_n hx hb dX3_hearAll_119 rfl (lv_at hl 3 rfl) ?_
                refine lv_iload hx hb dX3_hearAll_120 (lv_at hl 1 rfl) ?_
                refine lv_iload hx hb dX3_hearAll_122 (lv_at hl 0 rfl) ?_
                refine call_i (run_VN (rm := rm_X2_view_co) hx hb hml hown hts (s_X2_view_co l g ad th _ _ _ r12 r17 hst hT ) cV_X2_view wn_870 ⟨Nat.le_of_ble_eq_true rfl, Nat.le_of_ble_eq_true rfl⟩ hG hE hA hP hD hS (hst.1 6 (by decide)) hf5 rfl rfl hl.1 (As := [.int r12, .int r17]) (rest := [.int y53_l5, .int z2, .ref (ad 6), .ref (cr ad j 0)]) rfl (Nat.le_of_ble_eq_true rfl) dX3_hearAll_124 ⟨Nat.le_of_ble_eq_true rfl, Nat.le_of_ble_eq_true rfl⟩) hA hD hS (fun r29 L30 f31 H locs hp32 hP hD hS => ?_)
                obtain ⟨eL33L, eL33T, eL33R⟩ := hp32
                have eL33L : L30 = L := eL33L
                have eL33T : f31 = f_53 := eL33T
                rw [eL33L, eL33T] at hP hD
                have eL33R : In r29 0 6 := eL33R
                refine call_v (run_V (rm := rm_X3_takeView_co) hx hb hml hown hts (s_X3_takeView_co l g ad th _ _ _ j z2 y53_l5 r29 hst hT hj hz2) cV_X3_takeView wg_877 ⟨Nat.le_of_ble_eq_true rfl, Nat.le_of_ble_eq_true rfl⟩ hG hE hA hP hD hS (hst.c hj (by decide)) hf11 rfl rfl hl.1 (As := [.ref (ad 6), .int z2, .int y53_l5, .int r29]) (rest := []) rfl (Nat.le_of_ble_eq_true rfl) dX3_hearAll_127 ⟨Nat.le_of_ble_eq_true rfl, Nat.le_of_ble_eq_true rfl⟩) hA hD hS (fun L35 f36 H locs hp37 hP hD hS => ?_)
                obtain ⟨eL38L, eL38T, eL38F⟩ := hp37
                have eL38L : L35 = L := eL38L
                rw [eL38L] at hP hD
                have hT : TI g ad th f36 := eL38T
                have eL38F : ∀ b, b ≠ (cr ad j 0) → b ≠ (cr ad j 5) → b ≠ (cr ad j 7) → f36 b = f_53 b := eL38F
                have hf39 := (eL38F (ad 6) (hst.ne (by omega) (by omega) (by omega)) (hst.ne (by omega) (by omega) (by omega)) (hst.ne (by omega) (by omega) (by omega))).trans hf5
                have hfr : (∀ b, b ≠ (cr ad j 0) → b ≠ (cr ad j 5) → b ≠ (cr ad j 7) → f36 b = f b) := fun b z0_ z1_ z2_ => (eL38F b z0_ z1_ z2_).trans (hfr b z0_ z1_ z2_)
                exact hJ130 _ _ _ _ hP hD hS hT hfr hf39 (lv_sub hl [2, 3, 4, 5, 6, 7, 1, 0] rfl)
              ·
                have cc40 : y16_s0.toInt ≠ (0 : Int32).toInt := i32_ne c26
                have hb41 : In y16_s0 1 1 := In.ne1 hy16_s0 (⟨by decide, by decide⟩ : In 0 0 0) cc40 (by omega) (by omega)
                refine lv_aload_n hx hb dX3_hearAll_88 rfl (lv_at hl 2 rfl) ?_
                refine pl_get (v := .ref (cr ad j 5)) hx hb hts (fun w h => mT (inX3 w h)) hown hG.1 hP (hst.c hj (by decide)) hf11 rfl 13 (by decide) (hts _ (mT wg_356)) (fun _ h => h) rfl dX3_hearAll_89 ?_
                refine lv_iload_n hx hb dX3_hearAll_92 rfl (lv_at hl 4 rfl) ?_
                refine lv_dup2_11 hx hb dX3_hearAll_93 rfl rfl ?_
                obtain ⟨rw42, hf43⟩ := hT.2.1 j hj 5 (by decide)
                have hin44 : vp_in z2 6 := In.inb hz2 (by decide) (by decide)
                refine pl_lald hx hb hG.1 hP (hst.c hj (by decide)) 1 hf43 rfl hin44 dX3_hearAll_94 ?_
                refine lv_topl (fun x45 ex45 => ?_)
                refine lv_aload_n hx hb dX3_hearAll_95 rfl (lv_at hl 3 rfl) ?_
                refine lv_iload hx hb dX3_hearAll_96 (lv_at hl 1 rfl) ?_
                refine lv_iload hx hb dX3_hearAll_98 (lv_at hl 0 rfl) ?_
                refine call_i (run_VN (rm := rm_X2_offer_co) hx hb hml hown hts (s_X2_offer_co l g ad th _ _ _ r12 r17 hst hT ) cV_X2_offer wn_866 ⟨Nat.le_of_ble_eq_true rfl, Nat.le_of_ble_eq_true rfl⟩ hG hE hA hP hD hS (hst.1 6 (by decide)) hf5 rfl rfl hl.1 (As := [.int r12, .int r17]) (rest := [.long x45, .int z2, .ref (cr ad j 5)]) rfl (Nat.le_of_ble_eq_true rfl) dX3_hearAll_100 ⟨Nat.le_of_ble_eq_true rfl, Nat.le_of_ble_eq_true rfl⟩) hA hD hS (fun r46 L47 f48 H locs hp49 hP hD hS => ?_)
                obtain ⟨eL50L, eL50T, eL50R⟩ := hp49
                have eL50L : L47 = L := eL50L
                have eL50T : f48 = f_53 := eL50T
                rw [eL50L, eL50T] at hP hD
                have eL50R : In r46 0 2 := eL50R
                refine lv_i2l hx hb dX3_hearAll_103 rfl ?_
                refine lv_iconst (v := 4) hx hb dX3_hearAll_104 (by decide) ?_
                refine lv_iload hx hb dX3_hearAll_105 (lv_at hl 7 rfl) ?_
                refine lv_imul hx hb dX3_hearAll_107 ?_
                refine lv_topi (fun x51 ex51 => ?_)
                have hb52 : In x51 0 32 := ex51 ▸ In.mul (⟨by decide, by decide⟩ : In 4 4 4) hb8 (by decide) (by decide) (by decide) (by decide) (by decide)
                refine lv_lshl hx hb dX3_hearAll_108 rfl ?_
                refine lv_topl (fun x53 ex53 => ?_)
                refine lv_lor hx hb dX3_hearAll_109 ?_
                refine lv_topl (fun x54 ex54 => ?_)
                refine pl_lastE hx hb hG.1 hP hD hS (hst.c hj (by decide)) 1 hf43 rfl (In.inb hz2 (by decide) (by decide)) dX3_hearAll_110 (fun H locs f55 r58 er58 hf56 ho57 hP hD hS => ?_)
                have hf59 := (ho57 (ad 6) (hst.ne (by omega) (by omega) (by omega))).trans hf5
                have hf60 := (ho57 (cr ad j 0) (hst.ne (by omega) (by omega) (by omega))).trans hf11
                have hfr : (∀ b, b ≠ (cr ad j 0) → b ≠ (cr ad j 5) → b ≠ (cr ad j 7) → f55 b = f b) := fun b z0_ z1_ z2_ => (ho57 b z1_).trans (hfr b z0_ z1_ z2_)
                have hT := TI.updC hT hst hj (k := 5) (by decide) hf56 ho57 ⟨r58, rfl⟩
                refine lv_goto (tgt := 130) hx hb dX3_hearAll_111 (by decide) ?_
                exact hJ130 _ _ _ _ hP hD hS hT hfr hf59 (lv_sub hl [2, 3, 4, 5, 6, 7, 1, 0] rfl)
        exact hJ53 ((9 - (0 : Int32).toInt).toNat + 1) 0 _ _ _ _ (⟨by decide, by decide⟩ : In 0 0 9) hP hD hS hT hfr hf4 (lv_sub hl [1, 2, 3, 4, 5, 0] rfl) (msI _)
      have hJ43 : ∀ (H : Heap) (locs : List Loc) (ls : Array Slot), va_P g.1 vwCl (va_pl L f_30) H → va_D A (va_pl L f_30) → va_S A s.heap H locs → lv_has ls 8 [(0, .ref (cr ad j 0)), (1, .ref (ad 6)), (2, .int z2), (3, .int z3), (4, .int y16_s0)] → W p l e rm_X3_hearAll_co s m [.ref (cr ad j 0), .ref (ad 6), .int z2, .int z3].toArray below meth c H locs 0 0 (MQ below (va_Qv (po_X3_hearAll_co g ad th L f j z2 z3) (PstB g A) A) [.ref (cr ad j 0), .ref (ad 6), .int z2, .int z3].toArray s rm_X3_hearAll_co.cells rm_X3_hearAll_co.slots A) (F0 m 43 ls []) := by
        intro H locs ls hP hD hS hl
        refine lv_aload_n hx hb dX3_hearAll_43 rfl (lv_at hl 0 rfl) ?_
        obtain ⟨v0_61, v1_61, v2_61, v3_61, v4_61, v5_61, v6_61, v7_61, v8_61, hf62, hv1_61, hg1_61, hv2_61, hg2_61, hv6_61⟩ := hT.2.1 j hj 0 (by decide)
        refine pl_get (v := .ref (cr ad j 5)) hx hb hts (fun w h => mT (inX3 w h)) hown hG.1 hP (hst.c hj (by decide)) hf62 rfl 13 (by decide) (hts _ (mT wg_356)) (fun _ h => h) rfl dX3_hearAll_44 ?_
        refine lv_iload_n hx hb dX3_hearAll_47 rfl (lv_at hl 2 rfl) ?_
        refine lv_lconst (v := 0) hx hb dX3_hearAll_48 (by decide) ?_
        obtain ⟨rw63, hf64⟩ := hT.2.1 j hj 5 (by decide)
        refine pl_lastE hx hb hG.1 hP hD hS (hst.c hj (by decide)) 1 hf64 rfl (In.inb hz2 (by decide) (by decide)) dX3_hearAll_49 (fun H locs f65 r68 er68 hf66 ho67 hP hD hS => ?_)
        have hf69 := (ho67 (ad 6) (hst.ne (by omega) (by omega) (by omega))).trans hf3
        have hf70 := (ho67 (cr ad j 0) (hst.ne (by omega) (by omega) (by omega))).trans hf62
        have hfr : (∀ b, b ≠ (cr ad j 0) → b ≠ (cr ad j 5) → b ≠ (cr ad j 7) → f65 b = f b) := fun b z0_ z1_ z2_ => (ho67 b z1_).trans (hfr b z0_ z1_ z2_)
        have hT := TI.updC hT hst hj (k := 5) (by decide) hf66 ho67 ⟨r68, rfl⟩
        exact hJ50 _ _ _ _ hP hD hS hT hfr hf69 (lv_sub hl [0, 1, 2, 3, 4] rfl)
      refine lv_if_ne (tgt := 43) hx hb dX3_hearAll_32 (by decide) (fun c71 => ?_) (fun c71 => ?_)
      ·
        have cc72 : y16_s0.toInt ≠ (0 : Int32).toInt := i32_ne c71
        have hb73 : In y16_s0 1 1 := In.ne1 hy16_s0 (⟨by decide, by decide⟩ : In 0 0 0) cc72 (by omega) (by omega)
        exact hJ43 _ _ _ hP hD hS (lv_sub hl [0, 1, 2, 3, 4] rfl)
      ·
        have cc74 : y16_s0.toInt = (0 : Int32).toInt := congrArg Int32.toInt c71
        have hb75 : In y16_s0 0 0 := In.eq1 hy16_s0 (⟨by decide, by decide⟩ : In 0 0 0) cc74 (by omega) (by omega)
        refine lv_aload_n hx hb dX3_hearAll_35 rfl (lv_at hl 1 rfl) ?_
        refine pl_getN (v := .int v0_1) hx hb hts (fun w h => mT (inX2 w h)) hown hG.1 hP (hst.1 6 (by decide)) hf3 rfl 0 (by decide) (hG.2.1 _ wn_227) (fun _ h => h) rfl dX3_hearAll_36 ?_
        refine lv_iconst (v := 1) hx hb dX3_hearAll_39 (by decide) ?_
        refine lv_icmp_ne (tgt := 50) hx hb dX3_hearAll_40 (by decide) (fun c76 => ?_) (fun c76 => ?_)
        ·
          have cc77 : v0_1.toInt ≠ (1 : Int32).toInt := i32_ne c76
          have hb78 : In v0_1 0 0 := In.ne1 hv0_1 (⟨by decide, by decide⟩ : In 1 1 1) cc77 (by omega) (by omega)
          exact hJ50 _ _ _ _ hP hD hS hT hfr hf3 (lv_sub hl [0, 1, 2, 3, 4] rfl)
        ·
          have cc79 : v0_1.toInt = (1 : Int32).toInt := congrArg Int32.toInt c76
          have hb80 : In v0_1 1 1 := In.eq1 hv0_1 (⟨by decide, by decide⟩ : In 1 1 1) cc79 (by omega) (by omega)
          exact hJ43 _ _ _ hP hD hS (lv_sub hl [0, 1, 2, 3, 4] rfl)
    refine lv_if_ne (tgt := 30) hx hb dX3_hearAll_20 (by decide) (fun c81 => ?_) (fun c81 => ?_)
    ·
      have cc82 : y16_s0.toInt ≠ (0 : Int32).toInt := i32_ne c81
      have hb83 : In y16_s0 1 1 := In.ne1 hy16_s0 (⟨by decide, by decide⟩ : In 0 0 0) cc82 (by omega) (by omega)
      exact hJ30 _ _ _ _ hP hD hS hT hfr hf2 (lv_sub hl [1, 2, 3, 4, 0] rfl)
    ·
      have cc84 : y16_s0.toInt = (0 : Int32).toInt := congrArg Int32.toInt c81
      have hb85 : In y16_s0 0 0 := In.eq1 hy16_s0 (⟨by decide, by decide⟩ : In 0 0 0) cc84 (by omega) (by omega)
      refine lv_aload_n hx hb dX3_hearAll_23 rfl (lv_at hl 1 rfl) ?_
      obtain ⟨v0_86, v1_86, v2_86, v3_86, v4_86, v5_86, v6_86, v7_86, v8_86, hf87, hv1_86, hg1_86, hv2_86, hg2_86, hv6_86⟩ := hT.2.1 j hj 0 (by decide)
      refine pl_get (v := .ref (cr ad j 7)) hx hb hts (fun w h => mT (inX3 w h)) hown hG.1 hP (hst.c hj (by decide)) hf87 rfl 15 (by decide) (hts _ (mT wg_360)) (fun _ h => h) rfl dX3_hearAll_24 ?_
      refine lv_iload_n hx hb dX3_hearAll_27 rfl (lv_at hl 3 rfl) ?_
      refine lv_iconst (v := 0) hx hb dX3_hearAll_28 (by decide) ?_
      obtain ⟨rw88, hf89⟩ := hT.2.1 j hj 7 (by decide)
      refine pl_iastE hx hb hG.1 hP hD hS (hst.c hj (by decide)) 0 hf89 rfl (In.inb hz2 (by decide) (by decide)) dX3_hearAll_29 (fun H locs f90 r93 er93 hf91 ho92 hP hD hS => ?_)
      have hf94 := (ho92 (ad 6) (hst.ne (by omega) (by omega) (by omega))).trans hf2
      have hf95 := (ho92 (cr ad j 0) (hst.ne (by omega) (by omega) (by omega))).trans hf87
      have hfr : (∀ b, b ≠ (cr ad j 0) → b ≠ (cr ad j 5) → b ≠ (cr ad j 7) → f90 b = f b) := fun b z0_ z1_ z2_ => (ho92 b z2_).trans (hfr b z0_ z1_ z2_)
      have hT := TI.updC hT hst hj (k := 7) (by decide) hf91 ho92 ⟨r93, rfl⟩
      exact hJ30 _ _ _ _ hP hD hS hT hfr hf94 (lv_sub hl [1, 2, 3, 4, 0] rfl)
  have hJ15 : ∀ (H : Heap) (locs : List Loc) (ls : Array Slot), va_P g.1 vwCl (va_pl L f) H → va_D A (va_pl L f) → va_S A s.heap H locs → lv_has ls 8 [(0, .ref (cr ad j 0)), (1, .ref (ad 6)), (2, .int z2), (3, .int z3)] → W p l e rm_X3_hearAll_co s m [.ref (cr ad j 0), .ref (ad 6), .int z2, .int z3].toArray below meth c H locs 0 0 (MQ below (va_Qv (po_X3_hearAll_co g ad th L f j z2 z3) (PstB g A) A) [.ref (cr ad j 0), .ref (ad 6), .int z2, .int z3].toArray s rm_X3_hearAll_co.cells rm_X3_hearAll_co.slots A) (F0 m 15 ls []) := by
    intro H locs ls hP hD hS hl
    refine lv_iconst (v := 0) hx hb dX3_hearAll_15 (by decide) ?_
    exact hJ16 0 _ _ _ (⟨by decide, by decide⟩ : In 0 0 1) hP hD hS (lv_sub hl [0, 1, 2, 3] rfl)
  refine lv_if_ne (tgt := 15) hx hb dX3_hearAll_4 (by decide) (fun c96 => ?_) (fun c96 => ?_)
  ·
    have cc97 : v0_1.toInt ≠ (0 : Int32).toInt := i32_ne c96
    have hb98 : In v0_1 1 1 := In.ne1 hv0_1 (⟨by decide, by decide⟩ : In 0 0 0) cc97 (by omega) (by omega)
    exact hJ15 _ _ _ hP hD hS (lv_sub hl [0, 1, 2, 3] rfl)
  ·
    have cc99 : v0_1.toInt = (0 : Int32).toInt := congrArg Int32.toInt c96
    have hb100 : In v0_1 0 0 := In.eq1 hv0_1 (⟨by decide, by decide⟩ : In 0 0 0) cc99 (by omega) (by omega)
    refine lv_iload_n hx hb dX3_hearAll_7 rfl (lv_at hl 3 rfl) ?_
    refine lv_if_ne (tgt := 15) hx hb dX3_hearAll_8 (by decide) (fun c101 => ?_) (fun c101 => ?_)
    ·
      have cc102 : z3.toInt ≠ (0 : Int32).toInt := i32_ne c101
      have hb103 : In z3 1 2 := In.ne1 hz3 (⟨by decide, by decide⟩ : In 0 0 0) cc102 (by omega) (by omega)
      exact hJ15 _ _ _ hP hD hS (lv_sub hl [0, 1, 2, 3] rfl)
    ·
      have cc104 : z3.toInt = (0 : Int32).toInt := congrArg Int32.toInt c101
      have hb105 : In z3 0 0 := In.eq1 hz3 (⟨by decide, by decide⟩ : In 0 0 0) cc104 (by omega) (by omega)
      refine lv_iconst (v := 1) hx hb dX3_hearAll_11 (by decide) ?_
      refine lv_goto (tgt := 16) hx hb dX3_hearAll_12 (by decide) ?_
      exact hJ16 1 _ _ _ (⟨by decide, by decide⟩ : In 1 0 1) hP hD hS (lv_sub hl [0, 1, 2, 3] rfl)

abbrev rm_X3_hearRuler_co : Room := { frames := 2, cells := 0, slots := 0, locals := 46 }
abbrev po_X3_hearRuler_co (g : GG) (ad : Nat → Nat) (th : Nat → Int) (L : List Nat) (f : HP) (j : Nat) (z2 : Int32) (z3 : Int32) : (List Nat × HP) → Prop := fun u => u.1 = L ∧ TI g ad th u.2 ∧ (∀ b, b ≠ (cr ad j 0) → b ≠ (cr ad j 6) → b ≠ (cr ad j 8) → u.2 b = f b)
set_option maxHeartbeats 4000000 in
set_option maxRecDepth 100000 in
theorem s_X3_hearRuler_co (l : Launch) (g : GG) (ad : Nat → Nat) (th : Nat → Int) (L : List Nat) (f : HP) (sz : Nat) (j : Nat) (z2 : Int32) (z3 : Int32) (hst : ST ad L) (hT : TI g ad th f) (hj : j < 23) (hz2 : In z2 0 5) (hz3 : In z3 0 8) : MtV l g yX3_hearRuler cX3_hearRuler 10 rm_X3_hearRuler_co [.ref (cr ad j 0), .ref (ad 6), .int z2, .int z3] L f sz (po_X3_hearRuler_co g ad th L f j z2 z3) := by
  refine MtV.of (by decide +kernel) (Nat.le_of_ble_eq_true rfl) ?_
  intro p e s m below meth c A hEn hP hD hS ls hl
  obtain ⟨hx, hb, hr, hml, hown, hlocks, hts, hG, hA, hE, hnm⟩ := hEn
  have hown : s.vm.findClass "RulerWord$Course" = some m.cls := hown
  have hl : lv_has ls 10 [(0, .ref (cr ad j 0)), (1, .ref (ad 6)), (2, .int z2), (3, .int z3)] := hl
  have hfr : (∀ b, b ≠ (cr ad j 0) → b ≠ (cr ad j 6) → b ≠ (cr ad j 8) → f b = f b) := fun b z0_ z1_ z2_ => rfl
  refine lv_iconst (v := 0) hx hb dX3_hearRuler_0 (by decide) ?_
  refine lv_istore (lv' := [(4, .int 0), (0, .ref (cr ad j 0)), (1, .ref (ad 6)), (2, .int z2), (3, .int z3)]) hx hb dX3_hearRuler_1 hl (by decide) rfl (fun ls hl => ?_)
  refine lv_aload_n hx hb dX3_hearRuler_3 rfl (lv_at hl 1 rfl) ?_
  obtain ⟨v0_1, v1_1, v2_1, v3_1, v4_1, v5_1, v6_1, v7_1, v8_1, hf2, hv1_1, hg1_1, hv2_1, hg2_1, hv6_1⟩ := hT.2.1 j hj 0 (by decide)
  refine pl_get (v := .ref (cr ad j 8)) hx hb hts (fun w h => mT (inX3 w h)) hown hG.1 hP (hst.c hj (by decide)) hf2 rfl 16 (by decide) (hts _ (mT wg_362)) (fun _ h => h) rfl dX3_hearRuler_4 ?_
  refine lv_iload_n hx hb dX3_hearRuler_7 rfl (lv_at hl 3 rfl) ?_
  refine lv_iconst (v := 0) hx hb dX3_hearRuler_8 (by decide) ?_
  obtain ⟨rw3, hf4⟩ := hT.2.1 j hj 8 (by decide)
  refine pl_iastE hx hb hG.1 hP hD hS (hst.c hj (by decide)) 0 hf4 rfl (In.inb hz2 (by decide) (by decide)) dX3_hearRuler_9 (fun H locs f5 r8 er8 hf6 ho7 hP hD hS => ?_)
  have hf9 := (ho7 (cr ad j 0) (hst.ne (by omega) (by omega) (by omega))).trans hf2
  have hfr : (∀ b, b ≠ (cr ad j 0) → b ≠ (cr ad j 6) → b ≠ (cr ad j 8) → f5 b = f b) := fun b z0_ z1_ z2_ => (ho7 b z2_).trans (hfr b z0_ z1_ z2_)
  refine lv_iconst (v := 0) hx hb dX3_hearRuler_10 (by decide) ?_
  refine lv_istore (lv' := [(5, .int 0), (4, .int 0), (0, .ref (cr ad j 0)), (1, .ref (ad 6)), (2, .int z2), (3, .int z3)]) hx hb dX3_hearRuler_11 hl (by decide) rfl (fun ls hl => ?_)
  have hT := TI.updC hT hst hj (k := 8) (by decide) hf6 ho7 ⟨r8, rfl⟩
  have hJ13 : ∀ (k13 : Nat) (y13_l4 : Int32) (y13_l5 : Int32) (f_13 : HP) (H : Heap) (locs : List Loc) (ls : Array Slot), In y13_l4 (-2147483648) 2147483647 → In y13_l5 0 9 → va_P g.1 vwCl (va_pl L f_13) H → va_D A (va_pl L f_13) → va_S A s.heap H locs → TI g ad th f_13 → (∀ b, b ≠ (cr ad j 0) → b ≠ (cr ad j 6) → b ≠ (cr ad j 8) → f_13 b = f b) → lv_has ls 10 [(0, .ref (cr ad j 0)), (1, .ref (ad 6)), (2, .int z2), (3, .int z3), (4, .int y13_l4), (5, .int y13_l5)] → 9 - y13_l5.toInt < ((k13 : Nat) : Int) → W p l e rm_X3_hearRuler_co s m [.ref (cr ad j 0), .ref (ad 6), .int z2, .int z3].toArray below meth c H locs 0 0 (MQ below (va_Qv (po_X3_hearRuler_co g ad th L f j z2 z3) (PstB g A) A) [.ref (cr ad j 0), .ref (ad 6), .int z2, .int z3].toArray s rm_X3_hearRuler_co.cells rm_X3_hearRuler_co.slots A) (F0 m 13 ls []) := by
    intro k13
    induction k13 with
    | zero =>
      intro y13_l4 y13_l5 f_13 H locs ls hy13_l4 hy13_l5 hP hD hS hT hfr hl hmz13
      exact ms0 hy13_l5 hmz13
    | succ k13 ih13 =>
      intro y13_l4 y13_l5 f_13 H locs ls hy13_l4 hy13_l5 hP hD hS hT hfr hl hmz13
      refine lv_iload hx hb dX3_hearRuler_13 (lv_at hl 5 rfl) ?_
      refine lv_aload_n hx hb dX3_hearRuler_15 rfl (lv_at hl 1 rfl) ?_
      obtain ⟨v0_10, v1_10, v2_10, v3_10, v4_10, v5_10, v6_10, v7_10, hf11, hv0_10, hg0_10, hv1_10, hg1_10, hv2_10, hv3_10, hv5_10, hv6_10, hrel0_10⟩ := hT.1 6 (by decide)
      refine pl_getN (v := .int v1_10) hx hb hts (fun w h => mT (inX2 w h)) hown hG.1 hP (hst.1 6 (by decide)) hf11 rfl 1 (by decide) (hG.2.1 _ wn_231) (fun _ h => h) rfl dX3_hearRuler_16 ?_
      refine lv_icmp_ge (tgt := 217) hx hb dX3_hearRuler_19 (by decide) (fun c12 => ?_) (fun c12 => ?_)
      ·
        refine lv_aload_n hx hb dX3_hearRuler_217 rfl (lv_at hl 0 rfl) ?_
        refine lv_iload hx hb dX3_hearRuler_218 (lv_at hl 4 rfl) ?_
        obtain ⟨v0_13, v1_13, v2_13, v3_13, v4_13, v5_13, v6_13, v7_13, v8_13, hf14, hv1_13, hg1_13, hv2_13, hg2_13, hv6_13⟩ := hT.2.1 j hj 0 (by decide)
        refine pl_put (ty := .int) (v := .int y13_l4) (fs' := [.int v0_13, .int v1_13, .int v2_13, .int y13_l4, .int v4_13, .int v5_13, .int v6_13, .long v7_13, .long v8_13, .ref (cr ad j 1), .ref (cr ad j 2), .ref (cr ad j 3), .ref (cr ad j 4), .ref (cr ad j 5), .ref (cr ad j 6), .ref (cr ad j 7), .ref (cr ad j 8), .ref (cr ad j 9)]) hx hb hts (fun w h => mT (inX3 w h)) tyX3 tyX3_ok nmX3 hown hG.1 hP hD hS (hst.c hj (by decide)) hf14 rfl 3 (by decide) (hts _ (mT wg_342)) (fun _ h => h) rfl (by decide +kernel) (rfl) (rfl) (Nat.le_of_ble_eq_true rfl) rfl dX3_hearRuler_220 (fun H locs f15 hf16 ho17 hP hD hS => ?_)
        have hf18 := (ho17 (ad 6) (hst.ne (by omega) (by omega) (by omega))).trans hf11
        have hfr : (∀ b, b ≠ (cr ad j 0) → b ≠ (cr ad j 6) → b ≠ (cr ad j 8) → f15 b = f b) := fun b z0_ z1_ z2_ => (ho17 b z0_).trans (hfr b z0_ z1_ z2_)
        refine lv_aload_n hx hb dX3_hearRuler_223 rfl (lv_at hl 0 rfl) ?_
        refine pl_get (v := .ref (cr ad j 6)) hx hb hts (fun w h => mT (inX3 w h)) hown hG.1 hP (hst.c hj (by decide)) hf16 rfl 14 (by decide) (hts _ (mT wg_358)) (fun _ h => h) rfl dX3_hearRuler_224 ?_
        refine lv_iload_n hx hb dX3_hearRuler_227 rfl (lv_at hl 2 rfl) ?_
        refine lv_iload hx hb dX3_hearRuler_228 (lv_at hl 4 rfl) ?_
        have hT := TI.updC hT hst hj (k := 0) (by decide) hf16 ho17 ⟨v0_13, v1_13, v2_13, y13_l4, v4_13, v5_13, v6_13, v7_13, v8_13, rfl, hv1_13, hg1_13, hv2_13, hg2_13, hv6_13⟩
        obtain ⟨rw19, hf20⟩ := hT.2.1 j hj 6 (by decide)
        refine pl_iastE hx hb hG.1 hP hD hS (hst.c hj (by decide)) 0 hf20 rfl (In.inb hz2 (by decide) (by decide)) dX3_hearRuler_230 (fun H locs f21 r24 er24 hf22 ho23 hP hD hS => ?_)
        have hf25 := (ho23 (ad 6) (hst.ne (by omega) (by omega) (by omega))).trans hf18
        have hf26 := (ho23 (cr ad j 0) (hst.ne (by omega) (by omega) (by omega))).trans hf16
        have hfr : (∀ b, b ≠ (cr ad j 0) → b ≠ (cr ad j 6) → b ≠ (cr ad j 8) → f21 b = f b) := fun b z0_ z1_ z2_ => (ho23 b z1_).trans (hfr b z0_ z1_ z2_)
        have hT := TI.updC hT hst hj (k := 6) (by decide) hf22 ho23 ⟨r24, rfl⟩
        exact ret_v hx hb hr hlocks hP hD hS (Nat.le_of_ble_eq_true rfl) (Nat.le_of_ble_eq_true rfl) (⟨rfl, hT, hfr⟩) dX3_hearRuler_231
      ·
        have cc27 : y13_l5.toInt < v1_10.toInt := i32_nle c12
        have hb28 : In y13_l5 0 8 := In.lt1 hy13_l5 hv1_10 cc27 (by omega) (by omega)
        have hb29 : In v1_10 1 9 := In.lt2 hy13_l5 hv1_10 cc27 (by omega) (by omega)
        refine lv_aload_n hx hb dX3_hearRuler_22 rfl (lv_at hl 0 rfl) ?_
        refine lv_iload_n hx hb dX3_hearRuler_23 rfl (lv_at hl 2 rfl) ?_
        refine lv_aload_n hx hb dX3_hearRuler_24 rfl (lv_at hl 1 rfl) ?_
        refine call_i (run_VN (rm := rm_X2_rounds_co) hx hb hml hown hts (s_X2_rounds_co l g ad th _ _ _  hst hT ) cV_X2_rounds wn_777 ⟨Nat.le_of_ble_eq_true rfl, Nat.le_of_ble_eq_true rfl⟩ hG hE hA hP hD hS (hst.1 6 (by decide)) hf11 rfl rfl hl.1 (As := []) (rest := [.int z2, .ref (cr ad j 0)]) rfl (Nat.le_of_ble_eq_true rfl) dX3_hearRuler_25 ⟨Nat.le_of_ble_eq_true rfl, Nat.le_of_ble_eq_true rfl⟩) hA hD hS (fun r30 L31 f32 H locs hp33 hP hD hS => ?_)
        obtain ⟨eL34L, eL34T, eL34R, eL34X0⟩ := hp33
        have eL34L : L31 = L := eL34L
        have eL34T : f32 = f_13 := eL34T
        rw [eL34L, eL34T] at hP hD
        have eL34R : In r30 2 3 := eL34R
        have hrn35 : r30.toInt = rnd (th 2) := eL34X0
        refine lv_iconst (v := 1) hx hb dX3_hearRuler_28 (by decide) ?_
        refine lv_isub hx hb dX3_hearRuler_29 ?_
        refine lv_topi (fun x36 ex36 => ?_)
        have hb37 : In x36 1 2 := ex36 ▸ In.sub eL34R (⟨by decide, by decide⟩ : In 1 1 1) (by decide) (by decide) (by decide) (by decide)
        have et38 : x36.toInt = r30.toInt + (-1) := In.sube ex36 eL34R (k := 1) (by decide) (by decide) (by decide)
        refine lv_iload_n hx hb dX3_hearRuler_30 rfl (lv_at hl 3 rfl) ?_
        refine lv_iload hx hb dX3_hearRuler_31 (lv_at hl 5 rfl) ?_
        obtain ⟨v0_39, v1_39, v2_39, v3_39, v4_39, v5_39, v6_39, v7_39, v8_39, hf40, hv1_39, hg1_39, hv2_39, hg2_39, hv6_39⟩ := hT.2.1 j hj 0 (by decide)
        refine call_i (run_V (rm := rm_X3_letter) hx hb hml hown hts (s_X3_letter l g ad th _ _ _ j z2 x36 z3 y13_l5 hst hT hj hz2 (In.mono hb37 (by decide) (by decide)) hz3) cV_X3_letter wg_846 ⟨Nat.le_of_ble_eq_true rfl, Nat.le_of_ble_eq_true rfl⟩ hG hE hA hP hD hS (hst.c hj (by decide)) hf40 rfl rfl hl.1 (As := [.int z2, .int x36, .int z3, .int y13_l5]) (rest := []) rfl (Nat.le_of_ble_eq_true rfl) dX3_hearRuler_33 ⟨Nat.le_of_ble_eq_true rfl, Nat.le_of_ble_eq_true rfl⟩) hA hD hS (fun r41 L42 f43 H locs hp44 hP hD hS => ?_)
        obtain ⟨eL45L, eL45T, eL45R⟩ := hp44
        have eL45L : L42 = L := eL45L
        have eL45T : f43 = f_13 := eL45T
        rw [eL45L, eL45T] at hP hD
        have eL45R : In r41 0 15 := eL45R
        refine lv_istore (lv' := [(6, .int r41), (0, .ref (cr ad j 0)), (1, .ref (ad 6)), (2, .int z2), (3, .int z3), (4, .int y13_l4), (5, .int y13_l5)]) hx hb dX3_hearRuler_36 hl (by decide) rfl (fun ls hl => ?_)
        refine lv_aload_n hx hb dX3_hearRuler_38 rfl (lv_at hl 2 rfl) ?_
        refine pl_getN (v := .int v0_10) hx hb hts (fun w h => mT (inX2 w h)) hown hG.1 hP (hst.1 6 (by decide)) hf11 rfl 0 (by decide) (hG.2.1 _ wn_227) (fun _ h => h) rfl dX3_hearRuler_39 ?_
        have hJ68 : ∀ (y68_s0 : Int32) (H : Heap) (locs : List Loc) (ls : Array Slot), In y68_s0 0 15 → va_P g.1 vwCl (va_pl L f_13) H → va_D A (va_pl L f_13) → va_S A s.heap H locs → lv_has ls 10 [(0, .ref (cr ad j 0)), (1, .ref (ad 6)), (2, .int z2), (3, .int z3), (4, .int y13_l4), (5, .int y13_l5), (6, .int r41)] → W p l e rm_X3_hearRuler_co s m [.ref (cr ad j 0), .ref (ad 6), .int z2, .int z3].toArray below meth c H locs 0 0 (MQ below (va_Qv (po_X3_hearRuler_co g ad th L f j z2 z3) (PstB g A) A) [.ref (cr ad j 0), .ref (ad 6), .int z2, .int z3].toArray s rm_X3_hearRuler_co.cells rm_X3_hearRuler_co.slots A) (F0 m 68 ls [.int y68_s0]) := by
          intro y68_s0 H locs ls hy68_s0 hP hD hS hl
          refine lv_istore (lv' := [(7, .int y68_s0), (0, .ref (cr ad j 0)), (1, .ref (ad 6)), (2, .int z2), (3, .int z3), (4, .int y13_l4), (5, .int y13_l5), (6, .int r41)]) hx hb dX3_hearRuler_68 hl (by decide) rfl (fun ls hl => ?_)
          refine lv_aload_n hx hb dX3_hearRuler_70 rfl (lv_at hl 1 rfl) ?_
          refine pl_get (v := .ref (cr ad j 7)) hx hb hts (fun w h => mT (inX3 w h)) hown hG.1 hP (hst.c hj (by decide)) hf40 rfl 15 (by decide) (hts _ (mT wg_360)) (fun _ h => h) rfl dX3_hearRuler_71 ?_
          refine lv_iload_n hx hb dX3_hearRuler_74 rfl (lv_at hl 3 rfl) ?_
          obtain ⟨rw46, hf47⟩ := hT.2.1 j hj 7 (by decide)
          have hin48 : vp_in z2 6 := In.inb hz2 (by decide) (by decide)
          refine pl_iald hx hb hG.1 hP (hst.c hj (by decide)) 0 hf47 rfl hin48 dX3_hearRuler_75 ?_
          refine lv_topi (fun x49 ex49 => ?_)
          refine lv_iload hx hb dX3_hearRuler_76 (lv_at hl 6 rfl) ?_
          refine call_i (run_SN (rm := rm_X10_bit) hx hb hml hown hts (s_X10_bit l g ad th _ _ _ x49 y13_l5 hst hT ) cS_X10_bit wn_794 ⟨Nat.le_of_ble_eq_true rfl, Nat.le_of_ble_eq_true rfl⟩ hG hE hA hP hD hS rfl hl.1 (As := [.int x49, .int y13_l5]) (rest := []) rfl (Nat.le_of_ble_eq_true rfl) dX3_hearRuler_78 ⟨Nat.le_of_ble_eq_true rfl, Nat.le_of_ble_eq_true rfl⟩) hA hD hS (fun r50 L51 f52 H locs hp53 hP hD hS => ?_)
          obtain ⟨eL54L, eL54T, eL54R, eL54X0⟩ := hp53
          have eL54L : L51 = L := eL54L
          have eL54T : f52 = f_13 := eL54T
          rw [eL54L, eL54T] at hP hD
          have eL54R : In r50 0 1 := eL54R
          refine lv_iconst (v := 1) hx hb dX3_hearRuler_81 (by decide) ?_
          have hJ90 : ∀ (y90_s0 : Int32) (H : Heap) (locs : List Loc) (ls : Array Slot), In y90_s0 0 1 → va_P g.1 vwCl (va_pl L f_13) H → va_D A (va_pl L f_13) → va_S A s.heap H locs → lv_has ls 10 [(0, .ref (cr ad j 0)), (1, .ref (ad 6)), (2, .int z2), (3, .int z3), (4, .int y13_l4), (5, .int y13_l5), (6, .int r41), (7, .int y68_s0)] → W p l e rm_X3_hearRuler_co s m [.ref (cr ad j 0), .ref (ad 6), .int z2, .int z3].toArray below meth c H locs 0 0 (MQ below (va_Qv (po_X3_hearRuler_co g ad th L f j z2 z3) (PstB g A) A) [.ref (cr ad j 0), .ref (ad 6), .int z2, .int z3].toArray s rm_X3_hearRuler_co.cells rm_X3_hearRuler_co.slots A) (F0 m 90 ls [.int y90_s0]) := by
            intro y90_s0 H locs ls hy90_s0 hP hD hS hl
            refine lv_istore (lv' := [(8, .int y90_s0), (0, .ref (cr ad j 0)), (1, .ref (ad 6)), (2, .int z2), (3, .int z3), (4, .int y13_l4), (5, .int y13_l5), (6, .int r41), (7, .int y68_s0)]) hx hb dX3_hearRuler_90 hl (by decide) rfl (fun ls hl => ?_)
            refine lv_aload_n hx hb dX3_hearRuler_92 rfl (lv_at hl 2 rfl) ?_
            refine pl_getN (v := .int v6_10) hx hb hts (fun w h => mT (inX2 w h)) hown hG.1 hP (hst.1 6 (by decide)) hf11 rfl 6 (by decide) (hG.2.1 _ wn_244) (fun _ h => h) rfl dX3_hearRuler_93 ?_
            have hJ118 : ∀ (y118_s0 : Int32) (H : Heap) (locs : List Loc) (ls : Array Slot), In y118_s0 0 1 → va_P g.1 vwCl (va_pl L f_13) H → va_D A (va_pl L f_13) → va_S A s.heap H locs → lv_has ls 10 [(0, .ref (cr ad j 0)), (1, .ref (ad 6)), (2, .int z2), (3, .int z3), (4, .int y13_l4), (5, .int y13_l5), (6, .int r41), (7, .int y68_s0), (8, .int y90_s0)] → W p l e rm_X3_hearRuler_co s m [.ref (cr ad j 0), .ref (ad 6), .int z2, .int z3].toArray below meth c H locs 0 0 (MQ below (va_Qv (po_X3_hearRuler_co g ad th L f j z2 z3) (PstB g A) A) [.ref (cr ad j 0), .ref (ad 6), .int z2, .int z3].toArray s rm_X3_hearRuler_co.cells rm_X3_hearRuler_co.slots A) (F0 m 118 ls [.int y118_s0]) := by
              intro y118_s0 H locs ls hy118_s0 hP hD hS hl
              refine lv_istore (lv' := [(9, .int y118_s0), (0, .ref (cr ad j 0)), (1, .ref (ad 6)), (2, .int z2), (3, .int z3), (4, .int y13_l4), (5, .int y13_l5), (6, .int r41), (7, .int y68_s0), (8, .int y90_s0)]) hx hb dX3_hearRuler_118 hl (by decide) rfl (fun ls hl => ?_)
              refine lv_iload hx hb dX3_hearRuler_120 (lv_at hl 9 rfl) ?_
              have hJ156 : ∀ (f_156 : HP) (H : Heap) (locs : List Loc) (ls : Array Slot), va_P g.1 vwCl (va_pl L f_156) H → va_D A (va_pl L f_156) → va_S A s.heap H locs → TI g ad th f_156 → (∀ b, b ≠ (cr ad j 0) → b ≠ (cr ad j 6) → b ≠ (cr ad j 8) → f_156 b = f b) → f_156 (ad 6) = .inr (2, [.int v0_10, .int v1_10, .int v2_10, .int v3_10, .int v4_10, .int v5_10, .int v6_10, .int v7_10]) → f_156 (cr ad j 7) = .inl (g.2.1 0, 6, .inl (rw46)) → lv_has ls 10 [(0, .ref (cr ad j 0)), (1, .ref (ad 6)), (2, .int z2), (3, .int z3), (4, .int y13_l4), (5, .int y13_l5), (6, .int r41), (7, .int y68_s0), (8, .int y90_s0), (9, .int y118_s0)] → W p l e rm_X3_hearRuler_co s m [.ref (cr ad j 0), .ref (ad 6), .int z2, .int z3].toArray below meth c H locs 0 0 (MQ below (va_Qv (po_X3_hearRuler_co g ad th L f j z2 z3) (PstB g A) A) [.ref (cr ad j 0), .ref (ad 6), .int z2, .int z3].toArray s rm_X3_hearRuler_co.cells rm_X3_hearRuler_co.slots A) (F0 m 156 ls []) := by
                intro f_156 H locs ls hP hD hS hT hfr hf55 hf56 hl
                refine lv_iload hx hb dX3_hearRuler_156 (lv_at hl 8 rfl) ?_
                have hJ211 : ∀ (y211_l4 : Int32) (f_211 : HP) (H : Heap) (locs : List Loc) (ls : Array Slot), In y211_l4 (-2147483648) 2147483647 → va_P g.1 vwCl (va_pl L f_211) H → va_D A (va_pl L f_211) → va_S A s.heap H locs → TI g ad th f_211 → (∀ b, b ≠ (cr ad j 0) → b ≠ (cr ad j 6) → b ≠ (cr ad j 8) → f_211 b = f b) → f_211 (ad 6) = .inr (2, [.int v0_10, .int v1_10, .int v2_10, .int v3_10, .int v4_10, .int v5_10, .int v6_10, .int v7_10]) → f_211 (cr ad j 7) = .inl (g.2.1 0, 6, .inl (rw46)) → lv_has ls 10 [(0, .ref (cr ad j 0)), (1, .ref (ad 6)), (2, .int z2), (3, .int z3), (4, .int y211_l4), (5, .int y13_l5), (6, .int r41), (7, .int y68_s0), (8, .int y90_s0), (9, .int y118_s0)] → W p l e rm_X3_hearRuler_co s m [.ref (cr ad j 0), .ref (ad 6), .int z2, .int z3].toArray below meth c H locs 0 0 (MQ below (va_Qv (po_X3_hearRuler_co g ad th L f j z2 z3) (PstB g A) A) [.ref (cr ad j 0), .ref (ad 6), .int z2, .int z3].toArray s rm_X3_hearRuler_co.cells rm_X3_hearRuler_co.slots A) (F0 m 211 ls []) := by
                  intro y211_l4 f_211 H locs ls hy211_l4 hP hD hS hT hfr hf57 hf58 hl
                  obtain ⟨x59, ex59⟩ : ∃ y : Int32, y = y13_l5 + 1 := ⟨_, rfl⟩
                  have hb60 : In x59 1 9 := ex59 ▸ In.add hb28 (⟨by decide, by decide⟩ : In 1 1 1) (by decide) (by decide) (by decide) (by decide)
                  have et61 : x59.toInt = y13_l5.toInt + 1 := In.adde ex59 hb28 (k := 1) (by decide) (by decide) (by decide)
                  refine lv_iinc (v := x59) (lv' := [(5, .int x59), (0, .ref (cr ad j 0)), (1, .ref (ad 6)), (2, .int z2), (3, .int z3), (4, .int y211_l4), (6, .int r41), (7, .int y68_s0), (8, .int y90_s0), (9, .int y118_s0)]) hx hb dX3_hearRuler_211 hl (k := 5) rfl (by rw [ex59]; rfl) (by decide) rfl (fun ls hl => ?_)
                  refine lv_goto (tgt := 13) hx hb dX3_hearRuler_214 (by decide) ?_
                  exact ih13 y211_l4 x59 _ _ _ _ hy211_l4 (In.mono hb60 (by decide) (by decide)) hP hD hS hT hfr (lv_sub hl [1, 2, 3, 4, 5, 0] rfl) (msu et61 (by decide) hmz13)
                have hJ166 : ∀ (H : Heap) (locs : List Loc) (ls : Array Slot), va_P g.1 vwCl (va_pl L f_156) H → va_D A (va_pl L f_156) → va_S A s.heap H locs → lv_has ls 10 [(0, .ref (cr ad j 0)), (1, .ref (ad 6)), (2, .int z2), (3, .int z3), (4, .int y13_l4), (5, .int y13_l5), (6, .int r41), (7, .int y68_s0), (8, .int y90_s0), (9, .int y118_s0)] → W p l e rm_X3_hearRuler_co s m [.ref (cr ad j 0), .ref (ad 6), .int z2, .int z3].toArray below meth c H locs 0 0 (MQ below (va_Qv (po_X3_hearRuler_co g ad th L f j z2 z3) (PstB g A) A) [.ref (cr ad j 0), .ref (ad 6), .int z2, .int z3].toArray s rm_X3_hearRuler_co.cells rm_X3_hearRuler_co.slots A) (F0 m 166 ls []) := by
                  intro H locs ls hP hD hS hl
                  refine lv_iload hx hb dX3_hearRuler_166 (lv_at hl 4 rfl) ?_
                  refine lv_iload hx hb dX3_hearRuler_168 (lv_at hl 7 rfl) ?_
                  refine lv_iload hx hb dX3_hearRuler_170 (lv_at hl 5 rfl) ?_
                  refine lv_ishl hx hb dX3_hearRuler_172 ?_
                  refine lv_topi (fun x62 ex62 => ?_)
                  have hb63 : In x62 0 3840 := ex62 ▸ In.shl hy68_s0 hb28 (by decide) (by decide) (by decide) (by decide) (by decide) (by decide)
                  refine lv_ior hx hb dX3_hearRuler_173 ?_
                  refine lv_topi (fun x64 ex64 => ?_)
                  refine lv_istore (lv' := [(4, .int x64), (0, .ref (cr ad j 0)), (1, .ref (ad 6)), (2, .int z2), (3, .int z3), (5, .int y13_l5), (6, .int r41), (7, .int y68_s0), (8, .int y90_s0), (9, .int y118_s0)]) hx hb dX3_hearRuler_174 hl (by decide) rfl (fun ls hl => ?_)
                  refine lv_goto (tgt := 211) hx hb dX3_hearRuler_176 (by decide) ?_
                  exact hJ211 x64 _ _ _ _ (In.full x64) hP hD hS hT hfr hf55 hf56 (lv_sub hl [1, 2, 3, 4, 0, 5, 6, 7, 8, 9] rfl)
                refine lv_if_ne (tgt := 166) hx hb dX3_hearRuler_158 (by decide) (fun c65 => ?_) (fun c65 => ?_)
                ·
                  have cc66 : y90_s0.toInt ≠ (0 : Int32).toInt := i32_ne c65
                  have hb67 : In y90_s0 1 1 := In.ne1 hy90_s0 (⟨by decide, by decide⟩ : In 0 0 0) cc66 (by omega) (by omega)
                  exact hJ166 _ _ _ hP hD hS (lv_sub hl [0, 1, 2, 3, 4, 5, 6, 7, 8, 9] rfl)
                ·
                  have cc68 : y90_s0.toInt = (0 : Int32).toInt := congrArg Int32.toInt c65
                  have hb69 : In y90_s0 0 0 := In.eq1 hy90_s0 (⟨by decide, by decide⟩ : In 0 0 0) cc68 (by omega) (by omega)
                  refine lv_iload hx hb dX3_hearRuler_161 (lv_at hl 9 rfl) ?_
                  refine lv_if_eq (tgt := 179) hx hb dX3_hearRuler_163 (by decide) (fun c70 => ?_) (fun c70 => ?_)
                  ·
                    have cc71 : y118_s0.toInt = (0 : Int32).toInt := congrArg Int32.toInt c70
                    have hb72 : In y118_s0 0 0 := In.eq1 hy118_s0 (⟨by decide, by decide⟩ : In 0 0 0) cc71 (by omega) (by omega)
                    refine lv_aload_n hx hb dX3_hearRuler_179 rfl (lv_at hl 0 rfl) ?_
                    obtain ⟨v0_73, v1_73, v2_73, v3_73, v4_73, v5_73, v6_73, v7_73, v8_73, hf74, hv1_73, hg1_73, hv2_73, hg2_73, hv6_73⟩ := hT.2.1 j hj 0 (by decide)
                    refine pl_get (v := .ref (cr ad j 8)) hx hb hts (fun w h => mT (inX3 w h)) hown hG.1 hP (hst.c hj (by decide)) hf74 rfl 16 (by decide) (hts _ (mT wg_362)) (fun _ h => h) rfl dX3_hearRuler_180 ?_
                    refine lv_iload_n hx hb dX3_hearRuler_183 rfl (lv_at hl 2 rfl) ?_
                    refine lv_dup2_11 hx hb dX3_hearRuler_184 rfl rfl ?_
                    obtain ⟨rw75, hf76⟩ := hT.2.1 j hj 8 (by decide)
                    have hin77 : vp_in z2 6 := In.inb hz2 (by decide) (by decide)
                    refine pl_iald hx hb hG.1 hP (hst.c hj (by decide)) 0 hf76 rfl hin77 dX3_hearRuler_185 ?_
                    refine lv_topi (fun x78 ex78 => ?_)
                    refine lv_iconst (v := 1) hx hb dX3_hearRuler_186 (by decide) ?_
                    refine lv_iload hx hb dX3_hearRuler_187 (lv_at hl 5 rfl) ?_
                    refine lv_ishl hx hb dX3_hearRuler_189 ?_
                    refine lv_topi (fun x79 ex79 => ?_)
                    have hb80 : In x79 1 256 := ex79 ▸ In.shl (⟨by decide, by decide⟩ : In 1 1 1) hb28 (by decide) (by decide) (by decide) (by decide) (by decide) (by decide)
                    refine lv_ior hx hb dX3_hearRuler_190 ?_
                    refine lv_topi (fun x81 ex81 => ?_)
                    refine pl_iastE hx hb hG.1 hP hD hS (hst.c hj (by decide)) 0 hf76 rfl (In.inb hz2 (by decide) (by decide)) dX3_hearRuler_191 (fun H locs f82 r85 er85 hf83 ho84 hP hD hS => ?_)
                    have hf86 := (ho84 (ad 6) (hst.ne (by omega) (by omega) (by omega))).trans hf55
                    have hf87 := (ho84 (cr ad j 7) (hst.ne (by omega) (by omega) (by omega))).trans hf56
                    have hf88 := (ho84 (cr ad j 0) (hst.ne (by omega) (by omega) (by omega))).trans hf74
                    have hfr : (∀ b, b ≠ (cr ad j 0) → b ≠ (cr ad j 6) → b ≠ (cr ad j 8) → f82 b = f b) := fun b z0_ z1_ z2_ => (ho84 b z2_).trans (hfr b z0_ z1_ z2_)
                    refine lv_iload hx hb dX3_hearRuler_192 (lv_at hl 4 rfl) ?_
                    refine lv_iload hx hb dX3_hearRuler_194 (lv_at hl 6 rfl) ?_
                    refine lv_iconst (v := 1) hx hb dX3_hearRuler_196 (by decide) ?_
                    have hT := TI.updC hT hst hj (k := 8) (by decide) hf83 ho84 ⟨r85, rfl⟩
                    have hJ208 : ∀ (y208_s0 : Int32) (H : Heap) (locs : List Loc) (ls : Array Slot), In y208_s0 0 399 → va_P g.1 vwCl (va_pl L f82) H → va_D A (va_pl L f82) → va_S A s.heap H locs → lv_has ls 10 [(0, .ref (cr ad j 0)), (1, .ref (ad 6)), (2, .int z2), (3, .int z3), (4, .int y13_l4), (5, .int y13_l5), (6, .int r41), (7, .int y68_s0), (8, .int y90_s0), (9, .int y118_s0)] → W p l e rm_X3_hearRuler_co s m [.ref (cr ad j 0), .ref (ad 6), .int z2, .int z3].toArray below meth c H locs 0 0 (MQ below (va_Qv (po_X3_hearRuler_co g ad th L f j z2 z3) (PstB g A) A) [.ref (cr ad j 0), .ref (ad 6), .int z2, .int z3].toArray s rm_X3_hearRuler_co.cells rm_X3_hearRuler_co.slots A) (F0 m 208 ls [.int y208_s0, .int y13_l4]) := by
                      intro y208_s0 H locs ls hy208_s0 hP hD hS hl
                      refine lv_ior hx hb dX3_hearRuler_208 ?_
                      refine lv_topi (fun x89 ex89 => ?_)
                      refine lv_istore (lv' := [(4, .int x89), (0, .ref (cr ad j 0)), (1, .ref (ad 6)), (2, .int z2), (3, .int z3), (5, .int y13_l5), (6, .int r41), (7, .int y68_s0), (8, .int y90_s0), (9, .int y118_s0)]) hx hb dX3_hearRuler_209 hl (by decide) rfl (fun ls hl => ?_)
                      exact hJ211 x89 _ _ _ _ (In.full x89) hP hD hS hT hfr hf86 hf87 (lv_sub hl [1, 2, 3, 4, 0, 5, 6, 7, 8, 9] rfl)
                    refine lv_icmp_ne (tgt := 207) hx hb dX3_hearRuler_197 (by decide) (fun c90 => ?_) (fun c90 => ?_)
                    ·
                      refine lv_iconst (v := 0) hx hb dX3_hearRuler_207 (by decide) ?_
                      exact hJ208 0 _ _ _ (⟨by decide, by decide⟩ : In 0 0 399) hP hD hS (lv_sub hl [0, 1, 2, 3, 4, 5, 6, 7, 8, 9] rfl)
                    ·
                      have cc91 : r41.toInt = (1 : Int32).toInt := congrArg Int32.toInt c90
                      have hb92 : In r41 1 1 := In.eq1 eL45R (⟨by decide, by decide⟩ : In 1 1 1) cc91 (by omega) (by omega)
                      refine lv_iconst (v := 1) hx hb dX3_hearRuler_200 (by decide) ?_
                      refine lv_iload hx hb dX3_hearRuler_201 (lv_at hl 5 rfl) ?_
                      refine lv_ishl hx hb dX3_hearRuler_203 ?_
                      refine lv_topi (fun x93 ex93 => ?_)
                      obtain rfl : x79 = x93 := ex79.trans ex93.symm
                      refine lv_goto (tgt := 208) hx hb dX3_hearRuler_204 (by decide) ?_
                      exact hJ208 x79 _ _ _ (In.mono hb80 (by decide) (by decide)) hP hD hS (lv_sub hl [0, 1, 2, 3, 4, 5, 6, 7, 8, 9] rfl)
                  ·
                    have cc94 : y118_s0.toInt ≠ (0 : Int32).toInt := i32_ne c70
                    have hb95 : In y118_s0 1 1 := In.ne1 hy118_s0 (⟨by decide, by decide⟩ : In 0 0 0) cc94 (by omega) (by omega)
                    exact hJ166 _ _ _ hP hD hS (lv_sub hl [0, 1, 2, 3, 4, 5, 6, 7, 8, 9] rfl)
              refine lv_if_eq (tgt := 156) hx hb dX3_hearRuler_122 (by decide) (fun c96 => ?_) (fun c96 => ?_)
              ·
                have cc97 : y90_s0.toInt = (0 : Int32).toInt := congrArg Int32.toInt c96
                have hb98 : In y90_s0 0 0 := In.eq1 hy90_s0 (⟨by decide, by decide⟩ : In 0 0 0) cc97 (by omega) (by omega)
                exact hJ156 _ _ _ _ hP hD hS hT hfr hf11 hf47 (lv_sub hl [1, 2, 3, 4, 5, 6, 7, 8, 9, 0] rfl)
              ·
                have cc99 : y90_s0.toInt ≠ (0 : Int32).toInt := i32_ne c96
                have hb100 : In y90_s0 1 1 := In.ne1 hy90_s0 (⟨by decide, by decide⟩ : In 0 0 0) cc99 (by omega) (by omega)
                refine lv_iload hx hb dX3_hearRuler_125 (lv_at hl 7 rfl) ?_
                refine lv_iload hx hb dX3_hearRuler_127 (lv_at hl 8 rfl) ?_
                refine lv_icmp_eq (tgt := 156) hx hb dX3_hearRuler_129 (by decide) (fun c101 => ?_) (fun c101 => ?_)
                ·
                  exact hJ156 _ _ _ _ hP hD hS hT hfr hf11 hf47 (lv_sub hl [1, 2, 3, 4, 5, 6, 7, 8, 9, 0] rfl)
                ·
                  refine lv_iload hx hb dX3_hearRuler_132 (lv_at hl 6 rfl) ?_
                  refine lv_iload_n hx hb dX3_hearRuler_134 rfl (lv_at hl 4 rfl) ?_
                  refine lv_icmp_eq (tgt := 156) hx hb dX3_hearRuler_135 (by decide) (fun c102 => ?_) (fun c102 => ?_)
                  ·
                    exact hJ156 _ _ _ _ hP hD hS hT hfr hf11 hf47 (lv_sub hl [1, 2, 3, 4, 5, 6, 7, 8, 9, 0] rfl)
                  ·
                    refine lv_aload_n hx hb dX3_hearRuler_138 rfl (lv_at hl 1 rfl) ?_
                    refine lv_dup hx hb dX3_hearRuler_139 rfl ?_
                    refine pl_get (v := .long v7_39) hx hb hts (fun w h => mT (inX3 w h)) hown hG.1 hP (hst.c hj (by decide)) hf40 rfl 7 (by decide) (hts _ (mT wg_350)) (fun _ h => h) rfl dX3_hearRuler_140 ?_
                    refine lv_lconst (v := 1) hx hb dX3_hearRuler_143 (by decide) ?_
                    refine lv_iload_n hx hb dX3_hearRuler_144 rfl (lv_at hl 4 rfl) ?_
                    refine lv_bipush (v := 9) hx hb dX3_hearRuler_145 (by decide) ?_
                    refine lv_imul hx hb dX3_hearRuler_147 ?_
                    refine lv_topi (fun x103 ex103 => ?_)
                    have hb104 : In x103 0 72 := ex103 ▸ In.mul hz3 (⟨by decide, by decide⟩ : In 9 9 9) (by decide) (by decide) (by decide) (by decide) (by decide)
                    refine lv_iload hx hb dX3_hearRuler_148 (lv_at hl 6 rfl) ?_
                    refine lv_iadd hx hb dX3_hearRuler_150 ?_
                    refine lv_topi (fun x105 ex105 => ?_)
                    have hb106 : In x105 0 80 := ex105 ▸ In.add hb104 hb28 (by decide) (by decide) (by decide) (by decide)
                    have et107 : x105.toInt = x103.toInt + y13_l5.toInt := In.add2e ex105 hb104 hb28 (by decide) (by decide)
                    refine lv_lshl hx hb dX3_hearRuler_151 rfl ?_
                    refine lv_topl (fun x108 ex108 => ?_)
                    refine lv_lor hx hb dX3_hearRuler_152 ?_
                    refine lv_topl (fun x109 ex109 => ?_)
                    refine pl_put (ty := .long) (v := .long x109) (fs' := [.int v0_39, .int v1_39, .int v2_39, .int v3_39, .int v4_39, .int v5_39, .int v6_39, .long x109, .long v8_39, .ref (cr ad j 1), .ref (cr ad j 2), .ref (cr ad j 3), .ref (cr ad j 4), .ref (cr ad j 5), .ref (cr ad j 6), .ref (cr ad j 7), .ref (cr ad j 8), .ref (cr ad j 9)]) hx hb hts (fun w h => mT (inX3 w h)) tyX3 tyX3_ok nmX3 hown hG.1 hP hD hS (hst.c hj (by decide)) hf40 rfl 7 (by decide) (hts _ (mT wg_350)) (fun _ h => h) rfl (by decide +kernel) (rfl) (rfl) (Nat.le_of_ble_eq_true rfl) rfl dX3_hearRuler_153 (fun H locs f110 hf111 ho112 hP hD hS => ?_)
                    have hf113 := (ho112 (ad 6) (hst.ne (by omega) (by omega) (by omega))).trans hf11
                    have hf114 := (ho112 (cr ad j 7) (hst.ne (by omega) (by omega) (by omega))).trans hf47
                    have hfr : (∀ b, b ≠ (cr ad j 0) → b ≠ (cr ad j 6) → b ≠ (cr ad j 8) → f110 b = f b) := fun b z0_ z1_ z2_ => (ho112 b z0_).trans (hfr b z0_ z1_ z2_)
                    have hT := TI.updC hT hst hj (k := 0) (by decide) hf111 ho112 ⟨v0_39, v1_39, v2_39, v3_39, v4_39, v5_39, v6_39, x109, v8_39, rfl, hv1_39, hg1_39, hv2_39, hg2_39, hv6_39⟩
                    exact hJ156 _ _ _ _ hP hD hS hT hfr hf113 hf114 (lv_sub hl [1, 2, 3, 4, 5, 6, 7, 8, 9, 0] rfl)
            have hJ117 : ∀ (H : Heap) (locs : List Loc) (ls : Array Slot), va_P g.1 vwCl (va_pl L f_13) H → va_D A (va_pl L f_13) → va_S A s.heap H locs → lv_has ls 10 [(0, .ref (cr ad j 0)), (1, .ref (ad 6)), (2, .int z2), (3, .int z3), (4, .int y13_l4), (5, .int y13_l5), (6, .int r41), (7, .int y68_s0), (8, .int y90_s0)] → W p l e rm_X3_hearRuler_co s m [.ref (cr ad j 0), .ref (ad 6), .int z2, .int z3].toArray below meth c H locs 0 0 (MQ below (va_Qv (po_X3_hearRuler_co g ad th L f j z2 z3) (PstB g A) A) [.ref (cr ad j 0), .ref (ad 6), .int z2, .int z3].toArray s rm_X3_hearRuler_co.cells rm_X3_hearRuler_co.slots A) (F0 m 117 ls []) := by
              intro H locs ls hP hD hS hl
              refine lv_iconst (v := 0) hx hb dX3_hearRuler_117 (by decide) ?_
              exact hJ118 0 _ _ _ (⟨by decide, by decide⟩ : In 0 0 1) hP hD hS (lv_sub hl [0, 1, 2, 3, 4, 5, 6, 7, 8] rfl)
            refine lv_if_eq (tgt := 117) hx hb dX3_hearRuler_96 (by decide) (fun c115 => ?_) (fun c115 => ?_)
            ·
              have cc116 : v6_10.toInt = (0 : Int32).toInt := congrArg Int32.toInt c115
              have hb117 : In v6_10 0 0 := In.eq1 hv6_10 (⟨by decide, by decide⟩ : In 0 0 0) cc116 (by omega) (by omega)
              exact hJ117 _ _ _ hP hD hS (lv_sub hl [1, 2, 3, 4, 5, 6, 7, 8, 0] rfl)
            ·
              have cc118 : v6_10.toInt ≠ (0 : Int32).toInt := i32_ne c115
              have hb119 : In v6_10 1 1 := In.ne1 hv6_10 (⟨by decide, by decide⟩ : In 0 0 0) cc118 (by omega) (by omega)
              refine lv_aload_n hx hb dX3_hearRuler_99 rfl (lv_at hl 1 rfl) ?_
              refine lv_iload_n hx hb dX3_hearRuler_100 rfl (lv_at hl 4 rfl) ?_
              refine call_i (run_V (rm := rm_X3_waryOf) hx hb hml hown hts (s_X3_waryOf l g ad th _ _ _ j z3 hst hT hj) cV_X3_waryOf wg_850 ⟨Nat.le_of_ble_eq_true rfl, Nat.le_of_ble_eq_true rfl⟩ hG hE hA hP hD hS (hst.c hj (by decide)) hf40 rfl rfl hl.1 (As := [.int z3]) (rest := []) rfl (Nat.le_of_ble_eq_true rfl) dX3_hearRuler_101 ⟨Nat.le_of_ble_eq_true rfl, Nat.le_of_ble_eq_true rfl⟩) hA hD hS (fun r120 L121 f122 H locs hp123 hP hD hS => ?_)
              obtain ⟨eL124L, eL124T, eL124R⟩ := hp123
              have eL124L : L121 = L := eL124L
              have eL124T : f122 = f_13 := eL124T
              rw [eL124L, eL124T] at hP hD
              have eL124R : In r120 0 511 := eL124R
              refine lv_iload hx hb dX3_hearRuler_104 (lv_at hl 6 rfl) ?_
              refine call_i (run_SN (rm := rm_X10_bit) hx hb hml hown hts (s_X10_bit l g ad th _ _ _ r120 y13_l5 hst hT ) cS_X10_bit wn_794 ⟨Nat.le_of_ble_eq_true rfl, Nat.le_of_ble_eq_true rfl⟩ hG hE hA hP hD hS rfl hl.1 (As := [.int r120, .int y13_l5]) (rest := []) rfl (Nat.le_of_ble_eq_true rfl) dX3_hearRuler_106 ⟨Nat.le_of_ble_eq_true rfl, Nat.le_of_ble_eq_true rfl⟩) hA hD hS (fun r125 L126 f127 H locs hp128 hP hD hS => ?_)
              obtain ⟨eL129L, eL129T, eL129R, eL129X0⟩ := hp128
              have eL129L : L126 = L := eL129L
              have eL129T : f127 = f_13 := eL129T
              rw [eL129L, eL129T] at hP hD
              have eL129R : In r125 0 1 := eL129R
              refine lv_iconst (v := 1) hx hb dX3_hearRuler_109 (by decide) ?_
              refine lv_icmp_ne (tgt := 117) hx hb dX3_hearRuler_110 (by decide) (fun c130 => ?_) (fun c130 => ?_)
              ·
                have cc131 : r125.toInt ≠ (1 : Int32).toInt := i32_ne c130
                have hb132 : In r125 0 0 := In.ne1 eL129R (⟨by decide, by decide⟩ : In 1 1 1) cc131 (by omega) (by omega)
                exact hJ117 _ _ _ hP hD hS (lv_sub hl [1, 2, 3, 4, 5, 6, 7, 8, 0] rfl)
              ·
                have cc133 : r125.toInt = (1 : Int32).toInt := congrArg Int32.toInt c130
                have hb134 : In r125 1 1 := In.eq1 eL129R (⟨by decide, by decide⟩ : In 1 1 1) cc133 (by omega) (by omega)
                refine lv_iconst (v := 1) hx hb dX3_hearRuler_113 (by decide) ?_
                refine lv_goto (tgt := 118) hx hb dX3_hearRuler_114 (by decide) ?_
                exact hJ118 1 _ _ _ (⟨by decide, by decide⟩ : In 1 0 1) hP hD hS (lv_sub hl [1, 2, 3, 4, 5, 6, 7, 8, 0] rfl)
          refine lv_icmp_ne (tgt := 89) hx hb dX3_hearRuler_82 (by decide) (fun c135 => ?_) (fun c135 => ?_)
          ·
            have cc136 : r50.toInt ≠ (1 : Int32).toInt := i32_ne c135
            have hb137 : In r50 0 0 := In.ne1 eL54R (⟨by decide, by decide⟩ : In 1 1 1) cc136 (by omega) (by omega)
            refine lv_iconst (v := 0) hx hb dX3_hearRuler_89 (by decide) ?_
            exact hJ90 0 _ _ _ (⟨by decide, by decide⟩ : In 0 0 1) hP hD hS (lv_sub hl [1, 2, 3, 4, 5, 6, 7, 0] rfl)
          ·
            have cc138 : r50.toInt = (1 : Int32).toInt := congrArg Int32.toInt c135
            have hb139 : In r50 1 1 := In.eq1 eL54R (⟨by decide, by decide⟩ : In 1 1 1) cc138 (by omega) (by omega)
            refine lv_iconst (v := 1) hx hb dX3_hearRuler_85 (by decide) ?_
            refine lv_goto (tgt := 90) hx hb dX3_hearRuler_86 (by decide) ?_
            exact hJ90 1 _ _ _ (⟨by decide, by decide⟩ : In 1 0 1) hP hD hS (lv_sub hl [1, 2, 3, 4, 5, 6, 7, 0] rfl)
        refine lv_if_ne (tgt := 57) hx hb dX3_hearRuler_42 (by decide) (fun c140 => ?_) (fun c140 => ?_)
        ·
          have cc141 : v0_10.toInt ≠ (0 : Int32).toInt := i32_ne c140
          have hb142 : In v0_10 1 1 := In.ne1 hv0_10 (⟨by decide, by decide⟩ : In 0 0 0) cc141 (by omega) (by omega)
          refine lv_aload_n hx hb dX3_hearRuler_57 rfl (lv_at hl 1 rfl) ?_
          refine pl_get (v := .ref (cr ad j 5)) hx hb hts (fun w h => mT (inX3 w h)) hown hG.1 hP (hst.c hj (by decide)) hf40 rfl 13 (by decide) (hts _ (mT wg_356)) (fun _ h => h) rfl dX3_hearRuler_58 ?_
          refine lv_iload_n hx hb dX3_hearRuler_61 rfl (lv_at hl 3 rfl) ?_
          obtain ⟨rw143, hf144⟩ := hT.2.1 j hj 5 (by decide)
          have hin145 : vp_in z2 6 := In.inb hz2 (by decide) (by decide)
          refine pl_lald hx hb hG.1 hP (hst.c hj (by decide)) 1 hf144 rfl hin145 dX3_hearRuler_62 ?_
          refine lv_topl (fun x146 ex146 => ?_)
          refine lv_iload hx hb dX3_hearRuler_63 (lv_at hl 6 rfl) ?_
          refine call_i (run_SN (rm := rm_X10_nibble) hx hb hml hown hts (s_X10_nibble l g ad th _ _ _ x146 y13_l5 hst hT ) cS_X10_nibble wn_795 ⟨Nat.le_of_ble_eq_true rfl, Nat.le_of_ble_eq_true rfl⟩ hG hE hA hP hD hS rfl hl.1 (As := [.long x146, .int y13_l5]) (rest := []) rfl (Nat.le_of_ble_eq_true rfl) dX3_hearRuler_65 ⟨Nat.le_of_ble_eq_true rfl, Nat.le_of_ble_eq_true rfl⟩) hA hD hS (fun r147 L148 f149 H locs hp150 hP hD hS => ?_)
          obtain ⟨eL151L, eL151T, eL151R⟩ := hp150
          have eL151L : L148 = L := eL151L
          have eL151T : f149 = f_13 := eL151T
          rw [eL151L, eL151T] at hP hD
          have eL151R : In r147 0 15 := eL151R
          exact hJ68 r147 _ _ _ eL151R hP hD hS (lv_sub hl [1, 2, 3, 4, 5, 6, 0] rfl)
        ·
          have cc152 : v0_10.toInt = (0 : Int32).toInt := congrArg Int32.toInt c140
          have hb153 : In v0_10 0 0 := In.eq1 hv0_10 (⟨by decide, by decide⟩ : In 0 0 0) cc152 (by omega) (by omega)
          refine lv_aload_n hx hb dX3_hearRuler_45 rfl (lv_at hl 1 rfl) ?_
          refine pl_get (v := .int v3_39) hx hb hts (fun w h => mT (inX3 w h)) hown hG.1 hP (hst.c hj (by decide)) hf40 rfl 3 (by decide) (hts _ (mT wg_342)) (fun _ h => h) rfl dX3_hearRuler_46 ?_
          refine lv_iload hx hb dX3_hearRuler_49 (lv_at hl 6 rfl) ?_
          refine call_i (run_SN (rm := rm_X10_bit) hx hb hml hown hts (s_X10_bit l g ad th _ _ _ v3_39 y13_l5 hst hT ) cS_X10_bit wn_794 ⟨Nat.le_of_ble_eq_true rfl, Nat.le_of_ble_eq_true rfl⟩ hG hE hA hP hD hS rfl hl.1 (As := [.int v3_39, .int y13_l5]) (rest := []) rfl (Nat.le_of_ble_eq_true rfl) dX3_hearRuler_51 ⟨Nat.le_of_ble_eq_true rfl, Nat.le_of_ble_eq_true rfl⟩) hA hD hS (fun r154 L155 f156 H locs hp157 hP hD hS => ?_)
          obtain ⟨eL158L, eL158T, eL158R, eL158X0⟩ := hp157
          have eL158L : L155 = L := eL158L
          have eL158T : f156 = f_13 := eL158T
          rw [eL158L, eL158T] at hP hD
          have eL158R : In r154 0 1 := eL158R
          refine lv_goto (tgt := 68) hx hb dX3_hearRuler_54 (by decide) ?_
          exact hJ68 r154 _ _ _ (In.mono eL158R (by decide) (by decide)) hP hD hS (lv_sub hl [1, 2, 3, 4, 5, 6, 0] rfl)
  exact hJ13 ((9 - (0 : Int32).toInt).toNat + 1) 0 0 _ _ _ _ (⟨by decide, by decide⟩ : In 0 (-2147483648) 2147483647) (⟨by decide, by decide⟩ : In 0 0 9) hP hD hS hT hfr (lv_sub hl [2, 3, 4, 5, 1, 0] rfl) (msI _)

abbrev rm_X3_trues_co : Room := { frames := 1, cells := 0, slots := 0, locals := 20 }
abbrev po_X3_trues_co (g : GG) (ad : Nat → Nat) (th : Nat → Int) (L : List Nat) (f : HP) (j : Nat) : Int32 → (List Nat × HP) → Prop := fun r u => u.1 = L ∧ u.2 = f ∧ In r 0 511
set_option maxHeartbeats 4000000 in
set_option maxRecDepth 100000 in
theorem s_X3_trues_co (l : Launch) (g : GG) (ad : Nat → Nat) (th : Nat → Int) (L : List Nat) (f : HP) (sz : Nat) (j : Nat) (hst : ST ad L) (hT : TI g ad th f) (hj : j < 23) : MtI l g yX3_trues cX3_trues 2 (some .int) rm_X3_trues_co [.ref (cr ad j 0), .ref (ad 6)] L f sz (po_X3_trues_co g ad th L f j) := by
  refine MtI.of (by decide +kernel) (Nat.le_of_ble_eq_true rfl) ?_
  intro p e s m below meth c A hEn hP hD hS ls hl
  obtain ⟨hx, hb, hr, hml, hown, hlocks, hts, hG, hA, hE, hnm⟩ := hEn
  have hown : s.vm.findClass "RulerWord$Course" = some m.cls := hown
  have hl : lv_has ls 2 [(0, .ref (cr ad j 0)), (1, .ref (ad 6))] := hl
  refine lv_aload_n hx hb dX3_trues_0 rfl (lv_at hl 1 rfl) ?_
  obtain ⟨v0_1, v1_1, v2_1, v3_1, v4_1, v5_1, v6_1, v7_1, hf2, hv0_1, hg0_1, hv1_1, hg1_1, hv2_1, hv3_1, hv5_1, hv6_1, hrel0_1⟩ := hT.1 6 (by decide)
  refine call_i (run_VN (rm := rm_X2_everybody_co) hx hb hml hown hts (s_X2_everybody_co l g ad th _ _ _  hst hT ) cV_X2_everybody wn_980 ⟨Nat.le_of_ble_eq_true rfl, Nat.le_of_ble_eq_true rfl⟩ hG hE hA hP hD hS (hst.1 6 (by decide)) hf2 rfl rfl hl.1 (As := []) (rest := []) rfl (Nat.le_of_ble_eq_true rfl) dX3_trues_1 ⟨Nat.le_of_ble_eq_true rfl, Nat.le_of_ble_eq_true rfl⟩) hA hD hS (fun r3 L4 f5 H locs hp6 hP hD hS => ?_)
  obtain ⟨eL7L, eL7T, eL7R, eL7X0⟩ := hp6
  have eL7L : L4 = L := eL7L
  have eL7T : f5 = f := eL7T
  rw [eL7L, eL7T] at hP hD
  have eL7R : In r3 0 511 := eL7R
  have hev8 : r3.toInt = 2 ^ (th 3).toNat - 1 := eL7X0
  refine lv_aload_n hx hb dX3_trues_4 rfl (lv_at hl 0 rfl) ?_
  obtain ⟨v0_9, v1_9, v2_9, v3_9, v4_9, v5_9, v6_9, v7_9, v8_9, hf10, hv1_9, hg1_9, hv2_9, hg2_9, hv6_9⟩ := hT.2.1 j hj 0 (by decide)
  refine pl_get (v := .int v1_9) hx hb hts (fun w h => mT (inX3 w h)) hown hG.1 hP (hst.c hj (by decide)) hf10 rfl 1 (by decide) (hts _ (mT wg_338)) (fun _ h => h) rfl dX3_trues_5 ?_
  refine lv_iconst (v := (-1)) hx hb dX3_trues_8 (by decide) ?_
  refine lv_ixor hx hb dX3_trues_9 ?_
  refine lv_topi (fun x11 ex11 => ?_)
  refine lv_iand hx hb dX3_trues_10 ?_
  refine lv_topi (fun x12 ex12 => ?_)
  have hb13 : In x12 0 511 := ex12 ▸ In.andl eL7R (by decide)
  exact ret_i (ty := .int) hx hb hr hlocks (rfl) hP hD hS (Nat.le_of_ble_eq_true rfl) (Nat.le_of_ble_eq_true rfl) (⟨rfl, rfl, hb13⟩) dX3_trues_11

abbrev rm_X3_alike_co : Room := { frames := 2, cells := 0, slots := 0, locals := 41 }
abbrev po_X3_alike_co (g : GG) (ad : Nat → Nat) (th : Nat → Int) (L : List Nat) (f : HP) (j : Nat) (z2 : Int32) : Int32 → (List Nat × HP) → Prop := fun r u => u.1 = L ∧ u.2 = f ∧ In r 0 1
set_option maxHeartbeats 4000000 in
set_option maxRecDepth 100000 in
theorem s_X3_alike_co (l : Launch) (g : GG) (ad : Nat → Nat) (th : Nat → Int) (L : List Nat) (f : HP) (sz : Nat) (j : Nat) (z2 : Int32) (hst : ST ad L) (hT : TI g ad th f) (hj : j < 23) : MtI l g yX3_alike cX3_alike 4 (some .boolean) rm_X3_alike_co [.ref (cr ad j 0), .ref (ad 6), .int z2] L f sz (po_X3_alike_co g ad th L f j z2) := by
  refine MtI.of (by decide +kernel) (Nat.le_of_ble_eq_true rfl) ?_
  intro p e s m below meth c A hEn hP hD hS ls hl
  obtain ⟨hx, hb, hr, hml, hown, hlocks, hts, hG, hA, hE, hnm⟩ := hEn
  have hown : s.vm.findClass "RulerWord$Course" = some m.cls := hown
  have hl : lv_has ls 4 [(0, .ref (cr ad j 0)), (1, .ref (ad 6)), (2, .int z2)] := hl
  refine lv_aload_n hx hb dX3_alike_0 rfl (lv_at hl 0 rfl) ?_
  refine lv_aload_n hx hb dX3_alike_1 rfl (lv_at hl 1 rfl) ?_
  obtain ⟨v0_1, v1_1, v2_1, v3_1, v4_1, v5_1, v6_1, v7_1, v8_1, hf2, hv1_1, hg1_1, hv2_1, hg2_1, hv6_1⟩ := hT.2.1 j hj 0 (by decide)
  refine call_i (run_V (rm := rm_X3_trues_co) hx hb hml hown hts (s_X3_trues_co l g ad th _ _ _ j hst hT hj) cV_X3_trues wg_976 ⟨Nat.le_of_ble_eq_true rfl, Nat.le_of_ble_eq_true rfl⟩ hG hE hA hP hD hS (hst.c hj (by decide)) hf2 rfl rfl hl.1 (As := [.ref (ad 6)]) (rest := []) rfl (Nat.le_of_ble_eq_true rfl) dX3_alike_2 ⟨Nat.le_of_ble_eq_true rfl, Nat.le_of_ble_eq_true rfl⟩) hA hD hS (fun r3 L4 f5 H locs hp6 hP hD hS => ?_)
  obtain ⟨eL7L, eL7T, eL7R⟩ := hp6
  have eL7L : L4 = L := eL7L
  have eL7T : f5 = f := eL7T
  rw [eL7L, eL7T] at hP hD
  have eL7R : In r3 0 511 := eL7R
  refine lv_istore_n (lv' := [(3, .int r3), (0, .ref (cr ad j 0)), (1, .ref (ad 6)), (2, .int z2)]) hx hb dX3_alike_5 rfl hl (by decide) rfl (fun ls hl => ?_)
  refine lv_iload_n hx hb dX3_alike_6 rfl (lv_at hl 3 rfl) ?_
  refine lv_iload_n hx hb dX3_alike_7 rfl (lv_at hl 0 rfl) ?_
  refine lv_iand hx hb dX3_alike_8 ?_
  refine lv_topi (fun x8 ex8 => ?_)
  have hb9 : In x8 0 511 := ex8 ▸ In.andr eL7R (by decide)
  have hJ19 : ∀ (H : Heap) (locs : List Loc) (ls : Array Slot), va_P g.1 vwCl (va_pl L f) H → va_D A (va_pl L f) → va_S A s.heap H locs → lv_has ls 4 [(0, .ref (cr ad j 0)), (1, .ref (ad 6)), (2, .int z2), (3, .int r3)] → W p l e rm_X3_alike_co s m [.ref (cr ad j 0), .ref (ad 6), .int z2].toArray below meth c H locs 0 0 (MQ below (va_Qi (po_X3_alike_co g ad th L f j z2) (PstB g A) A) [.ref (cr ad j 0), .ref (ad 6), .int z2].toArray s rm_X3_alike_co.cells rm_X3_alike_co.slots A) (F0 m 19 ls []) := by
    intro H locs ls hP hD hS hl
    refine lv_iconst (v := 1) hx hb dX3_alike_19 (by decide) ?_
    refine lv_goto (tgt := 24) hx hb dX3_alike_20 (by decide) ?_
    exact ret_i (ty := .boolean) hx hb hr hlocks (rfl) hP hD hS (Nat.le_of_ble_eq_true rfl) (Nat.le_of_ble_eq_true rfl) (⟨rfl, rfl, (⟨by decide, by decide⟩ : In 1 0 1)⟩) dX3_alike_24
  refine lv_if_eq (tgt := 19) hx hb dX3_alike_9 (by decide) (fun c10 => ?_) (fun c10 => ?_)
  ·
    have cc11 : x8.toInt = (0 : Int32).toInt := congrArg Int32.toInt c10
    have hb12 : In x8 0 0 := In.eq1 hb9 (⟨by decide, by decide⟩ : In 0 0 0) cc11 (by omega) (by omega)
    exact hJ19 _ _ _ hP hD hS (lv_sub hl [1, 2, 3, 0] rfl)
  ·
    have cc13 : x8.toInt ≠ (0 : Int32).toInt := i32_ne c10
    have hb14 : In x8 1 511 := In.ne1 hb9 (⟨by decide, by decide⟩ : In 0 0 0) cc13 (by omega) (by omega)
    refine lv_iload_n hx hb dX3_alike_12 rfl (lv_at hl 3 rfl) ?_
    refine lv_iload_n hx hb dX3_alike_13 rfl (lv_at hl 0 rfl) ?_
    refine lv_iand hx hb dX3_alike_14 ?_
    refine lv_topi (fun x15 ex15 => ?_)
    obtain rfl : x8 = x15 := ex8.trans ex15.symm
    refine lv_iload_n hx hb dX3_alike_15 rfl (lv_at hl 0 rfl) ?_
    refine lv_icmp_ne (tgt := 23) hx hb dX3_alike_16 (by decide) (fun c16 => ?_) (fun c16 => ?_)
    ·
      refine lv_iconst (v := 0) hx hb dX3_alike_23 (by decide) ?_
      exact ret_i (ty := .boolean) hx hb hr hlocks (rfl) hP hD hS (Nat.le_of_ble_eq_true rfl) (Nat.le_of_ble_eq_true rfl) (⟨rfl, rfl, (⟨by decide, by decide⟩ : In 0 0 1)⟩) dX3_alike_24
    ·
      have cc17 : x8.toInt = r3.toInt := congrArg Int32.toInt c16
      have hb18 : In r3 1 511 := In.eq2 hb14 eL7R cc17 (by omega) (by omega)
      exact hJ19 _ _ _ hP hD hS (lv_sub hl [1, 2, 3, 0] rfl)

abbrev rm_X3_crossedIn_co : Room := { frames := 2, cells := 0, slots := 0, locals := 46 }
abbrev po_X3_crossedIn_co (g : GG) (ad : Nat → Nat) (th : Nat → Int) (L : List Nat) (f : HP) (j : Nat) (z2 : Int32) : Int32 → (List Nat × HP) → Prop := fun _ u => u.1 = L ∧ u.2 = f
set_option maxHeartbeats 4000000 in
set_option maxRecDepth 100000 in
theorem s_X3_crossedIn_co (l : Launch) (g : GG) (ad : Nat → Nat) (th : Nat → Int) (L : List Nat) (f : HP) (sz : Nat) (j : Nat) (z2 : Int32) (hst : ST ad L) (hT : TI g ad th f) (hj : j < 23) (hz2 : In z2 0 5) : MtI l g yX3_crossedIn cX3_crossedIn 8 (some .int) rm_X3_crossedIn_co [.ref (cr ad j 0), .ref (ad 6), .int z2] L f sz (po_X3_crossedIn_co g ad th L f j z2) := by
  refine MtI.of (by decide +kernel) (Nat.le_of_ble_eq_true rfl) ?_
  intro p e s m below meth c A hEn hP hD hS ls hl
  obtain ⟨hx, hb, hr, hml, hown, hlocks, hts, hG, hA, hE, hnm⟩ := hEn
  have hown : s.vm.findClass "RulerWord$Course" = some m.cls := hown
  have hl : lv_has ls 8 [(0, .ref (cr ad j 0)), (1, .ref (ad 6)), (2, .int z2)] := hl
  refine lv_aload_n hx hb dX3_crossedIn_0 rfl (lv_at hl 1 rfl) ?_
  refine lv_iload_n hx hb dX3_crossedIn_1 rfl (lv_at hl 2 rfl) ?_
  obtain ⟨v0_1, v1_1, v2_1, v3_1, v4_1, v5_1, v6_1, v7_1, hf2, hv0_1, hg0_1, hv1_1, hg1_1, hv2_1, hv3_1, hv5_1, hv6_1, hrel0_1⟩ := hT.1 6 (by decide)
  refine call_i (run_VN (rm := rm_X2_ruler_co) hx hb hml hown hts (s_X2_ruler_co l g ad th _ _ _ z2 hst hT (In.mono hz2 (by decide) (by decide))) cV_X2_ruler wn_778 ⟨Nat.le_of_ble_eq_true rfl, Nat.le_of_ble_eq_true rfl⟩ hG hE hA hP hD hS (hst.1 6 (by decide)) hf2 rfl rfl hl.1 (As := [.int z2]) (rest := []) rfl (Nat.le_of_ble_eq_true rfl) dX3_crossedIn_2 ⟨Nat.le_of_ble_eq_true rfl, Nat.le_of_ble_eq_true rfl⟩) hA hD hS (fun r3 L4 f5 H locs hp6 hP hD hS => ?_)
  obtain ⟨eL7L, eL7T, eL7R⟩ := hp6
  have eL7L : L4 = L := eL7L
  have eL7T : f5 = f := eL7T
  rw [eL7L, eL7T] at hP hD
  have eL7R : In r3 0 8 := eL7R
  refine lv_istore_n (lv' := [(3, .int r3), (0, .ref (cr ad j 0)), (1, .ref (ad 6)), (2, .int z2)]) hx hb dX3_crossedIn_5 rfl hl (by decide) rfl (fun ls hl => ?_)
  refine lv_iconst (v := 0) hx hb dX3_crossedIn_6 (by decide) ?_
  refine lv_istore (lv' := [(4, .int 0), (3, .int r3), (0, .ref (cr ad j 0)), (1, .ref (ad 6)), (2, .int z2)]) hx hb dX3_crossedIn_7 hl (by decide) rfl (fun ls hl => ?_)
  refine lv_iconst (v := 0) hx hb dX3_crossedIn_9 (by decide) ?_
  refine lv_istore (lv' := [(5, .int 0), (4, .int 0), (3, .int r3), (0, .ref (cr ad j 0)), (1, .ref (ad 6)), (2, .int z2)]) hx hb dX3_crossedIn_10 hl (by decide) rfl (fun ls hl => ?_)
  have hJ12 : ∀ (k12 : Nat) (y12_l4 : Int32) (y12_l5 : Int32) (H : Heap) (locs : List Loc) (ls : Array Slot), In y12_l4 (-2147483648) 2147483647 → In y12_l5 0 9 → va_P g.1 vwCl (va_pl L f) H → va_D A (va_pl L f) → va_S A s.heap H locs → lv_has ls 8 [(0, .ref (cr ad j 0)), (1, .ref (ad 6)), (2, .int z2), (3, .int r3), (4, .int y12_l4), (5, .int y12_l5)] → 9 - y12_l5.toInt < ((k12 : Nat) : Int) → W p l e rm_X3_crossedIn_co s m [.ref (cr ad j 0), .ref (ad 6), .int z2].toArray below meth c H locs 0 0 (MQ below (va_Qi (po_X3_crossedIn_co g ad th L f j z2) (PstB g A) A) [.ref (cr ad j 0), .ref (ad 6), .int z2].toArray s rm_X3_crossedIn_co.cells rm_X3_crossedIn_co.slots A) (F0 m 12 ls []) := by
    intro k12
    induction k12 with
    | zero =>
      intro y12_l4 y12_l5 H locs ls hy12_l4 hy12_l5 hP hD hS hl hmz12
      exact ms0 hy12_l5 hmz12
    | succ k12 ih12 =>
      intro y12_l4 y12_l5 H locs ls hy12_l4 hy12_l5 hP hD hS hl hmz12
      refine lv_iload hx hb dX3_crossedIn_12 (lv_at hl 5 rfl) ?_
      refine lv_aload_n hx hb dX3_crossedIn_14 rfl (lv_at hl 1 rfl) ?_
      refine pl_getN (v := .int v1_1) hx hb hts (fun w h => mT (inX2 w h)) hown hG.1 hP (hst.1 6 (by decide)) hf2 rfl 1 (by decide) (hG.2.1 _ wn_231) (fun _ h => h) rfl dX3_crossedIn_15 ?_
      refine lv_icmp_ge (tgt := 110) hx hb dX3_crossedIn_18 (by decide) (fun c8 => ?_) (fun c8 => ?_)
      ·
        refine lv_iload hx hb dX3_crossedIn_110 (lv_at hl 4 rfl) ?_
        exact ret_i (ty := .int) hx hb hr hlocks (rfl) hP hD hS (Nat.le_of_ble_eq_true rfl) (Nat.le_of_ble_eq_true rfl) (⟨rfl, rfl⟩) dX3_crossedIn_112
      ·
        have cc9 : y12_l5.toInt < v1_1.toInt := i32_nle c8
        have hb10 : In y12_l5 0 8 := In.lt1 hy12_l5 hv1_1 cc9 (by omega) (by omega)
        have hb11 : In v1_1 1 9 := In.lt2 hy12_l5 hv1_1 cc9 (by omega) (by omega)
        refine lv_iload hx hb dX3_crossedIn_21 (lv_at hl 5 rfl) ?_
        refine lv_iload_n hx hb dX3_crossedIn_23 rfl (lv_at hl 3 rfl) ?_
        have hJ47 : ∀ (y47_s0 : Int32) (H : Heap) (locs : List Loc) (ls : Array Slot), In y47_s0 0 1 → va_P g.1 vwCl (va_pl L f) H → va_D A (va_pl L f) → va_S A s.heap H locs → lv_has ls 8 [(0, .ref (cr ad j 0)), (1, .ref (ad 6)), (2, .int z2), (3, .int r3), (4, .int y12_l4), (5, .int y12_l5)] → W p l e rm_X3_crossedIn_co s m [.ref (cr ad j 0), .ref (ad 6), .int z2].toArray below meth c H locs 0 0 (MQ below (va_Qi (po_X3_crossedIn_co g ad th L f j z2) (PstB g A) A) [.ref (cr ad j 0), .ref (ad 6), .int z2].toArray s rm_X3_crossedIn_co.cells rm_X3_crossedIn_co.slots A) (F0 m 47 ls [.int y47_s0]) := by
          intro y47_s0 H locs ls hy47_s0 hP hD hS hl
          refine lv_istore (lv' := [(6, .int y47_s0), (0, .ref (cr ad j 0)), (1, .ref (ad 6)), (2, .int z2), (3, .int r3), (4, .int y12_l4), (5, .int y12_l5)]) hx hb dX3_crossedIn_47 hl (by decide) rfl (fun ls hl => ?_)
          refine lv_aload_n hx hb dX3_crossedIn_49 rfl (lv_at hl 1 rfl) ?_
          refine lv_iload_n hx hb dX3_crossedIn_50 rfl (lv_at hl 3 rfl) ?_
          refine lv_aload_n hx hb dX3_crossedIn_51 rfl (lv_at hl 2 rfl) ?_
          refine call_i (run_VN (rm := rm_X2_rounds_co) hx hb hml hown hts (s_X2_rounds_co l g ad th _ _ _  hst hT ) cV_X2_rounds wn_777 ⟨Nat.le_of_ble_eq_true rfl, Nat.le_of_ble_eq_true rfl⟩ hG hE hA hP hD hS (hst.1 6 (by decide)) hf2 rfl rfl hl.1 (As := []) (rest := [.int z2, .ref (cr ad j 0)]) rfl (Nat.le_of_ble_eq_true rfl) dX3_crossedIn_52 ⟨Nat.le_of_ble_eq_true rfl, Nat.le_of_ble_eq_true rfl⟩) hA hD hS (fun r12 L13 f14 H locs hp15 hP hD hS => ?_)
          obtain ⟨eL16L, eL16T, eL16R, eL16X0⟩ := hp15
          have eL16L : L13 = L := eL16L
          have eL16T : f14 = f := eL16T
          rw [eL16L, eL16T] at hP hD
          have eL16R : In r12 2 3 := eL16R
          have hrn17 : r12.toInt = rnd (th 2) := eL16X0
          refine lv_iconst (v := 1) hx hb dX3_crossedIn_55 (by decide) ?_
          refine lv_isub hx hb dX3_crossedIn_56 ?_
          refine lv_topi (fun x18 ex18 => ?_)
          have hb19 : In x18 1 2 := ex18 ▸ In.sub eL16R (⟨by decide, by decide⟩ : In 1 1 1) (by decide) (by decide) (by decide) (by decide)
          have et20 : x18.toInt = r12.toInt + (-1) := In.sube ex18 eL16R (k := 1) (by decide) (by decide) (by decide)
          refine lv_iload_n hx hb dX3_crossedIn_57 rfl (lv_at hl 4 rfl) ?_
          refine lv_iload hx hb dX3_crossedIn_58 (lv_at hl 6 rfl) ?_
          obtain ⟨v0_21, v1_21, v2_21, v3_21, v4_21, v5_21, v6_21, v7_21, v8_21, hf22, hv1_21, hg1_21, hv2_21, hg2_21, hv6_21⟩ := hT.2.1 j hj 0 (by decide)
          refine call_i (run_V (rm := rm_X3_letter) hx hb hml hown hts (s_X3_letter l g ad th _ _ _ j z2 x18 r3 y12_l5 hst hT hj hz2 (In.mono hb19 (by decide) (by decide)) eL7R) cV_X3_letter wg_846 ⟨Nat.le_of_ble_eq_true rfl, Nat.le_of_ble_eq_true rfl⟩ hG hE hA hP hD hS (hst.c hj (by decide)) hf22 rfl rfl hl.1 (As := [.int z2, .int x18, .int r3, .int y12_l5]) (rest := []) rfl (Nat.le_of_ble_eq_true rfl) dX3_crossedIn_60 ⟨Nat.le_of_ble_eq_true rfl, Nat.le_of_ble_eq_true rfl⟩) hA hD hS (fun r23 L24 f25 H locs hp26 hP hD hS => ?_)
          obtain ⟨eL27L, eL27T, eL27R⟩ := hp26
          have eL27L : L24 = L := eL27L
          have eL27T : f25 = f := eL27T
          rw [eL27L, eL27T] at hP hD
          have eL27R : In r23 0 15 := eL27R
          refine lv_aload_n hx hb dX3_crossedIn_63 rfl (lv_at hl 1 rfl) ?_
          refine pl_get (v := .ref (cr ad j 6)) hx hb hts (fun w h => mT (inX3 w h)) hown hG.1 hP (hst.c hj (by decide)) hf22 rfl 14 (by decide) (hts _ (mT wg_358)) (fun _ h => h) rfl dX3_crossedIn_64 ?_
          refine lv_iload_n hx hb dX3_crossedIn_67 rfl (lv_at hl 3 rfl) ?_
          obtain ⟨rw28, hf29⟩ := hT.2.1 j hj 6 (by decide)
          have hin30 : vp_in z2 6 := In.inb hz2 (by decide) (by decide)
          refine pl_iald hx hb hG.1 hP (hst.c hj (by decide)) 0 hf29 rfl hin30 dX3_crossedIn_68 ?_
          refine lv_topi (fun x31 ex31 => ?_)
          refine lv_iload hx hb dX3_crossedIn_69 (lv_at hl 6 rfl) ?_
          refine call_i (run_SN (rm := rm_X10_bit) hx hb hml hown hts (s_X10_bit l g ad th _ _ _ x31 y12_l5 hst hT ) cS_X10_bit wn_794 ⟨Nat.le_of_ble_eq_true rfl, Nat.le_of_ble_eq_true rfl⟩ hG hE hA hP hD hS rfl hl.1 (As := [.int x31, .int y12_l5]) (rest := [.int r23]) rfl (Nat.le_of_ble_eq_true rfl) dX3_crossedIn_71 ⟨Nat.le_of_ble_eq_true rfl, Nat.le_of_ble_eq_true rfl⟩) hA hD hS (fun r32 L33 f34 H locs hp35 hP hD hS => ?_)
          obtain ⟨eL36L, eL36T, eL36R, eL36X0⟩ := hp35
          have eL36L : L33 = L := eL36L
          have eL36T : f34 = f := eL36T
          rw [eL36L, eL36T] at hP hD
          have eL36R : In r32 0 1 := eL36R
          have hJ82 : ∀ (y82_s0 : Int32) (H : Heap) (locs : List Loc) (ls : Array Slot), In y82_s0 0 1 → va_P g.1 vwCl (va_pl L f) H → va_D A (va_pl L f) → va_S A s.heap H locs → lv_has ls 8 [(0, .ref (cr ad j 0)), (1, .ref (ad 6)), (2, .int z2), (3, .int r3), (4, .int y12_l4), (5, .int y12_l5), (6, .int y47_s0)] → W p l e rm_X3_crossedIn_co s m [.ref (cr ad j 0), .ref (ad 6), .int z2].toArray below meth c H locs 0 0 (MQ below (va_Qi (po_X3_crossedIn_co g ad th L f j z2) (PstB g A) A) [.ref (cr ad j 0), .ref (ad 6), .int z2].toArray s rm_X3_crossedIn_co.cells rm_X3_crossedIn_co.slots A) (F0 m 82 ls [.int y82_s0]) := by
            intro y82_s0 H locs ls hy82_s0 hP hD hS hl
            refine lv_istore (lv' := [(7, .int y82_s0), (0, .ref (cr ad j 0)), (1, .ref (ad 6)), (2, .int z2), (3, .int r3), (4, .int y12_l4), (5, .int y12_l5), (6, .int y47_s0)]) hx hb dX3_crossedIn_82 hl (by decide) rfl (fun ls hl => ?_)
            refine lv_iload hx hb dX3_crossedIn_84 (lv_at hl 5 rfl) ?_
            refine lv_iload hx hb dX3_crossedIn_86 (lv_at hl 7 rfl) ?_
            have hJ101 : ∀ (y101_s0 : Int32) (H : Heap) (locs : List Loc) (ls : Array Slot), In y101_s0 0 1 → va_P g.1 vwCl (va_pl L f) H → va_D A (va_pl L f) → va_S A s.heap H locs → lv_has ls 8 [(0, .ref (cr ad j 0)), (1, .ref (ad 6)), (2, .int z2), (3, .int r3), (4, .int y12_l4), (5, .int y12_l5), (6, .int y47_s0), (7, .int y82_s0)] → W p l e rm_X3_crossedIn_co s m [.ref (cr ad j 0), .ref (ad 6), .int z2].toArray below meth c H locs 0 0 (MQ below (va_Qi (po_X3_crossedIn_co g ad th L f j z2) (PstB g A) A) [.ref (cr ad j 0), .ref (ad 6), .int z2].toArray s rm_X3_crossedIn_co.cells rm_X3_crossedIn_co.slots A) (F0 m 101 ls [.int y101_s0, .int y12_l4]) := by
              intro y101_s0 H locs ls hy101_s0 hP hD hS hl
              refine lv_iadd hx hb dX3_crossedIn_101 ?_
              refine lv_topi (fun x37 ex37 => ?_)
              refine lv_istore (lv' := [(4, .int x37), (0, .ref (cr ad j 0)), (1, .ref (ad 6)), (2, .int z2), (3, .int r3), (5, .int y12_l5), (6, .int y47_s0), (7, .int y82_s0)]) hx hb dX3_crossedIn_102 hl (by decide) rfl (fun ls hl => ?_)
              obtain ⟨x38, ex38⟩ : ∃ y : Int32, y = y12_l5 + 1 := ⟨_, rfl⟩
              have hb39 : In x38 1 9 := ex38 ▸ In.add hb10 (⟨by decide, by decide⟩ : In 1 1 1) (by decide) (by decide) (by decide) (by decide)
              have et40 : x38.toInt = y12_l5.toInt + 1 := In.adde ex38 hb10 (k := 1) (by decide) (by decide) (by decide)
              refine lv_iinc (v := x38) (lv' := [(5, .int x38), (4, .int x37), (0, .ref (cr ad j 0)), (1, .ref (ad 6)), (2, .int z2), (3, .int r3), (6, .int y47_s0), (7, .int y82_s0)]) hx hb dX3_crossedIn_104 hl (k := 5) rfl (by rw [ex38]; rfl) (by decide) rfl (fun ls hl => ?_)
              refine lv_goto (tgt := 12) hx hb dX3_crossedIn_107 (by decide) ?_
              exact ih12 x37 x38 _ _ _ (In.full x37) (In.mono hb39 (by decide) (by decide)) hP hD hS (lv_sub hl [2, 3, 4, 5, 1, 0] rfl) (msu et40 (by decide) hmz12)
            have hJ100 : ∀ (H : Heap) (locs : List Loc) (ls : Array Slot), va_P g.1 vwCl (va_pl L f) H → va_D A (va_pl L f) → va_S A s.heap H locs → lv_has ls 8 [(0, .ref (cr ad j 0)), (1, .ref (ad 6)), (2, .int z2), (3, .int r3), (4, .int y12_l4), (5, .int y12_l5), (6, .int y47_s0), (7, .int y82_s0)] → W p l e rm_X3_crossedIn_co s m [.ref (cr ad j 0), .ref (ad 6), .int z2].toArray below meth c H locs 0 0 (MQ below (va_Qi (po_X3_crossedIn_co g ad th L f j z2) (PstB g A) A) [.ref (cr ad j 0), .ref (ad 6), .int z2].toArray s rm_X3_crossedIn_co.cells rm_X3_crossedIn_co.slots A) (F0 m 100 ls [.int y12_l4]) := by
              intro H locs ls hP hD hS hl
              refine lv_iconst (v := 0) hx hb dX3_crossedIn_100 (by decide) ?_
              exact hJ101 0 _ _ _ (⟨by decide, by decide⟩ : In 0 0 1) hP hD hS (lv_sub hl [0, 1, 2, 3, 4, 5, 6, 7] rfl)
            refine lv_if_eq (tgt := 100) hx hb dX3_crossedIn_88 (by decide) (fun c41 => ?_) (fun c41 => ?_)
            ·
              have cc42 : y47_s0.toInt = (0 : Int32).toInt := congrArg Int32.toInt c41
              have hb43 : In y47_s0 0 0 := In.eq1 hy47_s0 (⟨by decide, by decide⟩ : In 0 0 0) cc42 (by omega) (by omega)
              exact hJ100 _ _ _ hP hD hS (lv_sub hl [1, 2, 3, 4, 5, 6, 7, 0] rfl)
            ·
              have cc44 : y47_s0.toInt ≠ (0 : Int32).toInt := i32_ne c41
              have hb45 : In y47_s0 1 1 := In.ne1 hy47_s0 (⟨by decide, by decide⟩ : In 0 0 0) cc44 (by omega) (by omega)
              refine lv_iload hx hb dX3_crossedIn_91 (lv_at hl 0 rfl) ?_
              refine lv_if_eq (tgt := 100) hx hb dX3_crossedIn_93 (by decide) (fun c46 => ?_) (fun c46 => ?_)
              ·
                have cc47 : y82_s0.toInt = (0 : Int32).toInt := congrArg Int32.toInt c46
                have hb48 : In y82_s0 0 0 := In.eq1 hy82_s0 (⟨by decide, by decide⟩ : In 0 0 0) cc47 (by omega) (by omega)
                exact hJ100 _ _ _ hP hD hS (lv_sub hl [1, 2, 3, 4, 5, 6, 7, 0] rfl)
              ·
                have cc49 : y82_s0.toInt ≠ (0 : Int32).toInt := i32_ne c46
                have hb50 : In y82_s0 1 1 := In.ne1 hy82_s0 (⟨by decide, by decide⟩ : In 0 0 0) cc49 (by omega) (by omega)
                refine lv_iconst (v := 1) hx hb dX3_crossedIn_96 (by decide) ?_
                refine lv_goto (tgt := 101) hx hb dX3_crossedIn_97 (by decide) ?_
                exact hJ101 1 _ _ _ (⟨by decide, by decide⟩ : In 1 0 1) hP hD hS (lv_sub hl [1, 2, 3, 4, 5, 6, 7, 0] rfl)
          refine lv_icmp_eq (tgt := 81) hx hb dX3_crossedIn_74 (by decide) (fun c51 => ?_) (fun c51 => ?_)
          ·
            have cc52 : r23.toInt = r32.toInt := congrArg Int32.toInt c51
            have hb53 : In r23 0 1 := In.eq1 eL27R eL36R cc52 (by omega) (by omega)
            refine lv_iconst (v := 0) hx hb dX3_crossedIn_81 (by decide) ?_
            exact hJ82 0 _ _ _ (⟨by decide, by decide⟩ : In 0 0 1) hP hD hS (lv_sub hl [1, 2, 3, 4, 5, 6, 0] rfl)
          ·
            refine lv_iconst (v := 1) hx hb dX3_crossedIn_77 (by decide) ?_
            refine lv_goto (tgt := 82) hx hb dX3_crossedIn_78 (by decide) ?_
            exact hJ82 1 _ _ _ (⟨by decide, by decide⟩ : In 1 0 1) hP hD hS (lv_sub hl [1, 2, 3, 4, 5, 6, 0] rfl)
        have hJ46 : ∀ (H : Heap) (locs : List Loc) (ls : Array Slot), va_P g.1 vwCl (va_pl L f) H → va_D A (va_pl L f) → va_S A s.heap H locs → lv_has ls 8 [(0, .ref (cr ad j 0)), (1, .ref (ad 6)), (2, .int z2), (3, .int r3), (4, .int y12_l4), (5, .int y12_l5)] → W p l e rm_X3_crossedIn_co s m [.ref (cr ad j 0), .ref (ad 6), .int z2].toArray below meth c H locs 0 0 (MQ below (va_Qi (po_X3_crossedIn_co g ad th L f j z2) (PstB g A) A) [.ref (cr ad j 0), .ref (ad 6), .int z2].toArray s rm_X3_crossedIn_co.cells rm_X3_crossedIn_co.slots A) (F0 m 46 ls []) := by
          intro H locs ls hP hD hS hl
          refine lv_iconst (v := 0) hx hb dX3_crossedIn_46 (by decide) ?_
          exact hJ47 0 _ _ _ (⟨by decide, by decide⟩ : In 0 0 1) hP hD hS (lv_sub hl [0, 1, 2, 3, 4, 5] rfl)
        refine lv_icmp_eq (tgt := 46) hx hb dX3_crossedIn_24 (by decide) (fun c54 => ?_) (fun c54 => ?_)
        ·
          exact hJ46 _ _ _ hP hD hS (lv_sub hl [0, 1, 2, 3, 4, 5] rfl)
        ·
          refine lv_aload_n hx hb dX3_crossedIn_27 rfl (lv_at hl 0 rfl) ?_
          obtain ⟨v0_55, v1_55, v2_55, v3_55, v4_55, v5_55, v6_55, v7_55, v8_55, hf56, hv1_55, hg1_55, hv2_55, hg2_55, hv6_55⟩ := hT.2.1 j hj 0 (by decide)
          refine pl_get (v := .ref (cr ad j 7)) hx hb hts (fun w h => mT (inX3 w h)) hown hG.1 hP (hst.c hj (by decide)) hf56 rfl 15 (by decide) (hts _ (mT wg_360)) (fun _ h => h) rfl dX3_crossedIn_28 ?_
          refine lv_iload_n hx hb dX3_crossedIn_31 rfl (lv_at hl 2 rfl) ?_
          obtain ⟨rw57, hf58⟩ := hT.2.1 j hj 7 (by decide)
          have hin59 : vp_in z2 6 := In.inb hz2 (by decide) (by decide)
          refine pl_iald hx hb hG.1 hP (hst.c hj (by decide)) 0 hf58 rfl hin59 dX3_crossedIn_32 ?_
          refine lv_topi (fun x60 ex60 => ?_)
          refine lv_iload hx hb dX3_crossedIn_33 (lv_at hl 5 rfl) ?_
          refine call_i (run_SN (rm := rm_X10_bit) hx hb hml hown hts (s_X10_bit l g ad th _ _ _ x60 y12_l5 hst hT ) cS_X10_bit wn_794 ⟨Nat.le_of_ble_eq_true rfl, Nat.le_of_ble_eq_true rfl⟩ hG hE hA hP hD hS rfl hl.1 (As := [.int x60, .int y12_l5]) (rest := []) rfl (Nat.le_of_ble_eq_true rfl) dX3_crossedIn_35 ⟨Nat.le_of_ble_eq_true rfl, Nat.le_of_ble_eq_true rfl⟩) hA hD hS (fun r61 L62 f63 H locs hp64 hP hD hS => ?_)
          obtain ⟨eL65L, eL65T, eL65R, eL65X0⟩ := hp64
          have eL65L : L62 = L := eL65L
          have eL65T : f63 = f := eL65T
          rw [eL65L, eL65T] at hP hD
          have eL65R : In r61 0 1 := eL65R
          refine lv_iconst (v := 1) hx hb dX3_crossedIn_38 (by decide) ?_
          refine lv_icmp_ne (tgt := 46) hx hb dX3_crossedIn_39 (by decide) (fun c66 => ?_) (fun c66 => ?_)
          ·
            have cc67 : r61.toInt ≠ (1 : Int32).toInt := i32_ne c66
            have hb68 : In r61 0 0 := In.ne1 eL65R (⟨by decide, by decide⟩ : In 1 1 1) cc67 (by omega) (by omega)
            exact hJ46 _ _ _ hP hD hS (lv_sub hl [0, 1, 2, 3, 4, 5] rfl)
          ·
            have cc69 : r61.toInt = (1 : Int32).toInt := congrArg Int32.toInt c66
            have hb70 : In r61 1 1 := In.eq1 eL65R (⟨by decide, by decide⟩ : In 1 1 1) cc69 (by omega) (by omega)
            refine lv_iconst (v := 1) hx hb dX3_crossedIn_42 (by decide) ?_
            refine lv_goto (tgt := 47) hx hb dX3_crossedIn_43 (by decide) ?_
            exact hJ47 1 _ _ _ (⟨by decide, by decide⟩ : In 1 0 1) hP hD hS (lv_sub hl [0, 1, 2, 3, 4, 5] rfl)
  exact hJ12 ((9 - (0 : Int32).toInt).toNat + 1) 0 0 _ _ _ (⟨by decide, by decide⟩ : In 0 (-2147483648) 2147483647) (⟨by decide, by decide⟩ : In 0 0 9) hP hD hS (lv_sub hl [3, 4, 5, 2, 1, 0] rfl) (msI _)

abbrev rm_X3_zerosHeard_ot : Room := { frames := 2, cells := 0, slots := 0, locals := 45 }
abbrev po_X3_zerosHeard_ot (g : GG) (ad : Nat → Nat) (th : Nat → Int) (L : List Nat) (f : HP) (j : Nat) (z2 : Int32) (z3 : Int32) (z4 : Int32) : Int32 → (List Nat × HP) → Prop := fun _ u => u.1 = L ∧ u.2 = f
set_option maxHeartbeats 4000000 in
set_option maxRecDepth 100000 in
theorem s_X3_zerosHeard_ot (l : Launch) (g : GG) (ad : Nat → Nat) (th : Nat → Int) (L : List Nat) (f : HP) (sz : Nat) (j : Nat) (z2 : Int32) (z3 : Int32) (z4 : Int32) (hst : ST ad L) (hT : TI g ad th f) (hj : j < 23) (hz2 : In z2 0 5) (hz3 : In z3 0 2) : MtI l g yX3_zerosHeard cX3_zerosHeard 5 (some .int) rm_X3_zerosHeard_ot [.ref (cr ad j 0), .ref (ad 7), .int z2, .int z3, .int z4] L f sz (po_X3_zerosHeard_ot g ad th L f j z2 z3 z4) := by
  refine MtI.of (by decide +kernel) (Nat.le_of_ble_eq_true rfl) ?_
  intro p e s m below meth c A hEn hP hD hS ls hl
  obtain ⟨hx, hb, hr, hml, hown, hlocks, hts, hG, hA, hE, hnm⟩ := hEn
  have hown : s.vm.findClass "RulerWord$Course" = some m.cls := hown
  have hl : lv_has ls 5 [(0, .ref (cr ad j 0)), (1, .ref (ad 7)), (2, .int z2), (3, .int z3), (4, .int z4)] := hl
  refine lv_aload_n hx hb dX3_zerosHeard_0 rfl (lv_at hl 1 rfl) ?_
  obtain ⟨v0_1, v1_1, v2_1, v3_1, v4_1, v5_1, v6_1, v7_1, hf2, hv0_1, hg0_1, hv1_1, hv2_1, hv3_1, hv5_1, hv6_1⟩ := hT.1 7 (by decide)
  refine pl_getN (v := .int v1_1) hx hb hts (fun w h => mT (inX2 w h)) hown hG.1 hP (hst.1 7 (by decide)) hf2 rfl 1 (by decide) (hG.2.1 _ wn_231) (fun _ h => h) rfl dX3_zerosHeard_1 ?_
  refine lv_aload_n hx hb dX3_zerosHeard_4 rfl (lv_at hl 0 rfl) ?_
  refine lv_iload_n hx hb dX3_zerosHeard_5 rfl (lv_at hl 2 rfl) ?_
  refine lv_iload_n hx hb dX3_zerosHeard_6 rfl (lv_at hl 3 rfl) ?_
  refine lv_iload hx hb dX3_zerosHeard_7 (lv_at hl 4 rfl) ?_
  obtain ⟨v0_3, v1_3, v2_3, v3_3, v4_3, v5_3, v6_3, v7_3, v8_3, hf4, hv1_3, hg1_3, hv2_3, hg2_3, hv6_3⟩ := hT.2.1 j hj 0 (by decide)
  refine call_i (run_V (rm := rm_X3_onesHeard) hx hb hml hown hts (s_X3_onesHeard l g ad th _ _ _ j z2 z3 z4 hst hT hj hz2 hz3) cV_X3_onesHeard wg_862 ⟨Nat.le_of_ble_eq_true rfl, Nat.le_of_ble_eq_true rfl⟩ hG hE hA hP hD hS (hst.c hj (by decide)) hf4 rfl rfl hl.1 (As := [.int z2, .int z3, .int z4]) (rest := [.int v1_1]) rfl (Nat.le_of_ble_eq_true rfl) dX3_zerosHeard_9 ⟨Nat.le_of_ble_eq_true rfl, Nat.le_of_ble_eq_true rfl⟩) hA hD hS (fun r5 L6 f7 H locs hp8 hP hD hS => ?_)
  obtain ⟨eL9L, eL9T, eL9R⟩ := hp8
  have eL9L : L6 = L := eL9L
  have eL9T : f7 = f := eL9T
  rw [eL9L, eL9T] at hP hD
  have eL9R : In r5 0 15 := eL9R
  refine lv_isub hx hb dX3_zerosHeard_12 ?_
  refine lv_topi (fun x10 ex10 => ?_)
  have hb11 : In x10 (-15) 9 := ex10 ▸ In.sub hv1_1 eL9R (by decide) (by decide) (by decide) (by decide)
  have et12 : x10.toInt = v1_1.toInt - r5.toInt := In.sub2e ex10 hv1_1 eL9R (by decide) (by decide)
  refine lv_aload_n hx hb dX3_zerosHeard_13 rfl (lv_at hl 0 rfl) ?_
  refine pl_get (v := .ref (cr ad j 4)) hx hb hts (fun w h => mT (inX3 w h)) hown hG.1 hP (hst.c hj (by decide)) hf4 rfl 12 (by decide) (hts _ (mT wg_355)) (fun _ h => h) rfl dX3_zerosHeard_14 ?_
  refine lv_iload_n hx hb dX3_zerosHeard_17 rfl (lv_at hl 2 rfl) ?_
  refine lv_iconst (v := 3) hx hb dX3_zerosHeard_18 (by decide) ?_
  refine lv_imul hx hb dX3_zerosHeard_19 ?_
  refine lv_topi (fun x13 ex13 => ?_)
  have hb14 : In x13 0 15 := ex13 ▸ In.mul hz2 (⟨by decide, by decide⟩ : In 3 3 3) (by decide) (by decide) (by decide) (by decide) (by decide)
  refine lv_iload_n hx hb dX3_zerosHeard_20 rfl (lv_at hl 3 rfl) ?_
  refine lv_iadd hx hb dX3_zerosHeard_21 ?_
  refine lv_topi (fun x15 ex15 => ?_)
  have hb16 : In x15 0 17 := ex15 ▸ In.add hb14 hz3 (by decide) (by decide) (by decide) (by decide)
  have et17 : x15.toInt = x13.toInt + z3.toInt := In.add2e ex15 hb14 hz3 (by decide) (by decide)
  obtain ⟨rw18, hf19⟩ := hT.2.1 j hj 4 (by decide)
  have hin20 : vp_in x15 18 := In.inb hb16 (by decide) (by decide)
  refine pl_lald hx hb hG.1 hP (hst.c hj (by decide)) 1 hf19 rfl hin20 dX3_zerosHeard_22 ?_
  refine lv_topl (fun x21 ex21 => ?_)
  refine lv_iload hx hb dX3_zerosHeard_23 (lv_at hl 4 rfl) ?_
  refine call_i (run_SN (rm := rm_X10_nibble) hx hb hml hown hts (s_X10_nibble l g ad th _ _ _ x21 z4 hst hT ) cS_X10_nibble wn_795 ⟨Nat.le_of_ble_eq_true rfl, Nat.le_of_ble_eq_true rfl⟩ hG hE hA hP hD hS rfl hl.1 (As := [.long x21, .int z4]) (rest := [.int x10]) rfl (Nat.le_of_ble_eq_true rfl) dX3_zerosHeard_25 ⟨Nat.le_of_ble_eq_true rfl, Nat.le_of_ble_eq_true rfl⟩) hA hD hS (fun r22 L23 f24 H locs hp25 hP hD hS => ?_)
  obtain ⟨eL26L, eL26T, eL26R⟩ := hp25
  have eL26L : L23 = L := eL26L
  have eL26T : f24 = f := eL26T
  rw [eL26L, eL26T] at hP hD
  have eL26R : In r22 0 15 := eL26R
  refine lv_isub hx hb dX3_zerosHeard_28 ?_
  refine lv_topi (fun x27 ex27 => ?_)
  have hb28 : In x27 (-30) 9 := ex27 ▸ In.sub hb11 eL26R (by decide) (by decide) (by decide) (by decide)
  have et29 : x27.toInt = x10.toInt - r22.toInt := In.sub2e ex27 hb11 eL26R (by decide) (by decide)
  exact ret_i (ty := .int) hx hb hr hlocks (rfl) hP hD hS (Nat.le_of_ble_eq_true rfl) (Nat.le_of_ble_eq_true rfl) (⟨rfl, rfl⟩) dX3_zerosHeard_29

abbrev rm_X3_takeView_ot : Room := { frames := 0, cells := 0, slots := 0, locals := 0 }
abbrev po_X3_takeView_ot (g : GG) (ad : Nat → Nat) (th : Nat → Int) (L : List Nat) (f : HP) (j : Nat) (z2 : Int32) (z3 : Int32) (z4 : Int32) : (List Nat × HP) → Prop := fun u => u.1 = L ∧ TI g ad th u.2 ∧ (∀ b, b ≠ (cr ad j 0) → b ≠ (cr ad j 5) → b ≠ (cr ad j 7) → u.2 b = f b)
set_option maxHeartbeats 4000000 in
set_option maxRecDepth 100000 in
theorem s_X3_takeView_ot (l : Launch) (g : GG) (ad : Nat → Nat) (th : Nat → Int) (L : List Nat) (f : HP) (sz : Nat) (j : Nat) (z2 : Int32) (z3 : Int32) (z4 : Int32) (hst : ST ad L) (hT : TI g ad th f) (hj : j < 23) (hz2 : In z2 0 5) : MtV l g yX3_takeView cX3_takeView 6 rm_X3_takeView_ot [.ref (cr ad j 0), .ref (ad 7), .int z2, .int z3, .int z4] L f sz (po_X3_takeView_ot g ad th L f j z2 z3 z4) := by
  refine MtV.of (by decide +kernel) (Nat.le_of_ble_eq_true rfl) ?_
  intro p e s m below meth c A hEn hP hD hS ls hl
  obtain ⟨hx, hb, hr, hml, hown, hlocks, hts, hG, hA, hE, hnm⟩ := hEn
  have hown : s.vm.findClass "RulerWord$Course" = some m.cls := hown
  have hl : lv_has ls 6 [(0, .ref (cr ad j 0)), (1, .ref (ad 7)), (2, .int z2), (3, .int z3), (4, .int z4)] := hl
  have hfr : (∀ b, b ≠ (cr ad j 0) → b ≠ (cr ad j 5) → b ≠ (cr ad j 7) → f b = f b) := fun b z0_ z1_ z2_ => rfl
  refine lv_iload hx hb dX3_takeView_0 (lv_at hl 4 rfl) ?_
  refine lv_iconst (v := 4) hx hb dX3_takeView_2 (by decide) ?_
  refine lv_irem hx hb dX3_takeView_3 (In.ne0 (⟨by decide, by decide⟩ : In 4 4 4) (by decide)) ?_
  refine lv_topi (fun x1 ex1 => ?_)
  refine lv_istore (lv' := [(5, .int x1), (0, .ref (cr ad j 0)), (1, .ref (ad 7)), (2, .int z2), (3, .int z3), (4, .int z4)]) hx hb dX3_takeView_4 hl (by decide) rfl (fun ls hl => ?_)
  refine lv_aload_n hx hb dX3_takeView_6 rfl (lv_at hl 1 rfl) ?_
  obtain ⟨v0_2, v1_2, v2_2, v3_2, v4_2, v5_2, v6_2, v7_2, v8_2, hf3, hv1_2, hg1_2, hv2_2, hg2_2, hv6_2⟩ := hT.2.1 j hj 0 (by decide)
  refine pl_get (v := .ref (cr ad j 7)) hx hb hts (fun w h => mT (inX3 w h)) hown hG.1 hP (hst.c hj (by decide)) hf3 rfl 15 (by decide) (hts _ (mT wg_360)) (fun _ h => h) rfl dX3_takeView_7 ?_
  refine lv_iload_n hx hb dX3_takeView_10 rfl (lv_at hl 3 rfl) ?_
  refine lv_dup2_11 hx hb dX3_takeView_11 rfl rfl ?_
  obtain ⟨rw4, hf5⟩ := hT.2.1 j hj 7 (by decide)
  have hin6 : vp_in z2 6 := In.inb hz2 (by decide) (by decide)
  refine pl_iald hx hb hG.1 hP (hst.c hj (by decide)) 0 hf5 rfl hin6 dX3_takeView_12 ?_
  refine lv_topi (fun x7 ex7 => ?_)
  refine lv_iload hx hb dX3_takeView_13 (lv_at hl 5 rfl) ?_
  refine lv_iconst (v := 4) hx hb dX3_takeView_15 (by decide) ?_
  refine lv_idiv hx hb dX3_takeView_16 (In.ne0 (⟨by decide, by decide⟩ : In 4 4 4) (by decide)) ?_
  refine lv_topi (fun x8 ex8 => ?_)
  refine lv_iload_n hx hb dX3_takeView_17 rfl (lv_at hl 4 rfl) ?_
  refine lv_ishl hx hb dX3_takeView_18 ?_
  refine lv_topi (fun x9 ex9 => ?_)
  refine lv_ior hx hb dX3_takeView_19 ?_
  refine lv_topi (fun x10 ex10 => ?_)
  refine pl_iastE hx hb hG.1 hP hD hS (hst.c hj (by decide)) 0 hf5 rfl (In.inb hz2 (by decide) (by decide)) dX3_takeView_20 (fun H locs f11 r14 er14 hf12 ho13 hP hD hS => ?_)
  have hf15 := (ho13 (cr ad j 0) (hst.ne (by omega) (by omega) (by omega))).trans hf3
  have hfr : (∀ b, b ≠ (cr ad j 0) → b ≠ (cr ad j 5) → b ≠ (cr ad j 7) → f11 b = f b) := fun b z0_ z1_ z2_ => (ho13 b z2_).trans (hfr b z0_ z1_ z2_)
  refine lv_aload_n hx hb dX3_takeView_21 rfl (lv_at hl 2 rfl) ?_
  have hT := TI.updC hT hst hj (k := 7) (by decide) hf12 ho13 ⟨r14, rfl⟩
  obtain ⟨v0_16, v1_16, v2_16, v3_16, v4_16, v5_16, v6_16, v7_16, hf17, hv0_16, hg0_16, hv1_16, hv2_16, hv3_16, hv5_16, hv6_16⟩ := hT.1 7 (by decide)
  refine pl_getN (v := .int v0_16) hx hb hts (fun w h => mT (inX2 w h)) hown hG.1 hP (hst.1 7 (by decide)) hf17 rfl 0 (by decide) (hG.2.1 _ wn_227) (fun _ h => h) rfl dX3_takeView_22 ?_
  refine lv_iconst (v := 1) hx hb dX3_takeView_25 (by decide) ?_
  refine lv_icmp_ne (tgt := 48) hx hb dX3_takeView_26 (by decide) (fun c18 => ?_) (fun c18 => ?_)
  ·
    have cc19 : v0_16.toInt ≠ (1 : Int32).toInt := i32_ne c18
    have hb20 : In v0_16 0 0 := In.ne1 hv0_16 (⟨by decide, by decide⟩ : In 1 1 1) cc19 (by omega) (by omega)
    refine lv_iload hx hb dX3_takeView_48 (lv_at hl 0 rfl) ?_
    refine lv_iconst (v := 2) hx hb dX3_takeView_50 (by decide) ?_
    refine lv_icmp_eq (tgt := 73) hx hb dX3_takeView_51 (by decide) (fun c21 => ?_) (fun c21 => ?_)
    ·
      have cc22 : x1.toInt = (2 : Int32).toInt := congrArg Int32.toInt c21
      have hb23 : In x1 2 2 := In.eq1 (In.full x1) (⟨by decide, by decide⟩ : In 2 2 2) cc22 (by omega) (by omega)
      exact ret_v hx hb hr hlocks hP hD hS (Nat.le_of_ble_eq_true rfl) (Nat.le_of_ble_eq_true rfl) (⟨rfl, hT, hfr⟩) dX3_takeView_73
    ·
      refine lv_aload_n hx hb dX3_takeView_54 rfl (lv_at hl 1 rfl) ?_
      refine lv_aload_n hx hb dX3_takeView_55 rfl (lv_at hl 1 rfl) ?_
      refine pl_get (v := .int v3_2) hx hb hts (fun w h => mT (inX3 w h)) hown hG.1 hP (hst.c hj (by decide)) hf15 rfl 3 (by decide) (hts _ (mT wg_342)) (fun _ h => h) rfl dX3_takeView_56 ?_
      refine lv_iconst (v := 1) hx hb dX3_takeView_59 (by decide) ?_
      refine lv_iload_n hx hb dX3_takeView_60 rfl (lv_at hl 4 rfl) ?_
      refine lv_ishl hx hb dX3_takeView_61 ?_
      refine lv_topi (fun x24 ex24 => ?_)
      refine lv_iconst (v := (-1)) hx hb dX3_takeView_62 (by decide) ?_
      refine lv_ixor hx hb dX3_takeView_63 ?_
      refine lv_topi (fun x25 ex25 => ?_)
      refine lv_iand hx hb dX3_takeView_64 ?_
      refine lv_topi (fun x26 ex26 => ?_)
      refine lv_iload hx hb dX3_takeView_65 (lv_at hl 0 rfl) ?_
      refine lv_iload_n hx hb dX3_takeView_67 rfl (lv_at hl 4 rfl) ?_
      refine lv_ishl hx hb dX3_takeView_68 ?_
      refine lv_topi (fun x27 ex27 => ?_)
      refine lv_ior hx hb dX3_takeView_69 ?_
      refine lv_topi (fun x28 ex28 => ?_)
      refine pl_put (ty := .int) (v := .int x28) (fs' := [.int v0_2, .int v1_2, .int v2_2, .int x28, .int v4_2, .int v5_2, .int v6_2, .long v7_2, .long v8_2, .ref (cr ad j 1), .ref (cr ad j 2), .ref (cr ad j 3), .ref (cr ad j 4), .ref (cr ad j 5), .ref (cr ad j 6), .ref (cr ad j 7), .ref (cr ad j 8), .ref (cr ad j 9)]) hx hb hts (fun w h => mT (inX3 w h)) tyX3 tyX3_ok nmX3 hown hG.1 hP hD hS (hst.c hj (by decide)) hf15 rfl 3 (by decide) (hts _ (mT wg_342)) (fun _ h => h) rfl (by decide +kernel) (rfl) (rfl) (Nat.le_of_ble_eq_true rfl) rfl dX3_takeView_70 (fun H locs f29 hf30 ho31 hP hD hS => ?_)
      have hf32 := (ho31 (cr ad j 7) (hst.ne (by omega) (by omega) (by omega))).trans hf12
      have hf33 := (ho31 (ad 7) (hst.ne (by omega) (by omega) (by omega))).trans hf17
      have hfr : (∀ b, b ≠ (cr ad j 0) → b ≠ (cr ad j 5) → b ≠ (cr ad j 7) → f29 b = f b) := fun b z0_ z1_ z2_ => (ho31 b z0_).trans (hfr b z0_ z1_ z2_)
      have hT := TI.updC hT hst hj (k := 0) (by decide) hf30 ho31 ⟨v0_2, v1_2, v2_2, x28, v4_2, v5_2, v6_2, v7_2, v8_2, rfl, hv1_2, hg1_2, hv2_2, hg2_2, hv6_2⟩
      exact ret_v hx hb hr hlocks hP hD hS (Nat.le_of_ble_eq_true rfl) (Nat.le_of_ble_eq_true rfl) (⟨rfl, hT, hfr⟩) dX3_takeView_73
  ·
    have cc34 : v0_16.toInt = (1 : Int32).toInt := congrArg Int32.toInt c18
    have hb35 : In v0_16 1 1 := In.eq1 hv0_16 (⟨by decide, by decide⟩ : In 1 1 1) cc34 (by omega) (by omega)
    refine lv_aload_n hx hb dX3_takeView_29 rfl (lv_at hl 1 rfl) ?_
    refine pl_get (v := .ref (cr ad j 5)) hx hb hts (fun w h => mT (inX3 w h)) hown hG.1 hP (hst.c hj (by decide)) hf15 rfl 13 (by decide) (hts _ (mT wg_356)) (fun _ h => h) rfl dX3_takeView_30 ?_
    refine lv_iload_n hx hb dX3_takeView_33 rfl (lv_at hl 3 rfl) ?_
    refine lv_dup2_11 hx hb dX3_takeView_34 rfl rfl ?_
    obtain ⟨rw36, hf37⟩ := hT.2.1 j hj 5 (by decide)
    have hin38 : vp_in z2 6 := In.inb hz2 (by decide) (by decide)
    refine pl_lald hx hb hG.1 hP (hst.c hj (by decide)) 1 hf37 rfl hin38 dX3_takeView_35 ?_
    refine lv_topl (fun x39 ex39 => ?_)
    refine lv_iload hx hb dX3_takeView_36 (lv_at hl 0 rfl) ?_
    refine lv_i2l hx hb dX3_takeView_38 rfl ?_
    refine lv_iconst (v := 4) hx hb dX3_takeView_39 (by decide) ?_
    refine lv_iload_n hx hb dX3_takeView_40 rfl (lv_at hl 4 rfl) ?_
    refine lv_imul hx hb dX3_takeView_41 ?_
    refine lv_topi (fun x40 ex40 => ?_)
    refine lv_lshl hx hb dX3_takeView_42 rfl ?_
    refine lv_topl (fun x41 ex41 => ?_)
    refine lv_lor hx hb dX3_takeView_43 ?_
    refine lv_topl (fun x42 ex42 => ?_)
    refine pl_lastE hx hb hG.1 hP hD hS (hst.c hj (by decide)) 1 hf37 rfl (In.inb hz2 (by decide) (by decide)) dX3_takeView_44 (fun H locs f43 r46 er46 hf44 ho45 hP hD hS => ?_)
    have hf47 := (ho45 (cr ad j 0) (hst.ne (by omega) (by omega) (by omega))).trans hf15
    have hf48 := (ho45 (cr ad j 7) (hst.ne (by omega) (by omega) (by omega))).trans hf12
    have hf49 := (ho45 (ad 7) (hst.ne (by omega) (by omega) (by omega))).trans hf17
    have hfr : (∀ b, b ≠ (cr ad j 0) → b ≠ (cr ad j 5) → b ≠ (cr ad j 7) → f43 b = f b) := fun b z0_ z1_ z2_ => (ho45 b z1_).trans (hfr b z0_ z1_ z2_)
    have hT := TI.updC hT hst hj (k := 5) (by decide) hf44 ho45 ⟨r46, rfl⟩
    refine lv_goto (tgt := 73) hx hb dX3_takeView_45 (by decide) ?_
    exact ret_v hx hb hr hlocks hP hD hS (Nat.le_of_ble_eq_true rfl) (Nat.le_of_ble_eq_true rfl) (⟨rfl, hT, hfr⟩) dX3_takeView_73

abbrev rm_X3_hearAll_ot : Room := { frames := 3, cells := 0, slots := 0, locals := 69 }
abbrev po_X3_hearAll_ot (g : GG) (ad : Nat → Nat) (th : Nat → Int) (L : List Nat) (f : HP) (j : Nat) (z2 : Int32) (z3 : Int32) : (List Nat × HP) → Prop := fun u => u.1 = L ∧ TI g ad th u.2 ∧ (∀ b, b ≠ (cr ad j 0) → b ≠ (cr ad j 5) → b ≠ (cr ad j 7) → u.2 b = f b)
set_option maxHeartbeats 4000000 in
set_option maxRecDepth 100000 in
theorem s_X3_hearAll_ot (l : Launch) (g : GG) (ad : Nat → Nat) (th : Nat → Int) (L : List Nat) (f : HP) (sz : Nat) (j : Nat) (z2 : Int32) (z3 : Int32) (hst : ST ad L) (hT : TI g ad th f) (hj : j < 23) (hz2 : In z2 0 5) (hz3 : In z3 0 2) : MtV l g yX3_hearAll cX3_hearAll 8 rm_X3_hearAll_ot [.ref (cr ad j 0), .ref (ad 7), .int z2, .int z3] L f sz (po_X3_hearAll_ot g ad th L f j z2 z3) := by
  refine MtV.of (by decide +kernel) (Nat.le_of_ble_eq_true rfl) ?_
  intro p e s m below meth c A hEn hP hD hS ls hl
  obtain ⟨hx, hb, hr, hml, hown, hlocks, hts, hG, hA, hE, hnm⟩ := hEn
  have hown : s.vm.findClass "RulerWord$Course" = some m.cls := hown
  have hl : lv_has ls 8 [(0, .ref (cr ad j 0)), (1, .ref (ad 7)), (2, .int z2), (3, .int z3)] := hl
  have hfr : (∀ b, b ≠ (cr ad j 0) → b ≠ (cr ad j 5) → b ≠ (cr ad j 7) → f b = f b) := fun b z0_ z1_ z2_ => rfl
  refine lv_aload_n hx hb dX3_hearAll_0 rfl (lv_at hl 1 rfl) ?_
  obtain ⟨v0_1, v1_1, v2_1, v3_1, v4_1, v5_1, v6_1, v7_1, hf2, hv0_1, hg0_1, hv1_1, hv2_1, hv3_1, hv5_1, hv6_1⟩ := hT.1 7 (by decide)
  refine pl_getN (v := .int v0_1) hx hb hts (fun w h => mT (inX2 w h)) hown hG.1 hP (hst.1 7 (by decide)) hf2 rfl 0 (by decide) (hG.2.1 _ wn_227) (fun _ h => h) rfl dX3_hearAll_1 ?_
  have hJ16 : ∀ (y16_s0 : Int32) (H : Heap) (locs : List Loc) (ls : Array Slot), In y16_s0 0 1 → va_P g.1 vwCl (va_pl L f) H → va_D A (va_pl L f) → va_S A s.heap H locs → lv_has ls 8 [(0, .ref (cr ad j 0)), (1, .ref (ad 7)), (2, .int z2), (3, .int z3)] → W p l e rm_X3_hearAll_ot s m [.ref (cr ad j 0), .ref (ad 7), .int z2, .int z3].toArray below meth c H locs 0 0 (MQ below (va_Qv (po_X3_hearAll_ot g ad th L f j z2 z3) (PstB g A) A) [.ref (cr ad j 0), .ref (ad 7), .int z2, .int z3].toArray s rm_X3_hearAll_ot.cells rm_X3_hearAll_ot.slots A) (F0 m 16 ls [.int y16_s0]) := by
    intro y16_s0 H locs ls hy16_s0 hP hD hS hl
    refine lv_istore (lv' := [(4, .int y16_s0), (0, .ref (cr ad j 0)), (1, .ref (ad 7)), (2, .int z2), (3, .int z3)]) hx hb dX3_hearAll_16 hl (by decide) rfl (fun ls hl => ?_)
    refine lv_iload hx hb dX3_hearAll_18 (lv_at hl 0 rfl) ?_
    have hJ30 : ∀ (f_30 : HP) (H : Heap) (locs : List Loc) (ls : Array Slot), va_P g.1 vwCl (va_pl L f_30) H → va_D A (va_pl L f_30) → va_S A s.heap H locs → TI g ad th f_30 → (∀ b, b ≠ (cr ad j 0) → b ≠ (cr ad j 5) → b ≠ (cr ad j 7) → f_30 b = f b) → f_30 (ad 7) = .inr (2, [.int v0_1, .int v1_1, .int v2_1, .int v3_1, .int v4_1, .int v5_1, .int v6_1, .int v7_1]) → lv_has ls 8 [(0, .ref (cr ad j 0)), (1, .ref (ad 7)), (2, .int z2), (3, .int z3), (4, .int y16_s0)] → W p l e rm_X3_hearAll_ot s m [.ref (cr ad j 0), .ref (ad 7), .int z2, .int z3].toArray below meth c H locs 0 0 (MQ below (va_Qv (po_X3_hearAll_ot g ad th L f j z2 z3) (PstB g A) A) [.ref (cr ad j 0), .ref (ad 7), .int z2, .int z3].toArray s rm_X3_hearAll_ot.cells rm_X3_hearAll_ot.slots A) (F0 m 30 ls []) := by
      intro f_30 H locs ls hP hD hS hT hfr hf3 hl
      refine lv_iload hx hb dX3_hearAll_30 (lv_at hl 4 rfl) ?_
      have hJ50 : ∀ (f_50 : HP) (H : Heap) (locs : List Loc) (ls : Array Slot), va_P g.1 vwCl (va_pl L f_50) H → va_D A (va_pl L f_50) → va_S A s.heap H locs → TI g ad th f_50 → (∀ b, b ≠ (cr ad j 0) → b ≠ (cr ad j 5) → b ≠ (cr ad j 7) → f_50 b = f b) → f_50 (ad 7) = .inr (2, [.int v0_1, .int v1_1, .int v2_1, .int v3_1, .int v4_1, .int v5_1, .int v6_1, .int v7_1]) → lv_has ls 8 [(0, .ref (cr ad j 0)), (1, .ref (ad 7)), (2, .int z2), (3, .int z3), (4, .int y16_s0)] → W p l e rm_X3_hearAll_ot s m [.ref (cr ad j 0), .ref (ad 7), .int z2, .int z3].toArray below meth c H locs 0 0 (MQ below (va_Qv (po_X3_hearAll_ot g ad th L f j z2 z3) (PstB g A) A) [.ref (cr ad j 0), .ref (ad 7), .int z2, .int z3].toArray s rm_X3_hearAll_ot.cells rm_X3_hearAll_ot.slots A) (F0 m 50 ls []) := by
        intro f_50 H locs ls hP hD hS hT hfr hf4 hl
        refine lv_iconst (v := 0) hx hb dX3_hearAll_50 (by decide) ?_
        refine lv_istore (lv' := [(5, .int 0), (0, .ref (cr ad j 0)), (1, .ref (ad 7)), (2, .int z2), (3, .int z3), (4, .int y16_s0)]) hx hb dX3_hearAll_51 hl (by decide) rfl (fun ls hl => ?_)
        have hJ53 : ∀ (k53 : Nat) (y53_l5 : Int32) (f_53 : HP) (H : Heap) (locs : List Loc) (ls : Array Slot), In y53_l5 0 9 → va_P g.1 vwCl (va_pl L f_53) H → va_D A (va_pl L f_53) → va_S A s.heap H locs → TI g ad th f_53 → (∀ b, b ≠ (cr ad j 0) → b ≠ (cr ad j 5) → b ≠ (cr ad j 7) → f_53 b = f b) → f_53 (ad 7) = .inr (2, [.int v0_1, .int v1_1, .int v2_1, .int v3_1, .int v4_1, .int v5_1, .int v6_1, .int v7_1]) → lv_has ls 8 [(0, .ref (cr ad j 0)), (1, .ref (ad 7)), (2, .int z2), (3, .int z3), (4, .int y16_s0), (5, .int y53_l5)] → 9 - y53_l5.toInt < ((k53 : Nat) : Int) → W p l e rm_X3_hearAll_ot s m [.ref (cr ad j 0), .ref (ad 7), .int z2, .int z3].toArray below meth c H locs 0 0 (MQ below (va_Qv (po_X3_hearAll_ot g ad th L f j z2 z3) (PstB g A) A) [.ref (cr ad j 0), .ref (ad 7), .int z2, .int z3].toArray s rm_X3_hearAll_ot.cells rm_X3_hearAll_ot.slots A) (F0 m 53 ls []) := by
          intro k53
          induction k53 with
          | zero =>
            intro y53_l5 f_53 H locs ls hy53_l5 hP hD hS hT hfr hf5 hl hmz53
            exact ms0 hy53_l5 hmz53
          | succ k53 ih53 =>
            intro y53_l5 f_53 H locs ls hy53_l5 hP hD hS hT hfr hf5 hl hmz53
            refine lv_iload hx hb dX3_hearAll_53 (lv_at hl 5 rfl) ?_
            refine lv_aload_n hx hb dX3_hearAll_55 rfl (lv_at hl 1 rfl) ?_
            refine pl_getN (v := .int v1_1) hx hb hts (fun w h => mT (inX2 w h)) hown hG.1 hP (hst.1 7 (by decide)) hf5 rfl 1 (by decide) (hG.2.1 _ wn_231) (fun _ h => h) rfl dX3_hearAll_56 ?_
            refine lv_icmp_ge (tgt := 136) hx hb dX3_hearAll_59 (by decide) (fun c6 => ?_) (fun c6 => ?_)
            ·
              exact ret_v hx hb hr hlocks hP hD hS (Nat.le_of_ble_eq_true rfl) (Nat.le_of_ble_eq_true rfl) (⟨rfl, hT, hfr⟩) dX3_hearAll_136
            ·
              have cc7 : y53_l5.toInt < v1_1.toInt := i32_nle c6
              have hb8 : In y53_l5 0 8 := In.lt1 hy53_l5 hv1_1 cc7 (by omega) (by omega)
              have hb9 : In v1_1 1 9 := In.lt2 hy53_l5 hv1_1 cc7 (by omega) (by omega)
              refine lv_aload_n hx hb dX3_hearAll_62 rfl (lv_at hl 0 rfl) ?_
              refine lv_aload_n hx hb dX3_hearAll_63 rfl (lv_at hl 1 rfl) ?_
              refine lv_iload_n hx hb dX3_hearAll_64 rfl (lv_at hl 2 rfl) ?_
              refine lv_iload_n hx hb dX3_hearAll_65 rfl (lv_at hl 3 rfl) ?_
              refine lv_iload hx hb dX3_hearAll_66 (lv_at hl 5 rfl) ?_
              obtain ⟨v0_10, v1_10, v2_10, v3_10, v4_10, v5_10, v6_10, v7_10, v8_10, hf11, hv1_10, hg1_10, hv2_10, hg2_10, hv6_10⟩ := hT.2.1 j hj 0 (by decide)
              refine call_i (run_V (rm := rm_X3_zerosHeard_ot) hx hb hml hown hts (s_X3_zerosHeard_ot l g ad th _ _ _ j z2 z3 y53_l5 hst hT hj hz2 hz3) cV_X3_zerosHeard wg_858 ⟨Nat.le_of_ble_eq_true rfl, Nat.le_of_ble_eq_true rfl⟩ hG hE hA hP hD hS (hst.c hj (by decide)) hf11 rfl rfl hl.1 (As := [.ref (ad 7), .int z2, .int z3, .int y53_l5]) (rest := []) rfl (Nat.le_of_ble_eq_true rfl) dX3_hearAll_68 ⟨Nat.le_of_ble_eq_true rfl, Nat.le_of_ble_eq_true rfl⟩) hA hD hS (fun r12 L13 f14 H locs hp15 hP hD hS => ?_)
              obtain ⟨eL16L, eL16T⟩ := hp15
              have eL16L : L13 = L := eL16L
              have eL16T : f14 = f_53 := eL16T
              rw [eL16L, eL16T] at hP hD
              refine lv_istore (lv' := [(6, .int r12), (0, .ref (cr ad j 0)), (1, .ref (ad 7)), (2, .int z2), (3, .int z3), (4, .int y16_s0), (5, .int y53_l5)]) hx hb dX3_hearAll_71 hl (by decide) rfl (fun ls hl => ?_)
              refine lv_aload_n hx hb dX3_hearAll_73 rfl (lv_at hl 1 rfl) ?_
              refine lv_iload_n hx hb dX3_hearAll_74 rfl (lv_at hl 3 rfl) ?_
              refine lv_iload_n hx hb dX3_hearAll_75 rfl (lv_at hl 4 rfl) ?_
              refine lv_iload hx hb dX3_hearAll_76 (lv_at hl 6 rfl) ?_
              refine call_i (run_V (rm := rm_X3_onesHeard) hx hb hml hown hts (s_X3_onesHeard l g ad th _ _ _ j z2 z3 y53_l5 hst hT hj hz2 hz3) cV_X3_onesHeard wg_862 ⟨Nat.le_of_ble_eq_true rfl, Nat.le_of_ble_eq_true rfl⟩ hG hE hA hP hD hS (hst.c hj (by decide)) hf11 rfl rfl hl.1 (As := [.int z2, .int z3, .int y53_l5]) (rest := []) rfl (Nat.le_of_ble_eq_true rfl) dX3_hearAll_78 ⟨Nat.le_of_ble_eq_true rfl, Nat.le_of_ble_eq_true rfl⟩) hA hD hS (fun r17 L18 f19 H locs hp20 hP hD hS => ?_)
              obtain ⟨eL21L, eL21T, eL21R⟩ := hp20
              have eL21L : L18 = L := eL21L
              have eL21T : f19 = f_53 := eL21T
              rw [eL21L, eL21T] at hP hD
              have eL21R : In r17 0 15 := eL21R
              refine lv_istore (lv' := [(7, .int r17), (6, .int r12), (0, .ref (cr ad j 0)), (1, .ref (ad 7)), (2, .int z2), (3, .int z3), (4, .int y16_s0), (5, .int y53_l5)]) hx hb dX3_hearAll_81 hl (by decide) rfl (fun ls hl => ?_)
              refine lv_iload hx hb dX3_hearAll_83 (lv_at hl 6 rfl) ?_
              have hJ130 : ∀ (f_130 : HP) (H : Heap) (locs : List Loc) (ls : Array Slot), va_P g.1 vwCl (va_pl L f_130) H → va_D A (va_pl L f_130) → va_S A s.heap H locs → TI g ad th f_130 → (∀ b, b ≠ (cr ad j 0) → b ≠ (cr ad j 5) → b ≠ (cr ad j 7) → f_130 b = f b) → f_130 (ad 7) = .inr (2, [.int v0_1, .int v1_1, .int v2_1, .int v3_1, .int v4_1, .int v5_1, .int v6_1, .int v7_1]) → lv_has ls 8 [(0, .ref (cr ad j 0)), (1, .ref (ad 7)), (2, .int z2), (3, .int z3), (4, .int y16_s0), (5, .int y53_l5), (6, .int r12), (7, .int r17)] → W p l e rm_X3_hearAll_ot s m [.ref (cr ad j 0), .ref (ad 7), .int z2, .int z3].toArray below meth c H locs 0 0 (MQ below (va_Qv (po_X3_hearAll_ot g ad th L f j z2 z3) (PstB g A) A) [.ref (cr ad j 0), .ref (ad 7), .int z2, .int z3].toArray s rm_X3_hearAll_ot.cells rm_X3_hearAll_ot.slots A) (F0 m 130 ls []) := by
                intro f_130 H locs ls hP hD hS hT hfr hf22 hl
                obtain ⟨x23, ex23⟩ : ∃ y : Int32, y = y53_l5 + 1 := ⟨_, rfl⟩
                have hb24 : In x23 1 9 := ex23 ▸ In.add hb8 (⟨by decide, by decide⟩ : In 1 1 1) (by decide) (by decide) (by decide) (by decide)
                have et25 : x23.toInt = y53_l5.toInt + 1 := In.adde ex23 hb8 (k := 1) (by decide) (by decide) (by decide)
                refine lv_iinc (v := x23) (lv' := [(5, .int x23), (0, .ref (cr ad j 0)), (1, .ref (ad 7)), (2, .int z2), (3, .int z3), (4, .int y16_s0), (6, .int r12), (7, .int r17)]) hx hb dX3_hearAll_130 hl (k := 5) rfl (by rw [ex23]; rfl) (by decide) rfl (fun ls hl => ?_)
                refine lv_goto (tgt := 53) hx hb dX3_hearAll_133 (by decide) ?_
                exact ih53 x23 _ _ _ _ (In.mono hb24 (by decide) (by decide)) hP hD hS hT hfr hf22 (lv_sub hl [1, 2, 3, 4, 5, 0] rfl) (msu et25 (by decide) hmz53)
              refine lv_if_eq (tgt := 114) hx hb dX3_hearAll_85 (by decide) (fun c26 => ?_) (fun c26 => ?_)
              ·
                have cc27 : y16_s0.toInt = (0 : Int32).toInt := congrArg Int32.toInt c26
                have hb28 : In y16_s0 0 0 := In.eq1 hy16_s0 (⟨by decide, by decide⟩ : In 0 0 0) cc27 (by omega) (by omega)
                refine lv_aload_n hx hb dX3_hearAll_114 rfl (lv_at hl 2 rfl) ?_
                refine lv_aload_n hx hb dX3_hearAll_115 rfl (lv_at hl 3 rfl) ?_
                refine lv_iload_n hx hb dX3_hearAll_116 rfl (lv_at hl 4 rfl) ?_
                refine lv_iload hx hb dX3_hearAll_117 (lv_at hl 7 rfl) ?_
                refine lv_aload_n hx hb dX3_hearAll_119 rfl (lv_at hl 3 rfl) ?_
                refine lv_iload hx hb dX3_hearAll_120 (lv_at hl 1 rfl) ?_
                refine lv_iload hx hb dX3_hearAll_122 (lv_at hl 0 rfl) ?_
                refine call_i (run_VN (rm := rm_X2_view_ot) hx hb hml hown hts (s_X2_view_ot l g ad th _ _ _ r12 r17 hst hT ) cV_X2_view wn_870 ⟨Nat.le_of_ble_eq_true rfl, Nat.le_of_ble_eq_true rfl⟩ hG hE hA hP hD hS (hst.1 7 (by decide)) hf5 rfl rfl hl.1 (As := [.int r12, .int r17]) (rest := [.int y53_l5, .int z2, .ref (ad 7), .ref (cr ad j 0)]) rfl (Nat.le_of_ble_eq_true rfl) dX3_hearAll_124 ⟨Nat.le_of_ble_eq_true rfl, Nat.le_of_ble_eq_true rfl⟩) hA hD hS (fun r29 L30 f31 H locs hp32 hP hD hS => ?_)
                obtain ⟨eL33L, eL33T, eL33R⟩ := hp32
                have eL33L : L30 = L := eL33L
                have eL33T : f31 = f_53 := eL33T
                rw [eL33L, eL33T] at hP hD
                have eL33R : In r29 0 6 := eL33R
                refine call_v (run_V (rm := rm_X3_takeView_ot) hx hb hml hown hts (s_X3_takeView_ot l g ad th _ _ _ j z2 y53_l5 r29 hst hT hj hz2) cV_X3_takeView wg_877 ⟨Nat.le_of_ble_eq_true rfl, Nat.le_of_ble_eq_true rfl⟩ hG hE hA hP hD hS (hst.c hj (by decide)) hf11 rfl rfl hl.1 (As := [.ref (ad 7), .int z2, .int y53_l5, .int r29]) (rest := []) rfl (Nat.le_of_ble_eq_true rfl) dX3_hearAll_127 ⟨Nat.le_of_ble_eq_true rfl, Nat.le_of_ble_eq_true rfl⟩) hA hD hS (fun L35 f36 H locs hp37 hP hD hS => ?_)
                obtain ⟨eL38L, eL38T, eL38F⟩ := hp37
                have eL38L : L35 = L := eL38L
                rw [eL38L] at hP hD
                have hT : TI g ad th f36 := eL38T
                have eL38F : ∀ b, b ≠ (cr ad j 0) → b ≠ (cr ad j 5) → b ≠ (cr ad j 7) → f36 b = f_53 b := eL38F
                have hf39 := (eL38F (ad 7) (hst.ne (by omega) (by omega) (by omega)) (hst.ne (by omega) (by omega) (by omega)) (hst.ne (by omega) (by omega) (by omega))).trans hf5
                have hfr : (∀ b, b ≠ (cr ad j 0) → b ≠ (cr ad j 5) → b ≠ (cr ad j 7) → f36 b = f b) := fun b z0_ z1_ z2_ => (eL38F b z0_ z1_ z2_).trans (hfr b z0_ z1_ z2_)
                exact hJ130 _ _ _ _ hP hD hS hT hfr hf39 (lv_sub hl [2, 3, 4, 5, 6, 7, 1, 0] rfl)
              ·
                have cc40 : y16_s0.toInt ≠ (0 : Int32).toInt := i32_ne c26
                have hb41 : In y16_s0 1 1 := In.ne1 hy16_s0 (⟨by decide, by decide⟩ : In 0 0 0) cc40 (by omega) (by omega)
                refine lv_aload_n hx hb dX3_hearAll_88 rfl (lv_at hl 2 rfl) ?_
                refine pl_get (v := .ref (cr ad j 5)) hx hb hts (fun w h => mT (inX3 w h)) hown hG.1 hP (hst.c hj (by decide)) hf11 rfl 13 (by decide) (hts _ (mT wg_356)) (fun _ h => h) rfl dX3_hearAll_89 ?_
                refine lv_iload_n hx hb dX3_hearAll_92 rfl (lv_at hl 4 rfl) ?_
                refine lv_dup2_11 hx hb dX3_hearAll_93 rfl rfl ?_
                obtain ⟨rw42, hf43⟩ := hT.2.1 j hj 5 (by decide)
                have hin44 : vp_in z2 6 := In.inb hz2 (by decide) (by decide)
                refine pl_lald hx hb hG.1 hP (hst.c hj (by decide)) 1 hf43 rfl hin44 dX3_hearAll_94 ?_
                refine lv_topl (fun x45 ex45 => ?_)
                refine lv_aload_n hx hb dX3_hearAll_95 rfl (lv_at hl 3 rfl) ?_
                refine lv_iload hx hb dX3_hearAll_96 (lv_at hl 1 rfl) ?_
                refine lv_iload hx hb dX3_hearAll_98 (lv_at hl 0 rfl) ?_
                refine call_i (run_VN (rm := rm_X2_offer_ot) hx hb hml hown hts (s_X2_offer_ot l g ad th _ _ _ r12 r17 hst hT ) cV_X2_offer wn_866 ⟨Nat.le_of_ble_eq_true rfl, Nat.le_of_ble_eq_true rfl⟩ hG hE hA hP hD hS (hst.1 7 (by decide)) hf5 rfl rfl hl.1 (As := [.int r12, .int r17]) (rest := [.long x45, .int z2, .ref (cr ad j 5)]) rfl (Nat.le_of_ble_eq_true rfl) dX3_hearAll_100 ⟨Nat.le_of_ble_eq_true rfl, Nat.le_of_ble_eq_true rfl⟩) hA hD hS (fun r46 L47 f48 H locs hp49 hP hD hS => ?_)
                obtain ⟨eL50L, eL50T, eL50R⟩ := hp49
                have eL50L : L47 = L := eL50L
                have eL50T : f48 = f_53 := eL50T
                rw [eL50L, eL50T] at hP hD
                have eL50R : In r46 0 2 := eL50R
                refine lv_i2l hx hb dX3_hearAll_103 rfl ?_
                refine lv_iconst (v := 4) hx hb dX3_hearAll_104 (by decide) ?_
                refine lv_iload hx hb dX3_hearAll_105 (lv_at hl 7 rfl) ?_
                refine lv_imul hx hb dX3_hearAll_107 ?_
                refine lv_topi (fun x51 ex51 => ?_)
                have hb52 : In x51 0 32 := ex51 ▸ In.mul (⟨by decide, by decide⟩ : In 4 4 4) hb8 (by decide) (by decide) (by decide) (by decide) (by decide)
                refine lv_lshl hx hb dX3_hearAll_108 rfl ?_
                refine lv_topl (fun x53 ex53 => ?_)
                refine lv_lor hx hb dX3_hearAll_109 ?_
                refine lv_topl (fun x54 ex54 => ?_)
                refine pl_lastE hx hb hG.1 hP hD hS (hst.c hj (by decide)) 1 hf43 rfl (In.inb hz2 (by decide) (by decide)) dX3_hearAll_110 (fun H locs f55 r58 er58 hf56 ho57 hP hD hS => ?_)
                have hf59 := (ho57 (ad 7) (hst.ne (by omega) (by omega) (by omega))).trans hf5
                have hf60 := (ho57 (cr ad j 0) (hst.ne (by omega) (by omega) (by omega))).trans hf11
                have hfr : (∀ b, b ≠ (cr ad j 0) → b ≠ (cr ad j 5) → b ≠ (cr ad j 7) → f55 b = f b) := fun b z0_ z1_ z2_ => (ho57 b z1_).trans (hfr b z0_ z1_ z2_)
                have hT := TI.updC hT hst hj (k := 5) (by decide) hf56 ho57 ⟨r58, rfl⟩
                refine lv_goto (tgt := 130) hx hb dX3_hearAll_111 (by decide) ?_
                exact hJ130 _ _ _ _ hP hD hS hT hfr hf59 (lv_sub hl [2, 3, 4, 5, 6, 7, 1, 0] rfl)
        exact hJ53 ((9 - (0 : Int32).toInt).toNat + 1) 0 _ _ _ _ (⟨by decide, by decide⟩ : In 0 0 9) hP hD hS hT hfr hf4 (lv_sub hl [1, 2, 3, 4, 5, 0] rfl) (msI _)
      have hJ43 : ∀ (H : Heap) (locs : List Loc) (ls : Array Slot), va_P g.1 vwCl (va_pl L f_30) H → va_D A (va_pl L f_30) → va_S A s.heap H locs → lv_has ls 8 [(0, .ref (cr ad j 0)), (1, .ref (ad 7)), (2, .int z2), (3, .int z3), (4, .int y16_s0)] → W p l e rm_X3_hearAll_ot s m [.ref (cr ad j 0), .ref (ad 7), .int z2, .int z3].toArray below meth c H locs 0 0 (MQ below (va_Qv (po_X3_hearAll_ot g ad th L f j z2 z3) (PstB g A) A) [.ref (cr ad j 0), .ref (ad 7), .int z2, .int z3].toArray s rm_X3_hearAll_ot.cells rm_X3_hearAll_ot.slots A) (F0 m 43 ls []) := by
        intro H locs ls hP hD hS hl
        refine lv_aload_n hx hb dX3_hearAll_43 rfl (lv_at hl 0 rfl) ?_
        obtain ⟨v0_61, v1_61, v2_61, v3_61, v4_61, v5_61, v6_61, v7_61, v8_61, hf62, hv1_61, hg1_61, hv2_61, hg2_61, hv6_61⟩ := hT.2.1 j hj 0 (by decide)
        refine pl_get (v := .ref (cr ad j 5)) hx hb hts (fun w h => mT (inX3 w h)) hown hG.1 hP (hst.c hj (by decide)) hf62 rfl 13 (by decide) (hts _ (mT wg_356)) (fun _ h => h) rfl dX3_hearAll_44 ?_
        refine lv_iload_n hx hb dX3_hearAll_47 rfl (lv_at hl 2 rfl) ?_
        refine lv_lconst (v := 0) hx hb dX3_hearAll_48 (by decide) ?_
        obtain ⟨rw63, hf64⟩ := hT.2.1 j hj 5 (by decide)
        refine pl_lastE hx hb hG.1 hP hD hS (hst.c hj (by decide)) 1 hf64 rfl (In.inb hz2 (by decide) (by decide)) dX3_hearAll_49 (fun H locs f65 r68 er68 hf66 ho67 hP hD hS => ?_)
        have hf69 := (ho67 (ad 7) (hst.ne (by omega) (by omega) (by omega))).trans hf3
        have hf70 := (ho67 (cr ad j 0) (hst.ne (by omega) (by omega) (by omega))).trans hf62
        have hfr : (∀ b, b ≠ (cr ad j 0) → b ≠ (cr ad j 5) → b ≠ (cr ad j 7) → f65 b = f b) := fun b z0_ z1_ z2_ => (ho67 b z1_).trans (hfr b z0_ z1_ z2_)
        have hT := TI.updC hT hst hj (k := 5) (by decide) hf66 ho67 ⟨r68, rfl⟩
        exact hJ50 _ _ _ _ hP hD hS hT hfr hf69 (lv_sub hl [0, 1, 2, 3, 4] rfl)
      refine lv_if_ne (tgt := 43) hx hb dX3_hearAll_32 (by decide) (fun c71 => ?_) (fun c71 => ?_)
      ·
        have cc72 : y16_s0.toInt ≠ (0 : Int32).toInt := i32_ne c71
        have hb73 : In y16_s0 1 1 := In.ne1 hy16_s0 (⟨by decide, by decide⟩ : In 0 0 0) cc72 (by omega) (by omega)
        exact hJ43 _ _ _ hP hD hS (lv_sub hl [0, 1, 2, 3, 4] rfl)
      ·
        have cc74 : y16_s0.toInt = (0 : Int32).toInt := congrArg Int32.toInt c71
        have hb75 : In y16_s0 0 0 := In.eq1 hy16_s0 (⟨by decide, by decide⟩ : In 0 0 0) cc74 (by omega) (by omega)
        refine lv_aload_n hx hb dX3_hearAll_35 rfl (lv_at hl 1 rfl) ?_
        refine pl_getN (v := .int v0_1) hx hb hts (fun w h => mT (inX2 w h)) hown hG.1 hP (hst.1 7 (by decide)) hf3 rfl 0 (by decide) (hG.2.1 _ wn_227) (fun _ h => h) rfl dX3_hearAll_36 ?_
        refine lv_iconst (v := 1) hx hb dX3_hearAll_39 (by decide) ?_
        refine lv_icmp_ne (tgt := 50) hx hb dX3_hearAll_40 (by decide) (fun c76 => ?_) (fun c76 => ?_)
        ·
          have cc77 : v0_1.toInt ≠ (1 : Int32).toInt := i32_ne c76
          have hb78 : In v0_1 0 0 := In.ne1 hv0_1 (⟨by decide, by decide⟩ : In 1 1 1) cc77 (by omega) (by omega)
          exact hJ50 _ _ _ _ hP hD hS hT hfr hf3 (lv_sub hl [0, 1, 2, 3, 4] rfl)
        ·
          have cc79 : v0_1.toInt = (1 : Int32).toInt := congrArg Int32.toInt c76
          have hb80 : In v0_1 1 1 := In.eq1 hv0_1 (⟨by decide, by decide⟩ : In 1 1 1) cc79 (by omega) (by omega)
          exact hJ43 _ _ _ hP hD hS (lv_sub hl [0, 1, 2, 3, 4] rfl)
    refine lv_if_ne (tgt := 30) hx hb dX3_hearAll_20 (by decide) (fun c81 => ?_) (fun c81 => ?_)
    ·
      have cc82 : y16_s0.toInt ≠ (0 : Int32).toInt := i32_ne c81
      have hb83 : In y16_s0 1 1 := In.ne1 hy16_s0 (⟨by decide, by decide⟩ : In 0 0 0) cc82 (by omega) (by omega)
      exact hJ30 _ _ _ _ hP hD hS hT hfr hf2 (lv_sub hl [1, 2, 3, 4, 0] rfl)
    ·
      have cc84 : y16_s0.toInt = (0 : Int32).toInt := congrArg Int32.toInt c81
      have hb85 : In y16_s0 0 0 := In.eq1 hy16_s0 (⟨by decide, by decide⟩ : In 0 0 0) cc84 (by omega) (by omega)
      refine lv_aload_n hx hb dX3_hearAll_23 rfl (lv_at hl 1 rfl) ?_
      obtain ⟨v0_86, v1_86, v2_86, v3_86, v4_86, v5_86, v6_86, v7_86, v8_86, hf87, hv1_86, hg1_86, hv2_86, hg2_86, hv6_86⟩ := hT.2.1 j hj 0 (by decide)
      refine pl_get (v := .ref (cr ad j 7)) hx hb hts (fun w h => mT (inX3 w h)) hown hG.1 hP (hst.c hj (by decide)) hf87 rfl 15 (by decide) (hts _ (mT wg_360)) (fun _ h => h) rfl dX3_hearAll_24 ?_
      refine lv_iload_n hx hb dX3_hearAll_27 rfl (lv_at hl 3 rfl) ?_
      refine lv_iconst (v := 0) hx hb dX3_hearAll_28 (by decide) ?_
      obtain ⟨rw88, hf89⟩ := hT.2.1 j hj 7 (by decide)
      refine pl_iastE hx hb hG.1 hP hD hS (hst.c hj (by decide)) 0 hf89 rfl (In.inb hz2 (by decide) (by decide)) dX3_hearAll_29 (fun H locs f90 r93 er93 hf91 ho92 hP hD hS => ?_)
      have hf94 := (ho92 (ad 7) (hst.ne (by omega) (by omega) (by omega))).trans hf2
      have hf95 := (ho92 (cr ad j 0) (hst.ne (by omega) (by omega) (by omega))).trans hf87
      have hfr : (∀ b, b ≠ (cr ad j 0) → b ≠ (cr ad j 5) → b ≠ (cr ad j 7) → f90 b = f b) := fun b z0_ z1_ z2_ => (ho92 b z2_).trans (hfr b z0_ z1_ z2_)
      have hT := TI.updC hT hst hj (k := 7) (by decide) hf91 ho92 ⟨r93, rfl⟩
      exact hJ30 _ _ _ _ hP hD hS hT hfr hf94 (lv_sub hl [1, 2, 3, 4, 0] rfl)
  have hJ15 : ∀ (H : Heap) (locs : List Loc) (ls : Array Slot), va_P g.1 vwCl (va_pl L f) H → va_D A (va_pl L f) → va_S A s.heap H locs → lv_has ls 8 [(0, .ref (cr ad j 0)), (1, .ref (ad 7)), (2, .int z2), (3, .int z3)] → W p l e rm_X3_hearAll_ot s m [.ref (cr ad j 0), .ref (ad 7), .int z2, .int z3].toArray below meth c H locs 0 0 (MQ below (va_Qv (po_X3_hearAll_ot g ad th L f j z2 z3) (PstB g A) A) [.ref (cr ad j 0), .ref (ad 7), .int z2, .int z3].toArray s rm_X3_hearAll_ot.cells rm_X3_hearAll_ot.slots A) (F0 m 15 ls []) := by
    intro H locs ls hP hD hS hl
    refine lv_iconst (v := 0) hx hb dX3_hearAll_15 (by decide) ?_
    exact hJ16 0 _ _ _ (⟨by decide, by decide⟩ : In 0 0 1) hP hD hS (lv_sub hl [0, 1, 2, 3] rfl)
  refine lv_if_ne (tgt := 15) hx hb dX3_hearAll_4 (by decide) (fun c96 => ?_) (fun c96 => ?_)
  ·
    have cc97 : v0_1.toInt ≠ (0 : Int32).toInt := i32_ne c96
    have hb98 : In v0_1 1 1 := In.ne1 hv0_1 (⟨by decide, by decide⟩ : In 0 0 0) cc97 (by omega) (by omega)
    exact hJ15 _ _ _ hP hD hS (lv_sub hl [0, 1, 2, 3] rfl)
  ·
    have cc99 : v0_1.toInt = (0 : Int32).toInt := congrArg Int32.toInt c96
    have hb100 : In v0_1 0 0 := In.eq1 hv0_1 (⟨by decide, by decide⟩ : In 0 0 0) cc99 (by omega) (by omega)
    refine lv_iload_n hx hb dX3_hearAll_7 rfl (lv_at hl 3 rfl) ?_
    refine lv_if_ne (tgt := 15) hx hb dX3_hearAll_8 (by decide) (fun c101 => ?_) (fun c101 => ?_)
    ·
      have cc102 : z3.toInt ≠ (0 : Int32).toInt := i32_ne c101
      have hb103 : In z3 1 2 := In.ne1 hz3 (⟨by decide, by decide⟩ : In 0 0 0) cc102 (by omega) (by omega)
      exact hJ15 _ _ _ hP hD hS (lv_sub hl [0, 1, 2, 3] rfl)
    ·
      have cc104 : z3.toInt = (0 : Int32).toInt := congrArg Int32.toInt c101
      have hb105 : In z3 0 0 := In.eq1 hz3 (⟨by decide, by decide⟩ : In 0 0 0) cc104 (by omega) (by omega)
      refine lv_iconst (v := 1) hx hb dX3_hearAll_11 (by decide) ?_
      refine lv_goto (tgt := 16) hx hb dX3_hearAll_12 (by decide) ?_
      exact hJ16 1 _ _ _ (⟨by decide, by decide⟩ : In 1 0 1) hP hD hS (lv_sub hl [0, 1, 2, 3] rfl)

abbrev rm_X3_hearRuler_ot : Room := { frames := 2, cells := 0, slots := 0, locals := 46 }
abbrev po_X3_hearRuler_ot (g : GG) (ad : Nat → Nat) (th : Nat → Int) (L : List Nat) (f : HP) (j : Nat) (z2 : Int32) (z3 : Int32) : (List Nat × HP) → Prop := fun u => u.1 = L ∧ TI g ad th u.2 ∧ (∀ b, b ≠ (cr ad j 0) → b ≠ (cr ad j 6) → b ≠ (cr ad j 8) → u.2 b = f b)
set_option maxHeartbeats 4000000 in
set_option maxRecDepth 100000 in
theorem s_X3_hearRuler_ot (l : Launch) (g : GG) (ad : Nat → Nat) (th : Nat → Int) (L : List Nat) (f : HP) (sz : Nat) (j : Nat) (z2 : Int32) (z3 : Int32) (hst : ST ad L) (hT : TI g ad th f) (hj : j < 23) (hz2 : In z2 0 5) (hz3 : In z3 0 8) : MtV l g yX3_hearRuler cX3_hearRuler 10 rm_X3_hearRuler_ot [.ref (cr ad j 0), .ref (ad 7), .int z2, .int z3] L f sz (po_X3_hearRuler_ot g ad th L f j z2 z3) := by
  refine MtV.of (by decide +kernel) (Nat.le_of_ble_eq_true rfl) ?_
  intro p e s m below meth c A hEn hP hD hS ls hl
  obtain ⟨hx, hb, hr, hml, hown, hlocks, hts, hG, hA, hE, hnm⟩ := hEn
  have hown : s.vm.findClass "RulerWord$Course" = some m.cls := hown
  have hl : lv_has ls 10 [(0, .ref (cr ad j 0)), (1, .ref (ad 7)), (2, .int z2), (3, .int z3)] := hl
  have hfr : (∀ b, b ≠ (cr ad j 0) → b ≠ (cr ad j 6) → b ≠ (cr ad j 8) → f b = f b) := fun b z0_ z1_ z2_ => rfl
  refine lv_iconst (v := 0) hx hb dX3_hearRuler_0 (by decide) ?_
  refine lv_istore (lv' := [(4, .int 0), (0, .ref (cr ad j 0)), (1, .ref (ad 7)), (2, .int z2), (3, .int z3)]) hx hb dX3_hearRuler_1 hl (by decide) rfl (fun ls hl => ?_)
  refine lv_aload_n hx hb dX3_hearRuler_3 rfl (lv_at hl 1 rfl) ?_
  obtain ⟨v0_1, v1_1, v2_1, v3_1, v4_1, v5_1, v6_1, v7_1, v8_1, hf2, hv1_1, hg1_1, hv2_1, hg2_1, hv6_1⟩ := hT.2.1 j hj 0 (by decide)
  refine pl_get (v := .ref (cr ad j 8)) hx hb hts (fun w h => mT (inX3 w h)) hown hG.1 hP (hst.c hj (by decide)) hf2 rfl 16 (by decide) (hts _ (mT wg_362)) (fun _ h => h) rfl dX3_hearRuler_4 ?_
  refine lv_iload_n hx hb dX3_hearRuler_7 rfl (lv_at hl 3 rfl) ?_
  refine lv_iconst (v := 0) hx hb dX3_hearRuler_8 (by decide) ?_
  obtain ⟨rw3, hf4⟩ := hT.2.1 j hj 8 (by decide)
  refine pl_iastE hx hb hG.1 hP hD hS (hst.c hj (by decide)) 0 hf4 rfl (In.inb hz2 (by decide) (by decide)) dX3_hearRuler_9 (fun H locs f5 r8 er8 hf6 ho7 hP hD hS => ?_)
  have hf9 := (ho7 (cr ad j 0) (hst.ne (by omega) (by omega) (by omega))).trans hf2
  have hfr : (∀ b, b ≠ (cr ad j 0) → b ≠ (cr ad j 6) → b ≠ (cr ad j 8) → f5 b = f b) := fun b z0_ z1_ z2_ => (ho7 b z2_).trans (hfr b z0_ z1_ z2_)
  refine lv_iconst (v := 0) hx hb dX3_hearRuler_10 (by decide) ?_
  refine lv_istore (lv' := [(5, .int 0), (4, .int 0), (0, .ref (cr ad j 0)), (1, .ref (ad 7)), (2, .int z2), (3, .int z3)]) hx hb dX3_hearRuler_11 hl (by decide) rfl (fun ls hl => ?_)
  have hT := TI.updC hT hst hj (k := 8) (by decide) hf6 ho7 ⟨r8, rfl⟩
  have hJ13 : ∀ (k13 : Nat) (y13_l4 : Int32) (y13_l5 : Int32) (f_13 : HP) (H : Heap) (locs : List Loc) (ls : Array Slot), In y13_l4 (-2147483648) 2147483647 → In y13_l5 0 9 → va_P g.1 vwCl (va_pl L f_13) H → va_D A (va_pl L f_13) → va_S A s.heap H locs → TI g ad th f_13 → (∀ b, b ≠ (cr ad j 0) → b ≠ (cr ad j 6) → b ≠ (cr ad j 8) → f_13 b = f b) → lv_has ls 10 [(0, .ref (cr ad j 0)), (1, .ref (ad 7)), (2, .int z2), (3, .int z3), (4, .int y13_l4), (5, .int y13_l5)] → 9 - y13_l5.toInt < ((k13 : Nat) : Int) → W p l e rm_X3_hearRuler_ot s m [.ref (cr ad j 0), .ref (ad 7), .int z2, .int z3].toArray below meth c H locs 0 0 (MQ below (va_Qv (po_X3_hearRuler_ot g ad th L f j z2 z3) (PstB g A) A) [.ref (cr ad j 0), .ref (ad 7), .int z2, .int z3].toArray s rm_X3_hearRuler_ot.cells rm_X3_hearRuler_ot.slots A) (F0 m 13 ls []) := by
    intro k13
    induction k13 with
    | zero =>
      intro y13_l4 y13_l5 f_13 H locs ls hy13_l4 hy13_l5 hP hD hS hT hfr hl hmz13
      exact ms0 hy13_l5 hmz13
    | succ k13 ih13 =>
      intro y13_l4 y13_l5 f_13 H locs ls hy13_l4 hy13_l5 hP hD hS hT hfr hl hmz13
      refine lv_iload hx hb dX3_hearRuler_13 (lv_at hl 5 rfl) ?_
      refine lv_aload_n hx hb dX3_hearRuler_15 rfl (lv_at hl 1 rfl) ?_
      obtain ⟨v0_10, v1_10, v2_10, v3_10, v4_10, v5_10, v6_10, v7_10, hf11, hv0_10, hg0_10, hv1_10, hv2_10, hv3_10, hv5_10, hv6_10⟩ := hT.1 7 (by decide)
      refine pl_getN (v := .int v1_10) hx hb hts (fun w h => mT (inX2 w h)) hown hG.1 hP (hst.1 7 (by decide)) hf11 rfl 1 (by decide) (hG.2.1 _ wn_231) (fun _ h => h) rfl dX3_hearRuler_16 ?_
      refine lv_icmp_ge (tgt := 217) hx hb dX3_hearRuler_19 (by decide) (fun c12 => ?_) (fun c12 => ?_)
      ·
        refine lv_aload_n hx hb dX3_hearRuler_217 rfl (lv_at hl 0 rfl) ?_
        refine lv_iload hx hb dX3_hearRuler_218 (lv_at hl 4 rfl) ?_
        obtain ⟨v0_13, v1_13, v2_13, v3_13, v4_13, v5_13, v6_13, v7_13, v8_13, hf14, hv1_13, hg1_13, hv2_13, hg2_13, hv6_13⟩ := hT.2.1 j hj 0 (by decide)
        refine pl_put (ty := .int) (v := .int y13_l4) (fs' := [.int v0_13, .int v1_13, .int v2_13, .int y13_l4, .int v4_13, .int v5_13, .int v6_13, .long v7_13, .long v8_13, .ref (cr ad j 1), .ref (cr ad j 2), .ref (cr ad j 3), .ref (cr ad j 4), .ref (cr ad j 5), .ref (cr ad j 6), .ref (cr ad j 7), .ref (cr ad j 8), .ref (cr ad j 9)]) hx hb hts (fun w h => mT (inX3 w h)) tyX3 tyX3_ok nmX3 hown hG.1 hP hD hS (hst.c hj (by decide)) hf14 rfl 3 (by decide) (hts _ (mT wg_342)) (fun _ h => h) rfl (by decide +kernel) (rfl) (rfl) (Nat.le_of_ble_eq_true rfl) rfl dX3_hearRuler_220 (fun H locs f15 hf16 ho17 hP hD hS => ?_)
        have hf18 := (ho17 (ad 7) (hst.ne (by omega) (by omega) (by omega))).trans hf11
        have hfr : (∀ b, b ≠ (cr ad j 0) → b ≠ (cr ad j 6) → b ≠ (cr ad j 8) → f15 b = f b) := fun b z0_ z1_ z2_ => (ho17 b z0_).trans (hfr b z0_ z1_ z2_)
        refine lv_aload_n hx hb dX3_hearRuler_223 rfl (lv_at hl 0 rfl) ?_
        refine pl_get (v := .ref (cr ad j 6)) hx hb hts (fun w h => mT (inX3 w h)) hown hG.1 hP (hst.c hj (by decide)) hf16 rfl 14 (by decide) (hts _ (mT wg_358)) (fun _ h => h) rfl dX3_hearRuler_224 ?_
        refine lv_iload_n hx hb dX3_hearRuler_227 rfl (lv_at hl 2 rfl) ?_
        refine lv_iload hx hb dX3_hearRuler_228 (lv_at hl 4 rfl) ?_
        have hT := TI.updC hT hst hj (k := 0) (by decide) hf16 ho17 ⟨v0_13, v1_13, v2_13, y13_l4, v4_13, v5_13, v6_13, v7_13, v8_13, rfl, hv1_13, hg1_13, hv2_13, hg2_13, hv6_13⟩
        obtain ⟨rw19, hf20⟩ := hT.2.1 j hj 6 (by decide)
        refine pl_iastE hx hb hG.1 hP hD hS (hst.c hj (by decide)) 0 hf20 rfl (In.inb hz2 (by decide) (by decide)) dX3_hearRuler_230 (fun H locs f21 r24 er24 hf22 ho23 hP hD hS => ?_)
        have hf25 := (ho23 (ad 7) (hst.ne (by omega) (by omega) (by omega))).trans hf18
        have hf26 := (ho23 (cr ad j 0) (hst.ne (by omega) (by omega) (by omega))).trans hf16
        have hfr : (∀ b, b ≠ (cr ad j 0) → b ≠ (cr ad j 6) → b ≠ (cr ad j 8) → f21 b = f b) := fun b z0_ z1_ z2_ => (ho23 b z1_).trans (hfr b z0_ z1_ z2_)
        have hT := TI.updC hT hst hj (k := 6) (by decide) hf22 ho23 ⟨r24, rfl⟩
        exact ret_v hx hb hr hlocks hP hD hS (Nat.le_of_ble_eq_true rfl) (Nat.le_of_ble_eq_true rfl) (⟨rfl, hT, hfr⟩) dX3_hearRuler_231
      ·
        have cc27 : y13_l5.toInt < v1_10.toInt := i32_nle c12
        have hb28 : In y13_l5 0 8 := In.lt1 hy13_l5 hv1_10 cc27 (by omega) (by omega)
        have hb29 : In v1_10 1 9 := In.lt2 hy13_l5 hv1_10 cc27 (by omega) (by omega)
        refine lv_aload_n hx hb dX3_hearRuler_22 rfl (lv_at hl 0 rfl) ?_
        refine lv_iload_n hx hb dX3_hearRuler_23 rfl (lv_at hl 2 rfl) ?_
        refine lv_aload_n hx hb dX3_hearRuler_24 rfl (lv_at hl 1 rfl) ?_
        refine call_i (run_VN (rm := rm_X2_rounds_ot) hx hb hml hown hts (s_X2_rounds_ot l g ad th _ _ _  hst hT ) cV_X2_rounds wn_777 ⟨Nat.le_of_ble_eq_true rfl, Nat.le_of_ble_eq_true rfl⟩ hG hE hA hP hD hS (hst.1 7 (by decide)) hf11 rfl rfl hl.1 (As := []) (rest := [.int z2, .ref (cr ad j 0)]) rfl (Nat.le_of_ble_eq_true rfl) dX3_hearRuler_25 ⟨Nat.le_of_ble_eq_true rfl, Nat.le_of_ble_eq_true rfl⟩) hA hD hS (fun r30 L31 f32 H locs hp33 hP hD hS => ?_)
        obtain ⟨eL34L, eL34T, eL34R, eL34X0⟩ := hp33
        have eL34L : L31 = L := eL34L
        have eL34T : f32 = f_13 := eL34T
        rw [eL34L, eL34T] at hP hD
        have eL34R : In r30 2 3 := eL34R
        have hrn35 : r30.toInt = rnd (th 4) := eL34X0
        refine lv_iconst (v := 1) hx hb dX3_hearRuler_28 (by decide) ?_
        refine lv_isub hx hb dX3_hearRuler_29 ?_
        refine lv_topi (fun x36 ex36 => ?_)
        have hb37 : In x36 1 2 := ex36 ▸ In.sub eL34R (⟨by decide, by decide⟩ : In 1 1 1) (by decide) (by decide) (by decide) (by decide)
        have et38 : x36.toInt = r30.toInt + (-1) := In.sube ex36 eL34R (k := 1) (by decide) (by decide) (by decide)
        refine lv_iload_n hx hb dX3_hearRuler_30 rfl (lv_at hl 3 rfl) ?_
        refine lv_iload hx hb dX3_hearRuler_31 (lv_at hl 5 rfl) ?_
        obtain ⟨v0_39, v1_39, v2_39, v3_39, v4_39, v5_39, v6_39, v7_39, v8_39, hf40, hv1_39, hg1_39, hv2_39, hg2_39, hv6_39⟩ := hT.2.1 j hj 0 (by decide)
        refine call_i (run_V (rm := rm_X3_letter) hx hb hml hown hts (s_X3_letter l g ad th _ _ _ j z2 x36 z3 y13_l5 hst hT hj hz2 (In.mono hb37 (by decide) (by decide)) hz3) cV_X3_letter wg_846 ⟨Nat.le_of_ble_eq_true rfl, Nat.le_of_ble_eq_true rfl⟩ hG hE hA hP hD hS (hst.c hj (by decide)) hf40 rfl rfl hl.1 (As := [.int z2, .int x36, .int z3, .int y13_l5]) (rest := []) rfl (Nat.le_of_ble_eq_true rfl) dX3_hearRuler_33 ⟨Nat.le_of_ble_eq_true rfl, Nat.le_of_ble_eq_true rfl⟩) hA hD hS (fun r41 L42 f43 H locs hp44 hP hD hS => ?_)
        obtain ⟨eL45L, eL45T, eL45R⟩ := hp44
        have eL45L : L42 = L := eL45L
        have eL45T : f43 = f_13 := eL45T
        rw [eL45L, eL45T] at hP hD
        have eL45R : In r41 0 15 := eL45R
        refine lv_istore (lv' := [(6, .int r41), (0, .ref (cr ad j 0)), (1, .ref (ad 7)), (2, .int z2), (3, .int z3), (4, .int y13_l4), (5, .int y13_l5)]) hx hb dX3_hearRuler_36 hl (by decide) rfl (fun ls hl => ?_)
        refine lv_aload_n hx hb dX3_hearRuler_38 rfl (lv_at hl 2 rfl) ?_
        refine pl_getN (v := .int v0_10) hx hb hts (fun w h => mT (inX2 w h)) hown hG.1 hP (hst.1 7 (by decide)) hf11 rfl 0 (by decide) (hG.2.1 _ wn_227) (fun _ h => h) rfl dX3_hearRuler_39 ?_
        have hJ68 : ∀ (y68_s0 : Int32) (H : Heap) (locs : List Loc) (ls : Array Slot), In y68_s0 0 15 → va_P g.1 vwCl (va_pl L f_13) H → va_D A (va_pl L f_13) → va_S A s.heap H locs → lv_has ls 10 [(0, .ref (cr ad j 0)), (1, .ref (ad 7)), (2, .int z2), (3, .int z3), (4, .int y13_l4), (5, .int y13_l5), (6, .int r41)] → W p l e rm_X3_hearRuler_ot s m [.ref (cr ad j 0), .ref (ad 7), .int z2, .int z3].toArray below meth c H locs 0 0 (MQ below (va_Qv (po_X3_hearRuler_ot g ad th L f j z2 z3) (PstB g A) A) [.ref (cr ad j 0), .ref (ad 7), .int z2, .int z3].toArray s rm_X3_hearRuler_ot.cells rm_X3_hearRuler_ot.slots A) (F0 m 68 ls [.int y68_s0]) := by
          intro y68_s0 H locs ls hy68_s0 hP hD hS hl
          refine lv_istore (lv' := [(7, .int y68_s0), (0, .ref (cr ad j 0)), (1, .ref (ad 7)), (2, .int z2), (3, .int z3), (4, .int y13_l4), (5, .int y13_l5), (6, .int r41)]) hx hb dX3_hearRuler_68 hl (by decide) rfl (fun ls hl => ?_)
          refine lv_aload_n hx hb dX3_hearRuler_70 rfl (lv_at hl 1 rfl) ?_
          refine pl_get (v := .ref (cr ad j 7)) hx hb hts (fun w h => mT (inX3 w h)) hown hG.1 hP (hst.c hj (by decide)) hf40 rfl 15 (by decide) (hts _ (mT wg_360)) (fun _ h => h) rfl dX3_hearRuler_71 ?_
          refine lv_iload_n hx hb dX3_hearRuler_74 rfl (lv_at hl 3 rfl) ?_
          obtain ⟨rw46, hf47⟩ := hT.2.1 j hj 7 (by decide)
          have hin48 : vp_in z2 6 := In.inb hz2 (by decide) (by decide)
          refine pl_iald hx hb hG.1 hP (hst.c hj (by decide)) 0 hf47 rfl hin48 dX3_hearRuler_75 ?_
          refine lv_topi (fun x49 ex49 => ?_)
          refine lv_iload hx hb dX3_hearRuler_76 (lv_at hl 6 rfl) ?_
          refine call_i (run_SN (rm := rm_X10_bit) hx hb hml hown hts (s_X10_bit l g ad th _ _ _ x49 y13_l5 hst hT ) cS_X10_bit wn_794 ⟨Nat.le_of_ble_eq_true rfl, Nat.le_of_ble_eq_true rfl⟩ hG hE hA hP hD hS rfl hl.1 (As := [.int x49, .int y13_l5]) (rest := []) rfl (Nat.le_of_ble_eq_true rfl) dX3_hearRuler_78 ⟨Nat.le_of_ble_eq_true rfl, Nat.le_of_ble_eq_true rfl⟩) hA hD hS (fun r50 L51 f52 H locs hp53 hP hD hS => ?_)
          obtain ⟨eL54L, eL54T, eL54R, eL54X0⟩ := hp53
          have eL54L : L51 = L := eL54L
          have eL54T : f52 = f_13 := eL54T
          rw [eL54L, eL54T] at hP hD
          have eL54R : In r50 0 1 := eL54R
          refine lv_iconst (v := 1) hx hb dX3_hearRuler_81 (by decide) ?_
          have hJ90 : ∀ (y90_s0 : Int32) (H : Heap) (locs : List Loc) (ls : Array Slot), In y90_s0 0 1 → va_P g.1 vwCl (va_pl L f_13) H → va_D A (va_pl L f_13) → va_S A s.heap H locs → lv_has ls 10 [(0, .ref (cr ad j 0)), (1, .ref (ad 7)), (2, .int z2), (3, .int z3), (4, .int y13_l4), (5, .int y13_l5), (6, .int r41), (7, .int y68_s0)] → W p l e rm_X3_hearRuler_ot s m [.ref (cr ad j 0), .ref (ad 7), .int z2, .int z3].toArray below meth c H locs 0 0 (MQ below (va_Qv (po_X3_hearRuler_ot g ad th L f j z2 z3) (PstB g A) A) [.ref (cr ad j 0), .ref (ad 7), .int z2, .int z3].toArray s rm_X3_hearRuler_ot.cells rm_X3_hearRuler_ot.slots A) (F0 m 90 ls [.int y90_s0]) := by
            intro y90_s0 H locs ls hy90_s0 hP hD hS hl
            refine lv_istore (lv' := [(8, .int y90_s0), (0, .ref (cr ad j 0)), (1, .ref (ad 7)), (2, .int z2), (3, .int z3), (4, .int y13_l4), (5, .int y13_l5), (6, .int r41), (7, .int y68_s0)]) hx hb dX3_hearRuler_90 hl (by decide) rfl (fun ls hl => ?_)
            refine lv_aload_n hx hb dX3_hearRuler_92 rfl (lv_at hl 2 rfl) ?_
            refine pl_getN (v := .int v6_10) hx hb hts (fun w h => mT (inX2 w h)) hown hG.1 hP (hst.1 7 (by decide)) hf11 rfl 6 (by decide) (hG.2.1 _ wn_244) (fun _ h => h) rfl dX3_hearRuler_93 ?_
            have hJ118 : ∀ (y118_s0 : Int32) (H : Heap) (locs : List Loc) (ls : Array Slot), In y118_s0 0 1 → va_P g.1 vwCl (va_pl L f_13) H → va_D A (va_pl L f_13) → va_S A s.heap H locs → lv_has ls 10 [(0, .ref (cr ad j 0)), (1, .ref (ad 7)), (2, .int z2), (3, .int z3), (4, .int y13_l4), (5, .int y13_l5), (6, .int r41), (7, .int y68_s0), (8, .int y90_s0)] → W p l e rm_X3_hearRuler_ot s m [.ref (cr ad j 0), .ref (ad 7), .int z2, .int z3].toArray below meth c H locs 0 0 (MQ below (va_Qv (po_X3_hearRuler_ot g ad th L f j z2 z3) (PstB g A) A) [.ref (cr ad j 0), .ref (ad 7), .int z2, .int z3].toArray s rm_X3_hearRuler_ot.cells rm_X3_hearRuler_ot.slots A) (F0 m 118 ls [.int y118_s0]) := by
              intro y118_s0 H locs ls hy118_s0 hP hD hS hl
              refine lv_istore (lv' := [(9, .int y118_s0), (0, .ref (cr ad j 0)), (1, .ref (ad 7)), (2, .int z2), (3, .int z3), (4, .int y13_l4), (5, .int y13_l5), (6, .int r41), (7, .int y68_s0), (8, .int y90_s0)]) hx hb dX3_hearRuler_118 hl (by decide) rfl (fun ls hl => ?_)
              refine lv_iload hx hb dX3_hearRuler_120 (lv_at hl 9 rfl) ?_
              have hJ156 : ∀ (f_156 : HP) (H : Heap) (locs : List Loc) (ls : Array Slot), va_P g.1 vwCl (va_pl L f_156) H → va_D A (va_pl L f_156) → va_S A s.heap H locs → TI g ad th f_156 → (∀ b, b ≠ (cr ad j 0) → b ≠ (cr ad j 6) → b ≠ (cr ad j 8) → f_156 b = f b) → f_156 (ad 7) = .inr (2, [.int v0_10, .int v1_10, .int v2_10, .int v3_10, .int v4_10, .int v5_10, .int v6_10, .int v7_10]) → f_156 (cr ad j 7) = .inl (g.2.1 0, 6, .inl (rw46)) → lv_has ls 10 [(0, .ref (cr ad j 0)), (1, .ref (ad 7)), (2, .int z2), (3, .int z3), (4, .int y13_l4), (5, .int y13_l5), (6, .int r41), (7, .int y68_s0), (8, .int y90_s0), (9, .int y118_s0)] → W p l e rm_X3_hearRuler_ot s m [.ref (cr ad j 0), .ref (ad 7), .int z2, .int z3].toArray below meth c H locs 0 0 (MQ below (va_Qv (po_X3_hearRuler_ot g ad th L f j z2 z3) (PstB g A) A) [.ref (cr ad j 0), .ref (ad 7), .int z2, .int z3].toArray s rm_X3_hearRuler_ot.cells rm_X3_hearRuler_ot.slots A) (F0 m 156 ls []) := by
                intro f_156 H locs ls hP hD hS hT hfr hf55 hf56 hl
                refine lv_iload hx hb dX3_hearRuler_156 (lv_at hl 8 rfl) ?_
                have hJ211 : ∀ (y211_l4 : Int32) (f_211 : HP) (H : Heap) (locs : List Loc) (ls : Array Slot), In y211_l4 (-2147483648) 2147483647 → va_P g.1 vwCl (va_pl L f_211) H → va_D A (va_pl L f_211) → va_S A s.heap H locs → TI g ad th f_211 → (∀ b, b ≠ (cr ad j 0) → b ≠ (cr ad j 6) → b ≠ (cr ad j 8) → f_211 b = f b) → f_211 (ad 7) = .inr (2, [.int v0_10, .int v1_10, .int v2_10, .int v3_10, .int v4_10, .int v5_10, .int v6_10, .int v7_10]) → f_211 (cr ad j 7) = .inl (g.2.1 0, 6, .inl (rw46)) → lv_has ls 10 [(0, .ref (cr ad j 0)), (1, .ref (ad 7)), (2, .int z2), (3, .int z3), (4, .int y211_l4), (5, .int y13_l5), (6, .int r41), (7, .int y68_s0), (8, .int y90_s0), (9, .int y118_s0)] → W p l e rm_X3_hearRuler_ot s m [.ref (cr ad j 0), .ref (ad 7), .int z2, .int z3].toArray below meth c H locs 0 0 (MQ below (va_Qv (po_X3_hearRuler_ot g ad th L f j z2 z3) (PstB g A) A) [.ref (cr ad j 0), .ref (ad 7), .int z2, .int z3].toArray s rm_X3_hearRuler_ot.cells rm_X3_hearRuler_ot.slots A) (F0 m 211 ls []) := by
                  intro y211_l4 f_211 H locs ls hy211_l4 hP hD hS hT hfr hf57 hf58 hl
                  obtain ⟨x59, ex59⟩ : ∃ y : Int32, y = y13_l5 + 1 := ⟨_, rfl⟩
                  have hb60 : In x59 1 9 := ex59 ▸ In.add hb28 (⟨by decide, by decide⟩ : In 1 1 1) (by decide) (by decide) (by decide) (by decide)
                  have et61 : x59.toInt = y13_l5.toInt + 1 := In.adde ex59 hb28 (k := 1) (by decide) (by decide) (by decide)
                  refine lv_iinc (v := x59) (lv' := [(5, .int x59), (0, .ref (cr ad j 0)), (1, .ref (ad 7)), (2, .int z2), (3, .int z3), (4, .int y211_l4), (6, .int r41), (7, .int y68_s0), (8, .int y90_s0), (9, .int y118_s0)]) hx hb dX3_hearRuler_211 hl (k := 5) rfl (by rw [ex59]; rfl) (by decide) rfl (fun ls hl => ?_)
                  refine lv_goto (tgt := 13) hx hb dX3_hearRuler_214 (by decide) ?_
                  exact ih13 y211_l4 x59 _ _ _ _ hy211_l4 (In.mono hb60 (by decide) (by decide)) hP hD hS hT hfr (lv_sub hl [1, 2, 3, 4, 5, 0] rfl) (msu et61 (by decide) hmz13)
                have hJ166 : ∀ (H : Heap) (locs : List Loc) (ls : Array Slot), va_P g.1 vwCl (va_pl L f_156) H → va_D A (va_pl L f_156) → va_S A s.heap H locs → lv_has ls 10 [(0, .ref (cr ad j 0)), (1, .ref (ad 7)), (2, .int z2), (3, .int z3), (4, .int y13_l4), (5, .int y13_l5), (6, .int r41), (7, .int y68_s0), (8, .int y90_s0), (9, .int y118_s0)] → W p l e rm_X3_hearRuler_ot s m [.ref (cr ad j 0), .ref (ad 7), .int z2, .int z3].toArray below meth c H locs 0 0 (MQ below (va_Qv (po_X3_hearRuler_ot g ad th L f j z2 z3) (PstB g A) A) [.ref (cr ad j 0), .ref (ad 7), .int z2, .int z3].toArray s rm_X3_hearRuler_ot.cells rm_X3_hearRuler_ot.slots A) (F0 m 166 ls []) := by
                  intro H locs ls hP hD hS hl
                  refine lv_iload hx hb dX3_hearRuler_166 (lv_at hl 4 rfl) ?_
                  refine lv_iload hx hb dX3_hearRuler_168 (lv_at hl 7 rfl) ?_
                  refine lv_iload hx hb dX3_hearRuler_170 (lv_at hl 5 rfl) ?_
                  refine lv_ishl hx hb dX3_hearRuler_172 ?_
                  refine lv_topi (fun x62 ex62 => ?_)
                  have hb63 : In x62 0 3840 := ex62 ▸ In.shl hy68_s0 hb28 (by decide) (by decide) (by decide) (by decide) (by decide) (by decide)
                  refine lv_ior hx hb dX3_hearRuler_173 ?_
                  refine lv_topi (fun x64 ex64 => ?_)
                  refine lv_istore (lv' := [(4, .int x64), (0, .ref (cr ad j 0)), (1, .ref (ad 7)), (2, .int z2), (3, .int z3), (5, .int y13_l5), (6, .int r41), (7, .int y68_s0), (8, .int y90_s0), (9, .int y118_s0)]) hx hb dX3_hearRuler_174 hl (by decide) rfl (fun ls hl => ?_)
                  refine lv_goto (tgt := 211) hx hb dX3_hearRuler_176 (by decide) ?_
                  exact hJ211 x64 _ _ _ _ (In.full x64) hP hD hS hT hfr hf55 hf56 (lv_sub hl [1, 2, 3, 4, 0, 5, 6, 7, 8, 9] rfl)
                refine lv_if_ne (tgt := 166) hx hb dX3_hearRuler_158 (by decide) (fun c65 => ?_) (fun c65 => ?_)
                ·
                  have cc66 : y90_s0.toInt ≠ (0 : Int32).toInt := i32_ne c65
                  have hb67 : In y90_s0 1 1 := In.ne1 hy90_s0 (⟨by decide, by decide⟩ : In 0 0 0) cc66 (by omega) (by omega)
                  exact hJ166 _ _ _ hP hD hS (lv_sub hl [0, 1, 2, 3, 4, 5, 6, 7, 8, 9] rfl)
                ·
                  have cc68 : y90_s0.toInt = (0 : Int32).toInt := congrArg Int32.toInt c65
                  have hb69 : In y90_s0 0 0 := In.eq1 hy90_s0 (⟨by decide, by decide⟩ : In 0 0 0) cc68 (by omega) (by omega)
                  refine lv_iload hx hb dX3_hearRuler_161 (lv_at hl 9 rfl) ?_
                  refine lv_if_eq (tgt := 179) hx hb dX3_hearRuler_163 (by decide) (fun c70 => ?_) (fun c70 => ?_)
                  ·
                    have cc71 : y118_s0.toInt = (0 : Int32).toInt := congrArg Int32.toInt c70
                    have hb72 : In y118_s0 0 0 := In.eq1 hy118_s0 (⟨by decide, by decide⟩ : In 0 0 0) cc71 (by omega) (by omega)
                    refine lv_aload_n hx hb dX3_hearRuler_179 rfl (lv_at hl 0 rfl) ?_
                    obtain ⟨v0_73, v1_73, v2_73, v3_73, v4_73, v5_73, v6_73, v7_73, v8_73, hf74, hv1_73, hg1_73, hv2_73, hg2_73, hv6_73⟩ := hT.2.1 j hj 0 (by decide)
                    refine pl_get (v := .ref (cr ad j 8)) hx hb hts (fun w h => mT (inX3 w h)) hown hG.1 hP (hst.c hj (by decide)) hf74 rfl 16 (by decide) (hts _ (mT wg_362)) (fun _ h => h) rfl dX3_hearRuler_180 ?_
                    refine lv_iload_n hx hb dX3_hearRuler_183 rfl (lv_at hl 2 rfl) ?_
                    refine lv_dup2_11 hx hb dX3_hearRuler_184 rfl rfl ?_
                    obtain ⟨rw75, hf76⟩ := hT.2.1 j hj 8 (by decide)
                    have hin77 : vp_in z2 6 := In.inb hz2 (by decide) (by decide)
                    refine pl_iald hx hb hG.1 hP (hst.c hj (by decide)) 0 hf76 rfl hin77 dX3_hearRuler_185 ?_
                    refine lv_topi (fun x78 ex78 => ?_)
                    refine lv_iconst (v := 1) hx hb dX3_hearRuler_186 (by decide) ?_
                    refine lv_iload hx hb dX3_hearRuler_187 (lv_at hl 5 rfl) ?_
                    refine lv_ishl hx hb dX3_hearRuler_189 ?_
                    refine lv_topi (fun x79 ex79 => ?_)
                    have hb80 : In x79 1 256 := ex79 ▸ In.shl (⟨by decide, by decide⟩ : In 1 1 1) hb28 (by decide) (by decide) (by decide) (by decide) (by decide) (by decide)
                    refine lv_ior hx hb dX3_hearRuler_190 ?_
                    refine lv_topi (fun x81 ex81 => ?_)
                    refine pl_iastE hx hb hG.1 hP hD hS (hst.c hj (by decide)) 0 hf76 rfl (In.inb hz2 (by decide) (by decide)) dX3_hearRuler_191 (fun H locs f82 r85 er85 hf83 ho84 hP hD hS => ?_)
                    have hf86 := (ho84 (ad 7) (hst.ne (by omega) (by omega) (by omega))).trans hf55
                    have hf87 := (ho84 (cr ad j 7) (hst.ne (by omega) (by omega) (by omega))).trans hf56
                    have hf88 := (ho84 (cr ad j 0) (hst.ne (by omega) (by omega) (by omega))).trans hf74
                    have hfr : (∀ b, b ≠ (cr ad j 0) → b ≠ (cr ad j 6) → b ≠ (cr ad j 8) → f82 b = f b) := fun b z0_ z1_ z2_ => (ho84 b z2_).trans (hfr b z0_ z1_ z2_)
                    refine lv_iload hx hb dX3_hearRuler_192 (lv_at hl 4 rfl) ?_
                    refine lv_iload hx hb dX3_hearRuler_194 (lv_at hl 6 rfl) ?_
                    refine lv_iconst (v := 1) hx hb dX3_hearRuler_196 (by decide) ?_
                    have hT := TI.updC hT hst hj (k := 8) (by decide) hf83 ho84 ⟨r85, rfl⟩
                    have hJ208 : ∀ (y208_s0 : Int32) (H : Heap) (locs : List Loc) (ls : Array Slot), In y208_s0 0 399 → va_P g.1 vwCl (va_pl L f82) H → va_D A (va_pl L f82) → va_S A s.heap H locs → lv_has ls 10 [(0, .ref (cr ad j 0)), (1, .ref (ad 7)), (2, .int z2), (3, .int z3), (4, .int y13_l4), (5, .int y13_l5), (6, .int r41), (7, .int y68_s0), (8, .int y90_s0), (9, .int y118_s0)] → W p l e rm_X3_hearRuler_ot s m [.ref (cr ad j 0), .ref (ad 7), .int z2, .int z3].toArray below meth c H locs 0 0 (MQ below (va_Qv (po_X3_hearRuler_ot g ad th L f j z2 z3) (PstB g A) A) [.ref (cr ad j 0), .ref (ad 7), .int z2, .int z3].toArray s rm_X3_hearRuler_ot.cells rm_X3_hearRuler_ot.slots A) (F0 m 208 ls [.int y208_s0, .int y13_l4]) := by
                      intro y208_s0 H locs ls hy208_s0 hP hD hS hl
                      refine lv_ior hx hb dX3_hearRuler_208 ?_
                      refine lv_topi (fun x89 ex89 => ?_)
                      refine lv_istore (lv' := [(4, .int x89), (0, .ref (cr ad j 0)), (1, .ref (ad 7)), (2, .int z2), (3, .int z3), (5, .int y13_l5), (6, .int r41), (7, .int y68_s0), (8, .int y90_s0), (9, .int y118_s0)]) hx hb dX3_hearRuler_209 hl (by decide) rfl (fun ls hl => ?_)
                      exact hJ211 x89 _ _ _ _ (In.full x89) hP hD hS hT hfr hf86 hf87 (lv_sub hl [1, 2, 3, 4, 0, 5, 6, 7, 8, 9] rfl)
                    refine lv_icmp_ne (tgt := 207) hx hb dX3_hearRuler_197 (by decide) (fun c90 => ?_) (fun c90 => ?_)
                    ·
                      refine lv_iconst (v := 0) hx hb dX3_hearRuler_207 (by decide) ?_
                      exact hJ208 0 _ _ _ (⟨by decide, by decide⟩ : In 0 0 399) hP hD hS (lv_sub hl [0, 1, 2, 3, 4, 5, 6, 7, 8, 9] rfl)
                    ·
                      have cc91 : r41.toInt = (1 : Int32).toInt := congrArg Int32.toInt c90
                      have hb92 : In r41 1 1 := In.eq1 eL45R (⟨by decide, by decide⟩ : In 1 1 1) cc91 (by omega) (by omega)
                      refine lv_iconst (v := 1) hx hb dX3_hearRuler_200 (by decide) ?_
                      refine lv_iload hx hb dX3_hearRuler_201 (lv_at hl 5 rfl) ?_
                      refine lv_ishl hx hb dX3_hearRuler_203 ?_
                      refine lv_topi (fun x93 ex93 => ?_)
                      obtain rfl : x79 = x93 := ex79.trans ex93.symm
                      refine lv_goto (tgt := 208) hx hb dX3_hearRuler_204 (by decide) ?_
                      exact hJ208 x79 _ _ _ (In.mono hb80 (by decide) (by decide)) hP hD hS (lv_sub hl [0, 1, 2, 3, 4, 5, 6, 7, 8, 9] rfl)
                  ·
                    have cc94 : y118_s0.toInt ≠ (0 : Int32).toInt := i32_ne c70
                    have hb95 : In y118_s0 1 1 := In.ne1 hy118_s0 (⟨by decide, by decide⟩ : In 0 0 0) cc94 (by omega) (by omega)
                    exact hJ166 _ _ _ hP hD hS (lv_sub hl [0, 1, 2, 3, 4, 5, 6, 7, 8, 9] rfl)
              refine lv_if_eq (tgt := 156) hx hb dX3_hearRuler_122 (by decide) (fun c96 => ?_) (fun c96 => ?_)
              ·
                have cc97 : y90_s0.toInt = (0 : Int32).toInt := congrArg Int32.toInt c96
                have hb98 : In y90_s0 0 0 := In.eq1 hy90_s0 (⟨by decide, by decide⟩ : In 0 0 0) cc97 (by omega) (by omega)
                exact hJ156 _ _ _ _ hP hD hS hT hfr hf11 hf47 (lv_sub hl [1, 2, 3, 4, 5, 6, 7, 8, 9, 0] rfl)
              ·
                have cc99 : y90_s0.toInt ≠ (0 : Int32).toInt := i32_ne c96
                have hb100 : In y90_s0 1 1 := In.ne1 hy90_s0 (⟨by decide, by decide⟩ : In 0 0 0) cc99 (by omega) (by omega)
                refine lv_iload hx hb dX3_hearRuler_125 (lv_at hl 7 rfl) ?_
                refine lv_iload hx hb dX3_hearRuler_127 (lv_at hl 8 rfl) ?_
                refine lv_icmp_eq (tgt := 156) hx hb dX3_hearRuler_129 (by decide) (fun c101 => ?_) (fun c101 => ?_)
                ·
                  exact hJ156 _ _ _ _ hP hD hS hT hfr hf11 hf47 (lv_sub hl [1, 2, 3, 4, 5, 6, 7, 8, 9, 0] rfl)
                ·
                  refine lv_iload hx hb dX3_hearRuler_132 (lv_at hl 6 rfl) ?_
                  refine lv_iload_n hx hb dX3_hearRuler_134 rfl (lv_at hl 4 rfl) ?_
                  refine lv_icmp_eq (tgt := 156) hx hb dX3_hearRuler_135 (by decide) (fun c102 => ?_) (fun c102 => ?_)
                  ·
                    exact hJ156 _ _ _ _ hP hD hS hT hfr hf11 hf47 (lv_sub hl [1, 2, 3, 4, 5, 6, 7, 8, 9, 0] rfl)
                  ·
                    refine lv_aload_n hx hb dX3_hearRuler_138 rfl (lv_at hl 1 rfl) ?_
                    refine lv_dup hx hb dX3_hearRuler_139 rfl ?_
                    refine pl_get (v := .long v7_39) hx hb hts (fun w h => mT (inX3 w h)) hown hG.1 hP (hst.c hj (by decide)) hf40 rfl 7 (by decide) (hts _ (mT wg_350)) (fun _ h => h) rfl dX3_hearRuler_140 ?_
                    refine lv_lconst (v := 1) hx hb dX3_hearRuler_143 (by decide) ?_
                    refine lv_iload_n hx hb dX3_hearRuler_144 rfl (lv_at hl 4 rfl) ?_
                    refine lv_bipush (v := 9) hx hb dX3_hearRuler_145 (by decide) ?_
                    refine lv_imul hx hb dX3_hearRuler_147 ?_
                    refine lv_topi (fun x103 ex103 => ?_)
                    have hb104 : In x103 0 72 := ex103 ▸ In.mul hz3 (⟨by decide, by decide⟩ : In 9 9 9) (by decide) (by decide) (by decide) (by decide) (by decide)
                    refine lv_iload hx hb dX3_hearRuler_148 (lv_at hl 6 rfl) ?_
                    refine lv_iadd hx hb dX3_hearRuler_150 ?_
                    refine lv_topi (fun x105 ex105 => ?_)
                    have hb106 : In x105 0 80 := ex105 ▸ In.add hb104 hb28 (by decide) (by decide) (by decide) (by decide)
                    have et107 : x105.toInt = x103.toInt + y13_l5.toInt := In.add2e ex105 hb104 hb28 (by decide) (by decide)
                    refine lv_lshl hx hb dX3_hearRuler_151 rfl ?_
                    refine lv_topl (fun x108 ex108 => ?_)
                    refine lv_lor hx hb dX3_hearRuler_152 ?_
                    refine lv_topl (fun x109 ex109 => ?_)
                    refine pl_put (ty := .long) (v := .long x109) (fs' := [.int v0_39, .int v1_39, .int v2_39, .int v3_39, .int v4_39, .int v5_39, .int v6_39, .long x109, .long v8_39, .ref (cr ad j 1), .ref (cr ad j 2), .ref (cr ad j 3), .ref (cr ad j 4), .ref (cr ad j 5), .ref (cr ad j 6), .ref (cr ad j 7), .ref (cr ad j 8), .ref (cr ad j 9)]) hx hb hts (fun w h => mT (inX3 w h)) tyX3 tyX3_ok nmX3 hown hG.1 hP hD hS (hst.c hj (by decide)) hf40 rfl 7 (by decide) (hts _ (mT wg_350)) (fun _ h => h) rfl (by decide +kernel) (rfl) (rfl) (Nat.le_of_ble_eq_true rfl) rfl dX3_hearRuler_153 (fun H locs f110 hf111 ho112 hP hD hS => ?_)
                    have hf113 := (ho112 (ad 7) (hst.ne (by omega) (by omega) (by omega))).trans hf11
                    have hf114 := (ho112 (cr ad j 7) (hst.ne (by omega) (by omega) (by omega))).trans hf47
                    have hfr : (∀ b, b ≠ (cr ad j 0) → b ≠ (cr ad j 6) → b ≠ (cr ad j 8) → f110 b = f b) := fun b z0_ z1_ z2_ => (ho112 b z0_).trans (hfr b z0_ z1_ z2_)
                    have hT := TI.updC hT hst hj (k := 0) (by decide) hf111 ho112 ⟨v0_39, v1_39, v2_39, v3_39, v4_39, v5_39, v6_39, x109, v8_39, rfl, hv1_39, hg1_39, hv2_39, hg2_39, hv6_39⟩
                    exact hJ156 _ _ _ _ hP hD hS hT hfr hf113 hf114 (lv_sub hl [1, 2, 3, 4, 5, 6, 7, 8, 9, 0] rfl)
            have hJ117 : ∀ (H : Heap) (locs : List Loc) (ls : Array Slot), va_P g.1 vwCl (va_pl L f_13) H → va_D A (va_pl L f_13) → va_S A s.heap H locs → lv_has ls 10 [(0, .ref (cr ad j 0)), (1, .ref (ad 7)), (2, .int z2), (3, .int z3), (4, .int y13_l4), (5, .int y13_l5), (6, .int r41), (7, .int y68_s0), (8, .int y90_s0)] → W p l e rm_X3_hearRuler_ot s m [.ref (cr ad j 0), .ref (ad 7), .int z2, .int z3].toArray below meth c H locs 0 0 (MQ below (va_Qv (po_X3_hearRuler_ot g ad th L f j z2 z3) (PstB g A) A) [.ref (cr ad j 0), .ref (ad 7), .int z2, .int z3].toArray s rm_X3_hearRuler_ot.cells rm_X3_hearRuler_ot.slots A) (F0 m 117 ls []) := by
              intro H locs ls hP hD hS hl
              refine lv_iconst (v := 0) hx hb dX3_hearRuler_117 (by decide) ?_
              exact hJ118 0 _ _ _ (⟨by decide, by decide⟩ : In 0 0 1) hP hD hS (lv_sub hl [0, 1, 2, 3, 4, 5, 6, 7, 8] rfl)
            refine lv_if_eq (tgt := 117) hx hb dX3_hearRuler_96 (by decide) (fun c115 => ?_) (fun c115 => ?_)
            ·
              have cc116 : v6_10.toInt = (0 : Int32).toInt := congrArg Int32.toInt c115
              have hb117 : In v6_10 0 0 := In.eq1 hv6_10 (⟨by decide, by decide⟩ : In 0 0 0) cc116 (by omega) (by omega)
              exact hJ117 _ _ _ hP hD hS (lv_sub hl [1, 2, 3, 4, 5, 6, 7, 8, 0] rfl)
            ·
              have cc118 : v6_10.toInt ≠ (0 : Int32).toInt := i32_ne c115
              have hb119 : In v6_10 1 1 := In.ne1 hv6_10 (⟨by decide, by decide⟩ : In 0 0 0) cc118 (by omega) (by omega)
              refine lv_aload_n hx hb dX3_hearRuler_99 rfl (lv_at hl 1 rfl) ?_
              refine lv_iload_n hx hb dX3_hearRuler_100 rfl (lv_at hl 4 rfl) ?_
              refine call_i (run_V (rm := rm_X3_waryOf) hx hb hml hown hts (s_X3_waryOf l g ad th _ _ _ j z3 hst hT hj) cV_X3_waryOf wg_850 ⟨Nat.le_of_ble_eq_true rfl, Nat.le_of_ble_eq_true rfl⟩ hG hE hA hP hD hS (hst.c hj (by decide)) hf40 rfl rfl hl.1 (As := [.int z3]) (rest := []) rfl (Nat.le_of_ble_eq_true rfl) dX3_hearRuler_101 ⟨Nat.le_of_ble_eq_true rfl, Nat.le_of_ble_eq_true rfl⟩) hA hD hS (fun r120 L121 f122 H locs hp123 hP hD hS => ?_)
              obtain ⟨eL124L, eL124T, eL124R⟩ := hp123
              have eL124L : L121 = L := eL124L
              have eL124T : f122 = f_13 := eL124T
              rw [eL124L, eL124T] at hP hD
              have eL124R : In r120 0 511 := eL124R
              refine lv_iload hx hb dX3_hearRuler_104 (lv_at hl 6 rfl) ?_
              refine call_i (run_SN (rm := rm_X10_bit) hx hb hml hown hts (s_X10_bit l g ad th _ _ _ r120 y13_l5 hst hT ) cS_X10_bit wn_794 ⟨Nat.le_of_ble_eq_true rfl, Nat.le_of_ble_eq_true rfl⟩ hG hE hA hP hD hS rfl hl.1 (As := [.int r120, .int y13_l5]) (rest := []) rfl (Nat.le_of_ble_eq_true rfl) dX3_hearRuler_106 ⟨Nat.le_of_ble_eq_true rfl, Nat.le_of_ble_eq_true rfl⟩) hA hD hS (fun r125 L126 f127 H locs hp128 hP hD hS => ?_)
              obtain ⟨eL129L, eL129T, eL129R, eL129X0⟩ := hp128
              have eL129L : L126 = L := eL129L
              have eL129T : f127 = f_13 := eL129T
              rw [eL129L, eL129T] at hP hD
              have eL129R : In r125 0 1 := eL129R
              refine lv_iconst (v := 1) hx hb dX3_hearRuler_109 (by decide) ?_
              refine lv_icmp_ne (tgt := 117) hx hb dX3_hearRuler_110 (by decide) (fun c130 => ?_) (fun c130 => ?_)
              ·
                have cc131 : r125.toInt ≠ (1 : Int32).toInt := i32_ne c130
                have hb132 : In r125 0 0 := In.ne1 eL129R (⟨by decide, by decide⟩ : In 1 1 1) cc131 (by omega) (by omega)
                exact hJ117 _ _ _ hP hD hS (lv_sub hl [1, 2, 3, 4, 5, 6, 7, 8, 0] rfl)
              ·
                have cc133 : r125.toInt = (1 : Int32).toInt := congrArg Int32.toInt c130
                have hb134 : In r125 1 1 := In.eq1 eL129R (⟨by decide, by decide⟩ : In 1 1 1) cc133 (by omega) (by omega)
                refine lv_iconst (v := 1) hx hb dX3_hearRuler_113 (by decide) ?_
                refine lv_goto (tgt := 118) hx hb dX3_hearRuler_114 (by decide) ?_
                exact hJ118 1 _ _ _ (⟨by decide, by decide⟩ : In 1 0 1) hP hD hS (lv_sub hl [1, 2, 3, 4, 5, 6, 7, 8, 0] rfl)
          refine lv_icmp_ne (tgt := 89) hx hb dX3_hearRuler_82 (by decide) (fun c135 => ?_) (fun c135 => ?_)
          ·
            have cc136 : r50.toInt ≠ (1 : Int32).toInt := i32_ne c135
            have hb137 : In r50 0 0 := In.ne1 eL54R (⟨by decide, by decide⟩ : In 1 1 1) cc136 (by omega) (by omega)
            refine lv_iconst (v := 0) hx hb dX3_hearRuler_89 (by decide) ?_
            exact hJ90 0 _ _ _ (⟨by decide, by decide⟩ : In 0 0 1) hP hD hS (lv_sub hl [1, 2, 3, 4, 5, 6, 7, 0] rfl)
          ·
            have cc138 : r50.toInt = (1 : Int32).toInt := congrArg Int32.toInt c135
            have hb139 : In r50 1 1 := In.eq1 eL54R (⟨by decide, by decide⟩ : In 1 1 1) cc138 (by omega) (by omega)
            refine lv_iconst (v := 1) hx hb dX3_hearRuler_85 (by decide) ?_
            refine lv_goto (tgt := 90) hx hb dX3_hearRuler_86 (by decide) ?_
            exact hJ90 1 _ _ _ (⟨by decide, by decide⟩ : In 1 0 1) hP hD hS (lv_sub hl [1, 2, 3, 4, 5, 6, 7, 0] rfl)
        refine lv_if_ne (tgt := 57) hx hb dX3_hearRuler_42 (by decide) (fun c140 => ?_) (fun c140 => ?_)
        ·
          have cc141 : v0_10.toInt ≠ (0 : Int32).toInt := i32_ne c140
          have hb142 : In v0_10 1 1 := In.ne1 hv0_10 (⟨by decide, by decide⟩ : In 0 0 0) cc141 (by omega) (by omega)
          refine lv_aload_n hx hb dX3_hearRuler_57 rfl (lv_at hl 1 rfl) ?_
          refine pl_get (v := .ref (cr ad j 5)) hx hb hts (fun w h => mT (inX3 w h)) hown hG.1 hP (hst.c hj (by decide)) hf40 rfl 13 (by decide) (hts _ (mT wg_356)) (fun _ h => h) rfl dX3_hearRuler_58 ?_
          refine lv_iload_n hx hb dX3_hearRuler_61 rfl (lv_at hl 3 rfl) ?_
          obtain ⟨rw143, hf144⟩ := hT.2.1 j hj 5 (by decide)
          have hin145 : vp_in z2 6 := In.inb hz2 (by decide) (by decide)
          refine pl_lald hx hb hG.1 hP (hst.c hj (by decide)) 1 hf144 rfl hin145 dX3_hearRuler_62 ?_
          refine lv_topl (fun x146 ex146 => ?_)
          refine lv_iload hx hb dX3_hearRuler_63 (lv_at hl 6 rfl) ?_
          refine call_i (run_SN (rm := rm_X10_nibble) hx hb hml hown hts (s_X10_nibble l g ad th _ _ _ x146 y13_l5 hst hT ) cS_X10_nibble wn_795 ⟨Nat.le_of_ble_eq_true rfl, Nat.le_of_ble_eq_true rfl⟩ hG hE hA hP hD hS rfl hl.1 (As := [.long x146, .int y13_l5]) (rest := []) rfl (Nat.le_of_ble_eq_true rfl) dX3_hearRuler_65 ⟨Nat.le_of_ble_eq_true rfl, Nat.le_of_ble_eq_true rfl⟩) hA hD hS (fun r147 L148 f149 H locs hp150 hP hD hS => ?_)
          obtain ⟨eL151L, eL151T, eL151R⟩ := hp150
          have eL151L : L148 = L := eL151L
          have eL151T : f149 = f_13 := eL151T
          rw [eL151L, eL151T] at hP hD
          have eL151R : In r147 0 15 := eL151R
          exact hJ68 r147 _ _ _ eL151R hP hD hS (lv_sub hl [1, 2, 3, 4, 5, 6, 0] rfl)
        ·
          have cc152 : v0_10.toInt = (0 : Int32).toInt := congrArg Int32.toInt c140
          have hb153 : In v0_10 0 0 := In.eq1 hv0_10 (⟨by decide, by decide⟩ : In 0 0 0) cc152 (by omega) (by omega)
          refine lv_aload_n hx hb dX3_hearRuler_45 rfl (lv_at hl 1 rfl) ?_
          refine pl_get (v := .int v3_39) hx hb hts (fun w h => mT (inX3 w h)) hown hG.1 hP (hst.c hj (by decide)) hf40 rfl 3 (by decide) (hts _ (mT wg_342)) (fun _ h => h) rfl dX3_hearRuler_46 ?_
          refine lv_iload hx hb dX3_hearRuler_49 (lv_at hl 6 rfl) ?_
          refine call_i (run_SN (rm := rm_X10_bit) hx hb hml hown hts (s_X10_bit l g ad th _ _ _ v3_39 y13_l5 hst hT ) cS_X10_bit wn_794 ⟨Nat.le_of_ble_eq_true rfl, Nat.le_of_ble_eq_true rfl⟩ hG hE hA hP hD hS rfl hl.1 (As := [.int v3_39, .int y13_l5]) (rest := []) rfl (Nat.le_of_ble_eq_true rfl) dX3_hearRuler_51 ⟨Nat.le_of_ble_eq_true rfl, Nat.le_of_ble_eq_true rfl⟩) hA hD hS (fun r154 L155 f156 H locs hp157 hP hD hS => ?_)
          obtain ⟨eL158L, eL158T, eL158R, eL158X0⟩ := hp157
          have eL158L : L155 = L := eL158L
          have eL158T : f156 = f_13 := eL158T
          rw [eL158L, eL158T] at hP hD
          have eL158R : In r154 0 1 := eL158R
          refine lv_goto (tgt := 68) hx hb dX3_hearRuler_54 (by decide) ?_
          exact hJ68 r154 _ _ _ (In.mono eL158R (by decide) (by decide)) hP hD hS (lv_sub hl [1, 2, 3, 4, 5, 6, 0] rfl)
  exact hJ13 ((9 - (0 : Int32).toInt).toNat + 1) 0 0 _ _ _ _ (⟨by decide, by decide⟩ : In 0 (-2147483648) 2147483647) (⟨by decide, by decide⟩ : In 0 0 9) hP hD hS hT hfr (lv_sub hl [2, 3, 4, 5, 1, 0] rfl) (msI _)

abbrev rm_X3_trues_ot : Room := { frames := 1, cells := 0, slots := 0, locals := 20 }
abbrev po_X3_trues_ot (g : GG) (ad : Nat → Nat) (th : Nat → Int) (L : List Nat) (f : HP) (j : Nat) : Int32 → (List Nat × HP) → Prop := fun r u => u.1 = L ∧ u.2 = f ∧ In r 0 511
set_option maxHeartbeats 4000000 in
set_option maxRecDepth 100000 in
theorem s_X3_trues_ot (l : Launch) (g : GG) (ad : Nat → Nat) (th : Nat → Int) (L : List Nat) (f : HP) (sz : Nat) (j : Nat) (hst : ST ad L) (hT : TI g ad th f) (hj : j < 23) : MtI l g yX3_trues cX3_trues 2 (some .int) rm_X3_trues_ot [.ref (cr ad j 0), .ref (ad 7)] L f sz (po_X3_trues_ot g ad th L f j) := by
  refine MtI.of (by decide +kernel) (Nat.le_of_ble_eq_true rfl) ?_
  intro p e s m below meth c A hEn hP hD hS ls hl
  obtain ⟨hx, hb, hr, hml, hown, hlocks, hts, hG, hA, hE, hnm⟩ := hEn
  have hown : s.vm.findClass "RulerWord$Course" = some m.cls := hown
  have hl : lv_has ls 2 [(0, .ref (cr ad j 0)), (1, .ref (ad 7))] := hl
  refine lv_aload_n hx hb dX3_trues_0 rfl (lv_at hl 1 rfl) ?_
  obtain ⟨v0_1, v1_1, v2_1, v3_1, v4_1, v5_1, v6_1, v7_1, hf2, hv0_1, hg0_1, hv1_1, hv2_1, hv3_1, hv5_1, hv6_1⟩ := hT.1 7 (by decide)
  refine call_i (run_VN (rm := rm_X2_everybody_ot) hx hb hml hown hts (s_X2_everybody_ot l g ad th _ _ _  hst hT ) cV_X2_everybody wn_980 ⟨Nat.le_of_ble_eq_true rfl, Nat.le_of_ble_eq_true rfl⟩ hG hE hA hP hD hS (hst.1 7 (by decide)) hf2 rfl rfl hl.1 (As := []) (rest := []) rfl (Nat.le_of_ble_eq_true rfl) dX3_trues_1 ⟨Nat.le_of_ble_eq_true rfl, Nat.le_of_ble_eq_true rfl⟩) hA hD hS (fun r3 L4 f5 H locs hp6 hP hD hS => ?_)
  obtain ⟨eL7L, eL7T, eL7R⟩ := hp6
  have eL7L : L4 = L := eL7L
  have eL7T : f5 = f := eL7T
  rw [eL7L, eL7T] at hP hD
  have eL7R : In r3 0 511 := eL7R
  refine lv_aload_n hx hb dX3_trues_4 rfl (lv_at hl 0 rfl) ?_
  obtain ⟨v0_8, v1_8, v2_8, v3_8, v4_8, v5_8, v6_8, v7_8, v8_8, hf9, hv1_8, hg1_8, hv2_8, hg2_8, hv6_8⟩ := hT.2.1 j hj 0 (by decide)
  refine pl_get (v := .int v1_8) hx hb hts (fun w h => mT (inX3 w h)) hown hG.1 hP (hst.c hj (by decide)) hf9 rfl 1 (by decide) (hts _ (mT wg_338)) (fun _ h => h) rfl dX3_trues_5 ?_
  refine lv_iconst (v := (-1)) hx hb dX3_trues_8 (by decide) ?_
  refine lv_ixor hx hb dX3_trues_9 ?_
  refine lv_topi (fun x10 ex10 => ?_)
  refine lv_iand hx hb dX3_trues_10 ?_
  refine lv_topi (fun x11 ex11 => ?_)
  have hb12 : In x11 0 511 := ex11 ▸ In.andl eL7R (by decide)
  exact ret_i (ty := .int) hx hb hr hlocks (rfl) hP hD hS (Nat.le_of_ble_eq_true rfl) (Nat.le_of_ble_eq_true rfl) (⟨rfl, rfl, hb12⟩) dX3_trues_11

abbrev rm_X3_alike_ot : Room := { frames := 2, cells := 0, slots := 0, locals := 41 }
abbrev po_X3_alike_ot (g : GG) (ad : Nat → Nat) (th : Nat → Int) (L : List Nat) (f : HP) (j : Nat) (z2 : Int32) : Int32 → (List Nat × HP) → Prop := fun r u => u.1 = L ∧ u.2 = f ∧ In r 0 1
set_option maxHeartbeats 4000000 in
set_option maxRecDepth 100000 in
theorem s_X3_alike_ot (l : Launch) (g : GG) (ad : Nat → Nat) (th : Nat → Int) (L : List Nat) (f : HP) (sz : Nat) (j : Nat) (z2 : Int32) (hst : ST ad L) (hT : TI g ad th f) (hj : j < 23) : MtI l g yX3_alike cX3_alike 4 (some .boolean) rm_X3_alike_ot [.ref (cr ad j 0), .ref (ad 7), .int z2] L f sz (po_X3_alike_ot g ad th L f j z2) := by
  refine MtI.of (by decide +kernel) (Nat.le_of_ble_eq_true rfl) ?_
  intro p e s m below meth c A hEn hP hD hS ls hl
  obtain ⟨hx, hb, hr, hml, hown, hlocks, hts, hG, hA, hE, hnm⟩ := hEn
  have hown : s.vm.findClass "RulerWord$Course" = some m.cls := hown
  have hl : lv_has ls 4 [(0, .ref (cr ad j 0)), (1, .ref (ad 7)), (2, .int z2)] := hl
  refine lv_aload_n hx hb dX3_alike_0 rfl (lv_at hl 0 rfl) ?_
  refine lv_aload_n hx hb dX3_alike_1 rfl (lv_at hl 1 rfl) ?_
  obtain ⟨v0_1, v1_1, v2_1, v3_1, v4_1, v5_1, v6_1, v7_1, v8_1, hf2, hv1_1, hg1_1, hv2_1, hg2_1, hv6_1⟩ := hT.2.1 j hj 0 (by decide)
  refine call_i (run_V (rm := rm_X3_trues_ot) hx hb hml hown hts (s_X3_trues_ot l g ad th _ _ _ j hst hT hj) cV_X3_trues wg_976 ⟨Nat.le_of_ble_eq_true rfl, Nat.le_of_ble_eq_true rfl⟩ hG hE hA hP hD hS (hst.c hj (by decide)) hf2 rfl rfl hl.1 (As := [.ref (ad 7)]) (rest := []) rfl (Nat.le_of_ble_eq_true rfl) dX3_alike_2 ⟨Nat.le_of_ble_eq_true rfl, Nat.le_of_ble_eq_true rfl⟩) hA hD hS (fun r3 L4 f5 H locs hp6 hP hD hS => ?_)
  obtain ⟨eL7L, eL7T, eL7R⟩ := hp6
  have eL7L : L4 = L := eL7L
  have eL7T : f5 = f := eL7T
  rw [eL7L, eL7T] at hP hD
  have eL7R : In r3 0 511 := eL7R
  refine lv_istore_n (lv' := [(3, .int r3), (0, .ref (cr ad j 0)), (1, .ref (ad 7)), (2, .int z2)]) hx hb dX3_alike_5 rfl hl (by decide) rfl (fun ls hl => ?_)
  refine lv_iload_n hx hb dX3_alike_6 rfl (lv_at hl 3 rfl) ?_
  refine lv_iload_n hx hb dX3_alike_7 rfl (lv_at hl 0 rfl) ?_
  refine lv_iand hx hb dX3_alike_8 ?_
  refine lv_topi (fun x8 ex8 => ?_)
  have hb9 : In x8 0 511 := ex8 ▸ In.andr eL7R (by decide)
  have hJ19 : ∀ (H : Heap) (locs : List Loc) (ls : Array Slot), va_P g.1 vwCl (va_pl L f) H → va_D A (va_pl L f) → va_S A s.heap H locs → lv_has ls 4 [(0, .ref (cr ad j 0)), (1, .ref (ad 7)), (2, .int z2), (3, .int r3)] → W p l e rm_X3_alike_ot s m [.ref (cr ad j 0), .ref (ad 7), .int z2].toArray below meth c H locs 0 0 (MQ below (va_Qi (po_X3_alike_ot g ad th L f j z2) (PstB g A) A) [.ref (cr ad j 0), .ref (ad 7), .int z2].toArray s rm_X3_alike_ot.cells rm_X3_alike_ot.slots A) (F0 m 19 ls []) := by
    intro H locs ls hP hD hS hl
    refine lv_iconst (v := 1) hx hb dX3_alike_19 (by decide) ?_
    refine lv_goto (tgt := 24) hx hb dX3_alike_20 (by decide) ?_
    exact ret_i (ty := .boolean) hx hb hr hlocks (rfl) hP hD hS (Nat.le_of_ble_eq_true rfl) (Nat.le_of_ble_eq_true rfl) (⟨rfl, rfl, (⟨by decide, by decide⟩ : In 1 0 1)⟩) dX3_alike_24
  refine lv_if_eq (tgt := 19) hx hb dX3_alike_9 (by decide) (fun c10 => ?_) (fun c10 => ?_)
  ·
    have cc11 : x8.toInt = (0 : Int32).toInt := congrArg Int32.toInt c10
    have hb12 : In x8 0 0 := In.eq1 hb9 (⟨by decide, by decide⟩ : In 0 0 0) cc11 (by omega) (by omega)
    exact hJ19 _ _ _ hP hD hS (lv_sub hl [1, 2, 3, 0] rfl)
  ·
    have cc13 : x8.toInt ≠ (0 : Int32).toInt := i32_ne c10
    have hb14 : In x8 1 511 := In.ne1 hb9 (⟨by decide, by decide⟩ : In 0 0 0) cc13 (by omega) (by omega)
    refine lv_iload_n hx hb dX3_alike_12 rfl (lv_at hl 3 rfl) ?_
    refine lv_iload_n hx hb dX3_alike_13 rfl (lv_at hl 0 rfl) ?_
    refine lv_iand hx hb dX3_alike_14 ?_
    refine lv_topi (fun x15 ex15 => ?_)
    obtain rfl : x8 = x15 := ex8.trans ex15.symm
    refine lv_iload_n hx hb dX3_alike_15 rfl (lv_at hl 0 rfl) ?_
    refine lv_icmp_ne (tgt := 23) hx hb dX3_alike_16 (by decide) (fun c16 => ?_) (fun c16 => ?_)
    ·
      refine lv_iconst (v := 0) hx hb dX3_alike_23 (by decide) ?_
      exact ret_i (ty := .boolean) hx hb hr hlocks (rfl) hP hD hS (Nat.le_of_ble_eq_true rfl) (Nat.le_of_ble_eq_true rfl) (⟨rfl, rfl, (⟨by decide, by decide⟩ : In 0 0 1)⟩) dX3_alike_24
    ·
      have cc17 : x8.toInt = r3.toInt := congrArg Int32.toInt c16
      have hb18 : In r3 1 511 := In.eq2 hb14 eL7R cc17 (by omega) (by omega)
      exact hJ19 _ _ _ hP hD hS (lv_sub hl [1, 2, 3, 0] rfl)

abbrev rm_X3_crossedIn_ot : Room := { frames := 2, cells := 0, slots := 0, locals := 46 }
abbrev po_X3_crossedIn_ot (g : GG) (ad : Nat → Nat) (th : Nat → Int) (L : List Nat) (f : HP) (j : Nat) (z2 : Int32) : Int32 → (List Nat × HP) → Prop := fun _ u => u.1 = L ∧ u.2 = f
set_option maxHeartbeats 4000000 in
set_option maxRecDepth 100000 in
theorem s_X3_crossedIn_ot (l : Launch) (g : GG) (ad : Nat → Nat) (th : Nat → Int) (L : List Nat) (f : HP) (sz : Nat) (j : Nat) (z2 : Int32) (hst : ST ad L) (hT : TI g ad th f) (hj : j < 23) (hz2 : In z2 0 5) : MtI l g yX3_crossedIn cX3_crossedIn 8 (some .int) rm_X3_crossedIn_ot [.ref (cr ad j 0), .ref (ad 7), .int z2] L f sz (po_X3_crossedIn_ot g ad th L f j z2) := by
  refine MtI.of (by decide +kernel) (Nat.le_of_ble_eq_true rfl) ?_
  intro p e s m below meth c A hEn hP hD hS ls hl
  obtain ⟨hx, hb, hr, hml, hown, hlocks, hts, hG, hA, hE, hnm⟩ := hEn
  have hown : s.vm.findClass "RulerWord$Course" = some m.cls := hown
  have hl : lv_has ls 8 [(0, .ref (cr ad j 0)), (1, .ref (ad 7)), (2, .int z2)] := hl
  refine lv_aload_n hx hb dX3_crossedIn_0 rfl (lv_at hl 1 rfl) ?_
  refine lv_iload_n hx hb dX3_crossedIn_1 rfl (lv_at hl 2 rfl) ?_
  obtain ⟨v0_1, v1_1, v2_1, v3_1, v4_1, v5_1, v6_1, v7_1, hf2, hv0_1, hg0_1, hv1_1, hv2_1, hv3_1, hv5_1, hv6_1⟩ := hT.1 7 (by decide)
  refine call_i (run_VN (rm := rm_X2_ruler_ot) hx hb hml hown hts (s_X2_ruler_ot l g ad th _ _ _ z2 hst hT (In.mono hz2 (by decide) (by decide))) cV_X2_ruler wn_778 ⟨Nat.le_of_ble_eq_true rfl, Nat.le_of_ble_eq_true rfl⟩ hG hE hA hP hD hS (hst.1 7 (by decide)) hf2 rfl rfl hl.1 (As := [.int z2]) (rest := []) rfl (Nat.le_of_ble_eq_true rfl) dX3_crossedIn_2 ⟨Nat.le_of_ble_eq_true rfl, Nat.le_of_ble_eq_true rfl⟩) hA hD hS (fun r3 L4 f5 H locs hp6 hP hD hS => ?_)
  obtain ⟨eL7L, eL7T, eL7R⟩ := hp6
  have eL7L : L4 = L := eL7L
  have eL7T : f5 = f := eL7T
  rw [eL7L, eL7T] at hP hD
  have eL7R : In r3 0 8 := eL7R
  refine lv_istore_n (lv' := [(3, .int r3), (0, .ref (cr ad j 0)), (1, .ref (ad 7)), (2, .int z2)]) hx hb dX3_crossedIn_5 rfl hl (by decide) rfl (fun ls hl => ?_)
  refine lv_iconst (v := 0) hx hb dX3_crossedIn_6 (by decide) ?_
  refine lv_istore (lv' := [(4, .int 0), (3, .int r3), (0, .ref (cr ad j 0)), (1, .ref (ad 7)), (2, .int z2)]) hx hb dX3_crossedIn_7 hl (by decide) rfl (fun ls hl => ?_)
  refine lv_iconst (v := 0) hx hb dX3_crossedIn_9 (by decide) ?_
  refine lv_istore (lv' := [(5, .int 0), (4, .int 0), (3, .int r3), (0, .ref (cr ad j 0)), (1, .ref (ad 7)), (2, .int z2)]) hx hb dX3_crossedIn_10 hl (by decide) rfl (fun ls hl => ?_)
  have hJ12 : ∀ (k12 : Nat) (y12_l4 : Int32) (y12_l5 : Int32) (H : Heap) (locs : List Loc) (ls : Array Slot), In y12_l4 (-2147483648) 2147483647 → In y12_l5 0 9 → va_P g.1 vwCl (va_pl L f) H → va_D A (va_pl L f) → va_S A s.heap H locs → lv_has ls 8 [(0, .ref (cr ad j 0)), (1, .ref (ad 7)), (2, .int z2), (3, .int r3), (4, .int y12_l4), (5, .int y12_l5)] → 9 - y12_l5.toInt < ((k12 : Nat) : Int) → W p l e rm_X3_crossedIn_ot s m [.ref (cr ad j 0), .ref (ad 7), .int z2].toArray below meth c H locs 0 0 (MQ below (va_Qi (po_X3_crossedIn_ot g ad th L f j z2) (PstB g A) A) [.ref (cr ad j 0), .ref (ad 7), .int z2].toArray s rm_X3_crossedIn_ot.cells rm_X3_crossedIn_ot.slots A) (F0 m 12 ls []) := by
    intro k12
    induction k12 with
    | zero =>
      intro y12_l4 y12_l5 H locs ls hy12_l4 hy12_l5 hP hD hS hl hmz12
      exact ms0 hy12_l5 hmz12
    | succ k12 ih12 =>
      intro y12_l4 y12_l5 H locs ls hy12_l4 hy12_l5 hP hD hS hl hmz12
      refine lv_iload hx hb dX3_crossedIn_12 (lv_at hl 5 rfl) ?_
      refine lv_aload_n hx hb dX3_crossedIn_14 rfl (lv_at hl 1 rfl) ?_
      refine pl_getN (v := .int v1_1) hx hb hts (fun w h => mT (inX2 w h)) hown hG.1 hP (hst.1 7 (by decide)) hf2 rfl 1 (by decide) (hG.2.1 _ wn_231) (fun _ h => h) rfl dX3_crossedIn_15 ?_
      refine lv_icmp_ge (tgt := 110) hx hb dX3_crossedIn_18 (by decide) (fun c8 => ?_) (fun c8 => ?_)
      ·
        refine lv_iload hx hb dX3_crossedIn_110 (lv_at hl 4 rfl) ?_
        exact ret_i (ty := .int) hx hb hr hlocks (rfl) hP hD hS (Nat.le_of_ble_eq_true rfl) (Nat.le_of_ble_eq_true rfl) (⟨rfl, rfl⟩) dX3_crossedIn_112
      ·
        have cc9 : y12_l5.toInt < v1_1.toInt := i32_nle c8
        have hb10 : In y12_l5 0 8 := In.lt1 hy12_l5 hv1_1 cc9 (by omega) (by omega)
        have hb11 : In v1_1 1 9 := In.lt2 hy12_l5 hv1_1 cc9 (by omega) (by omega)
        refine lv_iload hx hb dX3_crossedIn_21 (lv_at hl 5 rfl) ?_
        refine lv_iload_n hx hb dX3_crossedIn_23 rfl (lv_at hl 3 rfl) ?_
        have hJ47 : ∀ (y47_s0 : Int32) (H : Heap) (locs : List Loc) (ls : Array Slot), In y47_s0 0 1 → va_P g.1 vwCl (va_pl L f) H → va_D A (va_pl L f) → va_S A s.heap H locs → lv_has ls 8 [(0, .ref (cr ad j 0)), (1, .ref (ad 7)), (2, .int z2), (3, .int r3), (4, .int y12_l4), (5, .int y12_l5)] → W p l e rm_X3_crossedIn_ot s m [.ref (cr ad j 0), .ref (ad 7), .int z2].toArray below meth c H locs 0 0 (MQ below (va_Qi (po_X3_crossedIn_ot g ad th L f j z2) (PstB g A) A) [.ref (cr ad j 0), .ref (ad 7), .int z2].toArray s rm_X3_crossedIn_ot.cells rm_X3_crossedIn_ot.slots A) (F0 m 47 ls [.int y47_s0]) := by
          intro y47_s0 H locs ls hy47_s0 hP hD hS hl
          refine lv_istore (lv' := [(6, .int y47_s0), (0, .ref (cr ad j 0)), (1, .ref (ad 7)), (2, .int z2), (3, .int r3), (4, .int y12_l4), (5, .int y12_l5)]) hx hb dX3_crossedIn_47 hl (by decide) rfl (fun ls hl => ?_)
          refine lv_aload_n hx hb dX3_crossedIn_49 rfl (lv_at hl 1 rfl) ?_
          refine lv_iload_n hx hb dX3_crossedIn_50 rfl (lv_at hl 3 rfl) ?_
          refine lv_aload_n hx hb dX3_crossedIn_51 rfl (lv_at hl 2 rfl) ?_
          refine call_i (run_VN (rm := rm_X2_rounds_ot) hx hb hml hown hts (s_X2_rounds_ot l g ad th _ _ _  hst hT ) cV_X2_rounds wn_777 ⟨Nat.le_of_ble_eq_true rfl, Nat.le_of_ble_eq_true rfl⟩ hG hE hA hP hD hS (hst.1 7 (by decide)) hf2 rfl rfl hl.1 (As := []) (rest := [.int z2, .ref (cr ad j 0)]) rfl (Nat.le_of_ble_eq_true rfl) dX3_crossedIn_52 ⟨Nat.le_of_ble_eq_true rfl, Nat.le_of_ble_eq_true rfl⟩) hA hD hS (fun r12 L13 f14 H locs hp15 hP hD hS => ?_)
          obtain ⟨eL16L, eL16T, eL16R, eL16X0⟩ := hp15
          have eL16L : L13 = L := eL16L
          have eL16T : f14 = f := eL16T
          rw [eL16L, eL16T] at hP hD
          have eL16R : In r12 2 3 := eL16R
          have hrn17 : r12.toInt = rnd (th 4) := eL16X0
          refine lv_iconst (v := 1) hx hb dX3_crossedIn_55 (by decide) ?_
          refine lv_isub hx hb dX3_crossedIn_56 ?_
          refine lv_topi (fun x18 ex18 => ?_)
          have hb19 : In x18 1 2 := ex18 ▸ In.sub eL16R (⟨by decide, by decide⟩ : In 1 1 1) (by decide) (by decide) (by decide) (by decide)
          have et20 : x18.toInt = r12.toInt + (-1) := In.sube ex18 eL16R (k := 1) (by decide) (by decide) (by decide)
          refine lv_iload_n hx hb dX3_crossedIn_57 rfl (lv_at hl 4 rfl) ?_
          refine lv_iload hx hb dX3_crossedIn_58 (lv_at hl 6 rfl) ?_
          obtain ⟨v0_21, v1_21, v2_21, v3_21, v4_21, v5_21, v6_21, v7_21, v8_21, hf22, hv1_21, hg1_21, hv2_21, hg2_21, hv6_21⟩ := hT.2.1 j hj 0 (by decide)
          refine call_i (run_V (rm := rm_X3_letter) hx hb hml hown hts (s_X3_letter l g ad th _ _ _ j z2 x18 r3 y12_l5 hst hT hj hz2 (In.mono hb19 (by decide) (by decide)) eL7R) cV_X3_letter wg_846 ⟨Nat.le_of_ble_eq_true rfl, Nat.le_of_ble_eq_true rfl⟩ hG hE hA hP hD hS (hst.c hj (by decide)) hf22 rfl rfl hl.1 (As := [.int z2, .int x18, .int r3, .int y12_l5]) (rest := []) rfl (Nat.le_of_ble_eq_true rfl) dX3_crossedIn_60 ⟨Nat.le_of_ble_eq_true rfl, Nat.le_of_ble_eq_true rfl⟩) hA hD hS (fun r23 L24 f25 H locs hp26 hP hD hS => ?_)
          obtain ⟨eL27L, eL27T, eL27R⟩ := hp26
          have eL27L : L24 = L := eL27L
          have eL27T : f25 = f := eL27T
          rw [eL27L, eL27T] at hP hD
          have eL27R : In r23 0 15 := eL27R
          refine lv_aload_n hx hb dX3_crossedIn_63 rfl (lv_at hl 1 rfl) ?_
          refine pl_get (v := .ref (cr ad j 6)) hx hb hts (fun w h => mT (inX3 w h)) hown hG.1 hP (hst.c hj (by decide)) hf22 rfl 14 (by decide) (hts _ (mT wg_358)) (fun _ h => h) rfl dX3_crossedIn_64 ?_
          refine lv_iload_n hx hb dX3_crossedIn_67 rfl (lv_at hl 3 rfl) ?_
          obtain ⟨rw28, hf29⟩ := hT.2.1 j hj 6 (by decide)
          have hin30 : vp_in z2 6 := In.inb hz2 (by decide) (by decide)
          refine pl_iald hx hb hG.1 hP (hst.c hj (by decide)) 0 hf29 rfl hin30 dX3_crossedIn_68 ?_
          refine lv_topi (fun x31 ex31 => ?_)
          refine lv_iload hx hb dX3_crossedIn_69 (lv_at hl 6 rfl) ?_
          refine call_i (run_SN (rm := rm_X10_bit) hx hb hml hown hts (s_X10_bit l g ad th _ _ _ x31 y12_l5 hst hT ) cS_X10_bit wn_794 ⟨Nat.le_of_ble_eq_true rfl, Nat.le_of_ble_eq_true rfl⟩ hG hE hA hP hD hS rfl hl.1 (As := [.int x31, .int y12_l5]) (rest := [.int r23]) rfl (Nat.le_of_ble_eq_true rfl) dX3_crossedIn_71 ⟨Nat.le_of_ble_eq_true rfl, Nat.le_of_ble_eq_true rfl⟩) hA hD hS (fun r32 L33 f34 H locs hp35 hP hD hS => ?_)
          obtain ⟨eL36L, eL36T, eL36R, eL36X0⟩ := hp35
          have eL36L : L33 = L := eL36L
          have eL36T : f34 = f := eL36T
          rw [eL36L, eL36T] at hP hD
          have eL36R : In r32 0 1 := eL36R
          have hJ82 : ∀ (y82_s0 : Int32) (H : Heap) (locs : List Loc) (ls : Array Slot), In y82_s0 0 1 → va_P g.1 vwCl (va_pl L f) H → va_D A (va_pl L f) → va_S A s.heap H locs → lv_has ls 8 [(0, .ref (cr ad j 0)), (1, .ref (ad 7)), (2, .int z2), (3, .int r3), (4, .int y12_l4), (5, .int y12_l5), (6, .int y47_s0)] → W p l e rm_X3_crossedIn_ot s m [.ref (cr ad j 0), .ref (ad 7), .int z2].toArray below meth c H locs 0 0 (MQ below (va_Qi (po_X3_crossedIn_ot g ad th L f j z2) (PstB g A) A) [.ref (cr ad j 0), .ref (ad 7), .int z2].toArray s rm_X3_crossedIn_ot.cells rm_X3_crossedIn_ot.slots A) (F0 m 82 ls [.int y82_s0]) := by
            intro y82_s0 H locs ls hy82_s0 hP hD hS hl
            refine lv_istore (lv' := [(7, .int y82_s0), (0, .ref (cr ad j 0)), (1, .ref (ad 7)), (2, .int z2), (3, .int r3), (4, .int y12_l4), (5, .int y12_l5), (6, .int y47_s0)]) hx hb dX3_crossedIn_82 hl (by decide) rfl (fun ls hl => ?_)
            refine lv_iload hx hb dX3_crossedIn_84 (lv_at hl 5 rfl) ?_
            refine lv_iload hx hb dX3_crossedIn_86 (lv_at hl 7 rfl) ?_
            have hJ101 : ∀ (y101_s0 : Int32) (H : Heap) (locs : List Loc) (ls : Array Slot), In y101_s0 0 1 → va_P g.1 vwCl (va_pl L f) H → va_D A (va_pl L f) → va_S A s.heap H locs → lv_has ls 8 [(0, .ref (cr ad j 0)), (1, .ref (ad 7)), (2, .int z2), (3, .int r3), (4, .int y12_l4), (5, .int y12_l5), (6, .int y47_s0), (7, .int y82_s0)] → W p l e rm_X3_crossedIn_ot s m [.ref (cr ad j 0), .ref (ad 7), .int z2].toArray below meth c H locs 0 0 (MQ below (va_Qi (po_X3_crossedIn_ot g ad th L f j z2) (PstB g A) A) [.ref (cr ad j 0), .ref (ad 7), .int z2].toArray s rm_X3_crossedIn_ot.cells rm_X3_crossedIn_ot.slots A) (F0 m 101 ls [.int y101_s0, .int y12_l4]) := by
              intro y101_s0 H locs ls hy101_s0 hP hD hS hl
              refine lv_iadd hx hb dX3_crossedIn_101 ?_
              refine lv_topi (fun x37 ex37 => ?_)
              refine lv_istore (lv' := [(4, .int x37), (0, .ref (cr ad j 0)), (1, .ref (ad 7)), (2, .int z2), (3, .int r3), (5, .int y12_l5), (6, .int y47_s0), (7, .int y82_s0)]) hx hb dX3_crossedIn_102 hl (by decide) rfl (fun ls hl => ?_)
              obtain ⟨x38, ex38⟩ : ∃ y : Int32, y = y12_l5 + 1 := ⟨_, rfl⟩
              have hb39 : In x38 1 9 := ex38 ▸ In.add hb10 (⟨by decide, by decide⟩ : In 1 1 1) (by decide) (by decide) (by decide) (by decide)
              have et40 : x38.toInt = y12_l5.toInt + 1 := In.adde ex38 hb10 (k := 1) (by decide) (by decide) (by decide)
              refine lv_iinc (v := x38) (lv' := [(5, .int x38), (4, .int x37), (0, .ref (cr ad j 0)), (1, .ref (ad 7)), (2, .int z2), (3, .int r3), (6, .int y47_s0), (7, .int y82_s0)]) hx hb dX3_crossedIn_104 hl (k := 5) rfl (by rw [ex38]; rfl) (by decide) rfl (fun ls hl => ?_)
              refine lv_goto (tgt := 12) hx hb dX3_crossedIn_107 (by decide) ?_
              exact ih12 x37 x38 _ _ _ (In.full x37) (In.mono hb39 (by decide) (by decide)) hP hD hS (lv_sub hl [2, 3, 4, 5, 1, 0] rfl) (msu et40 (by decide) hmz12)
            have hJ100 : ∀ (H : Heap) (locs : List Loc) (ls : Array Slot), va_P g.1 vwCl (va_pl L f) H → va_D A (va_pl L f) → va_S A s.heap H locs → lv_has ls 8 [(0, .ref (cr ad j 0)), (1, .ref (ad 7)), (2, .int z2), (3, .int r3), (4, .int y12_l4), (5, .int y12_l5), (6, .int y47_s0), (7, .int y82_s0)] → W p l e rm_X3_crossedIn_ot s m [.ref (cr ad j 0), .ref (ad 7), .int z2].toArray below meth c H locs 0 0 (MQ below (va_Qi (po_X3_crossedIn_ot g ad th L f j z2) (PstB g A) A) [.ref (cr ad j 0), .ref (ad 7), .int z2].toArray s rm_X3_crossedIn_ot.cells rm_X3_crossedIn_ot.slots A) (F0 m 100 ls [.int y12_l4]) := by
              intro H locs ls hP hD hS hl
              refine lv_iconst (v := 0) hx hb dX3_crossedIn_100 (by decide) ?_
              exact hJ101 0 _ _ _ (⟨by decide, by decide⟩ : In 0 0 1) hP hD hS (lv_sub hl [0, 1, 2, 3, 4, 5, 6, 7] rfl)
            refine lv_if_eq (tgt := 100) hx hb dX3_crossedIn_88 (by decide) (fun c41 => ?_) (fun c41 => ?_)
            ·
              have cc42 : y47_s0.toInt = (0 : Int32).toInt := congrArg Int32.toInt c41
              have hb43 : In y47_s0 0 0 := In.eq1 hy47_s0 (⟨by decide, by decide⟩ : In 0 0 0) cc42 (by omega) (by omega)
              exact hJ100 _ _ _ hP hD hS (lv_sub hl [1, 2, 3, 4, 5, 6, 7, 0] rfl)
            ·
              have cc44 : y47_s0.toInt ≠ (0 : Int32).toInt := i32_ne c41
              have hb45 : In y47_s0 1 1 := In.ne1 hy47_s0 (⟨by decide, by decide⟩ : In 0 0 0) cc44 (by omega) (by omega)
              refine lv_iload hx hb dX3_crossedIn_91 (lv_at hl 0 rfl) ?_
              refine lv_if_eq (tgt := 100) hx hb dX3_crossedIn_93 (by decide) (fun c46 => ?_) (fun c46 => ?_)
              ·
                have cc47 : y82_s0.toInt = (0 : Int32).toInt := congrArg Int32.toInt c46
                have hb48 : In y82_s0 0 0 := In.eq1 hy82_s0 (⟨by decide, by decide⟩ : In 0 0 0) cc47 (by omega) (by omega)
                exact hJ100 _ _ _ hP hD hS (lv_sub hl [1, 2, 3, 4, 5, 6, 7, 0] rfl)
              ·
                have cc49 : y82_s0.toInt ≠ (0 : Int32).toInt := i32_ne c46
                have hb50 : In y82_s0 1 1 := In.ne1 hy82_s0 (⟨by decide, by decide⟩ : In 0 0 0) cc49 (by omega) (by omega)
                refine lv_iconst (v := 1) hx hb dX3_crossedIn_96 (by decide) ?_
                refine lv_goto (tgt := 101) hx hb dX3_crossedIn_97 (by decide) ?_
                exact hJ101 1 _ _ _ (⟨by decide, by decide⟩ : In 1 0 1) hP hD hS (lv_sub hl [1, 2, 3, 4, 5, 6, 7, 0] rfl)
          refine lv_icmp_eq (tgt := 81) hx hb dX3_crossedIn_74 (by decide) (fun c51 => ?_) (fun c51 => ?_)
          ·
            have cc52 : r23.toInt = r32.toInt := congrArg Int32.toInt c51
            have hb53 : In r23 0 1 := In.eq1 eL27R eL36R cc52 (by omega) (by omega)
            refine lv_iconst (v := 0) hx hb dX3_crossedIn_81 (by decide) ?_
            exact hJ82 0 _ _ _ (⟨by decide, by decide⟩ : In 0 0 1) hP hD hS (lv_sub hl [1, 2, 3, 4, 5, 6, 0] rfl)
          ·
            refine lv_iconst (v := 1) hx hb dX3_crossedIn_77 (by decide) ?_
            refine lv_goto (tgt := 82) hx hb dX3_crossedIn_78 (by decide) ?_
            exact hJ82 1 _ _ _ (⟨by decide, by decide⟩ : In 1 0 1) hP hD hS (lv_sub hl [1, 2, 3, 4, 5, 6, 0] rfl)
        have hJ46 : ∀ (H : Heap) (locs : List Loc) (ls : Array Slot), va_P g.1 vwCl (va_pl L f) H → va_D A (va_pl L f) → va_S A s.heap H locs → lv_has ls 8 [(0, .ref (cr ad j 0)), (1, .ref (ad 7)), (2, .int z2), (3, .int r3), (4, .int y12_l4), (5, .int y12_l5)] → W p l e rm_X3_crossedIn_ot s m [.ref (cr ad j 0), .ref (ad 7), .int z2].toArray below meth c H locs 0 0 (MQ below (va_Qi (po_X3_crossedIn_ot g ad th L f j z2) (PstB g A) A) [.ref (cr ad j 0), .ref (ad 7), .int z2].toArray s rm_X3_crossedIn_ot.cells rm_X3_crossedIn_ot.slots A) (F0 m 46 ls []) := by
          intro H locs ls hP hD hS hl
          refine lv_iconst (v := 0) hx hb dX3_crossedIn_46 (by decide) ?_
          exact hJ47 0 _ _ _ (⟨by decide, by decide⟩ : In 0 0 1) hP hD hS (lv_sub hl [0, 1, 2, 3, 4, 5] rfl)
        refine lv_icmp_eq (tgt := 46) hx hb dX3_crossedIn_24 (by decide) (fun c54 => ?_) (fun c54 => ?_)
        ·
          exact hJ46 _ _ _ hP hD hS (lv_sub hl [0, 1, 2, 3, 4, 5] rfl)
        ·
          refine lv_aload_n hx hb dX3_crossedIn_27 rfl (lv_at hl 0 rfl) ?_
          obtain ⟨v0_55, v1_55, v2_55, v3_55, v4_55, v5_55, v6_55, v7_55, v8_55, hf56, hv1_55, hg1_55, hv2_55, hg2_55, hv6_55⟩ := hT.2.1 j hj 0 (by decide)
          refine pl_get (v := .ref (cr ad j 7)) hx hb hts (fun w h => mT (inX3 w h)) hown hG.1 hP (hst.c hj (by decide)) hf56 rfl 15 (by decide) (hts _ (mT wg_360)) (fun _ h => h) rfl dX3_crossedIn_28 ?_
          refine lv_iload_n hx hb dX3_crossedIn_31 rfl (lv_at hl 2 rfl) ?_
          obtain ⟨rw57, hf58⟩ := hT.2.1 j hj 7 (by decide)
          have hin59 : vp_in z2 6 := In.inb hz2 (by decide) (by decide)
          refine pl_iald hx hb hG.1 hP (hst.c hj (by decide)) 0 hf58 rfl hin59 dX3_crossedIn_32 ?_
          refine lv_topi (fun x60 ex60 => ?_)
          refine lv_iload hx hb dX3_crossedIn_33 (lv_at hl 5 rfl) ?_
          refine call_i (run_SN (rm := rm_X10_bit) hx hb hml hown hts (s_X10_bit l g ad th _ _ _ x60 y12_l5 hst hT ) cS_X10_bit wn_794 ⟨Nat.le_of_ble_eq_true rfl, Nat.le_of_ble_eq_true rfl⟩ hG hE hA hP hD hS rfl hl.1 (As := [.int x60, .int y12_l5]) (rest := []) rfl (Nat.le_of_ble_eq_true rfl) dX3_crossedIn_35 ⟨Nat.le_of_ble_eq_true rfl, Nat.le_of_ble_eq_true rfl⟩) hA hD hS (fun r61 L62 f63 H locs hp64 hP hD hS => ?_)
          obtain ⟨eL65L, eL65T, eL65R, eL65X0⟩ := hp64
          have eL65L : L62 = L := eL65L
          have eL65T : f63 = f := eL65T
          rw [eL65L, eL65T] at hP hD
          have eL65R : In r61 0 1 := eL65R
          refine lv_iconst (v := 1) hx hb dX3_crossedIn_38 (by decide) ?_
          refine lv_icmp_ne (tgt := 46) hx hb dX3_crossedIn_39 (by decide) (fun c66 => ?_) (fun c66 => ?_)
          ·
            have cc67 : r61.toInt ≠ (1 : Int32).toInt := i32_ne c66
            have hb68 : In r61 0 0 := In.ne1 eL65R (⟨by decide, by decide⟩ : In 1 1 1) cc67 (by omega) (by omega)
            exact hJ46 _ _ _ hP hD hS (lv_sub hl [0, 1, 2, 3, 4, 5] rfl)
          ·
            have cc69 : r61.toInt = (1 : Int32).toInt := congrArg Int32.toInt c66
            have hb70 : In r61 1 1 := In.eq1 eL65R (⟨by decide, by decide⟩ : In 1 1 1) cc69 (by omega) (by omega)
            refine lv_iconst (v := 1) hx hb dX3_crossedIn_42 (by decide) ?_
            refine lv_goto (tgt := 47) hx hb dX3_crossedIn_43 (by decide) ?_
            exact hJ47 1 _ _ _ (⟨by decide, by decide⟩ : In 1 0 1) hP hD hS (lv_sub hl [0, 1, 2, 3, 4, 5] rfl)
  exact hJ12 ((9 - (0 : Int32).toInt).toNat + 1) 0 0 _ _ _ (⟨by decide, by decide⟩ : In 0 (-2147483648) 2147483647) (⟨by decide, by decide⟩ : In 0 0 9) hP hD hS (lv_sub hl [3, 4, 5, 2, 1, 0] rfl) (msI _)
