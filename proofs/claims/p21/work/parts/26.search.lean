abbrev rm_X2_copy_ru : Room := { frames := 0, cells := 0, slots := 0, locals := 0 }
abbrev po_X2_copy_ru (g : GG) (ad : Nat → Nat) (th : Nat → Int) (L : List Nat) (f : HP)  : (List Nat × HP) → Prop := fun u => u.1 = L ∧ TI g ad th u.2 ∧ (∀ b, b ≠ (ad 8) → u.2 b = f b)
set_option maxHeartbeats 4000000 in
set_option maxRecDepth 100000 in
theorem s_X2_copy_ru (l : Launch) (g : GG) (ad : Nat → Nat) (th : Nat → Int) (L : List Nat) (f : HP) (sz : Nat)  (hst : ST ad L) (hT : TI g ad th f)  : MtV l g yX2_copy cX2_copy 2 rm_X2_copy_ru [.ref (ad 8), .ref (ad 6)] L f sz (po_X2_copy_ru g ad th L f ) := by
  refine MtV.of (by decide +kernel) (Nat.le_of_ble_eq_true rfl) ?_
  intro p e s m below meth c A hEn hP hD hS ls hl
  obtain ⟨hx, hb, hr, hml, hown, hlocks, hts, hG, hA, hE, hnm⟩ := hEn
  have hown : s.vm.findClass "RulerWord$Council" = some m.cls := hown
  have hl : lv_has ls 2 [(0, .ref (ad 8)), (1, .ref (ad 6))] := hl
  have hfr : (∀ b, b ≠ (ad 8) → f b = f b) := fun b z0_ => rfl
  refine lv_aload_n hx hb dX2_copy_0 rfl (lv_at hl 0 rfl) ?_
  refine lv_aload_n hx hb dX2_copy_1 rfl (lv_at hl 1 rfl) ?_
  obtain ⟨v0_1, v1_1, v2_1, v3_1, v4_1, v5_1, v6_1, v7_1, hf2, hv0_1, hg0_1, hv1_1, hg1_1, hv2_1, hv3_1, hv5_1, hv6_1, hrel0_1⟩ := hT.1 6 (by decide)
  refine pl_get (v := .int v0_1) hx hb hts (fun w h => mT (inX2 w h)) hown hG.1 hP (hst.1 6 (by decide)) hf2 rfl 0 (by decide) (hts _ (mT wg_224)) (fun _ h => h) rfl dX2_copy_2 ?_
  obtain ⟨v0_3, v1_3, v2_3, v3_3, v4_3, v5_3, v6_3, v7_3, hf4, hv0_3, hv1_3, hv2_3, hv3_3, hv5_3, hv6_3⟩ := hT.1 8 (by decide)
  refine pl_put (ty := .int) (v := .int v0_1) (fs' := [.int v0_1, .int v1_3, .int v2_3, .int v3_3, .int v4_3, .int v5_3, .int v6_3, .int v7_3]) hx hb hts (fun w h => mT (inX2 w h)) tyX2 tyX2_ok nmX2 hown hG.1 hP hD hS (hst.1 8 (by decide)) hf4 rfl 0 (by decide) (hts _ (mT wg_224)) (fun _ h => h) rfl (by decide +kernel) (rfl) (rfl) (Nat.le_of_ble_eq_true rfl) rfl dX2_copy_5 (fun H locs f5 hf6 ho7 hP hD hS => ?_)
  have hf8 := (ho7 (ad 6) (hst.ne (by decide) (by decide) (by decide))).trans hf2
  have hfr : (∀ b, b ≠ (ad 8) → f5 b = f b) := fun b z0_ => (ho7 b z0_).trans (hfr b z0_)
  refine lv_aload_n hx hb dX2_copy_8 rfl (lv_at hl 0 rfl) ?_
  refine lv_aload_n hx hb dX2_copy_9 rfl (lv_at hl 1 rfl) ?_
  refine pl_get (v := .int v1_1) hx hb hts (fun w h => mT (inX2 w h)) hown hG.1 hP (hst.1 6 (by decide)) hf8 rfl 1 (by decide) (hts _ (mT wg_228)) (fun _ h => h) rfl dX2_copy_10 ?_
  refine pl_put (ty := .int) (v := .int v1_1) (fs' := [.int v0_1, .int v1_1, .int v2_3, .int v3_3, .int v4_3, .int v5_3, .int v6_3, .int v7_3]) hx hb hts (fun w h => mT (inX2 w h)) tyX2 tyX2_ok nmX2 hown hG.1 hP hD hS (hst.1 8 (by decide)) hf6 rfl 1 (by decide) (hts _ (mT wg_228)) (fun _ h => h) rfl (by decide +kernel) (rfl) (rfl) (Nat.le_of_ble_eq_true rfl) rfl dX2_copy_13 (fun H locs f9 hf10 ho11 hP hD hS => ?_)
  have hf12 := (ho11 (ad 6) (hst.ne (by decide) (by decide) (by decide))).trans hf8
  have ho13 : ∀ b, b ≠ (ad 8) → f9 b = _ := fun b hb => (ho11 b hb).trans (ho7 b hb)
  have hfr : (∀ b, b ≠ (ad 8) → f9 b = f b) := fun b z0_ => (ho11 b z0_).trans (hfr b z0_)
  refine lv_aload_n hx hb dX2_copy_16 rfl (lv_at hl 0 rfl) ?_
  refine lv_aload_n hx hb dX2_copy_17 rfl (lv_at hl 1 rfl) ?_
  refine pl_get (v := .int v2_1) hx hb hts (fun w h => mT (inX2 w h)) hown hG.1 hP (hst.1 6 (by decide)) hf12 rfl 2 (by decide) (hts _ (mT wg_232)) (fun _ h => h) rfl dX2_copy_18 ?_
  refine pl_put (ty := .int) (v := .int v2_1) (fs' := [.int v0_1, .int v1_1, .int v2_1, .int v3_3, .int v4_3, .int v5_3, .int v6_3, .int v7_3]) hx hb hts (fun w h => mT (inX2 w h)) tyX2 tyX2_ok nmX2 hown hG.1 hP hD hS (hst.1 8 (by decide)) hf10 rfl 2 (by decide) (hts _ (mT wg_232)) (fun _ h => h) rfl (by decide +kernel) (rfl) (rfl) (Nat.le_of_ble_eq_true rfl) rfl dX2_copy_21 (fun H locs f14 hf15 ho16 hP hD hS => ?_)
  have hf17 := (ho16 (ad 6) (hst.ne (by decide) (by decide) (by decide))).trans hf12
  have ho18 : ∀ b, b ≠ (ad 8) → f14 b = _ := fun b hb => (ho16 b hb).trans (ho13 b hb)
  have hfr : (∀ b, b ≠ (ad 8) → f14 b = f b) := fun b z0_ => (ho16 b z0_).trans (hfr b z0_)
  refine lv_aload_n hx hb dX2_copy_24 rfl (lv_at hl 0 rfl) ?_
  refine lv_aload_n hx hb dX2_copy_25 rfl (lv_at hl 1 rfl) ?_
  refine pl_get (v := .int v3_1) hx hb hts (fun w h => mT (inX2 w h)) hown hG.1 hP (hst.1 6 (by decide)) hf17 rfl 3 (by decide) (hts _ (mT wg_234)) (fun _ h => h) rfl dX2_copy_26 ?_
  refine pl_put (ty := .int) (v := .int v3_1) (fs' := [.int v0_1, .int v1_1, .int v2_1, .int v3_1, .int v4_3, .int v5_3, .int v6_3, .int v7_3]) hx hb hts (fun w h => mT (inX2 w h)) tyX2 tyX2_ok nmX2 hown hG.1 hP hD hS (hst.1 8 (by decide)) hf15 rfl 3 (by decide) (hts _ (mT wg_234)) (fun _ h => h) rfl (by decide +kernel) (rfl) (rfl) (Nat.le_of_ble_eq_true rfl) rfl dX2_copy_29 (fun H locs f19 hf20 ho21 hP hD hS => ?_)
  have hf22 := (ho21 (ad 6) (hst.ne (by decide) (by decide) (by decide))).trans hf17
  have ho23 : ∀ b, b ≠ (ad 8) → f19 b = _ := fun b hb => (ho21 b hb).trans (ho18 b hb)
  have hfr : (∀ b, b ≠ (ad 8) → f19 b = f b) := fun b z0_ => (ho21 b z0_).trans (hfr b z0_)
  refine lv_aload_n hx hb dX2_copy_32 rfl (lv_at hl 0 rfl) ?_
  refine lv_aload_n hx hb dX2_copy_33 rfl (lv_at hl 1 rfl) ?_
  refine pl_get (v := .int v4_1) hx hb hts (fun w h => mT (inX2 w h)) hown hG.1 hP (hst.1 6 (by decide)) hf22 rfl 4 (by decide) (hts _ (mT wg_237)) (fun _ h => h) rfl dX2_copy_34 ?_
  refine pl_put (ty := .int) (v := .int v4_1) (fs' := [.int v0_1, .int v1_1, .int v2_1, .int v3_1, .int v4_1, .int v5_3, .int v6_3, .int v7_3]) hx hb hts (fun w h => mT (inX2 w h)) tyX2 tyX2_ok nmX2 hown hG.1 hP hD hS (hst.1 8 (by decide)) hf20 rfl 4 (by decide) (hts _ (mT wg_237)) (fun _ h => h) rfl (by decide +kernel) (rfl) (rfl) (Nat.le_of_ble_eq_true rfl) rfl dX2_copy_37 (fun H locs f24 hf25 ho26 hP hD hS => ?_)
  have hf27 := (ho26 (ad 6) (hst.ne (by decide) (by decide) (by decide))).trans hf22
  have ho28 : ∀ b, b ≠ (ad 8) → f24 b = _ := fun b hb => (ho26 b hb).trans (ho23 b hb)
  have hfr : (∀ b, b ≠ (ad 8) → f24 b = f b) := fun b z0_ => (ho26 b z0_).trans (hfr b z0_)
  refine lv_aload_n hx hb dX2_copy_40 rfl (lv_at hl 0 rfl) ?_
  refine lv_aload_n hx hb dX2_copy_41 rfl (lv_at hl 1 rfl) ?_
  refine pl_get (v := .int v5_1) hx hb hts (fun w h => mT (inX2 w h)) hown hG.1 hP (hst.1 6 (by decide)) hf27 rfl 5 (by decide) (hts _ (mT wg_239)) (fun _ h => h) rfl dX2_copy_42 ?_
  refine pl_put (ty := .int) (v := .int v5_1) (fs' := [.int v0_1, .int v1_1, .int v2_1, .int v3_1, .int v4_1, .int v5_1, .int v6_3, .int v7_3]) hx hb hts (fun w h => mT (inX2 w h)) tyX2 tyX2_ok nmX2 hown hG.1 hP hD hS (hst.1 8 (by decide)) hf25 rfl 5 (by decide) (hts _ (mT wg_239)) (fun _ h => h) rfl (by decide +kernel) (rfl) (rfl) (Nat.le_of_ble_eq_true rfl) rfl dX2_copy_45 (fun H locs f29 hf30 ho31 hP hD hS => ?_)
  have hf32 := (ho31 (ad 6) (hst.ne (by decide) (by decide) (by decide))).trans hf27
  have ho33 : ∀ b, b ≠ (ad 8) → f29 b = _ := fun b hb => (ho31 b hb).trans (ho28 b hb)
  have hfr : (∀ b, b ≠ (ad 8) → f29 b = f b) := fun b z0_ => (ho31 b z0_).trans (hfr b z0_)
  refine lv_aload_n hx hb dX2_copy_48 rfl (lv_at hl 0 rfl) ?_
  refine lv_aload_n hx hb dX2_copy_49 rfl (lv_at hl 1 rfl) ?_
  refine pl_get (v := .int v6_1) hx hb hts (fun w h => mT (inX2 w h)) hown hG.1 hP (hst.1 6 (by decide)) hf32 rfl 6 (by decide) (hts _ (mT wg_241)) (fun _ h => h) rfl dX2_copy_50 ?_
  refine pl_put (ty := .boolean) (v := .int v6_1) (fs' := [.int v0_1, .int v1_1, .int v2_1, .int v3_1, .int v4_1, .int v5_1, .int v6_1, .int v7_3]) hx hb hts (fun w h => mT (inX2 w h)) tyX2 tyX2_ok nmX2 hown hG.1 hP hD hS (hst.1 8 (by decide)) hf30 rfl 6 (by decide) (hts _ (mT wg_241)) (fun _ h => h) rfl (by decide +kernel) (nar_z hv6_1) (fit_z hv6_1) (Nat.le_of_ble_eq_true rfl) rfl dX2_copy_53 (fun H locs f34 hf35 ho36 hP hD hS => ?_)
  have hf37 := (ho36 (ad 6) (hst.ne (by decide) (by decide) (by decide))).trans hf32
  have ho38 : ∀ b, b ≠ (ad 8) → f34 b = _ := fun b hb => (ho36 b hb).trans (ho33 b hb)
  have hfr : (∀ b, b ≠ (ad 8) → f34 b = f b) := fun b z0_ => (ho36 b z0_).trans (hfr b z0_)
  have hT := TI.updA hT hst (k := 8) (by decide) hf35 ho38 ⟨v0_1, v1_1, v2_1, v3_1, v4_1, v5_1, v6_1, v7_3, rfl, hv0_1, hv1_1, hv2_1, hv3_1, hv5_1, hv6_1⟩
  exact ret_v hx hb hr hlocks hP hD hS (Nat.le_of_ble_eq_true rfl) (Nat.le_of_ble_eq_true rfl) (⟨rfl, hT, hfr⟩) dX2_copy_56

abbrev rm_X7_addChoice : Room := { frames := 0, cells := 0, slots := 0, locals := 0 }
abbrev po_X7_addChoice (g : GG) (ad : Nat → Nat) (th : Nat → Int) (L : List Nat) (f : HP) (z1 : Int32) (z2 : Int32) (z3 : Int32) (z4 : Int32) : Int32 → (List Nat × HP) → Prop := fun r u => u.1 = L ∧ TI g ad th u.2 ∧ (∀ b, b ≠ (ad 21) → b ≠ (ad 22) → u.2 b = f b) ∧ In r 0 9 ∧ (r.toInt ≤ z2.toInt + 1 ∧ 1 ≤ r.toInt)
set_option maxHeartbeats 4000000 in
set_option maxRecDepth 100000 in
theorem s_X7_addChoice (l : Launch) (g : GG) (ad : Nat → Nat) (th : Nat → Int) (L : List Nat) (f : HP) (sz : Nat) (z1 : Int32) (z2 : Int32) (z3 : Int32) (z4 : Int32) (hst : ST ad L) (hT : TI g ad th f) (hz1 : In z1 0 99) (hz2 : In z2 0 8) : MtI l g yX7_addChoice cX7_addChoice 6 (some .int) rm_X7_addChoice [.ref (ad 18), .int z1, .int z2, .int z3, .int z4] L f sz (po_X7_addChoice g ad th L f z1 z2 z3 z4) := by
  refine MtI.of (by decide +kernel) (Nat.le_of_ble_eq_true rfl) ?_
  intro p e s m below meth c A hEn hP hD hS ls hl
  obtain ⟨hx, hb, hr, hml, hown, hlocks, hts, hG, hA, hE, hnm⟩ := hEn
  have hown : s.vm.findClass "RulerWord$Search" = some m.cls := hown
  have hl : lv_has ls 6 [(0, .ref (ad 18)), (1, .int z1), (2, .int z2), (3, .int z3), (4, .int z4)] := hl
  have hfr : (∀ b, b ≠ (ad 21) → b ≠ (ad 22) → f b = f b) := fun b z0_ z1_ => rfl
  refine lv_iconst (v := 0) hx hb dX7_addChoice_0 (by decide) ?_
  refine lv_istore (lv' := [(5, .int 0), (0, .ref (ad 18)), (1, .int z1), (2, .int z2), (3, .int z3), (4, .int z4)]) hx hb dX7_addChoice_1 hl (by decide) rfl (fun ls hl => ?_)
  have hJ3 : ∀ (k3 : Nat) (y3_l5 : Int32) (H : Heap) (locs : List Loc) (ls : Array Slot), In y3_l5 0 8 → va_P g.1 vwCl (va_pl L f) H → va_D A (va_pl L f) → va_S A s.heap H locs → (y3_l5.toInt ≤ z2.toInt ∧ 0 ≤ y3_l5.toInt) → lv_has ls 6 [(0, .ref (ad 18)), (1, .int z1), (2, .int z2), (3, .int z3), (4, .int z4), (5, .int y3_l5)] → 8 - y3_l5.toInt < ((k3 : Nat) : Int) → W p l e rm_X7_addChoice s m [.ref (ad 18), .int z1, .int z2, .int z3, .int z4].toArray below meth c H locs 0 0 (MQ below (va_Qi (po_X7_addChoice g ad th L f z1 z2 z3 z4) (PstB g A) A) [.ref (ad 18), .int z1, .int z2, .int z3, .int z4].toArray s rm_X7_addChoice.cells rm_X7_addChoice.slots A) (F0 m 3 ls []) := by
    intro k3
    induction k3 with
    | zero =>
      intro y3_l5 H locs ls hy3_l5 hP hD hS hinv3_0 hl hmz
      exact ms0 hy3_l5 hmz
    | succ k3 ih3 =>
      intro y3_l5 H locs ls hy3_l5 hP hD hS hinv3_0 hl hmz
      refine lv_iload hx hb dX7_addChoice_3 (lv_at hl 5 rfl) ?_
      refine lv_iload_n hx hb dX7_addChoice_5 rfl (lv_at hl 2 rfl) ?_
      refine lv_icmp_ge (tgt := 30) hx hb dX7_addChoice_6 (by decide) (fun c1 => ?_) (fun c1 => ?_)
      ·
        have cc2 : z2.toInt ≤ y3_l5.toInt := i32_le.mp c1
        refine lv_aload_n hx hb dX7_addChoice_30 rfl (lv_at hl 0 rfl) ?_
        obtain ⟨v6_3, v7_3, v8_3, v9_3, v10_3, v11_3, v12_3, v13_3, hf4, hv8_3, hv9_3, hv10_3, hv11_3, hv13_3⟩ := hT.1 18 (by decide)
        refine pl_get (v := .ref (ad 21)) hx hb hts (fun w h => mT (inX7 w h)) hown hG.1 hP (hst.1 18 (by decide)) hf4 rfl 3 (by decide) (hts _ (mT wg_435)) (fun _ h => h) rfl dX7_addChoice_31 ?_
        refine lv_iload_n hx hb dX7_addChoice_34 rfl (lv_at hl 1 rfl) ?_
        refine lv_iload_n hx hb dX7_addChoice_35 rfl (lv_at hl 2 rfl) ?_
        refine lv_iadd hx hb dX7_addChoice_36 ?_
        refine lv_topi (fun x5 ex5 => ?_)
        have hb6 : In x5 0 107 := ex5 ▸ In.add hz1 hz2 (by decide) (by decide) (by decide) (by decide)
        have et7 : x5.toInt = z1.toInt + z2.toInt := In.add2e ex5 hz1 hz2 (by decide) (by decide)
        refine lv_iload_n hx hb dX7_addChoice_37 rfl (lv_at hl 3 rfl) ?_
        obtain ⟨rw8, hf9⟩ := hT.1 21 (by decide)
        refine pl_iastE hx hb hG.1 hP hD hS (hst.1 21 (by decide)) 0 hf9 rfl (In.inb hb6 (by decide) (by decide)) dX7_addChoice_38 (fun H locs f10 r13 er13 hf11 ho12 hP hD hS => ?_)
        have hf14 := (ho12 (ad 18) (hst.ne (by decide) (by decide) (by decide))).trans hf4
        have hfr : (∀ b, b ≠ (ad 21) → b ≠ (ad 22) → f10 b = f b) := fun b z0_ z1_ => (ho12 b z0_).trans (hfr b z0_ z1_)
        refine lv_aload_n hx hb dX7_addChoice_39 rfl (lv_at hl 0 rfl) ?_
        refine pl_get (v := .ref (ad 22)) hx hb hts (fun w h => mT (inX7 w h)) hown hG.1 hP (hst.1 18 (by decide)) hf14 rfl 4 (by decide) (hts _ (mT wg_436)) (fun _ h => h) rfl dX7_addChoice_40 ?_
        refine lv_iload_n hx hb dX7_addChoice_43 rfl (lv_at hl 1 rfl) ?_
        refine lv_iload_n hx hb dX7_addChoice_44 rfl (lv_at hl 2 rfl) ?_
        refine lv_iadd hx hb dX7_addChoice_45 ?_
        refine lv_topi (fun x15 ex15 => ?_)
        obtain rfl : x15 = x5 := ex15.trans ex5.symm
        refine lv_iload hx hb dX7_addChoice_46 (lv_at hl 4 rfl) ?_
        have hT := TI.updA hT hst (k := 21) (by decide) hf11 ho12 ⟨r13, rfl⟩
        obtain ⟨rw16, hf17⟩ := hT.1 22 (by decide)
        refine pl_iastE hx hb hG.1 hP hD hS (hst.1 22 (by decide)) 0 hf17 rfl (In.inb hb6 (by decide) (by decide)) dX7_addChoice_48 (fun H locs f18 r21 er21 hf19 ho20 hP hD hS => ?_)
        have hf22 := (ho20 (ad 18) (hst.ne (by decide) (by decide) (by decide))).trans hf14
        have hf23 := (ho20 (ad 21) (hst.ne (by decide) (by decide) (by decide))).trans hf11
        have hfr : (∀ b, b ≠ (ad 21) → b ≠ (ad 22) → f18 b = f b) := fun b z0_ z1_ => (ho20 b z1_).trans (hfr b z0_ z1_)
        refine lv_iload_n hx hb dX7_addChoice_49 rfl (lv_at hl 2 rfl) ?_
        refine lv_iconst (v := 1) hx hb dX7_addChoice_50 (by decide) ?_
        refine lv_iadd hx hb dX7_addChoice_51 ?_
        refine lv_topi (fun x24 ex24 => ?_)
        have hb25 : In x24 1 9 := ex24 ▸ In.add hz2 (⟨by decide, by decide⟩ : In 1 1 1) (by decide) (by decide) (by decide) (by decide)
        have et26 : x24.toInt = z2.toInt + 1 := In.adde ex24 hz2 (k := 1) (by decide) (by decide) (by decide)
        have hT := TI.updA hT hst (k := 22) (by decide) hf19 ho20 ⟨r21, rfl⟩
        exact ret_i (ty := .int) hx hb hr hlocks (rfl) hP hD hS (Nat.le_of_ble_eq_true rfl) (Nat.le_of_ble_eq_true rfl) (⟨rfl, hT, hfr, (In.mono hb25 (by decide) (by decide)), (by obtain ⟨o0a, o0b⟩ := (hb25 : In _ _ _); obtain ⟨o1a, o1b⟩ := (hz2 : In _ _ _); obtain ⟨o2a, o2b⟩ := (hy3_l5 : In _ _ _); omega)⟩) dX7_addChoice_52
      ·
        have cc27 : y3_l5.toInt < z2.toInt := i32_nle c1
        have hb28 : In y3_l5 0 7 := In.lt1 hy3_l5 hz2 cc27 (by omega) (by omega)
        have hb29 : In z2 1 8 := In.lt2 hy3_l5 hz2 cc27 (by omega) (by omega)
        refine lv_aload_n hx hb dX7_addChoice_9 rfl (lv_at hl 0 rfl) ?_
        obtain ⟨v6_30, v7_30, v8_30, v9_30, v10_30, v11_30, v12_30, v13_30, hf31, hv8_30, hv9_30, hv10_30, hv11_30, hv13_30⟩ := hT.1 18 (by decide)
        refine pl_get (v := .ref (ad 21)) hx hb hts (fun w h => mT (inX7 w h)) hown hG.1 hP (hst.1 18 (by decide)) hf31 rfl 3 (by decide) (hts _ (mT wg_435)) (fun _ h => h) rfl dX7_addChoice_10 ?_
        refine lv_iload_n hx hb dX7_addChoice_13 rfl (lv_at hl 1 rfl) ?_
        refine lv_iload hx hb dX7_addChoice_14 (lv_at hl 5 rfl) ?_
        refine lv_iadd hx hb dX7_addChoice_16 ?_
        refine lv_topi (fun x32 ex32 => ?_)
        have hb33 : In x32 0 106 := ex32 ▸ In.add hz1 hb28 (by decide) (by decide) (by decide) (by decide)
        have et34 : x32.toInt = z1.toInt + y3_l5.toInt := In.add2e ex32 hz1 hb28 (by decide) (by decide)
        obtain ⟨rw35, hf36⟩ := hT.1 21 (by decide)
        have hin37 : vp_in x32 108 := In.inb hb33 (by decide) (by decide)
        refine pl_iald hx hb hG.1 hP (hst.1 21 (by decide)) 0 hf36 rfl hin37 dX7_addChoice_17 ?_
        refine lv_topi (fun x38 ex38 => ?_)
        refine lv_iload_n hx hb dX7_addChoice_18 rfl (lv_at hl 3 rfl) ?_
        refine lv_icmp_ne (tgt := 24) hx hb dX7_addChoice_19 (by decide) (fun c39 => ?_) (fun c39 => ?_)
        ·
          have cc40 : x38.toInt ≠ z3.toInt := i32_ne c39
          obtain ⟨x41, ex41⟩ : ∃ y : Int32, y = y3_l5 + 1 := ⟨_, rfl⟩
          have hb42 : In x41 1 8 := ex41 ▸ In.add hb28 (⟨by decide, by decide⟩ : In 1 1 1) (by decide) (by decide) (by decide) (by decide)
          have et43 : x41.toInt = y3_l5.toInt + 1 := In.adde ex41 hb28 (k := 1) (by decide) (by decide) (by decide)
          refine lv_iinc (v := x41) (lv' := [(5, .int x41), (0, .ref (ad 18)), (1, .int z1), (2, .int z2), (3, .int z3), (4, .int z4)]) hx hb dX7_addChoice_24 hl (k := 5) rfl (by rw [ex41]; rfl) (by decide) rfl (fun ls hl => ?_)
          refine lv_goto (tgt := 3) hx hb dX7_addChoice_27 (by decide) ?_
          exact ih3 x41 _ _ _ (In.mono hb42 (by decide) (by decide)) hP hD hS (by obtain ⟨o0a, o0b⟩ := (hb42 : In _ _ _); obtain ⟨o1a, o1b⟩ := (hb29 : In _ _ _); obtain ⟨o2a, o2b⟩ := (hb28 : In _ _ _); omega) (lv_sub hl [1, 2, 3, 4, 5, 0] rfl) (msu et43 (by decide) hmz)
        ·
          have cc44 : x38.toInt = z3.toInt := congrArg Int32.toInt c39
          refine lv_iload_n hx hb dX7_addChoice_22 rfl (lv_at hl 2 rfl) ?_
          exact ret_i (ty := .int) hx hb hr hlocks (rfl) hP hD hS (Nat.le_of_ble_eq_true rfl) (Nat.le_of_ble_eq_true rfl) (⟨rfl, hT, hfr, (In.mono hb29 (by decide) (by decide)), (by obtain ⟨o0a, o0b⟩ := (hb29 : In _ _ _); obtain ⟨o1a, o1b⟩ := (hb28 : In _ _ _); omega)⟩) dX7_addChoice_23
  exact hJ3 ((8 - (0 : Int32).toInt).toNat + 1) 0 _ _ _ (⟨by decide, by decide⟩ : In 0 0 8) hP hD hS (by obtain ⟨o1a, o1b⟩ := (hz2 : In _ _ _); omega) (lv_sub hl [1, 2, 3, 4, 5, 0] rfl) (msI _)

abbrev rm_X7_prepare : Room := { frames := 2, cells := 0, slots := 0, locals := 47 }
abbrev po_X7_prepare (g : GG) (ad : Nat → Nat) (th : Nat → Int) (L : List Nat) (f : HP) (z2 : Int32) (z3 : Int32) : (List Nat × HP) → Prop := fun u => u.1 = L ∧ TI g ad th u.2 ∧ (∀ b, b ≠ (ad 18) → b ≠ (ad 19) → b ≠ (ad 20) → b ≠ (ad 23) → b ≠ (ad 8) → u.2 b = f b)
set_option maxHeartbeats 4000000 in
set_option maxRecDepth 100000 in
theorem s_X7_prepare (l : Launch) (g : GG) (ad : Nat → Nat) (th : Nat → Int) (L : List Nat) (f : HP) (sz : Nat) (z2 : Int32) (z3 : Int32) (hst : ST ad L) (hT : TI g ad th f) (hz2 : In z2 0 510) : MtV l g yX7_prepare cX7_prepare 5 rm_X7_prepare [.ref (ad 18), .ref (ad 6), .int z2, .int z3] L f sz (po_X7_prepare g ad th L f z2 z3) := by
  refine MtV.of (by decide +kernel) (Nat.le_of_ble_eq_true rfl) ?_
  intro p e s m below meth c A hEn hP hD hS ls hl
  obtain ⟨hx, hb, hr, hml, hown, hlocks, hts, hG, hA, hE, hnm⟩ := hEn
  have hown : s.vm.findClass "RulerWord$Search" = some m.cls := hown
  have hl : lv_has ls 5 [(0, .ref (ad 18)), (1, .ref (ad 6)), (2, .int z2), (3, .int z3)] := hl
  have hfr : (∀ b, b ≠ (ad 18) → b ≠ (ad 19) → b ≠ (ad 20) → b ≠ (ad 23) → b ≠ (ad 8) → f b = f b) := fun b z0_ z1_ z2_ z3_ z4_ => rfl
  refine lv_aload_n hx hb dX7_prepare_0 rfl (lv_at hl 0 rfl) ?_
  obtain ⟨v6_1, v7_1, v8_1, v9_1, v10_1, v11_1, v12_1, v13_1, hf2, hv8_1, hv9_1, hv10_1, hv11_1, hv13_1⟩ := hT.1 18 (by decide)
  refine pl_get (v := .ref (ad 8)) hx hb hts (fun w h => mT (inX7 w h)) hown hG.1 hP (hst.1 18 (by decide)) hf2 rfl 0 (by decide) (hts _ (mT wg_432)) (fun _ h => h) rfl dX7_prepare_1 ?_
  refine lv_aload_n hx hb dX7_prepare_4 rfl (lv_at hl 1 rfl) ?_
  obtain ⟨v0_3, v1_3, v2_3, v3_3, v4_3, v5_3, v6_3, v7_3, hf4, hv0_3, hv1_3, hv2_3, hv3_3, hv5_3, hv6_3⟩ := hT.1 8 (by decide)
  refine call_v (run_VN (rm := rm_X2_copy_ru) hx hb hml hown hts (s_X2_copy_ru l g ad th _ _ _  hst hT ) cV_X2_copy wn_1040 ⟨Nat.le_of_ble_eq_true rfl, Nat.le_of_ble_eq_true rfl⟩ hG hE hA hP hD hS (hst.1 8 (by decide)) hf4 rfl rfl hl.1 (As := [.ref (ad 6)]) (rest := []) rfl (Nat.le_of_ble_eq_true rfl) dX7_prepare_5 ⟨Nat.le_of_ble_eq_true rfl, Nat.le_of_ble_eq_true rfl⟩) hA hD hS (fun L6 f7 H locs hp8 hP hD hS => ?_)
  obtain ⟨eL9L, eL9T, eL9F⟩ := hp8
  have eL9L : L6 = L := eL9L
  rw [eL9L] at hP hD
  have hT : TI g ad th f7 := eL9T
  have eL9F : ∀ b, b ≠ (ad 8) → f7 b = f b := eL9F
  have hf10 := (eL9F (ad 18) (hst.ne (by decide) (by decide) (by decide))).trans hf2
  have hfr : (∀ b, b ≠ (ad 18) → b ≠ (ad 19) → b ≠ (ad 20) → b ≠ (ad 23) → b ≠ (ad 8) → f7 b = f b) := fun b z0_ z1_ z2_ z3_ z4_ => (eL9F b z4_).trans (hfr b z0_ z1_ z2_ z3_ z4_)
  refine lv_aload_n hx hb dX7_prepare_8 rfl (lv_at hl 0 rfl) ?_
  refine lv_iload_n hx hb dX7_prepare_9 rfl (lv_at hl 3 rfl) ?_
  refine pl_put (ty := .int) (v := .int z3) (fs' := [.ref (ad 8), .ref (ad 19), .ref (ad 20), .ref (ad 21), .ref (ad 22), .ref (ad 23), .int v6_1, .int z3, .int v8_1, .int v9_1, .int v10_1, .int v11_1, .int v12_1, .int v13_1]) hx hb hts (fun w h => mT (inX7 w h)) tyX7 tyX7_ok nmX7 hown hG.1 hP hD hS (hst.1 18 (by decide)) hf10 rfl 7 (by decide) (hts _ (mT wg_439)) (fun _ h => h) rfl (by decide +kernel) (rfl) (rfl) (Nat.le_of_ble_eq_true rfl) rfl dX7_prepare_10 (fun H locs f11 hf12 ho13 hP hD hS => ?_)
  have hfr : (∀ b, b ≠ (ad 18) → b ≠ (ad 19) → b ≠ (ad 20) → b ≠ (ad 23) → b ≠ (ad 8) → f11 b = f b) := fun b z0_ z1_ z2_ z3_ z4_ => (ho13 b z0_).trans (hfr b z0_ z1_ z2_ z3_ z4_)
  refine lv_aload_n hx hb dX7_prepare_13 rfl (lv_at hl 0 rfl) ?_
  refine lv_iload_n hx hb dX7_prepare_14 rfl (lv_at hl 2 rfl) ?_
  refine pl_put (ty := .int) (v := .int z2) (fs' := [.ref (ad 8), .ref (ad 19), .ref (ad 20), .ref (ad 21), .ref (ad 22), .ref (ad 23), .int v6_1, .int z3, .int z2, .int v9_1, .int v10_1, .int v11_1, .int v12_1, .int v13_1]) hx hb hts (fun w h => mT (inX7 w h)) tyX7 tyX7_ok nmX7 hown hG.1 hP hD hS (hst.1 18 (by decide)) hf12 rfl 8 (by decide) (hts _ (mT wg_440)) (fun _ h => h) rfl (by decide +kernel) (rfl) (rfl) (Nat.le_of_ble_eq_true rfl) rfl dX7_prepare_15 (fun H locs f14 hf15 ho16 hP hD hS => ?_)
  have ho17 : ∀ b, b ≠ (ad 18) → f14 b = _ := fun b hb => (ho16 b hb).trans (ho13 b hb)
  have hfr : (∀ b, b ≠ (ad 18) → b ≠ (ad 19) → b ≠ (ad 20) → b ≠ (ad 23) → b ≠ (ad 8) → f14 b = f b) := fun b z0_ z1_ z2_ z3_ z4_ => (ho16 b z0_).trans (hfr b z0_ z1_ z2_ z3_ z4_)
  refine lv_aload_n hx hb dX7_prepare_18 rfl (lv_at hl 0 rfl) ?_
  refine lv_aload_n hx hb dX7_prepare_19 rfl (lv_at hl 0 rfl) ?_
  refine pl_get (v := .ref (ad 8)) hx hb hts (fun w h => mT (inX7 w h)) hown hG.1 hP (hst.1 18 (by decide)) hf15 rfl 0 (by decide) (hts _ (mT wg_432)) (fun _ h => h) rfl dX7_prepare_20 ?_
  have hT := TI.updA hT hst (k := 18) (by decide) hf15 ho17 ⟨v6_1, z3, z2, v9_1, v10_1, v11_1, v12_1, v13_1, rfl, (In.mono hz2 (by decide) (by decide)), hv9_1, hv10_1, hv11_1, hv13_1⟩
  obtain ⟨v0_18, v1_18, v2_18, v3_18, v4_18, v5_18, v6_18, v7_18, hf19, hv0_18, hv1_18, hv2_18, hv3_18, hv5_18, hv6_18⟩ := hT.1 8 (by decide)
  refine call_i (run_VN (rm := rm_X2_everybody_ru) hx hb hml hown hts (s_X2_everybody_ru l g ad th _ _ _  hst hT ) cV_X2_everybody wn_1041 ⟨Nat.le_of_ble_eq_true rfl, Nat.le_of_ble_eq_true rfl⟩ hG hE hA hP hD hS (hst.1 8 (by decide)) hf19 rfl rfl hl.1 (As := []) (rest := [.ref (ad 18)]) rfl (Nat.le_of_ble_eq_true rfl) dX7_prepare_23 ⟨Nat.le_of_ble_eq_true rfl, Nat.le_of_ble_eq_true rfl⟩) hA hD hS (fun r20 L21 f22 H locs hp23 hP hD hS => ?_)
  obtain ⟨eL24L, eL24T, eL24R⟩ := hp23
  have eL24L : L21 = L := eL24L
  have eL24T : f22 = f14 := eL24T
  rw [eL24L, eL24T] at hP hD
  have eL24R : In r20 0 511 := eL24R
  refine lv_aload_n hx hb dX7_prepare_26 rfl (lv_at hl 0 rfl) ?_
  refine pl_get (v := .int z2) hx hb hts (fun w h => mT (inX7 w h)) hown hG.1 hP (hst.1 18 (by decide)) hf15 rfl 8 (by decide) (hts _ (mT wg_440)) (fun _ h => h) rfl dX7_prepare_27 ?_
  refine lv_iconst (v := (-1)) hx hb dX7_prepare_30 (by decide) ?_
  refine lv_ixor hx hb dX7_prepare_31 ?_
  refine lv_topi (fun x25 ex25 => ?_)
  refine lv_iand hx hb dX7_prepare_32 ?_
  refine lv_topi (fun x26 ex26 => ?_)
  have hb27 : In x26 0 511 := ex26 ▸ In.andl eL24R (by decide)
  refine pl_put (ty := .int) (v := .int x26) (fs' := [.ref (ad 8), .ref (ad 19), .ref (ad 20), .ref (ad 21), .ref (ad 22), .ref (ad 23), .int v6_1, .int z3, .int z2, .int x26, .int v10_1, .int v11_1, .int v12_1, .int v13_1]) hx hb hts (fun w h => mT (inX7 w h)) tyX7 tyX7_ok nmX7 hown hG.1 hP hD hS (hst.1 18 (by decide)) hf15 rfl 9 (by decide) (hts _ (mT wg_441)) (fun _ h => h) rfl (by decide +kernel) (rfl) (rfl) (Nat.le_of_ble_eq_true rfl) rfl dX7_prepare_33 (fun H locs f28 hf29 ho30 hP hD hS => ?_)
  have hf31 := (ho30 (ad 8) (hst.ne (by decide) (by decide) (by decide))).trans hf19
  have hfr : (∀ b, b ≠ (ad 18) → b ≠ (ad 19) → b ≠ (ad 20) → b ≠ (ad 23) → b ≠ (ad 8) → f28 b = f b) := fun b z0_ z1_ z2_ z3_ z4_ => (ho30 b z0_).trans (hfr b z0_ z1_ z2_ z3_ z4_)
  refine lv_aload_n hx hb dX7_prepare_36 rfl (lv_at hl 0 rfl) ?_
  refine lv_aload_n hx hb dX7_prepare_37 rfl (lv_at hl 0 rfl) ?_
  refine pl_get (v := .int z2) hx hb hts (fun w h => mT (inX7 w h)) hown hG.1 hP (hst.1 18 (by decide)) hf29 rfl 8 (by decide) (hts _ (mT wg_440)) (fun _ h => h) rfl dX7_prepare_38 ?_
  have hT := TI.updA hT hst (k := 18) (by decide) hf29 ho30 ⟨v6_1, z3, z2, x26, v10_1, v11_1, v12_1, v13_1, rfl, (In.mono hz2 (by decide) (by decide)), hb27, hv10_1, hv11_1, hv13_1⟩
  refine call_i (run_S (rm := rm_J6_bitCount_0f7a4) hx hb hml hown hts (s_J6_bitCount_0f7a4 l g ad th _ _ _ z2 hst hT ) cS_J6_bitCount_0f7a4 wg_1042 ⟨Nat.le_of_ble_eq_true rfl, Nat.le_of_ble_eq_true rfl⟩ hG hE hA hP hD hS rfl hl.1 (As := [.int z2]) (rest := [.ref (ad 18)]) rfl (Nat.le_of_ble_eq_true rfl) dX7_prepare_41 ⟨Nat.le_of_ble_eq_true rfl, Nat.le_of_ble_eq_true rfl⟩) hA hD hS (fun r32 L33 f34 H locs hp35 hP hD hS => ?_)
  obtain ⟨eL36L, eL36T, eL36R, eL36X0⟩ := hp35
  have eL36L : L33 = L := eL36L
  have eL36T : f34 = f28 := eL36T
  rw [eL36L, eL36T] at hP hD
  have eL36R : In r32 0 63 := eL36R
  have hb37 : In r32 0 8 := bc8 hz2 eL36X0
  refine pl_put (ty := .int) (v := .int r32) (fs' := [.ref (ad 8), .ref (ad 19), .ref (ad 20), .ref (ad 21), .ref (ad 22), .ref (ad 23), .int v6_1, .int z3, .int z2, .int x26, .int v10_1, .int r32, .int v12_1, .int v13_1]) hx hb hts (fun w h => mT (inX7 w h)) tyX7 tyX7_ok nmX7 hown hG.1 hP hD hS (hst.1 18 (by decide)) hf29 rfl 11 (by decide) (hts _ (mT wg_443)) (fun _ h => h) rfl (by decide +kernel) (rfl) (rfl) (Nat.le_of_ble_eq_true rfl) rfl dX7_prepare_44 (fun H locs f38 hf39 ho40 hP hD hS => ?_)
  have hf41 := (ho40 (ad 8) (hst.ne (by decide) (by decide) (by decide))).trans hf31
  have hfr : (∀ b, b ≠ (ad 18) → b ≠ (ad 19) → b ≠ (ad 20) → b ≠ (ad 23) → b ≠ (ad 8) → f38 b = f b) := fun b z0_ z1_ z2_ z3_ z4_ => (ho40 b z0_).trans (hfr b z0_ z1_ z2_ z3_ z4_)
  refine lv_aload_n hx hb dX7_prepare_47 rfl (lv_at hl 0 rfl) ?_
  refine lv_iconst (v := 0) hx hb dX7_prepare_48 (by decide) ?_
  refine pl_put (ty := .int) (v := .int 0) (fs' := [.ref (ad 8), .ref (ad 19), .ref (ad 20), .ref (ad 21), .ref (ad 22), .ref (ad 23), .int v6_1, .int z3, .int z2, .int x26, .int 0, .int r32, .int v12_1, .int v13_1]) hx hb hts (fun w h => mT (inX7 w h)) tyX7 tyX7_ok nmX7 hown hG.1 hP hD hS (hst.1 18 (by decide)) hf39 rfl 10 (by decide) (hts _ (mT wg_442)) (fun _ h => h) rfl (by decide +kernel) (rfl) (rfl) (Nat.le_of_ble_eq_true rfl) rfl dX7_prepare_49 (fun H locs f42 hf43 ho44 hP hD hS => ?_)
  have hf45 := (ho44 (ad 8) (hst.ne (by decide) (by decide) (by decide))).trans hf41
  have ho46 : ∀ b, b ≠ (ad 18) → f42 b = _ := fun b hb => (ho44 b hb).trans (ho40 b hb)
  have hfr : (∀ b, b ≠ (ad 18) → b ≠ (ad 19) → b ≠ (ad 20) → b ≠ (ad 23) → b ≠ (ad 8) → f42 b = f b) := fun b z0_ z1_ z2_ z3_ z4_ => (ho44 b z0_).trans (hfr b z0_ z1_ z2_ z3_ z4_)
  refine lv_iconst (v := 0) hx hb dX7_prepare_52 (by decide) ?_
  refine lv_istore (lv' := [(4, .int 0), (0, .ref (ad 18)), (1, .ref (ad 6)), (2, .int z2), (3, .int z3)]) hx hb dX7_prepare_53 hl (by decide) rfl (fun ls hl => ?_)
  have hT := TI.updA hT hst (k := 18) (by decide) hf43 ho46 ⟨v6_1, z3, z2, x26, 0, r32, v12_1, v13_1, rfl, (In.mono hz2 (by decide) (by decide)), hb27, (⟨by decide, by decide⟩ : In 0 0 9), hb37, hv13_1⟩
  have hJ55 : ∀ (k55 : Nat) (y55_l4 : Int32) (f_55 : HP) (H : Heap) (locs : List Loc) (ls : Array Slot), In y55_l4 0 9 → va_P g.1 vwCl (va_pl L f_55) H → va_D A (va_pl L f_55) → va_S A s.heap H locs → TI g ad th f_55 → (∀ b, b ≠ (ad 18) → b ≠ (ad 19) → b ≠ (ad 20) → b ≠ (ad 23) → b ≠ (ad 8) → f_55 b = f b) → f_55 (ad 8) = .inr (2, [.int v0_18, .int v1_18, .int v2_18, .int v3_18, .int v4_18, .int v5_18, .int v6_18, .int v7_18]) → lv_has ls 5 [(0, .ref (ad 18)), (1, .ref (ad 6)), (2, .int z2), (3, .int z3), (4, .int y55_l4)] → 9 - y55_l4.toInt < ((k55 : Nat) : Int) → W p l e rm_X7_prepare s m [.ref (ad 18), .ref (ad 6), .int z2, .int z3].toArray below meth c H locs 0 0 (MQ below (va_Qv (po_X7_prepare g ad th L f z2 z3) (PstB g A) A) [.ref (ad 18), .ref (ad 6), .int z2, .int z3].toArray s rm_X7_prepare.cells rm_X7_prepare.slots A) (F0 m 55 ls []) := by
    intro k55
    induction k55 with
    | zero =>
      intro y55_l4 f_55 H locs ls hy55_l4 hP hD hS hT hfr hf47 hl hmz
      exact ms0 hy55_l4 hmz
    | succ k55 ih55 =>
      intro y55_l4 f_55 H locs ls hy55_l4 hP hD hS hT hfr hf47 hl hmz
      refine lv_iload hx hb dX7_prepare_55 (lv_at hl 4 rfl) ?_
      refine lv_aload_n hx hb dX7_prepare_57 rfl (lv_at hl 0 rfl) ?_
      obtain ⟨v6_48, v7_48, v8_48, v9_48, v10_48, v11_48, v12_48, v13_48, hf49, hv8_48, hv9_48, hv10_48, hv11_48, hv13_48⟩ := hT.1 18 (by decide)
      refine pl_get (v := .ref (ad 8)) hx hb hts (fun w h => mT (inX7 w h)) hown hG.1 hP (hst.1 18 (by decide)) hf49 rfl 0 (by decide) (hts _ (mT wg_432)) (fun _ h => h) rfl dX7_prepare_58 ?_
      refine pl_getN (v := .int v1_18) hx hb hts (fun w h => mT (inX2 w h)) hown hG.1 hP (hst.1 8 (by decide)) hf47 rfl 1 (by decide) (hG.2.1 _ wn_229) (fun _ h => h) rfl dX7_prepare_61 ?_
      refine lv_icmp_ge (tgt := 107) hx hb dX7_prepare_64 (by decide) (fun c50 => ?_) (fun c50 => ?_)
      ·
        have cc51 : v1_18.toInt ≤ y55_l4.toInt := i32_le.mp c50
        refine lv_iconst (v := 0) hx hb dX7_prepare_107 (by decide) ?_
        refine lv_istore (lv' := [(4, .int 0), (0, .ref (ad 18)), (1, .ref (ad 6)), (2, .int z2), (3, .int z3)]) hx hb dX7_prepare_108 hl (by decide) rfl (fun ls hl => ?_)
        have hJ110 : ∀ (k110 : Nat) (y110_l4 : Int32) (f_110 : HP) (H : Heap) (locs : List Loc) (ls : Array Slot), In y110_l4 0 7 → va_P g.1 vwCl (va_pl L f_110) H → va_D A (va_pl L f_110) → va_S A s.heap H locs → TI g ad th f_110 → (∀ b, b ≠ (ad 18) → b ≠ (ad 19) → b ≠ (ad 20) → b ≠ (ad 23) → b ≠ (ad 8) → f_110 b = f b) → f_110 (ad 18) = .inr (7, [.ref (ad 8), .ref (ad 19), .ref (ad 20), .ref (ad 21), .ref (ad 22), .ref (ad 23), .int v6_48, .int v7_48, .int v8_48, .int v9_48, .int v10_48, .int v11_48, .int v12_48, .int v13_48]) → f_110 (ad 8) = .inr (2, [.int v0_18, .int v1_18, .int v2_18, .int v3_18, .int v4_18, .int v5_18, .int v6_18, .int v7_18]) → lv_has ls 5 [(0, .ref (ad 18)), (1, .ref (ad 6)), (2, .int z2), (3, .int z3), (4, .int y110_l4)] → 7 - y110_l4.toInt < ((k110 : Nat) : Int) → W p l e rm_X7_prepare s m [.ref (ad 18), .ref (ad 6), .int z2, .int z3].toArray below meth c H locs 0 0 (MQ below (va_Qv (po_X7_prepare g ad th L f z2 z3) (PstB g A) A) [.ref (ad 18), .ref (ad 6), .int z2, .int z3].toArray s rm_X7_prepare.cells rm_X7_prepare.slots A) (F0 m 110 ls []) := by
          intro k110
          induction k110 with
          | zero =>
            intro y110_l4 f_110 H locs ls hy110_l4 hP hD hS hT hfr hf52 hf53 hl hmz
            exact ms0 hy110_l4 hmz
          | succ k110 ih110 =>
            intro y110_l4 f_110 H locs ls hy110_l4 hP hD hS hT hfr hf52 hf53 hl hmz
            refine lv_iload hx hb dX7_prepare_110 (lv_at hl 4 rfl) ?_
            refine lv_bipush (v := 6) hx hb dX7_prepare_112 (by decide) ?_
            refine lv_icmp_gt (tgt := 143) hx hb dX7_prepare_114 (by decide) (fun c54 => ?_) (fun c54 => ?_)
            ·
              have cc55 : (6 : Int32).toInt < y110_l4.toInt := i32_lt.mp c54
              have hb56 : In y110_l4 7 7 := In.gt1 hy110_l4 (⟨by decide, by decide⟩ : In 6 6 6) cc55 (by omega) (by omega)
              refine lv_iconst (v := 0) hx hb dX7_prepare_143 (by decide) ?_
              refine lv_istore (lv' := [(4, .int 0), (0, .ref (ad 18)), (1, .ref (ad 6)), (2, .int z2), (3, .int z3)]) hx hb dX7_prepare_144 hl (by decide) rfl (fun ls hl => ?_)
              have hJ146 : ∀ (k146 : Nat) (y146_l4 : Int32) (f_146 : HP) (H : Heap) (locs : List Loc) (ls : Array Slot), In y146_l4 0 48 → va_P g.1 vwCl (va_pl L f_146) H → va_D A (va_pl L f_146) → va_S A s.heap H locs → TI g ad th f_146 → (∀ b, b ≠ (ad 18) → b ≠ (ad 19) → b ≠ (ad 20) → b ≠ (ad 23) → b ≠ (ad 8) → f_146 b = f b) → f_146 (ad 18) = .inr (7, [.ref (ad 8), .ref (ad 19), .ref (ad 20), .ref (ad 21), .ref (ad 22), .ref (ad 23), .int v6_48, .int v7_48, .int v8_48, .int v9_48, .int v10_48, .int v11_48, .int v12_48, .int v13_48]) → f_146 (ad 8) = .inr (2, [.int v0_18, .int v1_18, .int v2_18, .int v3_18, .int v4_18, .int v5_18, .int v6_18, .int v7_18]) → lv_has ls 5 [(0, .ref (ad 18)), (1, .ref (ad 6)), (2, .int z2), (3, .int z3), (4, .int y146_l4)] → 48 - y146_l4.toInt < ((k146 : Nat) : Int) → W p l e rm_X7_prepare s m [.ref (ad 18), .ref (ad 6), .int z2, .int z3].toArray below meth c H locs 0 0 (MQ below (va_Qv (po_X7_prepare g ad th L f z2 z3) (PstB g A) A) [.ref (ad 18), .ref (ad 6), .int z2, .int z3].toArray s rm_X7_prepare.cells rm_X7_prepare.slots A) (F0 m 146 ls []) := by
                intro k146
                induction k146 with
                | zero =>
                  intro y146_l4 f_146 H locs ls hy146_l4 hP hD hS hT hfr hf57 hf58 hl hmz
                  exact ms0 hy146_l4 hmz
                | succ k146 ih146 =>
                  intro y146_l4 f_146 H locs ls hy146_l4 hP hD hS hT hfr hf57 hf58 hl hmz
                  refine lv_iload hx hb dX7_prepare_146 (lv_at hl 4 rfl) ?_
                  refine lv_aload_n hx hb dX7_prepare_148 rfl (lv_at hl 0 rfl) ?_
                  refine pl_get (v := .ref (ad 23)) hx hb hts (fun w h => mT (inX7 w h)) hown hG.1 hP (hst.1 18 (by decide)) hf57 rfl 5 (by decide) (hts _ (mT wg_437)) (fun _ h => h) rfl dX7_prepare_149 ?_
                  obtain ⟨rw59, hf60⟩ := hT.1 23 (by decide)
                  refine pl_alen (v := 48) hx hb hG.1 hP (hst.1 23 (by decide)) 1 hf60 rfl (rfl) dX7_prepare_152 ?_
                  refine lv_icmp_ge (tgt := 170) hx hb dX7_prepare_153 (by decide) (fun c61 => ?_) (fun c61 => ?_)
                  ·
                    have cc62 : (48 : Int32).toInt ≤ y146_l4.toInt := i32_le.mp c61
                    have hb63 : In y146_l4 48 48 := In.ge1 hy146_l4 (⟨by decide, by decide⟩ : In 48 48 48) cc62 (by omega) (by omega)
                    exact ret_v hx hb hr hlocks hP hD hS (Nat.le_of_ble_eq_true rfl) (Nat.le_of_ble_eq_true rfl) (⟨rfl, hT, hfr⟩) dX7_prepare_170
                  ·
                    have cc64 : y146_l4.toInt < (48 : Int32).toInt := i32_nle c61
                    have hb65 : In y146_l4 0 47 := In.lt1 hy146_l4 (⟨by decide, by decide⟩ : In 48 48 48) cc64 (by omega) (by omega)
                    refine lv_aload_n hx hb dX7_prepare_156 rfl (lv_at hl 0 rfl) ?_
                    refine pl_get (v := .ref (ad 23)) hx hb hts (fun w h => mT (inX7 w h)) hown hG.1 hP (hst.1 18 (by decide)) hf57 rfl 5 (by decide) (hts _ (mT wg_437)) (fun _ h => h) rfl dX7_prepare_157 ?_
                    refine lv_iload hx hb dX7_prepare_160 (lv_at hl 4 rfl) ?_
                    refine lv_lconst (v := 0) hx hb dX7_prepare_162 (by decide) ?_
                    refine pl_lastE hx hb hG.1 hP hD hS (hst.1 23 (by decide)) 1 hf60 rfl (In.inb hb65 (by decide) (by decide)) dX7_prepare_163 (fun H locs f66 r69 er69 hf67 ho68 hP hD hS => ?_)
                    have hf70 := (ho68 (ad 8) (hst.ne (by decide) (by decide) (by decide))).trans hf58
                    have hf71 := (ho68 (ad 18) (hst.ne (by decide) (by decide) (by decide))).trans hf57
                    have hfr : (∀ b, b ≠ (ad 18) → b ≠ (ad 19) → b ≠ (ad 20) → b ≠ (ad 23) → b ≠ (ad 8) → f66 b = f b) := fun b z0_ z1_ z2_ z3_ z4_ => (ho68 b z3_).trans (hfr b z0_ z1_ z2_ z3_ z4_)
                    obtain ⟨x72, ex72⟩ : ∃ y : Int32, y = y146_l4 + 1 := ⟨_, rfl⟩
                    have hb73 : In x72 1 48 := ex72 ▸ In.add hb65 (⟨by decide, by decide⟩ : In 1 1 1) (by decide) (by decide) (by decide) (by decide)
                    have et74 : x72.toInt = y146_l4.toInt + 1 := In.adde ex72 hb65 (k := 1) (by decide) (by decide) (by decide)
                    refine lv_iinc (v := x72) (lv' := [(4, .int x72), (0, .ref (ad 18)), (1, .ref (ad 6)), (2, .int z2), (3, .int z3)]) hx hb dX7_prepare_164 hl (k := 4) rfl (by rw [ex72]; rfl) (by decide) rfl (fun ls hl => ?_)
                    have hT := TI.updA hT hst (k := 23) (by decide) hf67 ho68 ⟨r69, rfl⟩
                    refine lv_goto (tgt := 146) hx hb dX7_prepare_167 (by decide) ?_
                    exact ih146 x72 _ _ _ _ (In.mono hb73 (by decide) (by decide)) hP hD hS hT hfr hf71 hf70 (lv_sub hl [1, 2, 3, 4, 0] rfl) (msu et74 (by decide) hmz)
              exact hJ146 ((48 - (0 : Int32).toInt).toNat + 1) 0 _ _ _ _ (⟨by decide, by decide⟩ : In 0 0 48) hP hD hS hT hfr hf52 hf53 (lv_sub hl [1, 2, 3, 4, 0] rfl) (msI _)
            ·
              have cc75 : y110_l4.toInt ≤ (6 : Int32).toInt := i32_nlt c54
              have hb76 : In y110_l4 0 6 := In.le1 hy110_l4 (⟨by decide, by decide⟩ : In 6 6 6) cc75 (by omega) (by omega)
              refine lv_aload_n hx hb dX7_prepare_117 rfl (lv_at hl 0 rfl) ?_
              refine pl_get (v := .ref (ad 20)) hx hb hts (fun w h => mT (inX7 w h)) hown hG.1 hP (hst.1 18 (by decide)) hf52 rfl 2 (by decide) (hts _ (mT wg_434)) (fun _ h => h) rfl dX7_prepare_118 ?_
              refine lv_iload hx hb dX7_prepare_121 (lv_at hl 4 rfl) ?_
              refine lv_aload_n hx hb dX7_prepare_123 rfl (lv_at hl 0 rfl) ?_
              refine pl_get (v := .ref (ad 8)) hx hb hts (fun w h => mT (inX7 w h)) hown hG.1 hP (hst.1 18 (by decide)) hf52 rfl 0 (by decide) (hts _ (mT wg_432)) (fun _ h => h) rfl dX7_prepare_124 ?_
              refine lv_aload_n hx hb dX7_prepare_127 rfl (lv_at hl 0 rfl) ?_
              refine pl_get (v := .int v8_48) hx hb hts (fun w h => mT (inX7 w h)) hown hG.1 hP (hst.1 18 (by decide)) hf52 rfl 8 (by decide) (hts _ (mT wg_440)) (fun _ h => h) rfl dX7_prepare_128 ?_
              refine lv_iload hx hb dX7_prepare_131 (lv_at hl 4 rfl) ?_
              refine call_i (run_VN (rm := rm_X2_freeLetters_ru) hx hb hml hown hts (s_X2_freeLetters_ru l g ad th _ _ _ v8_48 y110_l4 hst hT (In.mono hb76 (by decide) (by decide))) cV_X2_freeLetters wn_1044 ⟨Nat.le_of_ble_eq_true rfl, Nat.le_of_ble_eq_true rfl⟩ hG hE hA hP hD hS (hst.1 8 (by decide)) hf53 rfl rfl hl.1 (As := [.int v8_48, .int y110_l4]) (rest := [.int y110_l4, .ref (ad 20)]) rfl (Nat.le_of_ble_eq_true rfl) dX7_prepare_133 ⟨Nat.le_of_ble_eq_true rfl, Nat.le_of_ble_eq_true rfl⟩) hA hD hS (fun r77 L78 f79 H locs hp80 hP hD hS => ?_)
              obtain ⟨eL81L, eL81T⟩ := hp80
              have eL81L : L78 = L := eL81L
              have eL81T : f79 = f_110 := eL81T
              rw [eL81L, eL81T] at hP hD
              obtain ⟨rw82, hf83⟩ := hT.1 20 (by decide)
              refine pl_iastE hx hb hG.1 hP hD hS (hst.1 20 (by decide)) 0 hf83 rfl (In.inb hb76 (by decide) (by decide)) dX7_prepare_136 (fun H locs f84 r87 er87 hf85 ho86 hP hD hS => ?_)
              have hf88 := (ho86 (ad 8) (hst.ne (by decide) (by decide) (by decide))).trans hf53
              have hf89 := (ho86 (ad 18) (hst.ne (by decide) (by decide) (by decide))).trans hf52
              have hfr : (∀ b, b ≠ (ad 18) → b ≠ (ad 19) → b ≠ (ad 20) → b ≠ (ad 23) → b ≠ (ad 8) → f84 b = f b) := fun b z0_ z1_ z2_ z3_ z4_ => (ho86 b z2_).trans (hfr b z0_ z1_ z2_ z3_ z4_)
              obtain ⟨x90, ex90⟩ : ∃ y : Int32, y = y110_l4 + 1 := ⟨_, rfl⟩
              have hb91 : In x90 1 7 := ex90 ▸ In.add hb76 (⟨by decide, by decide⟩ : In 1 1 1) (by decide) (by decide) (by decide) (by decide)
              have et92 : x90.toInt = y110_l4.toInt + 1 := In.adde ex90 hb76 (k := 1) (by decide) (by decide) (by decide)
              refine lv_iinc (v := x90) (lv' := [(4, .int x90), (0, .ref (ad 18)), (1, .ref (ad 6)), (2, .int z2), (3, .int z3)]) hx hb dX7_prepare_137 hl (k := 4) rfl (by rw [ex90]; rfl) (by decide) rfl (fun ls hl => ?_)
              have hT := TI.updA hT hst (k := 20) (by decide) hf85 ho86 ⟨r87, rfl⟩
              refine lv_goto (tgt := 110) hx hb dX7_prepare_140 (by decide) ?_
              exact ih110 x90 _ _ _ _ (In.mono hb91 (by decide) (by decide)) hP hD hS hT hfr hf89 hf88 (lv_sub hl [1, 2, 3, 4, 0] rfl) (msu et92 (by decide) hmz)
        exact hJ110 ((7 - (0 : Int32).toInt).toNat + 1) 0 _ _ _ _ (⟨by decide, by decide⟩ : In 0 0 7) hP hD hS hT hfr hf49 hf47 (lv_sub hl [1, 2, 3, 4, 0] rfl) (msI _)
      ·
        have cc93 : y55_l4.toInt < v1_18.toInt := i32_nle c50
        have hb94 : In y55_l4 0 8 := In.lt1 hy55_l4 hv1_18 cc93 (by omega) (by omega)
        have hb95 : In v1_18 1 9 := In.lt2 hy55_l4 hv1_18 cc93 (by omega) (by omega)
        refine lv_aload_n hx hb dX7_prepare_67 rfl (lv_at hl 0 rfl) ?_
        refine pl_get (v := .int v9_48) hx hb hts (fun w h => mT (inX7 w h)) hown hG.1 hP (hst.1 18 (by decide)) hf49 rfl 9 (by decide) (hts _ (mT wg_441)) (fun _ h => h) rfl dX7_prepare_68 ?_
        refine lv_iload hx hb dX7_prepare_71 (lv_at hl 4 rfl) ?_
        refine call_i (run_SN (rm := rm_X10_bit) hx hb hml hown hts (s_X10_bit l g ad th _ _ _ v9_48 y55_l4 hst hT ) cS_X10_bit wn_1043 ⟨Nat.le_of_ble_eq_true rfl, Nat.le_of_ble_eq_true rfl⟩ hG hE hA hP hD hS rfl hl.1 (As := [.int v9_48, .int y55_l4]) (rest := []) rfl (Nat.le_of_ble_eq_true rfl) dX7_prepare_73 ⟨Nat.le_of_ble_eq_true rfl, Nat.le_of_ble_eq_true rfl⟩) hA hD hS (fun r96 L97 f98 H locs hp99 hP hD hS => ?_)
        obtain ⟨eL100L, eL100T, eL100R⟩ := hp99
        have eL100L : L97 = L := eL100L
        have eL100T : f98 = f_55 := eL100T
        rw [eL100L, eL100T] at hP hD
        have eL100R : In r96 0 1 := eL100R
        refine lv_iconst (v := 1) hx hb dX7_prepare_76 (by decide) ?_
        have hJ101 : ∀ (f_101 : HP) (H : Heap) (locs : List Loc) (ls : Array Slot), va_P g.1 vwCl (va_pl L f_101) H → va_D A (va_pl L f_101) → va_S A s.heap H locs → TI g ad th f_101 → (∀ b, b ≠ (ad 18) → b ≠ (ad 19) → b ≠ (ad 20) → b ≠ (ad 23) → b ≠ (ad 8) → f_101 b = f b) → f_101 (ad 8) = .inr (2, [.int v0_18, .int v1_18, .int v2_18, .int v3_18, .int v4_18, .int v5_18, .int v6_18, .int v7_18]) → lv_has ls 5 [(0, .ref (ad 18)), (1, .ref (ad 6)), (2, .int z2), (3, .int z3), (4, .int y55_l4)] → W p l e rm_X7_prepare s m [.ref (ad 18), .ref (ad 6), .int z2, .int z3].toArray below meth c H locs 0 0 (MQ below (va_Qv (po_X7_prepare g ad th L f z2 z3) (PstB g A) A) [.ref (ad 18), .ref (ad 6), .int z2, .int z3].toArray s rm_X7_prepare.cells rm_X7_prepare.slots A) (F0 m 101 ls []) := by
          intro f_101 H locs ls hP hD hS hT hfr hf101 hl
          obtain ⟨x102, ex102⟩ : ∃ y : Int32, y = y55_l4 + 1 := ⟨_, rfl⟩
          have hb103 : In x102 1 9 := ex102 ▸ In.add hb94 (⟨by decide, by decide⟩ : In 1 1 1) (by decide) (by decide) (by decide) (by decide)
          have et104 : x102.toInt = y55_l4.toInt + 1 := In.adde ex102 hb94 (k := 1) (by decide) (by decide) (by decide)
          refine lv_iinc (v := x102) (lv' := [(4, .int x102), (0, .ref (ad 18)), (1, .ref (ad 6)), (2, .int z2), (3, .int z3)]) hx hb dX7_prepare_101 hl (k := 4) rfl (by rw [ex102]; rfl) (by decide) rfl (fun ls hl => ?_)
          refine lv_goto (tgt := 55) hx hb dX7_prepare_104 (by decide) ?_
          exact ih55 x102 _ _ _ _ (In.mono hb103 (by decide) (by decide)) hP hD hS hT hfr hf101 (lv_sub hl [1, 2, 3, 4, 0] rfl) (msu et104 (by decide) hmz)
        refine lv_icmp_ne (tgt := 101) hx hb dX7_prepare_77 (by decide) (fun c105 => ?_) (fun c105 => ?_)
        ·
          have cc106 : r96.toInt ≠ (1 : Int32).toInt := i32_ne c105
          have hb107 : In r96 0 0 := In.ne1 eL100R (⟨by decide, by decide⟩ : In 1 1 1) cc106 (by omega) (by omega)
          exact hJ101 _ _ _ _ hP hD hS hT hfr hf47 (lv_sub hl [0, 1, 2, 3, 4] rfl)
        ·
          have cc108 : r96.toInt = (1 : Int32).toInt := congrArg Int32.toInt c105
          have hb109 : In r96 1 1 := In.eq1 eL100R (⟨by decide, by decide⟩ : In 1 1 1) cc108 (by omega) (by omega)
          refine lv_aload_n hx hb dX7_prepare_80 rfl (lv_at hl 0 rfl) ?_
          refine pl_get (v := .ref (ad 19)) hx hb hts (fun w h => mT (inX7 w h)) hown hG.1 hP (hst.1 18 (by decide)) hf49 rfl 1 (by decide) (hts _ (mT wg_433)) (fun _ h => h) rfl dX7_prepare_81 ?_
          refine lv_aload_n hx hb dX7_prepare_84 rfl (lv_at hl 0 rfl) ?_
          refine pl_get (v := .int v10_48) hx hb hts (fun w h => mT (inX7 w h)) hown hG.1 hP (hst.1 18 (by decide)) hf49 rfl 10 (by decide) (hts _ (mT wg_442)) (fun _ h => h) rfl dX7_prepare_85 ?_
          refine lv_iload hx hb dX7_prepare_88 (lv_at hl 4 rfl) ?_
          obtain ⟨rw110, hf111, hc112⟩ := hT.1 19 (by decide)
          refine pl_iastE hx hb hG.1 hP hD hS (hst.1 19 (by decide)) 0 hf111 rfl (vp_of (by obtain ⟨o0a, o0b⟩ := (hv10_48 : In _ _ _); omega) (by obtain ⟨o0a, o0b⟩ := (hv10_48 : In _ _ _); omega)) dX7_prepare_90 (fun H locs f113 r116 er116 hf114 ho115 hP hD hS => ?_)
          have hc117 : ∀ i : Nat, i < 9 → In (r116 i) 0 8 := cont_upd er116 hc112 hb94
          have hf118 := (ho115 (ad 8) (hst.ne (by decide) (by decide) (by decide))).trans hf47
          have hf119 := (ho115 (ad 18) (hst.ne (by decide) (by decide) (by decide))).trans hf49
          have hfr : (∀ b, b ≠ (ad 18) → b ≠ (ad 19) → b ≠ (ad 20) → b ≠ (ad 23) → b ≠ (ad 8) → f113 b = f b) := fun b z0_ z1_ z2_ z3_ z4_ => (ho115 b z1_).trans (hfr b z0_ z1_ z2_ z3_ z4_)
          refine lv_aload_n hx hb dX7_prepare_91 rfl (lv_at hl 0 rfl) ?_
          refine lv_dup hx hb dX7_prepare_92 rfl ?_
          refine pl_get (v := .int v10_48) hx hb hts (fun w h => mT (inX7 w h)) hown hG.1 hP (hst.1 18 (by decide)) hf119 rfl 10 (by decide) (hts _ (mT wg_442)) (fun _ h => h) rfl dX7_prepare_93 ?_
          refine lv_iconst (v := 1) hx hb dX7_prepare_96 (by decide) ?_
          refine lv_iadd hx hb dX7_prepare_97 ?_
          refine lv_topi (fun x120 ex120 => ?_)
          have hb121 : In x120 1 10 := ex120 ▸ In.add hv10_48 (⟨by decide, by decide⟩ : In 1 1 1) (by decide) (by decide) (by decide) (by decide)
          have et122 : x120.toInt = v10_48.toInt + 1 := In.adde ex120 hv10_48 (k := 1) (by decide) (by decide) (by decide)
          have hT := TI.updA hT hst (k := 19) (by decide) hf114 ho115 ⟨r116, rfl, hc117⟩
          refine pl_put (ty := .int) (v := .int x120) (fs' := [.ref (ad 8), .ref (ad 19), .ref (ad 20), .ref (ad 21), .ref (ad 22), .ref (ad 23), .int v6_48, .int v7_48, .int v8_48, .int v9_48, .int x120, .int v11_48, .int v12_48, .int v13_48]) hx hb hts (fun w h => mT (inX7 w h)) tyX7 tyX7_ok nmX7 hown hG.1 hP hD hS (hst.1 18 (by decide)) hf119 rfl 10 (by decide) (hts _ (mT wg_442)) (fun _ h => h) rfl (by decide +kernel) (rfl) (rfl) (Nat.le_of_ble_eq_true rfl) rfl dX7_prepare_98 (fun H locs f123 hf124 ho125 hP hD hS => ?_)
          have hf126 := (ho125 (ad 8) (hst.ne (by decide) (by decide) (by decide))).trans hf118
          have hf127 := (ho125 (ad 19) (hst.ne (by decide) (by decide) (by decide))).trans hf114
          have hfr : (∀ b, b ≠ (ad 18) → b ≠ (ad 19) → b ≠ (ad 20) → b ≠ (ad 23) → b ≠ (ad 8) → f123 b = f b) := fun b z0_ z1_ z2_ z3_ z4_ => (ho125 b z0_).trans (hfr b z0_ z1_ z2_ z3_ z4_)
          have hT := TI.updA hT hst (k := 18) (by decide) hf124 ho125 ⟨v6_48, v7_48, v8_48, v9_48, x120, v11_48, v12_48, v13_48, rfl, hv8_48, hv9_48, (In.mk (by obtain ⟨o0a, o0b⟩ := (hb121 : In _ _ _); obtain ⟨o1a, o1b⟩ := (hv10_48 : In _ _ _); omega) (by obtain ⟨o0a, o0b⟩ := (hb121 : In _ _ _); obtain ⟨o1a, o1b⟩ := (hv10_48 : In _ _ _); omega)), hv11_48, hv13_48⟩
          exact hJ101 _ _ _ _ hP hD hS hT hfr hf126 (lv_sub hl [0, 1, 2, 3, 4] rfl)
  exact hJ55 ((9 - (0 : Int32).toInt).toNat + 1) 0 _ _ _ _ (⟨by decide, by decide⟩ : In 0 0 9) hP hD hS hT hfr hf45 (lv_sub hl [1, 2, 3, 4, 0] rfl) (msI _)

abbrev rm_X7_explore_6 : Room := { frames := 1, cells := 0, slots := 0, locals := 22 }
abbrev po_X7_explore_6 (g : GG) (ad : Nat → Nat) (th : Nat → Int) (L : List Nat) (f : HP) (z2 : Int32) (z3 : Int64) (z4 : Int32) : (List Nat × HP) → Prop := fun u => u.1 = L ∧ TI g ad th u.2 ∧ (∀ b, b ≠ (ad 18) → u.2 b = f b)
set_option maxHeartbeats 4000000 in
set_option maxRecDepth 100000 in
theorem s_X7_explore_6 (l : Launch) (g : GG) (ad : Nat → Nat) (th : Nat → Int) (L : List Nat) (f : HP) (sz : Nat) (z2 : Int32) (z3 : Int64) (z4 : Int32) (hst : ST ad L) (hT : TI g ad th f) (hz2 : In z2 0 511) : MtV l g yX7_explore cX7_explore 8 rm_X7_explore_6 [.ref (ad 18), .int 6, .int z2, .long z3, .int z4] L f sz (po_X7_explore_6 g ad th L f z2 z3 z4) := by
  refine MtV.of (by decide +kernel) (Nat.le_of_ble_eq_true rfl) ?_
  intro p e s m below meth c A hEn hP hD hS ls hl
  obtain ⟨hx, hb, hr, hml, hown, hlocks, hts, hG, hA, hE, hnm⟩ := hEn
  have hown : s.vm.findClass "RulerWord$Search" = some m.cls := hown
  have hl : lv_has ls 8 [(0, .ref (ad 18)), (1, .int 6), (2, .int z2), (3, .long z3), (5, .int z4)] := hl
  have hfr : (∀ b, b ≠ (ad 18) → f b = f b) := fun b z0_ => rfl
  refine lv_iload_n hx hb dX7_explore_0 rfl (lv_at hl 1 rfl) ?_
  refine lv_aload_n hx hb dX7_explore_1 rfl (lv_at hl 0 rfl) ?_
  obtain ⟨v6_1, v7_1, v8_1, v9_1, v10_1, v11_1, v12_1, v13_1, hf2, hv8_1, hv9_1, hv10_1, hv11_1, hv13_1⟩ := hT.1 18 (by decide)
  refine pl_get (v := .int v7_1) hx hb hts (fun w h => mT (inX7 w h)) hown hG.1 hP (hst.1 18 (by decide)) hf2 rfl 7 (by decide) (hts _ (mT wg_439)) (fun _ h => h) rfl dX7_explore_2 ?_
  have hJ14 : ∀ (H : Heap) (locs : List Loc) (ls : Array Slot), va_P g.1 vwCl (va_pl L f) H → va_D A (va_pl L f) → va_S A s.heap H locs → lv_has ls 8 [(0, .ref (ad 18)), (1, .int 6), (2, .int z2), (3, .long z3), (5, .int z4)] → W p l e rm_X7_explore_6 s m [.ref (ad 18), .int 6, .int z2, .long z3, .int z4].toArray below meth c H locs 0 0 (MQ below (va_Qv (po_X7_explore_6 g ad th L f z2 z3 z4) (PstB g A) A) [.ref (ad 18), .int 6, .int z2, .long z3, .int z4].toArray s rm_X7_explore_6.cells rm_X7_explore_6.slots A) (F0 m 14 ls []) := by
    intro H locs ls hP hD hS hl
    refine lv_aload_n hx hb dX7_explore_14 rfl (lv_at hl 0 rfl) ?_
    refine lv_iload_n hx hb dX7_explore_15 rfl (lv_at hl 2 rfl) ?_
    refine lv_iload hx hb dX7_explore_16 (lv_at hl 4 rfl) ?_
    refine call_v (run_V (rm := rm_X7_judge) hx hb hml hown hts (s_X7_judge l g ad th _ _ _ z2 z4 hst hT hz2) cV_X7_judge wg_1053 ⟨Nat.le_of_ble_eq_true rfl, Nat.le_of_ble_eq_true rfl⟩ hG hE hA hP hD hS (hst.1 18 (by decide)) hf2 rfl rfl hl.1 (As := [.int z2, .int z4]) (rest := []) rfl (Nat.le_of_ble_eq_true rfl) dX7_explore_18 ⟨Nat.le_of_ble_eq_true rfl, Nat.le_of_ble_eq_true rfl⟩) hA hD hS (fun L4 f5 H locs hp6 hP hD hS => ?_)
    obtain ⟨eL7L, eL7T, eL7F⟩ := hp6
    have eL7L : L4 = L := eL7L
    rw [eL7L] at hP hD
    have hT : TI g ad th f5 := eL7T
    have eL7F : ∀ b, b ≠ (ad 18) → f5 b = f b := eL7F
    have hfr : (∀ b, b ≠ (ad 18) → f5 b = f b) := fun b z0_ => (eL7F b z0_).trans (hfr b z0_)
    exact ret_v hx hb hr hlocks hP hD hS (Nat.le_of_ble_eq_true rfl) (Nat.le_of_ble_eq_true rfl) (⟨rfl, hT, hfr⟩) dX7_explore_21
  refine lv_icmp_ge (tgt := 14) hx hb dX7_explore_5 (by decide) (fun c8 => ?_) (fun c8 => ?_)
  ·
    have cc9 : v7_1.toInt ≤ (6 : Int32).toInt := i32_le.mp c8
    have hb10 : In v7_1 (-2147483648) 6 := In.ge2 (⟨by decide, by decide⟩ : In 6 6 6) (In.full v7_1) cc9 (by omega) (by omega)
    exact hJ14 _ _ _ hP hD hS (lv_sub hl [0, 1, 2, 3, 4] rfl)
  ·
    have cc11 : (6 : Int32).toInt < v7_1.toInt := i32_nle c8
    have hb12 : In v7_1 7 2147483647 := In.lt2 (⟨by decide, by decide⟩ : In 6 6 6) (In.full v7_1) cc11 (by omega) (by omega)
    refine lv_iload_n hx hb dX7_explore_8 rfl (lv_at hl 1 rfl) ?_
    refine lv_bipush (v := 6) hx hb dX7_explore_9 (by decide) ?_
    refine lv_icmp_lt (tgt := 22) hx hb dX7_explore_11 (by decide) (fun c13 => ?_) (fun c13 => ?_)
    ·
      have cc14 : (6 : Int32).toInt < (6 : Int32).toInt := i32_lt.mp c13
      exact In.empty (lo := 6) (hi := 5) (In.lt1 (⟨by decide, by decide⟩ : In 6 6 6) (⟨by decide, by decide⟩ : In 6 6 6) cc14 (by omega) (by omega)) (by decide)
    ·
      exact hJ14 _ _ _ hP hD hS (lv_sub hl [0, 1, 2, 3, 4] rfl)

abbrev rm_X7_tryRuler_5 : Room := { frames := 2, cells := 0, slots := 0, locals := 49 }
abbrev po_X7_tryRuler_5 (g : GG) (ad : Nat → Nat) (th : Nat → Int) (L : List Nat) (f : HP) (z2 : Int32) (z3 : Int32) (z4 : Int64) (z5 : Int32) : (List Nat × HP) → Prop := fun u => u.1 = L ∧ TI g ad th u.2 ∧ (∀ b, b ≠ (ad 18) → u.2 b = f b)
set_option maxHeartbeats 4000000 in
set_option maxRecDepth 100000 in
theorem s_X7_tryRuler_5 (l : Launch) (g : GG) (ad : Nat → Nat) (th : Nat → Int) (L : List Nat) (f : HP) (sz : Nat) (z2 : Int32) (z3 : Int32) (z4 : Int64) (z5 : Int32) (hst : ST ad L) (hT : TI g ad th f) (hz2 : In z2 0 511) : MtV l g yX7_tryRuler cX7_tryRuler 21 rm_X7_tryRuler_5 [.ref (ad 18), .int 5, .int z2, .int z3, .long z4, .int z5] L f sz (po_X7_tryRuler_5 g ad th L f z2 z3 z4 z5) := by
  refine MtV.of (by decide +kernel) (Nat.le_of_ble_eq_true rfl) ?_
  intro p e s m below meth c A hEn hP hD hS ls hl
  obtain ⟨hx, hb, hr, hml, hown, hlocks, hts, hG, hA, hE, hnm⟩ := hEn
  have hown : s.vm.findClass "RulerWord$Search" = some m.cls := hown
  have hl : lv_has ls 21 [(0, .ref (ad 18)), (1, .int 5), (2, .int z2), (3, .int z3), (4, .long z4), (6, .int z5)] := hl
  have hfr : (∀ b, b ≠ (ad 18) → f b = f b) := fun b z0_ => rfl
  refine lv_aload_n hx hb dX7_tryRuler_0 rfl (lv_at hl 0 rfl) ?_
  obtain ⟨v6_1, v7_1, v8_1, v9_1, v10_1, v11_1, v12_1, v13_1, hf2, hv8_1, hv9_1, hv10_1, hv11_1, hv13_1⟩ := hT.1 18 (by decide)
  refine pl_get (v := .ref (ad 8)) hx hb hts (fun w h => mT (inX7 w h)) hown hG.1 hP (hst.1 18 (by decide)) hf2 rfl 0 (by decide) (hts _ (mT wg_432)) (fun _ h => h) rfl dX7_tryRuler_1 ?_
  refine lv_iload_n hx hb dX7_tryRuler_4 rfl (lv_at hl 1 rfl) ?_
  obtain ⟨v0_3, v1_3, v2_3, v3_3, v4_3, v5_3, v6_3, v7_3, hf4, hv0_3, hv1_3, hv2_3, hv3_3, hv5_3, hv6_3⟩ := hT.1 8 (by decide)
  refine call_i (run_VN (rm := rm_X2_ruler_ru) hx hb hml hown hts (s_X2_ruler_ru l g ad th _ _ _ 5 hst hT (⟨by decide, by decide⟩ : In 5 0 6)) cV_X2_ruler wn_1093 ⟨Nat.le_of_ble_eq_true rfl, Nat.le_of_ble_eq_true rfl⟩ hG hE hA hP hD hS (hst.1 8 (by decide)) hf4 rfl rfl hl.1 (As := [.int 5]) (rest := []) rfl (Nat.le_of_ble_eq_true rfl) dX7_tryRuler_5 ⟨Nat.le_of_ble_eq_true rfl, Nat.le_of_ble_eq_true rfl⟩) hA hD hS (fun r5 L6 f7 H locs hp8 hP hD hS => ?_)
  obtain ⟨eL9L, eL9T, eL9R⟩ := hp8
  have eL9L : L6 = L := eL9L
  have eL9T : f7 = f := eL9T
  rw [eL9L, eL9T] at hP hD
  have eL9R : In r5 0 8 := eL9R
  refine lv_istore (lv' := [(7, .int r5), (0, .ref (ad 18)), (1, .int 5), (2, .int z2), (3, .int z3), (4, .long z4), (6, .int z5)]) hx hb dX7_tryRuler_8 hl (by decide) rfl (fun ls hl => ?_)
  refine lv_iload hx hb dX7_tryRuler_10 (lv_at hl 0 rfl) ?_
  refine lv_bipush (v := 9) hx hb dX7_tryRuler_12 (by decide) ?_
  refine lv_imul hx hb dX7_tryRuler_14 ?_
  refine lv_topi (fun x10 ex10 => ?_)
  have hb11 : In x10 0 72 := ex10 ▸ In.mul eL9R (⟨by decide, by decide⟩ : In 9 9 9) (by decide) (by decide) (by decide) (by decide) (by decide)
  refine lv_istore (lv' := [(8, .int x10), (7, .int r5), (0, .ref (ad 18)), (1, .int 5), (2, .int z2), (3, .int z3), (4, .long z4), (6, .int z5)]) hx hb dX7_tryRuler_15 hl (by decide) rfl (fun ls hl => ?_)
  refine lv_aload_n hx hb dX7_tryRuler_17 rfl (lv_at hl 2 rfl) ?_
  refine pl_get (v := .ref (ad 8)) hx hb hts (fun w h => mT (inX7 w h)) hown hG.1 hP (hst.1 18 (by decide)) hf2 rfl 0 (by decide) (hts _ (mT wg_432)) (fun _ h => h) rfl dX7_tryRuler_18 ?_
  refine pl_getN (v := .int v6_3) hx hb hts (fun w h => mT (inX2 w h)) hown hG.1 hP (hst.1 8 (by decide)) hf4 rfl 6 (by decide) (hG.2.1 _ wn_243) (fun _ h => h) rfl dX7_tryRuler_21 ?_
  have hJ41 : ∀ (y41_s0 : Int32) (H : Heap) (locs : List Loc) (ls : Array Slot), In y41_s0 0 511 → va_P g.1 vwCl (va_pl L f) H → va_D A (va_pl L f) → va_S A s.heap H locs → lv_has ls 21 [(0, .ref (ad 18)), (1, .int 5), (2, .int z2), (3, .int z3), (4, .long z4), (6, .int z5), (7, .int r5), (8, .int x10)] → W p l e rm_X7_tryRuler_5 s m [.ref (ad 18), .int 5, .int z2, .int z3, .long z4, .int z5].toArray below meth c H locs 0 0 (MQ below (va_Qv (po_X7_tryRuler_5 g ad th L f z2 z3 z4 z5) (PstB g A) A) [.ref (ad 18), .int 5, .int z2, .int z3, .long z4, .int z5].toArray s rm_X7_tryRuler_5.cells rm_X7_tryRuler_5.slots A) (F0 m 41 ls [.int y41_s0]) := by
    intro y41_s0 H locs ls hy41_s0 hP hD hS hl
    refine lv_istore (lv' := [(9, .int y41_s0), (0, .ref (ad 18)), (1, .int 5), (2, .int z2), (3, .int z3), (4, .long z4), (6, .int z5), (7, .int r5), (8, .int x10)]) hx hb dX7_tryRuler_41 hl (by decide) rfl (fun ls hl => ?_)
    refine lv_aload_n hx hb dX7_tryRuler_43 rfl (lv_at hl 1 rfl) ?_
    refine pl_get (v := .int v9_1) hx hb hts (fun w h => mT (inX7 w h)) hown hG.1 hP (hst.1 18 (by decide)) hf2 rfl 9 (by decide) (hts _ (mT wg_441)) (fun _ h => h) rfl dX7_tryRuler_44 ?_
    refine lv_iload_n hx hb dX7_tryRuler_47 rfl (lv_at hl 4 rfl) ?_
    refine lv_iconst (v := (-1)) hx hb dX7_tryRuler_48 (by decide) ?_
    refine lv_ixor hx hb dX7_tryRuler_49 ?_
    refine lv_topi (fun x12 ex12 => ?_)
    refine lv_iand hx hb dX7_tryRuler_50 ?_
    refine lv_topi (fun x13 ex13 => ?_)
    have hb14 : In x13 0 511 := ex13 ▸ In.andl hv9_1 (by decide)
    refine lv_iload hx hb dX7_tryRuler_51 (lv_at hl 0 rfl) ?_
    refine lv_iconst (v := (-1)) hx hb dX7_tryRuler_53 (by decide) ?_
    refine lv_ixor hx hb dX7_tryRuler_54 ?_
    refine lv_topi (fun x15 ex15 => ?_)
    refine lv_iand hx hb dX7_tryRuler_55 ?_
    refine lv_topi (fun x16 ex16 => ?_)
    have hb17 : In x16 0 511 := ex16 ▸ In.andl hb14 (by decide)
    refine lv_istore (lv' := [(10, .int x16), (9, .int y41_s0), (0, .ref (ad 18)), (1, .int 5), (2, .int z2), (3, .int z3), (4, .long z4), (6, .int z5), (7, .int r5), (8, .int x10)]) hx hb dX7_tryRuler_56 hl (by decide) rfl (fun ls hl => ?_)
    refine lv_iload hx hb dX7_tryRuler_58 (lv_at hl 0 rfl) ?_
    refine lv_aload_n hx hb dX7_tryRuler_60 rfl (lv_at hl 2 rfl) ?_
    refine lv_iload_n hx hb dX7_tryRuler_61 rfl (lv_at hl 3 rfl) ?_
    refine call_i (run_V (rm := rm_X7_doesSuspicionCount) hx hb hml hown hts (s_X7_doesSuspicionCount l g ad th _ _ _ 5 hst hT (⟨by decide, by decide⟩ : In 5 0 6)) cV_X7_doesSuspicionCount wg_1094 ⟨Nat.le_of_ble_eq_true rfl, Nat.le_of_ble_eq_true rfl⟩ hG hE hA hP hD hS (hst.1 18 (by decide)) hf2 rfl rfl hl.1 (As := [.int 5]) (rest := [.int x16]) rfl (Nat.le_of_ble_eq_true rfl) dX7_tryRuler_62 ⟨Nat.le_of_ble_eq_true rfl, Nat.le_of_ble_eq_true rfl⟩) hA hD hS (fun r18 L19 f20 H locs hp21 hP hD hS => ?_)
    obtain ⟨eL22L, eL22T, eL22R⟩ := hp21
    have eL22L : L19 = L := eL22L
    have eL22T : f20 = f := eL22T
    rw [eL22L, eL22T] at hP hD
    have eL22R : In r18 0 1 := eL22R
    have hJ73 : ∀ (y73_s0 : Int32) (H : Heap) (locs : List Loc) (ls : Array Slot), In y73_s0 (-2147483648) 2147483647 → va_P g.1 vwCl (va_pl L f) H → va_D A (va_pl L f) → va_S A s.heap H locs → lv_has ls 21 [(0, .ref (ad 18)), (1, .int 5), (2, .int z2), (3, .int z3), (4, .long z4), (6, .int z5), (7, .int r5), (8, .int x10), (9, .int y41_s0), (10, .int x16)] → W p l e rm_X7_tryRuler_5 s m [.ref (ad 18), .int 5, .int z2, .int z3, .long z4, .int z5].toArray below meth c H locs 0 0 (MQ below (va_Qv (po_X7_tryRuler_5 g ad th L f z2 z3 z4 z5) (PstB g A) A) [.ref (ad 18), .int 5, .int z2, .int z3, .long z4, .int z5].toArray s rm_X7_tryRuler_5.cells rm_X7_tryRuler_5.slots A) (F0 m 73 ls [.int y73_s0, .int x16]) := by
      intro y73_s0 H locs ls hy73_s0 hP hD hS hl
      refine lv_ior hx hb dX7_tryRuler_73 ?_
      refine lv_topi (fun x23 ex23 => ?_)
      refine lv_istore (lv' := [(11, .int x23), (0, .ref (ad 18)), (1, .int 5), (2, .int z2), (3, .int z3), (4, .long z4), (6, .int z5), (7, .int r5), (8, .int x10), (9, .int y41_s0), (10, .int x16)]) hx hb dX7_tryRuler_74 hl (by decide) rfl (fun ls hl => ?_)
      refine lv_iload_n hx hb dX7_tryRuler_76 rfl (lv_at hl 3 rfl) ?_
      refine lv_iload hx hb dX7_tryRuler_77 (lv_at hl 7 rfl) ?_
      refine call_i (run_SN (rm := rm_X10_bit) hx hb hml hown hts (s_X10_bit l g ad th _ _ _ z2 r5 hst hT ) cS_X10_bit wn_1043 ⟨Nat.le_of_ble_eq_true rfl, Nat.le_of_ble_eq_true rfl⟩ hG hE hA hP hD hS rfl hl.1 (As := [.int z2, .int r5]) (rest := []) rfl (Nat.le_of_ble_eq_true rfl) dX7_tryRuler_79 ⟨Nat.le_of_ble_eq_true rfl, Nat.le_of_ble_eq_true rfl⟩) hA hD hS (fun r24 L25 f26 H locs hp27 hP hD hS => ?_)
      obtain ⟨eL28L, eL28T, eL28R⟩ := hp27
      have eL28L : L25 = L := eL28L
      have eL28T : f26 = f := eL28T
      rw [eL28L, eL28T] at hP hD
      have eL28R : In r24 0 1 := eL28R
      refine lv_iconst (v := 1) hx hb dX7_tryRuler_82 (by decide) ?_
      have hJ94 : ∀ (y94_s0 : Int32) (H : Heap) (locs : List Loc) (ls : Array Slot), In y94_s0 0 511 → va_P g.1 vwCl (va_pl L f) H → va_D A (va_pl L f) → va_S A s.heap H locs → lv_has ls 21 [(0, .ref (ad 18)), (1, .int 5), (2, .int z2), (3, .int z3), (4, .long z4), (6, .int z5), (7, .int r5), (8, .int x10), (9, .int y41_s0), (10, .int x16), (11, .int x23)] → W p l e rm_X7_tryRuler_5 s m [.ref (ad 18), .int 5, .int z2, .int z3, .long z4, .int z5].toArray below meth c H locs 0 0 (MQ below (va_Qv (po_X7_tryRuler_5 g ad th L f z2 z3 z4 z5) (PstB g A) A) [.ref (ad 18), .int 5, .int z2, .int z3, .long z4, .int z5].toArray s rm_X7_tryRuler_5.cells rm_X7_tryRuler_5.slots A) (F0 m 94 ls [.int y94_s0]) := by
        intro y94_s0 H locs ls hy94_s0 hP hD hS hl
        refine lv_istore (lv' := [(12, .int y94_s0), (0, .ref (ad 18)), (1, .int 5), (2, .int z2), (3, .int z3), (4, .long z4), (6, .int z5), (7, .int r5), (8, .int x10), (9, .int y41_s0), (10, .int x16), (11, .int x23)]) hx hb dX7_tryRuler_94 hl (by decide) rfl (fun ls hl => ?_)
        refine lv_aload_n hx hb dX7_tryRuler_96 rfl (lv_at hl 1 rfl) ?_
        refine pl_get (v := .ref (ad 20)) hx hb hts (fun w h => mT (inX7 w h)) hown hG.1 hP (hst.1 18 (by decide)) hf2 rfl 2 (by decide) (hts _ (mT wg_434)) (fun _ h => h) rfl dX7_tryRuler_97 ?_
        refine lv_iload_n hx hb dX7_tryRuler_100 rfl (lv_at hl 2 rfl) ?_
        refine lv_iconst (v := 1) hx hb dX7_tryRuler_101 (by decide) ?_
        refine lv_iadd hx hb dX7_tryRuler_102 ?_
        refine lv_topi (fun x29 ex29 => ?_)
        obtain rfl : x29 = 6 := ex29.trans (by decide)
        obtain ⟨rw30, hf31⟩ := hT.1 20 (by decide)
        have hin32 : vp_in 6 7 := In.inb (⟨by decide, by decide⟩ : In 6 6 6) (by decide) (by decide)
        refine pl_iald hx hb hG.1 hP (hst.1 20 (by decide)) 0 hf31 rfl hin32 dX7_tryRuler_103 ?_
        refine lv_topi (fun x33 ex33 => ?_)
        refine lv_aload_n hx hb dX7_tryRuler_104 rfl (lv_at hl 1 rfl) ?_
        refine pl_get (v := .int v10_1) hx hb hts (fun w h => mT (inX7 w h)) hown hG.1 hP (hst.1 18 (by decide)) hf2 rfl 10 (by decide) (hts _ (mT wg_442)) (fun _ h => h) rfl dX7_tryRuler_105 ?_
        refine lv_isub hx hb dX7_tryRuler_108 ?_
        refine lv_topi (fun x34 ex34 => ?_)
        refine lv_istore (lv' := [(13, .int x34), (12, .int y94_s0), (0, .ref (ad 18)), (1, .int 5), (2, .int z2), (3, .int z3), (4, .long z4), (6, .int z5), (7, .int r5), (8, .int x10), (9, .int y41_s0), (10, .int x16), (11, .int x23)]) hx hb dX7_tryRuler_109 hl (by decide) rfl (fun ls hl => ?_)
        refine lv_aload_n hx hb dX7_tryRuler_111 rfl (lv_at hl 2 rfl) ?_
        refine pl_get (v := .int v8_1) hx hb hts (fun w h => mT (inX7 w h)) hown hG.1 hP (hst.1 18 (by decide)) hf2 rfl 8 (by decide) (hts _ (mT wg_440)) (fun _ h => h) rfl dX7_tryRuler_112 ?_
        refine lv_iload hx hb dX7_tryRuler_115 (lv_at hl 8 rfl) ?_
        refine call_i (run_SN (rm := rm_X10_bit) hx hb hml hown hts (s_X10_bit l g ad th _ _ _ v8_1 r5 hst hT ) cS_X10_bit wn_1043 ⟨Nat.le_of_ble_eq_true rfl, Nat.le_of_ble_eq_true rfl⟩ hG hE hA hP hD hS rfl hl.1 (As := [.int v8_1, .int r5]) (rest := []) rfl (Nat.le_of_ble_eq_true rfl) dX7_tryRuler_117 ⟨Nat.le_of_ble_eq_true rfl, Nat.le_of_ble_eq_true rfl⟩) hA hD hS (fun r35 L36 f37 H locs hp38 hP hD hS => ?_)
        obtain ⟨eL39L, eL39T, eL39R⟩ := hp38
        have eL39L : L36 = L := eL39L
        have eL39T : f37 = f := eL39T
        rw [eL39L, eL39T] at hP hD
        have eL39R : In r35 0 1 := eL39R
        refine lv_iconst (v := 1) hx hb dX7_tryRuler_120 (by decide) ?_
        have hJ134 : ∀ (y134_s0 : Int32) (H : Heap) (locs : List Loc) (ls : Array Slot), In y134_s0 1 512 → va_P g.1 vwCl (va_pl L f) H → va_D A (va_pl L f) → va_S A s.heap H locs → lv_has ls 21 [(0, .ref (ad 18)), (1, .int 5), (2, .int z2), (3, .int z3), (4, .long z4), (6, .int z5), (7, .int r5), (8, .int x10), (9, .int y41_s0), (10, .int x16), (11, .int x23), (12, .int y94_s0), (13, .int x34)] → W p l e rm_X7_tryRuler_5 s m [.ref (ad 18), .int 5, .int z2, .int z3, .long z4, .int z5].toArray below meth c H locs 0 0 (MQ below (va_Qv (po_X7_tryRuler_5 g ad th L f z2 z3 z4 z5) (PstB g A) A) [.ref (ad 18), .int 5, .int z2, .int z3, .long z4, .int z5].toArray s rm_X7_tryRuler_5.cells rm_X7_tryRuler_5.slots A) (F0 m 134 ls [.int y134_s0]) := by
          intro y134_s0 H locs ls hy134_s0 hP hD hS hl
          refine lv_istore (lv' := [(14, .int y134_s0), (0, .ref (ad 18)), (1, .int 5), (2, .int z2), (3, .int z3), (4, .long z4), (6, .int z5), (7, .int r5), (8, .int x10), (9, .int y41_s0), (10, .int x16), (11, .int x23), (12, .int y94_s0), (13, .int x34)]) hx hb dX7_tryRuler_134 hl (by decide) rfl (fun ls hl => ?_)
          refine lv_iconst (v := 0) hx hb dX7_tryRuler_136 (by decide) ?_
          refine lv_istore (lv' := [(15, .int 0), (14, .int y134_s0), (0, .ref (ad 18)), (1, .int 5), (2, .int z2), (3, .int z3), (4, .long z4), (6, .int z5), (7, .int r5), (8, .int x10), (9, .int y41_s0), (10, .int x16), (11, .int x23), (12, .int y94_s0), (13, .int x34)]) hx hb dX7_tryRuler_137 hl (by decide) rfl (fun ls hl => ?_)
          have hJ139 : ∀ (k139 : Nat) (y139_l15 : Int32) (f_139 : HP) (H : Heap) (locs : List Loc) (ls : Array Slot), In y139_l15 0 512 → va_P g.1 vwCl (va_pl L f_139) H → va_D A (va_pl L f_139) → va_S A s.heap H locs → TI g ad th f_139 → (∀ b, b ≠ (ad 18) → f_139 b = f b) → f_139 (ad 20) = .inl (g.2.1 0, 7, .inl (rw30)) → f_139 (ad 8) = .inr (2, [.int v0_3, .int v1_3, .int v2_3, .int v3_3, .int v4_3, .int v5_3, .int v6_3, .int v7_3]) → lv_has ls 21 [(0, .ref (ad 18)), (1, .int 5), (2, .int z2), (3, .int z3), (4, .long z4), (6, .int z5), (7, .int r5), (8, .int x10), (9, .int y41_s0), (10, .int x16), (11, .int x23), (12, .int y94_s0), (13, .int x34), (14, .int y134_s0), (15, .int y139_l15)] → 512 - y139_l15.toInt < ((k139 : Nat) : Int) → W p l e rm_X7_tryRuler_5 s m [.ref (ad 18), .int 5, .int z2, .int z3, .long z4, .int z5].toArray below meth c H locs 0 0 (MQ below (va_Qv (po_X7_tryRuler_5 g ad th L f z2 z3 z4 z5) (PstB g A) A) [.ref (ad 18), .int 5, .int z2, .int z3, .long z4, .int z5].toArray s rm_X7_tryRuler_5.cells rm_X7_tryRuler_5.slots A) (F0 m 139 ls []) := by
            intro k139
            induction k139 with
            | zero =>
              intro y139_l15 f_139 H locs ls hy139_l15 hP hD hS hT hfr hf40 hf41 hl hmz
              exact ms0 hy139_l15 hmz
            | succ k139 ih139 =>
              intro y139_l15 f_139 H locs ls hy139_l15 hP hD hS hT hfr hf40 hf41 hl hmz
              refine lv_iload hx hb dX7_tryRuler_139 (lv_at hl 14 rfl) ?_
              refine lv_iload hx hb dX7_tryRuler_141 (lv_at hl 13 rfl) ?_
              refine lv_icmp_ge (tgt := 232) hx hb dX7_tryRuler_143 (by decide) (fun c42 => ?_) (fun c42 => ?_)
              ·
                have cc43 : y134_s0.toInt ≤ y139_l15.toInt := i32_le.mp c42
                have hb44 : In y139_l15 1 512 := In.ge1 hy139_l15 hy134_s0 cc43 (by omega) (by omega)
                exact ret_v hx hb hr hlocks hP hD hS (Nat.le_of_ble_eq_true rfl) (Nat.le_of_ble_eq_true rfl) (⟨rfl, hT, hfr⟩) dX7_tryRuler_232
              ·
                have cc45 : y139_l15.toInt < y134_s0.toInt := i32_nle c42
                have hb46 : In y139_l15 0 511 := In.lt1 hy139_l15 hy134_s0 cc45 (by omega) (by omega)
                refine lv_aload_n hx hb dX7_tryRuler_146 rfl (lv_at hl 0 rfl) ?_
                obtain ⟨v6_47, v7_47, v8_47, v9_47, v10_47, v11_47, v12_47, v13_47, hf48, hv8_47, hv9_47, hv10_47, hv11_47, hv13_47⟩ := hT.1 18 (by decide)
                refine call_i (run_V (rm := rm_X7_isEnough) hx hb hml hown hts (s_X7_isEnough l g ad th _ _ _  hst hT ) cV_X7_isEnough wg_1070 ⟨Nat.le_of_ble_eq_true rfl, Nat.le_of_ble_eq_true rfl⟩ hG hE hA hP hD hS (hst.1 18 (by decide)) hf48 rfl rfl hl.1 (As := []) (rest := []) rfl (Nat.le_of_ble_eq_true rfl) dX7_tryRuler_147 ⟨Nat.le_of_ble_eq_true rfl, Nat.le_of_ble_eq_true rfl⟩) hA hD hS (fun r49 L50 f51 H locs hp52 hP hD hS => ?_)
                obtain ⟨eL53L, eL53T, eL53R⟩ := hp52
                have eL53L : L50 = L := eL53L
                have eL53T : f51 = f_139 := eL53T
                rw [eL53L, eL53T] at hP hD
                have eL53R : In r49 0 1 := eL53R
                refine lv_if_ne (tgt := 232) hx hb dX7_tryRuler_150 (by decide) (fun c54 => ?_) (fun c54 => ?_)
                ·
                  have cc55 : r49.toInt ≠ (0 : Int32).toInt := i32_ne c54
                  have hb56 : In r49 1 1 := In.ne1 eL53R (⟨by decide, by decide⟩ : In 0 0 0) cc55 (by omega) (by omega)
                  exact ret_v hx hb hr hlocks hP hD hS (Nat.le_of_ble_eq_true rfl) (Nat.le_of_ble_eq_true rfl) (⟨rfl, hT, hfr⟩) dX7_tryRuler_232
                ·
                  have cc57 : r49.toInt = (0 : Int32).toInt := congrArg Int32.toInt c54
                  have hb58 : In r49 0 0 := In.eq1 eL53R (⟨by decide, by decide⟩ : In 0 0 0) cc57 (by omega) (by omega)
                  refine lv_aload_n hx hb dX7_tryRuler_153 rfl (lv_at hl 0 rfl) ?_
                  refine lv_iload hx hb dX7_tryRuler_154 (lv_at hl 14 rfl) ?_
                  refine call_i (run_V (rm := rm_X7_spread) hx hb hml hown hts (s_X7_spread l g ad th _ _ _ y139_l15 hst hT ) cV_X7_spread wg_1098 ⟨Nat.le_of_ble_eq_true rfl, Nat.le_of_ble_eq_true rfl⟩ hG hE hA hP hD hS (hst.1 18 (by decide)) hf48 rfl rfl hl.1 (As := [.int y139_l15]) (rest := []) rfl (Nat.le_of_ble_eq_true rfl) dX7_tryRuler_156 ⟨Nat.le_of_ble_eq_true rfl, Nat.le_of_ble_eq_true rfl⟩) hA hD hS (fun r59 L60 f61 H locs hp62 hP hD hS => ?_)
                  obtain ⟨eL63L, eL63T, eL63R⟩ := hp62
                  have eL63L : L60 = L := eL63L
                  have eL63T : f61 = f_139 := eL63T
                  rw [eL63L, eL63T] at hP hD
                  have eL63R : In r59 0 511 := eL63R
                  refine lv_istore (lv' := [(16, .int r59), (0, .ref (ad 18)), (1, .int 5), (2, .int z2), (3, .int z3), (4, .long z4), (6, .int z5), (7, .int r5), (8, .int x10), (9, .int y41_s0), (10, .int x16), (11, .int x23), (12, .int y94_s0), (13, .int x34), (14, .int y134_s0), (15, .int y139_l15)]) hx hb dX7_tryRuler_159 hl (by decide) rfl (fun ls hl => ?_)
                  refine lv_iload hx hb dX7_tryRuler_161 (lv_at hl 0 rfl) ?_
                  refine lv_iload hx hb dX7_tryRuler_163 (lv_at hl 11 rfl) ?_
                  refine lv_iconst (v := (-1)) hx hb dX7_tryRuler_165 (by decide) ?_
                  refine lv_ixor hx hb dX7_tryRuler_166 ?_
                  refine lv_topi (fun x64 ex64 => ?_)
                  refine lv_iand hx hb dX7_tryRuler_167 ?_
                  refine lv_topi (fun x65 ex65 => ?_)
                  have hb66 : In x65 0 511 := ex65 ▸ In.andl eL63R (by decide)
                  have hJ226 : ∀ (f_226 : HP) (H : Heap) (locs : List Loc) (ls : Array Slot), va_P g.1 vwCl (va_pl L f_226) H → va_D A (va_pl L f_226) → va_S A s.heap H locs → TI g ad th f_226 → (∀ b, b ≠ (ad 18) → f_226 b = f b) → f_226 (ad 20) = .inl (g.2.1 0, 7, .inl (rw30)) → f_226 (ad 8) = .inr (2, [.int v0_3, .int v1_3, .int v2_3, .int v3_3, .int v4_3, .int v5_3, .int v6_3, .int v7_3]) → lv_has ls 21 [(0, .ref (ad 18)), (1, .int 5), (2, .int z2), (3, .int z3), (4, .long z4), (6, .int z5), (7, .int r5), (8, .int x10), (9, .int y41_s0), (10, .int x16), (11, .int x23), (12, .int y94_s0), (13, .int x34), (14, .int y134_s0), (15, .int y139_l15), (16, .int r59)] → W p l e rm_X7_tryRuler_5 s m [.ref (ad 18), .int 5, .int z2, .int z3, .long z4, .int z5].toArray below meth c H locs 0 0 (MQ below (va_Qv (po_X7_tryRuler_5 g ad th L f z2 z3 z4 z5) (PstB g A) A) [.ref (ad 18), .int 5, .int z2, .int z3, .long z4, .int z5].toArray s rm_X7_tryRuler_5.cells rm_X7_tryRuler_5.slots A) (F0 m 226 ls []) := by
                    intro f_226 H locs ls hP hD hS hT hfr hf67 hf68 hl
                    obtain ⟨x69, ex69⟩ : ∃ y : Int32, y = y139_l15 + 1 := ⟨_, rfl⟩
                    have hb70 : In x69 1 512 := ex69 ▸ In.add hb46 (⟨by decide, by decide⟩ : In 1 1 1) (by decide) (by decide) (by decide) (by decide)
                    have et71 : x69.toInt = y139_l15.toInt + 1 := In.adde ex69 hb46 (k := 1) (by decide) (by decide) (by decide)
                    refine lv_iinc (v := x69) (lv' := [(15, .int x69), (0, .ref (ad 18)), (1, .int 5), (2, .int z2), (3, .int z3), (4, .long z4), (6, .int z5), (7, .int r5), (8, .int x10), (9, .int y41_s0), (10, .int x16), (11, .int x23), (12, .int y94_s0), (13, .int x34), (14, .int y134_s0), (16, .int r59)]) hx hb dX7_tryRuler_226 hl (k := 14) rfl (by rw [ex69]; rfl) (by decide) rfl (fun ls hl => ?_)
                    refine lv_goto (tgt := 139) hx hb dX7_tryRuler_229 (by decide) ?_
                    exact ih139 x69 _ _ _ _ (In.mono hb70 (by decide) (by decide)) hP hD hS hT hfr hf67 hf68 (lv_sub hl [1, 2, 3, 4, 5, 6, 7, 8, 9, 10, 11, 12, 13, 14, 0] rfl) (msu et71 (by decide) hmz)
                  refine lv_if_ne (tgt := 226) hx hb dX7_tryRuler_168 (by decide) (fun c72 => ?_) (fun c72 => ?_)
                  ·
                    have cc73 : x65.toInt ≠ (0 : Int32).toInt := i32_ne c72
                    have hb74 : In x65 1 511 := In.ne1 hb66 (⟨by decide, by decide⟩ : In 0 0 0) cc73 (by omega) (by omega)
                    exact hJ226 _ _ _ _ hP hD hS hT hfr hf40 hf41 (lv_sub hl [1, 2, 3, 4, 5, 6, 7, 8, 9, 10, 11, 12, 13, 14, 15, 0] rfl)
                  ·
                    have cc75 : x65.toInt = (0 : Int32).toInt := congrArg Int32.toInt c72
                    have hb76 : In x65 0 0 := In.eq1 hb66 (⟨by decide, by decide⟩ : In 0 0 0) cc75 (by omega) (by omega)
                    refine lv_iload hx hb dX7_tryRuler_171 (lv_at hl 12 rfl) ?_
                    refine lv_iload hx hb dX7_tryRuler_173 (lv_at hl 0 rfl) ?_
                    refine lv_ior hx hb dX7_tryRuler_175 ?_
                    refine lv_topi (fun x77 ex77 => ?_)
                    have hb78 : In x77 0 511 := ex77 ▸ In.or 9 hy94_s0 eL63R (by decide) (by decide) (by decide) (by decide) (by decide)
                    refine lv_istore (lv' := [(17, .int x77), (16, .int r59), (0, .ref (ad 18)), (1, .int 5), (2, .int z2), (3, .int z3), (4, .long z4), (6, .int z5), (7, .int r5), (8, .int x10), (9, .int y41_s0), (10, .int x16), (11, .int x23), (12, .int y94_s0), (13, .int x34), (14, .int y134_s0), (15, .int y139_l15)]) hx hb dX7_tryRuler_176 hl (by decide) rfl (fun ls hl => ?_)
                    refine lv_iload_n hx hb dX7_tryRuler_178 rfl (lv_at hl 4 rfl) ?_
                    refine lv_iload hx hb dX7_tryRuler_179 (lv_at hl 11 rfl) ?_
                    refine lv_iconst (v := (-1)) hx hb dX7_tryRuler_181 (by decide) ?_
                    refine lv_ixor hx hb dX7_tryRuler_182 ?_
                    refine lv_topi (fun x79 ex79 => ?_)
                    refine lv_iand hx hb dX7_tryRuler_183 ?_
                    refine lv_topi (fun x80 ex80 => ?_)
                    have hb81 : In x80 0 511 := ex80 ▸ In.andl hz2 (by decide)
                    refine lv_iload hx hb dX7_tryRuler_184 (lv_at hl 0 rfl) ?_
                    refine lv_iload hx hb dX7_tryRuler_186 (lv_at hl 11 rfl) ?_
                    refine lv_iand hx hb dX7_tryRuler_188 ?_
                    refine lv_topi (fun x82 ex82 => ?_)
                    have hb83 : In x82 0 511 := ex82 ▸ In.andr hb17 (by decide)
                    refine lv_ior hx hb dX7_tryRuler_189 ?_
                    refine lv_topi (fun x84 ex84 => ?_)
                    have hb85 : In x84 0 511 := ex84 ▸ In.or 9 hb81 hb83 (by decide) (by decide) (by decide) (by decide) (by decide)
                    refine lv_istore (lv' := [(18, .int x84), (17, .int x77), (16, .int r59), (0, .ref (ad 18)), (1, .int 5), (2, .int z2), (3, .int z3), (4, .long z4), (6, .int z5), (7, .int r5), (8, .int x10), (9, .int y41_s0), (10, .int x16), (11, .int x23), (12, .int y94_s0), (13, .int x34), (14, .int y134_s0), (15, .int y139_l15)]) hx hb dX7_tryRuler_190 hl (by decide) rfl (fun ls hl => ?_)
                    refine lv_iload_n hx hb dX7_tryRuler_192 rfl (lv_at hl 6 rfl) ?_
                    refine lv_iload hx hb dX7_tryRuler_193 (lv_at hl 1 rfl) ?_
                    refine lv_iload_n hx hb dX7_tryRuler_195 rfl (lv_at hl 5 rfl) ?_
                    refine lv_ixor hx hb dX7_tryRuler_196 ?_
                    refine lv_topi (fun x86 ex86 => ?_)
                    have hb87 : In x86 0 511 := ex86 ▸ In.xor 9 hb78 hz2 (by decide) (by decide) (by decide) (by decide) (by decide)
                    refine lv_iand hx hb dX7_tryRuler_197 ?_
                    refine lv_topi (fun x88 ex88 => ?_)
                    have hb89 : In x88 0 511 := ex88 ▸ In.andr hb87 (by decide)
                    refine lv_i2l hx hb dX7_tryRuler_198 rfl ?_
                    refine lv_lstore (lv' := [(19, .long (x88.toInt64)), (18, .int x84), (17, .int x77), (16, .int r59), (0, .ref (ad 18)), (1, .int 5), (2, .int z2), (3, .int z3), (4, .long z4), (6, .int z5), (7, .int r5), (8, .int x10), (9, .int y41_s0), (10, .int x16), (11, .int x23), (12, .int y94_s0), (13, .int x34), (14, .int y134_s0), (15, .int y139_l15)]) hx hb dX7_tryRuler_199 hl (by decide) rfl (fun ls hl => ?_)
                    refine lv_aload_n hx hb dX7_tryRuler_201 rfl (lv_at hl 4 rfl) ?_
                    refine lv_iload_n hx hb dX7_tryRuler_202 rfl (lv_at hl 5 rfl) ?_
                    refine lv_iconst (v := 1) hx hb dX7_tryRuler_203 (by decide) ?_
                    refine lv_iadd hx hb dX7_tryRuler_204 ?_
                    refine lv_topi (fun x90 ex90 => ?_)
                    obtain rfl : x90 = 6 := ex90.trans (by decide)
                    refine lv_iload hx hb dX7_tryRuler_205 (lv_at hl 1 rfl) ?_
                    refine lv_lload hx hb dX7_tryRuler_207 (lv_at hl 8 rfl) ?_
                    refine lv_lload hx hb dX7_tryRuler_209 (lv_at hl 0 rfl) ?_
                    refine lv_iload hx hb dX7_tryRuler_211 (lv_at hl 11 rfl) ?_
                    refine lv_lshl hx hb dX7_tryRuler_213 rfl ?_
                    refine lv_topl (fun x91 ex91 => ?_)
                    refine lv_lor hx hb dX7_tryRuler_214 ?_
                    refine lv_topl (fun x92 ex92 => ?_)
                    refine lv_iload hx hb dX7_tryRuler_215 (lv_at hl 9 rfl) ?_
                    refine lv_iload hx hb dX7_tryRuler_217 (lv_at hl 18 rfl) ?_
                    refine lv_iload hx hb dX7_tryRuler_219 (lv_at hl 16 rfl) ?_
                    refine lv_ishl hx hb dX7_tryRuler_221 ?_
                    refine lv_topi (fun x93 ex93 => ?_)
                    refine lv_ior hx hb dX7_tryRuler_222 ?_
                    refine lv_topi (fun x94 ex94 => ?_)
                    refine call_v (run_V (rm := rm_X7_explore_6) hx hb hml hown hts (s_X7_explore_6 l g ad th _ _ _ x84 x92 x94 hst hT hb85) cV_X7_explore wg_1049 ⟨Nat.le_of_ble_eq_true rfl, Nat.le_of_ble_eq_true rfl⟩ hG hE hA hP hD hS (hst.1 18 (by decide)) hf48 rfl rfl hl.1 (As := [.int 6, .int x84, .long x92, .int x94]) (rest := []) rfl (Nat.le_of_ble_eq_true rfl) dX7_tryRuler_223 ⟨Nat.le_of_ble_eq_true rfl, Nat.le_of_ble_eq_true rfl⟩) hA hD hS (fun L96 f97 H locs hp98 hP hD hS => ?_)
                    obtain ⟨eL99L, eL99T, eL99F⟩ := hp98
                    have eL99L : L96 = L := eL99L
                    rw [eL99L] at hP hD
                    have hT : TI g ad th f97 := eL99T
                    have eL99F : ∀ b, b ≠ (ad 18) → f97 b = f_139 b := eL99F
                    have hf100 := (eL99F (ad 8) (hst.ne (by decide) (by decide) (by decide))).trans hf41
                    have hf101 := (eL99F (ad 20) (hst.ne (by decide) (by decide) (by decide))).trans hf40
                    have hfr : (∀ b, b ≠ (ad 18) → f97 b = f b) := fun b z0_ => (eL99F b z0_).trans (hfr b z0_)
                    exact hJ226 _ _ _ _ hP hD hS hT hfr hf101 hf100 (lv_sub hl [4, 5, 6, 7, 8, 9, 10, 11, 12, 13, 14, 15, 16, 17, 18, 3] rfl)
          exact hJ139 ((512 - (0 : Int32).toInt).toNat + 1) 0 _ _ _ _ (⟨by decide, by decide⟩ : In 0 0 512) hP hD hS hT hfr hf31 hf4 (lv_sub hl [2, 3, 4, 5, 6, 7, 8, 9, 10, 11, 12, 13, 14, 1, 0] rfl) (msI _)
        refine lv_icmp_ne (tgt := 133) hx hb dX7_tryRuler_121 (by decide) (fun c102 => ?_) (fun c102 => ?_)
        ·
          have cc103 : r35.toInt ≠ (1 : Int32).toInt := i32_ne c102
          have hb104 : In r35 0 0 := In.ne1 eL39R (⟨by decide, by decide⟩ : In 1 1 1) cc103 (by omega) (by omega)
          refine lv_iconst (v := 1) hx hb dX7_tryRuler_133 (by decide) ?_
          exact hJ134 1 _ _ _ (⟨by decide, by decide⟩ : In 1 1 512) hP hD hS (lv_sub hl [2, 3, 4, 5, 6, 7, 8, 9, 10, 11, 12, 1, 0] rfl)
        ·
          have cc105 : r35.toInt = (1 : Int32).toInt := congrArg Int32.toInt c102
          have hb106 : In r35 1 1 := In.eq1 eL39R (⟨by decide, by decide⟩ : In 1 1 1) cc105 (by omega) (by omega)
          refine lv_iconst (v := 1) hx hb dX7_tryRuler_124 (by decide) ?_
          refine lv_aload_n hx hb dX7_tryRuler_125 rfl (lv_at hl 2 rfl) ?_
          refine pl_get (v := .int v10_1) hx hb hts (fun w h => mT (inX7 w h)) hown hG.1 hP (hst.1 18 (by decide)) hf2 rfl 10 (by decide) (hts _ (mT wg_442)) (fun _ h => h) rfl dX7_tryRuler_126 ?_
          refine lv_ishl hx hb dX7_tryRuler_129 ?_
          refine lv_topi (fun x107 ex107 => ?_)
          have hb108 : In x107 1 512 := ex107 ▸ In.shl (⟨by decide, by decide⟩ : In 1 1 1) hv10_1 (by decide) (by decide) (by decide) (by decide) (by decide) (by decide)
          refine lv_goto (tgt := 134) hx hb dX7_tryRuler_130 (by decide) ?_
          exact hJ134 x107 _ _ _ hb108 hP hD hS (lv_sub hl [2, 3, 4, 5, 6, 7, 8, 9, 10, 11, 12, 1, 0] rfl)
      refine lv_icmp_ne (tgt := 93) hx hb dX7_tryRuler_83 (by decide) (fun c109 => ?_) (fun c109 => ?_)
      ·
        have cc110 : r24.toInt ≠ (1 : Int32).toInt := i32_ne c109
        have hb111 : In r24 0 0 := In.ne1 eL28R (⟨by decide, by decide⟩ : In 1 1 1) cc110 (by omega) (by omega)
        refine lv_iconst (v := 0) hx hb dX7_tryRuler_93 (by decide) ?_
        exact hJ94 0 _ _ _ (⟨by decide, by decide⟩ : In 0 0 511) hP hD hS (lv_sub hl [1, 2, 3, 4, 5, 6, 7, 8, 9, 10, 0] rfl)
      ·
        have cc112 : r24.toInt = (1 : Int32).toInt := congrArg Int32.toInt c109
        have hb113 : In r24 1 1 := In.eq1 eL28R (⟨by decide, by decide⟩ : In 1 1 1) cc112 (by omega) (by omega)
        refine lv_aload_n hx hb dX7_tryRuler_86 rfl (lv_at hl 1 rfl) ?_
        refine pl_get (v := .int v9_1) hx hb hts (fun w h => mT (inX7 w h)) hown hG.1 hP (hst.1 18 (by decide)) hf2 rfl 9 (by decide) (hts _ (mT wg_441)) (fun _ h => h) rfl dX7_tryRuler_87 ?_
        refine lv_goto (tgt := 94) hx hb dX7_tryRuler_90 (by decide) ?_
        exact hJ94 v9_1 _ _ _ hv9_1 hP hD hS (lv_sub hl [1, 2, 3, 4, 5, 6, 7, 8, 9, 10, 0] rfl)
    refine lv_if_eq (tgt := 72) hx hb dX7_tryRuler_65 (by decide) (fun c114 => ?_) (fun c114 => ?_)
    ·
      have cc115 : r18.toInt = (0 : Int32).toInt := congrArg Int32.toInt c114
      have hb116 : In r18 0 0 := In.eq1 eL22R (⟨by decide, by decide⟩ : In 0 0 0) cc115 (by omega) (by omega)
      refine lv_iconst (v := 0) hx hb dX7_tryRuler_72 (by decide) ?_
      exact hJ73 0 _ _ _ (⟨by decide, by decide⟩ : In 0 (-2147483648) 2147483647) hP hD hS (lv_sub hl [2, 3, 4, 5, 6, 7, 8, 9, 1, 0] rfl)
    ·
      have cc117 : r18.toInt ≠ (0 : Int32).toInt := i32_ne c114
      have hb118 : In r18 1 1 := In.ne1 eL22R (⟨by decide, by decide⟩ : In 0 0 0) cc117 (by omega) (by omega)
      refine lv_iload_n hx hb dX7_tryRuler_68 rfl (lv_at hl 5 rfl) ?_
      refine lv_goto (tgt := 73) hx hb dX7_tryRuler_69 (by decide) ?_
      exact hJ73 z3 _ _ _ (In.full z3) hP hD hS (lv_sub hl [2, 3, 4, 5, 6, 7, 8, 9, 1, 0] rfl)
  refine lv_if_eq (tgt := 40) hx hb dX7_tryRuler_24 (by decide) (fun c119 => ?_) (fun c119 => ?_)
  ·
    have cc120 : v6_3.toInt = (0 : Int32).toInt := congrArg Int32.toInt c119
    have hb121 : In v6_3 0 0 := In.eq1 hv6_3 (⟨by decide, by decide⟩ : In 0 0 0) cc120 (by omega) (by omega)
    refine lv_iconst (v := 0) hx hb dX7_tryRuler_40 (by decide) ?_
    exact hJ41 0 _ _ _ (⟨by decide, by decide⟩ : In 0 0 511) hP hD hS (lv_sub hl [2, 3, 4, 5, 6, 7, 1, 0] rfl)
  ·
    have cc122 : v6_3.toInt ≠ (0 : Int32).toInt := i32_ne c119
    have hb123 : In v6_3 1 1 := In.ne1 hv6_3 (⟨by decide, by decide⟩ : In 0 0 0) cc122 (by omega) (by omega)
    refine lv_lload hx hb dX7_tryRuler_27 (lv_at hl 6 rfl) ?_
    refine lv_iload hx hb dX7_tryRuler_29 (lv_at hl 0 rfl) ?_
    refine lv_lushr hx hb dX7_tryRuler_31 rfl ?_
    refine lv_topl (fun x124 ex124 => ?_)
    refine lv_l2i hx hb dX7_tryRuler_32 rfl ?_
    refine lv_topi (fun x125 ex125 => ?_)
    refine lv_sipush (v := 511) hx hb dX7_tryRuler_33 (by decide) ?_
    refine lv_iand hx hb dX7_tryRuler_36 ?_
    refine lv_topi (fun x126 ex126 => ?_)
    have hb127 : In x126 0 511 := ex126 ▸ In.andr (⟨by decide, by decide⟩ : In 511 511 511) (by decide)
    refine lv_goto (tgt := 41) hx hb dX7_tryRuler_37 (by decide) ?_
    exact hJ41 x126 _ _ _ hb127 hP hD hS (lv_sub hl [2, 3, 4, 5, 6, 7, 1, 0] rfl)
