abbrev rm_J6_bitCount_0f7a4 : Room := { frames := 0, cells := 0, slots := 0, locals := 0 }
abbrev po_J6_bitCount_0f7a4 (g : GG) (ad : Nat → Nat) (th : Nat → Int) (L : List Nat) (f : HP) (z0 : Int32) : Int32 → (List Nat × HP) → Prop := fun r u => u.1 = L ∧ u.2 = f ∧ In r 0 63 ∧ r = bcx z0
set_option maxHeartbeats 4000000 in
set_option maxRecDepth 100000 in
theorem s_J6_bitCount_0f7a4 (l : Launch) (g : GG) (ad : Nat → Nat) (th : Nat → Int) (L : List Nat) (f : HP) (sz : Nat) (z0 : Int32) (hst : ST ad L) (hT : TI g ad th f)  : MtI l g yJ6_bitCount_0f7a4 cJ6_bitCount_0f7a4 1 (some .int) rm_J6_bitCount_0f7a4 [.int z0] L f sz (po_J6_bitCount_0f7a4 g ad th L f z0) := by
  refine MtI.of (by decide +kernel) (Nat.le_of_ble_eq_true rfl) ?_
  intro p e s m below meth c A hEn hP hD hS ls hl
  obtain ⟨hx, hb, hr, hml, hown, hlocks, hts, hG, hA, hE, hnm⟩ := hEn
  have hown : s.vm.findClass "java/lang/Integer" = some m.cls := hown
  have hl : lv_has ls 1 [(0, .int z0)] := hl
  refine lv_iload_n hx hb dJ6_bitCount_0f7a4_0 rfl (lv_at hl 0 rfl) ?_
  refine lv_iload_n hx hb dJ6_bitCount_0f7a4_1 rfl (lv_at hl 0 rfl) ?_
  refine lv_iconst (v := 1) hx hb dJ6_bitCount_0f7a4_2 (by decide) ?_
  refine lv_iushr hx hb dJ6_bitCount_0f7a4_3 rfl ?_
  refine lv_topi (fun x1 ex1 => ?_)
  refine lv_ldcw hx hb hown (hts _ (mT wg_990)) dJ6_bitCount_0f7a4_4 ?_
  refine lv_iand hx hb dJ6_bitCount_0f7a4_7 ?_
  refine lv_topi (fun x2 ex2 => ?_)
  have hb3 : In x2 0 1431655765 := ex2 ▸ In.andr (⟨by decide, by decide⟩ : In 1431655765 1431655765 1431655765) (by decide)
  refine lv_isub hx hb dJ6_bitCount_0f7a4_8 ?_
  refine lv_topi (fun x4 ex4 => ?_)
  refine lv_istore_n (lv' := [(0, .int x4)]) hx hb dJ6_bitCount_0f7a4_9 rfl hl (by decide) rfl (fun ls hl => ?_)
  refine lv_iload_n hx hb dJ6_bitCount_0f7a4_10 rfl (lv_at hl 0 rfl) ?_
  refine lv_ldcw hx hb hown (hts _ (mT wg_991)) dJ6_bitCount_0f7a4_11 ?_
  refine lv_iand hx hb dJ6_bitCount_0f7a4_14 ?_
  refine lv_topi (fun x5 ex5 => ?_)
  have hb6 : In x5 0 858993459 := ex5 ▸ In.andr (⟨by decide, by decide⟩ : In 858993459 858993459 858993459) (by decide)
  refine lv_iload_n hx hb dJ6_bitCount_0f7a4_15 rfl (lv_at hl 0 rfl) ?_
  refine lv_iconst (v := 2) hx hb dJ6_bitCount_0f7a4_16 (by decide) ?_
  refine lv_iushr hx hb dJ6_bitCount_0f7a4_17 rfl ?_
  refine lv_topi (fun x7 ex7 => ?_)
  refine lv_ldcw hx hb hown (hts _ (mT wg_991)) dJ6_bitCount_0f7a4_18 ?_
  refine lv_iand hx hb dJ6_bitCount_0f7a4_21 ?_
  refine lv_topi (fun x8 ex8 => ?_)
  have hb9 : In x8 0 858993459 := ex8 ▸ In.andr (⟨by decide, by decide⟩ : In 858993459 858993459 858993459) (by decide)
  refine lv_iadd hx hb dJ6_bitCount_0f7a4_22 ?_
  refine lv_topi (fun x10 ex10 => ?_)
  have hb11 : In x10 0 1717986918 := ex10 ▸ In.add hb6 hb9 (by decide) (by decide) (by decide) (by decide)
  have et12 : x10.toInt = x5.toInt + x8.toInt := In.add2e ex10 hb6 hb9 (by decide) (by decide)
  refine lv_istore_n (lv' := [(0, .int x10)]) hx hb dJ6_bitCount_0f7a4_23 rfl hl (by decide) rfl (fun ls hl => ?_)
  refine lv_iload_n hx hb dJ6_bitCount_0f7a4_24 rfl (lv_at hl 0 rfl) ?_
  refine lv_iload_n hx hb dJ6_bitCount_0f7a4_25 rfl (lv_at hl 0 rfl) ?_
  refine lv_iconst (v := 4) hx hb dJ6_bitCount_0f7a4_26 (by decide) ?_
  refine lv_iushr hx hb dJ6_bitCount_0f7a4_27 rfl ?_
  refine lv_topi (fun x13 ex13 => ?_)
  have hb14 : In x13 0 107374182 := ex13 ▸ In.ushr 4 hb11 (by decide) (by decide) (by decide) (by decide)
  refine lv_iadd hx hb dJ6_bitCount_0f7a4_28 ?_
  refine lv_topi (fun x15 ex15 => ?_)
  have hb16 : In x15 0 1825361100 := ex15 ▸ In.add hb11 hb14 (by decide) (by decide) (by decide) (by decide)
  have et17 : x15.toInt = x10.toInt + x13.toInt := In.add2e ex15 hb11 hb14 (by decide) (by decide)
  refine lv_ldcw hx hb hown (hts _ (mT wg_992)) dJ6_bitCount_0f7a4_29 ?_
  refine lv_iand hx hb dJ6_bitCount_0f7a4_32 ?_
  refine lv_topi (fun x18 ex18 => ?_)
  have hb19 : In x18 0 252645135 := ex18 ▸ In.andr (⟨by decide, by decide⟩ : In 252645135 252645135 252645135) (by decide)
  refine lv_istore_n (lv' := [(0, .int x18)]) hx hb dJ6_bitCount_0f7a4_33 rfl hl (by decide) rfl (fun ls hl => ?_)
  refine lv_iload_n hx hb dJ6_bitCount_0f7a4_34 rfl (lv_at hl 0 rfl) ?_
  refine lv_iload_n hx hb dJ6_bitCount_0f7a4_35 rfl (lv_at hl 0 rfl) ?_
  refine lv_bipush (v := 8) hx hb dJ6_bitCount_0f7a4_36 (by decide) ?_
  refine lv_iushr hx hb dJ6_bitCount_0f7a4_38 rfl ?_
  refine lv_topi (fun x20 ex20 => ?_)
  have hb21 : In x20 0 986895 := ex20 ▸ In.ushr 8 hb19 (by decide) (by decide) (by decide) (by decide)
  refine lv_iadd hx hb dJ6_bitCount_0f7a4_39 ?_
  refine lv_topi (fun x22 ex22 => ?_)
  have hb23 : In x22 0 253632030 := ex22 ▸ In.add hb19 hb21 (by decide) (by decide) (by decide) (by decide)
  have et24 : x22.toInt = x18.toInt + x20.toInt := In.add2e ex22 hb19 hb21 (by decide) (by decide)
  refine lv_istore_n (lv' := [(0, .int x22)]) hx hb dJ6_bitCount_0f7a4_40 rfl hl (by decide) rfl (fun ls hl => ?_)
  refine lv_iload_n hx hb dJ6_bitCount_0f7a4_41 rfl (lv_at hl 0 rfl) ?_
  refine lv_iload_n hx hb dJ6_bitCount_0f7a4_42 rfl (lv_at hl 0 rfl) ?_
  refine lv_bipush (v := 16) hx hb dJ6_bitCount_0f7a4_43 (by decide) ?_
  refine lv_iushr hx hb dJ6_bitCount_0f7a4_45 rfl ?_
  refine lv_topi (fun x25 ex25 => ?_)
  have hb26 : In x25 0 3870 := ex25 ▸ In.ushr 16 hb23 (by decide) (by decide) (by decide) (by decide)
  refine lv_iadd hx hb dJ6_bitCount_0f7a4_46 ?_
  refine lv_topi (fun x27 ex27 => ?_)
  have hb28 : In x27 0 253635900 := ex27 ▸ In.add hb23 hb26 (by decide) (by decide) (by decide) (by decide)
  have et29 : x27.toInt = x22.toInt + x25.toInt := In.add2e ex27 hb23 hb26 (by decide) (by decide)
  refine lv_istore_n (lv' := [(0, .int x27)]) hx hb dJ6_bitCount_0f7a4_47 rfl hl (by decide) rfl (fun ls hl => ?_)
  refine lv_iload_n hx hb dJ6_bitCount_0f7a4_48 rfl (lv_at hl 0 rfl) ?_
  refine lv_bipush (v := 63) hx hb dJ6_bitCount_0f7a4_49 (by decide) ?_
  refine lv_iand hx hb dJ6_bitCount_0f7a4_51 ?_
  refine lv_topi (fun x30 ex30 => ?_)
  have hb31 : In x30 0 63 := ex30 ▸ In.andr (⟨by decide, by decide⟩ : In 63 63 63) (by decide)
  exact ret_i (ty := .int) hx hb hr hlocks (rfl) hP hD hS (Nat.le_of_ble_eq_true rfl) (Nat.le_of_ble_eq_true rfl) (⟨rfl, rfl, hb31, (by subst_vars; rfl)⟩) dJ6_bitCount_0f7a4_52

abbrev rm_J13_bitCount_95d88 : Room := { frames := 0, cells := 0, slots := 0, locals := 0 }
abbrev po_J13_bitCount_95d88 (g : GG) (ad : Nat → Nat) (th : Nat → Int) (L : List Nat) (f : HP) (z0 : Int64) : Int32 → (List Nat × HP) → Prop := fun r u => u.1 = L ∧ u.2 = f ∧ In r 0 127
set_option maxHeartbeats 4000000 in
set_option maxRecDepth 100000 in
theorem s_J13_bitCount_95d88 (l : Launch) (g : GG) (ad : Nat → Nat) (th : Nat → Int) (L : List Nat) (f : HP) (sz : Nat) (z0 : Int64) (hst : ST ad L) (hT : TI g ad th f)  : MtI l g yJ13_bitCount_95d88 cJ13_bitCount_95d88 2 (some .int) rm_J13_bitCount_95d88 [.long z0] L f sz (po_J13_bitCount_95d88 g ad th L f z0) := by
  refine MtI.of (by decide +kernel) (Nat.le_of_ble_eq_true rfl) ?_
  intro p e s m below meth c A hEn hP hD hS ls hl
  obtain ⟨hx, hb, hr, hml, hown, hlocks, hts, hG, hA, hE, hnm⟩ := hEn
  have hown : s.vm.findClass "java/lang/Long" = some m.cls := hown
  have hl : lv_has ls 2 [(0, .long z0)] := hl
  refine lv_lload_n hx hb dJ13_bitCount_95d88_0 rfl (lv_at hl 0 rfl) ?_
  refine lv_lload_n hx hb dJ13_bitCount_95d88_1 rfl (lv_at hl 0 rfl) ?_
  refine lv_iconst (v := 1) hx hb dJ13_bitCount_95d88_2 (by decide) ?_
  refine lv_lushr hx hb dJ13_bitCount_95d88_3 rfl ?_
  refine lv_topl (fun x1 ex1 => ?_)
  refine lv_ldc2 hx hb hown (hts _ (mT wg_839)) dJ13_bitCount_95d88_4 ?_
  refine lv_land hx hb dJ13_bitCount_95d88_7 ?_
  refine lv_topl (fun x2 ex2 => ?_)
  refine lv_lsub hx hb dJ13_bitCount_95d88_8 ?_
  refine lv_topl (fun x3 ex3 => ?_)
  refine lv_lstore_n (lv' := [(0, .long x3)]) hx hb dJ13_bitCount_95d88_9 rfl hl (by decide) rfl (fun ls hl => ?_)
  refine lv_lload_n hx hb dJ13_bitCount_95d88_10 rfl (lv_at hl 0 rfl) ?_
  refine lv_ldc2 hx hb hown (hts _ (mT wg_840)) dJ13_bitCount_95d88_11 ?_
  refine lv_land hx hb dJ13_bitCount_95d88_14 ?_
  refine lv_topl (fun x4 ex4 => ?_)
  refine lv_lload_n hx hb dJ13_bitCount_95d88_15 rfl (lv_at hl 0 rfl) ?_
  refine lv_iconst (v := 2) hx hb dJ13_bitCount_95d88_16 (by decide) ?_
  refine lv_lushr hx hb dJ13_bitCount_95d88_17 rfl ?_
  refine lv_topl (fun x5 ex5 => ?_)
  refine lv_ldc2 hx hb hown (hts _ (mT wg_840)) dJ13_bitCount_95d88_18 ?_
  refine lv_land hx hb dJ13_bitCount_95d88_21 ?_
  refine lv_topl (fun x6 ex6 => ?_)
  refine lv_ladd hx hb dJ13_bitCount_95d88_22 ?_
  refine lv_topl (fun x7 ex7 => ?_)
  refine lv_lstore_n (lv' := [(0, .long x7)]) hx hb dJ13_bitCount_95d88_23 rfl hl (by decide) rfl (fun ls hl => ?_)
  refine lv_lload_n hx hb dJ13_bitCount_95d88_24 rfl (lv_at hl 0 rfl) ?_
  refine lv_lload_n hx hb dJ13_bitCount_95d88_25 rfl (lv_at hl 0 rfl) ?_
  refine lv_iconst (v := 4) hx hb dJ13_bitCount_95d88_26 (by decide) ?_
  refine lv_lushr hx hb dJ13_bitCount_95d88_27 rfl ?_
  refine lv_topl (fun x8 ex8 => ?_)
  refine lv_ladd hx hb dJ13_bitCount_95d88_28 ?_
  refine lv_topl (fun x9 ex9 => ?_)
  refine lv_ldc2 hx hb hown (hts _ (mT wg_841)) dJ13_bitCount_95d88_29 ?_
  refine lv_land hx hb dJ13_bitCount_95d88_32 ?_
  refine lv_topl (fun x10 ex10 => ?_)
  refine lv_lstore_n (lv' := [(0, .long x10)]) hx hb dJ13_bitCount_95d88_33 rfl hl (by decide) rfl (fun ls hl => ?_)
  refine lv_lload_n hx hb dJ13_bitCount_95d88_34 rfl (lv_at hl 0 rfl) ?_
  refine lv_lload_n hx hb dJ13_bitCount_95d88_35 rfl (lv_at hl 0 rfl) ?_
  refine lv_bipush (v := 8) hx hb dJ13_bitCount_95d88_36 (by decide) ?_
  refine lv_lushr hx hb dJ13_bitCount_95d88_38 rfl ?_
  refine lv_topl (fun x11 ex11 => ?_)
  refine lv_ladd hx hb dJ13_bitCount_95d88_39 ?_
  refine lv_topl (fun x12 ex12 => ?_)
  refine lv_lstore_n (lv' := [(0, .long x12)]) hx hb dJ13_bitCount_95d88_40 rfl hl (by decide) rfl (fun ls hl => ?_)
  refine lv_lload_n hx hb dJ13_bitCount_95d88_41 rfl (lv_at hl 0 rfl) ?_
  refine lv_lload_n hx hb dJ13_bitCount_95d88_42 rfl (lv_at hl 0 rfl) ?_
  refine lv_bipush (v := 16) hx hb dJ13_bitCount_95d88_43 (by decide) ?_
  refine lv_lushr hx hb dJ13_bitCount_95d88_45 rfl ?_
  refine lv_topl (fun x13 ex13 => ?_)
  refine lv_ladd hx hb dJ13_bitCount_95d88_46 ?_
  refine lv_topl (fun x14 ex14 => ?_)
  refine lv_lstore_n (lv' := [(0, .long x14)]) hx hb dJ13_bitCount_95d88_47 rfl hl (by decide) rfl (fun ls hl => ?_)
  refine lv_lload_n hx hb dJ13_bitCount_95d88_48 rfl (lv_at hl 0 rfl) ?_
  refine lv_lload_n hx hb dJ13_bitCount_95d88_49 rfl (lv_at hl 0 rfl) ?_
  refine lv_bipush (v := 32) hx hb dJ13_bitCount_95d88_50 (by decide) ?_
  refine lv_lushr hx hb dJ13_bitCount_95d88_52 rfl ?_
  refine lv_topl (fun x15 ex15 => ?_)
  refine lv_ladd hx hb dJ13_bitCount_95d88_53 ?_
  refine lv_topl (fun x16 ex16 => ?_)
  refine lv_lstore_n (lv' := [(0, .long x16)]) hx hb dJ13_bitCount_95d88_54 rfl hl (by decide) rfl (fun ls hl => ?_)
  refine lv_lload_n hx hb dJ13_bitCount_95d88_55 rfl (lv_at hl 0 rfl) ?_
  refine lv_l2i hx hb dJ13_bitCount_95d88_56 rfl ?_
  refine lv_topi (fun x17 ex17 => ?_)
  refine lv_bipush (v := 127) hx hb dJ13_bitCount_95d88_57 (by decide) ?_
  refine lv_iand hx hb dJ13_bitCount_95d88_59 ?_
  refine lv_topi (fun x18 ex18 => ?_)
  have hb19 : In x18 0 127 := ex18 ▸ In.andr (⟨by decide, by decide⟩ : In 127 127 127) (by decide)
  exact ret_i (ty := .int) hx hb hr hlocks (rfl) hP hD hS (Nat.le_of_ble_eq_true rfl) (Nat.le_of_ble_eq_true rfl) (⟨rfl, rfl, hb19⟩) dJ13_bitCount_95d88_60

abbrev rm_X10_bit : Room := { frames := 0, cells := 0, slots := 0, locals := 0 }
abbrev po_X10_bit (g : GG) (ad : Nat → Nat) (th : Nat → Int) (L : List Nat) (f : HP) (z0 : Int32) (z1 : Int32) : Int32 → (List Nat × HP) → Prop := fun r u => u.1 = L ∧ u.2 = f ∧ In r 0 1 ∧ (0 ≤ z0.toInt → In z1 0 30 → r.toInt = bitI z0.toInt z1.toInt)
set_option maxHeartbeats 4000000 in
set_option maxRecDepth 100000 in
theorem s_X10_bit (l : Launch) (g : GG) (ad : Nat → Nat) (th : Nat → Int) (L : List Nat) (f : HP) (sz : Nat) (z0 : Int32) (z1 : Int32) (hst : ST ad L) (hT : TI g ad th f)  : MtI l g yX10_bit cX10_bit 2 (some .int) rm_X10_bit [.int z0, .int z1] L f sz (po_X10_bit g ad th L f z0 z1) := by
  refine MtI.of (by decide +kernel) (Nat.le_of_ble_eq_true rfl) ?_
  intro p e s m below meth c A hEn hP hD hS ls hl
  obtain ⟨hx, hb, hr, hml, hown, hlocks, hts, hG, hA, hE, hnm⟩ := hEn
  have hown : s.vm.findClass "RulerWord" = some m.cls := hown
  have hl : lv_has ls 2 [(0, .int z0), (1, .int z1)] := hl
  refine lv_iload_n hx hb dX10_bit_0 rfl (lv_at hl 0 rfl) ?_
  refine lv_iload_n hx hb dX10_bit_1 rfl (lv_at hl 1 rfl) ?_
  refine lv_iushr hx hb dX10_bit_2 rfl ?_
  refine lv_topi (fun x1 ex1 => ?_)
  refine lv_iconst (v := 1) hx hb dX10_bit_3 (by decide) ?_
  refine lv_iand hx hb dX10_bit_4 ?_
  refine lv_topi (fun x2 ex2 => ?_)
  have hb3 : In x2 0 1 := ex2 ▸ In.andr (⟨by decide, by decide⟩ : In 1 1 1) (by decide)
  exact ret_i (ty := .int) hx hb hr hlocks (rfl) hP hD hS (Nat.le_of_ble_eq_true rfl) (Nat.le_of_ble_eq_true rfl) (⟨rfl, rfl, hb3, (fun h0 hk => sh_bit h0 hk ex1 ex2)⟩) dX10_bit_5

abbrev rm_X10_nibble : Room := { frames := 0, cells := 0, slots := 0, locals := 0 }
abbrev po_X10_nibble (g : GG) (ad : Nat → Nat) (th : Nat → Int) (L : List Nat) (f : HP) (z0 : Int64) (z1 : Int32) : Int32 → (List Nat × HP) → Prop := fun r u => u.1 = L ∧ u.2 = f ∧ In r 0 15
set_option maxHeartbeats 4000000 in
set_option maxRecDepth 100000 in
theorem s_X10_nibble (l : Launch) (g : GG) (ad : Nat → Nat) (th : Nat → Int) (L : List Nat) (f : HP) (sz : Nat) (z0 : Int64) (z1 : Int32) (hst : ST ad L) (hT : TI g ad th f)  : MtI l g yX10_nibble cX10_nibble 3 (some .int) rm_X10_nibble [.long z0, .int z1] L f sz (po_X10_nibble g ad th L f z0 z1) := by
  refine MtI.of (by decide +kernel) (Nat.le_of_ble_eq_true rfl) ?_
  intro p e s m below meth c A hEn hP hD hS ls hl
  obtain ⟨hx, hb, hr, hml, hown, hlocks, hts, hG, hA, hE, hnm⟩ := hEn
  have hown : s.vm.findClass "RulerWord" = some m.cls := hown
  have hl : lv_has ls 3 [(0, .long z0), (2, .int z1)] := hl
  refine lv_lload_n hx hb dX10_nibble_0 rfl (lv_at hl 0 rfl) ?_
  refine lv_iconst (v := 4) hx hb dX10_nibble_1 (by decide) ?_
  refine lv_iload_n hx hb dX10_nibble_2 rfl (lv_at hl 1 rfl) ?_
  refine lv_imul hx hb dX10_nibble_3 ?_
  refine lv_topi (fun x1 ex1 => ?_)
  refine lv_lushr hx hb dX10_nibble_4 rfl ?_
  refine lv_topl (fun x2 ex2 => ?_)
  refine lv_l2i hx hb dX10_nibble_5 rfl ?_
  refine lv_topi (fun x3 ex3 => ?_)
  refine lv_bipush (v := 15) hx hb dX10_nibble_6 (by decide) ?_
  refine lv_iand hx hb dX10_nibble_8 ?_
  refine lv_topi (fun x4 ex4 => ?_)
  have hb5 : In x4 0 15 := ex4 ▸ In.andr (⟨by decide, by decide⟩ : In 15 15 15) (by decide)
  exact ret_i (ty := .int) hx hb hr hlocks (rfl) hP hD hS (Nat.le_of_ble_eq_true rfl) (Nat.le_of_ble_eq_true rfl) (⟨rfl, rfl, hb5⟩) dX10_nibble_9

abbrev rm_X10_greatestBound_9 : Room := { frames := 0, cells := 0, slots := 0, locals := 0 }
abbrev po_X10_greatestBound_9 (g : GG) (ad : Nat → Nat) (th : Nat → Int) (L : List Nat) (f : HP) (z0 : Int32) (z1 : Int32) : Int32 → (List Nat × HP) → Prop := fun r u => u.1 = L ∧ u.2 = f ∧ In r 0 2
set_option maxHeartbeats 4000000 in
set_option maxRecDepth 100000 in
theorem s_X10_greatestBound_9 (l : Launch) (g : GG) (ad : Nat → Nat) (th : Nat → Int) (L : List Nat) (f : HP) (sz : Nat) (z0 : Int32) (z1 : Int32) (hst : ST ad L) (hT : TI g ad th f) (hz1 : In z1 (-1) 9) : MtI l g yX10_greatestBound cX10_greatestBound 2 (some .int) rm_X10_greatestBound_9 [.int z0, .int z1] L f sz (po_X10_greatestBound_9 g ad th L f z0 z1) := by
  refine MtI.of (by decide +kernel) (Nat.le_of_ble_eq_true rfl) ?_
  intro p e s m below meth c A hEn hP hD hS ls hl
  obtain ⟨hx, hb, hr, hml, hown, hlocks, hts, hG, hA, hE, hnm⟩ := hEn
  have hown : s.vm.findClass "RulerWord" = some m.cls := hown
  have hl : lv_has ls 2 [(0, .int z0), (1, .int z1)] := hl
  refine lv_iload_n hx hb dX10_greatestBound_0 rfl (lv_at hl 0 rfl) ?_
  refine lv_if_ne (tgt := 12) hx hb dX10_greatestBound_1 (by decide) (fun c1 => ?_) (fun c1 => ?_)
  ·
    refine lv_iload_n hx hb dX10_greatestBound_12 rfl (lv_at hl 1 rfl) ?_
    refine lv_iconst (v := 1) hx hb dX10_greatestBound_13 (by decide) ?_
    refine lv_isub hx hb dX10_greatestBound_14 ?_
    refine lv_topi (fun x2 ex2 => ?_)
    have hb3 : In x2 (-2) 8 := ex2 ▸ In.sub hz1 (⟨by decide, by decide⟩ : In 1 1 1) (by decide) (by decide) (by decide) (by decide)
    have et4 : x2.toInt = z1.toInt + (-1) := In.sube ex2 hz1 (k := 1) (by decide) (by decide) (by decide)
    refine lv_iconst (v := 4) hx hb dX10_greatestBound_15 (by decide) ?_
    refine lv_idiv hx hb dX10_greatestBound_16 (In.ne0 (⟨by decide, by decide⟩ : In 4 4 4) (by decide)) ?_
    refine lv_topi (fun x5 ex5 => ?_)
    have hb6 : In x5 0 2 := ex5 ▸ In.divs hb3 (⟨by decide, by decide⟩ : In 4 4 4) (by decide) (by decide) (by decide)
    exact ret_i (ty := .int) hx hb hr hlocks (rfl) hP hD hS (Nat.le_of_ble_eq_true rfl) (Nat.le_of_ble_eq_true rfl) (⟨rfl, rfl, hb6⟩) dX10_greatestBound_17
  ·
    have cc7 : z0.toInt = (0 : Int32).toInt := congrArg Int32.toInt c1
    have hb8 : In z0 0 0 := In.eq1 (In.full z0) (⟨by decide, by decide⟩ : In 0 0 0) cc7 (by omega) (by omega)
    refine lv_iload_n hx hb dX10_greatestBound_4 rfl (lv_at hl 1 rfl) ?_
    refine lv_iconst (v := 1) hx hb dX10_greatestBound_5 (by decide) ?_
    refine lv_isub hx hb dX10_greatestBound_6 ?_
    refine lv_topi (fun x9 ex9 => ?_)
    have hb10 : In x9 (-2) 8 := ex9 ▸ In.sub hz1 (⟨by decide, by decide⟩ : In 1 1 1) (by decide) (by decide) (by decide) (by decide)
    have et11 : x9.toInt = z1.toInt + (-1) := In.sube ex9 hz1 (k := 1) (by decide) (by decide) (by decide)
    refine lv_iconst (v := 3) hx hb dX10_greatestBound_7 (by decide) ?_
    refine lv_idiv hx hb dX10_greatestBound_8 (In.ne0 (⟨by decide, by decide⟩ : In 3 3 3) (by decide)) ?_
    refine lv_topi (fun x12 ex12 => ?_)
    have hb13 : In x12 0 2 := ex12 ▸ In.divs hb10 (⟨by decide, by decide⟩ : In 3 3 3) (by decide) (by decide) (by decide)
    refine lv_goto (tgt := 17) hx hb dX10_greatestBound_9 (by decide) ?_
    exact ret_i (ty := .int) hx hb hr hlocks (rfl) hP hD hS (Nat.le_of_ble_eq_true rfl) (Nat.le_of_ble_eq_true rfl) (⟨rfl, rfl, hb13⟩) dX10_greatestBound_17

abbrev rm_X10_greatestBound : Room := { frames := 0, cells := 0, slots := 0, locals := 0 }
abbrev po_X10_greatestBound (g : GG) (ad : Nat → Nat) (th : Nat → Int) (L : List Nat) (f : HP) (z0 : Int32) (z1 : Int32) : Int32 → (List Nat × HP) → Prop := fun r u => u.1 = L ∧ u.2 = f ∧ In r 0 33 ∧ r = if z0 = 0 then (z1 - 1) / 3 else (z1 - 1) / 4
set_option maxHeartbeats 4000000 in
set_option maxRecDepth 100000 in
theorem s_X10_greatestBound (l : Launch) (g : GG) (ad : Nat → Nat) (th : Nat → Int) (L : List Nat) (f : HP) (sz : Nat) (z0 : Int32) (z1 : Int32) (hst : ST ad L) (hT : TI g ad th f) (hz1 : In z1 1 100) : MtI l g yX10_greatestBound cX10_greatestBound 2 (some .int) rm_X10_greatestBound [.int z0, .int z1] L f sz (po_X10_greatestBound g ad th L f z0 z1) := by
  refine MtI.of (by decide +kernel) (Nat.le_of_ble_eq_true rfl) ?_
  intro p e s m below meth c A hEn hP hD hS ls hl
  obtain ⟨hx, hb, hr, hml, hown, hlocks, hts, hG, hA, hE, hnm⟩ := hEn
  have hown : s.vm.findClass "RulerWord" = some m.cls := hown
  have hl : lv_has ls 2 [(0, .int z0), (1, .int z1)] := hl
  refine lv_iload_n hx hb dX10_greatestBound_0 rfl (lv_at hl 0 rfl) ?_
  refine lv_if_ne (tgt := 12) hx hb dX10_greatestBound_1 (by decide) (fun c1 => ?_) (fun c1 => ?_)
  ·
    refine lv_iload_n hx hb dX10_greatestBound_12 rfl (lv_at hl 1 rfl) ?_
    refine lv_iconst (v := 1) hx hb dX10_greatestBound_13 (by decide) ?_
    refine lv_isub hx hb dX10_greatestBound_14 ?_
    refine lv_topi (fun x2 ex2 => ?_)
    have hb3 : In x2 0 99 := ex2 ▸ In.sub hz1 (⟨by decide, by decide⟩ : In 1 1 1) (by decide) (by decide) (by decide) (by decide)
    have et4 : x2.toInt = z1.toInt + (-1) := In.sube ex2 hz1 (k := 1) (by decide) (by decide) (by decide)
    refine lv_iconst (v := 4) hx hb dX10_greatestBound_15 (by decide) ?_
    refine lv_idiv hx hb dX10_greatestBound_16 (In.ne0 (⟨by decide, by decide⟩ : In 4 4 4) (by decide)) ?_
    refine lv_topi (fun x5 ex5 => ?_)
    have hb6 : In x5 0 24 := ex5 ▸ In.div hb3 (⟨by decide, by decide⟩ : In 4 4 4) (by decide) (by decide) (by decide) (by decide)
    exact ret_i (ty := .int) hx hb hr hlocks (rfl) hP hD hS (Nat.le_of_ble_eq_true rfl) (Nat.le_of_ble_eq_true rfl) (⟨rfl, rfl, (In.mono hb6 (by decide) (by decide)), (by rw [if_neg c1, ex5, ex2])⟩) dX10_greatestBound_17
  ·
    have cc7 : z0.toInt = (0 : Int32).toInt := congrArg Int32.toInt c1
    have hb8 : In z0 0 0 := In.eq1 (In.full z0) (⟨by decide, by decide⟩ : In 0 0 0) cc7 (by omega) (by omega)
    refine lv_iload_n hx hb dX10_greatestBound_4 rfl (lv_at hl 1 rfl) ?_
    refine lv_iconst (v := 1) hx hb dX10_greatestBound_5 (by decide) ?_
    refine lv_isub hx hb dX10_greatestBound_6 ?_
    refine lv_topi (fun x9 ex9 => ?_)
    have hb10 : In x9 0 99 := ex9 ▸ In.sub hz1 (⟨by decide, by decide⟩ : In 1 1 1) (by decide) (by decide) (by decide) (by decide)
    have et11 : x9.toInt = z1.toInt + (-1) := In.sube ex9 hz1 (k := 1) (by decide) (by decide) (by decide)
    refine lv_iconst (v := 3) hx hb dX10_greatestBound_7 (by decide) ?_
    refine lv_idiv hx hb dX10_greatestBound_8 (In.ne0 (⟨by decide, by decide⟩ : In 3 3 3) (by decide)) ?_
    refine lv_topi (fun x12 ex12 => ?_)
    have hb13 : In x12 0 33 := ex12 ▸ In.div hb10 (⟨by decide, by decide⟩ : In 3 3 3) (by decide) (by decide) (by decide) (by decide)
    refine lv_goto (tgt := 17) hx hb dX10_greatestBound_9 (by decide) ?_
    exact ret_i (ty := .int) hx hb hr hlocks (rfl) hP hD hS (Nat.le_of_ble_eq_true rfl) (Nat.le_of_ble_eq_true rfl) (⟨rfl, rfl, hb13, (by rw [if_pos c1, ex12, ex9])⟩) dX10_greatestBound_17

abbrev rm_X2_clear : Room := { frames := 0, cells := 0, slots := 0, locals := 0 }
abbrev po_X2_clear (g : GG) (ad : Nat → Nat) (th : Nat → Int) (L : List Nat) (f : HP)  : (List Nat × HP) → Prop := fun u => u.1 = L ∧ TI g ad (gset (gset (gset th 7 0) 8 0) 9 0) u.2 ∧ (∀ b, b ≠ (ad 5) → u.2 b = f b)
set_option maxHeartbeats 4000000 in
set_option maxRecDepth 100000 in
theorem s_X2_clear (l : Launch) (g : GG) (ad : Nat → Nat) (th : Nat → Int) (L : List Nat) (f : HP) (sz : Nat)  (hst : ST ad L) (hT : TI g ad th f)  : MtV l g yX2_clear cX2_clear 1 rm_X2_clear [.ref (ad 5)] L f sz (po_X2_clear g ad th L f ) := by
  refine MtV.of (by decide +kernel) (Nat.le_of_ble_eq_true rfl) ?_
  intro p e s m below meth c A hEn hP hD hS ls hl
  obtain ⟨hx, hb, hr, hml, hown, hlocks, hts, hG, hA, hE, hnm⟩ := hEn
  have hown : s.vm.findClass "RulerWord$Council" = some m.cls := hown
  have hl : lv_has ls 1 [(0, .ref (ad 5))] := hl
  have hfr : (∀ b, b ≠ (ad 5) → f b = f b) := fun b z0_ => rfl
  refine lv_aload_n hx hb dX2_clear_0 rfl (lv_at hl 0 rfl) ?_
  refine lv_iconst (v := 0) hx hb dX2_clear_1 (by decide) ?_
  obtain ⟨v0_1, v1_1, v2_1, v3_1, v4_1, v5_1, v6_1, v7_1, hf2, hv0_1, hv1_1, hg1_1, hv2_1, hv3_1, hv5_1, hg5_1, hv6_1, hv7_1, hg7_1⟩ := hT.1 5 (by decide)
  refine pl_put (ty := .int) (v := .int 0) (fs' := [.int v0_1, .int v1_1, .int v2_1, .int v3_1, .int v4_1, .int v5_1, .int v6_1, .int 0]) hx hb hts (fun w h => mT (inX2 w h)) tyX2 tyX2_ok nmX2 hown hG.1 hP hD hS (hst.1 5 (by decide)) hf2 rfl 7 (by decide) (hts _ (mT wg_245)) (fun _ h => h) rfl (by decide +kernel) (rfl) (rfl) (Nat.le_of_ble_eq_true rfl) rfl dX2_clear_2 (fun H locs f3 hf4 ho5 hP hD hS => ?_)
  have hfr : (∀ b, b ≠ (ad 5) → f3 b = f b) := fun b z0_ => (ho5 b z0_).trans (hfr b z0_)
  refine lv_aload_n hx hb dX2_clear_5 rfl (lv_at hl 0 rfl) ?_
  refine lv_iconst (v := 0) hx hb dX2_clear_6 (by decide) ?_
  refine pl_put (ty := .int) (v := .int 0) (fs' := [.int v0_1, .int 0, .int v2_1, .int v3_1, .int v4_1, .int v5_1, .int v6_1, .int 0]) hx hb hts (fun w h => mT (inX2 w h)) tyX2 tyX2_ok nmX2 hown hG.1 hP hD hS (hst.1 5 (by decide)) hf4 rfl 1 (by decide) (hts _ (mT wg_228)) (fun _ h => h) rfl (by decide +kernel) (rfl) (rfl) (Nat.le_of_ble_eq_true rfl) rfl dX2_clear_7 (fun H locs f6 hf7 ho8 hP hD hS => ?_)
  have ho9 : ∀ b, b ≠ (ad 5) → f6 b = _ := fun b hb => (ho8 b hb).trans (ho5 b hb)
  have hfr : (∀ b, b ≠ (ad 5) → f6 b = f b) := fun b z0_ => (ho8 b z0_).trans (hfr b z0_)
  refine lv_aload_n hx hb dX2_clear_10 rfl (lv_at hl 0 rfl) ?_
  refine lv_iconst (v := 0) hx hb dX2_clear_11 (by decide) ?_
  refine pl_put (ty := .int) (v := .int 0) (fs' := [.int v0_1, .int 0, .int v2_1, .int v3_1, .int 0, .int v5_1, .int v6_1, .int 0]) hx hb hts (fun w h => mT (inX2 w h)) tyX2 tyX2_ok nmX2 hown hG.1 hP hD hS (hst.1 5 (by decide)) hf7 rfl 4 (by decide) (hts _ (mT wg_237)) (fun _ h => h) rfl (by decide +kernel) (rfl) (rfl) (Nat.le_of_ble_eq_true rfl) rfl dX2_clear_12 (fun H locs f10 hf11 ho12 hP hD hS => ?_)
  have ho13 : ∀ b, b ≠ (ad 5) → f10 b = _ := fun b hb => (ho12 b hb).trans (ho9 b hb)
  have hfr : (∀ b, b ≠ (ad 5) → f10 b = f b) := fun b z0_ => (ho12 b z0_).trans (hfr b z0_)
  refine lv_aload_n hx hb dX2_clear_15 rfl (lv_at hl 0 rfl) ?_
  refine lv_iconst (v := 0) hx hb dX2_clear_16 (by decide) ?_
  refine pl_put (ty := .int) (v := .int 0) (fs' := [.int v0_1, .int 0, .int v2_1, .int v3_1, .int 0, .int 0, .int v6_1, .int 0]) hx hb hts (fun w h => mT (inX2 w h)) tyX2 tyX2_ok nmX2 hown hG.1 hP hD hS (hst.1 5 (by decide)) hf11 rfl 5 (by decide) (hts _ (mT wg_239)) (fun _ h => h) rfl (by decide +kernel) (rfl) (rfl) (Nat.le_of_ble_eq_true rfl) rfl dX2_clear_17 (fun H locs f14 hf15 ho16 hP hD hS => ?_)
  have ho17 : ∀ b, b ≠ (ad 5) → f14 b = _ := fun b hb => (ho16 b hb).trans (ho13 b hb)
  have hfr : (∀ b, b ≠ (ad 5) → f14 b = f b) := fun b z0_ => (ho16 b z0_).trans (hfr b z0_)
  refine lv_aload_n hx hb dX2_clear_20 rfl (lv_at hl 0 rfl) ?_
  refine lv_iconst (v := 0) hx hb dX2_clear_21 (by decide) ?_
  refine pl_put (ty := .boolean) (v := .int 0) (fs' := [.int v0_1, .int 0, .int v2_1, .int v3_1, .int 0, .int 0, .int 0, .int 0]) hx hb hts (fun w h => mT (inX2 w h)) tyX2 tyX2_ok nmX2 hown hG.1 hP hD hS (hst.1 5 (by decide)) hf15 rfl 6 (by decide) (hts _ (mT wg_241)) (fun _ h => h) rfl (by decide +kernel) (rfl) (rfl) (Nat.le_of_ble_eq_true rfl) rfl dX2_clear_22 (fun H locs f18 hf19 ho20 hP hD hS => ?_)
  have ho21 : ∀ b, b ≠ (ad 5) → f18 b = _ := fun b hb => (ho20 b hb).trans (ho17 b hb)
  have hfr : (∀ b, b ≠ (ad 5) → f18 b = f b) := fun b z0_ => (ho20 b z0_).trans (hfr b z0_)
  have hT := TI.updAG (th' := (gset (gset (gset th 7 (0)) 8 (0)) 9 (0))) hT hst (k := 5) (by decide) hf19 ho21 ⟨v0_1, 0, v2_1, v3_1, 0, 0, 0, 0, rfl, hv0_1, (⟨by decide, by decide⟩ : In 0 (-1) 9), (by simp [gset, i32z]), hv2_1, hv3_1, (⟨by decide, by decide⟩ : In 0 0 511), (by simp [gset, i32z]), (⟨by decide, by decide⟩ : In 0 0 1), (⟨by decide, by decide⟩ : In 0 0 63), (by simp [gset, i32z])⟩ (fun q hq => ((gset_ne (own_ne hq (k := 9) (by decide) rfl)).trans ((gset_ne (own_ne hq (k := 8) (by decide) rfl)).trans ((gset_ne (own_ne hq (k := 7) (by decide) rfl)).trans rfl))))
  have hT : TI g ad (gset (gset (gset th 7 0) 8 0) 9 0) f18 := TI.cast hT (by funext q; simp only [gset]; (repeat' split); all_goals first | rfl | omega | (subst_vars; rfl) | (exfalso; omega))
  exact ret_v hx hb hr hlocks hP hD hS (Nat.le_of_ble_eq_true rfl) (Nat.le_of_ble_eq_true rfl) (⟨rfl, hT, hfr⟩) dX2_clear_25

abbrev rm_X2_isTold : Room := { frames := 1, cells := 0, slots := 0, locals := 21 }
abbrev po_X2_isTold (g : GG) (ad : Nat → Nat) (th : Nat → Int) (L : List Nat) (f : HP) (z1 : Int32) : Int32 → (List Nat × HP) → Prop := fun r u => u.1 = L ∧ u.2 = f ∧ In r 0 1 ∧ r.toInt = bitI (th 9) z1.toInt
set_option maxHeartbeats 4000000 in
set_option maxRecDepth 100000 in
theorem s_X2_isTold (l : Launch) (g : GG) (ad : Nat → Nat) (th : Nat → Int) (L : List Nat) (f : HP) (sz : Nat) (z1 : Int32) (hst : ST ad L) (hT : TI g ad th f) (hz1 : In z1 0 5) : MtI l g yX2_isTold cX2_isTold 2 (some .boolean) rm_X2_isTold [.ref (ad 5), .int z1] L f sz (po_X2_isTold g ad th L f z1) := by
  refine MtI.of (by decide +kernel) (Nat.le_of_ble_eq_true rfl) ?_
  intro p e s m below meth c A hEn hP hD hS ls hl
  obtain ⟨hx, hb, hr, hml, hown, hlocks, hts, hG, hA, hE, hnm⟩ := hEn
  have hown : s.vm.findClass "RulerWord$Council" = some m.cls := hown
  have hl : lv_has ls 2 [(0, .ref (ad 5)), (1, .int z1)] := hl
  refine lv_aload_n hx hb dX2_isTold_0 rfl (lv_at hl 0 rfl) ?_
  obtain ⟨v0_1, v1_1, v2_1, v3_1, v4_1, v5_1, v6_1, v7_1, hf2, hv0_1, hv1_1, hg1_1, hv2_1, hv3_1, hv5_1, hg5_1, hv6_1, hv7_1, hg7_1⟩ := hT.1 5 (by decide)
  refine pl_get (v := .int v7_1) hx hb hts (fun w h => mT (inX2 w h)) hown hG.1 hP (hst.1 5 (by decide)) hf2 rfl 7 (by decide) (hts _ (mT wg_245)) (fun _ h => h) rfl dX2_isTold_1 ?_
  refine lv_iload_n hx hb dX2_isTold_4 rfl (lv_at hl 1 rfl) ?_
  refine call_i (run_SN (rm := rm_X10_bit) hx hb hml hown hts (s_X10_bit l g ad th _ _ _ v7_1 z1 hst hT ) cS_X10_bit wn_644 ⟨Nat.le_of_ble_eq_true rfl, Nat.le_of_ble_eq_true rfl⟩ hG hE hA hP hD hS rfl hl.1 (As := [.int v7_1, .int z1]) (rest := []) rfl (Nat.le_of_ble_eq_true rfl) dX2_isTold_5 ⟨Nat.le_of_ble_eq_true rfl, Nat.le_of_ble_eq_true rfl⟩) hA hD hS (fun r3 L4 f5 H locs hp6 hP hD hS => ?_)
  obtain ⟨eL7L, eL7T, eL7R, eL7X0⟩ := hp6
  have eL7L : L4 = L := eL7L
  have eL7T : f5 = f := eL7T
  rw [eL7L, eL7T] at hP hD
  have eL7R : In r3 0 1 := eL7R
  have hbt8 : r3.toInt = bitI (th 9) z1.toInt := (eL7X0 (Int.le_trans (by decide) hv7_1.1) (In.mono hz1 (by decide) (by decide))).trans (by rw [hg7_1])
  refine lv_iconst (v := 1) hx hb dX2_isTold_8 (by decide) ?_
  refine lv_icmp_ne (tgt := 16) hx hb dX2_isTold_9 (by decide) (fun c9 => ?_) (fun c9 => ?_)
  ·
    have oc1 : (1 : Int32).toInt = 1 := by decide
    have cc10 : r3.toInt ≠ (1 : Int32).toInt := i32_ne c9
    have hb11 : In r3 0 0 := In.ne1 eL7R (⟨by decide, by decide⟩ : In 1 1 1) cc10 (by omega) (by omega)
    refine lv_iconst (v := 0) hx hb dX2_isTold_16 (by decide) ?_
    exact ret_i (ty := .boolean) hx hb hr hlocks (rfl) hP hD hS (Nat.le_of_ble_eq_true rfl) (Nat.le_of_ble_eq_true rfl) (⟨rfl, rfl, (⟨by decide, by decide⟩ : In 0 0 1), (by have oc0 : (0 : Int32).toInt = 0 := (by decide); have oc1 : (1 : Int32).toInt = 1 := (by decide); obtain ⟨o1a, o1b⟩ := (hb11 : In _ _ _); omega)⟩) dX2_isTold_17
  ·
    have oc1 : (1 : Int32).toInt = 1 := by decide
    have cc12 : r3.toInt = (1 : Int32).toInt := congrArg Int32.toInt c9
    have hb13 : In r3 1 1 := In.eq1 eL7R (⟨by decide, by decide⟩ : In 1 1 1) cc12 (by omega) (by omega)
    refine lv_iconst (v := 1) hx hb dX2_isTold_12 (by decide) ?_
    refine lv_goto (tgt := 17) hx hb dX2_isTold_13 (by decide) ?_
    exact ret_i (ty := .boolean) hx hb hr hlocks (rfl) hP hD hS (Nat.le_of_ble_eq_true rfl) (Nat.le_of_ble_eq_true rfl) (⟨rfl, rfl, (⟨by decide, by decide⟩ : In 1 0 1), (by have oc1 : (1 : Int32).toInt = 1 := (by decide); obtain ⟨o1a, o1b⟩ := (hb13 : In _ _ _); omega)⟩) dX2_isTold_17

abbrev rm_X2_wordOf : Room := { frames := 0, cells := 0, slots := 0, locals := 0 }
abbrev po_X2_wordOf (g : GG) (ad : Nat → Nat) (th : Nat → Int) (L : List Nat) (f : HP) (z0 : Int32) : Nat → (List Nat × HP) → Prop := fun r u => u.1 = L ∧ u.2 = f ∧ ∃ i : Nat, i < nS ∧ r = g.2.2.1 i
set_option maxHeartbeats 4000000 in
set_option maxRecDepth 100000 in
theorem s_X2_wordOf (l : Launch) (g : GG) (ad : Nat → Nat) (th : Nat → Int) (L : List Nat) (f : HP) (sz : Nat) (z0 : Int32) (hst : ST ad L) (hT : TI g ad th f)  : MtR l g yX2_wordOf cX2_wordOf 1 (some (.object "java/lang/String")) rm_X2_wordOf [.int z0] L f sz (po_X2_wordOf g ad th L f z0) := by
  refine MtR.of (by decide +kernel) (Nat.le_of_ble_eq_true rfl) ?_
  intro p e s m below meth c A hEn hP hD hS ls hl
  obtain ⟨hx, hb, hr, hml, hown, hlocks, hts, hG, hA, hE, hnm⟩ := hEn
  have hown : s.vm.findClass "RulerWord$Council" = some m.cls := hown
  have hl : lv_has ls 1 [(0, .int z0)] := hl
  refine lv_iload_n hx hb dX2_wordOf_0 rfl (lv_at hl 0 rfl) ?_
  by_cases c1 : z0 = 0
  ·
    refine lv_tableIn (off := 35) (tgt := 36) hx hb dX2_wordOf_1 (by rw [c1]; decide) (by rw [c1]; decide) (by rw [c1]; decide) (by decide) ?_
    have hb2 : In z0 0 0 := by rw [c1]; exact ⟨by decide, by decide⟩
    refine va_ldcS hx hb hown (hG.2.2.1 ("RulerWord$Council", 97, "size", 2) (by decide +kernel)) dX2_wordOf_36 ?_
    exact ret_r (ty := .object "java/lang/String") hx hb hr hlocks (Or.inl ⟨_, rfl⟩) hP hD hS (Nat.le_of_ble_eq_true rfl) (Nat.le_of_ble_eq_true rfl) (⟨rfl, rfl, ⟨2, (by decide), rfl⟩⟩) dX2_wordOf_38
  by_cases c3 : z0 = 1
  ·
    refine lv_tableIn (off := 38) (tgt := 39) hx hb dX2_wordOf_1 (by rw [c3]; decide) (by rw [c3]; decide) (by rw [c3]; decide) (by decide) ?_
    have hb4 : In z0 1 1 := by rw [c3]; exact ⟨by decide, by decide⟩
    refine va_ldcS hx hb hown (hG.2.2.1 ("RulerWord$Council", 98, "bound", 3) (by decide +kernel)) dX2_wordOf_39 ?_
    exact ret_r (ty := .object "java/lang/String") hx hb hr hlocks (Or.inl ⟨_, rfl⟩) hP hD hS (Nat.le_of_ble_eq_true rfl) (Nat.le_of_ble_eq_true rfl) (⟨rfl, rfl, ⟨3, (by decide), rfl⟩⟩) dX2_wordOf_41
  by_cases c5 : z0 = 2
  ·
    refine lv_tableIn (off := 41) (tgt := 42) hx hb dX2_wordOf_1 (by rw [c5]; decide) (by rw [c5]; decide) (by rw [c5]; decide) (by decide) ?_
    have hb6 : In z0 2 2 := by rw [c5]; exact ⟨by decide, by decide⟩
    refine va_ldcS hx hb hown (hG.2.2.1 ("RulerWord$Council", 99, "phases", 4) (by decide +kernel)) dX2_wordOf_42 ?_
    exact ret_r (ty := .object "java/lang/String") hx hb hr hlocks (Or.inl ⟨_, rfl⟩) hP hD hS (Nat.le_of_ble_eq_true rfl) (Nat.le_of_ble_eq_true rfl) (⟨rfl, rfl, ⟨4, (by decide), rfl⟩⟩) dX2_wordOf_44
  by_cases c7 : z0 = 3
  ·
    refine lv_tableIn (off := 44) (tgt := 45) hx hb dX2_wordOf_1 (by rw [c7]; decide) (by rw [c7]; decide) (by rw [c7]; decide) (by decide) ?_
    have hb8 : In z0 3 3 := by rw [c7]; exact ⟨by decide, by decide⟩
    refine va_ldcS hx hb hown (hG.2.2.1 ("RulerWord$Council", 100, "starts", 5) (by decide +kernel)) dX2_wordOf_45 ?_
    exact ret_r (ty := .object "java/lang/String") hx hb hr hlocks (Or.inl ⟨_, rfl⟩) hP hD hS (Nat.le_of_ble_eq_true rfl) (Nat.le_of_ble_eq_true rfl) (⟨rfl, rfl, ⟨5, (by decide), rfl⟩⟩) dX2_wordOf_47
  by_cases c9 : z0 = 4
  ·
    refine lv_tableIn (off := 47) (tgt := 48) hx hb dX2_wordOf_1 (by rw [c9]; decide) (by rw [c9]; decide) (by rw [c9]; decide) (by decide) ?_
    have hb10 : In z0 4 4 := by rw [c9]; exact ⟨by decide, by decide⟩
    refine va_ldcS hx hb hown (hG.2.2.1 ("RulerWord$Council", 101, "false", 6) (by decide +kernel)) dX2_wordOf_48 ?_
    exact ret_r (ty := .object "java/lang/String") hx hb hr hlocks (Or.inl ⟨_, rfl⟩) hP hD hS (Nat.le_of_ble_eq_true rfl) (Nat.le_of_ble_eq_true rfl) (⟨rfl, rfl, ⟨6, (by decide), rfl⟩⟩) dX2_wordOf_50
  refine lv_tableOut (tgt := 51) hx hb dX2_wordOf_1 (tb_out (by decide) (by decide) (fun k h1 h2 => ?_)) (by decide) ?_
  · rcases (show k = 0 ∨ k = 1 ∨ k = 2 ∨ k = 3 ∨ k = 4 by omega) with rfl | rfl | rfl | rfl | rfl
    · exact fun e => c1 (e.trans (by decide))
    · exact fun e => c3 (e.trans (by decide))
    · exact fun e => c5 (e.trans (by decide))
    · exact fun e => c7 (e.trans (by decide))
    · exact fun e => c9 (e.trans (by decide))
  ·
    refine va_ldcS hx hb hown (hG.2.2.1 ("RulerWord$Council", 103, "skip", 7) (by decide +kernel)) dX2_wordOf_51 ?_
    exact ret_r (ty := .object "java/lang/String") hx hb hr hlocks (Or.inl ⟨_, rfl⟩) hP hD hS (Nat.le_of_ble_eq_true rfl) (Nat.le_of_ble_eq_true rfl) (⟨rfl, rfl, ⟨7, (by decide), rfl⟩⟩) dX2_wordOf_53

abbrev rm_X2_pieceOf : Room := { frames := 5, cells := 0, slots := 0, locals := 107 }
abbrev po_X2_pieceOf (g : GG) (ad : Nat → Nat) (th : Nat → Int) (L : List Nat) (f : HP)  : Int32 → (List Nat × HP) → Prop := fun r u => u.1 = L ∧ u.2 = f ∧ In r (-1) 5
set_option maxHeartbeats 4000000 in
set_option maxRecDepth 100000 in
theorem s_X2_pieceOf (l : Launch) (g : GG) (ad : Nat → Nat) (th : Nat → Int) (L : List Nat) (f : HP) (sz : Nat)  (hst : ST ad L) (hT : TI g ad th f)  : MtI l g yX2_pieceOf cX2_pieceOf 2 (some .int) rm_X2_pieceOf [.ref (ad 1)] L f sz (po_X2_pieceOf g ad th L f ) := by
  refine MtI.of (by decide +kernel) (Nat.le_of_ble_eq_true rfl) ?_
  intro p e s m below meth c A hEn hP hD hS ls hl
  obtain ⟨hx, hb, hr, hml, hown, hlocks, hts, hG, hA, hE, hnm⟩ := hEn
  have hown : s.vm.findClass "RulerWord$Council" = some m.cls := hown
  have hl : lv_has ls 2 [(0, .ref (ad 1))] := hl
  refine lv_iconst (v := 0) hx hb dX2_pieceOf_0 (by decide) ?_
  refine lv_istore_n (lv' := [(1, .int 0), (0, .ref (ad 1))]) hx hb dX2_pieceOf_1 rfl hl (by decide) rfl (fun ls hl => ?_)
  have hJ2 : ∀ (k2 : Nat) (y2_l1 : Int32) (H : Heap) (locs : List Loc) (ls : Array Slot), In y2_l1 0 6 → va_P g.1 vwCl (va_pl L f) H → va_D A (va_pl L f) → va_S A s.heap H locs → lv_has ls 2 [(0, .ref (ad 1)), (1, .int y2_l1)] → 6 - y2_l1.toInt < ((k2 : Nat) : Int) → W p l e rm_X2_pieceOf s m [.ref (ad 1)].toArray below meth c H locs 0 0 (MQ below (va_Qi (po_X2_pieceOf g ad th L f ) (PstB g A) A) [.ref (ad 1)].toArray s rm_X2_pieceOf.cells rm_X2_pieceOf.slots A) (F0 m 2 ls []) := by
    intro k2
    induction k2 with
    | zero =>
      intro y2_l1 H locs ls hy2_l1 hP hD hS hl hmz2
      exact ms0 hy2_l1 hmz2
    | succ k2 ih2 =>
      intro y2_l1 H locs ls hy2_l1 hP hD hS hl hmz2
      refine lv_iload_n hx hb dX2_pieceOf_2 rfl (lv_at hl 1 rfl) ?_
      refine lv_bipush (v := 6) hx hb dX2_pieceOf_3 (by decide) ?_
      refine lv_icmp_ge (tgt := 27) hx hb dX2_pieceOf_5 (by decide) (fun c1 => ?_) (fun c1 => ?_)
      ·
        have cc2 : (6 : Int32).toInt ≤ y2_l1.toInt := i32_le.mp c1
        have hb3 : In y2_l1 6 6 := In.ge1 hy2_l1 (⟨by decide, by decide⟩ : In 6 6 6) cc2 (by omega) (by omega)
        refine lv_iconst (v := (-1)) hx hb dX2_pieceOf_27 (by decide) ?_
        exact ret_i (ty := .int) hx hb hr hlocks (rfl) hP hD hS (Nat.le_of_ble_eq_true rfl) (Nat.le_of_ble_eq_true rfl) (⟨rfl, rfl, (⟨by decide, by decide⟩ : In (-1) (-1) 5)⟩) dX2_pieceOf_28
      ·
        have cc4 : y2_l1.toInt < (6 : Int32).toInt := i32_nle c1
        have hb5 : In y2_l1 0 5 := In.lt1 hy2_l1 (⟨by decide, by decide⟩ : In 6 6 6) cc4 (by omega) (by omega)
        refine lv_aload_n hx hb dX2_pieceOf_8 rfl (lv_at hl 0 rfl) ?_
        refine lv_iload_n hx hb dX2_pieceOf_9 rfl (lv_at hl 1 rfl) ?_
        refine call_r (run_S (rm := rm_X2_wordOf) hx hb hml hown hts (s_X2_wordOf l g ad th _ _ _ y2_l1 hst hT ) cS_X2_wordOf wg_631 ⟨Nat.le_of_ble_eq_true rfl, Nat.le_of_ble_eq_true rfl⟩ hG hE hA hP hD hS rfl hl.1 (As := [.int y2_l1]) (rest := [.ref (ad 1)]) rfl (Nat.le_of_ble_eq_true rfl) dX2_pieceOf_10 ⟨Nat.le_of_ble_eq_true rfl, Nat.le_of_ble_eq_true rfl⟩) hA hD hS (fun r6 L7 f8 H locs hp9 hP hD hS => ?_)
        obtain ⟨eL10L, eL10T, eL10S⟩ := hp9
        have eL10L : L7 = L := eL10L
        have eL10T : f8 = f := eL10T
        rw [eL10L, eL10T] at hP hD
        obtain ⟨i11, hi_i11, ei11⟩ := eL10S
        subst ei11
        obtain ⟨v1_12, v2_12, v3_12, v4_12, hf13, hv1_12, hv2_12, hv3_12, hv4_12⟩ := hT.1 1 (by decide)
        refine call_i (run_VN (rm := rm_X8_isWord) hx hb hml hown hts (s_X8_isWord l g ad th _ _ _ i11 hst hT hi_i11) cV_X8_isWord wn_570 ⟨Nat.le_of_ble_eq_true rfl, Nat.le_of_ble_eq_true rfl⟩ hG hE hA hP hD hS (hst.1 1 (by decide)) hf13 rfl rfl hl.1 (As := [.ref (g.2.2.1 i11)]) (rest := []) rfl (Nat.le_of_ble_eq_true rfl) dX2_pieceOf_13 ⟨Nat.le_of_ble_eq_true rfl, Nat.le_of_ble_eq_true rfl⟩) hA hD hS (fun r14 L15 f16 H locs hp17 hP hD hS => ?_)
        obtain ⟨eL18L, eL18T, eL18R⟩ := hp17
        have eL18L : L15 = L := eL18L
        have eL18T : f16 = f := eL18T
        rw [eL18L, eL18T] at hP hD
        have eL18R : In r14 0 1 := eL18R
        refine lv_if_eq (tgt := 21) hx hb dX2_pieceOf_16 (by decide) (fun c19 => ?_) (fun c19 => ?_)
        ·
          have cc20 : r14.toInt = (0 : Int32).toInt := congrArg Int32.toInt c19
          have hb21 : In r14 0 0 := In.eq1 eL18R (⟨by decide, by decide⟩ : In 0 0 0) cc20 (by omega) (by omega)
          obtain ⟨x22, ex22⟩ : ∃ y : Int32, y = y2_l1 + 1 := ⟨_, rfl⟩
          have hb23 : In x22 1 6 := ex22 ▸ In.add hb5 (⟨by decide, by decide⟩ : In 1 1 1) (by decide) (by decide) (by decide) (by decide)
          have et24 : x22.toInt = y2_l1.toInt + 1 := In.adde ex22 hb5 (k := 1) (by decide) (by decide) (by decide)
          refine lv_iinc (v := x22) (lv' := [(1, .int x22), (0, .ref (ad 1))]) hx hb dX2_pieceOf_21 hl (k := 1) rfl (by rw [ex22]; rfl) (by decide) rfl (fun ls hl => ?_)
          refine lv_goto (tgt := 2) hx hb dX2_pieceOf_24 (by decide) ?_
          exact ih2 x22 _ _ _ (In.mono hb23 (by decide) (by decide)) hP hD hS (lv_sub hl [1, 0] rfl) (msu et24 (by decide) hmz2)
        ·
          have cc25 : r14.toInt ≠ (0 : Int32).toInt := i32_ne c19
          have hb26 : In r14 1 1 := In.ne1 eL18R (⟨by decide, by decide⟩ : In 0 0 0) cc25 (by omega) (by omega)
          refine lv_iload_n hx hb dX2_pieceOf_19 rfl (lv_at hl 1 rfl) ?_
          exact ret_i (ty := .int) hx hb hr hlocks (rfl) hP hD hS (Nat.le_of_ble_eq_true rfl) (Nat.le_of_ble_eq_true rfl) (⟨rfl, rfl, (In.mono hb5 (by decide) (by decide))⟩) dX2_pieceOf_20
  exact hJ2 ((6 - (0 : Int32).toInt).toNat + 1) 0 _ _ _ (⟨by decide, by decide⟩ : In 0 0 6) hP hD hS (lv_sub hl [1, 0] rfl) (msI _)

abbrev rm_X2_readStarts : Room := { frames := 2, cells := 0, slots := 0, locals := 41 }
abbrev po_X2_readStarts (g : GG) (ad : Nat → Nat) (th : Nat → Int) (L : List Nat) (f : HP)  : Int32 → (List Nat × HP) → Prop := fun r u => u.1 = L ∧ TI g ad th u.2 ∧ (∀ b, b ≠ (ad 5) → u.2 b = f b) ∧ In r 0 1
set_option maxHeartbeats 4000000 in
set_option maxRecDepth 100000 in
theorem s_X2_readStarts (l : Launch) (g : GG) (ad : Nat → Nat) (th : Nat → Int) (L : List Nat) (f : HP) (sz : Nat)  (hst : ST ad L) (hT : TI g ad th f)  : MtI l g yX2_readStarts cX2_readStarts 4 (some .boolean) rm_X2_readStarts [.ref (ad 5), .ref (ad 1)] L f sz (po_X2_readStarts g ad th L f ) := by
  refine MtI.of (by decide +kernel) (Nat.le_of_ble_eq_true rfl) ?_
  intro p e s m below meth c A hEn hP hD hS ls hl
  obtain ⟨hx, hb, hr, hml, hown, hlocks, hts, hG, hA, hE, hnm⟩ := hEn
  have hown : s.vm.findClass "RulerWord$Council" = some m.cls := hown
  have hl : lv_has ls 4 [(0, .ref (ad 5)), (1, .ref (ad 1))] := hl
  have hfr : (∀ b, b ≠ (ad 5) → f b = f b) := fun b z0_ => rfl
  refine lv_aload_n hx hb dX2_readStarts_0 rfl (lv_at hl 1 rfl) ?_
  obtain ⟨v1_1, v2_1, v3_1, v4_1, hf2, hv1_1, hv2_1, hv3_1, hv4_1⟩ := hT.1 1 (by decide)
  refine call_i (run_VN (rm := rm_X8_digits) hx hb hml hown hts (s_X8_digits l g ad th _ _ _  hst hT ) cV_X8_digits wn_663 ⟨Nat.le_of_ble_eq_true rfl, Nat.le_of_ble_eq_true rfl⟩ hG hE hA hP hD hS (hst.1 1 (by decide)) hf2 rfl rfl hl.1 (As := []) (rest := []) rfl (Nat.le_of_ble_eq_true rfl) dX2_readStarts_1 ⟨Nat.le_of_ble_eq_true rfl, Nat.le_of_ble_eq_true rfl⟩) hA hD hS (fun r3 L4 f5 H locs hp6 hP hD hS => ?_)
  obtain ⟨eL7L, eL7T, eL7R, eL7X0⟩ := hp6
  have eL7L : L4 = L := eL7L
  have eL7T : f5 = f := eL7T
  rw [eL7L, eL7T] at hP hD
  have eL7R : In r3 (-520) 520 := eL7R
  have hd8 : (v4_1.toInt = 3 ∧ r3.toInt = v3_1.toInt - v2_1.toInt) ∨ (v4_1.toInt ≠ 3 ∧ r3.toInt = 0) := eL7X0 _ _ _ _ hf2
  refine lv_aload_n hx hb dX2_readStarts_4 rfl (lv_at hl 0 rfl) ?_
  obtain ⟨v0_9, v1_9, v2_9, v3_9, v4_9, v5_9, v6_9, v7_9, hf10, hv0_9, hv1_9, hg1_9, hv2_9, hv3_9, hv5_9, hg5_9, hv6_9, hv7_9, hg7_9⟩ := hT.1 5 (by decide)
  refine pl_get (v := .int v1_9) hx hb hts (fun w h => mT (inX2 w h)) hown hG.1 hP (hst.1 5 (by decide)) hf10 rfl 1 (by decide) (hts _ (mT wg_228)) (fun _ h => h) rfl dX2_readStarts_5 ?_
  refine lv_icmp_eq (tgt := 13) hx hb dX2_readStarts_8 (by decide) (fun c11 => ?_) (fun c11 => ?_)
  ·
    have cc12 : r3.toInt = v1_9.toInt := congrArg Int32.toInt c11
    have hb13 : In r3 (-1) 9 := In.eq1 eL7R hv1_9 cc12 (by omega) (by omega)
    refine lv_iconst (v := 0) hx hb dX2_readStarts_13 (by decide) ?_
    refine lv_istore_n (lv' := [(2, .int 0), (0, .ref (ad 5)), (1, .ref (ad 1))]) hx hb dX2_readStarts_14 rfl hl (by decide) rfl (fun ls hl => ?_)
    have hJ15 : ∀ (k15 : Nat) (y15_l2 : Int32) (f_15 : HP) (H : Heap) (locs : List Loc) (ls : Array Slot), In y15_l2 0 9 → va_P g.1 vwCl (va_pl L f_15) H → va_D A (va_pl L f_15) → va_S A s.heap H locs → TI g ad th f_15 → (∀ b, b ≠ (ad 5) → f_15 b = f b) → f_15 (ad 1) = .inr (8, [.ref (ad 2), .int v1_1, .int v2_1, .int v3_1, .int v4_1]) → lv_has ls 4 [(0, .ref (ad 5)), (1, .ref (ad 1)), (2, .int y15_l2)] → 9 - y15_l2.toInt < ((k15 : Nat) : Int) → W p l e rm_X2_readStarts s m [.ref (ad 5), .ref (ad 1)].toArray below meth c H locs 0 0 (MQ below (va_Qi (po_X2_readStarts g ad th L f ) (PstB g A) A) [.ref (ad 5), .ref (ad 1)].toArray s rm_X2_readStarts.cells rm_X2_readStarts.slots A) (F0 m 15 ls []) := by
      intro k15
      induction k15 with
      | zero =>
        intro y15_l2 f_15 H locs ls hy15_l2 hP hD hS hT hfr hf14 hl hmz15
        exact ms0 hy15_l2 hmz15
      | succ k15 ih15 =>
        intro y15_l2 f_15 H locs ls hy15_l2 hP hD hS hT hfr hf14 hl hmz15
        refine lv_iload_n hx hb dX2_readStarts_15 rfl (lv_at hl 2 rfl) ?_
        refine lv_aload_n hx hb dX2_readStarts_16 rfl (lv_at hl 0 rfl) ?_
        obtain ⟨v0_15, v1_15, v2_15, v3_15, v4_15, v5_15, v6_15, v7_15, hf16, hv0_15, hv1_15, hg1_15, hv2_15, hv3_15, hv5_15, hg5_15, hv6_15, hv7_15, hg7_15⟩ := hT.1 5 (by decide)
        refine pl_get (v := .int v1_15) hx hb hts (fun w h => mT (inX2 w h)) hown hG.1 hP (hst.1 5 (by decide)) hf16 rfl 1 (by decide) (hts _ (mT wg_228)) (fun _ h => h) rfl dX2_readStarts_17 ?_
        refine lv_icmp_ge (tgt := 54) hx hb dX2_readStarts_20 (by decide) (fun c17 => ?_) (fun c17 => ?_)
        ·
          refine lv_iconst (v := 1) hx hb dX2_readStarts_54 (by decide) ?_
          exact ret_i (ty := .boolean) hx hb hr hlocks (rfl) hP hD hS (Nat.le_of_ble_eq_true rfl) (Nat.le_of_ble_eq_true rfl) (⟨rfl, hT, hfr, (⟨by decide, by decide⟩ : In 1 0 1)⟩) dX2_readStarts_55
        ·
          have cc18 : y15_l2.toInt < v1_15.toInt := i32_nle c17
          have hb19 : In y15_l2 0 8 := In.lt1 hy15_l2 hv1_15 cc18 (by omega) (by omega)
          have hb20 : In v1_15 1 9 := In.lt2 hy15_l2 hv1_15 cc18 (by omega) (by omega)
          refine lv_aload_n hx hb dX2_readStarts_23 rfl (lv_at hl 1 rfl) ?_
          refine lv_iload_n hx hb dX2_readStarts_24 rfl (lv_at hl 2 rfl) ?_
          refine call_i (run_VN (rm := rm_X8_digitAt) hx hb hml hown hts (s_X8_digitAt l g ad th _ _ _ y15_l2 hst hT ) cV_X8_digitAt wn_664 ⟨Nat.le_of_ble_eq_true rfl, Nat.le_of_ble_eq_true rfl⟩ hG hE hA hP hD hS (hst.1 1 (by decide)) hf14 rfl rfl hl.1 (As := [.int y15_l2]) (rest := []) rfl (Nat.le_of_ble_eq_true rfl) dX2_readStarts_25 ⟨Nat.le_of_ble_eq_true rfl, Nat.le_of_ble_eq_true rfl⟩) hA hD hS (fun r21 L22 f23 H locs hp24 hP hD hS => ?_)
          obtain ⟨eL25L, eL25T, eL25R⟩ := hp24
          have eL25L : L22 = L := eL25L
          have eL25T : f23 = f_15 := eL25T
          rw [eL25L, eL25T] at hP hD
          have eL25R : In r21 (-49) 65487 := eL25R
          refine lv_istore_n (lv' := [(3, .int r21), (0, .ref (ad 5)), (1, .ref (ad 1)), (2, .int y15_l2)]) hx hb dX2_readStarts_28 rfl hl (by decide) rfl (fun ls hl => ?_)
          refine lv_iload_n hx hb dX2_readStarts_29 rfl (lv_at hl 0 rfl) ?_
          refine lv_iconst (v := 1) hx hb dX2_readStarts_30 (by decide) ?_
          refine lv_icmp_le (tgt := 36) hx hb dX2_readStarts_31 (by decide) (fun c26 => ?_) (fun c26 => ?_)
          ·
            have cc27 : r21.toInt ≤ (1 : Int32).toInt := i32_le.mp c26
            have hb28 : In r21 (-49) 1 := In.le1 eL25R (⟨by decide, by decide⟩ : In 1 1 1) cc27 (by omega) (by omega)
            refine lv_aload_n hx hb dX2_readStarts_36 rfl (lv_at hl 1 rfl) ?_
            refine lv_dup hx hb dX2_readStarts_37 rfl ?_
            refine pl_get (v := .int v4_15) hx hb hts (fun w h => mT (inX2 w h)) hown hG.1 hP (hst.1 5 (by decide)) hf16 rfl 4 (by decide) (hts _ (mT wg_237)) (fun _ h => h) rfl dX2_readStarts_38 ?_
            refine lv_iload_n hx hb dX2_readStarts_41 rfl (lv_at hl 0 rfl) ?_
            refine lv_iload_n hx hb dX2_readStarts_42 rfl (lv_at hl 3 rfl) ?_
            refine lv_ishl hx hb dX2_readStarts_43 ?_
            refine lv_topi (fun x29 ex29 => ?_)
            refine lv_ior hx hb dX2_readStarts_44 ?_
            refine lv_topi (fun x30 ex30 => ?_)
            refine pl_put (ty := .int) (v := .int x30) (fs' := [.int v0_15, .int v1_15, .int v2_15, .int v3_15, .int x30, .int v5_15, .int v6_15, .int v7_15]) hx hb hts (fun w h => mT (inX2 w h)) tyX2 tyX2_ok nmX2 hown hG.1 hP hD hS (hst.1 5 (by decide)) hf16 rfl 4 (by decide) (hts _ (mT wg_237)) (fun _ h => h) rfl (by decide +kernel) (rfl) (rfl) (Nat.le_of_ble_eq_true rfl) rfl dX2_readStarts_45 (fun H locs f31 hf32 ho33 hP hD hS => ?_)
            have hf34 := (ho33 (ad 1) (hst.ne (by decide) (by decide) (by decide))).trans hf14
            have hfr : (∀ b, b ≠ (ad 5) → f31 b = f b) := fun b z0_ => (ho33 b z0_).trans (hfr b z0_)
            obtain ⟨x35, ex35⟩ : ∃ y : Int32, y = y15_l2 + 1 := ⟨_, rfl⟩
            have hb36 : In x35 1 9 := ex35 ▸ In.add hb19 (⟨by decide, by decide⟩ : In 1 1 1) (by decide) (by decide) (by decide) (by decide)
            have et37 : x35.toInt = y15_l2.toInt + 1 := In.adde ex35 hb19 (k := 1) (by decide) (by decide) (by decide)
            refine lv_iinc (v := x35) (lv' := [(2, .int x35), (3, .int r21), (0, .ref (ad 5)), (1, .ref (ad 1))]) hx hb dX2_readStarts_48 hl (k := 3) rfl (by rw [ex35]; rfl) (by decide) rfl (fun ls hl => ?_)
            have hT := TI.updA hT hst (k := 5) (by decide) hf32 ho33 ⟨v0_15, v1_15, v2_15, v3_15, x30, v5_15, v6_15, v7_15, rfl, hv0_15, (In.mono hb20 (by decide) (by decide)), hg1_15, hv2_15, hv3_15, hv5_15, hg5_15, hv6_15, hv7_15, hg7_15⟩
            refine lv_goto (tgt := 15) hx hb dX2_readStarts_51 (by decide) ?_
            exact ih15 x35 _ _ _ _ (In.mono hb36 (by decide) (by decide)) hP hD hS hT hfr hf34 (lv_sub hl [2, 3, 0] rfl) (msu et37 (by decide) hmz15)
          ·
            have cc38 : (1 : Int32).toInt < r21.toInt := i32_nle c26
            have hb39 : In r21 2 65487 := In.gt1 eL25R (⟨by decide, by decide⟩ : In 1 1 1) cc38 (by omega) (by omega)
            refine lv_iconst (v := 0) hx hb dX2_readStarts_34 (by decide) ?_
            exact ret_i (ty := .boolean) hx hb hr hlocks (rfl) hP hD hS (Nat.le_of_ble_eq_true rfl) (Nat.le_of_ble_eq_true rfl) (⟨rfl, hT, hfr, (⟨by decide, by decide⟩ : In 0 0 1)⟩) dX2_readStarts_35
    exact hJ15 ((9 - (0 : Int32).toInt).toNat + 1) 0 _ _ _ _ (⟨by decide, by decide⟩ : In 0 0 9) hP hD hS hT hfr hf2 (lv_sub hl [1, 2, 0] rfl) (msI _)
  ·
    refine lv_iconst (v := 0) hx hb dX2_readStarts_11 (by decide) ?_
    exact ret_i (ty := .boolean) hx hb hr hlocks (rfl) hP hD hS (Nat.le_of_ble_eq_true rfl) (Nat.le_of_ble_eq_true rfl) (⟨rfl, hT, hfr, (⟨by decide, by decide⟩ : In 0 0 1)⟩) dX2_readStarts_12

abbrev rm_X8_number_3_9 : Room := { frames := 2, cells := 0, slots := 0, locals := 41 }
abbrev po_X8_number_3_9 (g : GG) (ad : Nat → Nat) (th : Nat → Int) (L : List Nat) (f : HP)  : Int32 → (List Nat × HP) → Prop := fun r u => u.1 = L ∧ u.2 = f ∧ In r (-1) 9 ∧ (r.toInt = -1 ∨ 3 ≤ r.toInt)
set_option maxHeartbeats 4000000 in
set_option maxRecDepth 100000 in
theorem s_X8_number_3_9 (l : Launch) (g : GG) (ad : Nat → Nat) (th : Nat → Int) (L : List Nat) (f : HP) (sz : Nat)  (hst : ST ad L) (hT : TI g ad th f)  : MtI l g yX8_number cX8_number 4 (some .int) rm_X8_number_3_9 [.ref (ad 1), .int 3, .int 9] L f sz (po_X8_number_3_9 g ad th L f ) := by
  refine MtI.of (by decide +kernel) (Nat.le_of_ble_eq_true rfl) ?_
  intro p e s m below meth c A hEn hP hD hS ls hl
  obtain ⟨hx, hb, hr, hml, hown, hlocks, hts, hG, hA, hE, hnm⟩ := hEn
  have hown : s.vm.findClass "RulerWord$Tape" = some m.cls := hown
  have hl : lv_has ls 4 [(0, .ref (ad 1)), (1, .int 3), (2, .int 9)] := hl
  refine lv_aload_n hx hb dX8_number_0 rfl (lv_at hl 0 rfl) ?_
  obtain ⟨v1_1, v2_1, v3_1, v4_1, hf2, hv1_1, hv2_1, hv3_1, hv4_1⟩ := hT.1 1 (by decide)
  refine call_i (run_V (rm := rm_X8_digits) hx hb hml hown hts (s_X8_digits l g ad th _ _ _  hst hT ) cV_X8_digits wg_651 ⟨Nat.le_of_ble_eq_true rfl, Nat.le_of_ble_eq_true rfl⟩ hG hE hA hP hD hS (hst.1 1 (by decide)) hf2 rfl rfl hl.1 (As := []) (rest := []) rfl (Nat.le_of_ble_eq_true rfl) dX8_number_1 ⟨Nat.le_of_ble_eq_true rfl, Nat.le_of_ble_eq_true rfl⟩) hA hD hS (fun r3 L4 f5 H locs hp6 hP hD hS => ?_)
  obtain ⟨eL7L, eL7T, eL7R, eL7X0⟩ := hp6
  have eL7L : L4 = L := eL7L
  have eL7T : f5 = f := eL7T
  rw [eL7L, eL7T] at hP hD
  have eL7R : In r3 (-520) 520 := eL7R
  have hd8 : (v4_1.toInt = 3 ∧ r3.toInt = v3_1.toInt - v2_1.toInt) ∨ (v4_1.toInt ≠ 3 ∧ r3.toInt = 0) := eL7X0 _ _ _ _ hf2
  refine lv_iconst (v := 1) hx hb dX8_number_4 (by decide) ?_
  have hJ17 : ∀ (y17_s0 : Int32) (H : Heap) (locs : List Loc) (ls : Array Slot), In y17_s0 (-49) 65487 → va_P g.1 vwCl (va_pl L f) H → va_D A (va_pl L f) → va_S A s.heap H locs → lv_has ls 4 [(0, .ref (ad 1)), (1, .int 3), (2, .int 9)] → W p l e rm_X8_number_3_9 s m [.ref (ad 1), .int 3, .int 9].toArray below meth c H locs 0 0 (MQ below (va_Qi (po_X8_number_3_9 g ad th L f ) (PstB g A) A) [.ref (ad 1), .int 3, .int 9].toArray s rm_X8_number_3_9.cells rm_X8_number_3_9.slots A) (F0 m 17 ls [.int y17_s0]) := by
    intro y17_s0 H locs ls hy17_s0 hP hD hS hl
    refine lv_istore_n (lv' := [(3, .int y17_s0), (0, .ref (ad 1)), (1, .int 3), (2, .int 9)]) hx hb dX8_number_17 rfl hl (by decide) rfl (fun ls hl => ?_)
    refine lv_iload_n hx hb dX8_number_18 rfl (lv_at hl 0 rfl) ?_
    refine lv_iload_n hx hb dX8_number_19 rfl (lv_at hl 2 rfl) ?_
    have hJ28 : ∀ (H : Heap) (locs : List Loc) (ls : Array Slot), va_P g.1 vwCl (va_pl L f) H → va_D A (va_pl L f) → va_S A s.heap H locs → lv_has ls 4 [(0, .ref (ad 1)), (1, .int 3), (2, .int 9), (3, .int y17_s0)] → W p l e rm_X8_number_3_9 s m [.ref (ad 1), .int 3, .int 9].toArray below meth c H locs 0 0 (MQ below (va_Qi (po_X8_number_3_9 g ad th L f ) (PstB g A) A) [.ref (ad 1), .int 3, .int 9].toArray s rm_X8_number_3_9.cells rm_X8_number_3_9.slots A) (F0 m 28 ls []) := by
      intro H locs ls hP hD hS hl
      refine lv_iconst (v := (-1)) hx hb dX8_number_28 (by decide) ?_
      refine lv_goto (tgt := 33) hx hb dX8_number_29 (by decide) ?_
      exact ret_i (ty := .int) hx hb hr hlocks (rfl) hP hD hS (Nat.le_of_ble_eq_true rfl) (Nat.le_of_ble_eq_true rfl) (⟨rfl, rfl, (⟨by decide, by decide⟩ : In (-1) (-1) 9), (by have oc3 : (3 : Int32).toInt = 3 := (by decide); have ocm1 : ((-1) : Int32).toInt = (-1) := (by decide); omega)⟩) dX8_number_33
    refine lv_icmp_lt (tgt := 28) hx hb dX8_number_20 (by decide) (fun c9 => ?_) (fun c9 => ?_)
    ·
      have oc3 : (3 : Int32).toInt = 3 := by decide
      have cc10 : y17_s0.toInt < (3 : Int32).toInt := i32_lt.mp c9
      have hb11 : In y17_s0 (-49) 2 := In.lt1 hy17_s0 (⟨by decide, by decide⟩ : In 3 3 3) cc10 (by omega) (by omega)
      exact hJ28 _ _ _ hP hD hS (lv_sub hl [1, 2, 3, 0] rfl)
    ·
      have oc3 : (3 : Int32).toInt = 3 := by decide
      have cc12 : (3 : Int32).toInt ≤ y17_s0.toInt := i32_nlt c9
      have hb13 : In y17_s0 3 65487 := In.ge1 hy17_s0 (⟨by decide, by decide⟩ : In 3 3 3) cc12 (by omega) (by omega)
      refine lv_iload_n hx hb dX8_number_23 rfl (lv_at hl 0 rfl) ?_
      refine lv_iload_n hx hb dX8_number_24 rfl (lv_at hl 3 rfl) ?_
      refine lv_icmp_le (tgt := 32) hx hb dX8_number_25 (by decide) (fun c14 => ?_) (fun c14 => ?_)
      ·
        have oc9 : (9 : Int32).toInt = 9 := by decide
        have cc15 : y17_s0.toInt ≤ (9 : Int32).toInt := i32_le.mp c14
        have hb16 : In y17_s0 3 9 := In.le1 hb13 (⟨by decide, by decide⟩ : In 9 9 9) cc15 (by omega) (by omega)
        refine lv_iload_n hx hb dX8_number_32 rfl (lv_at hl 0 rfl) ?_
        exact ret_i (ty := .int) hx hb hr hlocks (rfl) hP hD hS (Nat.le_of_ble_eq_true rfl) (Nat.le_of_ble_eq_true rfl) (⟨rfl, rfl, (In.mono hb16 (by decide) (by decide)), (by have oc3 : (3 : Int32).toInt = 3 := (by decide); obtain ⟨o0a, o0b⟩ := (hb16 : In _ _ _); omega)⟩) dX8_number_33
      ·
        have oc9 : (9 : Int32).toInt = 9 := by decide
        have cc17 : (9 : Int32).toInt < y17_s0.toInt := i32_nle c14
        have hb18 : In y17_s0 10 65487 := In.gt1 hb13 (⟨by decide, by decide⟩ : In 9 9 9) cc17 (by omega) (by omega)
        exact hJ28 _ _ _ hP hD hS (lv_sub hl [1, 2, 3, 0] rfl)
  refine lv_icmp_ne (tgt := 16) hx hb dX8_number_5 (by decide) (fun c19 => ?_) (fun c19 => ?_)
  ·
    have oc1 : (1 : Int32).toInt = 1 := by decide
    have cc20 : r3.toInt ≠ (1 : Int32).toInt := i32_ne c19
    refine lv_iconst (v := (-1)) hx hb dX8_number_16 (by decide) ?_
    exact hJ17 (-1) _ _ _ (⟨by decide, by decide⟩ : In (-1) (-49) 65487) hP hD hS (lv_sub hl [0, 1, 2] rfl)
  ·
    have oc1 : (1 : Int32).toInt = 1 := by decide
    have cc21 : r3.toInt = (1 : Int32).toInt := congrArg Int32.toInt c19
    have hb22 : In r3 1 1 := In.eq1 eL7R (⟨by decide, by decide⟩ : In 1 1 1) cc21 (by omega) (by omega)
    refine lv_aload_n hx hb dX8_number_8 rfl (lv_at hl 0 rfl) ?_
    refine lv_iconst (v := 0) hx hb dX8_number_9 (by decide) ?_
    refine call_i (run_V (rm := rm_X8_digitAt) hx hb hml hown hts (s_X8_digitAt l g ad th _ _ _ 0 hst hT ) cV_X8_digitAt wg_655 ⟨Nat.le_of_ble_eq_true rfl, Nat.le_of_ble_eq_true rfl⟩ hG hE hA hP hD hS (hst.1 1 (by decide)) hf2 rfl rfl hl.1 (As := [.int 0]) (rest := []) rfl (Nat.le_of_ble_eq_true rfl) dX8_number_10 ⟨Nat.le_of_ble_eq_true rfl, Nat.le_of_ble_eq_true rfl⟩) hA hD hS (fun r23 L24 f25 H locs hp26 hP hD hS => ?_)
    obtain ⟨eL27L, eL27T, eL27R⟩ := hp26
    have eL27L : L24 = L := eL27L
    have eL27T : f25 = f := eL27T
    rw [eL27L, eL27T] at hP hD
    have eL27R : In r23 (-49) 65487 := eL27R
    refine lv_goto (tgt := 17) hx hb dX8_number_13 (by decide) ?_
    exact hJ17 r23 _ _ _ eL27R hP hD hS (lv_sub hl [0, 1, 2] rfl)

abbrev rm_X8_number_0_4 : Room := { frames := 2, cells := 0, slots := 0, locals := 41 }
abbrev po_X8_number_0_4 (g : GG) (ad : Nat → Nat) (th : Nat → Int) (L : List Nat) (f : HP)  : Int32 → (List Nat × HP) → Prop := fun r u => u.1 = L ∧ u.2 = f ∧ In r (-1) 4 ∧ (r.toInt = -1 ∨ 0 ≤ r.toInt)
set_option maxHeartbeats 4000000 in
set_option maxRecDepth 100000 in
theorem s_X8_number_0_4 (l : Launch) (g : GG) (ad : Nat → Nat) (th : Nat → Int) (L : List Nat) (f : HP) (sz : Nat)  (hst : ST ad L) (hT : TI g ad th f)  : MtI l g yX8_number cX8_number 4 (some .int) rm_X8_number_0_4 [.ref (ad 1), .int 0, .int 4] L f sz (po_X8_number_0_4 g ad th L f ) := by
  refine MtI.of (by decide +kernel) (Nat.le_of_ble_eq_true rfl) ?_
  intro p e s m below meth c A hEn hP hD hS ls hl
  obtain ⟨hx, hb, hr, hml, hown, hlocks, hts, hG, hA, hE, hnm⟩ := hEn
  have hown : s.vm.findClass "RulerWord$Tape" = some m.cls := hown
  have hl : lv_has ls 4 [(0, .ref (ad 1)), (1, .int 0), (2, .int 4)] := hl
  refine lv_aload_n hx hb dX8_number_0 rfl (lv_at hl 0 rfl) ?_
  obtain ⟨v1_1, v2_1, v3_1, v4_1, hf2, hv1_1, hv2_1, hv3_1, hv4_1⟩ := hT.1 1 (by decide)
  refine call_i (run_V (rm := rm_X8_digits) hx hb hml hown hts (s_X8_digits l g ad th _ _ _  hst hT ) cV_X8_digits wg_651 ⟨Nat.le_of_ble_eq_true rfl, Nat.le_of_ble_eq_true rfl⟩ hG hE hA hP hD hS (hst.1 1 (by decide)) hf2 rfl rfl hl.1 (As := []) (rest := []) rfl (Nat.le_of_ble_eq_true rfl) dX8_number_1 ⟨Nat.le_of_ble_eq_true rfl, Nat.le_of_ble_eq_true rfl⟩) hA hD hS (fun r3 L4 f5 H locs hp6 hP hD hS => ?_)
  obtain ⟨eL7L, eL7T, eL7R, eL7X0⟩ := hp6
  have eL7L : L4 = L := eL7L
  have eL7T : f5 = f := eL7T
  rw [eL7L, eL7T] at hP hD
  have eL7R : In r3 (-520) 520 := eL7R
  have hd8 : (v4_1.toInt = 3 ∧ r3.toInt = v3_1.toInt - v2_1.toInt) ∨ (v4_1.toInt ≠ 3 ∧ r3.toInt = 0) := eL7X0 _ _ _ _ hf2
  refine lv_iconst (v := 1) hx hb dX8_number_4 (by decide) ?_
  have hJ17 : ∀ (y17_s0 : Int32) (H : Heap) (locs : List Loc) (ls : Array Slot), In y17_s0 (-49) 65487 → va_P g.1 vwCl (va_pl L f) H → va_D A (va_pl L f) → va_S A s.heap H locs → lv_has ls 4 [(0, .ref (ad 1)), (1, .int 0), (2, .int 4)] → W p l e rm_X8_number_0_4 s m [.ref (ad 1), .int 0, .int 4].toArray below meth c H locs 0 0 (MQ below (va_Qi (po_X8_number_0_4 g ad th L f ) (PstB g A) A) [.ref (ad 1), .int 0, .int 4].toArray s rm_X8_number_0_4.cells rm_X8_number_0_4.slots A) (F0 m 17 ls [.int y17_s0]) := by
    intro y17_s0 H locs ls hy17_s0 hP hD hS hl
    refine lv_istore_n (lv' := [(3, .int y17_s0), (0, .ref (ad 1)), (1, .int 0), (2, .int 4)]) hx hb dX8_number_17 rfl hl (by decide) rfl (fun ls hl => ?_)
    refine lv_iload_n hx hb dX8_number_18 rfl (lv_at hl 0 rfl) ?_
    refine lv_iload_n hx hb dX8_number_19 rfl (lv_at hl 2 rfl) ?_
    have hJ28 : ∀ (H : Heap) (locs : List Loc) (ls : Array Slot), va_P g.1 vwCl (va_pl L f) H → va_D A (va_pl L f) → va_S A s.heap H locs → lv_has ls 4 [(0, .ref (ad 1)), (1, .int 0), (2, .int 4), (3, .int y17_s0)] → W p l e rm_X8_number_0_4 s m [.ref (ad 1), .int 0, .int 4].toArray below meth c H locs 0 0 (MQ below (va_Qi (po_X8_number_0_4 g ad th L f ) (PstB g A) A) [.ref (ad 1), .int 0, .int 4].toArray s rm_X8_number_0_4.cells rm_X8_number_0_4.slots A) (F0 m 28 ls []) := by
      intro H locs ls hP hD hS hl
      refine lv_iconst (v := (-1)) hx hb dX8_number_28 (by decide) ?_
      refine lv_goto (tgt := 33) hx hb dX8_number_29 (by decide) ?_
      exact ret_i (ty := .int) hx hb hr hlocks (rfl) hP hD hS (Nat.le_of_ble_eq_true rfl) (Nat.le_of_ble_eq_true rfl) (⟨rfl, rfl, (⟨by decide, by decide⟩ : In (-1) (-1) 4), (by have oc0 : (0 : Int32).toInt = 0 := (by decide); have ocm1 : ((-1) : Int32).toInt = (-1) := (by decide); omega)⟩) dX8_number_33
    refine lv_icmp_lt (tgt := 28) hx hb dX8_number_20 (by decide) (fun c9 => ?_) (fun c9 => ?_)
    ·
      have oc0 : (0 : Int32).toInt = 0 := by decide
      have cc10 : y17_s0.toInt < (0 : Int32).toInt := i32_lt.mp c9
      have hb11 : In y17_s0 (-49) (-1) := In.lt1 hy17_s0 (⟨by decide, by decide⟩ : In 0 0 0) cc10 (by omega) (by omega)
      exact hJ28 _ _ _ hP hD hS (lv_sub hl [1, 2, 3, 0] rfl)
    ·
      have oc0 : (0 : Int32).toInt = 0 := by decide
      have cc12 : (0 : Int32).toInt ≤ y17_s0.toInt := i32_nlt c9
      have hb13 : In y17_s0 0 65487 := In.ge1 hy17_s0 (⟨by decide, by decide⟩ : In 0 0 0) cc12 (by omega) (by omega)
      refine lv_iload_n hx hb dX8_number_23 rfl (lv_at hl 0 rfl) ?_
      refine lv_iload_n hx hb dX8_number_24 rfl (lv_at hl 3 rfl) ?_
      refine lv_icmp_le (tgt := 32) hx hb dX8_number_25 (by decide) (fun c14 => ?_) (fun c14 => ?_)
      ·
        have oc4 : (4 : Int32).toInt = 4 := by decide
        have cc15 : y17_s0.toInt ≤ (4 : Int32).toInt := i32_le.mp c14
        have hb16 : In y17_s0 0 4 := In.le1 hb13 (⟨by decide, by decide⟩ : In 4 4 4) cc15 (by omega) (by omega)
        refine lv_iload_n hx hb dX8_number_32 rfl (lv_at hl 0 rfl) ?_
        exact ret_i (ty := .int) hx hb hr hlocks (rfl) hP hD hS (Nat.le_of_ble_eq_true rfl) (Nat.le_of_ble_eq_true rfl) (⟨rfl, rfl, (In.mono hb16 (by decide) (by decide)), (by have oc0 : (0 : Int32).toInt = 0 := (by decide); obtain ⟨o0a, o0b⟩ := (hb16 : In _ _ _); omega)⟩) dX8_number_33
      ·
        have oc4 : (4 : Int32).toInt = 4 := by decide
        have cc17 : (4 : Int32).toInt < y17_s0.toInt := i32_nle c14
        have hb18 : In y17_s0 5 65487 := In.gt1 hb13 (⟨by decide, by decide⟩ : In 4 4 4) cc17 (by omega) (by omega)
        exact hJ28 _ _ _ hP hD hS (lv_sub hl [1, 2, 3, 0] rfl)
  refine lv_icmp_ne (tgt := 16) hx hb dX8_number_5 (by decide) (fun c19 => ?_) (fun c19 => ?_)
  ·
    have oc1 : (1 : Int32).toInt = 1 := by decide
    have cc20 : r3.toInt ≠ (1 : Int32).toInt := i32_ne c19
    refine lv_iconst (v := (-1)) hx hb dX8_number_16 (by decide) ?_
    exact hJ17 (-1) _ _ _ (⟨by decide, by decide⟩ : In (-1) (-49) 65487) hP hD hS (lv_sub hl [0, 1, 2] rfl)
  ·
    have oc1 : (1 : Int32).toInt = 1 := by decide
    have cc21 : r3.toInt = (1 : Int32).toInt := congrArg Int32.toInt c19
    have hb22 : In r3 1 1 := In.eq1 eL7R (⟨by decide, by decide⟩ : In 1 1 1) cc21 (by omega) (by omega)
    refine lv_aload_n hx hb dX8_number_8 rfl (lv_at hl 0 rfl) ?_
    refine lv_iconst (v := 0) hx hb dX8_number_9 (by decide) ?_
    refine call_i (run_V (rm := rm_X8_digitAt) hx hb hml hown hts (s_X8_digitAt l g ad th _ _ _ 0 hst hT ) cV_X8_digitAt wg_655 ⟨Nat.le_of_ble_eq_true rfl, Nat.le_of_ble_eq_true rfl⟩ hG hE hA hP hD hS (hst.1 1 (by decide)) hf2 rfl rfl hl.1 (As := [.int 0]) (rest := []) rfl (Nat.le_of_ble_eq_true rfl) dX8_number_10 ⟨Nat.le_of_ble_eq_true rfl, Nat.le_of_ble_eq_true rfl⟩) hA hD hS (fun r23 L24 f25 H locs hp26 hP hD hS => ?_)
    obtain ⟨eL27L, eL27T, eL27R⟩ := hp26
    have eL27L : L24 = L := eL27L
    have eL27T : f25 = f := eL27T
    rw [eL27L, eL27T] at hP hD
    have eL27R : In r23 (-49) 65487 := eL27R
    refine lv_goto (tgt := 17) hx hb dX8_number_13 (by decide) ?_
    exact hJ17 r23 _ _ _ eL27R hP hD hS (lv_sub hl [0, 1, 2] rfl)

abbrev rm_X8_number_1_6 : Room := { frames := 2, cells := 0, slots := 0, locals := 41 }
abbrev po_X8_number_1_6 (g : GG) (ad : Nat → Nat) (th : Nat → Int) (L : List Nat) (f : HP)  : Int32 → (List Nat × HP) → Prop := fun r u => u.1 = L ∧ u.2 = f ∧ In r (-1) 6 ∧ (r.toInt = -1 ∨ 1 ≤ r.toInt)
set_option maxHeartbeats 4000000 in
set_option maxRecDepth 100000 in
theorem s_X8_number_1_6 (l : Launch) (g : GG) (ad : Nat → Nat) (th : Nat → Int) (L : List Nat) (f : HP) (sz : Nat)  (hst : ST ad L) (hT : TI g ad th f)  : MtI l g yX8_number cX8_number 4 (some .int) rm_X8_number_1_6 [.ref (ad 1), .int 1, .int 6] L f sz (po_X8_number_1_6 g ad th L f ) := by
  refine MtI.of (by decide +kernel) (Nat.le_of_ble_eq_true rfl) ?_
  intro p e s m below meth c A hEn hP hD hS ls hl
  obtain ⟨hx, hb, hr, hml, hown, hlocks, hts, hG, hA, hE, hnm⟩ := hEn
  have hown : s.vm.findClass "RulerWord$Tape" = some m.cls := hown
  have hl : lv_has ls 4 [(0, .ref (ad 1)), (1, .int 1), (2, .int 6)] := hl
  refine lv_aload_n hx hb dX8_number_0 rfl (lv_at hl 0 rfl) ?_
  obtain ⟨v1_1, v2_1, v3_1, v4_1, hf2, hv1_1, hv2_1, hv3_1, hv4_1⟩ := hT.1 1 (by decide)
  refine call_i (run_V (rm := rm_X8_digits) hx hb hml hown hts (s_X8_digits l g ad th _ _ _  hst hT ) cV_X8_digits wg_651 ⟨Nat.le_of_ble_eq_true rfl, Nat.le_of_ble_eq_true rfl⟩ hG hE hA hP hD hS (hst.1 1 (by decide)) hf2 rfl rfl hl.1 (As := []) (rest := []) rfl (Nat.le_of_ble_eq_true rfl) dX8_number_1 ⟨Nat.le_of_ble_eq_true rfl, Nat.le_of_ble_eq_true rfl⟩) hA hD hS (fun r3 L4 f5 H locs hp6 hP hD hS => ?_)
  obtain ⟨eL7L, eL7T, eL7R, eL7X0⟩ := hp6
  have eL7L : L4 = L := eL7L
  have eL7T : f5 = f := eL7T
  rw [eL7L, eL7T] at hP hD
  have eL7R : In r3 (-520) 520 := eL7R
  have hd8 : (v4_1.toInt = 3 ∧ r3.toInt = v3_1.toInt - v2_1.toInt) ∨ (v4_1.toInt ≠ 3 ∧ r3.toInt = 0) := eL7X0 _ _ _ _ hf2
  refine lv_iconst (v := 1) hx hb dX8_number_4 (by decide) ?_
  have hJ17 : ∀ (y17_s0 : Int32) (H : Heap) (locs : List Loc) (ls : Array Slot), In y17_s0 (-49) 65487 → va_P g.1 vwCl (va_pl L f) H → va_D A (va_pl L f) → va_S A s.heap H locs → lv_has ls 4 [(0, .ref (ad 1)), (1, .int 1), (2, .int 6)] → W p l e rm_X8_number_1_6 s m [.ref (ad 1), .int 1, .int 6].toArray below meth c H locs 0 0 (MQ below (va_Qi (po_X8_number_1_6 g ad th L f ) (PstB g A) A) [.ref (ad 1), .int 1, .int 6].toArray s rm_X8_number_1_6.cells rm_X8_number_1_6.slots A) (F0 m 17 ls [.int y17_s0]) := by
    intro y17_s0 H locs ls hy17_s0 hP hD hS hl
    refine lv_istore_n (lv' := [(3, .int y17_s0), (0, .ref (ad 1)), (1, .int 1), (2, .int 6)]) hx hb dX8_number_17 rfl hl (by decide) rfl (fun ls hl => ?_)
    refine lv_iload_n hx hb dX8_number_18 rfl (lv_at hl 0 rfl) ?_
    refine lv_iload_n hx hb dX8_number_19 rfl (lv_at hl 2 rfl) ?_
    have hJ28 : ∀ (H : Heap) (locs : List Loc) (ls : Array Slot), va_P g.1 vwCl (va_pl L f) H → va_D A (va_pl L f) → va_S A s.heap H locs → lv_has ls 4 [(0, .ref (ad 1)), (1, .int 1), (2, .int 6), (3, .int y17_s0)] → W p l e rm_X8_number_1_6 s m [.ref (ad 1), .int 1, .int 6].toArray below meth c H locs 0 0 (MQ below (va_Qi (po_X8_number_1_6 g ad th L f ) (PstB g A) A) [.ref (ad 1), .int 1, .int 6].toArray s rm_X8_number_1_6.cells rm_X8_number_1_6.slots A) (F0 m 28 ls []) := by
      intro H locs ls hP hD hS hl
      refine lv_iconst (v := (-1)) hx hb dX8_number_28 (by decide) ?_
      refine lv_goto (tgt := 33) hx hb dX8_number_29 (by decide) ?_
      exact ret_i (ty := .int) hx hb hr hlocks (rfl) hP hD hS (Nat.le_of_ble_eq_true rfl) (Nat.le_of_ble_eq_true rfl) (⟨rfl, rfl, (⟨by decide, by decide⟩ : In (-1) (-1) 6), (by have oc1 : (1 : Int32).toInt = 1 := (by decide); have ocm1 : ((-1) : Int32).toInt = (-1) := (by decide); omega)⟩) dX8_number_33
    refine lv_icmp_lt (tgt := 28) hx hb dX8_number_20 (by decide) (fun c9 => ?_) (fun c9 => ?_)
    ·
      have oc1 : (1 : Int32).toInt = 1 := by decide
      have cc10 : y17_s0.toInt < (1 : Int32).toInt := i32_lt.mp c9
      have hb11 : In y17_s0 (-49) 0 := In.lt1 hy17_s0 (⟨by decide, by decide⟩ : In 1 1 1) cc10 (by omega) (by omega)
      exact hJ28 _ _ _ hP hD hS (lv_sub hl [1, 2, 3, 0] rfl)
    ·
      have oc1 : (1 : Int32).toInt = 1 := by decide
      have cc12 : (1 : Int32).toInt ≤ y17_s0.toInt := i32_nlt c9
      have hb13 : In y17_s0 1 65487 := In.ge1 hy17_s0 (⟨by decide, by decide⟩ : In 1 1 1) cc12 (by omega) (by omega)
      refine lv_iload_n hx hb dX8_number_23 rfl (lv_at hl 0 rfl) ?_
      refine lv_iload_n hx hb dX8_number_24 rfl (lv_at hl 3 rfl) ?_
      refine lv_icmp_le (tgt := 32) hx hb dX8_number_25 (by decide) (fun c14 => ?_) (fun c14 => ?_)
      ·
        have oc6 : (6 : Int32).toInt = 6 := by decide
        have cc15 : y17_s0.toInt ≤ (6 : Int32).toInt := i32_le.mp c14
        have hb16 : In y17_s0 1 6 := In.le1 hb13 (⟨by decide, by decide⟩ : In 6 6 6) cc15 (by omega) (by omega)
        refine lv_iload_n hx hb dX8_number_32 rfl (lv_at hl 0 rfl) ?_
        exact ret_i (ty := .int) hx hb hr hlocks (rfl) hP hD hS (Nat.le_of_ble_eq_true rfl) (Nat.le_of_ble_eq_true rfl) (⟨rfl, rfl, (In.mono hb16 (by decide) (by decide)), (by have oc1 : (1 : Int32).toInt = 1 := (by decide); obtain ⟨o0a, o0b⟩ := (hb16 : In _ _ _); omega)⟩) dX8_number_33
      ·
        have oc6 : (6 : Int32).toInt = 6 := by decide
        have cc17 : (6 : Int32).toInt < y17_s0.toInt := i32_nle c14
        have hb18 : In y17_s0 7 65487 := In.gt1 hb13 (⟨by decide, by decide⟩ : In 6 6 6) cc17 (by omega) (by omega)
        exact hJ28 _ _ _ hP hD hS (lv_sub hl [1, 2, 3, 0] rfl)
  refine lv_icmp_ne (tgt := 16) hx hb dX8_number_5 (by decide) (fun c19 => ?_) (fun c19 => ?_)
  ·
    have oc1 : (1 : Int32).toInt = 1 := by decide
    have cc20 : r3.toInt ≠ (1 : Int32).toInt := i32_ne c19
    refine lv_iconst (v := (-1)) hx hb dX8_number_16 (by decide) ?_
    exact hJ17 (-1) _ _ _ (⟨by decide, by decide⟩ : In (-1) (-49) 65487) hP hD hS (lv_sub hl [0, 1, 2] rfl)
  ·
    have oc1 : (1 : Int32).toInt = 1 := by decide
    have cc21 : r3.toInt = (1 : Int32).toInt := congrArg Int32.toInt c19
    have hb22 : In r3 1 1 := In.eq1 eL7R (⟨by decide, by decide⟩ : In 1 1 1) cc21 (by omega) (by omega)
    refine lv_aload_n hx hb dX8_number_8 rfl (lv_at hl 0 rfl) ?_
    refine lv_iconst (v := 0) hx hb dX8_number_9 (by decide) ?_
    refine call_i (run_V (rm := rm_X8_digitAt) hx hb hml hown hts (s_X8_digitAt l g ad th _ _ _ 0 hst hT ) cV_X8_digitAt wg_655 ⟨Nat.le_of_ble_eq_true rfl, Nat.le_of_ble_eq_true rfl⟩ hG hE hA hP hD hS (hst.1 1 (by decide)) hf2 rfl rfl hl.1 (As := [.int 0]) (rest := []) rfl (Nat.le_of_ble_eq_true rfl) dX8_number_10 ⟨Nat.le_of_ble_eq_true rfl, Nat.le_of_ble_eq_true rfl⟩) hA hD hS (fun r23 L24 f25 H locs hp26 hP hD hS => ?_)
    obtain ⟨eL27L, eL27T, eL27R⟩ := hp26
    have eL27L : L24 = L := eL27L
    have eL27T : f25 = f := eL27T
    rw [eL27L, eL27T] at hP hD
    have eL27R : In r23 (-49) 65487 := eL27R
    refine lv_goto (tgt := 17) hx hb dX8_number_13 (by decide) ?_
    exact hJ17 r23 _ _ _ eL27R hP hD hS (lv_sub hl [0, 1, 2] rfl)

abbrev rm_X8_number_0_5 : Room := { frames := 2, cells := 0, slots := 0, locals := 41 }
abbrev po_X8_number_0_5 (g : GG) (ad : Nat → Nat) (th : Nat → Int) (L : List Nat) (f : HP)  : Int32 → (List Nat × HP) → Prop := fun r u => u.1 = L ∧ u.2 = f ∧ In r (-1) 5 ∧ (r.toInt = -1 ∨ 0 ≤ r.toInt)
set_option maxHeartbeats 4000000 in
set_option maxRecDepth 100000 in
theorem s_X8_number_0_5 (l : Launch) (g : GG) (ad : Nat → Nat) (th : Nat → Int) (L : List Nat) (f : HP) (sz : Nat)  (hst : ST ad L) (hT : TI g ad th f)  : MtI l g yX8_number cX8_number 4 (some .int) rm_X8_number_0_5 [.ref (ad 1), .int 0, .int 5] L f sz (po_X8_number_0_5 g ad th L f ) := by
  refine MtI.of (by decide +kernel) (Nat.le_of_ble_eq_true rfl) ?_
  intro p e s m below meth c A hEn hP hD hS ls hl
  obtain ⟨hx, hb, hr, hml, hown, hlocks, hts, hG, hA, hE, hnm⟩ := hEn
  have hown : s.vm.findClass "RulerWord$Tape" = some m.cls := hown
  have hl : lv_has ls 4 [(0, .ref (ad 1)), (1, .int 0), (2, .int 5)] := hl
  refine lv_aload_n hx hb dX8_number_0 rfl (lv_at hl 0 rfl) ?_
  obtain ⟨v1_1, v2_1, v3_1, v4_1, hf2, hv1_1, hv2_1, hv3_1, hv4_1⟩ := hT.1 1 (by decide)
  refine call_i (run_V (rm := rm_X8_digits) hx hb hml hown hts (s_X8_digits l g ad th _ _ _  hst hT ) cV_X8_digits wg_651 ⟨Nat.le_of_ble_eq_true rfl, Nat.le_of_ble_eq_true rfl⟩ hG hE hA hP hD hS (hst.1 1 (by decide)) hf2 rfl rfl hl.1 (As := []) (rest := []) rfl (Nat.le_of_ble_eq_true rfl) dX8_number_1 ⟨Nat.le_of_ble_eq_true rfl, Nat.le_of_ble_eq_true rfl⟩) hA hD hS (fun r3 L4 f5 H locs hp6 hP hD hS => ?_)
  obtain ⟨eL7L, eL7T, eL7R, eL7X0⟩ := hp6
  have eL7L : L4 = L := eL7L
  have eL7T : f5 = f := eL7T
  rw [eL7L, eL7T] at hP hD
  have eL7R : In r3 (-520) 520 := eL7R
  have hd8 : (v4_1.toInt = 3 ∧ r3.toInt = v3_1.toInt - v2_1.toInt) ∨ (v4_1.toInt ≠ 3 ∧ r3.toInt = 0) := eL7X0 _ _ _ _ hf2
  refine lv_iconst (v := 1) hx hb dX8_number_4 (by decide) ?_
  have hJ17 : ∀ (y17_s0 : Int32) (H : Heap) (locs : List Loc) (ls : Array Slot), In y17_s0 (-49) 65487 → va_P g.1 vwCl (va_pl L f) H → va_D A (va_pl L f) → va_S A s.heap H locs → lv_has ls 4 [(0, .ref (ad 1)), (1, .int 0), (2, .int 5)] → W p l e rm_X8_number_0_5 s m [.ref (ad 1), .int 0, .int 5].toArray below meth c H locs 0 0 (MQ below (va_Qi (po_X8_number_0_5 g ad th L f ) (PstB g A) A) [.ref (ad 1), .int 0, .int 5].toArray s rm_X8_number_0_5.cells rm_X8_number_0_5.slots A) (F0 m 17 ls [.int y17_s0]) := by
    intro y17_s0 H locs ls hy17_s0 hP hD hS hl
    refine lv_istore_n (lv' := [(3, .int y17_s0), (0, .ref (ad 1)), (1, .int 0), (2, .int 5)]) hx hb dX8_number_17 rfl hl (by decide) rfl (fun ls hl => ?_)
    refine lv_iload_n hx hb dX8_number_18 rfl (lv_at hl 0 rfl) ?_
    refine lv_iload_n hx hb dX8_number_19 rfl (lv_at hl 2 rfl) ?_
    have hJ28 : ∀ (H : Heap) (locs : List Loc) (ls : Array Slot), va_P g.1 vwCl (va_pl L f) H → va_D A (va_pl L f) → va_S A s.heap H locs → lv_has ls 4 [(0, .ref (ad 1)), (1, .int 0), (2, .int 5), (3, .int y17_s0)] → W p l e rm_X8_number_0_5 s m [.ref (ad 1), .int 0, .int 5].toArray below meth c H locs 0 0 (MQ below (va_Qi (po_X8_number_0_5 g ad th L f ) (PstB g A) A) [.ref (ad 1), .int 0, .int 5].toArray s rm_X8_number_0_5.cells rm_X8_number_0_5.slots A) (F0 m 28 ls []) := by
      intro H locs ls hP hD hS hl
      refine lv_iconst (v := (-1)) hx hb dX8_number_28 (by decide) ?_
      refine lv_goto (tgt := 33) hx hb dX8_number_29 (by decide) ?_
      exact ret_i (ty := .int) hx hb hr hlocks (rfl) hP hD hS (Nat.le_of_ble_eq_true rfl) (Nat.le_of_ble_eq_true rfl) (⟨rfl, rfl, (⟨by decide, by decide⟩ : In (-1) (-1) 5), (by have oc0 : (0 : Int32).toInt = 0 := (by decide); have ocm1 : ((-1) : Int32).toInt = (-1) := (by decide); omega)⟩) dX8_number_33
    refine lv_icmp_lt (tgt := 28) hx hb dX8_number_20 (by decide) (fun c9 => ?_) (fun c9 => ?_)
    ·
      have oc0 : (0 : Int32).toInt = 0 := by decide
      have cc10 : y17_s0.toInt < (0 : Int32).toInt := i32_lt.mp c9
      have hb11 : In y17_s0 (-49) (-1) := In.lt1 hy17_s0 (⟨by decide, by decide⟩ : In 0 0 0) cc10 (by omega) (by omega)
      exact hJ28 _ _ _ hP hD hS (lv_sub hl [1, 2, 3, 0] rfl)
    ·
      have oc0 : (0 : Int32).toInt = 0 := by decide
      have cc12 : (0 : Int32).toInt ≤ y17_s0.toInt := i32_nlt c9
      have hb13 : In y17_s0 0 65487 := In.ge1 hy17_s0 (⟨by decide, by decide⟩ : In 0 0 0) cc12 (by omega) (by omega)
      refine lv_iload_n hx hb dX8_number_23 rfl (lv_at hl 0 rfl) ?_
      refine lv_iload_n hx hb dX8_number_24 rfl (lv_at hl 3 rfl) ?_
      refine lv_icmp_le (tgt := 32) hx hb dX8_number_25 (by decide) (fun c14 => ?_) (fun c14 => ?_)
      ·
        have oc5 : (5 : Int32).toInt = 5 := by decide
        have cc15 : y17_s0.toInt ≤ (5 : Int32).toInt := i32_le.mp c14
        have hb16 : In y17_s0 0 5 := In.le1 hb13 (⟨by decide, by decide⟩ : In 5 5 5) cc15 (by omega) (by omega)
        refine lv_iload_n hx hb dX8_number_32 rfl (lv_at hl 0 rfl) ?_
        exact ret_i (ty := .int) hx hb hr hlocks (rfl) hP hD hS (Nat.le_of_ble_eq_true rfl) (Nat.le_of_ble_eq_true rfl) (⟨rfl, rfl, (In.mono hb16 (by decide) (by decide)), (by have oc0 : (0 : Int32).toInt = 0 := (by decide); obtain ⟨o0a, o0b⟩ := (hb16 : In _ _ _); omega)⟩) dX8_number_33
      ·
        have oc5 : (5 : Int32).toInt = 5 := by decide
        have cc17 : (5 : Int32).toInt < y17_s0.toInt := i32_nle c14
        have hb18 : In y17_s0 6 65487 := In.gt1 hb13 (⟨by decide, by decide⟩ : In 5 5 5) cc17 (by omega) (by omega)
        exact hJ28 _ _ _ hP hD hS (lv_sub hl [1, 2, 3, 0] rfl)
  refine lv_icmp_ne (tgt := 16) hx hb dX8_number_5 (by decide) (fun c19 => ?_) (fun c19 => ?_)
  ·
    have oc1 : (1 : Int32).toInt = 1 := by decide
    have cc20 : r3.toInt ≠ (1 : Int32).toInt := i32_ne c19
    refine lv_iconst (v := (-1)) hx hb dX8_number_16 (by decide) ?_
    exact hJ17 (-1) _ _ _ (⟨by decide, by decide⟩ : In (-1) (-49) 65487) hP hD hS (lv_sub hl [0, 1, 2] rfl)
  ·
    have oc1 : (1 : Int32).toInt = 1 := by decide
    have cc21 : r3.toInt = (1 : Int32).toInt := congrArg Int32.toInt c19
    have hb22 : In r3 1 1 := In.eq1 eL7R (⟨by decide, by decide⟩ : In 1 1 1) cc21 (by omega) (by omega)
    refine lv_aload_n hx hb dX8_number_8 rfl (lv_at hl 0 rfl) ?_
    refine lv_iconst (v := 0) hx hb dX8_number_9 (by decide) ?_
    refine call_i (run_V (rm := rm_X8_digitAt) hx hb hml hown hts (s_X8_digitAt l g ad th _ _ _ 0 hst hT ) cV_X8_digitAt wg_655 ⟨Nat.le_of_ble_eq_true rfl, Nat.le_of_ble_eq_true rfl⟩ hG hE hA hP hD hS (hst.1 1 (by decide)) hf2 rfl rfl hl.1 (As := [.int 0]) (rest := []) rfl (Nat.le_of_ble_eq_true rfl) dX8_number_10 ⟨Nat.le_of_ble_eq_true rfl, Nat.le_of_ble_eq_true rfl⟩) hA hD hS (fun r23 L24 f25 H locs hp26 hP hD hS => ?_)
    obtain ⟨eL27L, eL27T, eL27R⟩ := hp26
    have eL27L : L24 = L := eL27L
    have eL27T : f25 = f := eL27T
    rw [eL27L, eL27T] at hP hD
    have eL27R : In r23 (-49) 65487 := eL27R
    refine lv_goto (tgt := 17) hx hb dX8_number_13 (by decide) ?_
    exact hJ17 r23 _ _ _ eL27R hP hD hS (lv_sub hl [0, 1, 2] rfl)

abbrev rm_X8_number_0_2 : Room := { frames := 2, cells := 0, slots := 0, locals := 41 }
abbrev po_X8_number_0_2 (g : GG) (ad : Nat → Nat) (th : Nat → Int) (L : List Nat) (f : HP)  : Int32 → (List Nat × HP) → Prop := fun r u => u.1 = L ∧ u.2 = f ∧ In r (-1) 2 ∧ (r.toInt = -1 ∨ 0 ≤ r.toInt)
set_option maxHeartbeats 4000000 in
set_option maxRecDepth 100000 in
theorem s_X8_number_0_2 (l : Launch) (g : GG) (ad : Nat → Nat) (th : Nat → Int) (L : List Nat) (f : HP) (sz : Nat)  (hst : ST ad L) (hT : TI g ad th f)  : MtI l g yX8_number cX8_number 4 (some .int) rm_X8_number_0_2 [.ref (ad 1), .int 0, .int 2] L f sz (po_X8_number_0_2 g ad th L f ) := by
  refine MtI.of (by decide +kernel) (Nat.le_of_ble_eq_true rfl) ?_
  intro p e s m below meth c A hEn hP hD hS ls hl
  obtain ⟨hx, hb, hr, hml, hown, hlocks, hts, hG, hA, hE, hnm⟩ := hEn
  have hown : s.vm.findClass "RulerWord$Tape" = some m.cls := hown
  have hl : lv_has ls 4 [(0, .ref (ad 1)), (1, .int 0), (2, .int 2)] := hl
  refine lv_aload_n hx hb dX8_number_0 rfl (lv_at hl 0 rfl) ?_
  obtain ⟨v1_1, v2_1, v3_1, v4_1, hf2, hv1_1, hv2_1, hv3_1, hv4_1⟩ := hT.1 1 (by decide)
  refine call_i (run_V (rm := rm_X8_digits) hx hb hml hown hts (s_X8_digits l g ad th _ _ _  hst hT ) cV_X8_digits wg_651 ⟨Nat.le_of_ble_eq_true rfl, Nat.le_of_ble_eq_true rfl⟩ hG hE hA hP hD hS (hst.1 1 (by decide)) hf2 rfl rfl hl.1 (As := []) (rest := []) rfl (Nat.le_of_ble_eq_true rfl) dX8_number_1 ⟨Nat.le_of_ble_eq_true rfl, Nat.le_of_ble_eq_true rfl⟩) hA hD hS (fun r3 L4 f5 H locs hp6 hP hD hS => ?_)
  obtain ⟨eL7L, eL7T, eL7R, eL7X0⟩ := hp6
  have eL7L : L4 = L := eL7L
  have eL7T : f5 = f := eL7T
  rw [eL7L, eL7T] at hP hD
  have eL7R : In r3 (-520) 520 := eL7R
  have hd8 : (v4_1.toInt = 3 ∧ r3.toInt = v3_1.toInt - v2_1.toInt) ∨ (v4_1.toInt ≠ 3 ∧ r3.toInt = 0) := eL7X0 _ _ _ _ hf2
  refine lv_iconst (v := 1) hx hb dX8_number_4 (by decide) ?_
  have hJ17 : ∀ (y17_s0 : Int32) (H : Heap) (locs : List Loc) (ls : Array Slot), In y17_s0 (-49) 65487 → va_P g.1 vwCl (va_pl L f) H → va_D A (va_pl L f) → va_S A s.heap H locs → lv_has ls 4 [(0, .ref (ad 1)), (1, .int 0), (2, .int 2)] → W p l e rm_X8_number_0_2 s m [.ref (ad 1), .int 0, .int 2].toArray below meth c H locs 0 0 (MQ below (va_Qi (po_X8_number_0_2 g ad th L f ) (PstB g A) A) [.ref (ad 1), .int 0, .int 2].toArray s rm_X8_number_0_2.cells rm_X8_number_0_2.slots A) (F0 m 17 ls [.int y17_s0]) := by
    intro y17_s0 H locs ls hy17_s0 hP hD hS hl
    refine lv_istore_n (lv' := [(3, .int y17_s0), (0, .ref (ad 1)), (1, .int 0), (2, .int 2)]) hx hb dX8_number_17 rfl hl (by decide) rfl (fun ls hl => ?_)
    refine lv_iload_n hx hb dX8_number_18 rfl (lv_at hl 0 rfl) ?_
    refine lv_iload_n hx hb dX8_number_19 rfl (lv_at hl 2 rfl) ?_
    have hJ28 : ∀ (H : Heap) (locs : List Loc) (ls : Array Slot), va_P g.1 vwCl (va_pl L f) H → va_D A (va_pl L f) → va_S A s.heap H locs → lv_has ls 4 [(0, .ref (ad 1)), (1, .int 0), (2, .int 2), (3, .int y17_s0)] → W p l e rm_X8_number_0_2 s m [.ref (ad 1), .int 0, .int 2].toArray below meth c H locs 0 0 (MQ below (va_Qi (po_X8_number_0_2 g ad th L f ) (PstB g A) A) [.ref (ad 1), .int 0, .int 2].toArray s rm_X8_number_0_2.cells rm_X8_number_0_2.slots A) (F0 m 28 ls []) := by
      intro H locs ls hP hD hS hl
      refine lv_iconst (v := (-1)) hx hb dX8_number_28 (by decide) ?_
      refine lv_goto (tgt := 33) hx hb dX8_number_29 (by decide) ?_
      exact ret_i (ty := .int) hx hb hr hlocks (rfl) hP hD hS (Nat.le_of_ble_eq_true rfl) (Nat.le_of_ble_eq_true rfl) (⟨rfl, rfl, (⟨by decide, by decide⟩ : In (-1) (-1) 2), (by have oc0 : (0 : Int32).toInt = 0 := (by decide); have ocm1 : ((-1) : Int32).toInt = (-1) := (by decide); omega)⟩) dX8_number_33
    refine lv_icmp_lt (tgt := 28) hx hb dX8_number_20 (by decide) (fun c9 => ?_) (fun c9 => ?_)
    ·
      have oc0 : (0 : Int32).toInt = 0 := by decide
      have cc10 : y17_s0.toInt < (0 : Int32).toInt := i32_lt.mp c9
      have hb11 : In y17_s0 (-49) (-1) := In.lt1 hy17_s0 (⟨by decide, by decide⟩ : In 0 0 0) cc10 (by omega) (by omega)
      exact hJ28 _ _ _ hP hD hS (lv_sub hl [1, 2, 3, 0] rfl)
    ·
      have oc0 : (0 : Int32).toInt = 0 := by decide
      have cc12 : (0 : Int32).toInt ≤ y17_s0.toInt := i32_nlt c9
      have hb13 : In y17_s0 0 65487 := In.ge1 hy17_s0 (⟨by decide, by decide⟩ : In 0 0 0) cc12 (by omega) (by omega)
      refine lv_iload_n hx hb dX8_number_23 rfl (lv_at hl 0 rfl) ?_
      refine lv_iload_n hx hb dX8_number_24 rfl (lv_at hl 3 rfl) ?_
      refine lv_icmp_le (tgt := 32) hx hb dX8_number_25 (by decide) (fun c14 => ?_) (fun c14 => ?_)
      ·
        have oc2 : (2 : Int32).toInt = 2 := by decide
        have cc15 : y17_s0.toInt ≤ (2 : Int32).toInt := i32_le.mp c14
        have hb16 : In y17_s0 0 2 := In.le1 hb13 (⟨by decide, by decide⟩ : In 2 2 2) cc15 (by omega) (by omega)
        refine lv_iload_n hx hb dX8_number_32 rfl (lv_at hl 0 rfl) ?_
        exact ret_i (ty := .int) hx hb hr hlocks (rfl) hP hD hS (Nat.le_of_ble_eq_true rfl) (Nat.le_of_ble_eq_true rfl) (⟨rfl, rfl, (In.mono hb16 (by decide) (by decide)), (by have oc0 : (0 : Int32).toInt = 0 := (by decide); obtain ⟨o0a, o0b⟩ := (hb16 : In _ _ _); omega)⟩) dX8_number_33
      ·
        have oc2 : (2 : Int32).toInt = 2 := by decide
        have cc17 : (2 : Int32).toInt < y17_s0.toInt := i32_nle c14
        have hb18 : In y17_s0 3 65487 := In.gt1 hb13 (⟨by decide, by decide⟩ : In 2 2 2) cc17 (by omega) (by omega)
        exact hJ28 _ _ _ hP hD hS (lv_sub hl [1, 2, 3, 0] rfl)
  refine lv_icmp_ne (tgt := 16) hx hb dX8_number_5 (by decide) (fun c19 => ?_) (fun c19 => ?_)
  ·
    have oc1 : (1 : Int32).toInt = 1 := by decide
    have cc20 : r3.toInt ≠ (1 : Int32).toInt := i32_ne c19
    refine lv_iconst (v := (-1)) hx hb dX8_number_16 (by decide) ?_
    exact hJ17 (-1) _ _ _ (⟨by decide, by decide⟩ : In (-1) (-49) 65487) hP hD hS (lv_sub hl [0, 1, 2] rfl)
  ·
    have oc1 : (1 : Int32).toInt = 1 := by decide
    have cc21 : r3.toInt = (1 : Int32).toInt := congrArg Int32.toInt c19
    have hb22 : In r3 1 1 := In.eq1 eL7R (⟨by decide, by decide⟩ : In 1 1 1) cc21 (by omega) (by omega)
    refine lv_aload_n hx hb dX8_number_8 rfl (lv_at hl 0 rfl) ?_
    refine lv_iconst (v := 0) hx hb dX8_number_9 (by decide) ?_
    refine call_i (run_V (rm := rm_X8_digitAt) hx hb hml hown hts (s_X8_digitAt l g ad th _ _ _ 0 hst hT ) cV_X8_digitAt wg_655 ⟨Nat.le_of_ble_eq_true rfl, Nat.le_of_ble_eq_true rfl⟩ hG hE hA hP hD hS (hst.1 1 (by decide)) hf2 rfl rfl hl.1 (As := [.int 0]) (rest := []) rfl (Nat.le_of_ble_eq_true rfl) dX8_number_10 ⟨Nat.le_of_ble_eq_true rfl, Nat.le_of_ble_eq_true rfl⟩) hA hD hS (fun r23 L24 f25 H locs hp26 hP hD hS => ?_)
    obtain ⟨eL27L, eL27T, eL27R⟩ := hp26
    have eL27L : L24 = L := eL27L
    have eL27T : f25 = f := eL27T
    rw [eL27L, eL27T] at hP hD
    have eL27R : In r23 (-49) 65487 := eL27R
    refine lv_goto (tgt := 17) hx hb dX8_number_13 (by decide) ?_
    exact hJ17 r23 _ _ _ eL27R hP hD hS (lv_sub hl [0, 1, 2] rfl)

abbrev rm_X8_number_0_8 : Room := { frames := 2, cells := 0, slots := 0, locals := 41 }
abbrev po_X8_number_0_8 (g : GG) (ad : Nat → Nat) (th : Nat → Int) (L : List Nat) (f : HP)  : Int32 → (List Nat × HP) → Prop := fun r u => u.1 = L ∧ u.2 = f ∧ In r (-1) 8 ∧ (r.toInt = -1 ∨ 0 ≤ r.toInt)
set_option maxHeartbeats 4000000 in
set_option maxRecDepth 100000 in
theorem s_X8_number_0_8 (l : Launch) (g : GG) (ad : Nat → Nat) (th : Nat → Int) (L : List Nat) (f : HP) (sz : Nat)  (hst : ST ad L) (hT : TI g ad th f)  : MtI l g yX8_number cX8_number 4 (some .int) rm_X8_number_0_8 [.ref (ad 1), .int 0, .int 8] L f sz (po_X8_number_0_8 g ad th L f ) := by
  refine MtI.of (by decide +kernel) (Nat.le_of_ble_eq_true rfl) ?_
  intro p e s m below meth c A hEn hP hD hS ls hl
  obtain ⟨hx, hb, hr, hml, hown, hlocks, hts, hG, hA, hE, hnm⟩ := hEn
  have hown : s.vm.findClass "RulerWord$Tape" = some m.cls := hown
  have hl : lv_has ls 4 [(0, .ref (ad 1)), (1, .int 0), (2, .int 8)] := hl
  refine lv_aload_n hx hb dX8_number_0 rfl (lv_at hl 0 rfl) ?_
  obtain ⟨v1_1, v2_1, v3_1, v4_1, hf2, hv1_1, hv2_1, hv3_1, hv4_1⟩ := hT.1 1 (by decide)
  refine call_i (run_V (rm := rm_X8_digits) hx hb hml hown hts (s_X8_digits l g ad th _ _ _  hst hT ) cV_X8_digits wg_651 ⟨Nat.le_of_ble_eq_true rfl, Nat.le_of_ble_eq_true rfl⟩ hG hE hA hP hD hS (hst.1 1 (by decide)) hf2 rfl rfl hl.1 (As := []) (rest := []) rfl (Nat.le_of_ble_eq_true rfl) dX8_number_1 ⟨Nat.le_of_ble_eq_true rfl, Nat.le_of_ble_eq_true rfl⟩) hA hD hS (fun r3 L4 f5 H locs hp6 hP hD hS => ?_)
  obtain ⟨eL7L, eL7T, eL7R, eL7X0⟩ := hp6
  have eL7L : L4 = L := eL7L
  have eL7T : f5 = f := eL7T
  rw [eL7L, eL7T] at hP hD
  have eL7R : In r3 (-520) 520 := eL7R
  have hd8 : (v4_1.toInt = 3 ∧ r3.toInt = v3_1.toInt - v2_1.toInt) ∨ (v4_1.toInt ≠ 3 ∧ r3.toInt = 0) := eL7X0 _ _ _ _ hf2
  refine lv_iconst (v := 1) hx hb dX8_number_4 (by decide) ?_
  have hJ17 : ∀ (y17_s0 : Int32) (H : Heap) (locs : List Loc) (ls : Array Slot), In y17_s0 (-49) 65487 → va_P g.1 vwCl (va_pl L f) H → va_D A (va_pl L f) → va_S A s.heap H locs → lv_has ls 4 [(0, .ref (ad 1)), (1, .int 0), (2, .int 8)] → W p l e rm_X8_number_0_8 s m [.ref (ad 1), .int 0, .int 8].toArray below meth c H locs 0 0 (MQ below (va_Qi (po_X8_number_0_8 g ad th L f ) (PstB g A) A) [.ref (ad 1), .int 0, .int 8].toArray s rm_X8_number_0_8.cells rm_X8_number_0_8.slots A) (F0 m 17 ls [.int y17_s0]) := by
    intro y17_s0 H locs ls hy17_s0 hP hD hS hl
    refine lv_istore_n (lv' := [(3, .int y17_s0), (0, .ref (ad 1)), (1, .int 0), (2, .int 8)]) hx hb dX8_number_17 rfl hl (by decide) rfl (fun ls hl => ?_)
    refine lv_iload_n hx hb dX8_number_18 rfl (lv_at hl 0 rfl) ?_
    refine lv_iload_n hx hb dX8_number_19 rfl (lv_at hl 2 rfl) ?_
    have hJ28 : ∀ (H : Heap) (locs : List Loc) (ls : Array Slot), va_P g.1 vwCl (va_pl L f) H → va_D A (va_pl L f) → va_S A s.heap H locs → lv_has ls 4 [(0, .ref (ad 1)), (1, .int 0), (2, .int 8), (3, .int y17_s0)] → W p l e rm_X8_number_0_8 s m [.ref (ad 1), .int 0, .int 8].toArray below meth c H locs 0 0 (MQ below (va_Qi (po_X8_number_0_8 g ad th L f ) (PstB g A) A) [.ref (ad 1), .int 0, .int 8].toArray s rm_X8_number_0_8.cells rm_X8_number_0_8.slots A) (F0 m 28 ls []) := by
      intro H locs ls hP hD hS hl
      refine lv_iconst (v := (-1)) hx hb dX8_number_28 (by decide) ?_
      refine lv_goto (tgt := 33) hx hb dX8_number_29 (by decide) ?_
      exact ret_i (ty := .int) hx hb hr hlocks (rfl) hP hD hS (Nat.le_of_ble_eq_true rfl) (Nat.le_of_ble_eq_true rfl) (⟨rfl, rfl, (⟨by decide, by decide⟩ : In (-1) (-1) 8), (by have oc0 : (0 : Int32).toInt = 0 := (by decide); have ocm1 : ((-1) : Int32).toInt = (-1) := (by decide); omega)⟩) dX8_number_33
    refine lv_icmp_lt (tgt := 28) hx hb dX8_number_20 (by decide) (fun c9 => ?_) (fun c9 => ?_)
    ·
      have oc0 : (0 : Int32).toInt = 0 := by decide
      have cc10 : y17_s0.toInt < (0 : Int32).toInt := i32_lt.mp c9
      have hb11 : In y17_s0 (-49) (-1) := In.lt1 hy17_s0 (⟨by decide, by decide⟩ : In 0 0 0) cc10 (by omega) (by omega)
      exact hJ28 _ _ _ hP hD hS (lv_sub hl [1, 2, 3, 0] rfl)
    ·
      have oc0 : (0 : Int32).toInt = 0 := by decide
      have cc12 : (0 : Int32).toInt ≤ y17_s0.toInt := i32_nlt c9
      have hb13 : In y17_s0 0 65487 := In.ge1 hy17_s0 (⟨by decide, by decide⟩ : In 0 0 0) cc12 (by omega) (by omega)
      refine lv_iload_n hx hb dX8_number_23 rfl (lv_at hl 0 rfl) ?_
      refine lv_iload_n hx hb dX8_number_24 rfl (lv_at hl 3 rfl) ?_
      refine lv_icmp_le (tgt := 32) hx hb dX8_number_25 (by decide) (fun c14 => ?_) (fun c14 => ?_)
      ·
        have oc8 : (8 : Int32).toInt = 8 := by decide
        have cc15 : y17_s0.toInt ≤ (8 : Int32).toInt := i32_le.mp c14
        have hb16 : In y17_s0 0 8 := In.le1 hb13 (⟨by decide, by decide⟩ : In 8 8 8) cc15 (by omega) (by omega)
        refine lv_iload_n hx hb dX8_number_32 rfl (lv_at hl 0 rfl) ?_
        exact ret_i (ty := .int) hx hb hr hlocks (rfl) hP hD hS (Nat.le_of_ble_eq_true rfl) (Nat.le_of_ble_eq_true rfl) (⟨rfl, rfl, (In.mono hb16 (by decide) (by decide)), (by have oc0 : (0 : Int32).toInt = 0 := (by decide); obtain ⟨o0a, o0b⟩ := (hb16 : In _ _ _); omega)⟩) dX8_number_33
      ·
        have oc8 : (8 : Int32).toInt = 8 := by decide
        have cc17 : (8 : Int32).toInt < y17_s0.toInt := i32_nle c14
        have hb18 : In y17_s0 9 65487 := In.gt1 hb13 (⟨by decide, by decide⟩ : In 8 8 8) cc17 (by omega) (by omega)
        exact hJ28 _ _ _ hP hD hS (lv_sub hl [1, 2, 3, 0] rfl)
  refine lv_icmp_ne (tgt := 16) hx hb dX8_number_5 (by decide) (fun c19 => ?_) (fun c19 => ?_)
  ·
    have oc1 : (1 : Int32).toInt = 1 := by decide
    have cc20 : r3.toInt ≠ (1 : Int32).toInt := i32_ne c19
    refine lv_iconst (v := (-1)) hx hb dX8_number_16 (by decide) ?_
    exact hJ17 (-1) _ _ _ (⟨by decide, by decide⟩ : In (-1) (-49) 65487) hP hD hS (lv_sub hl [0, 1, 2] rfl)
  ·
    have oc1 : (1 : Int32).toInt = 1 := by decide
    have cc21 : r3.toInt = (1 : Int32).toInt := congrArg Int32.toInt c19
    have hb22 : In r3 1 1 := In.eq1 eL7R (⟨by decide, by decide⟩ : In 1 1 1) cc21 (by omega) (by omega)
    refine lv_aload_n hx hb dX8_number_8 rfl (lv_at hl 0 rfl) ?_
    refine lv_iconst (v := 0) hx hb dX8_number_9 (by decide) ?_
    refine call_i (run_V (rm := rm_X8_digitAt) hx hb hml hown hts (s_X8_digitAt l g ad th _ _ _ 0 hst hT ) cV_X8_digitAt wg_655 ⟨Nat.le_of_ble_eq_true rfl, Nat.le_of_ble_eq_true rfl⟩ hG hE hA hP hD hS (hst.1 1 (by decide)) hf2 rfl rfl hl.1 (As := [.int 0]) (rest := []) rfl (Nat.le_of_ble_eq_true rfl) dX8_number_10 ⟨Nat.le_of_ble_eq_true rfl, Nat.le_of_ble_eq_true rfl⟩) hA hD hS (fun r23 L24 f25 H locs hp26 hP hD hS => ?_)
    obtain ⟨eL27L, eL27T, eL27R⟩ := hp26
    have eL27L : L24 = L := eL27L
    have eL27T : f25 = f := eL27T
    rw [eL27L, eL27T] at hP hD
    have eL27R : In r23 (-49) 65487 := eL27R
    refine lv_goto (tgt := 17) hx hb dX8_number_13 (by decide) ?_
    exact hJ17 r23 _ _ _ eL27R hP hD hS (lv_sub hl [0, 1, 2] rfl)

abbrev rm_X5_wordOf : Room := { frames := 0, cells := 0, slots := 0, locals := 0 }
abbrev po_X5_wordOf (g : GG) (ad : Nat → Nat) (th : Nat → Int) (L : List Nat) (f : HP) (z0 : Int32) : Nat → (List Nat × HP) → Prop := fun r u => u.1 = L ∧ u.2 = f ∧ ∃ i : Nat, i < nS ∧ r = g.2.2.1 i
set_option maxHeartbeats 4000000 in
set_option maxRecDepth 100000 in
theorem s_X5_wordOf (l : Launch) (g : GG) (ad : Nat → Nat) (th : Nat → Int) (L : List Nat) (f : HP) (sz : Nat) (z0 : Int32) (hst : ST ad L) (hT : TI g ad th f)  : MtR l g yX5_wordOf cX5_wordOf 1 (some (.object "java/lang/String")) rm_X5_wordOf [.int z0] L f sz (po_X5_wordOf g ad th L f z0) := by
  refine MtR.of (by decide +kernel) (Nat.le_of_ble_eq_true rfl) ?_
  intro p e s m below meth c A hEn hP hD hS ls hl
  obtain ⟨hx, hb, hr, hml, hown, hlocks, hts, hG, hA, hE, hnm⟩ := hEn
  have hown : s.vm.findClass "RulerWord$Plan" = some m.cls := hown
  have hl : lv_has ls 1 [(0, .int z0)] := hl
  refine lv_iload_n hx hb dX5_wordOf_0 rfl (lv_at hl 0 rfl) ?_
  by_cases c1 : z0 = 0
  ·
    refine lv_tableIn (off := 27) (tgt := 28) hx hb dX5_wordOf_1 (by rw [c1]; decide) (by rw [c1]; decide) (by rw [c1]; decide) (by decide) ?_
    have hb2 : In z0 0 0 := by rw [c1]; exact ⟨by decide, by decide⟩
    refine va_ldcS hx hb hown (hG.2.2.1 ("RulerWord$Plan", 63, "phase", 8) (by decide +kernel)) dX5_wordOf_28 ?_
    exact ret_r (ty := .object "java/lang/String") hx hb hr hlocks (Or.inl ⟨_, rfl⟩) hP hD hS (Nat.le_of_ble_eq_true rfl) (Nat.le_of_ble_eq_true rfl) (⟨rfl, rfl, ⟨8, (by decide), rfl⟩⟩) dX5_wordOf_30
  by_cases c3 : z0 = 1
  ·
    refine lv_tableIn (off := 30) (tgt := 31) hx hb dX5_wordOf_1 (by rw [c3]; decide) (by rw [c3]; decide) (by rw [c3]; decide) (by decide) ?_
    have hb4 : In z0 1 1 := by rw [c3]; exact ⟨by decide, by decide⟩
    refine va_ldcS hx hb hown (hG.2.2.1 ("RulerWord$Plan", 65, "round", 9) (by decide +kernel)) dX5_wordOf_31 ?_
    exact ret_r (ty := .object "java/lang/String") hx hb hr hlocks (Or.inl ⟨_, rfl⟩) hP hD hS (Nat.le_of_ble_eq_true rfl) (Nat.le_of_ble_eq_true rfl) (⟨rfl, rfl, ⟨9, (by decide), rfl⟩⟩) dX5_wordOf_33
  by_cases c5 : z0 = 2
  ·
    refine lv_tableIn (off := 33) (tgt := 34) hx hb dX5_wordOf_1 (by rw [c5]; decide) (by rw [c5]; decide) (by rw [c5]; decide) (by decide) ?_
    have hb6 : In z0 2 2 := by rw [c5]; exact ⟨by decide, by decide⟩
    refine va_ldcS hx hb hown (hG.2.2.1 ("RulerWord$Plan", 67, "from", 10) (by decide +kernel)) dX5_wordOf_34 ?_
    exact ret_r (ty := .object "java/lang/String") hx hb hr hlocks (Or.inl ⟨_, rfl⟩) hP hD hS (Nat.le_of_ble_eq_true rfl) (Nat.le_of_ble_eq_true rfl) (⟨rfl, rfl, ⟨10, (by decide), rfl⟩⟩) dX5_wordOf_36
  refine lv_tableOut (tgt := 37) hx hb dX5_wordOf_1 (tb_out (by decide) (by decide) (fun k h1 h2 => ?_)) (by decide) ?_
  · rcases (show k = 0 ∨ k = 1 ∨ k = 2 by omega) with rfl | rfl | rfl
    · exact fun e => c1 (e.trans (by decide))
    · exact fun e => c3 (e.trans (by decide))
    · exact fun e => c5 (e.trans (by decide))
  ·
    refine va_ldcS hx hb hown (hG.2.2.1 ("RulerWord$Plan", 69, "to", 11) (by decide +kernel)) dX5_wordOf_37 ?_
    exact ret_r (ty := .object "java/lang/String") hx hb hr hlocks (Or.inl ⟨_, rfl⟩) hP hD hS (Nat.le_of_ble_eq_true rfl) (Nat.le_of_ble_eq_true rfl) (⟨rfl, rfl, ⟨11, (by decide), rfl⟩⟩) dX5_wordOf_39

abbrev rm_X5_greatestOf : Room := { frames := 0, cells := 0, slots := 0, locals := 0 }
abbrev po_X5_greatestOf (g : GG) (ad : Nat → Nat) (th : Nat → Int) (L : List Nat) (f : HP) (z0 : Int32) : Int32 → (List Nat × HP) → Prop := fun r u => u.1 = L ∧ u.2 = f ∧ In r 2 8
set_option maxHeartbeats 4000000 in
set_option maxRecDepth 100000 in
theorem s_X5_greatestOf (l : Launch) (g : GG) (ad : Nat → Nat) (th : Nat → Int) (L : List Nat) (f : HP) (sz : Nat) (z0 : Int32) (hst : ST ad L) (hT : TI g ad th f)  : MtI l g yX5_greatestOf cX5_greatestOf 1 (some .int) rm_X5_greatestOf [.int z0] L f sz (po_X5_greatestOf g ad th L f z0) := by
  refine MtI.of (by decide +kernel) (Nat.le_of_ble_eq_true rfl) ?_
  intro p e s m below meth c A hEn hP hD hS ls hl
  obtain ⟨hx, hb, hr, hml, hown, hlocks, hts, hG, hA, hE, hnm⟩ := hEn
  have hown : s.vm.findClass "RulerWord$Plan" = some m.cls := hown
  have hl : lv_has ls 1 [(0, .int z0)] := hl
  refine lv_iload_n hx hb dX5_greatestOf_0 rfl (lv_at hl 0 rfl) ?_
  by_cases c1 : z0 = 0
  ·
    refine lv_lookup (off := 27) (tgt := 28) hx hb dX5_greatestOf_1 (by decide) (by rw [c1]; decide) (by decide) ?_
    have hb2 : In z0 0 0 := by rw [c1]; exact ⟨by decide, by decide⟩
    refine lv_iconst (v := 5) hx hb dX5_greatestOf_28 (by decide) ?_
    exact ret_i (ty := .int) hx hb hr hlocks (rfl) hP hD hS (Nat.le_of_ble_eq_true rfl) (Nat.le_of_ble_eq_true rfl) (⟨rfl, rfl, (⟨by decide, by decide⟩ : In 5 2 8)⟩) dX5_greatestOf_29
  by_cases c3 : z0 = 1
  ·
    refine lv_lookup (off := 29) (tgt := 30) hx hb dX5_greatestOf_1 (by decide) (by rw [c3]; decide) (by decide) ?_
    have hb4 : In z0 1 1 := by rw [c3]; exact ⟨by decide, by decide⟩
    refine lv_iconst (v := 2) hx hb dX5_greatestOf_30 (by decide) ?_
    exact ret_i (ty := .int) hx hb hr hlocks (rfl) hP hD hS (Nat.le_of_ble_eq_true rfl) (Nat.le_of_ble_eq_true rfl) (⟨rfl, rfl, (⟨by decide, by decide⟩ : In 2 2 8)⟩) dX5_greatestOf_31
  refine lv_lookup (off := 31) (tgt := 32) hx hb dX5_greatestOf_1 (by decide) (by simp [Op.lookupswitch.offset, ne_ti2 (k := 0) c1 (by decide), ne_ti2 (k := 1) c3 (by decide)]) (by decide) ?_
  ·
    refine lv_bipush (v := 8) hx hb dX5_greatestOf_32 (by decide) ?_
    exact ret_i (ty := .int) hx hb hr hlocks (rfl) hP hD hS (Nat.le_of_ble_eq_true rfl) (Nat.le_of_ble_eq_true rfl) (⟨rfl, rfl, (⟨by decide, by decide⟩ : In 8 2 8)⟩) dX5_greatestOf_34

abbrev rm_X5_actOf : Room := { frames := 5, cells := 0, slots := 0, locals := 107 }
abbrev po_X5_actOf (g : GG) (ad : Nat → Nat) (th : Nat → Int) (L : List Nat) (f : HP)  : Int32 → (List Nat × HP) → Prop := fun r u => u.1 = L ∧ u.2 = f ∧ In r (-1) 6
set_option maxHeartbeats 4000000 in
set_option maxRecDepth 100000 in
theorem s_X5_actOf (l : Launch) (g : GG) (ad : Nat → Nat) (th : Nat → Int) (L : List Nat) (f : HP) (sz : Nat)  (hst : ST ad L) (hT : TI g ad th f)  : MtI l g yX5_actOf cX5_actOf 1 (some .int) rm_X5_actOf [.ref (ad 1)] L f sz (po_X5_actOf g ad th L f ) := by
  refine MtI.of (by decide +kernel) (Nat.le_of_ble_eq_true rfl) ?_
  intro p e s m below meth c A hEn hP hD hS ls hl
  obtain ⟨hx, hb, hr, hml, hown, hlocks, hts, hG, hA, hE, hnm⟩ := hEn
  have hown : s.vm.findClass "RulerWord$Plan" = some m.cls := hown
  have hl : lv_has ls 1 [(0, .ref (ad 1))] := hl
  refine lv_aload_n hx hb dX5_actOf_0 rfl (lv_at hl 0 rfl) ?_
  refine va_ldcS hx hb hown (hG.2.2.1 ("RulerWord$Plan", 71, "same", 12) (by decide +kernel)) dX5_actOf_1 ?_
  obtain ⟨v1_1, v2_1, v3_1, v4_1, hf2, hv1_1, hv2_1, hv3_1, hv4_1⟩ := hT.1 1 (by decide)
  refine call_i (run_VN (rm := rm_X8_isWord) hx hb hml hown hts (s_X8_isWord l g ad th _ _ _ 12 hst hT (by decide)) cV_X8_isWord wn_692 ⟨Nat.le_of_ble_eq_true rfl, Nat.le_of_ble_eq_true rfl⟩ hG hE hA hP hD hS (hst.1 1 (by decide)) hf2 rfl rfl hl.1 (As := [.ref (g.2.2.1 12)]) (rest := []) rfl (Nat.le_of_ble_eq_true rfl) dX5_actOf_3 ⟨Nat.le_of_ble_eq_true rfl, Nat.le_of_ble_eq_true rfl⟩) hA hD hS (fun r3 L4 f5 H locs hp6 hP hD hS => ?_)
  obtain ⟨eL7L, eL7T, eL7R⟩ := hp6
  have eL7L : L4 = L := eL7L
  have eL7T : f5 = f := eL7T
  rw [eL7L, eL7T] at hP hD
  have eL7R : In r3 0 1 := eL7R
  refine lv_if_eq (tgt := 11) hx hb dX5_actOf_6 (by decide) (fun c8 => ?_) (fun c8 => ?_)
  ·
    have cc9 : r3.toInt = (0 : Int32).toInt := congrArg Int32.toInt c8
    have hb10 : In r3 0 0 := In.eq1 eL7R (⟨by decide, by decide⟩ : In 0 0 0) cc9 (by omega) (by omega)
    refine lv_aload_n hx hb dX5_actOf_11 rfl (lv_at hl 0 rfl) ?_
    refine va_ldcS hx hb hown (hG.2.2.1 ("RulerWord$Plan", 73, "turn", 13) (by decide +kernel)) dX5_actOf_12 ?_
    refine call_i (run_VN (rm := rm_X8_isWord) hx hb hml hown hts (s_X8_isWord l g ad th _ _ _ 13 hst hT (by decide)) cV_X8_isWord wn_692 ⟨Nat.le_of_ble_eq_true rfl, Nat.le_of_ble_eq_true rfl⟩ hG hE hA hP hD hS (hst.1 1 (by decide)) hf2 rfl rfl hl.1 (As := [.ref (g.2.2.1 13)]) (rest := []) rfl (Nat.le_of_ble_eq_true rfl) dX5_actOf_14 ⟨Nat.le_of_ble_eq_true rfl, Nat.le_of_ble_eq_true rfl⟩) hA hD hS (fun r11 L12 f13 H locs hp14 hP hD hS => ?_)
    obtain ⟨eL15L, eL15T, eL15R⟩ := hp14
    have eL15L : L12 = L := eL15L
    have eL15T : f13 = f := eL15T
    rw [eL15L, eL15T] at hP hD
    have eL15R : In r11 0 1 := eL15R
    refine lv_if_eq (tgt := 22) hx hb dX5_actOf_17 (by decide) (fun c16 => ?_) (fun c16 => ?_)
    ·
      have cc17 : r11.toInt = (0 : Int32).toInt := congrArg Int32.toInt c16
      have hb18 : In r11 0 0 := In.eq1 eL15R (⟨by decide, by decide⟩ : In 0 0 0) cc17 (by omega) (by omega)
      refine lv_aload_n hx hb dX5_actOf_22 rfl (lv_at hl 0 rfl) ?_
      refine va_ldcS hx hb hown (hG.2.2.1 ("RulerWord$Plan", 75, "split", 14) (by decide +kernel)) dX5_actOf_23 ?_
      refine call_i (run_VN (rm := rm_X8_isWord) hx hb hml hown hts (s_X8_isWord l g ad th _ _ _ 14 hst hT (by decide)) cV_X8_isWord wn_692 ⟨Nat.le_of_ble_eq_true rfl, Nat.le_of_ble_eq_true rfl⟩ hG hE hA hP hD hS (hst.1 1 (by decide)) hf2 rfl rfl hl.1 (As := [.ref (g.2.2.1 14)]) (rest := []) rfl (Nat.le_of_ble_eq_true rfl) dX5_actOf_25 ⟨Nat.le_of_ble_eq_true rfl, Nat.le_of_ble_eq_true rfl⟩) hA hD hS (fun r19 L20 f21 H locs hp22 hP hD hS => ?_)
      obtain ⟨eL23L, eL23T, eL23R⟩ := hp22
      have eL23L : L20 = L := eL23L
      have eL23T : f21 = f := eL23T
      rw [eL23L, eL23T] at hP hD
      have eL23R : In r19 0 1 := eL23R
      refine lv_if_eq (tgt := 33) hx hb dX5_actOf_28 (by decide) (fun c24 => ?_) (fun c24 => ?_)
      ·
        have cc25 : r19.toInt = (0 : Int32).toInt := congrArg Int32.toInt c24
        have hb26 : In r19 0 0 := In.eq1 eL23R (⟨by decide, by decide⟩ : In 0 0 0) cc25 (by omega) (by omega)
        refine lv_aload_n hx hb dX5_actOf_33 rfl (lv_at hl 0 rfl) ?_
        refine va_ldcS hx hb hown (hG.2.2.1 ("RulerWord$Plan", 77, "draw", 15) (by decide +kernel)) dX5_actOf_34 ?_
        refine call_i (run_VN (rm := rm_X8_isWord) hx hb hml hown hts (s_X8_isWord l g ad th _ _ _ 15 hst hT (by decide)) cV_X8_isWord wn_692 ⟨Nat.le_of_ble_eq_true rfl, Nat.le_of_ble_eq_true rfl⟩ hG hE hA hP hD hS (hst.1 1 (by decide)) hf2 rfl rfl hl.1 (As := [.ref (g.2.2.1 15)]) (rest := []) rfl (Nat.le_of_ble_eq_true rfl) dX5_actOf_36 ⟨Nat.le_of_ble_eq_true rfl, Nat.le_of_ble_eq_true rfl⟩) hA hD hS (fun r27 L28 f29 H locs hp30 hP hD hS => ?_)
        obtain ⟨eL31L, eL31T, eL31R⟩ := hp30
        have eL31L : L28 = L := eL31L
        have eL31T : f29 = f := eL31T
        rw [eL31L, eL31T] at hP hD
        have eL31R : In r27 0 1 := eL31R
        refine lv_if_eq (tgt := 47) hx hb dX5_actOf_39 (by decide) (fun c32 => ?_) (fun c32 => ?_)
        ·
          have cc33 : r27.toInt = (0 : Int32).toInt := congrArg Int32.toInt c32
          have hb34 : In r27 0 0 := In.eq1 eL31R (⟨by decide, by decide⟩ : In 0 0 0) cc33 (by omega) (by omega)
          refine lv_aload_n hx hb dX5_actOf_47 rfl (lv_at hl 0 rfl) ?_
          refine lv_iconst (v := 0) hx hb dX5_actOf_48 (by decide) ?_
          refine lv_iconst (v := 2) hx hb dX5_actOf_49 (by decide) ?_
          refine call_i (run_VN (rm := rm_X8_number_0_2) hx hb hml hown hts (s_X8_number_0_2 l g ad th _ _ _  hst hT ) cV_X8_number wn_697 ⟨Nat.le_of_ble_eq_true rfl, Nat.le_of_ble_eq_true rfl⟩ hG hE hA hP hD hS (hst.1 1 (by decide)) hf2 rfl rfl hl.1 (As := [.int 0, .int 2]) (rest := []) rfl (Nat.le_of_ble_eq_true rfl) dX5_actOf_50 ⟨Nat.le_of_ble_eq_true rfl, Nat.le_of_ble_eq_true rfl⟩) hA hD hS (fun r35 L36 f37 H locs hp38 hP hD hS => ?_)
          obtain ⟨eL39L, eL39T, eL39R, eL39X0⟩ := hp38
          have eL39L : L36 = L := eL39L
          have eL39T : f37 = f := eL39T
          rw [eL39L, eL39T] at hP hD
          have eL39R : In r35 (-1) 2 := eL39R
          have eL39X0n := eL39X0
          exact ret_i (ty := .int) hx hb hr hlocks (rfl) hP hD hS (Nat.le_of_ble_eq_true rfl) (Nat.le_of_ble_eq_true rfl) (⟨rfl, rfl, (In.mono eL39R (by decide) (by decide))⟩) dX5_actOf_53
        ·
          have cc40 : r27.toInt ≠ (0 : Int32).toInt := i32_ne c32
          have hb41 : In r27 1 1 := In.ne1 eL31R (⟨by decide, by decide⟩ : In 0 0 0) cc40 (by omega) (by omega)
          refine lv_bipush (v := 6) hx hb dX5_actOf_42 (by decide) ?_
          refine lv_goto (tgt := 53) hx hb dX5_actOf_44 (by decide) ?_
          exact ret_i (ty := .int) hx hb hr hlocks (rfl) hP hD hS (Nat.le_of_ble_eq_true rfl) (Nat.le_of_ble_eq_true rfl) (⟨rfl, rfl, (⟨by decide, by decide⟩ : In 6 (-1) 6)⟩) dX5_actOf_53
      ·
        have cc42 : r19.toInt ≠ (0 : Int32).toInt := i32_ne c24
        have hb43 : In r19 1 1 := In.ne1 eL23R (⟨by decide, by decide⟩ : In 0 0 0) cc42 (by omega) (by omega)
        refine lv_iconst (v := 5) hx hb dX5_actOf_31 (by decide) ?_
        exact ret_i (ty := .int) hx hb hr hlocks (rfl) hP hD hS (Nat.le_of_ble_eq_true rfl) (Nat.le_of_ble_eq_true rfl) (⟨rfl, rfl, (⟨by decide, by decide⟩ : In 5 (-1) 6)⟩) dX5_actOf_32
    ·
      have cc44 : r11.toInt ≠ (0 : Int32).toInt := i32_ne c16
      have hb45 : In r11 1 1 := In.ne1 eL15R (⟨by decide, by decide⟩ : In 0 0 0) cc44 (by omega) (by omega)
      refine lv_iconst (v := 4) hx hb dX5_actOf_20 (by decide) ?_
      exact ret_i (ty := .int) hx hb hr hlocks (rfl) hP hD hS (Nat.le_of_ble_eq_true rfl) (Nat.le_of_ble_eq_true rfl) (⟨rfl, rfl, (⟨by decide, by decide⟩ : In 4 (-1) 6)⟩) dX5_actOf_21
  ·
    have cc46 : r3.toInt ≠ (0 : Int32).toInt := i32_ne c8
    have hb47 : In r3 1 1 := In.ne1 eL7R (⟨by decide, by decide⟩ : In 0 0 0) cc46 (by omega) (by omega)
    refine lv_iconst (v := 3) hx hb dX5_actOf_9 (by decide) ?_
    exact ret_i (ty := .int) hx hb hr hlocks (rfl) hP hD hS (Nat.le_of_ble_eq_true rfl) (Nat.le_of_ble_eq_true rfl) (⟨rfl, rfl, (⟨by decide, by decide⟩ : In 3 (-1) 6)⟩) dX5_actOf_10

abbrev rm_X2_rounds_co : Room := { frames := 0, cells := 0, slots := 0, locals := 0 }
abbrev po_X2_rounds_co (g : GG) (ad : Nat → Nat) (th : Nat → Int) (L : List Nat) (f : HP)  : Int32 → (List Nat × HP) → Prop := fun r u => u.1 = L ∧ u.2 = f ∧ In r 2 3 ∧ r.toInt = rnd (th 2)
set_option maxHeartbeats 4000000 in
set_option maxRecDepth 100000 in
theorem s_X2_rounds_co (l : Launch) (g : GG) (ad : Nat → Nat) (th : Nat → Int) (L : List Nat) (f : HP) (sz : Nat)  (hst : ST ad L) (hT : TI g ad th f)  : MtI l g yX2_rounds cX2_rounds 1 (some .int) rm_X2_rounds_co [.ref (ad 6)] L f sz (po_X2_rounds_co g ad th L f ) := by
  refine MtI.of (by decide +kernel) (Nat.le_of_ble_eq_true rfl) ?_
  intro p e s m below meth c A hEn hP hD hS ls hl
  obtain ⟨hx, hb, hr, hml, hown, hlocks, hts, hG, hA, hE, hnm⟩ := hEn
  have hown : s.vm.findClass "RulerWord$Council" = some m.cls := hown
  have hl : lv_has ls 1 [(0, .ref (ad 6))] := hl
  refine lv_aload_n hx hb dX2_rounds_0 rfl (lv_at hl 0 rfl) ?_
  obtain ⟨v0_1, v1_1, v2_1, v3_1, v4_1, v5_1, v6_1, v7_1, hf2, hv0_1, hg0_1, hv1_1, hg1_1, hv2_1, hv3_1, hv5_1, hv6_1, hrel0_1⟩ := hT.1 6 (by decide)
  refine pl_get (v := .int v0_1) hx hb hts (fun w h => mT (inX2 w h)) hown hG.1 hP (hst.1 6 (by decide)) hf2 rfl 0 (by decide) (hts _ (mT wg_224)) (fun _ h => h) rfl dX2_rounds_1 ?_
  refine lv_if_ne (tgt := 11) hx hb dX2_rounds_4 (by decide) (fun c3 => ?_) (fun c3 => ?_)
  ·
    have cc4 : v0_1.toInt ≠ (0 : Int32).toInt := i32_ne c3
    have hb5 : In v0_1 1 1 := In.ne1 hv0_1 (⟨by decide, by decide⟩ : In 0 0 0) cc4 (by omega) (by omega)
    refine lv_iconst (v := 2) hx hb dX2_rounds_11 (by decide) ?_
    exact ret_i (ty := .int) hx hb hr hlocks (rfl) hP hD hS (Nat.le_of_ble_eq_true rfl) (Nat.le_of_ble_eq_true rfl) (⟨rfl, rfl, (⟨by decide, by decide⟩ : In 2 2 3), (rnd_t hg0_1 c3)⟩) dX2_rounds_12
  ·
    have cc6 : v0_1.toInt = (0 : Int32).toInt := congrArg Int32.toInt c3
    have hb7 : In v0_1 0 0 := In.eq1 hv0_1 (⟨by decide, by decide⟩ : In 0 0 0) cc6 (by omega) (by omega)
    refine lv_iconst (v := 3) hx hb dX2_rounds_7 (by decide) ?_
    refine lv_goto (tgt := 12) hx hb dX2_rounds_8 (by decide) ?_
    exact ret_i (ty := .int) hx hb hr hlocks (rfl) hP hD hS (Nat.le_of_ble_eq_true rfl) (Nat.le_of_ble_eq_true rfl) (⟨rfl, rfl, (⟨by decide, by decide⟩ : In 3 2 3), (rnd_f hg0_1 c3)⟩) dX2_rounds_12

abbrev rm_X2_allRounds_co : Room := { frames := 1, cells := 0, slots := 0, locals := 20 }
abbrev po_X2_allRounds_co (g : GG) (ad : Nat → Nat) (th : Nat → Int) (L : List Nat) (f : HP)  : Int32 → (List Nat × HP) → Prop := fun _ u => u.1 = L ∧ u.2 = f
set_option maxHeartbeats 4000000 in
set_option maxRecDepth 100000 in
theorem s_X2_allRounds_co (l : Launch) (g : GG) (ad : Nat → Nat) (th : Nat → Int) (L : List Nat) (f : HP) (sz : Nat)  (hst : ST ad L) (hT : TI g ad th f)  : MtI l g yX2_allRounds cX2_allRounds 1 (some .int) rm_X2_allRounds_co [.ref (ad 6)] L f sz (po_X2_allRounds_co g ad th L f ) := by
  refine MtI.of (by decide +kernel) (Nat.le_of_ble_eq_true rfl) ?_
  intro p e s m below meth c A hEn hP hD hS ls hl
  obtain ⟨hx, hb, hr, hml, hown, hlocks, hts, hG, hA, hE, hnm⟩ := hEn
  have hown : s.vm.findClass "RulerWord$Council" = some m.cls := hown
  have hl : lv_has ls 1 [(0, .ref (ad 6))] := hl
  refine lv_aload_n hx hb dX2_allRounds_0 rfl (lv_at hl 0 rfl) ?_
  obtain ⟨v0_1, v1_1, v2_1, v3_1, v4_1, v5_1, v6_1, v7_1, hf2, hv0_1, hg0_1, hv1_1, hg1_1, hv2_1, hv3_1, hv5_1, hv6_1, hrel0_1⟩ := hT.1 6 (by decide)
  refine pl_get (v := .int v3_1) hx hb hts (fun w h => mT (inX2 w h)) hown hG.1 hP (hst.1 6 (by decide)) hf2 rfl 3 (by decide) (hts _ (mT wg_234)) (fun _ h => h) rfl dX2_allRounds_1 ?_
  refine lv_aload_n hx hb dX2_allRounds_4 rfl (lv_at hl 0 rfl) ?_
  refine call_i (run_V (rm := rm_X2_rounds_co) hx hb hml hown hts (s_X2_rounds_co l g ad th _ _ _  hst hT ) cV_X2_rounds wg_738 ⟨Nat.le_of_ble_eq_true rfl, Nat.le_of_ble_eq_true rfl⟩ hG hE hA hP hD hS (hst.1 6 (by decide)) hf2 rfl rfl hl.1 (As := []) (rest := [.int v3_1]) rfl (Nat.le_of_ble_eq_true rfl) dX2_allRounds_5 ⟨Nat.le_of_ble_eq_true rfl, Nat.le_of_ble_eq_true rfl⟩) hA hD hS (fun r3 L4 f5 H locs hp6 hP hD hS => ?_)
  obtain ⟨eL7L, eL7T, eL7R, eL7X0⟩ := hp6
  have eL7L : L4 = L := eL7L
  have eL7T : f5 = f := eL7T
  rw [eL7L, eL7T] at hP hD
  have eL7R : In r3 2 3 := eL7R
  have hrn8 : r3.toInt = rnd (th 2) := eL7X0
  refine lv_imul hx hb dX2_allRounds_8 ?_
  refine lv_topi (fun x9 ex9 => ?_)
  exact ret_i (ty := .int) hx hb hr hlocks (rfl) hP hD hS (Nat.le_of_ble_eq_true rfl) (Nat.le_of_ble_eq_true rfl) (⟨rfl, rfl⟩) dX2_allRounds_9

abbrev rm_X2_phaseAt_co : Room := { frames := 1, cells := 0, slots := 0, locals := 20 }
abbrev po_X2_phaseAt_co (g : GG) (ad : Nat → Nat) (th : Nat → Int) (L : List Nat) (f : HP) (z1 : Int32) : Int32 → (List Nat × HP) → Prop := fun r u => u.1 = L ∧ u.2 = f ∧ In r 0 9 ∧ (r.toInt * rnd (th 2) ≤ z1.toInt ∧ z1.toInt < (r.toInt + 1) * rnd (th 2))
set_option maxHeartbeats 4000000 in
set_option maxRecDepth 100000 in
theorem s_X2_phaseAt_co (l : Launch) (g : GG) (ad : Nat → Nat) (th : Nat → Int) (L : List Nat) (f : HP) (sz : Nat) (z1 : Int32) (hst : ST ad L) (hT : TI g ad th f) (hz1 : In z1 0 18) : MtI l g yX2_phaseAt cX2_phaseAt 2 (some .int) rm_X2_phaseAt_co [.ref (ad 6), .int z1] L f sz (po_X2_phaseAt_co g ad th L f z1) := by
  refine MtI.of (by decide +kernel) (Nat.le_of_ble_eq_true rfl) ?_
  intro p e s m below meth c A hEn hP hD hS ls hl
  obtain ⟨hx, hb, hr, hml, hown, hlocks, hts, hG, hA, hE, hnm⟩ := hEn
  have hown : s.vm.findClass "RulerWord$Council" = some m.cls := hown
  have hl : lv_has ls 2 [(0, .ref (ad 6)), (1, .int z1)] := hl
  refine lv_iload_n hx hb dX2_phaseAt_0 rfl (lv_at hl 1 rfl) ?_
  refine lv_aload_n hx hb dX2_phaseAt_1 rfl (lv_at hl 0 rfl) ?_
  obtain ⟨v0_1, v1_1, v2_1, v3_1, v4_1, v5_1, v6_1, v7_1, hf2, hv0_1, hg0_1, hv1_1, hg1_1, hv2_1, hv3_1, hv5_1, hv6_1, hrel0_1⟩ := hT.1 6 (by decide)
  refine call_i (run_V (rm := rm_X2_rounds_co) hx hb hml hown hts (s_X2_rounds_co l g ad th _ _ _  hst hT ) cV_X2_rounds wg_738 ⟨Nat.le_of_ble_eq_true rfl, Nat.le_of_ble_eq_true rfl⟩ hG hE hA hP hD hS (hst.1 6 (by decide)) hf2 rfl rfl hl.1 (As := []) (rest := [.int z1]) rfl (Nat.le_of_ble_eq_true rfl) dX2_phaseAt_2 ⟨Nat.le_of_ble_eq_true rfl, Nat.le_of_ble_eq_true rfl⟩) hA hD hS (fun r3 L4 f5 H locs hp6 hP hD hS => ?_)
  obtain ⟨eL7L, eL7T, eL7R, eL7X0⟩ := hp6
  have eL7L : L4 = L := eL7L
  have eL7T : f5 = f := eL7T
  rw [eL7L, eL7T] at hP hD
  have eL7R : In r3 2 3 := eL7R
  have hrn8 : r3.toInt = rnd (th 2) := eL7X0
  refine lv_idiv hx hb dX2_phaseAt_5 (In.ne0 eL7R (by decide)) ?_
  refine lv_topi (fun x9 ex9 => ?_)
  have hb10 : In x9 0 9 := ex9 ▸ In.div hz1 eL7R (by decide) (by decide) (by decide) (by decide)
  exact ret_i (ty := .int) hx hb hr hlocks (rfl) hP hD hS (Nat.le_of_ble_eq_true rfl) (Nat.le_of_ble_eq_true rfl) (⟨rfl, rfl, hb10, (div_b ex9 hz1.1 hrn8)⟩) dX2_phaseAt_6

abbrev rm_X2_turnAt_co : Room := { frames := 1, cells := 0, slots := 0, locals := 20 }
abbrev po_X2_turnAt_co (g : GG) (ad : Nat → Nat) (th : Nat → Int) (L : List Nat) (f : HP) (z1 : Int32) : Int32 → (List Nat × HP) → Prop := fun r u => u.1 = L ∧ u.2 = f ∧ In r 0 2
set_option maxHeartbeats 4000000 in
set_option maxRecDepth 100000 in
theorem s_X2_turnAt_co (l : Launch) (g : GG) (ad : Nat → Nat) (th : Nat → Int) (L : List Nat) (f : HP) (sz : Nat) (z1 : Int32) (hst : ST ad L) (hT : TI g ad th f) (hz1 : In z1 0 18) : MtI l g yX2_turnAt cX2_turnAt 2 (some .int) rm_X2_turnAt_co [.ref (ad 6), .int z1] L f sz (po_X2_turnAt_co g ad th L f z1) := by
  refine MtI.of (by decide +kernel) (Nat.le_of_ble_eq_true rfl) ?_
  intro p e s m below meth c A hEn hP hD hS ls hl
  obtain ⟨hx, hb, hr, hml, hown, hlocks, hts, hG, hA, hE, hnm⟩ := hEn
  have hown : s.vm.findClass "RulerWord$Council" = some m.cls := hown
  have hl : lv_has ls 2 [(0, .ref (ad 6)), (1, .int z1)] := hl
  refine lv_iload_n hx hb dX2_turnAt_0 rfl (lv_at hl 1 rfl) ?_
  refine lv_aload_n hx hb dX2_turnAt_1 rfl (lv_at hl 0 rfl) ?_
  obtain ⟨v0_1, v1_1, v2_1, v3_1, v4_1, v5_1, v6_1, v7_1, hf2, hv0_1, hg0_1, hv1_1, hg1_1, hv2_1, hv3_1, hv5_1, hv6_1, hrel0_1⟩ := hT.1 6 (by decide)
  refine call_i (run_V (rm := rm_X2_rounds_co) hx hb hml hown hts (s_X2_rounds_co l g ad th _ _ _  hst hT ) cV_X2_rounds wg_738 ⟨Nat.le_of_ble_eq_true rfl, Nat.le_of_ble_eq_true rfl⟩ hG hE hA hP hD hS (hst.1 6 (by decide)) hf2 rfl rfl hl.1 (As := []) (rest := [.int z1]) rfl (Nat.le_of_ble_eq_true rfl) dX2_turnAt_2 ⟨Nat.le_of_ble_eq_true rfl, Nat.le_of_ble_eq_true rfl⟩) hA hD hS (fun r3 L4 f5 H locs hp6 hP hD hS => ?_)
  obtain ⟨eL7L, eL7T, eL7R, eL7X0⟩ := hp6
  have eL7L : L4 = L := eL7L
  have eL7T : f5 = f := eL7T
  rw [eL7L, eL7T] at hP hD
  have eL7R : In r3 2 3 := eL7R
  have hrn8 : r3.toInt = rnd (th 2) := eL7X0
  refine lv_irem hx hb dX2_turnAt_5 (In.ne0 eL7R (by decide)) ?_
  refine lv_topi (fun x9 ex9 => ?_)
  have hb10 : In x9 0 2 := ex9 ▸ In.rem hz1 eL7R (by decide) (by decide) (by decide)
  exact ret_i (ty := .int) hx hb hr hlocks (rfl) hP hD hS (Nat.le_of_ble_eq_true rfl) (Nat.le_of_ble_eq_true rfl) (⟨rfl, rfl, hb10⟩) dX2_turnAt_6

abbrev rm_X2_ruler_co : Room := { frames := 0, cells := 0, slots := 0, locals := 0 }
abbrev po_X2_ruler_co (g : GG) (ad : Nat → Nat) (th : Nat → Int) (L : List Nat) (f : HP) (z1 : Int32) : Int32 → (List Nat × HP) → Prop := fun r u => u.1 = L ∧ u.2 = f ∧ In r 0 8
set_option maxHeartbeats 4000000 in
set_option maxRecDepth 100000 in
theorem s_X2_ruler_co (l : Launch) (g : GG) (ad : Nat → Nat) (th : Nat → Int) (L : List Nat) (f : HP) (sz : Nat) (z1 : Int32) (hst : ST ad L) (hT : TI g ad th f) (hz1 : In z1 0 6) : MtI l g yX2_ruler cX2_ruler 2 (some .int) rm_X2_ruler_co [.ref (ad 6), .int z1] L f sz (po_X2_ruler_co g ad th L f z1) := by
  refine MtI.of (by decide +kernel) (Nat.le_of_ble_eq_true rfl) ?_
  intro p e s m below meth c A hEn hP hD hS ls hl
  obtain ⟨hx, hb, hr, hml, hown, hlocks, hts, hG, hA, hE, hnm⟩ := hEn
  have hown : s.vm.findClass "RulerWord$Council" = some m.cls := hown
  have hl : lv_has ls 2 [(0, .ref (ad 6)), (1, .int z1)] := hl
  refine lv_aload_n hx hb dX2_ruler_0 rfl (lv_at hl 0 rfl) ?_
  obtain ⟨v0_1, v1_1, v2_1, v3_1, v4_1, v5_1, v6_1, v7_1, hf2, hv0_1, hg0_1, hv1_1, hg1_1, hv2_1, hv3_1, hv5_1, hv6_1, hrel0_1⟩ := hT.1 6 (by decide)
  refine pl_get (v := .int v1_1) hx hb hts (fun w h => mT (inX2 w h)) hown hG.1 hP (hst.1 6 (by decide)) hf2 rfl 1 (by decide) (hts _ (mT wg_228)) (fun _ h => h) rfl dX2_ruler_1 ?_
  refine lv_if_le (tgt := 16) hx hb dX2_ruler_4 (by decide) (fun c3 => ?_) (fun c3 => ?_)
  ·
    have cc4 : v1_1.toInt ≤ (0 : Int32).toInt := i32_le.mp c3
    have hb5 : In v1_1 0 0 := In.le1 hv1_1 (⟨by decide, by decide⟩ : In 0 0 0) cc4 (by omega) (by omega)
    refine lv_iconst (v := 0) hx hb dX2_ruler_16 (by decide) ?_
    exact ret_i (ty := .int) hx hb hr hlocks (rfl) hP hD hS (Nat.le_of_ble_eq_true rfl) (Nat.le_of_ble_eq_true rfl) (⟨rfl, rfl, (⟨by decide, by decide⟩ : In 0 0 8)⟩) dX2_ruler_17
  ·
    have cc6 : (0 : Int32).toInt < v1_1.toInt := i32_nle c3
    have hb7 : In v1_1 1 9 := In.gt1 hv1_1 (⟨by decide, by decide⟩ : In 0 0 0) cc6 (by omega) (by omega)
    refine lv_iload_n hx hb dX2_ruler_7 rfl (lv_at hl 1 rfl) ?_
    refine lv_aload_n hx hb dX2_ruler_8 rfl (lv_at hl 0 rfl) ?_
    refine pl_get (v := .int v1_1) hx hb hts (fun w h => mT (inX2 w h)) hown hG.1 hP (hst.1 6 (by decide)) hf2 rfl 1 (by decide) (hts _ (mT wg_228)) (fun _ h => h) rfl dX2_ruler_9 ?_
    refine lv_irem hx hb dX2_ruler_12 (In.ne0 hb7 (by decide)) ?_
    refine lv_topi (fun x8 ex8 => ?_)
    have hb9 : In x8 0 6 := ex8 ▸ In.rem hz1 hb7 (by decide) (by decide) (by decide)
    refine lv_goto (tgt := 17) hx hb dX2_ruler_13 (by decide) ?_
    exact ret_i (ty := .int) hx hb hr hlocks (rfl) hP hD hS (Nat.le_of_ble_eq_true rfl) (Nat.le_of_ble_eq_true rfl) (⟨rfl, rfl, (In.mono hb9 (by decide) (by decide))⟩) dX2_ruler_17

abbrev rm_X2_everybody_co : Room := { frames := 0, cells := 0, slots := 0, locals := 0 }
abbrev po_X2_everybody_co (g : GG) (ad : Nat → Nat) (th : Nat → Int) (L : List Nat) (f : HP)  : Int32 → (List Nat × HP) → Prop := fun r u => u.1 = L ∧ u.2 = f ∧ In r 0 511 ∧ r.toInt = 2 ^ (th 3).toNat - 1
set_option maxHeartbeats 4000000 in
set_option maxRecDepth 100000 in
theorem s_X2_everybody_co (l : Launch) (g : GG) (ad : Nat → Nat) (th : Nat → Int) (L : List Nat) (f : HP) (sz : Nat)  (hst : ST ad L) (hT : TI g ad th f)  : MtI l g yX2_everybody cX2_everybody 1 (some .int) rm_X2_everybody_co [.ref (ad 6)] L f sz (po_X2_everybody_co g ad th L f ) := by
  refine MtI.of (by decide +kernel) (Nat.le_of_ble_eq_true rfl) ?_
  intro p e s m below meth c A hEn hP hD hS ls hl
  obtain ⟨hx, hb, hr, hml, hown, hlocks, hts, hG, hA, hE, hnm⟩ := hEn
  have hown : s.vm.findClass "RulerWord$Council" = some m.cls := hown
  have hl : lv_has ls 1 [(0, .ref (ad 6))] := hl
  refine lv_iconst (v := 1) hx hb dX2_everybody_0 (by decide) ?_
  refine lv_aload_n hx hb dX2_everybody_1 rfl (lv_at hl 0 rfl) ?_
  obtain ⟨v0_1, v1_1, v2_1, v3_1, v4_1, v5_1, v6_1, v7_1, hf2, hv0_1, hg0_1, hv1_1, hg1_1, hv2_1, hv3_1, hv5_1, hv6_1, hrel0_1⟩ := hT.1 6 (by decide)
  refine pl_get (v := .int v1_1) hx hb hts (fun w h => mT (inX2 w h)) hown hG.1 hP (hst.1 6 (by decide)) hf2 rfl 1 (by decide) (hts _ (mT wg_228)) (fun _ h => h) rfl dX2_everybody_2 ?_
  refine lv_ishl hx hb dX2_everybody_5 ?_
  refine lv_topi (fun x3 ex3 => ?_)
  have hb4 : In x3 1 512 := ex3 ▸ In.shl (⟨by decide, by decide⟩ : In 1 1 1) hv1_1 (by decide) (by decide) (by decide) (by decide) (by decide) (by decide)
  refine lv_iconst (v := 1) hx hb dX2_everybody_6 (by decide) ?_
  refine lv_isub hx hb dX2_everybody_7 ?_
  refine lv_topi (fun x5 ex5 => ?_)
  have hb6 : In x5 0 511 := ex5 ▸ In.sub hb4 (⟨by decide, by decide⟩ : In 1 1 1) (by decide) (by decide) (by decide) (by decide)
  have et7 : x5.toInt = x3.toInt + (-1) := In.sube ex5 hb4 (k := 1) (by decide) (by decide) (by decide)
  exact ret_i (ty := .int) hx hb hr hlocks (rfl) hP hD hS (Nat.le_of_ble_eq_true rfl) (Nat.le_of_ble_eq_true rfl) (⟨rfl, rfl, hb6, (by rw [et7, (shl1 ex3 hv1_1 (by decide)).2, hg1_1]; omega)⟩) dX2_everybody_8

abbrev rm_X2_foretold_co : Room := { frames := 0, cells := 0, slots := 0, locals := 0 }
abbrev po_X2_foretold_co (g : GG) (ad : Nat → Nat) (th : Nat → Int) (L : List Nat) (f : HP)  : Int32 → (List Nat × HP) → Prop := fun _ u => u.1 = L ∧ u.2 = f
set_option maxHeartbeats 4000000 in
set_option maxRecDepth 100000 in
theorem s_X2_foretold_co (l : Launch) (g : GG) (ad : Nat → Nat) (th : Nat → Int) (L : List Nat) (f : HP) (sz : Nat)  (hst : ST ad L) (hT : TI g ad th f)  : MtI l g yX2_foretold cX2_foretold 2 (some .int) rm_X2_foretold_co [.ref (ad 6)] L f sz (po_X2_foretold_co g ad th L f ) := by
  refine MtI.of (by decide +kernel) (Nat.le_of_ble_eq_true rfl) ?_
  intro p e s m below meth c A hEn hP hD hS ls hl
  obtain ⟨hx, hb, hr, hml, hown, hlocks, hts, hG, hA, hE, hnm⟩ := hEn
  have hown : s.vm.findClass "RulerWord$Council" = some m.cls := hown
  have hl : lv_has ls 2 [(0, .ref (ad 6))] := hl
  refine lv_aload_n hx hb dX2_foretold_0 rfl (lv_at hl 0 rfl) ?_
  obtain ⟨v0_1, v1_1, v2_1, v3_1, v4_1, v5_1, v6_1, v7_1, hf2, hv0_1, hg0_1, hv1_1, hg1_1, hv2_1, hv3_1, hv5_1, hv6_1, hrel0_1⟩ := hT.1 6 (by decide)
  refine pl_get (v := .int v1_1) hx hb hts (fun w h => mT (inX2 w h)) hown hG.1 hP (hst.1 6 (by decide)) hf2 rfl 1 (by decide) (hts _ (mT wg_228)) (fun _ h => h) rfl dX2_foretold_1 ?_
  refine lv_aload_n hx hb dX2_foretold_4 rfl (lv_at hl 0 rfl) ?_
  refine pl_get (v := .int v1_1) hx hb hts (fun w h => mT (inX2 w h)) hown hG.1 hP (hst.1 6 (by decide)) hf2 rfl 1 (by decide) (hts _ (mT wg_228)) (fun _ h => h) rfl dX2_foretold_5 ?_
  refine lv_imul hx hb dX2_foretold_8 ?_
  refine lv_topi (fun x3 ex3 => ?_)
  have hb4 : In x3 0 81 := ex3 ▸ In.mul hv1_1 hv1_1 (by decide) (by decide) (by decide) (by decide) (by decide)
  refine lv_istore_n (lv' := [(1, .int x3), (0, .ref (ad 6))]) hx hb dX2_foretold_9 rfl hl (by decide) rfl (fun ls hl => ?_)
  refine lv_aload_n hx hb dX2_foretold_10 rfl (lv_at hl 1 rfl) ?_
  refine pl_get (v := .int v0_1) hx hb hts (fun w h => mT (inX2 w h)) hown hG.1 hP (hst.1 6 (by decide)) hf2 rfl 0 (by decide) (hts _ (mT wg_224)) (fun _ h => h) rfl dX2_foretold_11 ?_
  refine lv_if_ne (tgt := 35) hx hb dX2_foretold_14 (by decide) (fun c5 => ?_) (fun c5 => ?_)
  ·
    have cc6 : v0_1.toInt ≠ (0 : Int32).toInt := i32_ne c5
    have hb7 : In v0_1 1 1 := In.ne1 hv0_1 (⟨by decide, by decide⟩ : In 0 0 0) cc6 (by omega) (by omega)
    refine lv_aload_n hx hb dX2_foretold_35 rfl (lv_at hl 1 rfl) ?_
    refine pl_get (v := .int v3_1) hx hb hts (fun w h => mT (inX2 w h)) hown hG.1 hP (hst.1 6 (by decide)) hf2 rfl 3 (by decide) (hts _ (mT wg_234)) (fun _ h => h) rfl dX2_foretold_36 ?_
    refine lv_iload_n hx hb dX2_foretold_39 rfl (lv_at hl 0 rfl) ?_
    refine lv_iconst (v := 1) hx hb dX2_foretold_40 (by decide) ?_
    refine lv_isub hx hb dX2_foretold_41 ?_
    refine lv_topi (fun x8 ex8 => ?_)
    have hb9 : In x8 (-1) 80 := ex8 ▸ In.sub hb4 (⟨by decide, by decide⟩ : In 1 1 1) (by decide) (by decide) (by decide) (by decide)
    have et10 : x8.toInt = x3.toInt + (-1) := In.sube ex8 hb4 (k := 1) (by decide) (by decide) (by decide)
    refine lv_imul hx hb dX2_foretold_42 ?_
    refine lv_topi (fun x11 ex11 => ?_)
    exact ret_i (ty := .int) hx hb hr hlocks (rfl) hP hD hS (Nat.le_of_ble_eq_true rfl) (Nat.le_of_ble_eq_true rfl) (⟨rfl, rfl⟩) dX2_foretold_43
  ·
    have cc12 : v0_1.toInt = (0 : Int32).toInt := congrArg Int32.toInt c5
    have hb13 : In v0_1 0 0 := In.eq1 hv0_1 (⟨by decide, by decide⟩ : In 0 0 0) cc12 (by omega) (by omega)
    refine lv_aload_n hx hb dX2_foretold_17 rfl (lv_at hl 1 rfl) ?_
    refine pl_get (v := .int v3_1) hx hb hts (fun w h => mT (inX2 w h)) hown hG.1 hP (hst.1 6 (by decide)) hf2 rfl 3 (by decide) (hts _ (mT wg_234)) (fun _ h => h) rfl dX2_foretold_18 ?_
    refine lv_iconst (v := 2) hx hb dX2_foretold_21 (by decide) ?_
    refine lv_iload_n hx hb dX2_foretold_22 rfl (lv_at hl 0 rfl) ?_
    refine lv_imul hx hb dX2_foretold_23 ?_
    refine lv_topi (fun x14 ex14 => ?_)
    have hb15 : In x14 0 162 := ex14 ▸ In.mul (⟨by decide, by decide⟩ : In 2 2 2) hb4 (by decide) (by decide) (by decide) (by decide) (by decide)
    refine lv_aload_n hx hb dX2_foretold_24 rfl (lv_at hl 1 rfl) ?_
    refine pl_get (v := .int v1_1) hx hb hts (fun w h => mT (inX2 w h)) hown hG.1 hP (hst.1 6 (by decide)) hf2 rfl 1 (by decide) (hts _ (mT wg_228)) (fun _ h => h) rfl dX2_foretold_25 ?_
    refine lv_isub hx hb dX2_foretold_28 ?_
    refine lv_topi (fun x16 ex16 => ?_)
    have hb17 : In x16 (-9) 162 := ex16 ▸ In.sub hb15 hv1_1 (by decide) (by decide) (by decide) (by decide)
    have et18 : x16.toInt = x14.toInt - v1_1.toInt := In.sub2e ex16 hb15 hv1_1 (by decide) (by decide)
    refine lv_iconst (v := 1) hx hb dX2_foretold_29 (by decide) ?_
    refine lv_isub hx hb dX2_foretold_30 ?_
    refine lv_topi (fun x19 ex19 => ?_)
    have hb20 : In x19 (-10) 161 := ex19 ▸ In.sub hb17 (⟨by decide, by decide⟩ : In 1 1 1) (by decide) (by decide) (by decide) (by decide)
    have et21 : x19.toInt = x16.toInt + (-1) := In.sube ex19 hb17 (k := 1) (by decide) (by decide) (by decide)
    refine lv_imul hx hb dX2_foretold_31 ?_
    refine lv_topi (fun x22 ex22 => ?_)
    refine lv_goto (tgt := 43) hx hb dX2_foretold_32 (by decide) ?_
    exact ret_i (ty := .int) hx hb hr hlocks (rfl) hP hD hS (Nat.le_of_ble_eq_true rfl) (Nat.le_of_ble_eq_true rfl) (⟨rfl, rfl⟩) dX2_foretold_43

abbrev rm_X2_freeLetters_co : Room := { frames := 1, cells := 0, slots := 0, locals := 21 }
abbrev po_X2_freeLetters_co (g : GG) (ad : Nat → Nat) (th : Nat → Int) (L : List Nat) (f : HP) (z1 : Int32) (z2 : Int32) : Int32 → (List Nat × HP) → Prop := fun _ u => u.1 = L ∧ u.2 = f
set_option maxHeartbeats 4000000 in
set_option maxRecDepth 100000 in
theorem s_X2_freeLetters_co (l : Launch) (g : GG) (ad : Nat → Nat) (th : Nat → Int) (L : List Nat) (f : HP) (sz : Nat) (z1 : Int32) (z2 : Int32) (hst : ST ad L) (hT : TI g ad th f) (hz2 : In z2 (-1) 6) : MtI l g yX2_freeLetters cX2_freeLetters 7 (some .int) rm_X2_freeLetters_co [.ref (ad 6), .int z1, .int z2] L f sz (po_X2_freeLetters_co g ad th L f z1 z2) := by
  refine MtI.of (by decide +kernel) (Nat.le_of_ble_eq_true rfl) ?_
  intro p e s m below meth c A hEn hP hD hS ls hl
  obtain ⟨hx, hb, hr, hml, hown, hlocks, hts, hG, hA, hE, hnm⟩ := hEn
  have hown : s.vm.findClass "RulerWord$Council" = some m.cls := hown
  have hl : lv_has ls 7 [(0, .ref (ad 6)), (1, .int z1), (2, .int z2)] := hl
  refine lv_iload_n hx hb dX2_freeLetters_0 rfl (lv_at hl 1 rfl) ?_
  refine call_i (run_S (rm := rm_J6_bitCount_0f7a4) hx hb hml hown hts (s_J6_bitCount_0f7a4 l g ad th _ _ _ z1 hst hT ) cS_J6_bitCount_0f7a4 wg_1026 ⟨Nat.le_of_ble_eq_true rfl, Nat.le_of_ble_eq_true rfl⟩ hG hE hA hP hD hS rfl hl.1 (As := [.int z1]) (rest := []) rfl (Nat.le_of_ble_eq_true rfl) dX2_freeLetters_1 ⟨Nat.le_of_ble_eq_true rfl, Nat.le_of_ble_eq_true rfl⟩) hA hD hS (fun r1 L2 f3 H locs hp4 hP hD hS => ?_)
  obtain ⟨eL5L, eL5T, eL5R, eL5X0⟩ := hp4
  have eL5L : L2 = L := eL5L
  have eL5T : f3 = f := eL5T
  rw [eL5L, eL5T] at hP hD
  have eL5R : In r1 0 63 := eL5R
  refine lv_istore_n (lv' := [(3, .int r1), (0, .ref (ad 6)), (1, .int z1), (2, .int z2)]) hx hb dX2_freeLetters_4 rfl hl (by decide) rfl (fun ls hl => ?_)
  refine lv_aload_n hx hb dX2_freeLetters_5 rfl (lv_at hl 1 rfl) ?_
  obtain ⟨v0_6, v1_6, v2_6, v3_6, v4_6, v5_6, v6_6, v7_6, hf7, hv0_6, hg0_6, hv1_6, hg1_6, hv2_6, hv3_6, hv5_6, hv6_6, hrel0_6⟩ := hT.1 6 (by decide)
  refine pl_get (v := .int v1_6) hx hb hts (fun w h => mT (inX2 w h)) hown hG.1 hP (hst.1 6 (by decide)) hf7 rfl 1 (by decide) (hts _ (mT wg_228)) (fun _ h => h) rfl dX2_freeLetters_6 ?_
  refine lv_iload_n hx hb dX2_freeLetters_9 rfl (lv_at hl 0 rfl) ?_
  refine lv_isub hx hb dX2_freeLetters_10 ?_
  refine lv_topi (fun x8 ex8 => ?_)
  have hb9 : In x8 (-63) 9 := ex8 ▸ In.sub hv1_6 eL5R (by decide) (by decide) (by decide) (by decide)
  have et10 : x8.toInt = v1_6.toInt - r1.toInt := In.sub2e ex8 hv1_6 eL5R (by decide) (by decide)
  refine lv_istore (lv' := [(4, .int x8), (3, .int r1), (0, .ref (ad 6)), (1, .int z1), (2, .int z2)]) hx hb dX2_freeLetters_11 hl (by decide) rfl (fun ls hl => ?_)
  refine lv_iload_n hx hb dX2_freeLetters_13 rfl (lv_at hl 4 rfl) ?_
  refine lv_aload_n hx hb dX2_freeLetters_14 rfl (lv_at hl 2 rfl) ?_
  refine call_i (run_V (rm := rm_X2_rounds_co) hx hb hml hown hts (s_X2_rounds_co l g ad th _ _ _  hst hT ) cV_X2_rounds wg_738 ⟨Nat.le_of_ble_eq_true rfl, Nat.le_of_ble_eq_true rfl⟩ hG hE hA hP hD hS (hst.1 6 (by decide)) hf7 rfl rfl hl.1 (As := []) (rest := [.int z2]) rfl (Nat.le_of_ble_eq_true rfl) dX2_freeLetters_15 ⟨Nat.le_of_ble_eq_true rfl, Nat.le_of_ble_eq_true rfl⟩) hA hD hS (fun r11 L12 f13 H locs hp14 hP hD hS => ?_)
  obtain ⟨eL15L, eL15T, eL15R, eL15X0⟩ := hp14
  have eL15L : L12 = L := eL15L
  have eL15T : f13 = f := eL15T
  rw [eL15L, eL15T] at hP hD
  have eL15R : In r11 2 3 := eL15R
  have hrn16 : r11.toInt = rnd (th 2) := eL15X0
  refine lv_iconst (v := 1) hx hb dX2_freeLetters_18 (by decide) ?_
  refine lv_isub hx hb dX2_freeLetters_19 ?_
  refine lv_topi (fun x17 ex17 => ?_)
  have hb18 : In x17 1 2 := ex17 ▸ In.sub eL15R (⟨by decide, by decide⟩ : In 1 1 1) (by decide) (by decide) (by decide) (by decide)
  have et19 : x17.toInt = r11.toInt + (-1) := In.sube ex17 eL15R (k := 1) (by decide) (by decide) (by decide)
  refine lv_imul hx hb dX2_freeLetters_20 ?_
  refine lv_topi (fun x20 ex20 => ?_)
  refine lv_iload_n hx hb dX2_freeLetters_21 rfl (lv_at hl 1 rfl) ?_
  refine lv_imul hx hb dX2_freeLetters_22 ?_
  refine lv_topi (fun x21 ex21 => ?_)
  refine lv_iload hx hb dX2_freeLetters_23 (lv_at hl 0 rfl) ?_
  refine lv_imul hx hb dX2_freeLetters_25 ?_
  refine lv_topi (fun x22 ex22 => ?_)
  refine lv_istore (lv' := [(5, .int x22), (4, .int x8), (3, .int r1), (0, .ref (ad 6)), (1, .int z1), (2, .int z2)]) hx hb dX2_freeLetters_26 hl (by decide) rfl (fun ls hl => ?_)
  refine lv_iconst (v := 0) hx hb dX2_freeLetters_28 (by decide) ?_
  refine lv_istore (lv' := [(6, .int 0), (5, .int x22), (4, .int x8), (3, .int r1), (0, .ref (ad 6)), (1, .int z1), (2, .int z2)]) hx hb dX2_freeLetters_29 hl (by decide) rfl (fun ls hl => ?_)
  have hJ31 : ∀ (k31 : Nat) (y31_l5 : Int32) (y31_l6 : Int32) (H : Heap) (locs : List Loc) (ls : Array Slot), In y31_l5 (-2147483648) 2147483647 → In y31_l6 0 6 → va_P g.1 vwCl (va_pl L f) H → va_D A (va_pl L f) → va_S A s.heap H locs → lv_has ls 7 [(0, .ref (ad 6)), (1, .int z1), (2, .int z2), (3, .int r1), (4, .int x8), (5, .int y31_l5), (6, .int y31_l6)] → 6 - y31_l6.toInt < ((k31 : Nat) : Int) → W p l e rm_X2_freeLetters_co s m [.ref (ad 6), .int z1, .int z2].toArray below meth c H locs 0 0 (MQ below (va_Qi (po_X2_freeLetters_co g ad th L f z1 z2) (PstB g A) A) [.ref (ad 6), .int z1, .int z2].toArray s rm_X2_freeLetters_co.cells rm_X2_freeLetters_co.slots A) (F0 m 31 ls []) := by
    intro k31
    induction k31 with
    | zero =>
      intro y31_l5 y31_l6 H locs ls hy31_l5 hy31_l6 hP hD hS hl hmz31
      exact ms0 hy31_l6 hmz31
    | succ k31 ih31 =>
      intro y31_l5 y31_l6 H locs ls hy31_l5 hy31_l6 hP hD hS hl hmz31
      refine lv_iload hx hb dX2_freeLetters_31 (lv_at hl 6 rfl) ?_
      refine lv_iload_n hx hb dX2_freeLetters_33 rfl (lv_at hl 2 rfl) ?_
      refine lv_icmp_ge (tgt := 68) hx hb dX2_freeLetters_34 (by decide) (fun c23 => ?_) (fun c23 => ?_)
      ·
        refine lv_iload hx hb dX2_freeLetters_68 (lv_at hl 5 rfl) ?_
        exact ret_i (ty := .int) hx hb hr hlocks (rfl) hP hD hS (Nat.le_of_ble_eq_true rfl) (Nat.le_of_ble_eq_true rfl) (⟨rfl, rfl⟩) dX2_freeLetters_70
      ·
        have cc24 : y31_l6.toInt < z2.toInt := i32_nle c23
        have hb25 : In y31_l6 0 5 := In.lt1 hy31_l6 hz2 cc24 (by omega) (by omega)
        have hb26 : In z2 1 6 := In.lt2 hy31_l6 hz2 cc24 (by omega) (by omega)
        refine lv_iload hx hb dX2_freeLetters_37 (lv_at hl 5 rfl) ?_
        refine lv_iload_n hx hb dX2_freeLetters_39 rfl (lv_at hl 1 rfl) ?_
        refine lv_aload_n hx hb dX2_freeLetters_40 rfl (lv_at hl 0 rfl) ?_
        refine lv_iload hx hb dX2_freeLetters_41 (lv_at hl 6 rfl) ?_
        refine call_i (run_V (rm := rm_X2_ruler_co) hx hb hml hown hts (s_X2_ruler_co l g ad th _ _ _ y31_l6 hst hT (In.mono hb25 (by decide) (by decide))) cV_X2_ruler wg_1027 ⟨Nat.le_of_ble_eq_true rfl, Nat.le_of_ble_eq_true rfl⟩ hG hE hA hP hD hS (hst.1 6 (by decide)) hf7 rfl rfl hl.1 (As := [.int y31_l6]) (rest := [.int z1, .int y31_l5]) rfl (Nat.le_of_ble_eq_true rfl) dX2_freeLetters_43 ⟨Nat.le_of_ble_eq_true rfl, Nat.le_of_ble_eq_true rfl⟩) hA hD hS (fun r27 L28 f29 H locs hp30 hP hD hS => ?_)
        obtain ⟨eL31L, eL31T, eL31R⟩ := hp30
        have eL31L : L28 = L := eL31L
        have eL31T : f29 = f := eL31T
        rw [eL31L, eL31T] at hP hD
        have eL31R : In r27 0 8 := eL31R
        refine call_i (run_SN (rm := rm_X10_bit) hx hb hml hown hts (s_X10_bit l g ad th _ _ _ z1 r27 hst hT ) cS_X10_bit wn_644 ⟨Nat.le_of_ble_eq_true rfl, Nat.le_of_ble_eq_true rfl⟩ hG hE hA hP hD hS rfl hl.1 (As := [.int z1, .int r27]) (rest := [.int y31_l5]) rfl (Nat.le_of_ble_eq_true rfl) dX2_freeLetters_46 ⟨Nat.le_of_ble_eq_true rfl, Nat.le_of_ble_eq_true rfl⟩) hA hD hS (fun r32 L33 f34 H locs hp35 hP hD hS => ?_)
        obtain ⟨eL36L, eL36T, eL36R, eL36X0⟩ := hp35
        have eL36L : L33 = L := eL36L
        have eL36T : f34 = f := eL36T
        rw [eL36L, eL36T] at hP hD
        have eL36R : In r32 0 1 := eL36R
        refine lv_iconst (v := 1) hx hb dX2_freeLetters_49 (by decide) ?_
        have hJ59 : ∀ (y59_s0 : Int32) (H : Heap) (locs : List Loc) (ls : Array Slot), In y59_s0 (-63) 9 → va_P g.1 vwCl (va_pl L f) H → va_D A (va_pl L f) → va_S A s.heap H locs → lv_has ls 7 [(0, .ref (ad 6)), (1, .int z1), (2, .int z2), (3, .int r1), (4, .int x8), (5, .int y31_l5), (6, .int y31_l6)] → W p l e rm_X2_freeLetters_co s m [.ref (ad 6), .int z1, .int z2].toArray below meth c H locs 0 0 (MQ below (va_Qi (po_X2_freeLetters_co g ad th L f z1 z2) (PstB g A) A) [.ref (ad 6), .int z1, .int z2].toArray s rm_X2_freeLetters_co.cells rm_X2_freeLetters_co.slots A) (F0 m 59 ls [.int y59_s0, .int y31_l5]) := by
          intro y59_s0 H locs ls hy59_s0 hP hD hS hl
          refine lv_iadd hx hb dX2_freeLetters_59 ?_
          refine lv_topi (fun x37 ex37 => ?_)
          refine lv_istore (lv' := [(5, .int x37), (0, .ref (ad 6)), (1, .int z1), (2, .int z2), (3, .int r1), (4, .int x8), (6, .int y31_l6)]) hx hb dX2_freeLetters_60 hl (by decide) rfl (fun ls hl => ?_)
          obtain ⟨x38, ex38⟩ : ∃ y : Int32, y = y31_l6 + 1 := ⟨_, rfl⟩
          have hb39 : In x38 1 6 := ex38 ▸ In.add hb25 (⟨by decide, by decide⟩ : In 1 1 1) (by decide) (by decide) (by decide) (by decide)
          have et40 : x38.toInt = y31_l6.toInt + 1 := In.adde ex38 hb25 (k := 1) (by decide) (by decide) (by decide)
          refine lv_iinc (v := x38) (lv' := [(6, .int x38), (5, .int x37), (0, .ref (ad 6)), (1, .int z1), (2, .int z2), (3, .int r1), (4, .int x8)]) hx hb dX2_freeLetters_62 hl (k := 6) rfl (by rw [ex38]; rfl) (by decide) rfl (fun ls hl => ?_)
          refine lv_goto (tgt := 31) hx hb dX2_freeLetters_65 (by decide) ?_
          exact ih31 x37 x38 _ _ _ (In.full x37) (In.mono hb39 (by decide) (by decide)) hP hD hS (lv_sub hl [2, 3, 4, 5, 6, 1, 0] rfl) (msu et40 (by decide) hmz31)
        refine lv_icmp_ne (tgt := 58) hx hb dX2_freeLetters_50 (by decide) (fun c41 => ?_) (fun c41 => ?_)
        ·
          have cc42 : r32.toInt ≠ (1 : Int32).toInt := i32_ne c41
          have hb43 : In r32 0 0 := In.ne1 eL36R (⟨by decide, by decide⟩ : In 1 1 1) cc42 (by omega) (by omega)
          refine lv_iconst (v := 0) hx hb dX2_freeLetters_58 (by decide) ?_
          exact hJ59 0 _ _ _ (⟨by decide, by decide⟩ : In 0 (-63) 9) hP hD hS (lv_sub hl [0, 1, 2, 3, 4, 5, 6] rfl)
        ·
          have cc44 : r32.toInt = (1 : Int32).toInt := congrArg Int32.toInt c41
          have hb45 : In r32 1 1 := In.eq1 eL36R (⟨by decide, by decide⟩ : In 1 1 1) cc44 (by omega) (by omega)
          refine lv_iload hx hb dX2_freeLetters_53 (lv_at hl 4 rfl) ?_
          refine lv_goto (tgt := 59) hx hb dX2_freeLetters_55 (by decide) ?_
          exact hJ59 x8 _ _ _ hb9 hP hD hS (lv_sub hl [0, 1, 2, 3, 4, 5, 6] rfl)
  exact hJ31 ((6 - (0 : Int32).toInt).toNat + 1) x22 0 _ _ _ (In.full x22) (⟨by decide, by decide⟩ : In 0 0 6) hP hD hS (lv_sub hl [4, 5, 6, 3, 2, 1, 0] rfl) (msI _)

abbrev rm_X2_offer_co : Room := { frames := 0, cells := 0, slots := 0, locals := 0 }
abbrev po_X2_offer_co (g : GG) (ad : Nat → Nat) (th : Nat → Int) (L : List Nat) (f : HP) (z1 : Int32) (z2 : Int32) : Int32 → (List Nat × HP) → Prop := fun r u => u.1 = L ∧ u.2 = f ∧ In r 0 2
set_option maxHeartbeats 4000000 in
set_option maxRecDepth 100000 in
theorem s_X2_offer_co (l : Launch) (g : GG) (ad : Nat → Nat) (th : Nat → Int) (L : List Nat) (f : HP) (sz : Nat) (z1 : Int32) (z2 : Int32) (hst : ST ad L) (hT : TI g ad th f)  : MtI l g yX2_offer cX2_offer 4 (some .int) rm_X2_offer_co [.ref (ad 6), .int z1, .int z2] L f sz (po_X2_offer_co g ad th L f z1 z2) := by
  refine MtI.of (by decide +kernel) (Nat.le_of_ble_eq_true rfl) ?_
  intro p e s m below meth c A hEn hP hD hS ls hl
  obtain ⟨hx, hb, hr, hml, hown, hlocks, hts, hG, hA, hE, hnm⟩ := hEn
  have hown : s.vm.findClass "RulerWord$Council" = some m.cls := hown
  have hl : lv_has ls 4 [(0, .ref (ad 6)), (1, .int z1), (2, .int z2)] := hl
  refine lv_aload_n hx hb dX2_offer_0 rfl (lv_at hl 0 rfl) ?_
  obtain ⟨v0_1, v1_1, v2_1, v3_1, v4_1, v5_1, v6_1, v7_1, hf2, hv0_1, hg0_1, hv1_1, hg1_1, hv2_1, hv3_1, hv5_1, hv6_1, hrel0_1⟩ := hT.1 6 (by decide)
  refine pl_get (v := .int v1_1) hx hb hts (fun w h => mT (inX2 w h)) hown hG.1 hP (hst.1 6 (by decide)) hf2 rfl 1 (by decide) (hts _ (mT wg_228)) (fun _ h => h) rfl dX2_offer_1 ?_
  refine lv_aload_n hx hb dX2_offer_4 rfl (lv_at hl 0 rfl) ?_
  refine pl_get (v := .int v2_1) hx hb hts (fun w h => mT (inX2 w h)) hown hG.1 hP (hst.1 6 (by decide)) hf2 rfl 2 (by decide) (hts _ (mT wg_232)) (fun _ h => h) rfl dX2_offer_5 ?_
  refine lv_isub hx hb dX2_offer_8 ?_
  refine lv_topi (fun x3 ex3 => ?_)
  have hb4 : In x3 (-4) 10 := ex3 ▸ In.sub hv1_1 hv2_1 (by decide) (by decide) (by decide) (by decide)
  have et5 : x3.toInt = v1_1.toInt - v2_1.toInt := In.sub2e ex3 hv1_1 hv2_1 (by decide) (by decide)
  refine lv_istore_n (lv' := [(3, .int x3), (0, .ref (ad 6)), (1, .int z1), (2, .int z2)]) hx hb dX2_offer_9 rfl hl (by decide) rfl (fun ls hl => ?_)
  refine lv_iload_n hx hb dX2_offer_10 rfl (lv_at hl 2 rfl) ?_
  refine lv_iload_n hx hb dX2_offer_11 rfl (lv_at hl 0 rfl) ?_
  refine lv_icmp_lt (tgt := 17) hx hb dX2_offer_12 (by decide) (fun c6 => ?_) (fun c6 => ?_)
  ·
    have cc7 : z1.toInt < x3.toInt := i32_lt.mp c6
    have hb8 : In z1 (-2147483648) 9 := In.lt1 (In.full z1) hb4 cc7 (by omega) (by omega)
    refine lv_iload_n hx hb dX2_offer_17 rfl (lv_at hl 3 rfl) ?_
    refine lv_iload_n hx hb dX2_offer_18 rfl (lv_at hl 0 rfl) ?_
    refine lv_icmp_lt (tgt := 26) hx hb dX2_offer_19 (by decide) (fun c9 => ?_) (fun c9 => ?_)
    ·
      have cc10 : z2.toInt < x3.toInt := i32_lt.mp c9
      have hb11 : In z2 (-2147483648) 9 := In.lt1 (In.full z2) hb4 cc10 (by omega) (by omega)
      refine lv_iconst (v := 2) hx hb dX2_offer_26 (by decide) ?_
      exact ret_i (ty := .int) hx hb hr hlocks (rfl) hP hD hS (Nat.le_of_ble_eq_true rfl) (Nat.le_of_ble_eq_true rfl) (⟨rfl, rfl, (⟨by decide, by decide⟩ : In 2 0 2)⟩) dX2_offer_27
    ·
      have cc12 : x3.toInt ≤ z2.toInt := i32_nlt c9
      have hb13 : In z2 (-4) 2147483647 := In.ge1 (In.full z2) hb4 cc12 (by omega) (by omega)
      refine lv_iconst (v := 1) hx hb dX2_offer_22 (by decide) ?_
      refine lv_goto (tgt := 27) hx hb dX2_offer_23 (by decide) ?_
      exact ret_i (ty := .int) hx hb hr hlocks (rfl) hP hD hS (Nat.le_of_ble_eq_true rfl) (Nat.le_of_ble_eq_true rfl) (⟨rfl, rfl, (⟨by decide, by decide⟩ : In 1 0 2)⟩) dX2_offer_27
  ·
    have cc14 : x3.toInt ≤ z1.toInt := i32_nlt c6
    have hb15 : In z1 (-4) 2147483647 := In.ge1 (In.full z1) hb4 cc14 (by omega) (by omega)
    refine lv_iconst (v := 0) hx hb dX2_offer_15 (by decide) ?_
    exact ret_i (ty := .int) hx hb hr hlocks (rfl) hP hD hS (Nat.le_of_ble_eq_true rfl) (Nat.le_of_ble_eq_true rfl) (⟨rfl, rfl, (⟨by decide, by decide⟩ : In 0 0 2)⟩) dX2_offer_16

abbrev rm_X2_view_co : Room := { frames := 1, cells := 0, slots := 0, locals := 13 }
abbrev po_X2_view_co (g : GG) (ad : Nat → Nat) (th : Nat → Int) (L : List Nat) (f : HP) (z1 : Int32) (z2 : Int32) : Int32 → (List Nat × HP) → Prop := fun r u => u.1 = L ∧ u.2 = f ∧ In r 0 6
set_option maxHeartbeats 4000000 in
set_option maxRecDepth 100000 in
theorem s_X2_view_co (l : Launch) (g : GG) (ad : Nat → Nat) (th : Nat → Int) (L : List Nat) (f : HP) (sz : Nat) (z1 : Int32) (z2 : Int32) (hst : ST ad L) (hT : TI g ad th f)  : MtI l g yX2_view cX2_view 6 (some .int) rm_X2_view_co [.ref (ad 6), .int z1, .int z2] L f sz (po_X2_view_co g ad th L f z1 z2) := by
  refine MtI.of (by decide +kernel) (Nat.le_of_ble_eq_true rfl) ?_
  intro p e s m below meth c A hEn hP hD hS ls hl
  obtain ⟨hx, hb, hr, hml, hown, hlocks, hts, hG, hA, hE, hnm⟩ := hEn
  have hown : s.vm.findClass "RulerWord$Council" = some m.cls := hown
  have hl : lv_has ls 6 [(0, .ref (ad 6)), (1, .int z1), (2, .int z2)] := hl
  refine lv_iload_n hx hb dX2_view_0 rfl (lv_at hl 2 rfl) ?_
  refine lv_iload_n hx hb dX2_view_1 rfl (lv_at hl 1 rfl) ?_
  have hJ10 : ∀ (y10_s0 : Int32) (H : Heap) (locs : List Loc) (ls : Array Slot), In y10_s0 0 1 → va_P g.1 vwCl (va_pl L f) H → va_D A (va_pl L f) → va_S A s.heap H locs → lv_has ls 6 [(0, .ref (ad 6)), (1, .int z1), (2, .int z2)] → W p l e rm_X2_view_co s m [.ref (ad 6), .int z1, .int z2].toArray below meth c H locs 0 0 (MQ below (va_Qi (po_X2_view_co g ad th L f z1 z2) (PstB g A) A) [.ref (ad 6), .int z1, .int z2].toArray s rm_X2_view_co.cells rm_X2_view_co.slots A) (F0 m 10 ls [.int y10_s0]) := by
    intro y10_s0 H locs ls hy10_s0 hP hD hS hl
    refine lv_istore_n (lv' := [(3, .int y10_s0), (0, .ref (ad 6)), (1, .int z1), (2, .int z2)]) hx hb dX2_view_10 rfl hl (by decide) rfl (fun ls hl => ?_)
    refine lv_iload_n hx hb dX2_view_11 rfl (lv_at hl 2 rfl) ?_
    refine lv_iload_n hx hb dX2_view_12 rfl (lv_at hl 3 rfl) ?_
    refine va_mmax hx hb (hml.trans hl.1.symm) hown (hts _ (mT wg_874)) (hts _ (mT wg_875)) (hts _ (mT wg_178)) (hts _ (mT (mG 876 (by decide +kernel) rfl))) (by first | decide | exact Nat.le_of_ble_eq_true rfl) (by first | decide | exact Nat.le_of_ble_eq_true rfl) (by first | decide | exact Nat.le_of_ble_eq_true rfl) (by first | decide | exact Nat.le_of_ble_eq_true rfl) dX2_view_13 ?_
    refine lv_topi (fun x1 ex1 => ?_)
    have hb2 : In x1 (-2147483648) 2147483647 := ex1 ▸ In.max (In.full z1) (In.full z2) (by omega) (by omega)
    refine lv_istore (lv' := [(4, .int x1), (3, .int y10_s0), (0, .ref (ad 6)), (1, .int z1), (2, .int z2)]) hx hb dX2_view_16 hl (by decide) rfl (fun ls hl => ?_)
    refine lv_aload_n hx hb dX2_view_18 rfl (lv_at hl 2 rfl) ?_
    obtain ⟨v0_3, v1_3, v2_3, v3_3, v4_3, v5_3, v6_3, v7_3, hf4, hv0_3, hg0_3, hv1_3, hg1_3, hv2_3, hv3_3, hv5_3, hv6_3, hrel0_3⟩ := hT.1 6 (by decide)
    refine pl_get (v := .int v0_3) hx hb hts (fun w h => mT (inX2 w h)) hown hG.1 hP (hst.1 6 (by decide)) hf4 rfl 0 (by decide) (hts _ (mT wg_224)) (fun _ h => h) rfl dX2_view_19 ?_
    refine lv_iconst (v := 1) hx hb dX2_view_22 (by decide) ?_
    refine lv_icmp_ne (tgt := 52) hx hb dX2_view_23 (by decide) (fun c5 => ?_) (fun c5 => ?_)
    ·
      have cc6 : v0_3.toInt ≠ (1 : Int32).toInt := i32_ne c5
      have hb7 : In v0_3 0 0 := In.ne1 hv0_3 (⟨by decide, by decide⟩ : In 1 1 1) cc6 (by omega) (by omega)
      refine lv_iload hx hb dX2_view_52 (lv_at hl 0 rfl) ?_
      refine lv_aload_n hx hb dX2_view_54 rfl (lv_at hl 2 rfl) ?_
      refine pl_get (v := .int v2_3) hx hb hts (fun w h => mT (inX2 w h)) hown hG.1 hP (hst.1 6 (by decide)) hf4 rfl 2 (by decide) (hts _ (mT wg_232)) (fun _ h => h) rfl dX2_view_55 ?_
      have hJ66 : ∀ (y66_s0 : Int32) (H : Heap) (locs : List Loc) (ls : Array Slot), In y66_s0 0 2 → va_P g.1 vwCl (va_pl L f) H → va_D A (va_pl L f) → va_S A s.heap H locs → lv_has ls 6 [(0, .ref (ad 6)), (1, .int z1), (2, .int z2), (3, .int y10_s0), (4, .int x1)] → W p l e rm_X2_view_co s m [.ref (ad 6), .int z1, .int z2].toArray below meth c H locs 0 0 (MQ below (va_Qi (po_X2_view_co g ad th L f z1 z2) (PstB g A) A) [.ref (ad 6), .int z1, .int z2].toArray s rm_X2_view_co.cells rm_X2_view_co.slots A) (F0 m 66 ls [.int y66_s0]) := by
        intro y66_s0 H locs ls hy66_s0 hP hD hS hl
        refine lv_istore (lv' := [(5, .int y66_s0), (0, .ref (ad 6)), (1, .int z1), (2, .int z2), (3, .int y10_s0), (4, .int x1)]) hx hb dX2_view_66 hl (by decide) rfl (fun ls hl => ?_)
        refine lv_iload hx hb dX2_view_68 (lv_at hl 5 rfl) ?_
        refine lv_aload_n hx hb dX2_view_70 rfl (lv_at hl 1 rfl) ?_
        refine pl_get (v := .int v1_3) hx hb hts (fun w h => mT (inX2 w h)) hown hG.1 hP (hst.1 6 (by decide)) hf4 rfl 1 (by decide) (hts _ (mT wg_228)) (fun _ h => h) rfl dX2_view_71 ?_
        refine lv_aload_n hx hb dX2_view_74 rfl (lv_at hl 1 rfl) ?_
        refine pl_get (v := .int v2_3) hx hb hts (fun w h => mT (inX2 w h)) hown hG.1 hP (hst.1 6 (by decide)) hf4 rfl 2 (by decide) (hts _ (mT wg_232)) (fun _ h => h) rfl dX2_view_75 ?_
        refine lv_isub hx hb dX2_view_78 ?_
        refine lv_topi (fun x8 ex8 => ?_)
        have hb9 : In x8 (-4) 10 := ex8 ▸ In.sub hv1_3 hv2_3 (by decide) (by decide) (by decide) (by decide)
        have et10 : x8.toInt = v1_3.toInt - v2_3.toInt := In.sub2e ex8 hv1_3 hv2_3 (by decide) (by decide)
        refine lv_icmp_lt (tgt := 89) hx hb dX2_view_79 (by decide) (fun c11 => ?_) (fun c11 => ?_)
        ·
          have cc12 : x1.toInt < x8.toInt := i32_lt.mp c11
          have hb13 : In x1 (-2147483648) 9 := In.lt1 hb2 hb9 cc12 (by omega) (by omega)
          refine lv_iload hx hb dX2_view_89 (lv_at hl 0 rfl) ?_
          exact ret_i (ty := .int) hx hb hr hlocks (rfl) hP hD hS (Nat.le_of_ble_eq_true rfl) (Nat.le_of_ble_eq_true rfl) (⟨rfl, rfl, (In.mono hy66_s0 (by decide) (by decide))⟩) dX2_view_91
        ·
          have cc14 : x8.toInt ≤ x1.toInt := i32_nlt c11
          have hb15 : In x1 (-4) 2147483647 := In.ge1 hb2 hb9 cc14 (by omega) (by omega)
          refine lv_iload hx hb dX2_view_82 (lv_at hl 0 rfl) ?_
          refine lv_iconst (v := 4) hx hb dX2_view_84 (by decide) ?_
          refine lv_iadd hx hb dX2_view_85 ?_
          refine lv_topi (fun x16 ex16 => ?_)
          have hb17 : In x16 4 6 := ex16 ▸ In.add hy66_s0 (⟨by decide, by decide⟩ : In 4 4 4) (by decide) (by decide) (by decide) (by decide)
          have et18 : x16.toInt = y66_s0.toInt + 4 := In.adde ex16 hy66_s0 (k := 4) (by decide) (by decide) (by decide)
          refine lv_goto (tgt := 91) hx hb dX2_view_86 (by decide) ?_
          exact ret_i (ty := .int) hx hb hr hlocks (rfl) hP hD hS (Nat.le_of_ble_eq_true rfl) (Nat.le_of_ble_eq_true rfl) (⟨rfl, rfl, (In.mono hb17 (by decide) (by decide))⟩) dX2_view_91
      refine lv_icmp_le (tgt := 65) hx hb dX2_view_58 (by decide) (fun c19 => ?_) (fun c19 => ?_)
      ·
        have cc20 : x1.toInt ≤ v2_3.toInt := i32_le.mp c19
        have hb21 : In x1 (-2147483648) 4 := In.le1 hb2 hv2_3 cc20 (by omega) (by omega)
        refine lv_iconst (v := 2) hx hb dX2_view_65 (by decide) ?_
        exact hJ66 2 _ _ _ (⟨by decide, by decide⟩ : In 2 0 2) hP hD hS (lv_sub hl [2, 3, 4, 1, 0] rfl)
      ·
        have cc22 : v2_3.toInt < x1.toInt := i32_nle c19
        have hb23 : In x1 0 2147483647 := In.gt1 hb2 hv2_3 cc22 (by omega) (by omega)
        refine lv_iload_n hx hb dX2_view_61 rfl (lv_at hl 1 rfl) ?_
        refine lv_goto (tgt := 66) hx hb dX2_view_62 (by decide) ?_
        exact hJ66 y10_s0 _ _ _ (In.mono hy10_s0 (by decide) (by decide)) hP hD hS (lv_sub hl [2, 3, 4, 1, 0] rfl)
    ·
      have cc24 : v0_3.toInt = (1 : Int32).toInt := congrArg Int32.toInt c5
      have hb25 : In v0_3 1 1 := In.eq1 hv0_3 (⟨by decide, by decide⟩ : In 1 1 1) cc24 (by omega) (by omega)
      refine lv_iconst (v := 2) hx hb dX2_view_26 (by decide) ?_
      refine lv_iload hx hb dX2_view_27 (lv_at hl 0 rfl) ?_
      refine lv_imul hx hb dX2_view_29 ?_
      refine lv_topi (fun x26 ex26 => ?_)
      refine lv_aload_n hx hb dX2_view_30 rfl (lv_at hl 2 rfl) ?_
      refine pl_get (v := .int v1_3) hx hb hts (fun w h => mT (inX2 w h)) hown hG.1 hP (hst.1 6 (by decide)) hf4 rfl 1 (by decide) (hts _ (mT wg_228)) (fun _ h => h) rfl dX2_view_31 ?_
      refine lv_iconst (v := 2) hx hb dX2_view_34 (by decide) ?_
      refine lv_aload_n hx hb dX2_view_35 rfl (lv_at hl 2 rfl) ?_
      refine pl_get (v := .int v2_3) hx hb hts (fun w h => mT (inX2 w h)) hown hG.1 hP (hst.1 6 (by decide)) hf4 rfl 2 (by decide) (hts _ (mT wg_232)) (fun _ h => h) rfl dX2_view_36 ?_
      refine lv_imul hx hb dX2_view_39 ?_
      refine lv_topi (fun x27 ex27 => ?_)
      refine lv_iadd hx hb dX2_view_40 ?_
      refine lv_topi (fun x28 ex28 => ?_)
      refine lv_icmp_le (tgt := 50) hx hb dX2_view_41 (by decide) (fun c29 => ?_) (fun c29 => ?_)
      ·
        refine lv_iload_n hx hb dX2_view_50 rfl (lv_at hl 1 rfl) ?_
        exact ret_i (ty := .int) hx hb hr hlocks (rfl) hP hD hS (Nat.le_of_ble_eq_true rfl) (Nat.le_of_ble_eq_true rfl) (⟨rfl, rfl, (In.mono hy10_s0 (by decide) (by decide))⟩) dX2_view_51
      ·
        have cc30 : x28.toInt < x26.toInt := i32_nle c29
        have hb31 : In x26 (-2147483647) 2147483647 := In.gt1 (In.full x26) (In.full x28) cc30 (by omega) (by omega)
        have hb32 : In x28 (-2147483648) 2147483646 := In.gt2 (In.full x26) (In.full x28) cc30 (by omega) (by omega)
        refine lv_iload_n hx hb dX2_view_44 rfl (lv_at hl 1 rfl) ?_
        refine lv_iconst (v := 4) hx hb dX2_view_45 (by decide) ?_
        refine lv_iadd hx hb dX2_view_46 ?_
        refine lv_topi (fun x33 ex33 => ?_)
        have hb34 : In x33 4 5 := ex33 ▸ In.add hy10_s0 (⟨by decide, by decide⟩ : In 4 4 4) (by decide) (by decide) (by decide) (by decide)
        have et35 : x33.toInt = y10_s0.toInt + 4 := In.adde ex33 hy10_s0 (k := 4) (by decide) (by decide) (by decide)
        refine lv_goto (tgt := 51) hx hb dX2_view_47 (by decide) ?_
        exact ret_i (ty := .int) hx hb hr hlocks (rfl) hP hD hS (Nat.le_of_ble_eq_true rfl) (Nat.le_of_ble_eq_true rfl) (⟨rfl, rfl, (In.mono hb34 (by decide) (by decide))⟩) dX2_view_51
  refine lv_icmp_le (tgt := 9) hx hb dX2_view_2 (by decide) (fun c36 => ?_) (fun c36 => ?_)
  ·
    refine lv_iconst (v := 0) hx hb dX2_view_9 (by decide) ?_
    exact hJ10 0 _ _ _ (⟨by decide, by decide⟩ : In 0 0 1) hP hD hS (lv_sub hl [0, 1, 2] rfl)
  ·
    have cc37 : z1.toInt < z2.toInt := i32_nle c36
    have hb38 : In z2 (-2147483647) 2147483647 := In.gt1 (In.full z2) (In.full z1) cc37 (by omega) (by omega)
    have hb39 : In z1 (-2147483648) 2147483646 := In.gt2 (In.full z2) (In.full z1) cc37 (by omega) (by omega)
    refine lv_iconst (v := 1) hx hb dX2_view_5 (by decide) ?_
    refine lv_goto (tgt := 10) hx hb dX2_view_6 (by decide) ?_
    exact hJ10 1 _ _ _ (⟨by decide, by decide⟩ : In 1 0 1) hP hD hS (lv_sub hl [0, 1, 2] rfl)

abbrev rm_X2_rounds_ot : Room := { frames := 0, cells := 0, slots := 0, locals := 0 }
abbrev po_X2_rounds_ot (g : GG) (ad : Nat → Nat) (th : Nat → Int) (L : List Nat) (f : HP)  : Int32 → (List Nat × HP) → Prop := fun r u => u.1 = L ∧ u.2 = f ∧ In r 2 3 ∧ r.toInt = rnd (th 4)
set_option maxHeartbeats 4000000 in
set_option maxRecDepth 100000 in
theorem s_X2_rounds_ot (l : Launch) (g : GG) (ad : Nat → Nat) (th : Nat → Int) (L : List Nat) (f : HP) (sz : Nat)  (hst : ST ad L) (hT : TI g ad th f)  : MtI l g yX2_rounds cX2_rounds 1 (some .int) rm_X2_rounds_ot [.ref (ad 7)] L f sz (po_X2_rounds_ot g ad th L f ) := by
  refine MtI.of (by decide +kernel) (Nat.le_of_ble_eq_true rfl) ?_
  intro p e s m below meth c A hEn hP hD hS ls hl
  obtain ⟨hx, hb, hr, hml, hown, hlocks, hts, hG, hA, hE, hnm⟩ := hEn
  have hown : s.vm.findClass "RulerWord$Council" = some m.cls := hown
  have hl : lv_has ls 1 [(0, .ref (ad 7))] := hl
  refine lv_aload_n hx hb dX2_rounds_0 rfl (lv_at hl 0 rfl) ?_
  obtain ⟨v0_1, v1_1, v2_1, v3_1, v4_1, v5_1, v6_1, v7_1, hf2, hv0_1, hg0_1, hv1_1, hv2_1, hv3_1, hv5_1, hv6_1⟩ := hT.1 7 (by decide)
  refine pl_get (v := .int v0_1) hx hb hts (fun w h => mT (inX2 w h)) hown hG.1 hP (hst.1 7 (by decide)) hf2 rfl 0 (by decide) (hts _ (mT wg_224)) (fun _ h => h) rfl dX2_rounds_1 ?_
  refine lv_if_ne (tgt := 11) hx hb dX2_rounds_4 (by decide) (fun c3 => ?_) (fun c3 => ?_)
  ·
    have cc4 : v0_1.toInt ≠ (0 : Int32).toInt := i32_ne c3
    have hb5 : In v0_1 1 1 := In.ne1 hv0_1 (⟨by decide, by decide⟩ : In 0 0 0) cc4 (by omega) (by omega)
    refine lv_iconst (v := 2) hx hb dX2_rounds_11 (by decide) ?_
    exact ret_i (ty := .int) hx hb hr hlocks (rfl) hP hD hS (Nat.le_of_ble_eq_true rfl) (Nat.le_of_ble_eq_true rfl) (⟨rfl, rfl, (⟨by decide, by decide⟩ : In 2 2 3), (rnd_t hg0_1 c3)⟩) dX2_rounds_12
  ·
    have cc6 : v0_1.toInt = (0 : Int32).toInt := congrArg Int32.toInt c3
    have hb7 : In v0_1 0 0 := In.eq1 hv0_1 (⟨by decide, by decide⟩ : In 0 0 0) cc6 (by omega) (by omega)
    refine lv_iconst (v := 3) hx hb dX2_rounds_7 (by decide) ?_
    refine lv_goto (tgt := 12) hx hb dX2_rounds_8 (by decide) ?_
    exact ret_i (ty := .int) hx hb hr hlocks (rfl) hP hD hS (Nat.le_of_ble_eq_true rfl) (Nat.le_of_ble_eq_true rfl) (⟨rfl, rfl, (⟨by decide, by decide⟩ : In 3 2 3), (rnd_f hg0_1 c3)⟩) dX2_rounds_12

abbrev rm_X2_allRounds_ot : Room := { frames := 1, cells := 0, slots := 0, locals := 20 }
abbrev po_X2_allRounds_ot (g : GG) (ad : Nat → Nat) (th : Nat → Int) (L : List Nat) (f : HP)  : Int32 → (List Nat × HP) → Prop := fun _ u => u.1 = L ∧ u.2 = f
set_option maxHeartbeats 4000000 in
set_option maxRecDepth 100000 in
theorem s_X2_allRounds_ot (l : Launch) (g : GG) (ad : Nat → Nat) (th : Nat → Int) (L : List Nat) (f : HP) (sz : Nat)  (hst : ST ad L) (hT : TI g ad th f)  : MtI l g yX2_allRounds cX2_allRounds 1 (some .int) rm_X2_allRounds_ot [.ref (ad 7)] L f sz (po_X2_allRounds_ot g ad th L f ) := by
  refine MtI.of (by decide +kernel) (Nat.le_of_ble_eq_true rfl) ?_
  intro p e s m below meth c A hEn hP hD hS ls hl
  obtain ⟨hx, hb, hr, hml, hown, hlocks, hts, hG, hA, hE, hnm⟩ := hEn
  have hown : s.vm.findClass "RulerWord$Council" = some m.cls := hown
  have hl : lv_has ls 1 [(0, .ref (ad 7))] := hl
  refine lv_aload_n hx hb dX2_allRounds_0 rfl (lv_at hl 0 rfl) ?_
  obtain ⟨v0_1, v1_1, v2_1, v3_1, v4_1, v5_1, v6_1, v7_1, hf2, hv0_1, hg0_1, hv1_1, hv2_1, hv3_1, hv5_1, hv6_1⟩ := hT.1 7 (by decide)
  refine pl_get (v := .int v3_1) hx hb hts (fun w h => mT (inX2 w h)) hown hG.1 hP (hst.1 7 (by decide)) hf2 rfl 3 (by decide) (hts _ (mT wg_234)) (fun _ h => h) rfl dX2_allRounds_1 ?_
  refine lv_aload_n hx hb dX2_allRounds_4 rfl (lv_at hl 0 rfl) ?_
  refine call_i (run_V (rm := rm_X2_rounds_ot) hx hb hml hown hts (s_X2_rounds_ot l g ad th _ _ _  hst hT ) cV_X2_rounds wg_738 ⟨Nat.le_of_ble_eq_true rfl, Nat.le_of_ble_eq_true rfl⟩ hG hE hA hP hD hS (hst.1 7 (by decide)) hf2 rfl rfl hl.1 (As := []) (rest := [.int v3_1]) rfl (Nat.le_of_ble_eq_true rfl) dX2_allRounds_5 ⟨Nat.le_of_ble_eq_true rfl, Nat.le_of_ble_eq_true rfl⟩) hA hD hS (fun r3 L4 f5 H locs hp6 hP hD hS => ?_)
  obtain ⟨eL7L, eL7T, eL7R, eL7X0⟩ := hp6
  have eL7L : L4 = L := eL7L
  have eL7T : f5 = f := eL7T
  rw [eL7L, eL7T] at hP hD
  have eL7R : In r3 2 3 := eL7R
  have hrn8 : r3.toInt = rnd (th 4) := eL7X0
  refine lv_imul hx hb dX2_allRounds_8 ?_
  refine lv_topi (fun x9 ex9 => ?_)
  exact ret_i (ty := .int) hx hb hr hlocks (rfl) hP hD hS (Nat.le_of_ble_eq_true rfl) (Nat.le_of_ble_eq_true rfl) (⟨rfl, rfl⟩) dX2_allRounds_9

abbrev rm_X2_phaseAt_ot : Room := { frames := 1, cells := 0, slots := 0, locals := 20 }
abbrev po_X2_phaseAt_ot (g : GG) (ad : Nat → Nat) (th : Nat → Int) (L : List Nat) (f : HP) (z1 : Int32) : Int32 → (List Nat × HP) → Prop := fun r u => u.1 = L ∧ u.2 = f ∧ In r 0 9 ∧ (r.toInt * rnd (th 4) ≤ z1.toInt ∧ z1.toInt < (r.toInt + 1) * rnd (th 4))
set_option maxHeartbeats 4000000 in
set_option maxRecDepth 100000 in
theorem s_X2_phaseAt_ot (l : Launch) (g : GG) (ad : Nat → Nat) (th : Nat → Int) (L : List Nat) (f : HP) (sz : Nat) (z1 : Int32) (hst : ST ad L) (hT : TI g ad th f) (hz1 : In z1 0 18) : MtI l g yX2_phaseAt cX2_phaseAt 2 (some .int) rm_X2_phaseAt_ot [.ref (ad 7), .int z1] L f sz (po_X2_phaseAt_ot g ad th L f z1) := by
  refine MtI.of (by decide +kernel) (Nat.le_of_ble_eq_true rfl) ?_
  intro p e s m below meth c A hEn hP hD hS ls hl
  obtain ⟨hx, hb, hr, hml, hown, hlocks, hts, hG, hA, hE, hnm⟩ := hEn
  have hown : s.vm.findClass "RulerWord$Council" = some m.cls := hown
  have hl : lv_has ls 2 [(0, .ref (ad 7)), (1, .int z1)] := hl
  refine lv_iload_n hx hb dX2_phaseAt_0 rfl (lv_at hl 1 rfl) ?_
  refine lv_aload_n hx hb dX2_phaseAt_1 rfl (lv_at hl 0 rfl) ?_
  obtain ⟨v0_1, v1_1, v2_1, v3_1, v4_1, v5_1, v6_1, v7_1, hf2, hv0_1, hg0_1, hv1_1, hv2_1, hv3_1, hv5_1, hv6_1⟩ := hT.1 7 (by decide)
  refine call_i (run_V (rm := rm_X2_rounds_ot) hx hb hml hown hts (s_X2_rounds_ot l g ad th _ _ _  hst hT ) cV_X2_rounds wg_738 ⟨Nat.le_of_ble_eq_true rfl, Nat.le_of_ble_eq_true rfl⟩ hG hE hA hP hD hS (hst.1 7 (by decide)) hf2 rfl rfl hl.1 (As := []) (rest := [.int z1]) rfl (Nat.le_of_ble_eq_true rfl) dX2_phaseAt_2 ⟨Nat.le_of_ble_eq_true rfl, Nat.le_of_ble_eq_true rfl⟩) hA hD hS (fun r3 L4 f5 H locs hp6 hP hD hS => ?_)
  obtain ⟨eL7L, eL7T, eL7R, eL7X0⟩ := hp6
  have eL7L : L4 = L := eL7L
  have eL7T : f5 = f := eL7T
  rw [eL7L, eL7T] at hP hD
  have eL7R : In r3 2 3 := eL7R
  have hrn8 : r3.toInt = rnd (th 4) := eL7X0
  refine lv_idiv hx hb dX2_phaseAt_5 (In.ne0 eL7R (by decide)) ?_
  refine lv_topi (fun x9 ex9 => ?_)
  have hb10 : In x9 0 9 := ex9 ▸ In.div hz1 eL7R (by decide) (by decide) (by decide) (by decide)
  exact ret_i (ty := .int) hx hb hr hlocks (rfl) hP hD hS (Nat.le_of_ble_eq_true rfl) (Nat.le_of_ble_eq_true rfl) (⟨rfl, rfl, hb10, (div_b ex9 hz1.1 hrn8)⟩) dX2_phaseAt_6

abbrev rm_X2_turnAt_ot : Room := { frames := 1, cells := 0, slots := 0, locals := 20 }
abbrev po_X2_turnAt_ot (g : GG) (ad : Nat → Nat) (th : Nat → Int) (L : List Nat) (f : HP) (z1 : Int32) : Int32 → (List Nat × HP) → Prop := fun r u => u.1 = L ∧ u.2 = f ∧ In r 0 2
set_option maxHeartbeats 4000000 in
set_option maxRecDepth 100000 in
theorem s_X2_turnAt_ot (l : Launch) (g : GG) (ad : Nat → Nat) (th : Nat → Int) (L : List Nat) (f : HP) (sz : Nat) (z1 : Int32) (hst : ST ad L) (hT : TI g ad th f) (hz1 : In z1 0 18) : MtI l g yX2_turnAt cX2_turnAt 2 (some .int) rm_X2_turnAt_ot [.ref (ad 7), .int z1] L f sz (po_X2_turnAt_ot g ad th L f z1) := by
  refine MtI.of (by decide +kernel) (Nat.le_of_ble_eq_true rfl) ?_
  intro p e s m below meth c A hEn hP hD hS ls hl
  obtain ⟨hx, hb, hr, hml, hown, hlocks, hts, hG, hA, hE, hnm⟩ := hEn
  have hown : s.vm.findClass "RulerWord$Council" = some m.cls := hown
  have hl : lv_has ls 2 [(0, .ref (ad 7)), (1, .int z1)] := hl
  refine lv_iload_n hx hb dX2_turnAt_0 rfl (lv_at hl 1 rfl) ?_
  refine lv_aload_n hx hb dX2_turnAt_1 rfl (lv_at hl 0 rfl) ?_
  obtain ⟨v0_1, v1_1, v2_1, v3_1, v4_1, v5_1, v6_1, v7_1, hf2, hv0_1, hg0_1, hv1_1, hv2_1, hv3_1, hv5_1, hv6_1⟩ := hT.1 7 (by decide)
  refine call_i (run_V (rm := rm_X2_rounds_ot) hx hb hml hown hts (s_X2_rounds_ot l g ad th _ _ _  hst hT ) cV_X2_rounds wg_738 ⟨Nat.le_of_ble_eq_true rfl, Nat.le_of_ble_eq_true rfl⟩ hG hE hA hP hD hS (hst.1 7 (by decide)) hf2 rfl rfl hl.1 (As := []) (rest := [.int z1]) rfl (Nat.le_of_ble_eq_true rfl) dX2_turnAt_2 ⟨Nat.le_of_ble_eq_true rfl, Nat.le_of_ble_eq_true rfl⟩) hA hD hS (fun r3 L4 f5 H locs hp6 hP hD hS => ?_)
  obtain ⟨eL7L, eL7T, eL7R, eL7X0⟩ := hp6
  have eL7L : L4 = L := eL7L
  have eL7T : f5 = f := eL7T
  rw [eL7L, eL7T] at hP hD
  have eL7R : In r3 2 3 := eL7R
  have hrn8 : r3.toInt = rnd (th 4) := eL7X0
  refine lv_irem hx hb dX2_turnAt_5 (In.ne0 eL7R (by decide)) ?_
  refine lv_topi (fun x9 ex9 => ?_)
  have hb10 : In x9 0 2 := ex9 ▸ In.rem hz1 eL7R (by decide) (by decide) (by decide)
  exact ret_i (ty := .int) hx hb hr hlocks (rfl) hP hD hS (Nat.le_of_ble_eq_true rfl) (Nat.le_of_ble_eq_true rfl) (⟨rfl, rfl, hb10⟩) dX2_turnAt_6

abbrev rm_X2_ruler_ot : Room := { frames := 0, cells := 0, slots := 0, locals := 0 }
abbrev po_X2_ruler_ot (g : GG) (ad : Nat → Nat) (th : Nat → Int) (L : List Nat) (f : HP) (z1 : Int32) : Int32 → (List Nat × HP) → Prop := fun r u => u.1 = L ∧ u.2 = f ∧ In r 0 8
set_option maxHeartbeats 4000000 in
set_option maxRecDepth 100000 in
theorem s_X2_ruler_ot (l : Launch) (g : GG) (ad : Nat → Nat) (th : Nat → Int) (L : List Nat) (f : HP) (sz : Nat) (z1 : Int32) (hst : ST ad L) (hT : TI g ad th f) (hz1 : In z1 0 6) : MtI l g yX2_ruler cX2_ruler 2 (some .int) rm_X2_ruler_ot [.ref (ad 7), .int z1] L f sz (po_X2_ruler_ot g ad th L f z1) := by
  refine MtI.of (by decide +kernel) (Nat.le_of_ble_eq_true rfl) ?_
  intro p e s m below meth c A hEn hP hD hS ls hl
  obtain ⟨hx, hb, hr, hml, hown, hlocks, hts, hG, hA, hE, hnm⟩ := hEn
  have hown : s.vm.findClass "RulerWord$Council" = some m.cls := hown
  have hl : lv_has ls 2 [(0, .ref (ad 7)), (1, .int z1)] := hl
  refine lv_aload_n hx hb dX2_ruler_0 rfl (lv_at hl 0 rfl) ?_
  obtain ⟨v0_1, v1_1, v2_1, v3_1, v4_1, v5_1, v6_1, v7_1, hf2, hv0_1, hg0_1, hv1_1, hv2_1, hv3_1, hv5_1, hv6_1⟩ := hT.1 7 (by decide)
  refine pl_get (v := .int v1_1) hx hb hts (fun w h => mT (inX2 w h)) hown hG.1 hP (hst.1 7 (by decide)) hf2 rfl 1 (by decide) (hts _ (mT wg_228)) (fun _ h => h) rfl dX2_ruler_1 ?_
  refine lv_if_le (tgt := 16) hx hb dX2_ruler_4 (by decide) (fun c3 => ?_) (fun c3 => ?_)
  ·
    have cc4 : v1_1.toInt ≤ (0 : Int32).toInt := i32_le.mp c3
    have hb5 : In v1_1 0 0 := In.le1 hv1_1 (⟨by decide, by decide⟩ : In 0 0 0) cc4 (by omega) (by omega)
    refine lv_iconst (v := 0) hx hb dX2_ruler_16 (by decide) ?_
    exact ret_i (ty := .int) hx hb hr hlocks (rfl) hP hD hS (Nat.le_of_ble_eq_true rfl) (Nat.le_of_ble_eq_true rfl) (⟨rfl, rfl, (⟨by decide, by decide⟩ : In 0 0 8)⟩) dX2_ruler_17
  ·
    have cc6 : (0 : Int32).toInt < v1_1.toInt := i32_nle c3
    have hb7 : In v1_1 1 9 := In.gt1 hv1_1 (⟨by decide, by decide⟩ : In 0 0 0) cc6 (by omega) (by omega)
    refine lv_iload_n hx hb dX2_ruler_7 rfl (lv_at hl 1 rfl) ?_
    refine lv_aload_n hx hb dX2_ruler_8 rfl (lv_at hl 0 rfl) ?_
    refine pl_get (v := .int v1_1) hx hb hts (fun w h => mT (inX2 w h)) hown hG.1 hP (hst.1 7 (by decide)) hf2 rfl 1 (by decide) (hts _ (mT wg_228)) (fun _ h => h) rfl dX2_ruler_9 ?_
    refine lv_irem hx hb dX2_ruler_12 (In.ne0 hb7 (by decide)) ?_
    refine lv_topi (fun x8 ex8 => ?_)
    have hb9 : In x8 0 6 := ex8 ▸ In.rem hz1 hb7 (by decide) (by decide) (by decide)
    refine lv_goto (tgt := 17) hx hb dX2_ruler_13 (by decide) ?_
    exact ret_i (ty := .int) hx hb hr hlocks (rfl) hP hD hS (Nat.le_of_ble_eq_true rfl) (Nat.le_of_ble_eq_true rfl) (⟨rfl, rfl, (In.mono hb9 (by decide) (by decide))⟩) dX2_ruler_17

abbrev rm_X2_everybody_ot : Room := { frames := 0, cells := 0, slots := 0, locals := 0 }
abbrev po_X2_everybody_ot (g : GG) (ad : Nat → Nat) (th : Nat → Int) (L : List Nat) (f : HP)  : Int32 → (List Nat × HP) → Prop := fun r u => u.1 = L ∧ u.2 = f ∧ In r 0 511
set_option maxHeartbeats 4000000 in
set_option maxRecDepth 100000 in
theorem s_X2_everybody_ot (l : Launch) (g : GG) (ad : Nat → Nat) (th : Nat → Int) (L : List Nat) (f : HP) (sz : Nat)  (hst : ST ad L) (hT : TI g ad th f)  : MtI l g yX2_everybody cX2_everybody 1 (some .int) rm_X2_everybody_ot [.ref (ad 7)] L f sz (po_X2_everybody_ot g ad th L f ) := by
  refine MtI.of (by decide +kernel) (Nat.le_of_ble_eq_true rfl) ?_
  intro p e s m below meth c A hEn hP hD hS ls hl
  obtain ⟨hx, hb, hr, hml, hown, hlocks, hts, hG, hA, hE, hnm⟩ := hEn
  have hown : s.vm.findClass "RulerWord$Council" = some m.cls := hown
  have hl : lv_has ls 1 [(0, .ref (ad 7))] := hl
  refine lv_iconst (v := 1) hx hb dX2_everybody_0 (by decide) ?_
  refine lv_aload_n hx hb dX2_everybody_1 rfl (lv_at hl 0 rfl) ?_
  obtain ⟨v0_1, v1_1, v2_1, v3_1, v4_1, v5_1, v6_1, v7_1, hf2, hv0_1, hg0_1, hv1_1, hv2_1, hv3_1, hv5_1, hv6_1⟩ := hT.1 7 (by decide)
  refine pl_get (v := .int v1_1) hx hb hts (fun w h => mT (inX2 w h)) hown hG.1 hP (hst.1 7 (by decide)) hf2 rfl 1 (by decide) (hts _ (mT wg_228)) (fun _ h => h) rfl dX2_everybody_2 ?_
  refine lv_ishl hx hb dX2_everybody_5 ?_
  refine lv_topi (fun x3 ex3 => ?_)
  have hb4 : In x3 1 512 := ex3 ▸ In.shl (⟨by decide, by decide⟩ : In 1 1 1) hv1_1 (by decide) (by decide) (by decide) (by decide) (by decide) (by decide)
  refine lv_iconst (v := 1) hx hb dX2_everybody_6 (by decide) ?_
  refine lv_isub hx hb dX2_everybody_7 ?_
  refine lv_topi (fun x5 ex5 => ?_)
  have hb6 : In x5 0 511 := ex5 ▸ In.sub hb4 (⟨by decide, by decide⟩ : In 1 1 1) (by decide) (by decide) (by decide) (by decide)
  have et7 : x5.toInt = x3.toInt + (-1) := In.sube ex5 hb4 (k := 1) (by decide) (by decide) (by decide)
  exact ret_i (ty := .int) hx hb hr hlocks (rfl) hP hD hS (Nat.le_of_ble_eq_true rfl) (Nat.le_of_ble_eq_true rfl) (⟨rfl, rfl, hb6⟩) dX2_everybody_8

abbrev rm_X2_foretold_ot : Room := { frames := 0, cells := 0, slots := 0, locals := 0 }
abbrev po_X2_foretold_ot (g : GG) (ad : Nat → Nat) (th : Nat → Int) (L : List Nat) (f : HP)  : Int32 → (List Nat × HP) → Prop := fun _ u => u.1 = L ∧ u.2 = f
set_option maxHeartbeats 4000000 in
set_option maxRecDepth 100000 in
theorem s_X2_foretold_ot (l : Launch) (g : GG) (ad : Nat → Nat) (th : Nat → Int) (L : List Nat) (f : HP) (sz : Nat)  (hst : ST ad L) (hT : TI g ad th f)  : MtI l g yX2_foretold cX2_foretold 2 (some .int) rm_X2_foretold_ot [.ref (ad 7)] L f sz (po_X2_foretold_ot g ad th L f ) := by
  refine MtI.of (by decide +kernel) (Nat.le_of_ble_eq_true rfl) ?_
  intro p e s m below meth c A hEn hP hD hS ls hl
  obtain ⟨hx, hb, hr, hml, hown, hlocks, hts, hG, hA, hE, hnm⟩ := hEn
  have hown : s.vm.findClass "RulerWord$Council" = some m.cls := hown
  have hl : lv_has ls 2 [(0, .ref (ad 7))] := hl
  refine lv_aload_n hx hb dX2_foretold_0 rfl (lv_at hl 0 rfl) ?_
  obtain ⟨v0_1, v1_1, v2_1, v3_1, v4_1, v5_1, v6_1, v7_1, hf2, hv0_1, hg0_1, hv1_1, hv2_1, hv3_1, hv5_1, hv6_1⟩ := hT.1 7 (by decide)
  refine pl_get (v := .int v1_1) hx hb hts (fun w h => mT (inX2 w h)) hown hG.1 hP (hst.1 7 (by decide)) hf2 rfl 1 (by decide) (hts _ (mT wg_228)) (fun _ h => h) rfl dX2_foretold_1 ?_
  refine lv_aload_n hx hb dX2_foretold_4 rfl (lv_at hl 0 rfl) ?_
  refine pl_get (v := .int v1_1) hx hb hts (fun w h => mT (inX2 w h)) hown hG.1 hP (hst.1 7 (by decide)) hf2 rfl 1 (by decide) (hts _ (mT wg_228)) (fun _ h => h) rfl dX2_foretold_5 ?_
  refine lv_imul hx hb dX2_foretold_8 ?_
  refine lv_topi (fun x3 ex3 => ?_)
  have hb4 : In x3 0 81 := ex3 ▸ In.mul hv1_1 hv1_1 (by decide) (by decide) (by decide) (by decide) (by decide)
  refine lv_istore_n (lv' := [(1, .int x3), (0, .ref (ad 7))]) hx hb dX2_foretold_9 rfl hl (by decide) rfl (fun ls hl => ?_)
  refine lv_aload_n hx hb dX2_foretold_10 rfl (lv_at hl 1 rfl) ?_
  refine pl_get (v := .int v0_1) hx hb hts (fun w h => mT (inX2 w h)) hown hG.1 hP (hst.1 7 (by decide)) hf2 rfl 0 (by decide) (hts _ (mT wg_224)) (fun _ h => h) rfl dX2_foretold_11 ?_
  refine lv_if_ne (tgt := 35) hx hb dX2_foretold_14 (by decide) (fun c5 => ?_) (fun c5 => ?_)
  ·
    have cc6 : v0_1.toInt ≠ (0 : Int32).toInt := i32_ne c5
    have hb7 : In v0_1 1 1 := In.ne1 hv0_1 (⟨by decide, by decide⟩ : In 0 0 0) cc6 (by omega) (by omega)
    refine lv_aload_n hx hb dX2_foretold_35 rfl (lv_at hl 1 rfl) ?_
    refine pl_get (v := .int v3_1) hx hb hts (fun w h => mT (inX2 w h)) hown hG.1 hP (hst.1 7 (by decide)) hf2 rfl 3 (by decide) (hts _ (mT wg_234)) (fun _ h => h) rfl dX2_foretold_36 ?_
    refine lv_iload_n hx hb dX2_foretold_39 rfl (lv_at hl 0 rfl) ?_
    refine lv_iconst (v := 1) hx hb dX2_foretold_40 (by decide) ?_
    refine lv_isub hx hb dX2_foretold_41 ?_
    refine lv_topi (fun x8 ex8 => ?_)
    have hb9 : In x8 (-1) 80 := ex8 ▸ In.sub hb4 (⟨by decide, by decide⟩ : In 1 1 1) (by decide) (by decide) (by decide) (by decide)
    have et10 : x8.toInt = x3.toInt + (-1) := In.sube ex8 hb4 (k := 1) (by decide) (by decide) (by decide)
    refine lv_imul hx hb dX2_foretold_42 ?_
    refine lv_topi (fun x11 ex11 => ?_)
    exact ret_i (ty := .int) hx hb hr hlocks (rfl) hP hD hS (Nat.le_of_ble_eq_true rfl) (Nat.le_of_ble_eq_true rfl) (⟨rfl, rfl⟩) dX2_foretold_43
  ·
    have cc12 : v0_1.toInt = (0 : Int32).toInt := congrArg Int32.toInt c5
    have hb13 : In v0_1 0 0 := In.eq1 hv0_1 (⟨by decide, by decide⟩ : In 0 0 0) cc12 (by omega) (by omega)
    refine lv_aload_n hx hb dX2_foretold_17 rfl (lv_at hl 1 rfl) ?_
    refine pl_get (v := .int v3_1) hx hb hts (fun w h => mT (inX2 w h)) hown hG.1 hP (hst.1 7 (by decide)) hf2 rfl 3 (by decide) (hts _ (mT wg_234)) (fun _ h => h) rfl dX2_foretold_18 ?_
    refine lv_iconst (v := 2) hx hb dX2_foretold_21 (by decide) ?_
    refine lv_iload_n hx hb dX2_foretold_22 rfl (lv_at hl 0 rfl) ?_
    refine lv_imul hx hb dX2_foretold_23 ?_
    refine lv_topi (fun x14 ex14 => ?_)
    have hb15 : In x14 0 162 := ex14 ▸ In.mul (⟨by decide, by decide⟩ : In 2 2 2) hb4 (by decide) (by decide) (by decide) (by decide) (by decide)
    refine lv_aload_n hx hb dX2_foretold_24 rfl (lv_at hl 1 rfl) ?_
    refine pl_get (v := .int v1_1) hx hb hts (fun w h => mT (inX2 w h)) hown hG.1 hP (hst.1 7 (by decide)) hf2 rfl 1 (by decide) (hts _ (mT wg_228)) (fun _ h => h) rfl dX2_foretold_25 ?_
    refine lv_isub hx hb dX2_foretold_28 ?_
    refine lv_topi (fun x16 ex16 => ?_)
    have hb17 : In x16 (-9) 162 := ex16 ▸ In.sub hb15 hv1_1 (by decide) (by decide) (by decide) (by decide)
    have et18 : x16.toInt = x14.toInt - v1_1.toInt := In.sub2e ex16 hb15 hv1_1 (by decide) (by decide)
    refine lv_iconst (v := 1) hx hb dX2_foretold_29 (by decide) ?_
    refine lv_isub hx hb dX2_foretold_30 ?_
    refine lv_topi (fun x19 ex19 => ?_)
    have hb20 : In x19 (-10) 161 := ex19 ▸ In.sub hb17 (⟨by decide, by decide⟩ : In 1 1 1) (by decide) (by decide) (by decide) (by decide)
    have et21 : x19.toInt = x16.toInt + (-1) := In.sube ex19 hb17 (k := 1) (by decide) (by decide) (by decide)
    refine lv_imul hx hb dX2_foretold_31 ?_
    refine lv_topi (fun x22 ex22 => ?_)
    refine lv_goto (tgt := 43) hx hb dX2_foretold_32 (by decide) ?_
    exact ret_i (ty := .int) hx hb hr hlocks (rfl) hP hD hS (Nat.le_of_ble_eq_true rfl) (Nat.le_of_ble_eq_true rfl) (⟨rfl, rfl⟩) dX2_foretold_43

abbrev rm_X2_freeLetters_ot : Room := { frames := 1, cells := 0, slots := 0, locals := 21 }
abbrev po_X2_freeLetters_ot (g : GG) (ad : Nat → Nat) (th : Nat → Int) (L : List Nat) (f : HP) (z1 : Int32) (z2 : Int32) : Int32 → (List Nat × HP) → Prop := fun _ u => u.1 = L ∧ u.2 = f
set_option maxHeartbeats 4000000 in
set_option maxRecDepth 100000 in
theorem s_X2_freeLetters_ot (l : Launch) (g : GG) (ad : Nat → Nat) (th : Nat → Int) (L : List Nat) (f : HP) (sz : Nat) (z1 : Int32) (z2 : Int32) (hst : ST ad L) (hT : TI g ad th f) (hz2 : In z2 (-1) 6) : MtI l g yX2_freeLetters cX2_freeLetters 7 (some .int) rm_X2_freeLetters_ot [.ref (ad 7), .int z1, .int z2] L f sz (po_X2_freeLetters_ot g ad th L f z1 z2) := by
  refine MtI.of (by decide +kernel) (Nat.le_of_ble_eq_true rfl) ?_
  intro p e s m below meth c A hEn hP hD hS ls hl
  obtain ⟨hx, hb, hr, hml, hown, hlocks, hts, hG, hA, hE, hnm⟩ := hEn
  have hown : s.vm.findClass "RulerWord$Council" = some m.cls := hown
  have hl : lv_has ls 7 [(0, .ref (ad 7)), (1, .int z1), (2, .int z2)] := hl
  refine lv_iload_n hx hb dX2_freeLetters_0 rfl (lv_at hl 1 rfl) ?_
  refine call_i (run_S (rm := rm_J6_bitCount_0f7a4) hx hb hml hown hts (s_J6_bitCount_0f7a4 l g ad th _ _ _ z1 hst hT ) cS_J6_bitCount_0f7a4 wg_1026 ⟨Nat.le_of_ble_eq_true rfl, Nat.le_of_ble_eq_true rfl⟩ hG hE hA hP hD hS rfl hl.1 (As := [.int z1]) (rest := []) rfl (Nat.le_of_ble_eq_true rfl) dX2_freeLetters_1 ⟨Nat.le_of_ble_eq_true rfl, Nat.le_of_ble_eq_true rfl⟩) hA hD hS (fun r1 L2 f3 H locs hp4 hP hD hS => ?_)
  obtain ⟨eL5L, eL5T, eL5R, eL5X0⟩ := hp4
  have eL5L : L2 = L := eL5L
  have eL5T : f3 = f := eL5T
  rw [eL5L, eL5T] at hP hD
  have eL5R : In r1 0 63 := eL5R
  refine lv_istore_n (lv' := [(3, .int r1), (0, .ref (ad 7)), (1, .int z1), (2, .int z2)]) hx hb dX2_freeLetters_4 rfl hl (by decide) rfl (fun ls hl => ?_)
  refine lv_aload_n hx hb dX2_freeLetters_5 rfl (lv_at hl 1 rfl) ?_
  obtain ⟨v0_6, v1_6, v2_6, v3_6, v4_6, v5_6, v6_6, v7_6, hf7, hv0_6, hg0_6, hv1_6, hv2_6, hv3_6, hv5_6, hv6_6⟩ := hT.1 7 (by decide)
  refine pl_get (v := .int v1_6) hx hb hts (fun w h => mT (inX2 w h)) hown hG.1 hP (hst.1 7 (by decide)) hf7 rfl 1 (by decide) (hts _ (mT wg_228)) (fun _ h => h) rfl dX2_freeLetters_6 ?_
  refine lv_iload_n hx hb dX2_freeLetters_9 rfl (lv_at hl 0 rfl) ?_
  refine lv_isub hx hb dX2_freeLetters_10 ?_
  refine lv_topi (fun x8 ex8 => ?_)
  have hb9 : In x8 (-63) 9 := ex8 ▸ In.sub hv1_6 eL5R (by decide) (by decide) (by decide) (by decide)
  have et10 : x8.toInt = v1_6.toInt - r1.toInt := In.sub2e ex8 hv1_6 eL5R (by decide) (by decide)
  refine lv_istore (lv' := [(4, .int x8), (3, .int r1), (0, .ref (ad 7)), (1, .int z1), (2, .int z2)]) hx hb dX2_freeLetters_11 hl (by decide) rfl (fun ls hl => ?_)
  refine lv_iload_n hx hb dX2_freeLetters_13 rfl (lv_at hl 4 rfl) ?_
  refine lv_aload_n hx hb dX2_freeLetters_14 rfl (lv_at hl 2 rfl) ?_
  refine call_i (run_V (rm := rm_X2_rounds_ot) hx hb hml hown hts (s_X2_rounds_ot l g ad th _ _ _  hst hT ) cV_X2_rounds wg_738 ⟨Nat.le_of_ble_eq_true rfl, Nat.le_of_ble_eq_true rfl⟩ hG hE hA hP hD hS (hst.1 7 (by decide)) hf7 rfl rfl hl.1 (As := []) (rest := [.int z2]) rfl (Nat.le_of_ble_eq_true rfl) dX2_freeLetters_15 ⟨Nat.le_of_ble_eq_true rfl, Nat.le_of_ble_eq_true rfl⟩) hA hD hS (fun r11 L12 f13 H locs hp14 hP hD hS => ?_)
  obtain ⟨eL15L, eL15T, eL15R, eL15X0⟩ := hp14
  have eL15L : L12 = L := eL15L
  have eL15T : f13 = f := eL15T
  rw [eL15L, eL15T] at hP hD
  have eL15R : In r11 2 3 := eL15R
  have hrn16 : r11.toInt = rnd (th 4) := eL15X0
  refine lv_iconst (v := 1) hx hb dX2_freeLetters_18 (by decide) ?_
  refine lv_isub hx hb dX2_freeLetters_19 ?_
  refine lv_topi (fun x17 ex17 => ?_)
  have hb18 : In x17 1 2 := ex17 ▸ In.sub eL15R (⟨by decide, by decide⟩ : In 1 1 1) (by decide) (by decide) (by decide) (by decide)
  have et19 : x17.toInt = r11.toInt + (-1) := In.sube ex17 eL15R (k := 1) (by decide) (by decide) (by decide)
  refine lv_imul hx hb dX2_freeLetters_20 ?_
  refine lv_topi (fun x20 ex20 => ?_)
  refine lv_iload_n hx hb dX2_freeLetters_21 rfl (lv_at hl 1 rfl) ?_
  refine lv_imul hx hb dX2_freeLetters_22 ?_
  refine lv_topi (fun x21 ex21 => ?_)
  refine lv_iload hx hb dX2_freeLetters_23 (lv_at hl 0 rfl) ?_
  refine lv_imul hx hb dX2_freeLetters_25 ?_
  refine lv_topi (fun x22 ex22 => ?_)
  refine lv_istore (lv' := [(5, .int x22), (4, .int x8), (3, .int r1), (0, .ref (ad 7)), (1, .int z1), (2, .int z2)]) hx hb dX2_freeLetters_26 hl (by decide) rfl (fun ls hl => ?_)
  refine lv_iconst (v := 0) hx hb dX2_freeLetters_28 (by decide) ?_
  refine lv_istore (lv' := [(6, .int 0), (5, .int x22), (4, .int x8), (3, .int r1), (0, .ref (ad 7)), (1, .int z1), (2, .int z2)]) hx hb dX2_freeLetters_29 hl (by decide) rfl (fun ls hl => ?_)
  have hJ31 : ∀ (k31 : Nat) (y31_l5 : Int32) (y31_l6 : Int32) (H : Heap) (locs : List Loc) (ls : Array Slot), In y31_l5 (-2147483648) 2147483647 → In y31_l6 0 6 → va_P g.1 vwCl (va_pl L f) H → va_D A (va_pl L f) → va_S A s.heap H locs → lv_has ls 7 [(0, .ref (ad 7)), (1, .int z1), (2, .int z2), (3, .int r1), (4, .int x8), (5, .int y31_l5), (6, .int y31_l6)] → 6 - y31_l6.toInt < ((k31 : Nat) : Int) → W p l e rm_X2_freeLetters_ot s m [.ref (ad 7), .int z1, .int z2].toArray below meth c H locs 0 0 (MQ below (va_Qi (po_X2_freeLetters_ot g ad th L f z1 z2) (PstB g A) A) [.ref (ad 7), .int z1, .int z2].toArray s rm_X2_freeLetters_ot.cells rm_X2_freeLetters_ot.slots A) (F0 m 31 ls []) := by
    intro k31
    induction k31 with
    | zero =>
      intro y31_l5 y31_l6 H locs ls hy31_l5 hy31_l6 hP hD hS hl hmz31
      exact ms0 hy31_l6 hmz31
    | succ k31 ih31 =>
      intro y31_l5 y31_l6 H locs ls hy31_l5 hy31_l6 hP hD hS hl hmz31
      refine lv_iload hx hb dX2_freeLetters_31 (lv_at hl 6 rfl) ?_
      refine lv_iload_n hx hb dX2_freeLetters_33 rfl (lv_at hl 2 rfl) ?_
      refine lv_icmp_ge (tgt := 68) hx hb dX2_freeLetters_34 (by decide) (fun c23 => ?_) (fun c23 => ?_)
      ·
        refine lv_iload hx hb dX2_freeLetters_68 (lv_at hl 5 rfl) ?_
        exact ret_i (ty := .int) hx hb hr hlocks (rfl) hP hD hS (Nat.le_of_ble_eq_true rfl) (Nat.le_of_ble_eq_true rfl) (⟨rfl, rfl⟩) dX2_freeLetters_70
      ·
        have cc24 : y31_l6.toInt < z2.toInt := i32_nle c23
        have hb25 : In y31_l6 0 5 := In.lt1 hy31_l6 hz2 cc24 (by omega) (by omega)
        have hb26 : In z2 1 6 := In.lt2 hy31_l6 hz2 cc24 (by omega) (by omega)
        refine lv_iload hx hb dX2_freeLetters_37 (lv_at hl 5 rfl) ?_
        refine lv_iload_n hx hb dX2_freeLetters_39 rfl (lv_at hl 1 rfl) ?_
        refine lv_aload_n hx hb dX2_freeLetters_40 rfl (lv_at hl 0 rfl) ?_
        refine lv_iload hx hb dX2_freeLetters_41 (lv_at hl 6 rfl) ?_
        refine call_i (run_V (rm := rm_X2_ruler_ot) hx hb hml hown hts (s_X2_ruler_ot l g ad th _ _ _ y31_l6 hst hT (In.mono hb25 (by decide) (by decide))) cV_X2_ruler wg_1027 ⟨Nat.le_of_ble_eq_true rfl, Nat.le_of_ble_eq_true rfl⟩ hG hE hA hP hD hS (hst.1 7 (by decide)) hf7 rfl rfl hl.1 (As := [.int y31_l6]) (rest := [.int z1, .int y31_l5]) rfl (Nat.le_of_ble_eq_true rfl) dX2_freeLetters_43 ⟨Nat.le_of_ble_eq_true rfl, Nat.le_of_ble_eq_true rfl⟩) hA hD hS (fun r27 L28 f29 H locs hp30 hP hD hS => ?_)
        obtain ⟨eL31L, eL31T, eL31R⟩ := hp30
        have eL31L : L28 = L := eL31L
        have eL31T : f29 = f := eL31T
        rw [eL31L, eL31T] at hP hD
        have eL31R : In r27 0 8 := eL31R
        refine call_i (run_SN (rm := rm_X10_bit) hx hb hml hown hts (s_X10_bit l g ad th _ _ _ z1 r27 hst hT ) cS_X10_bit wn_644 ⟨Nat.le_of_ble_eq_true rfl, Nat.le_of_ble_eq_true rfl⟩ hG hE hA hP hD hS rfl hl.1 (As := [.int z1, .int r27]) (rest := [.int y31_l5]) rfl (Nat.le_of_ble_eq_true rfl) dX2_freeLetters_46 ⟨Nat.le_of_ble_eq_true rfl, Nat.le_of_ble_eq_true rfl⟩) hA hD hS (fun r32 L33 f34 H locs hp35 hP hD hS => ?_)
        obtain ⟨eL36L, eL36T, eL36R, eL36X0⟩ := hp35
        have eL36L : L33 = L := eL36L
        have eL36T : f34 = f := eL36T
        rw [eL36L, eL36T] at hP hD
        have eL36R : In r32 0 1 := eL36R
        refine lv_iconst (v := 1) hx hb dX2_freeLetters_49 (by decide) ?_
        have hJ59 : ∀ (y59_s0 : Int32) (H : Heap) (locs : List Loc) (ls : Array Slot), In y59_s0 (-63) 9 → va_P g.1 vwCl (va_pl L f) H → va_D A (va_pl L f) → va_S A s.heap H locs → lv_has ls 7 [(0, .ref (ad 7)), (1, .int z1), (2, .int z2), (3, .int r1), (4, .int x8), (5, .int y31_l5), (6, .int y31_l6)] → W p l e rm_X2_freeLetters_ot s m [.ref (ad 7), .int z1, .int z2].toArray below meth c H locs 0 0 (MQ below (va_Qi (po_X2_freeLetters_ot g ad th L f z1 z2) (PstB g A) A) [.ref (ad 7), .int z1, .int z2].toArray s rm_X2_freeLetters_ot.cells rm_X2_freeLetters_ot.slots A) (F0 m 59 ls [.int y59_s0, .int y31_l5]) := by
          intro y59_s0 H locs ls hy59_s0 hP hD hS hl
          refine lv_iadd hx hb dX2_freeLetters_59 ?_
          refine lv_topi (fun x37 ex37 => ?_)
          refine lv_istore (lv' := [(5, .int x37), (0, .ref (ad 7)), (1, .int z1), (2, .int z2), (3, .int r1), (4, .int x8), (6, .int y31_l6)]) hx hb dX2_freeLetters_60 hl (by decide) rfl (fun ls hl => ?_)
          obtain ⟨x38, ex38⟩ : ∃ y : Int32, y = y31_l6 + 1 := ⟨_, rfl⟩
          have hb39 : In x38 1 6 := ex38 ▸ In.add hb25 (⟨by decide, by decide⟩ : In 1 1 1) (by decide) (by decide) (by decide) (by decide)
          have et40 : x38.toInt = y31_l6.toInt + 1 := In.adde ex38 hb25 (k := 1) (by decide) (by decide) (by decide)
          refine lv_iinc (v := x38) (lv' := [(6, .int x38), (5, .int x37), (0, .ref (ad 7)), (1, .int z1), (2, .int z2), (3, .int r1), (4, .int x8)]) hx hb dX2_freeLetters_62 hl (k := 6) rfl (by rw [ex38]; rfl) (by decide) rfl (fun ls hl => ?_)
          refine lv_goto (tgt := 31) hx hb dX2_freeLetters_65 (by decide) ?_
          exact ih31 x37 x38 _ _ _ (In.full x37) (In.mono hb39 (by decide) (by decide)) hP hD hS (lv_sub hl [2, 3, 4, 5, 6, 1, 0] rfl) (msu et40 (by decide) hmz31)
        refine lv_icmp_ne (tgt := 58) hx hb dX2_freeLetters_50 (by decide) (fun c41 => ?_) (fun c41 => ?_)
        ·
          have cc42 : r32.toInt ≠ (1 : Int32).toInt := i32_ne c41
          have hb43 : In r32 0 0 := In.ne1 eL36R (⟨by decide, by decide⟩ : In 1 1 1) cc42 (by omega) (by omega)
          refine lv_iconst (v := 0) hx hb dX2_freeLetters_58 (by decide) ?_
          exact hJ59 0 _ _ _ (⟨by decide, by decide⟩ : In 0 (-63) 9) hP hD hS (lv_sub hl [0, 1, 2, 3, 4, 5, 6] rfl)
        ·
          have cc44 : r32.toInt = (1 : Int32).toInt := congrArg Int32.toInt c41
          have hb45 : In r32 1 1 := In.eq1 eL36R (⟨by decide, by decide⟩ : In 1 1 1) cc44 (by omega) (by omega)
          refine lv_iload hx hb dX2_freeLetters_53 (lv_at hl 4 rfl) ?_
          refine lv_goto (tgt := 59) hx hb dX2_freeLetters_55 (by decide) ?_
          exact hJ59 x8 _ _ _ hb9 hP hD hS (lv_sub hl [0, 1, 2, 3, 4, 5, 6] rfl)
  exact hJ31 ((6 - (0 : Int32).toInt).toNat + 1) x22 0 _ _ _ (In.full x22) (⟨by decide, by decide⟩ : In 0 0 6) hP hD hS (lv_sub hl [4, 5, 6, 3, 2, 1, 0] rfl) (msI _)

abbrev rm_X2_offer_ot : Room := { frames := 0, cells := 0, slots := 0, locals := 0 }
abbrev po_X2_offer_ot (g : GG) (ad : Nat → Nat) (th : Nat → Int) (L : List Nat) (f : HP) (z1 : Int32) (z2 : Int32) : Int32 → (List Nat × HP) → Prop := fun r u => u.1 = L ∧ u.2 = f ∧ In r 0 2
set_option maxHeartbeats 4000000 in
set_option maxRecDepth 100000 in
theorem s_X2_offer_ot (l : Launch) (g : GG) (ad : Nat → Nat) (th : Nat → Int) (L : List Nat) (f : HP) (sz : Nat) (z1 : Int32) (z2 : Int32) (hst : ST ad L) (hT : TI g ad th f)  : MtI l g yX2_offer cX2_offer 4 (some .int) rm_X2_offer_ot [.ref (ad 7), .int z1, .int z2] L f sz (po_X2_offer_ot g ad th L f z1 z2) := by
  refine MtI.of (by decide +kernel) (Nat.le_of_ble_eq_true rfl) ?_
  intro p e s m below meth c A hEn hP hD hS ls hl
  obtain ⟨hx, hb, hr, hml, hown, hlocks, hts, hG, hA, hE, hnm⟩ := hEn
  have hown : s.vm.findClass "RulerWord$Council" = some m.cls := hown
  have hl : lv_has ls 4 [(0, .ref (ad 7)), (1, .int z1), (2, .int z2)] := hl
  refine lv_aload_n hx hb dX2_offer_0 rfl (lv_at hl 0 rfl) ?_
  obtain ⟨v0_1, v1_1, v2_1, v3_1, v4_1, v5_1, v6_1, v7_1, hf2, hv0_1, hg0_1, hv1_1, hv2_1, hv3_1, hv5_1, hv6_1⟩ := hT.1 7 (by decide)
  refine pl_get (v := .int v1_1) hx hb hts (fun w h => mT (inX2 w h)) hown hG.1 hP (hst.1 7 (by decide)) hf2 rfl 1 (by decide) (hts _ (mT wg_228)) (fun _ h => h) rfl dX2_offer_1 ?_
  refine lv_aload_n hx hb dX2_offer_4 rfl (lv_at hl 0 rfl) ?_
  refine pl_get (v := .int v2_1) hx hb hts (fun w h => mT (inX2 w h)) hown hG.1 hP (hst.1 7 (by decide)) hf2 rfl 2 (by decide) (hts _ (mT wg_232)) (fun _ h => h) rfl dX2_offer_5 ?_
  refine lv_isub hx hb dX2_offer_8 ?_
  refine lv_topi (fun x3 ex3 => ?_)
  have hb4 : In x3 (-4) 10 := ex3 ▸ In.sub hv1_1 hv2_1 (by decide) (by decide) (by decide) (by decide)
  have et5 : x3.toInt = v1_1.toInt - v2_1.toInt := In.sub2e ex3 hv1_1 hv2_1 (by decide) (by decide)
  refine lv_istore_n (lv' := [(3, .int x3), (0, .ref (ad 7)), (1, .int z1), (2, .int z2)]) hx hb dX2_offer_9 rfl hl (by decide) rfl (fun ls hl => ?_)
  refine lv_iload_n hx hb dX2_offer_10 rfl (lv_at hl 2 rfl) ?_
  refine lv_iload_n hx hb dX2_offer_11 rfl (lv_at hl 0 rfl) ?_
  refine lv_icmp_lt (tgt := 17) hx hb dX2_offer_12 (by decide) (fun c6 => ?_) (fun c6 => ?_)
  ·
    have cc7 : z1.toInt < x3.toInt := i32_lt.mp c6
    have hb8 : In z1 (-2147483648) 9 := In.lt1 (In.full z1) hb4 cc7 (by omega) (by omega)
    refine lv_iload_n hx hb dX2_offer_17 rfl (lv_at hl 3 rfl) ?_
    refine lv_iload_n hx hb dX2_offer_18 rfl (lv_at hl 0 rfl) ?_
    refine lv_icmp_lt (tgt := 26) hx hb dX2_offer_19 (by decide) (fun c9 => ?_) (fun c9 => ?_)
    ·
      have cc10 : z2.toInt < x3.toInt := i32_lt.mp c9
      have hb11 : In z2 (-2147483648) 9 := In.lt1 (In.full z2) hb4 cc10 (by omega) (by omega)
      refine lv_iconst (v := 2) hx hb dX2_offer_26 (by decide) ?_
      exact ret_i (ty := .int) hx hb hr hlocks (rfl) hP hD hS (Nat.le_of_ble_eq_true rfl) (Nat.le_of_ble_eq_true rfl) (⟨rfl, rfl, (⟨by decide, by decide⟩ : In 2 0 2)⟩) dX2_offer_27
    ·
      have cc12 : x3.toInt ≤ z2.toInt := i32_nlt c9
      have hb13 : In z2 (-4) 2147483647 := In.ge1 (In.full z2) hb4 cc12 (by omega) (by omega)
      refine lv_iconst (v := 1) hx hb dX2_offer_22 (by decide) ?_
      refine lv_goto (tgt := 27) hx hb dX2_offer_23 (by decide) ?_
      exact ret_i (ty := .int) hx hb hr hlocks (rfl) hP hD hS (Nat.le_of_ble_eq_true rfl) (Nat.le_of_ble_eq_true rfl) (⟨rfl, rfl, (⟨by decide, by decide⟩ : In 1 0 2)⟩) dX2_offer_27
  ·
    have cc14 : x3.toInt ≤ z1.toInt := i32_nlt c6
    have hb15 : In z1 (-4) 2147483647 := In.ge1 (In.full z1) hb4 cc14 (by omega) (by omega)
    refine lv_iconst (v := 0) hx hb dX2_offer_15 (by decide) ?_
    exact ret_i (ty := .int) hx hb hr hlocks (rfl) hP hD hS (Nat.le_of_ble_eq_true rfl) (Nat.le_of_ble_eq_true rfl) (⟨rfl, rfl, (⟨by decide, by decide⟩ : In 0 0 2)⟩) dX2_offer_16

abbrev rm_X2_view_ot : Room := { frames := 1, cells := 0, slots := 0, locals := 13 }
abbrev po_X2_view_ot (g : GG) (ad : Nat → Nat) (th : Nat → Int) (L : List Nat) (f : HP) (z1 : Int32) (z2 : Int32) : Int32 → (List Nat × HP) → Prop := fun r u => u.1 = L ∧ u.2 = f ∧ In r 0 6
set_option maxHeartbeats 4000000 in
set_option maxRecDepth 100000 in
theorem s_X2_view_ot (l : Launch) (g : GG) (ad : Nat → Nat) (th : Nat → Int) (L : List Nat) (f : HP) (sz : Nat) (z1 : Int32) (z2 : Int32) (hst : ST ad L) (hT : TI g ad th f)  : MtI l g yX2_view cX2_view 6 (some .int) rm_X2_view_ot [.ref (ad 7), .int z1, .int z2] L f sz (po_X2_view_ot g ad th L f z1 z2) := by
  refine MtI.of (by decide +kernel) (Nat.le_of_ble_eq_true rfl) ?_
  intro p e s m below meth c A hEn hP hD hS ls hl
  obtain ⟨hx, hb, hr, hml, hown, hlocks, hts, hG, hA, hE, hnm⟩ := hEn
  have hown : s.vm.findClass "RulerWord$Council" = some m.cls := hown
  have hl : lv_has ls 6 [(0, .ref (ad 7)), (1, .int z1), (2, .int z2)] := hl
  refine lv_iload_n hx hb dX2_view_0 rfl (lv_at hl 2 rfl) ?_
  refine lv_iload_n hx hb dX2_view_1 rfl (lv_at hl 1 rfl) ?_
  have hJ10 : ∀ (y10_s0 : Int32) (H : Heap) (locs : List Loc) (ls : Array Slot), In y10_s0 0 1 → va_P g.1 vwCl (va_pl L f) H → va_D A (va_pl L f) → va_S A s.heap H locs → lv_has ls 6 [(0, .ref (ad 7)), (1, .int z1), (2, .int z2)] → W p l e rm_X2_view_ot s m [.ref (ad 7), .int z1, .int z2].toArray below meth c H locs 0 0 (MQ below (va_Qi (po_X2_view_ot g ad th L f z1 z2) (PstB g A) A) [.ref (ad 7), .int z1, .int z2].toArray s rm_X2_view_ot.cells rm_X2_view_ot.slots A) (F0 m 10 ls [.int y10_s0]) := by
    intro y10_s0 H locs ls hy10_s0 hP hD hS hl
    refine lv_istore_n (lv' := [(3, .int y10_s0), (0, .ref (ad 7)), (1, .int z1), (2, .int z2)]) hx hb dX2_view_10 rfl hl (by decide) rfl (fun ls hl => ?_)
    refine lv_iload_n hx hb dX2_view_11 rfl (lv_at hl 2 rfl) ?_
    refine lv_iload_n hx hb dX2_view_12 rfl (lv_at hl 3 rfl) ?_
    refine va_mmax hx hb (hml.trans hl.1.symm) hown (hts _ (mT wg_874)) (hts _ (mT wg_875)) (hts _ (mT wg_178)) (hts _ (mT (mG 876 (by decide +kernel) rfl))) (by first | decide | exact Nat.le_of_ble_eq_true rfl) (by first | decide | exact Nat.le_of_ble_eq_true rfl) (by first | decide | exact Nat.le_of_ble_eq_true rfl) (by first | decide | exact Nat.le_of_ble_eq_true rfl) dX2_view_13 ?_
    refine lv_topi (fun x1 ex1 => ?_)
    have hb2 : In x1 (-2147483648) 2147483647 := ex1 ▸ In.max (In.full z1) (In.full z2) (by omega) (by omega)
    refine lv_istore (lv' := [(4, .int x1), (3, .int y10_s0), (0, .ref (ad 7)), (1, .int z1), (2, .int z2)]) hx hb dX2_view_16 hl (by decide) rfl (fun ls hl => ?_)
    refine lv_aload_n hx hb dX2_view_18 rfl (lv_at hl 2 rfl) ?_
    obtain ⟨v0_3, v1_3, v2_3, v3_3, v4_3, v5_3, v6_3, v7_3, hf4, hv0_3, hg0_3, hv1_3, hv2_3, hv3_3, hv5_3, hv6_3⟩ := hT.1 7 (by decide)
    refine pl_get (v := .int v0_3) hx hb hts (fun w h => mT (inX2 w h)) hown hG.1 hP (hst.1 7 (by decide)) hf4 rfl 0 (by decide) (hts _ (mT wg_224)) (fun _ h => h) rfl dX2_view_19 ?_
    refine lv_iconst (v := 1) hx hb dX2_view_22 (by decide) ?_
    refine lv_icmp_ne (tgt := 52) hx hb dX2_view_23 (by decide) (fun c5 => ?_) (fun c5 => ?_)
    ·
      have cc6 : v0_3.toInt ≠ (1 : Int32).toInt := i32_ne c5
      have hb7 : In v0_3 0 0 := In.ne1 hv0_3 (⟨by decide, by decide⟩ : In 1 1 1) cc6 (by omega) (by omega)
      refine lv_iload hx hb dX2_view_52 (lv_at hl 0 rfl) ?_
      refine lv_aload_n hx hb dX2_view_54 rfl (lv_at hl 2 rfl) ?_
      refine pl_get (v := .int v2_3) hx hb hts (fun w h => mT (inX2 w h)) hown hG.1 hP (hst.1 7 (by decide)) hf4 rfl 2 (by decide) (hts _ (mT wg_232)) (fun _ h => h) rfl dX2_view_55 ?_
      have hJ66 : ∀ (y66_s0 : Int32) (H : Heap) (locs : List Loc) (ls : Array Slot), In y66_s0 0 2 → va_P g.1 vwCl (va_pl L f) H → va_D A (va_pl L f) → va_S A s.heap H locs → lv_has ls 6 [(0, .ref (ad 7)), (1, .int z1), (2, .int z2), (3, .int y10_s0), (4, .int x1)] → W p l e rm_X2_view_ot s m [.ref (ad 7), .int z1, .int z2].toArray below meth c H locs 0 0 (MQ below (va_Qi (po_X2_view_ot g ad th L f z1 z2) (PstB g A) A) [.ref (ad 7), .int z1, .int z2].toArray s rm_X2_view_ot.cells rm_X2_view_ot.slots A) (F0 m 66 ls [.int y66_s0]) := by
        intro y66_s0 H locs ls hy66_s0 hP hD hS hl
        refine lv_istore (lv' := [(5, .int y66_s0), (0, .ref (ad 7)), (1, .int z1), (2, .int z2), (3, .int y10_s0), (4, .int x1)]) hx hb dX2_view_66 hl (by decide) rfl (fun ls hl => ?_)
        refine lv_iload hx hb dX2_view_68 (lv_at hl 5 rfl) ?_
        refine lv_aload_n hx hb dX2_view_70 rfl (lv_at hl 1 rfl) ?_
        refine pl_get (v := .int v1_3) hx hb hts (fun w h => mT (inX2 w h)) hown hG.1 hP (hst.1 7 (by decide)) hf4 rfl 1 (by decide) (hts _ (mT wg_228)) (fun _ h => h) rfl dX2_view_71 ?_
        refine lv_aload_n hx hb dX2_view_74 rfl (lv_at hl 1 rfl) ?_
        refine pl_get (v := .int v2_3) hx hb hts (fun w h => mT (inX2 w h)) hown hG.1 hP (hst.1 7 (by decide)) hf4 rfl 2 (by decide) (hts _ (mT wg_232)) (fun _ h => h) rfl dX2_view_75 ?_
        refine lv_isub hx hb dX2_view_78 ?_
        refine lv_topi (fun x8 ex8 => ?_)
        have hb9 : In x8 (-4) 10 := ex8 ▸ In.sub hv1_3 hv2_3 (by decide) (by decide) (by decide) (by decide)
        have et10 : x8.toInt = v1_3.toInt - v2_3.toInt := In.sub2e ex8 hv1_3 hv2_3 (by decide) (by decide)
        refine lv_icmp_lt (tgt := 89) hx hb dX2_view_79 (by decide) (fun c11 => ?_) (fun c11 => ?_)
        ·
          have cc12 : x1.toInt < x8.toInt := i32_lt.mp c11
          have hb13 : In x1 (-2147483648) 9 := In.lt1 hb2 hb9 cc12 (by omega) (by omega)
          refine lv_iload hx hb dX2_view_89 (lv_at hl 0 rfl) ?_
          exact ret_i (ty := .int) hx hb hr hlocks (rfl) hP hD hS (Nat.le_of_ble_eq_true rfl) (Nat.le_of_ble_eq_true rfl) (⟨rfl, rfl, (In.mono hy66_s0 (by decide) (by decide))⟩) dX2_view_91
        ·
          have cc14 : x8.toInt ≤ x1.toInt := i32_nlt c11
          have hb15 : In x1 (-4) 2147483647 := In.ge1 hb2 hb9 cc14 (by omega) (by omega)
          refine lv_iload hx hb dX2_view_82 (lv_at hl 0 rfl) ?_
          refine lv_iconst (v := 4) hx hb dX2_view_84 (by decide) ?_
          refine lv_iadd hx hb dX2_view_85 ?_
          refine lv_topi (fun x16 ex16 => ?_)
          have hb17 : In x16 4 6 := ex16 ▸ In.add hy66_s0 (⟨by decide, by decide⟩ : In 4 4 4) (by decide) (by decide) (by decide) (by decide)
          have et18 : x16.toInt = y66_s0.toInt + 4 := In.adde ex16 hy66_s0 (k := 4) (by decide) (by decide) (by decide)
          refine lv_goto (tgt := 91) hx hb dX2_view_86 (by decide) ?_
          exact ret_i (ty := .int) hx hb hr hlocks (rfl) hP hD hS (Nat.le_of_ble_eq_true rfl) (Nat.le_of_ble_eq_true rfl) (⟨rfl, rfl, (In.mono hb17 (by decide) (by decide))⟩) dX2_view_91
      refine lv_icmp_le (tgt := 65) hx hb dX2_view_58 (by decide) (fun c19 => ?_) (fun c19 => ?_)
      ·
        have cc20 : x1.toInt ≤ v2_3.toInt := i32_le.mp c19
        have hb21 : In x1 (-2147483648) 4 := In.le1 hb2 hv2_3 cc20 (by omega) (by omega)
        refine lv_iconst (v := 2) hx hb dX2_view_65 (by decide) ?_
        exact hJ66 2 _ _ _ (⟨by decide, by decide⟩ : In 2 0 2) hP hD hS (lv_sub hl [2, 3, 4, 1, 0] rfl)
      ·
        have cc22 : v2_3.toInt < x1.toInt := i32_nle c19
        have hb23 : In x1 0 2147483647 := In.gt1 hb2 hv2_3 cc22 (by omega) (by omega)
        refine lv_iload_n hx hb dX2_view_61 rfl (lv_at hl 1 rfl) ?_
        refine lv_goto (tgt := 66) hx hb dX2_view_62 (by decide) ?_
        exact hJ66 y10_s0 _ _ _ (In.mono hy10_s0 (by decide) (by decide)) hP hD hS (lv_sub hl [2, 3, 4, 1, 0] rfl)
    ·
      have cc24 : v0_3.toInt = (1 : Int32).toInt := congrArg Int32.toInt c5
      have hb25 : In v0_3 1 1 := In.eq1 hv0_3 (⟨by decide, by decide⟩ : In 1 1 1) cc24 (by omega) (by omega)
      refine lv_iconst (v := 2) hx hb dX2_view_26 (by decide) ?_
      refine lv_iload hx hb dX2_view_27 (lv_at hl 0 rfl) ?_
      refine lv_imul hx hb dX2_view_29 ?_
      refine lv_topi (fun x26 ex26 => ?_)
      refine lv_aload_n hx hb dX2_view_30 rfl (lv_at hl 2 rfl) ?_
      refine pl_get (v := .int v1_3) hx hb hts (fun w h => mT (inX2 w h)) hown hG.1 hP (hst.1 7 (by decide)) hf4 rfl 1 (by decide) (hts _ (mT wg_228)) (fun _ h => h) rfl dX2_view_31 ?_
      refine lv_iconst (v := 2) hx hb dX2_view_34 (by decide) ?_
      refine lv_aload_n hx hb dX2_view_35 rfl (lv_at hl 2 rfl) ?_
      refine pl_get (v := .int v2_3) hx hb hts (fun w h => mT (inX2 w h)) hown hG.1 hP (hst.1 7 (by decide)) hf4 rfl 2 (by decide) (hts _ (mT wg_232)) (fun _ h => h) rfl dX2_view_36 ?_
      refine lv_imul hx hb dX2_view_39 ?_
      refine lv_topi (fun x27 ex27 => ?_)
      refine lv_iadd hx hb dX2_view_40 ?_
      refine lv_topi (fun x28 ex28 => ?_)
      refine lv_icmp_le (tgt := 50) hx hb dX2_view_41 (by decide) (fun c29 => ?_) (fun c29 => ?_)
      ·
        refine lv_iload_n hx hb dX2_view_50 rfl (lv_at hl 1 rfl) ?_
        exact ret_i (ty := .int) hx hb hr hlocks (rfl) hP hD hS (Nat.le_of_ble_eq_true rfl) (Nat.le_of_ble_eq_true rfl) (⟨rfl, rfl, (In.mono hy10_s0 (by decide) (by decide))⟩) dX2_view_51
      ·
        have cc30 : x28.toInt < x26.toInt := i32_nle c29
        have hb31 : In x26 (-2147483647) 2147483647 := In.gt1 (In.full x26) (In.full x28) cc30 (by omega) (by omega)
        have hb32 : In x28 (-2147483648) 2147483646 := In.gt2 (In.full x26) (In.full x28) cc30 (by omega) (by omega)
        refine lv_iload_n hx hb dX2_view_44 rfl (lv_at hl 1 rfl) ?_
        refine lv_iconst (v := 4) hx hb dX2_view_45 (by decide) ?_
        refine lv_iadd hx hb dX2_view_46 ?_
        refine lv_topi (fun x33 ex33 => ?_)
        have hb34 : In x33 4 5 := ex33 ▸ In.add hy10_s0 (⟨by decide, by decide⟩ : In 4 4 4) (by decide) (by decide) (by decide) (by decide)
        have et35 : x33.toInt = y10_s0.toInt + 4 := In.adde ex33 hy10_s0 (k := 4) (by decide) (by decide) (by decide)
        refine lv_goto (tgt := 51) hx hb dX2_view_47 (by decide) ?_
        exact ret_i (ty := .int) hx hb hr hlocks (rfl) hP hD hS (Nat.le_of_ble_eq_true rfl) (Nat.le_of_ble_eq_true rfl) (⟨rfl, rfl, (In.mono hb34 (by decide) (by decide))⟩) dX2_view_51
  refine lv_icmp_le (tgt := 9) hx hb dX2_view_2 (by decide) (fun c36 => ?_) (fun c36 => ?_)
  ·
    refine lv_iconst (v := 0) hx hb dX2_view_9 (by decide) ?_
    exact hJ10 0 _ _ _ (⟨by decide, by decide⟩ : In 0 0 1) hP hD hS (lv_sub hl [0, 1, 2] rfl)
  ·
    have cc37 : z1.toInt < z2.toInt := i32_nle c36
    have hb38 : In z2 (-2147483647) 2147483647 := In.gt1 (In.full z2) (In.full z1) cc37 (by omega) (by omega)
    have hb39 : In z1 (-2147483648) 2147483646 := In.gt2 (In.full z2) (In.full z1) cc37 (by omega) (by omega)
    refine lv_iconst (v := 1) hx hb dX2_view_5 (by decide) ?_
    refine lv_goto (tgt := 10) hx hb dX2_view_6 (by decide) ?_
    exact hJ10 1 _ _ _ (⟨by decide, by decide⟩ : In 1 0 1) hP hD hS (lv_sub hl [0, 1, 2] rfl)

abbrev rm_X2_rounds_ru : Room := { frames := 0, cells := 0, slots := 0, locals := 0 }
abbrev po_X2_rounds_ru (g : GG) (ad : Nat → Nat) (th : Nat → Int) (L : List Nat) (f : HP)  : Int32 → (List Nat × HP) → Prop := fun r u => u.1 = L ∧ u.2 = f ∧ In r 2 3
set_option maxHeartbeats 4000000 in
set_option maxRecDepth 100000 in
theorem s_X2_rounds_ru (l : Launch) (g : GG) (ad : Nat → Nat) (th : Nat → Int) (L : List Nat) (f : HP) (sz : Nat)  (hst : ST ad L) (hT : TI g ad th f)  : MtI l g yX2_rounds cX2_rounds 1 (some .int) rm_X2_rounds_ru [.ref (ad 8)] L f sz (po_X2_rounds_ru g ad th L f ) := by
  refine MtI.of (by decide +kernel) (Nat.le_of_ble_eq_true rfl) ?_
  intro p e s m below meth c A hEn hP hD hS ls hl
  obtain ⟨hx, hb, hr, hml, hown, hlocks, hts, hG, hA, hE, hnm⟩ := hEn
  have hown : s.vm.findClass "RulerWord$Council" = some m.cls := hown
  have hl : lv_has ls 1 [(0, .ref (ad 8))] := hl
  refine lv_aload_n hx hb dX2_rounds_0 rfl (lv_at hl 0 rfl) ?_
  obtain ⟨v0_1, v1_1, v2_1, v3_1, v4_1, v5_1, v6_1, v7_1, hf2, hv0_1, hv1_1, hv2_1, hv3_1, hv5_1, hv6_1⟩ := hT.1 8 (by decide)
  refine pl_get (v := .int v0_1) hx hb hts (fun w h => mT (inX2 w h)) hown hG.1 hP (hst.1 8 (by decide)) hf2 rfl 0 (by decide) (hts _ (mT wg_224)) (fun _ h => h) rfl dX2_rounds_1 ?_
  refine lv_if_ne (tgt := 11) hx hb dX2_rounds_4 (by decide) (fun c3 => ?_) (fun c3 => ?_)
  ·
    have cc4 : v0_1.toInt ≠ (0 : Int32).toInt := i32_ne c3
    have hb5 : In v0_1 1 1 := In.ne1 hv0_1 (⟨by decide, by decide⟩ : In 0 0 0) cc4 (by omega) (by omega)
    refine lv_iconst (v := 2) hx hb dX2_rounds_11 (by decide) ?_
    exact ret_i (ty := .int) hx hb hr hlocks (rfl) hP hD hS (Nat.le_of_ble_eq_true rfl) (Nat.le_of_ble_eq_true rfl) (⟨rfl, rfl, (⟨by decide, by decide⟩ : In 2 2 3)⟩) dX2_rounds_12
  ·
    have cc6 : v0_1.toInt = (0 : Int32).toInt := congrArg Int32.toInt c3
    have hb7 : In v0_1 0 0 := In.eq1 hv0_1 (⟨by decide, by decide⟩ : In 0 0 0) cc6 (by omega) (by omega)
    refine lv_iconst (v := 3) hx hb dX2_rounds_7 (by decide) ?_
    refine lv_goto (tgt := 12) hx hb dX2_rounds_8 (by decide) ?_
    exact ret_i (ty := .int) hx hb hr hlocks (rfl) hP hD hS (Nat.le_of_ble_eq_true rfl) (Nat.le_of_ble_eq_true rfl) (⟨rfl, rfl, (⟨by decide, by decide⟩ : In 3 2 3)⟩) dX2_rounds_12

abbrev rm_X2_allRounds_ru : Room := { frames := 1, cells := 0, slots := 0, locals := 20 }
abbrev po_X2_allRounds_ru (g : GG) (ad : Nat → Nat) (th : Nat → Int) (L : List Nat) (f : HP)  : Int32 → (List Nat × HP) → Prop := fun _ u => u.1 = L ∧ u.2 = f
set_option maxHeartbeats 4000000 in
set_option maxRecDepth 100000 in
theorem s_X2_allRounds_ru (l : Launch) (g : GG) (ad : Nat → Nat) (th : Nat → Int) (L : List Nat) (f : HP) (sz : Nat)  (hst : ST ad L) (hT : TI g ad th f)  : MtI l g yX2_allRounds cX2_allRounds 1 (some .int) rm_X2_allRounds_ru [.ref (ad 8)] L f sz (po_X2_allRounds_ru g ad th L f ) := by
  refine MtI.of (by decide +kernel) (Nat.le_of_ble_eq_true rfl) ?_
  intro p e s m below meth c A hEn hP hD hS ls hl
  obtain ⟨hx, hb, hr, hml, hown, hlocks, hts, hG, hA, hE, hnm⟩ := hEn
  have hown : s.vm.findClass "RulerWord$Council" = some m.cls := hown
  have hl : lv_has ls 1 [(0, .ref (ad 8))] := hl
  refine lv_aload_n hx hb dX2_allRounds_0 rfl (lv_at hl 0 rfl) ?_
  obtain ⟨v0_1, v1_1, v2_1, v3_1, v4_1, v5_1, v6_1, v7_1, hf2, hv0_1, hv1_1, hv2_1, hv3_1, hv5_1, hv6_1⟩ := hT.1 8 (by decide)
  refine pl_get (v := .int v3_1) hx hb hts (fun w h => mT (inX2 w h)) hown hG.1 hP (hst.1 8 (by decide)) hf2 rfl 3 (by decide) (hts _ (mT wg_234)) (fun _ h => h) rfl dX2_allRounds_1 ?_
  refine lv_aload_n hx hb dX2_allRounds_4 rfl (lv_at hl 0 rfl) ?_
  refine call_i (run_V (rm := rm_X2_rounds_ru) hx hb hml hown hts (s_X2_rounds_ru l g ad th _ _ _  hst hT ) cV_X2_rounds wg_738 ⟨Nat.le_of_ble_eq_true rfl, Nat.le_of_ble_eq_true rfl⟩ hG hE hA hP hD hS (hst.1 8 (by decide)) hf2 rfl rfl hl.1 (As := []) (rest := [.int v3_1]) rfl (Nat.le_of_ble_eq_true rfl) dX2_allRounds_5 ⟨Nat.le_of_ble_eq_true rfl, Nat.le_of_ble_eq_true rfl⟩) hA hD hS (fun r3 L4 f5 H locs hp6 hP hD hS => ?_)
  obtain ⟨eL7L, eL7T, eL7R⟩ := hp6
  have eL7L : L4 = L := eL7L
  have eL7T : f5 = f := eL7T
  rw [eL7L, eL7T] at hP hD
  have eL7R : In r3 2 3 := eL7R
  refine lv_imul hx hb dX2_allRounds_8 ?_
  refine lv_topi (fun x8 ex8 => ?_)
  exact ret_i (ty := .int) hx hb hr hlocks (rfl) hP hD hS (Nat.le_of_ble_eq_true rfl) (Nat.le_of_ble_eq_true rfl) (⟨rfl, rfl⟩) dX2_allRounds_9

abbrev rm_X2_phaseAt_ru : Room := { frames := 1, cells := 0, slots := 0, locals := 20 }
abbrev po_X2_phaseAt_ru (g : GG) (ad : Nat → Nat) (th : Nat → Int) (L : List Nat) (f : HP) (z1 : Int32) : Int32 → (List Nat × HP) → Prop := fun r u => u.1 = L ∧ u.2 = f ∧ In r 0 9
set_option maxHeartbeats 4000000 in
set_option maxRecDepth 100000 in
theorem s_X2_phaseAt_ru (l : Launch) (g : GG) (ad : Nat → Nat) (th : Nat → Int) (L : List Nat) (f : HP) (sz : Nat) (z1 : Int32) (hst : ST ad L) (hT : TI g ad th f) (hz1 : In z1 0 18) : MtI l g yX2_phaseAt cX2_phaseAt 2 (some .int) rm_X2_phaseAt_ru [.ref (ad 8), .int z1] L f sz (po_X2_phaseAt_ru g ad th L f z1) := by
  refine MtI.of (by decide +kernel) (Nat.le_of_ble_eq_true rfl) ?_
  intro p e s m below meth c A hEn hP hD hS ls hl
  obtain ⟨hx, hb, hr, hml, hown, hlocks, hts, hG, hA, hE, hnm⟩ := hEn
  have hown : s.vm.findClass "RulerWord$Council" = some m.cls := hown
  have hl : lv_has ls 2 [(0, .ref (ad 8)), (1, .int z1)] := hl
  refine lv_iload_n hx hb dX2_phaseAt_0 rfl (lv_at hl 1 rfl) ?_
  refine lv_aload_n hx hb dX2_phaseAt_1 rfl (lv_at hl 0 rfl) ?_
  obtain ⟨v0_1, v1_1, v2_1, v3_1, v4_1, v5_1, v6_1, v7_1, hf2, hv0_1, hv1_1, hv2_1, hv3_1, hv5_1, hv6_1⟩ := hT.1 8 (by decide)
  refine call_i (run_V (rm := rm_X2_rounds_ru) hx hb hml hown hts (s_X2_rounds_ru l g ad th _ _ _  hst hT ) cV_X2_rounds wg_738 ⟨Nat.le_of_ble_eq_true rfl, Nat.le_of_ble_eq_true rfl⟩ hG hE hA hP hD hS (hst.1 8 (by decide)) hf2 rfl rfl hl.1 (As := []) (rest := [.int z1]) rfl (Nat.le_of_ble_eq_true rfl) dX2_phaseAt_2 ⟨Nat.le_of_ble_eq_true rfl, Nat.le_of_ble_eq_true rfl⟩) hA hD hS (fun r3 L4 f5 H locs hp6 hP hD hS => ?_)
  obtain ⟨eL7L, eL7T, eL7R⟩ := hp6
  have eL7L : L4 = L := eL7L
  have eL7T : f5 = f := eL7T
  rw [eL7L, eL7T] at hP hD
  have eL7R : In r3 2 3 := eL7R
  refine lv_idiv hx hb dX2_phaseAt_5 (In.ne0 eL7R (by decide)) ?_
  refine lv_topi (fun x8 ex8 => ?_)
  have hb9 : In x8 0 9 := ex8 ▸ In.div hz1 eL7R (by decide) (by decide) (by decide) (by decide)
  exact ret_i (ty := .int) hx hb hr hlocks (rfl) hP hD hS (Nat.le_of_ble_eq_true rfl) (Nat.le_of_ble_eq_true rfl) (⟨rfl, rfl, hb9⟩) dX2_phaseAt_6

abbrev rm_X2_turnAt_ru : Room := { frames := 1, cells := 0, slots := 0, locals := 20 }
abbrev po_X2_turnAt_ru (g : GG) (ad : Nat → Nat) (th : Nat → Int) (L : List Nat) (f : HP) (z1 : Int32) : Int32 → (List Nat × HP) → Prop := fun r u => u.1 = L ∧ u.2 = f ∧ In r 0 2
set_option maxHeartbeats 4000000 in
set_option maxRecDepth 100000 in
theorem s_X2_turnAt_ru (l : Launch) (g : GG) (ad : Nat → Nat) (th : Nat → Int) (L : List Nat) (f : HP) (sz : Nat) (z1 : Int32) (hst : ST ad L) (hT : TI g ad th f) (hz1 : In z1 0 18) : MtI l g yX2_turnAt cX2_turnAt 2 (some .int) rm_X2_turnAt_ru [.ref (ad 8), .int z1] L f sz (po_X2_turnAt_ru g ad th L f z1) := by
  refine MtI.of (by decide +kernel) (Nat.le_of_ble_eq_true rfl) ?_
  intro p e s m below meth c A hEn hP hD hS ls hl
  obtain ⟨hx, hb, hr, hml, hown, hlocks, hts, hG, hA, hE, hnm⟩ := hEn
  have hown : s.vm.findClass "RulerWord$Council" = some m.cls := hown
  have hl : lv_has ls 2 [(0, .ref (ad 8)), (1, .int z1)] := hl
  refine lv_iload_n hx hb dX2_turnAt_0 rfl (lv_at hl 1 rfl) ?_
  refine lv_aload_n hx hb dX2_turnAt_1 rfl (lv_at hl 0 rfl) ?_
  obtain ⟨v0_1, v1_1, v2_1, v3_1, v4_1, v5_1, v6_1, v7_1, hf2, hv0_1, hv1_1, hv2_1, hv3_1, hv5_1, hv6_1⟩ := hT.1 8 (by decide)
  refine call_i (run_V (rm := rm_X2_rounds_ru) hx hb hml hown hts (s_X2_rounds_ru l g ad th _ _ _  hst hT ) cV_X2_rounds wg_738 ⟨Nat.le_of_ble_eq_true rfl, Nat.le_of_ble_eq_true rfl⟩ hG hE hA hP hD hS (hst.1 8 (by decide)) hf2 rfl rfl hl.1 (As := []) (rest := [.int z1]) rfl (Nat.le_of_ble_eq_true rfl) dX2_turnAt_2 ⟨Nat.le_of_ble_eq_true rfl, Nat.le_of_ble_eq_true rfl⟩) hA hD hS (fun r3 L4 f5 H locs hp6 hP hD hS => ?_)
  obtain ⟨eL7L, eL7T, eL7R⟩ := hp6
  have eL7L : L4 = L := eL7L
  have eL7T : f5 = f := eL7T
  rw [eL7L, eL7T] at hP hD
  have eL7R : In r3 2 3 := eL7R
  refine lv_irem hx hb dX2_turnAt_5 (In.ne0 eL7R (by decide)) ?_
  refine lv_topi (fun x8 ex8 => ?_)
  have hb9 : In x8 0 2 := ex8 ▸ In.rem hz1 eL7R (by decide) (by decide) (by decide)
  exact ret_i (ty := .int) hx hb hr hlocks (rfl) hP hD hS (Nat.le_of_ble_eq_true rfl) (Nat.le_of_ble_eq_true rfl) (⟨rfl, rfl, hb9⟩) dX2_turnAt_6

abbrev rm_X2_ruler_ru : Room := { frames := 0, cells := 0, slots := 0, locals := 0 }
abbrev po_X2_ruler_ru (g : GG) (ad : Nat → Nat) (th : Nat → Int) (L : List Nat) (f : HP) (z1 : Int32) : Int32 → (List Nat × HP) → Prop := fun r u => u.1 = L ∧ u.2 = f ∧ In r 0 8
set_option maxHeartbeats 4000000 in
set_option maxRecDepth 100000 in
theorem s_X2_ruler_ru (l : Launch) (g : GG) (ad : Nat → Nat) (th : Nat → Int) (L : List Nat) (f : HP) (sz : Nat) (z1 : Int32) (hst : ST ad L) (hT : TI g ad th f) (hz1 : In z1 0 6) : MtI l g yX2_ruler cX2_ruler 2 (some .int) rm_X2_ruler_ru [.ref (ad 8), .int z1] L f sz (po_X2_ruler_ru g ad th L f z1) := by
  refine MtI.of (by decide +kernel) (Nat.le_of_ble_eq_true rfl) ?_
  intro p e s m below meth c A hEn hP hD hS ls hl
  obtain ⟨hx, hb, hr, hml, hown, hlocks, hts, hG, hA, hE, hnm⟩ := hEn
  have hown : s.vm.findClass "RulerWord$Council" = some m.cls := hown
  have hl : lv_has ls 2 [(0, .ref (ad 8)), (1, .int z1)] := hl
  refine lv_aload_n hx hb dX2_ruler_0 rfl (lv_at hl 0 rfl) ?_
  obtain ⟨v0_1, v1_1, v2_1, v3_1, v4_1, v5_1, v6_1, v7_1, hf2, hv0_1, hv1_1, hv2_1, hv3_1, hv5_1, hv6_1⟩ := hT.1 8 (by decide)
  refine pl_get (v := .int v1_1) hx hb hts (fun w h => mT (inX2 w h)) hown hG.1 hP (hst.1 8 (by decide)) hf2 rfl 1 (by decide) (hts _ (mT wg_228)) (fun _ h => h) rfl dX2_ruler_1 ?_
  refine lv_if_le (tgt := 16) hx hb dX2_ruler_4 (by decide) (fun c3 => ?_) (fun c3 => ?_)
  ·
    have cc4 : v1_1.toInt ≤ (0 : Int32).toInt := i32_le.mp c3
    have hb5 : In v1_1 0 0 := In.le1 hv1_1 (⟨by decide, by decide⟩ : In 0 0 0) cc4 (by omega) (by omega)
    refine lv_iconst (v := 0) hx hb dX2_ruler_16 (by decide) ?_
    exact ret_i (ty := .int) hx hb hr hlocks (rfl) hP hD hS (Nat.le_of_ble_eq_true rfl) (Nat.le_of_ble_eq_true rfl) (⟨rfl, rfl, (⟨by decide, by decide⟩ : In 0 0 8)⟩) dX2_ruler_17
  ·
    have cc6 : (0 : Int32).toInt < v1_1.toInt := i32_nle c3
    have hb7 : In v1_1 1 9 := In.gt1 hv1_1 (⟨by decide, by decide⟩ : In 0 0 0) cc6 (by omega) (by omega)
    refine lv_iload_n hx hb dX2_ruler_7 rfl (lv_at hl 1 rfl) ?_
    refine lv_aload_n hx hb dX2_ruler_8 rfl (lv_at hl 0 rfl) ?_
    refine pl_get (v := .int v1_1) hx hb hts (fun w h => mT (inX2 w h)) hown hG.1 hP (hst.1 8 (by decide)) hf2 rfl 1 (by decide) (hts _ (mT wg_228)) (fun _ h => h) rfl dX2_ruler_9 ?_
    refine lv_irem hx hb dX2_ruler_12 (In.ne0 hb7 (by decide)) ?_
    refine lv_topi (fun x8 ex8 => ?_)
    have hb9 : In x8 0 6 := ex8 ▸ In.rem hz1 hb7 (by decide) (by decide) (by decide)
    refine lv_goto (tgt := 17) hx hb dX2_ruler_13 (by decide) ?_
    exact ret_i (ty := .int) hx hb hr hlocks (rfl) hP hD hS (Nat.le_of_ble_eq_true rfl) (Nat.le_of_ble_eq_true rfl) (⟨rfl, rfl, (In.mono hb9 (by decide) (by decide))⟩) dX2_ruler_17

abbrev rm_X2_everybody_ru : Room := { frames := 0, cells := 0, slots := 0, locals := 0 }
abbrev po_X2_everybody_ru (g : GG) (ad : Nat → Nat) (th : Nat → Int) (L : List Nat) (f : HP)  : Int32 → (List Nat × HP) → Prop := fun r u => u.1 = L ∧ u.2 = f ∧ In r 0 511
set_option maxHeartbeats 4000000 in
set_option maxRecDepth 100000 in
theorem s_X2_everybody_ru (l : Launch) (g : GG) (ad : Nat → Nat) (th : Nat → Int) (L : List Nat) (f : HP) (sz : Nat)  (hst : ST ad L) (hT : TI g ad th f)  : MtI l g yX2_everybody cX2_everybody 1 (some .int) rm_X2_everybody_ru [.ref (ad 8)] L f sz (po_X2_everybody_ru g ad th L f ) := by
  refine MtI.of (by decide +kernel) (Nat.le_of_ble_eq_true rfl) ?_
  intro p e s m below meth c A hEn hP hD hS ls hl
  obtain ⟨hx, hb, hr, hml, hown, hlocks, hts, hG, hA, hE, hnm⟩ := hEn
  have hown : s.vm.findClass "RulerWord$Council" = some m.cls := hown
  have hl : lv_has ls 1 [(0, .ref (ad 8))] := hl
  refine lv_iconst (v := 1) hx hb dX2_everybody_0 (by decide) ?_
  refine lv_aload_n hx hb dX2_everybody_1 rfl (lv_at hl 0 rfl) ?_
  obtain ⟨v0_1, v1_1, v2_1, v3_1, v4_1, v5_1, v6_1, v7_1, hf2, hv0_1, hv1_1, hv2_1, hv3_1, hv5_1, hv6_1⟩ := hT.1 8 (by decide)
  refine pl_get (v := .int v1_1) hx hb hts (fun w h => mT (inX2 w h)) hown hG.1 hP (hst.1 8 (by decide)) hf2 rfl 1 (by decide) (hts _ (mT wg_228)) (fun _ h => h) rfl dX2_everybody_2 ?_
  refine lv_ishl hx hb dX2_everybody_5 ?_
  refine lv_topi (fun x3 ex3 => ?_)
  have hb4 : In x3 1 512 := ex3 ▸ In.shl (⟨by decide, by decide⟩ : In 1 1 1) hv1_1 (by decide) (by decide) (by decide) (by decide) (by decide) (by decide)
  refine lv_iconst (v := 1) hx hb dX2_everybody_6 (by decide) ?_
  refine lv_isub hx hb dX2_everybody_7 ?_
  refine lv_topi (fun x5 ex5 => ?_)
  have hb6 : In x5 0 511 := ex5 ▸ In.sub hb4 (⟨by decide, by decide⟩ : In 1 1 1) (by decide) (by decide) (by decide) (by decide)
  have et7 : x5.toInt = x3.toInt + (-1) := In.sube ex5 hb4 (k := 1) (by decide) (by decide) (by decide)
  exact ret_i (ty := .int) hx hb hr hlocks (rfl) hP hD hS (Nat.le_of_ble_eq_true rfl) (Nat.le_of_ble_eq_true rfl) (⟨rfl, rfl, hb6⟩) dX2_everybody_8

abbrev rm_X2_foretold_ru : Room := { frames := 0, cells := 0, slots := 0, locals := 0 }
abbrev po_X2_foretold_ru (g : GG) (ad : Nat → Nat) (th : Nat → Int) (L : List Nat) (f : HP)  : Int32 → (List Nat × HP) → Prop := fun _ u => u.1 = L ∧ u.2 = f
set_option maxHeartbeats 4000000 in
set_option maxRecDepth 100000 in
theorem s_X2_foretold_ru (l : Launch) (g : GG) (ad : Nat → Nat) (th : Nat → Int) (L : List Nat) (f : HP) (sz : Nat)  (hst : ST ad L) (hT : TI g ad th f)  : MtI l g yX2_foretold cX2_foretold 2 (some .int) rm_X2_foretold_ru [.ref (ad 8)] L f sz (po_X2_foretold_ru g ad th L f ) := by
  refine MtI.of (by decide +kernel) (Nat.le_of_ble_eq_true rfl) ?_
  intro p e s m below meth c A hEn hP hD hS ls hl
  obtain ⟨hx, hb, hr, hml, hown, hlocks, hts, hG, hA, hE, hnm⟩ := hEn
  have hown : s.vm.findClass "RulerWord$Council" = some m.cls := hown
  have hl : lv_has ls 2 [(0, .ref (ad 8))] := hl
  refine lv_aload_n hx hb dX2_foretold_0 rfl (lv_at hl 0 rfl) ?_
  obtain ⟨v0_1, v1_1, v2_1, v3_1, v4_1, v5_1, v6_1, v7_1, hf2, hv0_1, hv1_1, hv2_1, hv3_1, hv5_1, hv6_1⟩ := hT.1 8 (by decide)
  refine pl_get (v := .int v1_1) hx hb hts (fun w h => mT (inX2 w h)) hown hG.1 hP (hst.1 8 (by decide)) hf2 rfl 1 (by decide) (hts _ (mT wg_228)) (fun _ h => h) rfl dX2_foretold_1 ?_
  refine lv_aload_n hx hb dX2_foretold_4 rfl (lv_at hl 0 rfl) ?_
  refine pl_get (v := .int v1_1) hx hb hts (fun w h => mT (inX2 w h)) hown hG.1 hP (hst.1 8 (by decide)) hf2 rfl 1 (by decide) (hts _ (mT wg_228)) (fun _ h => h) rfl dX2_foretold_5 ?_
  refine lv_imul hx hb dX2_foretold_8 ?_
  refine lv_topi (fun x3 ex3 => ?_)
  have hb4 : In x3 0 81 := ex3 ▸ In.mul hv1_1 hv1_1 (by decide) (by decide) (by decide) (by decide) (by decide)
  refine lv_istore_n (lv' := [(1, .int x3), (0, .ref (ad 8))]) hx hb dX2_foretold_9 rfl hl (by decide) rfl (fun ls hl => ?_)
  refine lv_aload_n hx hb dX2_foretold_10 rfl (lv_at hl 1 rfl) ?_
  refine pl_get (v := .int v0_1) hx hb hts (fun w h => mT (inX2 w h)) hown hG.1 hP (hst.1 8 (by decide)) hf2 rfl 0 (by decide) (hts _ (mT wg_224)) (fun _ h => h) rfl dX2_foretold_11 ?_
  refine lv_if_ne (tgt := 35) hx hb dX2_foretold_14 (by decide) (fun c5 => ?_) (fun c5 => ?_)
  ·
    have cc6 : v0_1.toInt ≠ (0 : Int32).toInt := i32_ne c5
    have hb7 : In v0_1 1 1 := In.ne1 hv0_1 (⟨by decide, by decide⟩ : In 0 0 0) cc6 (by omega) (by omega)
    refine lv_aload_n hx hb dX2_foretold_35 rfl (lv_at hl 1 rfl) ?_
    refine pl_get (v := .int v3_1) hx hb hts (fun w h => mT (inX2 w h)) hown hG.1 hP (hst.1 8 (by decide)) hf2 rfl 3 (by decide) (hts _ (mT wg_234)) (fun _ h => h) rfl dX2_foretold_36 ?_
    refine lv_iload_n hx hb dX2_foretold_39 rfl (lv_at hl 0 rfl) ?_
    refine lv_iconst (v := 1) hx hb dX2_foretold_40 (by decide) ?_
    refine lv_isub hx hb dX2_foretold_41 ?_
    refine lv_topi (fun x8 ex8 => ?_)
    have hb9 : In x8 (-1) 80 := ex8 ▸ In.sub hb4 (⟨by decide, by decide⟩ : In 1 1 1) (by decide) (by decide) (by decide) (by decide)
    have et10 : x8.toInt = x3.toInt + (-1) := In.sube ex8 hb4 (k := 1) (by decide) (by decide) (by decide)
    refine lv_imul hx hb dX2_foretold_42 ?_
    refine lv_topi (fun x11 ex11 => ?_)
    exact ret_i (ty := .int) hx hb hr hlocks (rfl) hP hD hS (Nat.le_of_ble_eq_true rfl) (Nat.le_of_ble_eq_true rfl) (⟨rfl, rfl⟩) dX2_foretold_43
  ·
    have cc12 : v0_1.toInt = (0 : Int32).toInt := congrArg Int32.toInt c5
    have hb13 : In v0_1 0 0 := In.eq1 hv0_1 (⟨by decide, by decide⟩ : In 0 0 0) cc12 (by omega) (by omega)
    refine lv_aload_n hx hb dX2_foretold_17 rfl (lv_at hl 1 rfl) ?_
    refine pl_get (v := .int v3_1) hx hb hts (fun w h => mT (inX2 w h)) hown hG.1 hP (hst.1 8 (by decide)) hf2 rfl 3 (by decide) (hts _ (mT wg_234)) (fun _ h => h) rfl dX2_foretold_18 ?_
    refine lv_iconst (v := 2) hx hb dX2_foretold_21 (by decide) ?_
    refine lv_iload_n hx hb dX2_foretold_22 rfl (lv_at hl 0 rfl) ?_
    refine lv_imul hx hb dX2_foretold_23 ?_
    refine lv_topi (fun x14 ex14 => ?_)
    have hb15 : In x14 0 162 := ex14 ▸ In.mul (⟨by decide, by decide⟩ : In 2 2 2) hb4 (by decide) (by decide) (by decide) (by decide) (by decide)
    refine lv_aload_n hx hb dX2_foretold_24 rfl (lv_at hl 1 rfl) ?_
    refine pl_get (v := .int v1_1) hx hb hts (fun w h => mT (inX2 w h)) hown hG.1 hP (hst.1 8 (by decide)) hf2 rfl 1 (by decide) (hts _ (mT wg_228)) (fun _ h => h) rfl dX2_foretold_25 ?_
    refine lv_isub hx hb dX2_foretold_28 ?_
    refine lv_topi (fun x16 ex16 => ?_)
    have hb17 : In x16 (-9) 162 := ex16 ▸ In.sub hb15 hv1_1 (by decide) (by decide) (by decide) (by decide)
    have et18 : x16.toInt = x14.toInt - v1_1.toInt := In.sub2e ex16 hb15 hv1_1 (by decide) (by decide)
    refine lv_iconst (v := 1) hx hb dX2_foretold_29 (by decide) ?_
    refine lv_isub hx hb dX2_foretold_30 ?_
    refine lv_topi (fun x19 ex19 => ?_)
    have hb20 : In x19 (-10) 161 := ex19 ▸ In.sub hb17 (⟨by decide, by decide⟩ : In 1 1 1) (by decide) (by decide) (by decide) (by decide)
    have et21 : x19.toInt = x16.toInt + (-1) := In.sube ex19 hb17 (k := 1) (by decide) (by decide) (by decide)
    refine lv_imul hx hb dX2_foretold_31 ?_
    refine lv_topi (fun x22 ex22 => ?_)
    refine lv_goto (tgt := 43) hx hb dX2_foretold_32 (by decide) ?_
    exact ret_i (ty := .int) hx hb hr hlocks (rfl) hP hD hS (Nat.le_of_ble_eq_true rfl) (Nat.le_of_ble_eq_true rfl) (⟨rfl, rfl⟩) dX2_foretold_43

abbrev rm_X2_freeLetters_ru : Room := { frames := 1, cells := 0, slots := 0, locals := 21 }
abbrev po_X2_freeLetters_ru (g : GG) (ad : Nat → Nat) (th : Nat → Int) (L : List Nat) (f : HP) (z1 : Int32) (z2 : Int32) : Int32 → (List Nat × HP) → Prop := fun _ u => u.1 = L ∧ u.2 = f
set_option maxHeartbeats 4000000 in
set_option maxRecDepth 100000 in
theorem s_X2_freeLetters_ru (l : Launch) (g : GG) (ad : Nat → Nat) (th : Nat → Int) (L : List Nat) (f : HP) (sz : Nat) (z1 : Int32) (z2 : Int32) (hst : ST ad L) (hT : TI g ad th f) (hz2 : In z2 (-1) 6) : MtI l g yX2_freeLetters cX2_freeLetters 7 (some .int) rm_X2_freeLetters_ru [.ref (ad 8), .int z1, .int z2] L f sz (po_X2_freeLetters_ru g ad th L f z1 z2) := by
  refine MtI.of (by decide +kernel) (Nat.le_of_ble_eq_true rfl) ?_
  intro p e s m below meth c A hEn hP hD hS ls hl
  obtain ⟨hx, hb, hr, hml, hown, hlocks, hts, hG, hA, hE, hnm⟩ := hEn
  have hown : s.vm.findClass "RulerWord$Council" = some m.cls := hown
  have hl : lv_has ls 7 [(0, .ref (ad 8)), (1, .int z1), (2, .int z2)] := hl
  refine lv_iload_n hx hb dX2_freeLetters_0 rfl (lv_at hl 1 rfl) ?_
  refine call_i (run_S (rm := rm_J6_bitCount_0f7a4) hx hb hml hown hts (s_J6_bitCount_0f7a4 l g ad th _ _ _ z1 hst hT ) cS_J6_bitCount_0f7a4 wg_1026 ⟨Nat.le_of_ble_eq_true rfl, Nat.le_of_ble_eq_true rfl⟩ hG hE hA hP hD hS rfl hl.1 (As := [.int z1]) (rest := []) rfl (Nat.le_of_ble_eq_true rfl) dX2_freeLetters_1 ⟨Nat.le_of_ble_eq_true rfl, Nat.le_of_ble_eq_true rfl⟩) hA hD hS (fun r1 L2 f3 H locs hp4 hP hD hS => ?_)
  obtain ⟨eL5L, eL5T, eL5R, eL5X0⟩ := hp4
  have eL5L : L2 = L := eL5L
  have eL5T : f3 = f := eL5T
  rw [eL5L, eL5T] at hP hD
  have eL5R : In r1 0 63 := eL5R
  refine lv_istore_n (lv' := [(3, .int r1), (0, .ref (ad 8)), (1, .int z1), (2, .int z2)]) hx hb dX2_freeLetters_4 rfl hl (by decide) rfl (fun ls hl => ?_)
  refine lv_aload_n hx hb dX2_freeLetters_5 rfl (lv_at hl 1 rfl) ?_
  obtain ⟨v0_6, v1_6, v2_6, v3_6, v4_6, v5_6, v6_6, v7_6, hf7, hv0_6, hv1_6, hv2_6, hv3_6, hv5_6, hv6_6⟩ := hT.1 8 (by decide)
  refine pl_get (v := .int v1_6) hx hb hts (fun w h => mT (inX2 w h)) hown hG.1 hP (hst.1 8 (by decide)) hf7 rfl 1 (by decide) (hts _ (mT wg_228)) (fun _ h => h) rfl dX2_freeLetters_6 ?_
  refine lv_iload_n hx hb dX2_freeLetters_9 rfl (lv_at hl 0 rfl) ?_
  refine lv_isub hx hb dX2_freeLetters_10 ?_
  refine lv_topi (fun x8 ex8 => ?_)
  have hb9 : In x8 (-63) 9 := ex8 ▸ In.sub hv1_6 eL5R (by decide) (by decide) (by decide) (by decide)
  have et10 : x8.toInt = v1_6.toInt - r1.toInt := In.sub2e ex8 hv1_6 eL5R (by decide) (by decide)
  refine lv_istore (lv' := [(4, .int x8), (3, .int r1), (0, .ref (ad 8)), (1, .int z1), (2, .int z2)]) hx hb dX2_freeLetters_11 hl (by decide) rfl (fun ls hl => ?_)
  refine lv_iload_n hx hb dX2_freeLetters_13 rfl (lv_at hl 4 rfl) ?_
  refine lv_aload_n hx hb dX2_freeLetters_14 rfl (lv_at hl 2 rfl) ?_
  refine call_i (run_V (rm := rm_X2_rounds_ru) hx hb hml hown hts (s_X2_rounds_ru l g ad th _ _ _  hst hT ) cV_X2_rounds wg_738 ⟨Nat.le_of_ble_eq_true rfl, Nat.le_of_ble_eq_true rfl⟩ hG hE hA hP hD hS (hst.1 8 (by decide)) hf7 rfl rfl hl.1 (As := []) (rest := [.int z2]) rfl (Nat.le_of_ble_eq_true rfl) dX2_freeLetters_15 ⟨Nat.le_of_ble_eq_true rfl, Nat.le_of_ble_eq_true rfl⟩) hA hD hS (fun r11 L12 f13 H locs hp14 hP hD hS => ?_)
  obtain ⟨eL15L, eL15T, eL15R⟩ := hp14
  have eL15L : L12 = L := eL15L
  have eL15T : f13 = f := eL15T
  rw [eL15L, eL15T] at hP hD
  have eL15R : In r11 2 3 := eL15R
  refine lv_iconst (v := 1) hx hb dX2_freeLetters_18 (by decide) ?_
  refine lv_isub hx hb dX2_freeLetters_19 ?_
  refine lv_topi (fun x16 ex16 => ?_)
  have hb17 : In x16 1 2 := ex16 ▸ In.sub eL15R (⟨by decide, by decide⟩ : In 1 1 1) (by decide) (by decide) (by decide) (by decide)
  have et18 : x16.toInt = r11.toInt + (-1) := In.sube ex16 eL15R (k := 1) (by decide) (by decide) (by decide)
  refine lv_imul hx hb dX2_freeLetters_20 ?_
  refine lv_topi (fun x19 ex19 => ?_)
  refine lv_iload_n hx hb dX2_freeLetters_21 rfl (lv_at hl 1 rfl) ?_
  refine lv_imul hx hb dX2_freeLetters_22 ?_
  refine lv_topi (fun x20 ex20 => ?_)
  refine lv_iload hx hb dX2_freeLetters_23 (lv_at hl 0 rfl) ?_
  refine lv_imul hx hb dX2_freeLetters_25 ?_
  refine lv_topi (fun x21 ex21 => ?_)
  refine lv_istore (lv' := [(5, .int x21), (4, .int x8), (3, .int r1), (0, .ref (ad 8)), (1, .int z1), (2, .int z2)]) hx hb dX2_freeLetters_26 hl (by decide) rfl (fun ls hl => ?_)
  refine lv_iconst (v := 0) hx hb dX2_freeLetters_28 (by decide) ?_
  refine lv_istore (lv' := [(6, .int 0), (5, .int x21), (4, .int x8), (3, .int r1), (0, .ref (ad 8)), (1, .int z1), (2, .int z2)]) hx hb dX2_freeLetters_29 hl (by decide) rfl (fun ls hl => ?_)
  have hJ31 : ∀ (k31 : Nat) (y31_l5 : Int32) (y31_l6 : Int32) (H : Heap) (locs : List Loc) (ls : Array Slot), In y31_l5 (-2147483648) 2147483647 → In y31_l6 0 6 → va_P g.1 vwCl (va_pl L f) H → va_D A (va_pl L f) → va_S A s.heap H locs → lv_has ls 7 [(0, .ref (ad 8)), (1, .int z1), (2, .int z2), (3, .int r1), (4, .int x8), (5, .int y31_l5), (6, .int y31_l6)] → 6 - y31_l6.toInt < ((k31 : Nat) : Int) → W p l e rm_X2_freeLetters_ru s m [.ref (ad 8), .int z1, .int z2].toArray below meth c H locs 0 0 (MQ below (va_Qi (po_X2_freeLetters_ru g ad th L f z1 z2) (PstB g A) A) [.ref (ad 8), .int z1, .int z2].toArray s rm_X2_freeLetters_ru.cells rm_X2_freeLetters_ru.slots A) (F0 m 31 ls []) := by
    intro k31
    induction k31 with
    | zero =>
      intro y31_l5 y31_l6 H locs ls hy31_l5 hy31_l6 hP hD hS hl hmz31
      exact ms0 hy31_l6 hmz31
    | succ k31 ih31 =>
      intro y31_l5 y31_l6 H locs ls hy31_l5 hy31_l6 hP hD hS hl hmz31
      refine lv_iload hx hb dX2_freeLetters_31 (lv_at hl 6 rfl) ?_
      refine lv_iload_n hx hb dX2_freeLetters_33 rfl (lv_at hl 2 rfl) ?_
      refine lv_icmp_ge (tgt := 68) hx hb dX2_freeLetters_34 (by decide) (fun c22 => ?_) (fun c22 => ?_)
      ·
        refine lv_iload hx hb dX2_freeLetters_68 (lv_at hl 5 rfl) ?_
        exact ret_i (ty := .int) hx hb hr hlocks (rfl) hP hD hS (Nat.le_of_ble_eq_true rfl) (Nat.le_of_ble_eq_true rfl) (⟨rfl, rfl⟩) dX2_freeLetters_70
      ·
        have cc23 : y31_l6.toInt < z2.toInt := i32_nle c22
        have hb24 : In y31_l6 0 5 := In.lt1 hy31_l6 hz2 cc23 (by omega) (by omega)
        have hb25 : In z2 1 6 := In.lt2 hy31_l6 hz2 cc23 (by omega) (by omega)
        refine lv_iload hx hb dX2_freeLetters_37 (lv_at hl 5 rfl) ?_
        refine lv_iload_n hx hb dX2_freeLetters_39 rfl (lv_at hl 1 rfl) ?_
        refine lv_aload_n hx hb dX2_freeLetters_40 rfl (lv_at hl 0 rfl) ?_
        refine lv_iload hx hb dX2_freeLetters_41 (lv_at hl 6 rfl) ?_
        refine call_i (run_V (rm := rm_X2_ruler_ru) hx hb hml hown hts (s_X2_ruler_ru l g ad th _ _ _ y31_l6 hst hT (In.mono hb24 (by decide) (by decide))) cV_X2_ruler wg_1027 ⟨Nat.le_of_ble_eq_true rfl, Nat.le_of_ble_eq_true rfl⟩ hG hE hA hP hD hS (hst.1 8 (by decide)) hf7 rfl rfl hl.1 (As := [.int y31_l6]) (rest := [.int z1, .int y31_l5]) rfl (Nat.le_of_ble_eq_true rfl) dX2_freeLetters_43 ⟨Nat.le_of_ble_eq_true rfl, Nat.le_of_ble_eq_true rfl⟩) hA hD hS (fun r26 L27 f28 H locs hp29 hP hD hS => ?_)
        obtain ⟨eL30L, eL30T, eL30R⟩ := hp29
        have eL30L : L27 = L := eL30L
        have eL30T : f28 = f := eL30T
        rw [eL30L, eL30T] at hP hD
        have eL30R : In r26 0 8 := eL30R
        refine call_i (run_SN (rm := rm_X10_bit) hx hb hml hown hts (s_X10_bit l g ad th _ _ _ z1 r26 hst hT ) cS_X10_bit wn_644 ⟨Nat.le_of_ble_eq_true rfl, Nat.le_of_ble_eq_true rfl⟩ hG hE hA hP hD hS rfl hl.1 (As := [.int z1, .int r26]) (rest := [.int y31_l5]) rfl (Nat.le_of_ble_eq_true rfl) dX2_freeLetters_46 ⟨Nat.le_of_ble_eq_true rfl, Nat.le_of_ble_eq_true rfl⟩) hA hD hS (fun r31 L32 f33 H locs hp34 hP hD hS => ?_)
        obtain ⟨eL35L, eL35T, eL35R, eL35X0⟩ := hp34
        have eL35L : L32 = L := eL35L
        have eL35T : f33 = f := eL35T
        rw [eL35L, eL35T] at hP hD
        have eL35R : In r31 0 1 := eL35R
        refine lv_iconst (v := 1) hx hb dX2_freeLetters_49 (by decide) ?_
        have hJ59 : ∀ (y59_s0 : Int32) (H : Heap) (locs : List Loc) (ls : Array Slot), In y59_s0 (-63) 9 → va_P g.1 vwCl (va_pl L f) H → va_D A (va_pl L f) → va_S A s.heap H locs → lv_has ls 7 [(0, .ref (ad 8)), (1, .int z1), (2, .int z2), (3, .int r1), (4, .int x8), (5, .int y31_l5), (6, .int y31_l6)] → W p l e rm_X2_freeLetters_ru s m [.ref (ad 8), .int z1, .int z2].toArray below meth c H locs 0 0 (MQ below (va_Qi (po_X2_freeLetters_ru g ad th L f z1 z2) (PstB g A) A) [.ref (ad 8), .int z1, .int z2].toArray s rm_X2_freeLetters_ru.cells rm_X2_freeLetters_ru.slots A) (F0 m 59 ls [.int y59_s0, .int y31_l5]) := by
          intro y59_s0 H locs ls hy59_s0 hP hD hS hl
          refine lv_iadd hx hb dX2_freeLetters_59 ?_
          refine lv_topi (fun x36 ex36 => ?_)
          refine lv_istore (lv' := [(5, .int x36), (0, .ref (ad 8)), (1, .int z1), (2, .int z2), (3, .int r1), (4, .int x8), (6, .int y31_l6)]) hx hb dX2_freeLetters_60 hl (by decide) rfl (fun ls hl => ?_)
          obtain ⟨x37, ex37⟩ : ∃ y : Int32, y = y31_l6 + 1 := ⟨_, rfl⟩
          have hb38 : In x37 1 6 := ex37 ▸ In.add hb24 (⟨by decide, by decide⟩ : In 1 1 1) (by decide) (by decide) (by decide) (by decide)
          have et39 : x37.toInt = y31_l6.toInt + 1 := In.adde ex37 hb24 (k := 1) (by decide) (by decide) (by decide)
          refine lv_iinc (v := x37) (lv' := [(6, .int x37), (5, .int x36), (0, .ref (ad 8)), (1, .int z1), (2, .int z2), (3, .int r1), (4, .int x8)]) hx hb dX2_freeLetters_62 hl (k := 6) rfl (by rw [ex37]; rfl) (by decide) rfl (fun ls hl => ?_)
          refine lv_goto (tgt := 31) hx hb dX2_freeLetters_65 (by decide) ?_
          exact ih31 x36 x37 _ _ _ (In.full x36) (In.mono hb38 (by decide) (by decide)) hP hD hS (lv_sub hl [2, 3, 4, 5, 6, 1, 0] rfl) (msu et39 (by decide) hmz31)
        refine lv_icmp_ne (tgt := 58) hx hb dX2_freeLetters_50 (by decide) (fun c40 => ?_) (fun c40 => ?_)
        ·
          have cc41 : r31.toInt ≠ (1 : Int32).toInt := i32_ne c40
          have hb42 : In r31 0 0 := In.ne1 eL35R (⟨by decide, by decide⟩ : In 1 1 1) cc41 (by omega) (by omega)
          refine lv_iconst (v := 0) hx hb dX2_freeLetters_58 (by decide) ?_
          exact hJ59 0 _ _ _ (⟨by decide, by decide⟩ : In 0 (-63) 9) hP hD hS (lv_sub hl [0, 1, 2, 3, 4, 5, 6] rfl)
        ·
          have cc43 : r31.toInt = (1 : Int32).toInt := congrArg Int32.toInt c40
          have hb44 : In r31 1 1 := In.eq1 eL35R (⟨by decide, by decide⟩ : In 1 1 1) cc43 (by omega) (by omega)
          refine lv_iload hx hb dX2_freeLetters_53 (lv_at hl 4 rfl) ?_
          refine lv_goto (tgt := 59) hx hb dX2_freeLetters_55 (by decide) ?_
          exact hJ59 x8 _ _ _ hb9 hP hD hS (lv_sub hl [0, 1, 2, 3, 4, 5, 6] rfl)
  exact hJ31 ((6 - (0 : Int32).toInt).toNat + 1) x21 0 _ _ _ (In.full x21) (⟨by decide, by decide⟩ : In 0 0 6) hP hD hS (lv_sub hl [4, 5, 6, 3, 2, 1, 0] rfl) (msI _)

abbrev rm_X2_offer_ru : Room := { frames := 0, cells := 0, slots := 0, locals := 0 }
abbrev po_X2_offer_ru (g : GG) (ad : Nat → Nat) (th : Nat → Int) (L : List Nat) (f : HP) (z1 : Int32) (z2 : Int32) : Int32 → (List Nat × HP) → Prop := fun r u => u.1 = L ∧ u.2 = f ∧ In r 0 2
set_option maxHeartbeats 4000000 in
set_option maxRecDepth 100000 in
theorem s_X2_offer_ru (l : Launch) (g : GG) (ad : Nat → Nat) (th : Nat → Int) (L : List Nat) (f : HP) (sz : Nat) (z1 : Int32) (z2 : Int32) (hst : ST ad L) (hT : TI g ad th f)  : MtI l g yX2_offer cX2_offer 4 (some .int) rm_X2_offer_ru [.ref (ad 8), .int z1, .int z2] L f sz (po_X2_offer_ru g ad th L f z1 z2) := by
  refine MtI.of (by decide +kernel) (Nat.le_of_ble_eq_true rfl) ?_
  intro p e s m below meth c A hEn hP hD hS ls hl
  obtain ⟨hx, hb, hr, hml, hown, hlocks, hts, hG, hA, hE, hnm⟩ := hEn
  have hown : s.vm.findClass "RulerWord$Council" = some m.cls := hown
  have hl : lv_has ls 4 [(0, .ref (ad 8)), (1, .int z1), (2, .int z2)] := hl
  refine lv_aload_n hx hb dX2_offer_0 rfl (lv_at hl 0 rfl) ?_
  obtain ⟨v0_1, v1_1, v2_1, v3_1, v4_1, v5_1, v6_1, v7_1, hf2, hv0_1, hv1_1, hv2_1, hv3_1, hv5_1, hv6_1⟩ := hT.1 8 (by decide)
  refine pl_get (v := .int v1_1) hx hb hts (fun w h => mT (inX2 w h)) hown hG.1 hP (hst.1 8 (by decide)) hf2 rfl 1 (by decide) (hts _ (mT wg_228)) (fun _ h => h) rfl dX2_offer_1 ?_
  refine lv_aload_n hx hb dX2_offer_4 rfl (lv_at hl 0 rfl) ?_
  refine pl_get (v := .int v2_1) hx hb hts (fun w h => mT (inX2 w h)) hown hG.1 hP (hst.1 8 (by decide)) hf2 rfl 2 (by decide) (hts _ (mT wg_232)) (fun _ h => h) rfl dX2_offer_5 ?_
  refine lv_isub hx hb dX2_offer_8 ?_
  refine lv_topi (fun x3 ex3 => ?_)
  have hb4 : In x3 (-4) 10 := ex3 ▸ In.sub hv1_1 hv2_1 (by decide) (by decide) (by decide) (by decide)
  have et5 : x3.toInt = v1_1.toInt - v2_1.toInt := In.sub2e ex3 hv1_1 hv2_1 (by decide) (by decide)
  refine lv_istore_n (lv' := [(3, .int x3), (0, .ref (ad 8)), (1, .int z1), (2, .int z2)]) hx hb dX2_offer_9 rfl hl (by decide) rfl (fun ls hl => ?_)
  refine lv_iload_n hx hb dX2_offer_10 rfl (lv_at hl 2 rfl) ?_
  refine lv_iload_n hx hb dX2_offer_11 rfl (lv_at hl 0 rfl) ?_
  refine lv_icmp_lt (tgt := 17) hx hb dX2_offer_12 (by decide) (fun c6 => ?_) (fun c6 => ?_)
  ·
    have cc7 : z1.toInt < x3.toInt := i32_lt.mp c6
    have hb8 : In z1 (-2147483648) 9 := In.lt1 (In.full z1) hb4 cc7 (by omega) (by omega)
    refine lv_iload_n hx hb dX2_offer_17 rfl (lv_at hl 3 rfl) ?_
    refine lv_iload_n hx hb dX2_offer_18 rfl (lv_at hl 0 rfl) ?_
    refine lv_icmp_lt (tgt := 26) hx hb dX2_offer_19 (by decide) (fun c9 => ?_) (fun c9 => ?_)
    ·
      have cc10 : z2.toInt < x3.toInt := i32_lt.mp c9
      have hb11 : In z2 (-2147483648) 9 := In.lt1 (In.full z2) hb4 cc10 (by omega) (by omega)
      refine lv_iconst (v := 2) hx hb dX2_offer_26 (by decide) ?_
      exact ret_i (ty := .int) hx hb hr hlocks (rfl) hP hD hS (Nat.le_of_ble_eq_true rfl) (Nat.le_of_ble_eq_true rfl) (⟨rfl, rfl, (⟨by decide, by decide⟩ : In 2 0 2)⟩) dX2_offer_27
    ·
      have cc12 : x3.toInt ≤ z2.toInt := i32_nlt c9
      have hb13 : In z2 (-4) 2147483647 := In.ge1 (In.full z2) hb4 cc12 (by omega) (by omega)
      refine lv_iconst (v := 1) hx hb dX2_offer_22 (by decide) ?_
      refine lv_goto (tgt := 27) hx hb dX2_offer_23 (by decide) ?_
      exact ret_i (ty := .int) hx hb hr hlocks (rfl) hP hD hS (Nat.le_of_ble_eq_true rfl) (Nat.le_of_ble_eq_true rfl) (⟨rfl, rfl, (⟨by decide, by decide⟩ : In 1 0 2)⟩) dX2_offer_27
  ·
    have cc14 : x3.toInt ≤ z1.toInt := i32_nlt c6
    have hb15 : In z1 (-4) 2147483647 := In.ge1 (In.full z1) hb4 cc14 (by omega) (by omega)
    refine lv_iconst (v := 0) hx hb dX2_offer_15 (by decide) ?_
    exact ret_i (ty := .int) hx hb hr hlocks (rfl) hP hD hS (Nat.le_of_ble_eq_true rfl) (Nat.le_of_ble_eq_true rfl) (⟨rfl, rfl, (⟨by decide, by decide⟩ : In 0 0 2)⟩) dX2_offer_16

abbrev rm_X2_view_ru : Room := { frames := 1, cells := 0, slots := 0, locals := 13 }
abbrev po_X2_view_ru (g : GG) (ad : Nat → Nat) (th : Nat → Int) (L : List Nat) (f : HP) (z1 : Int32) (z2 : Int32) : Int32 → (List Nat × HP) → Prop := fun r u => u.1 = L ∧ u.2 = f ∧ In r 0 6
set_option maxHeartbeats 4000000 in
set_option maxRecDepth 100000 in
theorem s_X2_view_ru (l : Launch) (g : GG) (ad : Nat → Nat) (th : Nat → Int) (L : List Nat) (f : HP) (sz : Nat) (z1 : Int32) (z2 : Int32) (hst : ST ad L) (hT : TI g ad th f)  : MtI l g yX2_view cX2_view 6 (some .int) rm_X2_view_ru [.ref (ad 8), .int z1, .int z2] L f sz (po_X2_view_ru g ad th L f z1 z2) := by
  refine MtI.of (by decide +kernel) (Nat.le_of_ble_eq_true rfl) ?_
  intro p e s m below meth c A hEn hP hD hS ls hl
  obtain ⟨hx, hb, hr, hml, hown, hlocks, hts, hG, hA, hE, hnm⟩ := hEn
  have hown : s.vm.findClass "RulerWord$Council" = some m.cls := hown
  have hl : lv_has ls 6 [(0, .ref (ad 8)), (1, .int z1), (2, .int z2)] := hl
  refine lv_iload_n hx hb dX2_view_0 rfl (lv_at hl 2 rfl) ?_
  refine lv_iload_n hx hb dX2_view_1 rfl (lv_at hl 1 rfl) ?_
  have hJ10 : ∀ (y10_s0 : Int32) (H : Heap) (locs : List Loc) (ls : Array Slot), In y10_s0 0 1 → va_P g.1 vwCl (va_pl L f) H → va_D A (va_pl L f) → va_S A s.heap H locs → lv_has ls 6 [(0, .ref (ad 8)), (1, .int z1), (2, .int z2)] → W p l e rm_X2_view_ru s m [.ref (ad 8), .int z1, .int z2].toArray below meth c H locs 0 0 (MQ below (va_Qi (po_X2_view_ru g ad th L f z1 z2) (PstB g A) A) [.ref (ad 8), .int z1, .int z2].toArray s rm_X2_view_ru.cells rm_X2_view_ru.slots A) (F0 m 10 ls [.int y10_s0]) := by
    intro y10_s0 H locs ls hy10_s0 hP hD hS hl
    refine lv_istore_n (lv' := [(3, .int y10_s0), (0, .ref (ad 8)), (1, .int z1), (2, .int z2)]) hx hb dX2_view_10 rfl hl (by decide) rfl (fun ls hl => ?_)
    refine lv_iload_n hx hb dX2_view_11 rfl (lv_at hl 2 rfl) ?_
    refine lv_iload_n hx hb dX2_view_12 rfl (lv_at hl 3 rfl) ?_
    refine va_mmax hx hb (hml.trans hl.1.symm) hown (hts _ (mT wg_874)) (hts _ (mT wg_875)) (hts _ (mT wg_178)) (hts _ (mT (mG 876 (by decide +kernel) rfl))) (by first | decide | exact Nat.le_of_ble_eq_true rfl) (by first | decide | exact Nat.le_of_ble_eq_true rfl) (by first | decide | exact Nat.le_of_ble_eq_true rfl) (by first | decide | exact Nat.le_of_ble_eq_true rfl) dX2_view_13 ?_
    refine lv_topi (fun x1 ex1 => ?_)
    have hb2 : In x1 (-2147483648) 2147483647 := ex1 ▸ In.max (In.full z1) (In.full z2) (by omega) (by omega)
    refine lv_istore (lv' := [(4, .int x1), (3, .int y10_s0), (0, .ref (ad 8)), (1, .int z1), (2, .int z2)]) hx hb dX2_view_16 hl (by decide) rfl (fun ls hl => ?_)
    refine lv_aload_n hx hb dX2_view_18 rfl (lv_at hl 2 rfl) ?_
    obtain ⟨v0_3, v1_3, v2_3, v3_3, v4_3, v5_3, v6_3, v7_3, hf4, hv0_3, hv1_3, hv2_3, hv3_3, hv5_3, hv6_3⟩ := hT.1 8 (by decide)
    refine pl_get (v := .int v0_3) hx hb hts (fun w h => mT (inX2 w h)) hown hG.1 hP (hst.1 8 (by decide)) hf4 rfl 0 (by decide) (hts _ (mT wg_224)) (fun _ h => h) rfl dX2_view_19 ?_
    refine lv_iconst (v := 1) hx hb dX2_view_22 (by decide) ?_
    refine lv_icmp_ne (tgt := 52) hx hb dX2_view_23 (by decide) (fun c5 => ?_) (fun c5 => ?_)
    ·
      have cc6 : v0_3.toInt ≠ (1 : Int32).toInt := i32_ne c5
      have hb7 : In v0_3 0 0 := In.ne1 hv0_3 (⟨by decide, by decide⟩ : In 1 1 1) cc6 (by omega) (by omega)
      refine lv_iload hx hb dX2_view_52 (lv_at hl 0 rfl) ?_
      refine lv_aload_n hx hb dX2_view_54 rfl (lv_at hl 2 rfl) ?_
      refine pl_get (v := .int v2_3) hx hb hts (fun w h => mT (inX2 w h)) hown hG.1 hP (hst.1 8 (by decide)) hf4 rfl 2 (by decide) (hts _ (mT wg_232)) (fun _ h => h) rfl dX2_view_55 ?_
      have hJ66 : ∀ (y66_s0 : Int32) (H : Heap) (locs : List Loc) (ls : Array Slot), In y66_s0 0 2 → va_P g.1 vwCl (va_pl L f) H → va_D A (va_pl L f) → va_S A s.heap H locs → lv_has ls 6 [(0, .ref (ad 8)), (1, .int z1), (2, .int z2), (3, .int y10_s0), (4, .int x1)] → W p l e rm_X2_view_ru s m [.ref (ad 8), .int z1, .int z2].toArray below meth c H locs 0 0 (MQ below (va_Qi (po_X2_view_ru g ad th L f z1 z2) (PstB g A) A) [.ref (ad 8), .int z1, .int z2].toArray s rm_X2_view_ru.cells rm_X2_view_ru.slots A) (F0 m 66 ls [.int y66_s0]) := by
        intro y66_s0 H locs ls hy66_s0 hP hD hS hl
        refine lv_istore (lv' := [(5, .int y66_s0), (0, .ref (ad 8)), (1, .int z1), (2, .int z2), (3, .int y10_s0), (4, .int x1)]) hx hb dX2_view_66 hl (by decide) rfl (fun ls hl => ?_)
        refine lv_iload hx hb dX2_view_68 (lv_at hl 5 rfl) ?_
        refine lv_aload_n hx hb dX2_view_70 rfl (lv_at hl 1 rfl) ?_
        refine pl_get (v := .int v1_3) hx hb hts (fun w h => mT (inX2 w h)) hown hG.1 hP (hst.1 8 (by decide)) hf4 rfl 1 (by decide) (hts _ (mT wg_228)) (fun _ h => h) rfl dX2_view_71 ?_
        refine lv_aload_n hx hb dX2_view_74 rfl (lv_at hl 1 rfl) ?_
        refine pl_get (v := .int v2_3) hx hb hts (fun w h => mT (inX2 w h)) hown hG.1 hP (hst.1 8 (by decide)) hf4 rfl 2 (by decide) (hts _ (mT wg_232)) (fun _ h => h) rfl dX2_view_75 ?_
        refine lv_isub hx hb dX2_view_78 ?_
        refine lv_topi (fun x8 ex8 => ?_)
        have hb9 : In x8 (-4) 10 := ex8 ▸ In.sub hv1_3 hv2_3 (by decide) (by decide) (by decide) (by decide)
        have et10 : x8.toInt = v1_3.toInt - v2_3.toInt := In.sub2e ex8 hv1_3 hv2_3 (by decide) (by decide)
        refine lv_icmp_lt (tgt := 89) hx hb dX2_view_79 (by decide) (fun c11 => ?_) (fun c11 => ?_)
        ·
          have cc12 : x1.toInt < x8.toInt := i32_lt.mp c11
          have hb13 : In x1 (-2147483648) 9 := In.lt1 hb2 hb9 cc12 (by omega) (by omega)
          refine lv_iload hx hb dX2_view_89 (lv_at hl 0 rfl) ?_
          exact ret_i (ty := .int) hx hb hr hlocks (rfl) hP hD hS (Nat.le_of_ble_eq_true rfl) (Nat.le_of_ble_eq_true rfl) (⟨rfl, rfl, (In.mono hy66_s0 (by decide) (by decide))⟩) dX2_view_91
        ·
          have cc14 : x8.toInt ≤ x1.toInt := i32_nlt c11
          have hb15 : In x1 (-4) 2147483647 := In.ge1 hb2 hb9 cc14 (by omega) (by omega)
          refine lv_iload hx hb dX2_view_82 (lv_at hl 0 rfl) ?_
          refine lv_iconst (v := 4) hx hb dX2_view_84 (by decide) ?_
          refine lv_iadd hx hb dX2_view_85 ?_
          refine lv_topi (fun x16 ex16 => ?_)
          have hb17 : In x16 4 6 := ex16 ▸ In.add hy66_s0 (⟨by decide, by decide⟩ : In 4 4 4) (by decide) (by decide) (by decide) (by decide)
          have et18 : x16.toInt = y66_s0.toInt + 4 := In.adde ex16 hy66_s0 (k := 4) (by decide) (by decide) (by decide)
          refine lv_goto (tgt := 91) hx hb dX2_view_86 (by decide) ?_
          exact ret_i (ty := .int) hx hb hr hlocks (rfl) hP hD hS (Nat.le_of_ble_eq_true rfl) (Nat.le_of_ble_eq_true rfl) (⟨rfl, rfl, (In.mono hb17 (by decide) (by decide))⟩) dX2_view_91
      refine lv_icmp_le (tgt := 65) hx hb dX2_view_58 (by decide) (fun c19 => ?_) (fun c19 => ?_)
      ·
        have cc20 : x1.toInt ≤ v2_3.toInt := i32_le.mp c19
        have hb21 : In x1 (-2147483648) 4 := In.le1 hb2 hv2_3 cc20 (by omega) (by omega)
        refine lv_iconst (v := 2) hx hb dX2_view_65 (by decide) ?_
        exact hJ66 2 _ _ _ (⟨by decide, by decide⟩ : In 2 0 2) hP hD hS (lv_sub hl [2, 3, 4, 1, 0] rfl)
      ·
        have cc22 : v2_3.toInt < x1.toInt := i32_nle c19
        have hb23 : In x1 0 2147483647 := In.gt1 hb2 hv2_3 cc22 (by omega) (by omega)
        refine lv_iload_n hx hb dX2_view_61 rfl (lv_at hl 1 rfl) ?_
        refine lv_goto (tgt := 66) hx hb dX2_view_62 (by decide) ?_
        exact hJ66 y10_s0 _ _ _ (In.mono hy10_s0 (by decide) (by decide)) hP hD hS (lv_sub hl [2, 3, 4, 1, 0] rfl)
    ·
      have cc24 : v0_3.toInt = (1 : Int32).toInt := congrArg Int32.toInt c5
      have hb25 : In v0_3 1 1 := In.eq1 hv0_3 (⟨by decide, by decide⟩ : In 1 1 1) cc24 (by omega) (by omega)
      refine lv_iconst (v := 2) hx hb dX2_view_26 (by decide) ?_
      refine lv_iload hx hb dX2_view_27 (lv_at hl 0 rfl) ?_
      refine lv_imul hx hb dX2_view_29 ?_
      refine lv_topi (fun x26 ex26 => ?_)
      refine lv_aload_n hx hb dX2_view_30 rfl (lv_at hl 2 rfl) ?_
      refine pl_get (v := .int v1_3) hx hb hts (fun w h => mT (inX2 w h)) hown hG.1 hP (hst.1 8 (by decide)) hf4 rfl 1 (by decide) (hts _ (mT wg_228)) (fun _ h => h) rfl dX2_view_31 ?_
      refine lv_iconst (v := 2) hx hb dX2_view_34 (by decide) ?_
      refine lv_aload_n hx hb dX2_view_35 rfl (lv_at hl 2 rfl) ?_
      refine pl_get (v := .int v2_3) hx hb hts (fun w h => mT (inX2 w h)) hown hG.1 hP (hst.1 8 (by decide)) hf4 rfl 2 (by decide) (hts _ (mT wg_232)) (fun _ h => h) rfl dX2_view_36 ?_
      refine lv_imul hx hb dX2_view_39 ?_
      refine lv_topi (fun x27 ex27 => ?_)
      refine lv_iadd hx hb dX2_view_40 ?_
      refine lv_topi (fun x28 ex28 => ?_)
      refine lv_icmp_le (tgt := 50) hx hb dX2_view_41 (by decide) (fun c29 => ?_) (fun c29 => ?_)
      ·
        refine lv_iload_n hx hb dX2_view_50 rfl (lv_at hl 1 rfl) ?_
        exact ret_i (ty := .int) hx hb hr hlocks (rfl) hP hD hS (Nat.le_of_ble_eq_true rfl) (Nat.le_of_ble_eq_true rfl) (⟨rfl, rfl, (In.mono hy10_s0 (by decide) (by decide))⟩) dX2_view_51
      ·
        have cc30 : x28.toInt < x26.toInt := i32_nle c29
        have hb31 : In x26 (-2147483647) 2147483647 := In.gt1 (In.full x26) (In.full x28) cc30 (by omega) (by omega)
        have hb32 : In x28 (-2147483648) 2147483646 := In.gt2 (In.full x26) (In.full x28) cc30 (by omega) (by omega)
        refine lv_iload_n hx hb dX2_view_44 rfl (lv_at hl 1 rfl) ?_
        refine lv_iconst (v := 4) hx hb dX2_view_45 (by decide) ?_
        refine lv_iadd hx hb dX2_view_46 ?_
        refine lv_topi (fun x33 ex33 => ?_)
        have hb34 : In x33 4 5 := ex33 ▸ In.add hy10_s0 (⟨by decide, by decide⟩ : In 4 4 4) (by decide) (by decide) (by decide) (by decide)
        have et35 : x33.toInt = y10_s0.toInt + 4 := In.adde ex33 hy10_s0 (k := 4) (by decide) (by decide) (by decide)
        refine lv_goto (tgt := 51) hx hb dX2_view_47 (by decide) ?_
        exact ret_i (ty := .int) hx hb hr hlocks (rfl) hP hD hS (Nat.le_of_ble_eq_true rfl) (Nat.le_of_ble_eq_true rfl) (⟨rfl, rfl, (In.mono hb34 (by decide) (by decide))⟩) dX2_view_51
  refine lv_icmp_le (tgt := 9) hx hb dX2_view_2 (by decide) (fun c36 => ?_) (fun c36 => ?_)
  ·
    refine lv_iconst (v := 0) hx hb dX2_view_9 (by decide) ?_
    exact hJ10 0 _ _ _ (⟨by decide, by decide⟩ : In 0 0 1) hP hD hS (lv_sub hl [0, 1, 2] rfl)
  ·
    have cc37 : z1.toInt < z2.toInt := i32_nle c36
    have hb38 : In z2 (-2147483647) 2147483647 := In.gt1 (In.full z2) (In.full z1) cc37 (by omega) (by omega)
    have hb39 : In z1 (-2147483648) 2147483646 := In.gt2 (In.full z2) (In.full z1) cc37 (by omega) (by omega)
    refine lv_iconst (v := 1) hx hb dX2_view_5 (by decide) ?_
    refine lv_goto (tgt := 10) hx hb dX2_view_6 (by decide) ?_
    exact hJ10 1 _ _ _ (⟨by decide, by decide⟩ : In 1 0 1) hP hD hS (lv_sub hl [0, 1, 2] rfl)

abbrev rm_X3_placeOf : Room := { frames := 0, cells := 0, slots := 0, locals := 0 }
abbrev po_X3_placeOf (g : GG) (ad : Nat → Nat) (th : Nat → Int) (L : List Nat) (f : HP) (z0 : Int32) (z1 : Int32) (z2 : Int32) (z3 : Int32) : Int32 → (List Nat × HP) → Prop := fun _ u => u.1 = L ∧ u.2 = f
set_option maxHeartbeats 4000000 in
set_option maxRecDepth 100000 in
theorem s_X3_placeOf (l : Launch) (g : GG) (ad : Nat → Nat) (th : Nat → Int) (L : List Nat) (f : HP) (sz : Nat) (z0 : Int32) (z1 : Int32) (z2 : Int32) (z3 : Int32) (hst : ST ad L) (hT : TI g ad th f)  : MtI l g yX3_placeOf cX3_placeOf 4 (some .int) rm_X3_placeOf [.int z0, .int z1, .int z2, .int z3] L f sz (po_X3_placeOf g ad th L f z0 z1 z2 z3) := by
  refine MtI.of (by decide +kernel) (Nat.le_of_ble_eq_true rfl) ?_
  intro p e s m below meth c A hEn hP hD hS ls hl
  obtain ⟨hx, hb, hr, hml, hown, hlocks, hts, hG, hA, hE, hnm⟩ := hEn
  have hown : s.vm.findClass "RulerWord$Course" = some m.cls := hown
  have hl : lv_has ls 4 [(0, .int z0), (1, .int z1), (2, .int z2), (3, .int z3)] := hl
  refine lv_iload_n hx hb dX3_placeOf_0 rfl (lv_at hl 0 rfl) ?_
  refine lv_iconst (v := 3) hx hb dX3_placeOf_1 (by decide) ?_
  refine lv_imul hx hb dX3_placeOf_2 ?_
  refine lv_topi (fun x1 ex1 => ?_)
  refine lv_iload_n hx hb dX3_placeOf_3 rfl (lv_at hl 1 rfl) ?_
  refine lv_iadd hx hb dX3_placeOf_4 ?_
  refine lv_topi (fun x2 ex2 => ?_)
  refine lv_bipush (v := 9) hx hb dX3_placeOf_5 (by decide) ?_
  refine lv_imul hx hb dX3_placeOf_7 ?_
  refine lv_topi (fun x3 ex3 => ?_)
  refine lv_iload_n hx hb dX3_placeOf_8 rfl (lv_at hl 2 rfl) ?_
  refine lv_iadd hx hb dX3_placeOf_9 ?_
  refine lv_topi (fun x4 ex4 => ?_)
  refine lv_bipush (v := 9) hx hb dX3_placeOf_10 (by decide) ?_
  refine lv_imul hx hb dX3_placeOf_12 ?_
  refine lv_topi (fun x5 ex5 => ?_)
  refine lv_iload_n hx hb dX3_placeOf_13 rfl (lv_at hl 3 rfl) ?_
  refine lv_iadd hx hb dX3_placeOf_14 ?_
  refine lv_topi (fun x6 ex6 => ?_)
  exact ret_i (ty := .int) hx hb hr hlocks (rfl) hP hD hS (Nat.le_of_ble_eq_true rfl) (Nat.le_of_ble_eq_true rfl) (⟨rfl, rfl⟩) dX3_placeOf_15

abbrev rm_X3_begin : Room := { frames := 0, cells := 0, slots := 0, locals := 0 }
abbrev po_X3_begin (g : GG) (ad : Nat → Nat) (th : Nat → Int) (L : List Nat) (f : HP) (j : Nat) (z1 : Int32) (z2 : Int32) (z3 : Int64) : (List Nat × HP) → Prop := fun u => u.1 = L ∧ TI g ad (gset (gset th (200 + j) z2.toInt) (300 + j) 0) u.2 ∧ (∀ b, b ≠ (cr ad j 0) → u.2 b = f b)
set_option maxHeartbeats 4000000 in
set_option maxRecDepth 100000 in
theorem s_X3_begin (l : Launch) (g : GG) (ad : Nat → Nat) (th : Nat → Int) (L : List Nat) (f : HP) (sz : Nat) (j : Nat) (z1 : Int32) (z2 : Int32) (z3 : Int64) (hst : ST ad L) (hT : TI g ad th f) (hj : j < 23) (hz2 : In z2 0 510) : MtV l g yX3_begin cX3_begin 5 rm_X3_begin [.ref (cr ad j 0), .int z1, .int z2, .long z3] L f sz (po_X3_begin g ad th L f j z1 z2 z3) := by
  refine MtV.of (by decide +kernel) (Nat.le_of_ble_eq_true rfl) ?_
  intro p e s m below meth c A hEn hP hD hS ls hl
  obtain ⟨hx, hb, hr, hml, hown, hlocks, hts, hG, hA, hE, hnm⟩ := hEn
  have hown : s.vm.findClass "RulerWord$Course" = some m.cls := hown
  have hl : lv_has ls 5 [(0, .ref (cr ad j 0)), (1, .int z1), (2, .int z2), (3, .long z3)] := hl
  have hfr : (∀ b, b ≠ (cr ad j 0) → f b = f b) := fun b z0_ => rfl
  refine lv_aload_n hx hb dX3_begin_0 rfl (lv_at hl 0 rfl) ?_
  refine lv_iload_n hx hb dX3_begin_1 rfl (lv_at hl 1 rfl) ?_
  obtain ⟨v0_1, v1_1, v2_1, v3_1, v4_1, v5_1, v6_1, v7_1, v8_1, hf2, hv1_1, hg1_1, hv2_1, hg2_1, hv6_1⟩ := hT.2.1 j hj 0 (by decide)
  refine pl_put (ty := .int) (v := .int z1) (fs' := [.int z1, .int v1_1, .int v2_1, .int v3_1, .int v4_1, .int v5_1, .int v6_1, .long v7_1, .long v8_1, .ref (cr ad j 1), .ref (cr ad j 2), .ref (cr ad j 3), .ref (cr ad j 4), .ref (cr ad j 5), .ref (cr ad j 6), .ref (cr ad j 7), .ref (cr ad j 8), .ref (cr ad j 9)]) hx hb hts (fun w h => mT (inX3 w h)) tyX3 tyX3_ok nmX3 hown hG.1 hP hD hS (hst.c hj (by decide)) hf2 rfl 0 (by decide) (hts _ (mT wg_335)) (fun _ h => h) rfl (by decide +kernel) (rfl) (rfl) (Nat.le_of_ble_eq_true rfl) rfl dX3_begin_2 (fun H locs f3 hf4 ho5 hP hD hS => ?_)
  have hfr : (∀ b, b ≠ (cr ad j 0) → f3 b = f b) := fun b z0_ => (ho5 b z0_).trans (hfr b z0_)
  refine lv_aload_n hx hb dX3_begin_5 rfl (lv_at hl 0 rfl) ?_
  refine lv_iload_n hx hb dX3_begin_6 rfl (lv_at hl 2 rfl) ?_
  refine pl_put (ty := .int) (v := .int z2) (fs' := [.int z1, .int z2, .int v2_1, .int v3_1, .int v4_1, .int v5_1, .int v6_1, .long v7_1, .long v8_1, .ref (cr ad j 1), .ref (cr ad j 2), .ref (cr ad j 3), .ref (cr ad j 4), .ref (cr ad j 5), .ref (cr ad j 6), .ref (cr ad j 7), .ref (cr ad j 8), .ref (cr ad j 9)]) hx hb hts (fun w h => mT (inX3 w h)) tyX3 tyX3_ok nmX3 hown hG.1 hP hD hS (hst.c hj (by decide)) hf4 rfl 1 (by decide) (hts _ (mT wg_338)) (fun _ h => h) rfl (by decide +kernel) (rfl) (rfl) (Nat.le_of_ble_eq_true rfl) rfl dX3_begin_7 (fun H locs f6 hf7 ho8 hP hD hS => ?_)
  have ho9 : ∀ b, b ≠ (cr ad j 0) → f6 b = _ := fun b hb => (ho8 b hb).trans (ho5 b hb)
  have hfr : (∀ b, b ≠ (cr ad j 0) → f6 b = f b) := fun b z0_ => (ho8 b z0_).trans (hfr b z0_)
  refine lv_aload_n hx hb dX3_begin_10 rfl (lv_at hl 0 rfl) ?_
  refine lv_iconst (v := 0) hx hb dX3_begin_11 (by decide) ?_
  refine pl_put (ty := .int) (v := .int 0) (fs' := [.int z1, .int z2, .int 0, .int v3_1, .int v4_1, .int v5_1, .int v6_1, .long v7_1, .long v8_1, .ref (cr ad j 1), .ref (cr ad j 2), .ref (cr ad j 3), .ref (cr ad j 4), .ref (cr ad j 5), .ref (cr ad j 6), .ref (cr ad j 7), .ref (cr ad j 8), .ref (cr ad j 9)]) hx hb hts (fun w h => mT (inX3 w h)) tyX3 tyX3_ok nmX3 hown hG.1 hP hD hS (hst.c hj (by decide)) hf7 rfl 2 (by decide) (hts _ (mT wg_340)) (fun _ h => h) rfl (by decide +kernel) (rfl) (rfl) (Nat.le_of_ble_eq_true rfl) rfl dX3_begin_12 (fun H locs f10 hf11 ho12 hP hD hS => ?_)
  have ho13 : ∀ b, b ≠ (cr ad j 0) → f10 b = _ := fun b hb => (ho12 b hb).trans (ho9 b hb)
  have hfr : (∀ b, b ≠ (cr ad j 0) → f10 b = f b) := fun b z0_ => (ho12 b z0_).trans (hfr b z0_)
  refine lv_aload_n hx hb dX3_begin_15 rfl (lv_at hl 0 rfl) ?_
  refine lv_iload_n hx hb dX3_begin_16 rfl (lv_at hl 1 rfl) ?_
  refine pl_put (ty := .int) (v := .int z1) (fs' := [.int z1, .int z2, .int 0, .int z1, .int v4_1, .int v5_1, .int v6_1, .long v7_1, .long v8_1, .ref (cr ad j 1), .ref (cr ad j 2), .ref (cr ad j 3), .ref (cr ad j 4), .ref (cr ad j 5), .ref (cr ad j 6), .ref (cr ad j 7), .ref (cr ad j 8), .ref (cr ad j 9)]) hx hb hts (fun w h => mT (inX3 w h)) tyX3 tyX3_ok nmX3 hown hG.1 hP hD hS (hst.c hj (by decide)) hf11 rfl 3 (by decide) (hts _ (mT wg_342)) (fun _ h => h) rfl (by decide +kernel) (rfl) (rfl) (Nat.le_of_ble_eq_true rfl) rfl dX3_begin_17 (fun H locs f14 hf15 ho16 hP hD hS => ?_)
  have ho17 : ∀ b, b ≠ (cr ad j 0) → f14 b = _ := fun b hb => (ho16 b hb).trans (ho13 b hb)
  have hfr : (∀ b, b ≠ (cr ad j 0) → f14 b = f b) := fun b z0_ => (ho16 b z0_).trans (hfr b z0_)
  refine lv_aload_n hx hb dX3_begin_20 rfl (lv_at hl 0 rfl) ?_
  refine lv_iconst (v := 0) hx hb dX3_begin_21 (by decide) ?_
  refine pl_put (ty := .int) (v := .int 0) (fs' := [.int z1, .int z2, .int 0, .int z1, .int 0, .int v5_1, .int v6_1, .long v7_1, .long v8_1, .ref (cr ad j 1), .ref (cr ad j 2), .ref (cr ad j 3), .ref (cr ad j 4), .ref (cr ad j 5), .ref (cr ad j 6), .ref (cr ad j 7), .ref (cr ad j 8), .ref (cr ad j 9)]) hx hb hts (fun w h => mT (inX3 w h)) tyX3 tyX3_ok nmX3 hown hG.1 hP hD hS (hst.c hj (by decide)) hf15 rfl 4 (by decide) (hts _ (mT wg_344)) (fun _ h => h) rfl (by decide +kernel) (rfl) (rfl) (Nat.le_of_ble_eq_true rfl) rfl dX3_begin_22 (fun H locs f18 hf19 ho20 hP hD hS => ?_)
  have ho21 : ∀ b, b ≠ (cr ad j 0) → f18 b = _ := fun b hb => (ho20 b hb).trans (ho17 b hb)
  have hfr : (∀ b, b ≠ (cr ad j 0) → f18 b = f b) := fun b z0_ => (ho20 b z0_).trans (hfr b z0_)
  refine lv_aload_n hx hb dX3_begin_25 rfl (lv_at hl 0 rfl) ?_
  refine lv_iconst (v := 0) hx hb dX3_begin_26 (by decide) ?_
  refine pl_put (ty := .int) (v := .int 0) (fs' := [.int z1, .int z2, .int 0, .int z1, .int 0, .int 0, .int v6_1, .long v7_1, .long v8_1, .ref (cr ad j 1), .ref (cr ad j 2), .ref (cr ad j 3), .ref (cr ad j 4), .ref (cr ad j 5), .ref (cr ad j 6), .ref (cr ad j 7), .ref (cr ad j 8), .ref (cr ad j 9)]) hx hb hts (fun w h => mT (inX3 w h)) tyX3 tyX3_ok nmX3 hown hG.1 hP hD hS (hst.c hj (by decide)) hf19 rfl 5 (by decide) (hts _ (mT wg_346)) (fun _ h => h) rfl (by decide +kernel) (rfl) (rfl) (Nat.le_of_ble_eq_true rfl) rfl dX3_begin_27 (fun H locs f22 hf23 ho24 hP hD hS => ?_)
  have ho25 : ∀ b, b ≠ (cr ad j 0) → f22 b = _ := fun b hb => (ho24 b hb).trans (ho21 b hb)
  have hfr : (∀ b, b ≠ (cr ad j 0) → f22 b = f b) := fun b z0_ => (ho24 b z0_).trans (hfr b z0_)
  refine lv_aload_n hx hb dX3_begin_30 rfl (lv_at hl 0 rfl) ?_
  refine lv_iconst (v := 0) hx hb dX3_begin_31 (by decide) ?_
  refine pl_put (ty := .int) (v := .int 0) (fs' := [.int z1, .int z2, .int 0, .int z1, .int 0, .int 0, .int 0, .long v7_1, .long v8_1, .ref (cr ad j 1), .ref (cr ad j 2), .ref (cr ad j 3), .ref (cr ad j 4), .ref (cr ad j 5), .ref (cr ad j 6), .ref (cr ad j 7), .ref (cr ad j 8), .ref (cr ad j 9)]) hx hb hts (fun w h => mT (inX3 w h)) tyX3 tyX3_ok nmX3 hown hG.1 hP hD hS (hst.c hj (by decide)) hf23 rfl 6 (by decide) (hts _ (mT wg_348)) (fun _ h => h) rfl (by decide +kernel) (rfl) (rfl) (Nat.le_of_ble_eq_true rfl) rfl dX3_begin_32 (fun H locs f26 hf27 ho28 hP hD hS => ?_)
  have ho29 : ∀ b, b ≠ (cr ad j 0) → f26 b = _ := fun b hb => (ho28 b hb).trans (ho25 b hb)
  have hfr : (∀ b, b ≠ (cr ad j 0) → f26 b = f b) := fun b z0_ => (ho28 b z0_).trans (hfr b z0_)
  refine lv_aload_n hx hb dX3_begin_35 rfl (lv_at hl 0 rfl) ?_
  refine lv_lconst (v := 0) hx hb dX3_begin_36 (by decide) ?_
  refine pl_put (ty := .long) (v := .long 0) (fs' := [.int z1, .int z2, .int 0, .int z1, .int 0, .int 0, .int 0, .long 0, .long v8_1, .ref (cr ad j 1), .ref (cr ad j 2), .ref (cr ad j 3), .ref (cr ad j 4), .ref (cr ad j 5), .ref (cr ad j 6), .ref (cr ad j 7), .ref (cr ad j 8), .ref (cr ad j 9)]) hx hb hts (fun w h => mT (inX3 w h)) tyX3 tyX3_ok nmX3 hown hG.1 hP hD hS (hst.c hj (by decide)) hf27 rfl 7 (by decide) (hts _ (mT wg_350)) (fun _ h => h) rfl (by decide +kernel) (rfl) (rfl) (Nat.le_of_ble_eq_true rfl) rfl dX3_begin_37 (fun H locs f30 hf31 ho32 hP hD hS => ?_)
  have ho33 : ∀ b, b ≠ (cr ad j 0) → f30 b = _ := fun b hb => (ho32 b hb).trans (ho29 b hb)
  have hfr : (∀ b, b ≠ (cr ad j 0) → f30 b = f b) := fun b z0_ => (ho32 b z0_).trans (hfr b z0_)
  refine lv_aload_n hx hb dX3_begin_40 rfl (lv_at hl 0 rfl) ?_
  refine lv_lload_n hx hb dX3_begin_41 rfl (lv_at hl 3 rfl) ?_
  refine pl_put (ty := .long) (v := .long z3) (fs' := [.int z1, .int z2, .int 0, .int z1, .int 0, .int 0, .int 0, .long 0, .long z3, .ref (cr ad j 1), .ref (cr ad j 2), .ref (cr ad j 3), .ref (cr ad j 4), .ref (cr ad j 5), .ref (cr ad j 6), .ref (cr ad j 7), .ref (cr ad j 8), .ref (cr ad j 9)]) hx hb hts (fun w h => mT (inX3 w h)) tyX3 tyX3_ok nmX3 hown hG.1 hP hD hS (hst.c hj (by decide)) hf31 rfl 8 (by decide) (hts _ (mT wg_351)) (fun _ h => h) rfl (by decide +kernel) (rfl) (rfl) (Nat.le_of_ble_eq_true rfl) rfl dX3_begin_42 (fun H locs f34 hf35 ho36 hP hD hS => ?_)
  have ho37 : ∀ b, b ≠ (cr ad j 0) → f34 b = _ := fun b hb => (ho36 b hb).trans (ho33 b hb)
  have hfr : (∀ b, b ≠ (cr ad j 0) → f34 b = f b) := fun b z0_ => (ho36 b z0_).trans (hfr b z0_)
  have hT := TI.updCG (th' := (gset (gset th (200 + j) (z2.toInt)) (300 + j) (0))) hT hst hj hf35 ho37 ⟨z1, z2, 0, z1, 0, 0, 0, 0, z3, rfl, hz2, (by simp [gset]), (⟨by decide, by decide⟩ : In 0 0 18), (by simp [gset, i32z]), (⟨by decide, by decide⟩ : In 0 0 30)⟩ (fun k h1 h2 => by simp [gset, h1, h2])
  have hT : TI g ad (gset (gset th (200 + j) z2.toInt) (300 + j) 0) f34 := TI.cast hT (by funext q; simp only [gset]; (repeat' split); all_goals first | rfl | omega | (subst_vars; rfl) | (exfalso; omega))
  exact ret_v hx hb hr hlocks hP hD hS (Nat.le_of_ble_eq_true rfl) (Nat.le_of_ble_eq_true rfl) (⟨rfl, hT, hfr⟩) dX3_begin_45

abbrev rm_X3_draw : Room := { frames := 0, cells := 0, slots := 0, locals := 0 }
abbrev po_X3_draw (g : GG) (ad : Nat → Nat) (th : Nat → Int) (L : List Nat) (f : HP) (j : Nat) : Int32 → (List Nat × HP) → Prop := fun r u => u.1 = L ∧ TI g ad th u.2 ∧ (∀ b, b ≠ (cr ad j 0) → u.2 b = f b)
set_option maxHeartbeats 4000000 in
set_option maxRecDepth 100000 in
theorem s_X3_draw (l : Launch) (g : GG) (ad : Nat → Nat) (th : Nat → Int) (L : List Nat) (f : HP) (sz : Nat) (j : Nat) (hst : ST ad L) (hT : TI g ad th f) (hj : j < 23) : MtI l g yX3_draw cX3_draw 1 (some .int) rm_X3_draw [.ref (cr ad j 0)] L f sz (po_X3_draw g ad th L f j) := by
  refine MtI.of (by decide +kernel) (Nat.le_of_ble_eq_true rfl) ?_
  intro p e s m below meth c A hEn hP hD hS ls hl
  obtain ⟨hx, hb, hr, hml, hown, hlocks, hts, hG, hA, hE, hnm⟩ := hEn
  have hown : s.vm.findClass "RulerWord$Course" = some m.cls := hown
  have hl : lv_has ls 1 [(0, .ref (cr ad j 0))] := hl
  have hfr : (∀ b, b ≠ (cr ad j 0) → f b = f b) := fun b z0_ => rfl
  refine lv_aload_n hx hb dX3_draw_0 rfl (lv_at hl 0 rfl) ?_
  refine lv_aload_n hx hb dX3_draw_1 rfl (lv_at hl 0 rfl) ?_
  obtain ⟨v0_1, v1_1, v2_1, v3_1, v4_1, v5_1, v6_1, v7_1, v8_1, hf2, hv1_1, hg1_1, hv2_1, hg2_1, hv6_1⟩ := hT.2.1 j hj 0 (by decide)
  refine pl_get (v := .long v8_1) hx hb hts (fun w h => mT (inX3 w h)) hown hG.1 hP (hst.c hj (by decide)) hf2 rfl 8 (by decide) (hts _ (mT wg_351)) (fun _ h => h) rfl dX3_draw_2 ?_
  refine lv_ldc2 hx hb hown (hts _ (mT wg_809)) dX3_draw_5 ?_
  refine lv_lmul hx hb dX3_draw_8 ?_
  refine lv_topl (fun x3 ex3 => ?_)
  refine lv_ldc2 hx hb hown (hts _ (mT wg_810)) dX3_draw_9 ?_
  refine lv_ladd hx hb dX3_draw_12 ?_
  refine lv_topl (fun x4 ex4 => ?_)
  refine pl_put (ty := .long) (v := .long x4) (fs' := [.int v0_1, .int v1_1, .int v2_1, .int v3_1, .int v4_1, .int v5_1, .int v6_1, .long v7_1, .long x4, .ref (cr ad j 1), .ref (cr ad j 2), .ref (cr ad j 3), .ref (cr ad j 4), .ref (cr ad j 5), .ref (cr ad j 6), .ref (cr ad j 7), .ref (cr ad j 8), .ref (cr ad j 9)]) hx hb hts (fun w h => mT (inX3 w h)) tyX3 tyX3_ok nmX3 hown hG.1 hP hD hS (hst.c hj (by decide)) hf2 rfl 8 (by decide) (hts _ (mT wg_351)) (fun _ h => h) rfl (by decide +kernel) (rfl) (rfl) (Nat.le_of_ble_eq_true rfl) rfl dX3_draw_13 (fun H locs f5 hf6 ho7 hP hD hS => ?_)
  have hfr : (∀ b, b ≠ (cr ad j 0) → f5 b = f b) := fun b z0_ => (ho7 b z0_).trans (hfr b z0_)
  refine lv_aload_n hx hb dX3_draw_16 rfl (lv_at hl 0 rfl) ?_
  refine pl_get (v := .long x4) hx hb hts (fun w h => mT (inX3 w h)) hown hG.1 hP (hst.c hj (by decide)) hf6 rfl 8 (by decide) (hts _ (mT wg_351)) (fun _ h => h) rfl dX3_draw_17 ?_
  refine lv_bipush (v := 33) hx hb dX3_draw_20 (by decide) ?_
  refine lv_lushr hx hb dX3_draw_22 rfl ?_
  refine lv_topl (fun x8 ex8 => ?_)
  refine lv_ldc2 hx hb hown (hts _ (mT wg_811)) dX3_draw_23 ?_
  refine lv_lrem hx hb dX3_draw_26 (by decide) ?_
  refine lv_topl (fun x9 ex9 => ?_)
  refine lv_l2i hx hb dX3_draw_27 rfl ?_
  refine lv_topi (fun x10 ex10 => ?_)
  have hT := TI.updC hT hst hj (k := 0) (by decide) hf6 ho7 ⟨v0_1, v1_1, v2_1, v3_1, v4_1, v5_1, v6_1, v7_1, x4, rfl, hv1_1, hg1_1, hv2_1, hg2_1, hv6_1⟩
  exact ret_i (ty := .int) hx hb hr hlocks (rfl) hP hD hS (Nat.le_of_ble_eq_true rfl) (Nat.le_of_ble_eq_true rfl) (⟨rfl, hT, hfr⟩) dX3_draw_28

abbrev rm_X5_copy : Room := { frames := 1, cells := 0, slots := 0, locals := 200 }
abbrev po_X5_copy (g : GG) (ad : Nat → Nat) (th : Nat → Int) (L : List Nat) (f : HP)  : (List Nat × HP) → Prop := fun u => u.1 = L ∧ TI g ad th u.2 ∧ (∀ b, b ≠ (ad 11) → b ≠ (ad 12) → u.2 b = f b)
set_option maxHeartbeats 4000000 in
set_option maxRecDepth 100000 in
theorem s_X5_copy (l : Launch) (g : GG) (ad : Nat → Nat) (th : Nat → Int) (L : List Nat) (f : HP) (sz : Nat)  (hst : ST ad L) (hT : TI g ad th f)  : MtV l g yX5_copy cX5_copy 2 rm_X5_copy [.ref (ad 11), .ref (ad 9)] L f sz (po_X5_copy g ad th L f ) := by
  refine MtV.of (by decide +kernel) (Nat.le_of_ble_eq_true rfl) ?_
  intro p e s m below meth c A hEn hP hD hS ls hl
  obtain ⟨hx, hb, hr, hml, hown, hlocks, hts, hG, hA, hE, hnm⟩ := hEn
  have hown : s.vm.findClass "RulerWord$Plan" = some m.cls := hown
  have hl : lv_has ls 2 [(0, .ref (ad 11)), (1, .ref (ad 9))] := hl
  have hfr : (∀ b, b ≠ (ad 11) → b ≠ (ad 12) → f b = f b) := fun b z0_ z1_ => rfl
  refine lv_aload_n hx hb dX5_copy_0 rfl (lv_at hl 1 rfl) ?_
  obtain ⟨v1_1, hf2, hv1_1⟩ := hT.1 9 (by decide)
  refine pl_get (v := .ref (ad 10)) hx hb hts (fun w h => mT (inX5 w h)) hown hG.1 hP (hst.1 9 (by decide)) hf2 rfl 0 (by decide) (hts _ (mT wg_269)) (fun _ h => h) rfl dX5_copy_1 ?_
  refine lv_iconst (v := 0) hx hb dX5_copy_4 (by decide) ?_
  refine lv_aload_n hx hb dX5_copy_5 rfl (lv_at hl 0 rfl) ?_
  obtain ⟨v1_3, hf4, hv1_3⟩ := hT.1 11 (by decide)
  refine pl_get (v := .ref (ad 12)) hx hb hts (fun w h => mT (inX5 w h)) hown hG.1 hP (hst.1 11 (by decide)) hf4 rfl 0 (by decide) (hts _ (mT wg_269)) (fun _ h => h) rfl dX5_copy_6 ?_
  refine lv_iconst (v := 0) hx hb dX5_copy_9 (by decide) ?_
  refine lv_aload_n hx hb dX5_copy_10 rfl (lv_at hl 0 rfl) ?_
  refine pl_get (v := .ref (ad 12)) hx hb hts (fun w h => mT (inX5 w h)) hown hG.1 hP (hst.1 11 (by decide)) hf4 rfl 0 (by decide) (hts _ (mT wg_269)) (fun _ h => h) rfl dX5_copy_11 ?_
  obtain ⟨rw5, hf6⟩ := hT.1 12 (by decide)
  refine pl_alen (v := 100) hx hb hG.1 hP (hst.1 12 (by decide)) 0 hf6 rfl (rfl) dX5_copy_14 ?_
  obtain ⟨rw7, hf8⟩ := hT.1 10 (by decide)
  refine pl_copyi hx hb (hml.trans hl.1.symm) hown (hts _ (mT wg_726)) (hts _ (mT wg_728)) (hts _ (mT wg_727)) (hts _ (mT wg_173)) hG.1 hP hD hS (hst.1 10 (by decide)) (hst.1 12 (by decide)) 0 hf8 hf6 rfl rfl (by decide) (by decide) (by decide) (by decide) (by decide) (fun _ _ => rfl) (by decide) (by decide) dX5_copy_15 (fun H locs f9 r12 hf10 ho11 hP hD hS => ?_)
  have hf13 := (ho11 (ad 9) (hst.ne (by decide) (by decide) (by decide))).trans hf2
  have hf14 := (ho11 (ad 11) (hst.ne (by decide) (by decide) (by decide))).trans hf4
  have hf15 := (ho11 (ad 10) (hst.ne (by decide) (by decide) (by decide))).trans hf8
  have hfr : (∀ b, b ≠ (ad 11) → b ≠ (ad 12) → f9 b = f b) := fun b z0_ z1_ => (ho11 b z1_).trans (hfr b z0_ z1_)
  refine lv_aload_n hx hb dX5_copy_18 rfl (lv_at hl 0 rfl) ?_
  refine lv_aload_n hx hb dX5_copy_19 rfl (lv_at hl 1 rfl) ?_
  refine pl_get (v := .int v1_1) hx hb hts (fun w h => mT (inX5 w h)) hown hG.1 hP (hst.1 9 (by decide)) hf13 rfl 1 (by decide) (hts _ (mT wg_270)) (fun _ h => h) rfl dX5_copy_20 ?_
  have hT := TI.updA hT hst (k := 12) (by decide) hf10 ho11 ⟨r12, rfl⟩
  refine pl_put (ty := .int) (v := .int v1_1) (fs' := [.ref (ad 12), .int v1_1]) hx hb hts (fun w h => mT (inX5 w h)) tyX5 tyX5_ok nmX5 hown hG.1 hP hD hS (hst.1 11 (by decide)) hf14 rfl 1 (by decide) (hts _ (mT wg_270)) (fun _ h => h) rfl (by decide +kernel) (rfl) (rfl) (Nat.le_of_ble_eq_true rfl) rfl dX5_copy_23 (fun H locs f16 hf17 ho18 hP hD hS => ?_)
  have hf19 := (ho18 (ad 9) (hst.ne (by decide) (by decide) (by decide))).trans hf13
  have hf20 := (ho18 (ad 12) (hst.ne (by decide) (by decide) (by decide))).trans hf10
  have hf21 := (ho18 (ad 10) (hst.ne (by decide) (by decide) (by decide))).trans hf15
  have hfr : (∀ b, b ≠ (ad 11) → b ≠ (ad 12) → f16 b = f b) := fun b z0_ z1_ => (ho18 b z0_).trans (hfr b z0_ z1_)
  have hT := TI.updA hT hst (k := 11) (by decide) hf17 ho18 ⟨v1_1, rfl, hv1_1⟩
  exact ret_v hx hb hr hlocks hP hD hS (Nat.le_of_ble_eq_true rfl) (Nat.le_of_ble_eq_true rfl) (⟨rfl, hT, hfr⟩) dX5_copy_26

abbrev rm_X3_saidLetter : Room := { frames := 1, cells := 0, slots := 0, locals := 23 }
abbrev po_X3_saidLetter (g : GG) (ad : Nat → Nat) (th : Nat → Int) (L : List Nat) (f : HP) (j : Nat) (z1 : Int32) (z2 : Int32) (z3 : Int32) (z4 : Int32) : Int32 → (List Nat × HP) → Prop := fun _ u => u.1 = L ∧ u.2 = f
set_option maxHeartbeats 4000000 in
set_option maxRecDepth 100000 in
theorem s_X3_saidLetter (l : Launch) (g : GG) (ad : Nat → Nat) (th : Nat → Int) (L : List Nat) (f : HP) (sz : Nat) (j : Nat) (z1 : Int32) (z2 : Int32) (z3 : Int32) (z4 : Int32) (hst : ST ad L) (hT : TI g ad th f) (hj : j < 23) : MtI l g yX3_saidLetter cX3_saidLetter 7 (some .int) rm_X3_saidLetter [.ref (cr ad j 0), .int z1, .int z2, .int z3, .int z4] L f sz (po_X3_saidLetter g ad th L f j z1 z2 z3 z4) := by
  refine MtI.of (by decide +kernel) (Nat.le_of_ble_eq_true rfl) ?_
  intro p e s m below meth c A hEn hP hD hS ls hl
  obtain ⟨hx, hb, hr, hml, hown, hlocks, hts, hG, hA, hE, hnm⟩ := hEn
  have hown : s.vm.findClass "RulerWord$Course" = some m.cls := hown
  have hl : lv_has ls 7 [(0, .ref (cr ad j 0)), (1, .int z1), (2, .int z2), (3, .int z3), (4, .int z4)] := hl
  refine lv_iload_n hx hb dX3_saidLetter_0 rfl (lv_at hl 1 rfl) ?_
  refine lv_iload_n hx hb dX3_saidLetter_1 rfl (lv_at hl 2 rfl) ?_
  refine lv_iload_n hx hb dX3_saidLetter_2 rfl (lv_at hl 3 rfl) ?_
  refine lv_iload hx hb dX3_saidLetter_3 (lv_at hl 4 rfl) ?_
  refine call_i (run_S (rm := rm_X3_placeOf) hx hb hml hown hts (s_X3_placeOf l g ad th _ _ _ z1 z2 z3 z4 hst hT ) cS_X3_placeOf wg_823 ⟨Nat.le_of_ble_eq_true rfl, Nat.le_of_ble_eq_true rfl⟩ hG hE hA hP hD hS rfl hl.1 (As := [.int z1, .int z2, .int z3, .int z4]) (rest := []) rfl (Nat.le_of_ble_eq_true rfl) dX3_saidLetter_5 ⟨Nat.le_of_ble_eq_true rfl, Nat.le_of_ble_eq_true rfl⟩) hA hD hS (fun r1 L2 f3 H locs hp4 hP hD hS => ?_)
  obtain ⟨eL5L, eL5T⟩ := hp4
  have eL5L : L2 = L := eL5L
  have eL5T : f3 = f := eL5T
  rw [eL5L, eL5T] at hP hD
  refine lv_istore (lv' := [(5, .int r1), (0, .ref (cr ad j 0)), (1, .int z1), (2, .int z2), (3, .int z3), (4, .int z4)]) hx hb dX3_saidLetter_8 hl (by decide) rfl (fun ls hl => ?_)
  refine lv_aload_n hx hb dX3_saidLetter_10 rfl (lv_at hl 1 rfl) ?_
  obtain ⟨v0_6, v1_6, v2_6, v3_6, v4_6, v5_6, v6_6, v7_6, v8_6, hf7, hv1_6, hg1_6, hv2_6, hg2_6, hv6_6⟩ := hT.2.1 j hj 0 (by decide)
  refine pl_get (v := .int v6_6) hx hb hts (fun w h => mT (inX3 w h)) hown hG.1 hP (hst.c hj (by decide)) hf7 rfl 6 (by decide) (hts _ (mT wg_348)) (fun _ h => h) rfl dX3_saidLetter_11 ?_
  refine lv_iconst (v := 1) hx hb dX3_saidLetter_14 (by decide) ?_
  refine lv_isub hx hb dX3_saidLetter_15 ?_
  refine lv_topi (fun x8 ex8 => ?_)
  have hb9 : In x8 (-1) 29 := ex8 ▸ In.sub hv6_6 (⟨by decide, by decide⟩ : In 1 1 1) (by decide) (by decide) (by decide) (by decide)
  have et10 : x8.toInt = v6_6.toInt + (-1) := In.sube ex8 hv6_6 (k := 1) (by decide) (by decide) (by decide)
  refine lv_istore (lv' := [(6, .int x8), (5, .int r1), (0, .ref (cr ad j 0)), (1, .int z1), (2, .int z2), (3, .int z3), (4, .int z4)]) hx hb dX3_saidLetter_16 hl (by decide) rfl (fun ls hl => ?_)
  have hJ18 : ∀ (k18 : Nat) (y18_l6 : Int32) (H : Heap) (locs : List Loc) (ls : Array Slot), In y18_l6 (-1) 29 → va_P g.1 vwCl (va_pl L f) H → va_D A (va_pl L f) → va_S A s.heap H locs → lv_has ls 7 [(0, .ref (cr ad j 0)), (1, .int z1), (2, .int z2), (3, .int z3), (4, .int z4), (5, .int r1), (6, .int y18_l6)] → y18_l6.toInt - (-1) < ((k18 : Nat) : Int) → W p l e rm_X3_saidLetter s m [.ref (cr ad j 0), .int z1, .int z2, .int z3, .int z4].toArray below meth c H locs 0 0 (MQ below (va_Qi (po_X3_saidLetter g ad th L f j z1 z2 z3 z4) (PstB g A) A) [.ref (cr ad j 0), .int z1, .int z2, .int z3, .int z4].toArray s rm_X3_saidLetter.cells rm_X3_saidLetter.slots A) (F0 m 18 ls []) := by
    intro k18
    induction k18 with
    | zero =>
      intro y18_l6 H locs ls hy18_l6 hP hD hS hl hmz18
      exact ms0d hy18_l6 hmz18
    | succ k18 ih18 =>
      intro y18_l6 H locs ls hy18_l6 hP hD hS hl hmz18
      refine lv_iload hx hb dX3_saidLetter_18 (lv_at hl 6 rfl) ?_
      refine lv_if_lt (tgt := 53) hx hb dX3_saidLetter_20 (by decide) (fun c11 => ?_) (fun c11 => ?_)
      ·
        have cc12 : y18_l6.toInt < (0 : Int32).toInt := i32_lt.mp c11
        have hb13 : In y18_l6 (-1) (-1) := In.lt1 hy18_l6 (⟨by decide, by decide⟩ : In 0 0 0) cc12 (by omega) (by omega)
        refine lv_iconst (v := (-1)) hx hb dX3_saidLetter_53 (by decide) ?_
        exact ret_i (ty := .int) hx hb hr hlocks (rfl) hP hD hS (Nat.le_of_ble_eq_true rfl) (Nat.le_of_ble_eq_true rfl) (⟨rfl, rfl⟩) dX3_saidLetter_54
      ·
        have cc14 : (0 : Int32).toInt ≤ y18_l6.toInt := i32_nlt c11
        have hb15 : In y18_l6 0 29 := In.ge1 hy18_l6 (⟨by decide, by decide⟩ : In 0 0 0) cc14 (by omega) (by omega)
        refine lv_aload_n hx hb dX3_saidLetter_23 rfl (lv_at hl 0 rfl) ?_
        refine pl_get (v := .ref (cr ad j 1)) hx hb hts (fun w h => mT (inX3 w h)) hown hG.1 hP (hst.c hj (by decide)) hf7 rfl 9 (by decide) (hts _ (mT wg_352)) (fun _ h => h) rfl dX3_saidLetter_24 ?_
        refine lv_iload hx hb dX3_saidLetter_27 (lv_at hl 6 rfl) ?_
        obtain ⟨rw16, hf17⟩ := hT.2.1 j hj 1 (by decide)
        have hin18 : vp_in y18_l6 30 := In.inb hb15 (by decide) (by decide)
        refine pl_iald hx hb hG.1 hP (hst.c hj (by decide)) 0 hf17 rfl hin18 dX3_saidLetter_29 ?_
        refine lv_topi (fun x19 ex19 => ?_)
        refine lv_iconst (v := 3) hx hb dX3_saidLetter_30 (by decide) ?_
        refine lv_idiv hx hb dX3_saidLetter_31 (In.ne0 (⟨by decide, by decide⟩ : In 3 3 3) (by decide)) ?_
        refine lv_topi (fun x20 ex20 => ?_)
        refine lv_iload hx hb dX3_saidLetter_32 (lv_at hl 5 rfl) ?_
        refine lv_icmp_ne (tgt := 47) hx hb dX3_saidLetter_34 (by decide) (fun c21 => ?_) (fun c21 => ?_)
        ·
          obtain ⟨x22, ex22⟩ : ∃ y : Int32, y = y18_l6 + (-1) := ⟨_, rfl⟩
          have hb23 : In x22 (-1) 28 := ex22 ▸ In.add hb15 (⟨by decide, by decide⟩ : In (-1) (-1) (-1)) (by decide) (by decide) (by decide) (by decide)
          have et24 : x22.toInt = y18_l6.toInt + (-1) := In.adde ex22 hb15 (k := (-1)) (by decide) (by decide) (by decide)
          refine lv_iinc (v := x22) (lv' := [(6, .int x22), (0, .ref (cr ad j 0)), (1, .int z1), (2, .int z2), (3, .int z3), (4, .int z4), (5, .int r1)]) hx hb dX3_saidLetter_47 hl (k := 6) rfl (by rw [ex22]; rfl) (by decide) rfl (fun ls hl => ?_)
          refine lv_goto (tgt := 18) hx hb dX3_saidLetter_50 (by decide) ?_
          exact ih18 x22 _ _ _ (In.mono hb23 (by decide) (by decide)) hP hD hS (lv_sub hl [1, 2, 3, 4, 5, 6, 0] rfl) (msd et24 (by decide) hmz18)
        ·
          refine lv_aload_n hx hb dX3_saidLetter_37 rfl (lv_at hl 0 rfl) ?_
          refine pl_get (v := .ref (cr ad j 1)) hx hb hts (fun w h => mT (inX3 w h)) hown hG.1 hP (hst.c hj (by decide)) hf7 rfl 9 (by decide) (hts _ (mT wg_352)) (fun _ h => h) rfl dX3_saidLetter_38 ?_
          refine lv_iload hx hb dX3_saidLetter_41 (lv_at hl 6 rfl) ?_
          have hin25 : vp_in y18_l6 30 := In.inb hb15 (by decide) (by decide)
          refine pl_iald hx hb hG.1 hP (hst.c hj (by decide)) 0 hf17 rfl hin25 dX3_saidLetter_43 ?_
          refine lv_topi (fun x26 ex26 => ?_)
          obtain rfl : x19 = x26 := ex19.trans ex26.symm
          refine lv_iconst (v := 3) hx hb dX3_saidLetter_44 (by decide) ?_
          refine lv_irem hx hb dX3_saidLetter_45 (In.ne0 (⟨by decide, by decide⟩ : In 3 3 3) (by decide)) ?_
          refine lv_topi (fun x27 ex27 => ?_)
          exact ret_i (ty := .int) hx hb hr hlocks (rfl) hP hD hS (Nat.le_of_ble_eq_true rfl) (Nat.le_of_ble_eq_true rfl) (⟨rfl, rfl⟩) dX3_saidLetter_46
  exact hJ18 ((x8.toInt - (-1)).toNat + 1) x8 _ _ _ hb9 hP hD hS (lv_sub hl [2, 3, 4, 5, 6, 1, 0] rfl) (msI _)

abbrev rm_X3_addSaid : Room := { frames := 1, cells := 0, slots := 0, locals := 23 }
abbrev po_X3_addSaid (g : GG) (ad : Nat → Nat) (th : Nat → Int) (L : List Nat) (f : HP) (j : Nat) (z1 : Int32) (z2 : Int32) (z3 : Int32) (z4 : Int32) (z5 : Int32) : (List Nat × HP) → Prop := fun u => u.1 = L ∧ TI g ad th u.2 ∧ (∀ b, b ≠ (cr ad j 0) → b ≠ (cr ad j 1) → u.2 b = f b)
set_option maxHeartbeats 4000000 in
set_option maxRecDepth 100000 in
theorem s_X3_addSaid (l : Launch) (g : GG) (ad : Nat → Nat) (th : Nat → Int) (L : List Nat) (f : HP) (sz : Nat) (j : Nat) (z1 : Int32) (z2 : Int32) (z3 : Int32) (z4 : Int32) (z5 : Int32) (hst : ST ad L) (hT : TI g ad th f) (hj : j < 23) : MtV l g yX3_addSaid cX3_addSaid 6 rm_X3_addSaid [.ref (cr ad j 0), .int z1, .int z2, .int z3, .int z4, .int z5] L f sz (po_X3_addSaid g ad th L f j z1 z2 z3 z4 z5) := by
  refine MtV.of (by decide +kernel) (Nat.le_of_ble_eq_true rfl) ?_
  intro p e s m below meth c A hEn hP hD hS ls hl
  obtain ⟨hx, hb, hr, hml, hown, hlocks, hts, hG, hA, hE, hnm⟩ := hEn
  have hown : s.vm.findClass "RulerWord$Course" = some m.cls := hown
  have hl : lv_has ls 6 [(0, .ref (cr ad j 0)), (1, .int z1), (2, .int z2), (3, .int z3), (4, .int z4), (5, .int z5)] := hl
  have hfr : (∀ b, b ≠ (cr ad j 0) → b ≠ (cr ad j 1) → f b = f b) := fun b z0_ z1_ => rfl
  refine lv_aload_n hx hb dX3_addSaid_0 rfl (lv_at hl 0 rfl) ?_
  obtain ⟨v0_1, v1_1, v2_1, v3_1, v4_1, v5_1, v6_1, v7_1, v8_1, hf2, hv1_1, hg1_1, hv2_1, hg2_1, hv6_1⟩ := hT.2.1 j hj 0 (by decide)
  refine pl_get (v := .int v6_1) hx hb hts (fun w h => mT (inX3 w h)) hown hG.1 hP (hst.c hj (by decide)) hf2 rfl 6 (by decide) (hts _ (mT wg_348)) (fun _ h => h) rfl dX3_addSaid_1 ?_
  refine lv_aload_n hx hb dX3_addSaid_4 rfl (lv_at hl 0 rfl) ?_
  refine pl_get (v := .ref (cr ad j 1)) hx hb hts (fun w h => mT (inX3 w h)) hown hG.1 hP (hst.c hj (by decide)) hf2 rfl 9 (by decide) (hts _ (mT wg_352)) (fun _ h => h) rfl dX3_addSaid_5 ?_
  obtain ⟨rw3, hf4⟩ := hT.2.1 j hj 1 (by decide)
  refine pl_alen (v := 30) hx hb hG.1 hP (hst.c hj (by decide)) 0 hf4 rfl (rfl) dX3_addSaid_8 ?_
  refine lv_icmp_ge (tgt := 44) hx hb dX3_addSaid_9 (by decide) (fun c5 => ?_) (fun c5 => ?_)
  ·
    have cc6 : (30 : Int32).toInt ≤ v6_1.toInt := i32_le.mp c5
    have hb7 : In v6_1 30 30 := In.ge1 hv6_1 (⟨by decide, by decide⟩ : In 30 30 30) cc6 (by omega) (by omega)
    exact ret_v hx hb hr hlocks hP hD hS (Nat.le_of_ble_eq_true rfl) (Nat.le_of_ble_eq_true rfl) (⟨rfl, hT, hfr⟩) dX3_addSaid_44
  ·
    have cc8 : v6_1.toInt < (30 : Int32).toInt := i32_nle c5
    have hb9 : In v6_1 0 29 := In.lt1 hv6_1 (⟨by decide, by decide⟩ : In 30 30 30) cc8 (by omega) (by omega)
    refine lv_aload_n hx hb dX3_addSaid_12 rfl (lv_at hl 0 rfl) ?_
    refine pl_get (v := .ref (cr ad j 1)) hx hb hts (fun w h => mT (inX3 w h)) hown hG.1 hP (hst.c hj (by decide)) hf2 rfl 9 (by decide) (hts _ (mT wg_352)) (fun _ h => h) rfl dX3_addSaid_13 ?_
    refine lv_aload_n hx hb dX3_addSaid_16 rfl (lv_at hl 0 rfl) ?_
    refine pl_get (v := .int v6_1) hx hb hts (fun w h => mT (inX3 w h)) hown hG.1 hP (hst.c hj (by decide)) hf2 rfl 6 (by decide) (hts _ (mT wg_348)) (fun _ h => h) rfl dX3_addSaid_17 ?_
    refine lv_iload_n hx hb dX3_addSaid_20 rfl (lv_at hl 1 rfl) ?_
    refine lv_iload_n hx hb dX3_addSaid_21 rfl (lv_at hl 2 rfl) ?_
    refine lv_iload_n hx hb dX3_addSaid_22 rfl (lv_at hl 3 rfl) ?_
    refine lv_iload hx hb dX3_addSaid_23 (lv_at hl 4 rfl) ?_
    refine call_i (run_S (rm := rm_X3_placeOf) hx hb hml hown hts (s_X3_placeOf l g ad th _ _ _ z1 z2 z3 z4 hst hT ) cS_X3_placeOf wg_823 ⟨Nat.le_of_ble_eq_true rfl, Nat.le_of_ble_eq_true rfl⟩ hG hE hA hP hD hS rfl hl.1 (As := [.int z1, .int z2, .int z3, .int z4]) (rest := [.int v6_1, .ref (cr ad j 1)]) rfl (Nat.le_of_ble_eq_true rfl) dX3_addSaid_25 ⟨Nat.le_of_ble_eq_true rfl, Nat.le_of_ble_eq_true rfl⟩) hA hD hS (fun r10 L11 f12 H locs hp13 hP hD hS => ?_)
    obtain ⟨eL14L, eL14T⟩ := hp13
    have eL14L : L11 = L := eL14L
    have eL14T : f12 = f := eL14T
    rw [eL14L, eL14T] at hP hD
    refine lv_iconst (v := 3) hx hb dX3_addSaid_28 (by decide) ?_
    refine lv_imul hx hb dX3_addSaid_29 ?_
    refine lv_topi (fun x15 ex15 => ?_)
    refine lv_iload hx hb dX3_addSaid_30 (lv_at hl 5 rfl) ?_
    refine lv_iadd hx hb dX3_addSaid_32 ?_
    refine lv_topi (fun x16 ex16 => ?_)
    refine pl_iastE hx hb hG.1 hP hD hS (hst.c hj (by decide)) 0 hf4 rfl (In.inb hb9 (by decide) (by decide)) dX3_addSaid_33 (fun H locs f17 r20 er20 hf18 ho19 hP hD hS => ?_)
    have hf21 := (ho19 (cr ad j 0) (hst.ne (by omega) (by omega) (by omega))).trans hf2
    have hfr : (∀ b, b ≠ (cr ad j 0) → b ≠ (cr ad j 1) → f17 b = f b) := fun b z0_ z1_ => (ho19 b z1_).trans (hfr b z0_ z1_)
    refine lv_aload_n hx hb dX3_addSaid_34 rfl (lv_at hl 0 rfl) ?_
    refine lv_dup hx hb dX3_addSaid_35 rfl ?_
    refine pl_get (v := .int v6_1) hx hb hts (fun w h => mT (inX3 w h)) hown hG.1 hP (hst.c hj (by decide)) hf21 rfl 6 (by decide) (hts _ (mT wg_348)) (fun _ h => h) rfl dX3_addSaid_36 ?_
    refine lv_iconst (v := 1) hx hb dX3_addSaid_39 (by decide) ?_
    refine lv_iadd hx hb dX3_addSaid_40 ?_
    refine lv_topi (fun x22 ex22 => ?_)
    have hb23 : In x22 1 30 := ex22 ▸ In.add hb9 (⟨by decide, by decide⟩ : In 1 1 1) (by decide) (by decide) (by decide) (by decide)
    have et24 : x22.toInt = v6_1.toInt + 1 := In.adde ex22 hb9 (k := 1) (by decide) (by decide) (by decide)
    have hT := TI.updC hT hst hj (k := 1) (by decide) hf18 ho19 ⟨r20, rfl⟩
    refine pl_put (ty := .int) (v := .int x22) (fs' := [.int v0_1, .int v1_1, .int v2_1, .int v3_1, .int v4_1, .int v5_1, .int x22, .long v7_1, .long v8_1, .ref (cr ad j 1), .ref (cr ad j 2), .ref (cr ad j 3), .ref (cr ad j 4), .ref (cr ad j 5), .ref (cr ad j 6), .ref (cr ad j 7), .ref (cr ad j 8), .ref (cr ad j 9)]) hx hb hts (fun w h => mT (inX3 w h)) tyX3 tyX3_ok nmX3 hown hG.1 hP hD hS (hst.c hj (by decide)) hf21 rfl 6 (by decide) (hts _ (mT wg_348)) (fun _ h => h) rfl (by decide +kernel) (rfl) (rfl) (Nat.le_of_ble_eq_true rfl) rfl dX3_addSaid_41 (fun H locs f25 hf26 ho27 hP hD hS => ?_)
    have hf28 := (ho27 (cr ad j 1) (hst.ne (by omega) (by omega) (by omega))).trans hf18
    have hfr : (∀ b, b ≠ (cr ad j 0) → b ≠ (cr ad j 1) → f25 b = f b) := fun b z0_ z1_ => (ho27 b z0_).trans (hfr b z0_ z1_)
    have hT := TI.updC hT hst hj (k := 0) (by decide) hf26 ho27 ⟨v0_1, v1_1, v2_1, v3_1, v4_1, v5_1, x22, v7_1, v8_1, rfl, hv1_1, hg1_1, hv2_1, hg2_1, (In.mono hb23 (by decide) (by decide))⟩
    exact ret_v hx hb hr hlocks hP hD hS (Nat.le_of_ble_eq_true rfl) (Nat.le_of_ble_eq_true rfl) (⟨rfl, hT, hfr⟩) dX3_addSaid_44

abbrev rm_X3_dropSaidByTrue : Room := { frames := 1, cells := 0, slots := 0, locals := 21 }
abbrev po_X3_dropSaidByTrue (g : GG) (ad : Nat → Nat) (th : Nat → Int) (L : List Nat) (f : HP) (j : Nat) : (List Nat × HP) → Prop := fun u => u.1 = L ∧ TI g ad th u.2 ∧ (∀ b, b ≠ (cr ad j 0) → b ≠ (cr ad j 1) → u.2 b = f b)
set_option maxHeartbeats 4000000 in
set_option maxRecDepth 100000 in
theorem s_X3_dropSaidByTrue (l : Launch) (g : GG) (ad : Nat → Nat) (th : Nat → Int) (L : List Nat) (f : HP) (sz : Nat) (j : Nat) (hst : ST ad L) (hT : TI g ad th f) (hj : j < 23) : MtV l g yX3_dropSaidByTrue cX3_dropSaidByTrue 4 rm_X3_dropSaidByTrue [.ref (cr ad j 0)] L f sz (po_X3_dropSaidByTrue g ad th L f j) := by
  refine MtV.of (by decide +kernel) (Nat.le_of_ble_eq_true rfl) ?_
  intro p e s m below meth c A hEn hP hD hS ls hl
  obtain ⟨hx, hb, hr, hml, hown, hlocks, hts, hG, hA, hE, hnm⟩ := hEn
  have hown : s.vm.findClass "RulerWord$Course" = some m.cls := hown
  have hl : lv_has ls 4 [(0, .ref (cr ad j 0))] := hl
  have hfr : (∀ b, b ≠ (cr ad j 0) → b ≠ (cr ad j 1) → f b = f b) := fun b z0_ z1_ => rfl
  refine lv_iconst (v := 0) hx hb dX3_dropSaidByTrue_0 (by decide) ?_
  refine lv_istore_n (lv' := [(1, .int 0), (0, .ref (cr ad j 0))]) hx hb dX3_dropSaidByTrue_1 rfl hl (by decide) rfl (fun ls hl => ?_)
  refine lv_iconst (v := 0) hx hb dX3_dropSaidByTrue_2 (by decide) ?_
  refine lv_istore_n (lv' := [(2, .int 0), (1, .int 0), (0, .ref (cr ad j 0))]) hx hb dX3_dropSaidByTrue_3 rfl hl (by decide) rfl (fun ls hl => ?_)
  have hJ4 : ∀ (k4 : Nat) (y4_l1 : Int32) (y4_l2 : Int32) (f_4 : HP) (H : Heap) (locs : List Loc) (ls : Array Slot), In y4_l1 0 30 → In y4_l2 0 30 → va_P g.1 vwCl (va_pl L f_4) H → va_D A (va_pl L f_4) → va_S A s.heap H locs → TI g ad th f_4 → (∀ b, b ≠ (cr ad j 0) → b ≠ (cr ad j 1) → f_4 b = f b) → y4_l1.toInt ≤ y4_l2.toInt → lv_has ls 4 [(0, .ref (cr ad j 0)), (1, .int y4_l1), (2, .int y4_l2)] → 30 - y4_l2.toInt < ((k4 : Nat) : Int) → W p l e rm_X3_dropSaidByTrue s m [.ref (cr ad j 0)].toArray below meth c H locs 0 0 (MQ below (va_Qv (po_X3_dropSaidByTrue g ad th L f j) (PstB g A) A) [.ref (cr ad j 0)].toArray s rm_X3_dropSaidByTrue.cells rm_X3_dropSaidByTrue.slots A) (F0 m 4 ls []) := by
    intro k4
    induction k4 with
    | zero =>
      intro y4_l1 y4_l2 f_4 H locs ls hy4_l1 hy4_l2 hP hD hS hT hfr hinv4_0 hl hmz4
      exact ms0 hy4_l2 hmz4
    | succ k4 ih4 =>
      intro y4_l1 y4_l2 f_4 H locs ls hy4_l1 hy4_l2 hP hD hS hT hfr hinv4_0 hl hmz4
      refine lv_iload_n hx hb dX3_dropSaidByTrue_4 rfl (lv_at hl 2 rfl) ?_
      refine lv_aload_n hx hb dX3_dropSaidByTrue_5 rfl (lv_at hl 0 rfl) ?_
      obtain ⟨v0_1, v1_1, v2_1, v3_1, v4_1, v5_1, v6_1, v7_1, v8_1, hf2, hv1_1, hg1_1, hv2_1, hg2_1, hv6_1⟩ := hT.2.1 j hj 0 (by decide)
      refine pl_get (v := .int v6_1) hx hb hts (fun w h => mT (inX3 w h)) hown hG.1 hP (hst.c hj (by decide)) hf2 rfl 6 (by decide) (hts _ (mT wg_348)) (fun _ h => h) rfl dX3_dropSaidByTrue_6 ?_
      refine lv_icmp_ge (tgt := 58) hx hb dX3_dropSaidByTrue_9 (by decide) (fun c3 => ?_) (fun c3 => ?_)
      ·
        have cc4 : v6_1.toInt ≤ y4_l2.toInt := i32_le.mp c3
        refine lv_aload_n hx hb dX3_dropSaidByTrue_58 rfl (lv_at hl 0 rfl) ?_
        refine lv_iload_n hx hb dX3_dropSaidByTrue_59 rfl (lv_at hl 1 rfl) ?_
        refine pl_put (ty := .int) (v := .int y4_l1) (fs' := [.int v0_1, .int v1_1, .int v2_1, .int v3_1, .int v4_1, .int v5_1, .int y4_l1, .long v7_1, .long v8_1, .ref (cr ad j 1), .ref (cr ad j 2), .ref (cr ad j 3), .ref (cr ad j 4), .ref (cr ad j 5), .ref (cr ad j 6), .ref (cr ad j 7), .ref (cr ad j 8), .ref (cr ad j 9)]) hx hb hts (fun w h => mT (inX3 w h)) tyX3 tyX3_ok nmX3 hown hG.1 hP hD hS (hst.c hj (by decide)) hf2 rfl 6 (by decide) (hts _ (mT wg_348)) (fun _ h => h) rfl (by decide +kernel) (rfl) (rfl) (Nat.le_of_ble_eq_true rfl) rfl dX3_dropSaidByTrue_60 (fun H locs f5 hf6 ho7 hP hD hS => ?_)
        have hfr : (∀ b, b ≠ (cr ad j 0) → b ≠ (cr ad j 1) → f5 b = f b) := fun b z0_ z1_ => (ho7 b z0_).trans (hfr b z0_ z1_)
        have hT := TI.updC hT hst hj (k := 0) (by decide) hf6 ho7 ⟨v0_1, v1_1, v2_1, v3_1, v4_1, v5_1, y4_l1, v7_1, v8_1, rfl, hv1_1, hg1_1, hv2_1, hg2_1, hy4_l1⟩
        exact ret_v hx hb hr hlocks hP hD hS (Nat.le_of_ble_eq_true rfl) (Nat.le_of_ble_eq_true rfl) (⟨rfl, hT, hfr⟩) dX3_dropSaidByTrue_63
      ·
        have cc8 : y4_l2.toInt < v6_1.toInt := i32_nle c3
        have hb9 : In y4_l2 0 29 := In.lt1 hy4_l2 hv6_1 cc8 (by omega) (by omega)
        have hb10 : In v6_1 1 30 := In.lt2 hy4_l2 hv6_1 cc8 (by omega) (by omega)
        refine lv_aload_n hx hb dX3_dropSaidByTrue_12 rfl (lv_at hl 0 rfl) ?_
        refine pl_get (v := .ref (cr ad j 1)) hx hb hts (fun w h => mT (inX3 w h)) hown hG.1 hP (hst.c hj (by decide)) hf2 rfl 9 (by decide) (hts _ (mT wg_352)) (fun _ h => h) rfl dX3_dropSaidByTrue_13 ?_
        refine lv_iload_n hx hb dX3_dropSaidByTrue_16 rfl (lv_at hl 2 rfl) ?_
        obtain ⟨rw11, hf12⟩ := hT.2.1 j hj 1 (by decide)
        have hin13 : vp_in y4_l2 30 := In.inb hb9 (by decide) (by decide)
        refine pl_iald hx hb hG.1 hP (hst.c hj (by decide)) 0 hf12 rfl hin13 dX3_dropSaidByTrue_17 ?_
        refine lv_topi (fun x14 ex14 => ?_)
        refine lv_bipush (v := 27) hx hb dX3_dropSaidByTrue_18 (by decide) ?_
        refine lv_idiv hx hb dX3_dropSaidByTrue_20 (In.ne0 (⟨by decide, by decide⟩ : In 27 27 27) (by decide)) ?_
        refine lv_topi (fun x15 ex15 => ?_)
        refine lv_bipush (v := 9) hx hb dX3_dropSaidByTrue_21 (by decide) ?_
        refine lv_irem hx hb dX3_dropSaidByTrue_23 (In.ne0 (⟨by decide, by decide⟩ : In 9 9 9) (by decide)) ?_
        refine lv_topi (fun x16 ex16 => ?_)
        refine lv_istore_n (lv' := [(3, .int x16), (0, .ref (cr ad j 0)), (1, .int y4_l1), (2, .int y4_l2)]) hx hb dX3_dropSaidByTrue_24 rfl hl (by decide) rfl (fun ls hl => ?_)
        refine lv_aload_n hx hb dX3_dropSaidByTrue_25 rfl (lv_at hl 1 rfl) ?_
        refine pl_get (v := .int v1_1) hx hb hts (fun w h => mT (inX3 w h)) hown hG.1 hP (hst.c hj (by decide)) hf2 rfl 1 (by decide) (hts _ (mT wg_338)) (fun _ h => h) rfl dX3_dropSaidByTrue_26 ?_
        refine lv_iload_n hx hb dX3_dropSaidByTrue_29 rfl (lv_at hl 0 rfl) ?_
        refine call_i (run_SN (rm := rm_X10_bit) hx hb hml hown hts (s_X10_bit l g ad th _ _ _ v1_1 x16 hst hT ) cS_X10_bit wn_794 ⟨Nat.le_of_ble_eq_true rfl, Nat.le_of_ble_eq_true rfl⟩ hG hE hA hP hD hS rfl hl.1 (As := [.int v1_1, .int x16]) (rest := []) rfl (Nat.le_of_ble_eq_true rfl) dX3_dropSaidByTrue_30 ⟨Nat.le_of_ble_eq_true rfl, Nat.le_of_ble_eq_true rfl⟩) hA hD hS (fun r17 L18 f19 H locs hp20 hP hD hS => ?_)
        obtain ⟨eL21L, eL21T, eL21R, eL21X0⟩ := hp20
        have eL21L : L18 = L := eL21L
        have eL21T : f19 = f_4 := eL21T
        rw [eL21L, eL21T] at hP hD
        have eL21R : In r17 0 1 := eL21R
        refine lv_iconst (v := 1) hx hb dX3_dropSaidByTrue_33 (by decide) ?_
        have hJ52 : ∀ (y52_l1 : Int32) (f_52 : HP) (H : Heap) (locs : List Loc) (ls : Array Slot), In y52_l1 0 31 → va_P g.1 vwCl (va_pl L f_52) H → va_D A (va_pl L f_52) → va_S A s.heap H locs → TI g ad th f_52 → (∀ b, b ≠ (cr ad j 0) → b ≠ (cr ad j 1) → f_52 b = f b) → f_52 (cr ad j 0) = .inr (3, [.int v0_1, .int v1_1, .int v2_1, .int v3_1, .int v4_1, .int v5_1, .int v6_1, .long v7_1, .long v8_1, .ref (cr ad j 1), .ref (cr ad j 2), .ref (cr ad j 3), .ref (cr ad j 4), .ref (cr ad j 5), .ref (cr ad j 6), .ref (cr ad j 7), .ref (cr ad j 8), .ref (cr ad j 9)]) → y52_l1.toInt ≤ y4_l2.toInt + 1 → lv_has ls 4 [(0, .ref (cr ad j 0)), (1, .int y52_l1), (2, .int y4_l2), (3, .int x16)] → W p l e rm_X3_dropSaidByTrue s m [.ref (cr ad j 0)].toArray below meth c H locs 0 0 (MQ below (va_Qv (po_X3_dropSaidByTrue g ad th L f j) (PstB g A) A) [.ref (cr ad j 0)].toArray s rm_X3_dropSaidByTrue.cells rm_X3_dropSaidByTrue.slots A) (F0 m 52 ls []) := by
          intro y52_l1 f_52 H locs ls hy52_l1 hP hD hS hT hfr hf22 hinv52_0 hl
          obtain ⟨x23, ex23⟩ : ∃ y : Int32, y = y4_l2 + 1 := ⟨_, rfl⟩
          have hb24 : In x23 1 30 := ex23 ▸ In.add hb9 (⟨by decide, by decide⟩ : In 1 1 1) (by decide) (by decide) (by decide) (by decide)
          have et25 : x23.toInt = y4_l2.toInt + 1 := In.adde ex23 hb9 (k := 1) (by decide) (by decide) (by decide)
          refine lv_iinc (v := x23) (lv' := [(2, .int x23), (0, .ref (cr ad j 0)), (1, .int y52_l1), (3, .int x16)]) hx hb dX3_dropSaidByTrue_52 hl (k := 2) rfl (by rw [ex23]; rfl) (by decide) rfl (fun ls hl => ?_)
          refine lv_goto (tgt := 4) hx hb dX3_dropSaidByTrue_55 (by decide) ?_
          exact ih4 y52_l1 x23 _ _ _ _ (In.mk (by obtain ⟨o0a, o0b⟩ := (hy52_l1 : In _ _ _); obtain ⟨o1a, o1b⟩ := (hb9 : In _ _ _); obtain ⟨o2a, o2b⟩ := (hy4_l1 : In _ _ _); obtain ⟨o3a, o3b⟩ := (hb10 : In _ _ _); omega) (by obtain ⟨o0a, o0b⟩ := (hy52_l1 : In _ _ _); obtain ⟨o1a, o1b⟩ := (hb9 : In _ _ _); obtain ⟨o2a, o2b⟩ := (hy4_l1 : In _ _ _); obtain ⟨o3a, o3b⟩ := (hb10 : In _ _ _); omega)) (In.mono hb24 (by decide) (by decide)) hP hD hS hT hfr (by obtain ⟨o0a, o0b⟩ := (hy52_l1 : In _ _ _); obtain ⟨o1a, o1b⟩ := (hb24 : In _ _ _); obtain ⟨o2a, o2b⟩ := (hb9 : In _ _ _); obtain ⟨o3a, o3b⟩ := (hy4_l1 : In _ _ _); obtain ⟨o4a, o4b⟩ := (hb10 : In _ _ _); omega) (lv_sub hl [1, 2, 0] rfl) (msu et25 (by decide) hmz4)
        refine lv_icmp_ne (tgt := 52) hx hb dX3_dropSaidByTrue_34 (by decide) (fun c26 => ?_) (fun c26 => ?_)
        ·
          have oc1 : (1 : Int32).toInt = 1 := by decide
          have cc27 : r17.toInt ≠ (1 : Int32).toInt := i32_ne c26
          have hb28 : In r17 0 0 := In.ne1 eL21R (⟨by decide, by decide⟩ : In 1 1 1) cc27 (by omega) (by omega)
          exact hJ52 y4_l1 _ _ _ _ (In.mono hy4_l1 (by decide) (by decide)) hP hD hS hT hfr hf2 (by obtain ⟨o0a, o0b⟩ := (hy4_l1 : In _ _ _); obtain ⟨o1a, o1b⟩ := (hb9 : In _ _ _); obtain ⟨o2a, o2b⟩ := (hb10 : In _ _ _); omega) (lv_sub hl [1, 2, 3, 0] rfl)
        ·
          have oc1 : (1 : Int32).toInt = 1 := by decide
          have cc29 : r17.toInt = (1 : Int32).toInt := congrArg Int32.toInt c26
          have hb30 : In r17 1 1 := In.eq1 eL21R (⟨by decide, by decide⟩ : In 1 1 1) cc29 (by omega) (by omega)
          refine lv_aload_n hx hb dX3_dropSaidByTrue_37 rfl (lv_at hl 1 rfl) ?_
          refine pl_get (v := .ref (cr ad j 1)) hx hb hts (fun w h => mT (inX3 w h)) hown hG.1 hP (hst.c hj (by decide)) hf2 rfl 9 (by decide) (hts _ (mT wg_352)) (fun _ h => h) rfl dX3_dropSaidByTrue_38 ?_
          refine lv_iload_n hx hb dX3_dropSaidByTrue_41 rfl (lv_at hl 2 rfl) ?_
          refine lv_aload_n hx hb dX3_dropSaidByTrue_42 rfl (lv_at hl 1 rfl) ?_
          refine pl_get (v := .ref (cr ad j 1)) hx hb hts (fun w h => mT (inX3 w h)) hown hG.1 hP (hst.c hj (by decide)) hf2 rfl 9 (by decide) (hts _ (mT wg_352)) (fun _ h => h) rfl dX3_dropSaidByTrue_43 ?_
          refine lv_iload_n hx hb dX3_dropSaidByTrue_46 rfl (lv_at hl 3 rfl) ?_
          have hin31 : vp_in y4_l2 30 := In.inb hb9 (by decide) (by decide)
          refine pl_iald hx hb hG.1 hP (hst.c hj (by decide)) 0 hf12 rfl hin31 dX3_dropSaidByTrue_47 ?_
          refine lv_topi (fun x32 ex32 => ?_)
          obtain rfl : x14 = x32 := ex14.trans ex32.symm
          refine pl_iastE hx hb hG.1 hP hD hS (hst.c hj (by decide)) 0 hf12 rfl (vp_of (by obtain ⟨o0a, o0b⟩ := (hy4_l1 : In _ _ _); obtain ⟨o1a, o1b⟩ := (hb9 : In _ _ _); obtain ⟨o2a, o2b⟩ := (hb10 : In _ _ _); omega) (by obtain ⟨o0a, o0b⟩ := (hy4_l1 : In _ _ _); obtain ⟨o1a, o1b⟩ := (hb9 : In _ _ _); obtain ⟨o2a, o2b⟩ := (hb10 : In _ _ _); omega)) dX3_dropSaidByTrue_48 (fun H locs f33 r36 er36 hf34 ho35 hP hD hS => ?_)
          have hf37 := (ho35 (cr ad j 0) (hst.ne (by omega) (by omega) (by omega))).trans hf2
          have hfr : (∀ b, b ≠ (cr ad j 0) → b ≠ (cr ad j 1) → f33 b = f b) := fun b z0_ z1_ => (ho35 b z1_).trans (hfr b z0_ z1_)
          obtain ⟨x38, ex38⟩ : ∃ y : Int32, y = y4_l1 + 1 := ⟨_, rfl⟩
          have hb39 : In x38 1 31 := ex38 ▸ In.add hy4_l1 (⟨by decide, by decide⟩ : In 1 1 1) (by decide) (by decide) (by decide) (by decide)
          have et40 : x38.toInt = y4_l1.toInt + 1 := In.adde ex38 hy4_l1 (k := 1) (by decide) (by decide) (by decide)
          refine lv_iinc (v := x38) (lv' := [(1, .int x38), (3, .int x16), (0, .ref (cr ad j 0)), (2, .int y4_l2)]) hx hb dX3_dropSaidByTrue_49 hl (k := 2) rfl (by rw [ex38]; rfl) (by decide) rfl (fun ls hl => ?_)
          have hT := TI.updC hT hst hj (k := 1) (by decide) hf34 ho35 ⟨r36, rfl⟩
          exact hJ52 x38 _ _ _ _ (In.mono hb39 (by decide) (by decide)) hP hD hS hT hfr hf37 (by obtain ⟨o0a, o0b⟩ := (hb39 : In _ _ _); obtain ⟨o1a, o1b⟩ := (hb9 : In _ _ _); obtain ⟨o2a, o2b⟩ := (hy4_l1 : In _ _ _); obtain ⟨o3a, o3b⟩ := (hb10 : In _ _ _); omega) (lv_sub hl [2, 0, 3, 1] rfl)
  exact hJ4 ((30 - (0 : Int32).toInt).toNat + 1) 0 0 _ _ _ _ (⟨by decide, by decide⟩ : In 0 0 30) (⟨by decide, by decide⟩ : In 0 0 30) hP hD hS hT hfr (by have oc0 : (0 : Int32).toInt = 0 := (by decide); omega) (lv_sub hl [2, 1, 0] rfl) (msI _)

abbrev rm_X3_reachedBy : Room := { frames := 1, cells := 0, slots := 0, locals := 21 }
abbrev po_X3_reachedBy (g : GG) (ad : Nat → Nat) (th : Nat → Int) (L : List Nat) (f : HP) (z0 : Int64) (z1 : Int32) (z2 : Int32) : Int32 → (List Nat × HP) → Prop := fun _ u => u.1 = L ∧ u.2 = f
set_option maxHeartbeats 4000000 in
set_option maxRecDepth 100000 in
theorem s_X3_reachedBy (l : Launch) (g : GG) (ad : Nat → Nat) (th : Nat → Int) (L : List Nat) (f : HP) (sz : Nat) (z0 : Int64) (z1 : Int32) (z2 : Int32) (hst : ST ad L) (hT : TI g ad th f)  : MtI l g yX3_reachedBy cX3_reachedBy 6 (some .int) rm_X3_reachedBy [.long z0, .int z1, .int z2] L f sz (po_X3_reachedBy g ad th L f z0 z1 z2) := by
  refine MtI.of (by decide +kernel) (Nat.le_of_ble_eq_true rfl) ?_
  intro p e s m below meth c A hEn hP hD hS ls hl
  obtain ⟨hx, hb, hr, hml, hown, hlocks, hts, hG, hA, hE, hnm⟩ := hEn
  have hown : s.vm.findClass "RulerWord$Course" = some m.cls := hown
  have hl : lv_has ls 6 [(0, .long z0), (2, .int z1), (3, .int z2)] := hl
  refine lv_lconst (v := 1) hx hb dX3_reachedBy_0 (by decide) ?_
  refine lv_iconst (v := 4) hx hb dX3_reachedBy_1 (by decide) ?_
  refine lv_iload_n hx hb dX3_reachedBy_2 rfl (lv_at hl 1 rfl) ?_
  refine lv_imul hx hb dX3_reachedBy_3 ?_
  refine lv_topi (fun x1 ex1 => ?_)
  refine lv_lshl hx hb dX3_reachedBy_4 rfl ?_
  refine lv_topl (fun x2 ex2 => ?_)
  refine lv_lconst (v := 1) hx hb dX3_reachedBy_5 (by decide) ?_
  refine lv_lsub hx hb dX3_reachedBy_6 ?_
  refine lv_topl (fun x3 ex3 => ?_)
  refine lv_ldc2 hx hb hown (hts _ (mT wg_834)) dX3_reachedBy_7 ?_
  refine lv_iconst (v := 4) hx hb dX3_reachedBy_10 (by decide) ?_
  refine lv_iload_n hx hb dX3_reachedBy_11 rfl (lv_at hl 2 rfl) ?_
  refine lv_imul hx hb dX3_reachedBy_12 ?_
  refine lv_topi (fun x4 ex4 => ?_)
  refine lv_lshl hx hb dX3_reachedBy_13 rfl ?_
  refine lv_topl (fun x5 ex5 => ?_)
  refine lv_ldc2 hx hb hown (hts _ (mT wg_835)) dX3_reachedBy_14 ?_
  refine lv_lxor hx hb dX3_reachedBy_17 ?_
  refine lv_topl (fun x6 ex6 => ?_)
  refine lv_land hx hb dX3_reachedBy_18 ?_
  refine lv_topl (fun x7 ex7 => ?_)
  refine lv_lstore (lv' := [(4, .long x7), (0, .long z0), (2, .int z1), (3, .int z2)]) hx hb dX3_reachedBy_19 hl (by decide) rfl (fun ls hl => ?_)
  refine lv_iload_n hx hb dX3_reachedBy_21 rfl (lv_at hl 2 rfl) ?_
  refine lv_iconst (v := 1) hx hb dX3_reachedBy_22 (by decide) ?_
  refine lv_isub hx hb dX3_reachedBy_23 ?_
  refine lv_topi (fun x8 ex8 => ?_)
  refine lv_lload_n hx hb dX3_reachedBy_24 rfl (lv_at hl 1 rfl) ?_
  refine lv_iconst (v := 1) hx hb dX3_reachedBy_25 (by decide) ?_
  refine lv_lushr hx hb dX3_reachedBy_26 rfl ?_
  refine lv_topl (fun x9 ex9 => ?_)
  refine lv_ldc2 hx hb hown (hts _ (mT wg_798)) dX3_reachedBy_27 ?_
  refine lv_land hx hb dX3_reachedBy_30 ?_
  refine lv_topl (fun x10 ex10 => ?_)
  refine lv_lload hx hb dX3_reachedBy_31 (lv_at hl 0 rfl) ?_
  refine lv_land hx hb dX3_reachedBy_33 ?_
  refine lv_topl (fun x11 ex11 => ?_)
  refine call_i (run_S (rm := rm_J13_bitCount_95d88) hx hb hml hown hts (s_J13_bitCount_95d88 l g ad th _ _ _ x11 hst hT ) cS_J13_bitCount_95d88 wg_836 ⟨Nat.le_of_ble_eq_true rfl, Nat.le_of_ble_eq_true rfl⟩ hG hE hA hP hD hS rfl hl.1 (As := [.long x11]) (rest := [.int x8]) rfl (Nat.le_of_ble_eq_true rfl) dX3_reachedBy_34 ⟨Nat.le_of_ble_eq_true rfl, Nat.le_of_ble_eq_true rfl⟩) hA hD hS (fun r12 L13 f14 H locs hp15 hP hD hS => ?_)
  obtain ⟨eL16L, eL16T, eL16R⟩ := hp15
  have eL16L : L13 = L := eL16L
  have eL16T : f14 = f := eL16T
  rw [eL16L, eL16T] at hP hD
  have eL16R : In r12 0 127 := eL16R
  refine lv_isub hx hb dX3_reachedBy_37 ?_
  refine lv_topi (fun x17 ex17 => ?_)
  exact ret_i (ty := .int) hx hb hr hlocks (rfl) hP hD hS (Nat.le_of_ble_eq_true rfl) (Nat.le_of_ble_eq_true rfl) (⟨rfl, rfl⟩) dX3_reachedBy_38

abbrev rm_X3_letter : Room := { frames := 1, cells := 0, slots := 0, locals := 22 }
abbrev po_X3_letter (g : GG) (ad : Nat → Nat) (th : Nat → Int) (L : List Nat) (f : HP) (j : Nat) (z1 : Int32) (z2 : Int32) (z3 : Int32) (z4 : Int32) : Int32 → (List Nat × HP) → Prop := fun r u => u.1 = L ∧ u.2 = f ∧ In r 0 15
set_option maxHeartbeats 4000000 in
set_option maxRecDepth 100000 in
theorem s_X3_letter (l : Launch) (g : GG) (ad : Nat → Nat) (th : Nat → Int) (L : List Nat) (f : HP) (sz : Nat) (j : Nat) (z1 : Int32) (z2 : Int32) (z3 : Int32) (z4 : Int32) (hst : ST ad L) (hT : TI g ad th f) (hj : j < 23) (hz1 : In z1 0 5) (hz2 : In z2 0 2) (hz3 : In z3 0 8) : MtI l g yX3_letter cX3_letter 5 (some .int) rm_X3_letter [.ref (cr ad j 0), .int z1, .int z2, .int z3, .int z4] L f sz (po_X3_letter g ad th L f j z1 z2 z3 z4) := by
  refine MtI.of (by decide +kernel) (Nat.le_of_ble_eq_true rfl) ?_
  intro p e s m below meth c A hEn hP hD hS ls hl
  obtain ⟨hx, hb, hr, hml, hown, hlocks, hts, hG, hA, hE, hnm⟩ := hEn
  have hown : s.vm.findClass "RulerWord$Course" = some m.cls := hown
  have hl : lv_has ls 5 [(0, .ref (cr ad j 0)), (1, .int z1), (2, .int z2), (3, .int z3), (4, .int z4)] := hl
  refine lv_aload_n hx hb dX3_letter_0 rfl (lv_at hl 0 rfl) ?_
  obtain ⟨v0_1, v1_1, v2_1, v3_1, v4_1, v5_1, v6_1, v7_1, v8_1, hf2, hv1_1, hg1_1, hv2_1, hg2_1, hv6_1⟩ := hT.2.1 j hj 0 (by decide)
  refine pl_get (v := .ref (cr ad j 2)) hx hb hts (fun w h => mT (inX3 w h)) hown hG.1 hP (hst.c hj (by decide)) hf2 rfl 10 (by decide) (hts _ (mT wg_353)) (fun _ h => h) rfl dX3_letter_1 ?_
  refine lv_iload_n hx hb dX3_letter_4 rfl (lv_at hl 1 rfl) ?_
  refine lv_iconst (v := 3) hx hb dX3_letter_5 (by decide) ?_
  refine lv_imul hx hb dX3_letter_6 ?_
  refine lv_topi (fun x3 ex3 => ?_)
  have hb4 : In x3 0 15 := ex3 ▸ In.mul hz1 (⟨by decide, by decide⟩ : In 3 3 3) (by decide) (by decide) (by decide) (by decide) (by decide)
  refine lv_iload_n hx hb dX3_letter_7 rfl (lv_at hl 2 rfl) ?_
  refine lv_iadd hx hb dX3_letter_8 ?_
  refine lv_topi (fun x5 ex5 => ?_)
  have hb6 : In x5 0 17 := ex5 ▸ In.add hb4 hz2 (by decide) (by decide) (by decide) (by decide)
  have et7 : x5.toInt = x3.toInt + z2.toInt := In.add2e ex5 hb4 hz2 (by decide) (by decide)
  refine lv_bipush (v := 9) hx hb dX3_letter_9 (by decide) ?_
  refine lv_imul hx hb dX3_letter_11 ?_
  refine lv_topi (fun x8 ex8 => ?_)
  have hb9 : In x8 0 153 := ex8 ▸ In.mul hb6 (⟨by decide, by decide⟩ : In 9 9 9) (by decide) (by decide) (by decide) (by decide) (by decide)
  refine lv_iload_n hx hb dX3_letter_12 rfl (lv_at hl 3 rfl) ?_
  refine lv_iadd hx hb dX3_letter_13 ?_
  refine lv_topi (fun x10 ex10 => ?_)
  have hb11 : In x10 0 161 := ex10 ▸ In.add hb9 hz3 (by decide) (by decide) (by decide) (by decide)
  have et12 : x10.toInt = x8.toInt + z3.toInt := In.add2e ex10 hb9 hz3 (by decide) (by decide)
  obtain ⟨rw13, hf14⟩ := hT.2.1 j hj 2 (by decide)
  have hin15 : vp_in x10 162 := In.inb hb11 (by decide) (by decide)
  refine pl_lald hx hb hG.1 hP (hst.c hj (by decide)) 1 hf14 rfl hin15 dX3_letter_14 ?_
  refine lv_topl (fun x16 ex16 => ?_)
  refine lv_iload hx hb dX3_letter_15 (lv_at hl 4 rfl) ?_
  refine call_i (run_SN (rm := rm_X10_nibble) hx hb hml hown hts (s_X10_nibble l g ad th _ _ _ x16 z4 hst hT ) cS_X10_nibble wn_795 ⟨Nat.le_of_ble_eq_true rfl, Nat.le_of_ble_eq_true rfl⟩ hG hE hA hP hD hS rfl hl.1 (As := [.long x16, .int z4]) (rest := []) rfl (Nat.le_of_ble_eq_true rfl) dX3_letter_17 ⟨Nat.le_of_ble_eq_true rfl, Nat.le_of_ble_eq_true rfl⟩) hA hD hS (fun r17 L18 f19 H locs hp20 hP hD hS => ?_)
  obtain ⟨eL21L, eL21T, eL21R⟩ := hp20
  have eL21L : L18 = L := eL21L
  have eL21T : f19 = f := eL21T
  rw [eL21L, eL21T] at hP hD
  have eL21R : In r17 0 15 := eL21R
  exact ret_i (ty := .int) hx hb hr hlocks (rfl) hP hD hS (Nat.le_of_ble_eq_true rfl) (Nat.le_of_ble_eq_true rfl) (⟨rfl, rfl, eL21R⟩) dX3_letter_20

abbrev rm_X3_onesHeard : Room := { frames := 1, cells := 0, slots := 0, locals := 22 }
abbrev po_X3_onesHeard (g : GG) (ad : Nat → Nat) (th : Nat → Int) (L : List Nat) (f : HP) (j : Nat) (z1 : Int32) (z2 : Int32) (z3 : Int32) : Int32 → (List Nat × HP) → Prop := fun r u => u.1 = L ∧ u.2 = f ∧ In r 0 15
set_option maxHeartbeats 4000000 in
set_option maxRecDepth 100000 in
theorem s_X3_onesHeard (l : Launch) (g : GG) (ad : Nat → Nat) (th : Nat → Int) (L : List Nat) (f : HP) (sz : Nat) (j : Nat) (z1 : Int32) (z2 : Int32) (z3 : Int32) (hst : ST ad L) (hT : TI g ad th f) (hj : j < 23) (hz1 : In z1 0 5) (hz2 : In z2 0 2) : MtI l g yX3_onesHeard cX3_onesHeard 4 (some .int) rm_X3_onesHeard [.ref (cr ad j 0), .int z1, .int z2, .int z3] L f sz (po_X3_onesHeard g ad th L f j z1 z2 z3) := by
  refine MtI.of (by decide +kernel) (Nat.le_of_ble_eq_true rfl) ?_
  intro p e s m below meth c A hEn hP hD hS ls hl
  obtain ⟨hx, hb, hr, hml, hown, hlocks, hts, hG, hA, hE, hnm⟩ := hEn
  have hown : s.vm.findClass "RulerWord$Course" = some m.cls := hown
  have hl : lv_has ls 4 [(0, .ref (cr ad j 0)), (1, .int z1), (2, .int z2), (3, .int z3)] := hl
  refine lv_aload_n hx hb dX3_onesHeard_0 rfl (lv_at hl 0 rfl) ?_
  obtain ⟨v0_1, v1_1, v2_1, v3_1, v4_1, v5_1, v6_1, v7_1, v8_1, hf2, hv1_1, hg1_1, hv2_1, hg2_1, hv6_1⟩ := hT.2.1 j hj 0 (by decide)
  refine pl_get (v := .ref (cr ad j 3)) hx hb hts (fun w h => mT (inX3 w h)) hown hG.1 hP (hst.c hj (by decide)) hf2 rfl 11 (by decide) (hts _ (mT wg_354)) (fun _ h => h) rfl dX3_onesHeard_1 ?_
  refine lv_iload_n hx hb dX3_onesHeard_4 rfl (lv_at hl 1 rfl) ?_
  refine lv_iconst (v := 3) hx hb dX3_onesHeard_5 (by decide) ?_
  refine lv_imul hx hb dX3_onesHeard_6 ?_
  refine lv_topi (fun x3 ex3 => ?_)
  have hb4 : In x3 0 15 := ex3 ▸ In.mul hz1 (⟨by decide, by decide⟩ : In 3 3 3) (by decide) (by decide) (by decide) (by decide) (by decide)
  refine lv_iload_n hx hb dX3_onesHeard_7 rfl (lv_at hl 2 rfl) ?_
  refine lv_iadd hx hb dX3_onesHeard_8 ?_
  refine lv_topi (fun x5 ex5 => ?_)
  have hb6 : In x5 0 17 := ex5 ▸ In.add hb4 hz2 (by decide) (by decide) (by decide) (by decide)
  have et7 : x5.toInt = x3.toInt + z2.toInt := In.add2e ex5 hb4 hz2 (by decide) (by decide)
  obtain ⟨rw8, hf9⟩ := hT.2.1 j hj 3 (by decide)
  have hin10 : vp_in x5 18 := In.inb hb6 (by decide) (by decide)
  refine pl_lald hx hb hG.1 hP (hst.c hj (by decide)) 1 hf9 rfl hin10 dX3_onesHeard_9 ?_
  refine lv_topl (fun x11 ex11 => ?_)
  refine lv_iload_n hx hb dX3_onesHeard_10 rfl (lv_at hl 3 rfl) ?_
  refine call_i (run_SN (rm := rm_X10_nibble) hx hb hml hown hts (s_X10_nibble l g ad th _ _ _ x11 z3 hst hT ) cS_X10_nibble wn_795 ⟨Nat.le_of_ble_eq_true rfl, Nat.le_of_ble_eq_true rfl⟩ hG hE hA hP hD hS rfl hl.1 (As := [.long x11, .int z3]) (rest := []) rfl (Nat.le_of_ble_eq_true rfl) dX3_onesHeard_11 ⟨Nat.le_of_ble_eq_true rfl, Nat.le_of_ble_eq_true rfl⟩) hA hD hS (fun r12 L13 f14 H locs hp15 hP hD hS => ?_)
  obtain ⟨eL16L, eL16T, eL16R⟩ := hp15
  have eL16L : L13 = L := eL16L
  have eL16T : f14 = f := eL16T
  rw [eL16L, eL16T] at hP hD
  have eL16R : In r12 0 15 := eL16R
  exact ret_i (ty := .int) hx hb hr hlocks (rfl) hP hD hS (Nat.le_of_ble_eq_true rfl) (Nat.le_of_ble_eq_true rfl) (⟨rfl, rfl, eL16R⟩) dX3_onesHeard_14

abbrev rm_X3_zerosHeard : Room := { frames := 2, cells := 0, slots := 0, locals := 45 }
abbrev po_X3_zerosHeard (g : GG) (ad : Nat → Nat) (th : Nat → Int) (L : List Nat) (f : HP) (j : Nat) (z2 : Int32) (z3 : Int32) (z4 : Int32) : Int32 → (List Nat × HP) → Prop := fun _ u => u.1 = L ∧ u.2 = f
set_option maxHeartbeats 4000000 in
set_option maxRecDepth 100000 in
theorem s_X3_zerosHeard (l : Launch) (g : GG) (ad : Nat → Nat) (th : Nat → Int) (L : List Nat) (f : HP) (sz : Nat) (j : Nat) (z2 : Int32) (z3 : Int32) (z4 : Int32) (hst : ST ad L) (hT : TI g ad th f) (hj : j < 23) (hz2 : In z2 0 5) (hz3 : In z3 0 2) : MtI l g yX3_zerosHeard cX3_zerosHeard 5 (some .int) rm_X3_zerosHeard [.ref (cr ad j 0), .ref (ad 6), .int z2, .int z3, .int z4] L f sz (po_X3_zerosHeard g ad th L f j z2 z3 z4) := by
  refine MtI.of (by decide +kernel) (Nat.le_of_ble_eq_true rfl) ?_
  intro p e s m below meth c A hEn hP hD hS ls hl
  obtain ⟨hx, hb, hr, hml, hown, hlocks, hts, hG, hA, hE, hnm⟩ := hEn
  have hown : s.vm.findClass "RulerWord$Course" = some m.cls := hown
  have hl : lv_has ls 5 [(0, .ref (cr ad j 0)), (1, .ref (ad 6)), (2, .int z2), (3, .int z3), (4, .int z4)] := hl
  refine lv_aload_n hx hb dX3_zerosHeard_0 rfl (lv_at hl 1 rfl) ?_
  obtain ⟨v0_1, v1_1, v2_1, v3_1, v4_1, v5_1, v6_1, v7_1, hf2, hv0_1, hg0_1, hv1_1, hg1_1, hv2_1, hv3_1, hv5_1, hv6_1, hrel0_1⟩ := hT.1 6 (by decide)
  refine pl_getN (v := .int v1_1) hx hb hts (fun w h => mT (inX2 w h)) hown hG.1 hP (hst.1 6 (by decide)) hf2 rfl 1 (by decide) (hG.2.1 _ wn_231) (fun _ h => h) rfl dX3_zerosHeard_1 ?_
  refine lv_aload_n hx hb dX3_zerosHeard_4 rfl (lv_at hl 0 rfl) ?_
  refine lv_iload_n hx hb dX3_zerosHeard_5 rfl (lv_at hl 2 rfl) ?_
  refine lv_iload_n hx hb dX3_zerosHeard_6 rfl (lv_at hl 3 rfl) ?_
  refine lv_iload hx hb dX3_zerosHeard_7 (lv_at hl 4 rfl) ?_
  obtain ⟨v0_3, v1_3, v2_3, v3_3, v4_3, v5_3, v6_3, v7_3, v8_3, hf4, hv1_3, hg1_3, hv2_3, hg2_3, hv6_3⟩ := hT.2.1 j hj 0 (by decide)
  refine call_i (run_V (rm := rm_X3_onesHeard) hx hb hml hown hts (s_X3_onesHeard l g ad th _ _ _ j z2 z3 z4 hst hT hj hz2 hz3) cV_X3_onesHeard wg_862 ⟨Nat.le_of_ble_eq_true rfl, Nat.le_of_ble_eq_true rfl⟩ hG hE hA hP hD hS (hst.c hj (by decide)) hf4 rfl rfl hl.1 (As := [.int z2, .int z3, .int z4]) (rest := [.int v1_1]) rfl (Nat.le_of_ble_eq_true rfl) dX3_zerosHeard_9 ⟨Nat.le_of_ble_eq_true rfl, Nat.le_of_ble_eq_true rfl⟩) hA hD hS (fun r5 L6 f7 H locs hp8 hP hD hS => ?_)
  obtain ⟨eL9L, eL9T, eL9R⟩ := hp8
  have eL9L : L6 = L := eL9L
  have eL9T : f7 = f := eL9T
  rw [eL9L, eL9T] at hP hD
  have eL9R : In r5 0 15 := eL9R
  refine lv_isub hx hb dX3_zerosHeard_12 ?_
  refine lv_topi (fun x10 ex10 => ?_)
  have hb11 : In x10 (-15) 9 := ex10 ▸ In.sub hv1_1 eL9R (by decide) (by decide) (by decide) (by decide)
  have et12 : x10.toInt = v1_1.toInt - r5.toInt := In.sub2e ex10 hv1_1 eL9R (by decide) (by decide)
  refine lv_aload_n hx hb dX3_zerosHeard_13 rfl (lv_at hl 0 rfl) ?_
  refine pl_get (v := .ref (cr ad j 4)) hx hb hts (fun w h => mT (inX3 w h)) hown hG.1 hP (hst.c hj (by decide)) hf4 rfl 12 (by decide) (hts _ (mT wg_355)) (fun _ h => h) rfl dX3_zerosHeard_14 ?_
  refine lv_iload_n hx hb dX3_zerosHeard_17 rfl (lv_at hl 2 rfl) ?_
  refine lv_iconst (v := 3) hx hb dX3_zerosHeard_18 (by decide) ?_
  refine lv_imul hx hb dX3_zerosHeard_19 ?_
  refine lv_topi (fun x13 ex13 => ?_)
  have hb14 : In x13 0 15 := ex13 ▸ In.mul hz2 (⟨by decide, by decide⟩ : In 3 3 3) (by decide) (by decide) (by decide) (by decide) (by decide)
  refine lv_iload_n hx hb dX3_zerosHeard_20 rfl (lv_at hl 3 rfl) ?_
  refine lv_iadd hx hb dX3_zerosHeard_21 ?_
  refine lv_topi (fun x15 ex15 => ?_)
  have hb16 : In x15 0 17 := ex15 ▸ In.add hb14 hz3 (by decide) (by decide) (by decide) (by decide)
  have et17 : x15.toInt = x13.toInt + z3.toInt := In.add2e ex15 hb14 hz3 (by decide) (by decide)
  obtain ⟨rw18, hf19⟩ := hT.2.1 j hj 4 (by decide)
  have hin20 : vp_in x15 18 := In.inb hb16 (by decide) (by decide)
  refine pl_lald hx hb hG.1 hP (hst.c hj (by decide)) 1 hf19 rfl hin20 dX3_zerosHeard_22 ?_
  refine lv_topl (fun x21 ex21 => ?_)
  refine lv_iload hx hb dX3_zerosHeard_23 (lv_at hl 4 rfl) ?_
  refine call_i (run_SN (rm := rm_X10_nibble) hx hb hml hown hts (s_X10_nibble l g ad th _ _ _ x21 z4 hst hT ) cS_X10_nibble wn_795 ⟨Nat.le_of_ble_eq_true rfl, Nat.le_of_ble_eq_true rfl⟩ hG hE hA hP hD hS rfl hl.1 (As := [.long x21, .int z4]) (rest := [.int x10]) rfl (Nat.le_of_ble_eq_true rfl) dX3_zerosHeard_25 ⟨Nat.le_of_ble_eq_true rfl, Nat.le_of_ble_eq_true rfl⟩) hA hD hS (fun r22 L23 f24 H locs hp25 hP hD hS => ?_)
  obtain ⟨eL26L, eL26T, eL26R⟩ := hp25
  have eL26L : L23 = L := eL26L
  have eL26T : f24 = f := eL26T
  rw [eL26L, eL26T] at hP hD
  have eL26R : In r22 0 15 := eL26R
  refine lv_isub hx hb dX3_zerosHeard_28 ?_
  refine lv_topi (fun x27 ex27 => ?_)
  have hb28 : In x27 (-30) 9 := ex27 ▸ In.sub hb11 eL26R (by decide) (by decide) (by decide) (by decide)
  have et29 : x27.toInt = x10.toInt - r22.toInt := In.sub2e ex27 hb11 eL26R (by decide) (by decide)
  exact ret_i (ty := .int) hx hb hr hlocks (rfl) hP hD hS (Nat.le_of_ble_eq_true rfl) (Nat.le_of_ble_eq_true rfl) (⟨rfl, rfl⟩) dX3_zerosHeard_29

abbrev rm_X3_waryOf : Room := { frames := 0, cells := 0, slots := 0, locals := 0 }
abbrev po_X3_waryOf (g : GG) (ad : Nat → Nat) (th : Nat → Int) (L : List Nat) (f : HP) (j : Nat) (z1 : Int32) : Int32 → (List Nat × HP) → Prop := fun r u => u.1 = L ∧ u.2 = f ∧ In r 0 511
set_option maxHeartbeats 4000000 in
set_option maxRecDepth 100000 in
theorem s_X3_waryOf (l : Launch) (g : GG) (ad : Nat → Nat) (th : Nat → Int) (L : List Nat) (f : HP) (sz : Nat) (j : Nat) (z1 : Int32) (hst : ST ad L) (hT : TI g ad th f) (hj : j < 23) : MtI l g yX3_waryOf cX3_waryOf 2 (some .int) rm_X3_waryOf [.ref (cr ad j 0), .int z1] L f sz (po_X3_waryOf g ad th L f j z1) := by
  refine MtI.of (by decide +kernel) (Nat.le_of_ble_eq_true rfl) ?_
  intro p e s m below meth c A hEn hP hD hS ls hl
  obtain ⟨hx, hb, hr, hml, hown, hlocks, hts, hG, hA, hE, hnm⟩ := hEn
  have hown : s.vm.findClass "RulerWord$Course" = some m.cls := hown
  have hl : lv_has ls 2 [(0, .ref (cr ad j 0)), (1, .int z1)] := hl
  refine lv_aload_n hx hb dX3_waryOf_0 rfl (lv_at hl 0 rfl) ?_
  obtain ⟨v0_1, v1_1, v2_1, v3_1, v4_1, v5_1, v6_1, v7_1, v8_1, hf2, hv1_1, hg1_1, hv2_1, hg2_1, hv6_1⟩ := hT.2.1 j hj 0 (by decide)
  refine pl_get (v := .long v7_1) hx hb hts (fun w h => mT (inX3 w h)) hown hG.1 hP (hst.c hj (by decide)) hf2 rfl 7 (by decide) (hts _ (mT wg_350)) (fun _ h => h) rfl dX3_waryOf_1 ?_
  refine lv_iload_n hx hb dX3_waryOf_4 rfl (lv_at hl 1 rfl) ?_
  refine lv_bipush (v := 9) hx hb dX3_waryOf_5 (by decide) ?_
  refine lv_imul hx hb dX3_waryOf_7 ?_
  refine lv_topi (fun x3 ex3 => ?_)
  refine lv_lushr hx hb dX3_waryOf_8 rfl ?_
  refine lv_topl (fun x4 ex4 => ?_)
  refine lv_l2i hx hb dX3_waryOf_9 rfl ?_
  refine lv_topi (fun x5 ex5 => ?_)
  refine lv_sipush (v := 511) hx hb dX3_waryOf_10 (by decide) ?_
  refine lv_iand hx hb dX3_waryOf_13 ?_
  refine lv_topi (fun x6 ex6 => ?_)
  have hb7 : In x6 0 511 := ex6 ▸ In.andr (⟨by decide, by decide⟩ : In 511 511 511) (by decide)
  exact ret_i (ty := .int) hx hb hr hlocks (rfl) hP hD hS (Nat.le_of_ble_eq_true rfl) (Nat.le_of_ble_eq_true rfl) (⟨rfl, rfl, hb7⟩) dX3_waryOf_14

abbrev rm_X3_suspectedBy : Room := { frames := 1, cells := 0, slots := 0, locals := 21 }
abbrev po_X3_suspectedBy (g : GG) (ad : Nat → Nat) (th : Nat → Int) (L : List Nat) (f : HP) (j : Nat) (z1 : Int32) : Int32 → (List Nat × HP) → Prop := fun _ u => u.1 = L ∧ u.2 = f
set_option maxHeartbeats 4000000 in
set_option maxRecDepth 100000 in
theorem s_X3_suspectedBy (l : Launch) (g : GG) (ad : Nat → Nat) (th : Nat → Int) (L : List Nat) (f : HP) (sz : Nat) (j : Nat) (z1 : Int32) (hst : ST ad L) (hT : TI g ad th f) (hj : j < 23) : MtI l g yX3_suspectedBy cX3_suspectedBy 4 (some .int) rm_X3_suspectedBy [.ref (cr ad j 0), .int z1] L f sz (po_X3_suspectedBy g ad th L f j z1) := by
  refine MtI.of (by decide +kernel) (Nat.le_of_ble_eq_true rfl) ?_
  intro p e s m below meth c A hEn hP hD hS ls hl
  obtain ⟨hx, hb, hr, hml, hown, hlocks, hts, hG, hA, hE, hnm⟩ := hEn
  have hown : s.vm.findClass "RulerWord$Course" = some m.cls := hown
  have hl : lv_has ls 4 [(0, .ref (cr ad j 0)), (1, .int z1)] := hl
  refine lv_iconst (v := 0) hx hb dX3_suspectedBy_0 (by decide) ?_
  refine lv_istore_n (lv' := [(2, .int 0), (0, .ref (cr ad j 0)), (1, .int z1)]) hx hb dX3_suspectedBy_1 rfl hl (by decide) rfl (fun ls hl => ?_)
  refine lv_iconst (v := 0) hx hb dX3_suspectedBy_2 (by decide) ?_
  refine lv_istore_n (lv' := [(3, .int 0), (2, .int 0), (0, .ref (cr ad j 0)), (1, .int z1)]) hx hb dX3_suspectedBy_3 rfl hl (by decide) rfl (fun ls hl => ?_)
  have hJ4 : ∀ (k4 : Nat) (y4_l2 : Int32) (y4_l3 : Int32) (H : Heap) (locs : List Loc) (ls : Array Slot), In y4_l2 0 511 → In y4_l3 0 6 → va_P g.1 vwCl (va_pl L f) H → va_D A (va_pl L f) → va_S A s.heap H locs → lv_has ls 4 [(0, .ref (cr ad j 0)), (1, .int z1), (2, .int y4_l2), (3, .int y4_l3)] → 6 - y4_l3.toInt < ((k4 : Nat) : Int) → W p l e rm_X3_suspectedBy s m [.ref (cr ad j 0), .int z1].toArray below meth c H locs 0 0 (MQ below (va_Qi (po_X3_suspectedBy g ad th L f j z1) (PstB g A) A) [.ref (cr ad j 0), .int z1].toArray s rm_X3_suspectedBy.cells rm_X3_suspectedBy.slots A) (F0 m 4 ls []) := by
    intro k4
    induction k4 with
    | zero =>
      intro y4_l2 y4_l3 H locs ls hy4_l2 hy4_l3 hP hD hS hl hmz4
      exact ms0 hy4_l3 hmz4
    | succ k4 ih4 =>
      intro y4_l2 y4_l3 H locs ls hy4_l2 hy4_l3 hP hD hS hl hmz4
      refine lv_iload_n hx hb dX3_suspectedBy_4 rfl (lv_at hl 3 rfl) ?_
      refine lv_bipush (v := 6) hx hb dX3_suspectedBy_5 (by decide) ?_
      refine lv_icmp_ge (tgt := 30) hx hb dX3_suspectedBy_7 (by decide) (fun c1 => ?_) (fun c1 => ?_)
      ·
        have cc2 : (6 : Int32).toInt ≤ y4_l3.toInt := i32_le.mp c1
        have hb3 : In y4_l3 6 6 := In.ge1 hy4_l3 (⟨by decide, by decide⟩ : In 6 6 6) cc2 (by omega) (by omega)
        refine lv_iload_n hx hb dX3_suspectedBy_30 rfl (lv_at hl 2 rfl) ?_
        exact ret_i (ty := .int) hx hb hr hlocks (rfl) hP hD hS (Nat.le_of_ble_eq_true rfl) (Nat.le_of_ble_eq_true rfl) (⟨rfl, rfl⟩) dX3_suspectedBy_31
      ·
        have cc4 : y4_l3.toInt < (6 : Int32).toInt := i32_nle c1
        have hb5 : In y4_l3 0 5 := In.lt1 hy4_l3 (⟨by decide, by decide⟩ : In 6 6 6) cc4 (by omega) (by omega)
        refine lv_iload_n hx hb dX3_suspectedBy_10 rfl (lv_at hl 2 rfl) ?_
        refine lv_aload_n hx hb dX3_suspectedBy_11 rfl (lv_at hl 0 rfl) ?_
        refine lv_iload_n hx hb dX3_suspectedBy_12 rfl (lv_at hl 3 rfl) ?_
        obtain ⟨v0_6, v1_6, v2_6, v3_6, v4_6, v5_6, v6_6, v7_6, v8_6, hf7, hv1_6, hg1_6, hv2_6, hg2_6, hv6_6⟩ := hT.2.1 j hj 0 (by decide)
        refine call_i (run_V (rm := rm_X3_waryOf) hx hb hml hown hts (s_X3_waryOf l g ad th _ _ _ j y4_l3 hst hT hj) cV_X3_waryOf wg_850 ⟨Nat.le_of_ble_eq_true rfl, Nat.le_of_ble_eq_true rfl⟩ hG hE hA hP hD hS (hst.c hj (by decide)) hf7 rfl rfl hl.1 (As := [.int y4_l3]) (rest := [.int y4_l2]) rfl (Nat.le_of_ble_eq_true rfl) dX3_suspectedBy_13 ⟨Nat.le_of_ble_eq_true rfl, Nat.le_of_ble_eq_true rfl⟩) hA hD hS (fun r8 L9 f10 H locs hp11 hP hD hS => ?_)
        obtain ⟨eL12L, eL12T, eL12R⟩ := hp11
        have eL12L : L9 = L := eL12L
        have eL12T : f10 = f := eL12T
        rw [eL12L, eL12T] at hP hD
        have eL12R : In r8 0 511 := eL12R
        refine lv_iload_n hx hb dX3_suspectedBy_16 rfl (lv_at hl 1 rfl) ?_
        refine call_i (run_SN (rm := rm_X10_bit) hx hb hml hown hts (s_X10_bit l g ad th _ _ _ r8 z1 hst hT ) cS_X10_bit wn_794 ⟨Nat.le_of_ble_eq_true rfl, Nat.le_of_ble_eq_true rfl⟩ hG hE hA hP hD hS rfl hl.1 (As := [.int r8, .int z1]) (rest := [.int y4_l2]) rfl (Nat.le_of_ble_eq_true rfl) dX3_suspectedBy_17 ⟨Nat.le_of_ble_eq_true rfl, Nat.le_of_ble_eq_true rfl⟩) hA hD hS (fun r13 L14 f15 H locs hp16 hP hD hS => ?_)
        obtain ⟨eL17L, eL17T, eL17R, eL17X0⟩ := hp16
        have eL17L : L14 = L := eL17L
        have eL17T : f15 = f := eL17T
        rw [eL17L, eL17T] at hP hD
        have eL17R : In r13 0 1 := eL17R
        refine lv_iload_n hx hb dX3_suspectedBy_20 rfl (lv_at hl 3 rfl) ?_
        refine lv_ishl hx hb dX3_suspectedBy_21 ?_
        refine lv_topi (fun x18 ex18 => ?_)
        have hb19 : In x18 0 32 := ex18 ▸ In.shl eL17R hb5 (by decide) (by decide) (by decide) (by decide) (by decide) (by decide)
        refine lv_ior hx hb dX3_suspectedBy_22 ?_
        refine lv_topi (fun x20 ex20 => ?_)
        have hb21 : In x20 0 511 := ex20 ▸ In.or 9 hy4_l2 hb19 (by decide) (by decide) (by decide) (by decide) (by decide)
        refine lv_istore_n (lv' := [(2, .int x20), (0, .ref (cr ad j 0)), (1, .int z1), (3, .int y4_l3)]) hx hb dX3_suspectedBy_23 rfl hl (by decide) rfl (fun ls hl => ?_)
        obtain ⟨x22, ex22⟩ : ∃ y : Int32, y = y4_l3 + 1 := ⟨_, rfl⟩
        have hb23 : In x22 1 6 := ex22 ▸ In.add hb5 (⟨by decide, by decide⟩ : In 1 1 1) (by decide) (by decide) (by decide) (by decide)
        have et24 : x22.toInt = y4_l3.toInt + 1 := In.adde ex22 hb5 (k := 1) (by decide) (by decide) (by decide)
        refine lv_iinc (v := x22) (lv' := [(3, .int x22), (2, .int x20), (0, .ref (cr ad j 0)), (1, .int z1)]) hx hb dX3_suspectedBy_24 hl (k := 3) rfl (by rw [ex22]; rfl) (by decide) rfl (fun ls hl => ?_)
        refine lv_goto (tgt := 4) hx hb dX3_suspectedBy_27 (by decide) ?_
        exact ih4 x20 x22 _ _ _ hb21 (In.mono hb23 (by decide) (by decide)) hP hD hS (lv_sub hl [2, 3, 1, 0] rfl) (msu et24 (by decide) hmz4)
  exact hJ4 ((6 - (0 : Int32).toInt).toNat + 1) 0 0 _ _ _ (⟨by decide, by decide⟩ : In 0 0 511) (⟨by decide, by decide⟩ : In 0 0 6) hP hD hS (lv_sub hl [2, 3, 1, 0] rfl) (msI _)

abbrev rm_X5_part : Room := { frames := 0, cells := 0, slots := 0, locals := 0 }
abbrev po_X5_part (g : GG) (ad : Nat → Nat) (th : Nat → Int) (L : List Nat) (f : HP) (z1 : Int32) (z2 : Int32) : Int32 → (List Nat × HP) → Prop := fun _ u => u.1 = L ∧ u.2 = f
set_option maxHeartbeats 4000000 in
set_option maxRecDepth 100000 in
theorem s_X5_part (l : Launch) (g : GG) (ad : Nat → Nat) (th : Nat → Int) (L : List Nat) (f : HP) (sz : Nat) (z1 : Int32) (z2 : Int32) (hst : ST ad L) (hT : TI g ad th f) (hz1 : In z1 0 19) (hz2 : In z2 0 4) : MtI l g yX5_part cX5_part 3 (some .int) rm_X5_part [.ref (ad 11), .int z1, .int z2] L f sz (po_X5_part g ad th L f z1 z2) := by
  refine MtI.of (by decide +kernel) (Nat.le_of_ble_eq_true rfl) ?_
  intro p e s m below meth c A hEn hP hD hS ls hl
  obtain ⟨hx, hb, hr, hml, hown, hlocks, hts, hG, hA, hE, hnm⟩ := hEn
  have hown : s.vm.findClass "RulerWord$Plan" = some m.cls := hown
  have hl : lv_has ls 3 [(0, .ref (ad 11)), (1, .int z1), (2, .int z2)] := hl
  refine lv_aload_n hx hb dX5_part_0 rfl (lv_at hl 0 rfl) ?_
  obtain ⟨v1_1, hf2, hv1_1⟩ := hT.1 11 (by decide)
  refine pl_get (v := .ref (ad 12)) hx hb hts (fun w h => mT (inX5 w h)) hown hG.1 hP (hst.1 11 (by decide)) hf2 rfl 0 (by decide) (hts _ (mT wg_269)) (fun _ h => h) rfl dX5_part_1 ?_
  refine lv_iload_n hx hb dX5_part_4 rfl (lv_at hl 1 rfl) ?_
  refine lv_iconst (v := 5) hx hb dX5_part_5 (by decide) ?_
  refine lv_imul hx hb dX5_part_6 ?_
  refine lv_topi (fun x3 ex3 => ?_)
  have hb4 : In x3 0 95 := ex3 ▸ In.mul hz1 (⟨by decide, by decide⟩ : In 5 5 5) (by decide) (by decide) (by decide) (by decide) (by decide)
  refine lv_iload_n hx hb dX5_part_7 rfl (lv_at hl 2 rfl) ?_
  refine lv_iadd hx hb dX5_part_8 ?_
  refine lv_topi (fun x5 ex5 => ?_)
  have hb6 : In x5 0 99 := ex5 ▸ In.add hb4 hz2 (by decide) (by decide) (by decide) (by decide)
  have et7 : x5.toInt = x3.toInt + z2.toInt := In.add2e ex5 hb4 hz2 (by decide) (by decide)
  obtain ⟨rw8, hf9⟩ := hT.1 12 (by decide)
  have hin10 : vp_in x5 100 := In.inb hb6 (by decide) (by decide)
  refine pl_iald hx hb hG.1 hP (hst.1 12 (by decide)) 0 hf9 rfl hin10 dX5_part_9 ?_
  refine lv_topi (fun x11 ex11 => ?_)
  exact ret_i (ty := .int) hx hb hr hlocks (rfl) hP hD hS (Nat.le_of_ble_eq_true rfl) (Nat.le_of_ble_eq_true rfl) (⟨rfl, rfl⟩) dX5_part_10

abbrev rm_X5_actFor : Room := { frames := 0, cells := 0, slots := 0, locals := 0 }
abbrev po_X5_actFor (g : GG) (ad : Nat → Nat) (th : Nat → Int) (L : List Nat) (f : HP) (z1 : Int32) (z2 : Int32) (z3 : Int32) (z4 : Int32) : Int32 → (List Nat × HP) → Prop := fun _ u => u.1 = L ∧ u.2 = f
set_option maxHeartbeats 4000000 in
set_option maxRecDepth 100000 in
theorem s_X5_actFor (l : Launch) (g : GG) (ad : Nat → Nat) (th : Nat → Int) (L : List Nat) (f : HP) (sz : Nat) (z1 : Int32) (z2 : Int32) (z3 : Int32) (z4 : Int32) (hst : ST ad L) (hT : TI g ad th f)  : MtI l g yX5_actFor cX5_actFor 9 (some .int) rm_X5_actFor [.ref (ad 11), .int z1, .int z2, .int z3, .int z4] L f sz (po_X5_actFor g ad th L f z1 z2 z3 z4) := by
  refine MtI.of (by decide +kernel) (Nat.le_of_ble_eq_true rfl) ?_
  intro p e s m below meth c A hEn hP hD hS ls hl
  obtain ⟨hx, hb, hr, hml, hown, hlocks, hts, hG, hA, hE, hnm⟩ := hEn
  have hown : s.vm.findClass "RulerWord$Plan" = some m.cls := hown
  have hl : lv_has ls 9 [(0, .ref (ad 11)), (1, .int z1), (2, .int z2), (3, .int z3), (4, .int z4)] := hl
  refine lv_iconst (v := 0) hx hb dX5_actFor_0 (by decide) ?_
  refine lv_istore (lv' := [(5, .int 0), (0, .ref (ad 11)), (1, .int z1), (2, .int z2), (3, .int z3), (4, .int z4)]) hx hb dX5_actFor_1 hl (by decide) rfl (fun ls hl => ?_)
  have hJ3 : ∀ (k3 : Nat) (y3_l5 : Int32) (H : Heap) (locs : List Loc) (ls : Array Slot), In y3_l5 0 20 → va_P g.1 vwCl (va_pl L f) H → va_D A (va_pl L f) → va_S A s.heap H locs → lv_has ls 9 [(0, .ref (ad 11)), (1, .int z1), (2, .int z2), (3, .int z3), (4, .int z4), (5, .int y3_l5)] → 20 - y3_l5.toInt < ((k3 : Nat) : Int) → W p l e rm_X5_actFor s m [.ref (ad 11), .int z1, .int z2, .int z3, .int z4].toArray below meth c H locs 0 0 (MQ below (va_Qi (po_X5_actFor g ad th L f z1 z2 z3 z4) (PstB g A) A) [.ref (ad 11), .int z1, .int z2, .int z3, .int z4].toArray s rm_X5_actFor.cells rm_X5_actFor.slots A) (F0 m 3 ls []) := by
    intro k3
    induction k3 with
    | zero =>
      intro y3_l5 H locs ls hy3_l5 hP hD hS hl hmz3
      exact ms0 hy3_l5 hmz3
    | succ k3 ih3 =>
      intro y3_l5 H locs ls hy3_l5 hP hD hS hl hmz3
      refine lv_iload hx hb dX5_actFor_3 (lv_at hl 5 rfl) ?_
      refine lv_aload_n hx hb dX5_actFor_5 rfl (lv_at hl 0 rfl) ?_
      obtain ⟨v1_1, hf2, hv1_1⟩ := hT.1 11 (by decide)
      refine pl_get (v := .int v1_1) hx hb hts (fun w h => mT (inX5 w h)) hown hG.1 hP (hst.1 11 (by decide)) hf2 rfl 1 (by decide) (hts _ (mT wg_270)) (fun _ h => h) rfl dX5_actFor_6 ?_
      refine lv_icmp_ge (tgt := 183) hx hb dX5_actFor_9 (by decide) (fun c3 => ?_) (fun c3 => ?_)
      ·
        refine lv_iconst (v := 3) hx hb dX5_actFor_183 (by decide) ?_
        exact ret_i (ty := .int) hx hb hr hlocks (rfl) hP hD hS (Nat.le_of_ble_eq_true rfl) (Nat.le_of_ble_eq_true rfl) (⟨rfl, rfl⟩) dX5_actFor_184
      ·
        have cc4 : y3_l5.toInt < v1_1.toInt := i32_nle c3
        have hb5 : In y3_l5 0 19 := In.lt1 hy3_l5 hv1_1 cc4 (by omega) (by omega)
        have hb6 : In v1_1 1 20 := In.lt2 hy3_l5 hv1_1 cc4 (by omega) (by omega)
        refine lv_iload hx hb dX5_actFor_12 (lv_at hl 5 rfl) ?_
        refine lv_iconst (v := 5) hx hb dX5_actFor_14 (by decide) ?_
        refine lv_imul hx hb dX5_actFor_15 ?_
        refine lv_topi (fun x7 ex7 => ?_)
        have hb8 : In x7 0 95 := ex7 ▸ In.mul hb5 (⟨by decide, by decide⟩ : In 5 5 5) (by decide) (by decide) (by decide) (by decide) (by decide)
        refine lv_istore (lv' := [(6, .int x7), (0, .ref (ad 11)), (1, .int z1), (2, .int z2), (3, .int z3), (4, .int z4), (5, .int y3_l5)]) hx hb dX5_actFor_16 hl (by decide) rfl (fun ls hl => ?_)
        refine lv_aload_n hx hb dX5_actFor_18 rfl (lv_at hl 1 rfl) ?_
        refine pl_get (v := .ref (ad 12)) hx hb hts (fun w h => mT (inX5 w h)) hown hG.1 hP (hst.1 11 (by decide)) hf2 rfl 0 (by decide) (hts _ (mT wg_269)) (fun _ h => h) rfl dX5_actFor_19 ?_
        refine lv_iload hx hb dX5_actFor_22 (lv_at hl 0 rfl) ?_
        obtain ⟨rw9, hf10⟩ := hT.1 12 (by decide)
        have hin11 : vp_in x7 100 := In.inb hb8 (by decide) (by decide)
        refine pl_iald hx hb hG.1 hP (hst.1 12 (by decide)) 0 hf10 rfl hin11 dX5_actFor_24 ?_
        refine lv_topi (fun x12 ex12 => ?_)
        refine lv_iconst (v := (-1)) hx hb dX5_actFor_25 (by decide) ?_
        have hJ45 : ∀ (y45_s0 : Int32) (H : Heap) (locs : List Loc) (ls : Array Slot), In y45_s0 0 1 → va_P g.1 vwCl (va_pl L f) H → va_D A (va_pl L f) → va_S A s.heap H locs → lv_has ls 9 [(0, .ref (ad 11)), (1, .int z1), (2, .int z2), (3, .int z3), (4, .int z4), (5, .int y3_l5), (6, .int x7)] → W p l e rm_X5_actFor s m [.ref (ad 11), .int z1, .int z2, .int z3, .int z4].toArray below meth c H locs 0 0 (MQ below (va_Qi (po_X5_actFor g ad th L f z1 z2 z3 z4) (PstB g A) A) [.ref (ad 11), .int z1, .int z2, .int z3, .int z4].toArray s rm_X5_actFor.cells rm_X5_actFor.slots A) (F0 m 45 ls [.int y45_s0]) := by
          intro y45_s0 H locs ls hy45_s0 hP hD hS hl
          refine lv_istore (lv' := [(7, .int y45_s0), (0, .ref (ad 11)), (1, .int z1), (2, .int z2), (3, .int z3), (4, .int z4), (5, .int y3_l5), (6, .int x7)]) hx hb dX5_actFor_45 hl (by decide) rfl (fun ls hl => ?_)
          refine lv_iload hx hb dX5_actFor_47 (lv_at hl 0 rfl) ?_
          have hJ83 : ∀ (y83_s0 : Int32) (H : Heap) (locs : List Loc) (ls : Array Slot), In y83_s0 0 1 → va_P g.1 vwCl (va_pl L f) H → va_D A (va_pl L f) → va_S A s.heap H locs → lv_has ls 9 [(0, .ref (ad 11)), (1, .int z1), (2, .int z2), (3, .int z3), (4, .int z4), (5, .int y3_l5), (6, .int x7), (7, .int y45_s0)] → W p l e rm_X5_actFor s m [.ref (ad 11), .int z1, .int z2, .int z3, .int z4].toArray below meth c H locs 0 0 (MQ below (va_Qi (po_X5_actFor g ad th L f z1 z2 z3 z4) (PstB g A) A) [.ref (ad 11), .int z1, .int z2, .int z3, .int z4].toArray s rm_X5_actFor.cells rm_X5_actFor.slots A) (F0 m 83 ls [.int y83_s0]) := by
            intro y83_s0 H locs ls hy83_s0 hP hD hS hl
            refine lv_istore (lv' := [(7, .int y83_s0), (0, .ref (ad 11)), (1, .int z1), (2, .int z2), (3, .int z3), (4, .int z4), (5, .int y3_l5), (6, .int x7)]) hx hb dX5_actFor_83 hl (by decide) rfl (fun ls hl => ?_)
            refine lv_aload_n hx hb dX5_actFor_85 rfl (lv_at hl 1 rfl) ?_
            refine pl_get (v := .ref (ad 12)) hx hb hts (fun w h => mT (inX5 w h)) hown hG.1 hP (hst.1 11 (by decide)) hf2 rfl 0 (by decide) (hts _ (mT wg_269)) (fun _ h => h) rfl dX5_actFor_86 ?_
            refine lv_iload hx hb dX5_actFor_89 (lv_at hl 7 rfl) ?_
            refine lv_iconst (v := 2) hx hb dX5_actFor_91 (by decide) ?_
            refine lv_iadd hx hb dX5_actFor_92 ?_
            refine lv_topi (fun x13 ex13 => ?_)
            have hb14 : In x13 2 97 := ex13 ▸ In.add hb8 (⟨by decide, by decide⟩ : In 2 2 2) (by decide) (by decide) (by decide) (by decide)
            have et15 : x13.toInt = x7.toInt + 2 := In.adde ex13 hb8 (k := 2) (by decide) (by decide) (by decide)
            have hin16 : vp_in x13 100 := In.inb hb14 (by decide) (by decide)
            refine pl_iald hx hb hG.1 hP (hst.1 12 (by decide)) 0 hf10 rfl hin16 dX5_actFor_93 ?_
            refine lv_topi (fun x17 ex17 => ?_)
            refine lv_iconst (v := (-1)) hx hb dX5_actFor_94 (by decide) ?_
            have hJ116 : ∀ (y116_s0 : Int32) (H : Heap) (locs : List Loc) (ls : Array Slot), In y116_s0 0 1 → va_P g.1 vwCl (va_pl L f) H → va_D A (va_pl L f) → va_S A s.heap H locs → lv_has ls 9 [(0, .ref (ad 11)), (1, .int z1), (2, .int z2), (3, .int z3), (4, .int z4), (5, .int y3_l5), (6, .int x7), (7, .int y83_s0)] → W p l e rm_X5_actFor s m [.ref (ad 11), .int z1, .int z2, .int z3, .int z4].toArray below meth c H locs 0 0 (MQ below (va_Qi (po_X5_actFor g ad th L f z1 z2 z3 z4) (PstB g A) A) [.ref (ad 11), .int z1, .int z2, .int z3, .int z4].toArray s rm_X5_actFor.cells rm_X5_actFor.slots A) (F0 m 116 ls [.int y116_s0]) := by
              intro y116_s0 H locs ls hy116_s0 hP hD hS hl
              refine lv_istore (lv' := [(8, .int y116_s0), (0, .ref (ad 11)), (1, .int z1), (2, .int z2), (3, .int z3), (4, .int z4), (5, .int y3_l5), (6, .int x7), (7, .int y83_s0)]) hx hb dX5_actFor_116 hl (by decide) rfl (fun ls hl => ?_)
              refine lv_iload hx hb dX5_actFor_118 (lv_at hl 0 rfl) ?_
              have hJ155 : ∀ (y155_s0 : Int32) (H : Heap) (locs : List Loc) (ls : Array Slot), In y155_s0 0 1 → va_P g.1 vwCl (va_pl L f) H → va_D A (va_pl L f) → va_S A s.heap H locs → lv_has ls 9 [(0, .ref (ad 11)), (1, .int z1), (2, .int z2), (3, .int z3), (4, .int z4), (5, .int y3_l5), (6, .int x7), (7, .int y83_s0), (8, .int y116_s0)] → W p l e rm_X5_actFor s m [.ref (ad 11), .int z1, .int z2, .int z3, .int z4].toArray below meth c H locs 0 0 (MQ below (va_Qi (po_X5_actFor g ad th L f z1 z2 z3 z4) (PstB g A) A) [.ref (ad 11), .int z1, .int z2, .int z3, .int z4].toArray s rm_X5_actFor.cells rm_X5_actFor.slots A) (F0 m 155 ls [.int y155_s0]) := by
                intro y155_s0 H locs ls hy155_s0 hP hD hS hl
                refine lv_istore (lv' := [(8, .int y155_s0), (0, .ref (ad 11)), (1, .int z1), (2, .int z2), (3, .int z3), (4, .int z4), (5, .int y3_l5), (6, .int x7), (7, .int y83_s0)]) hx hb dX5_actFor_155 hl (by decide) rfl (fun ls hl => ?_)
                refine lv_iload hx hb dX5_actFor_157 (lv_at hl 8 rfl) ?_
                have hJ177 : ∀ (H : Heap) (locs : List Loc) (ls : Array Slot), va_P g.1 vwCl (va_pl L f) H → va_D A (va_pl L f) → va_S A s.heap H locs → lv_has ls 9 [(0, .ref (ad 11)), (1, .int z1), (2, .int z2), (3, .int z3), (4, .int z4), (5, .int y3_l5), (6, .int x7), (7, .int y83_s0), (8, .int y155_s0)] → W p l e rm_X5_actFor s m [.ref (ad 11), .int z1, .int z2, .int z3, .int z4].toArray below meth c H locs 0 0 (MQ below (va_Qi (po_X5_actFor g ad th L f z1 z2 z3 z4) (PstB g A) A) [.ref (ad 11), .int z1, .int z2, .int z3, .int z4].toArray s rm_X5_actFor.cells rm_X5_actFor.slots A) (F0 m 177 ls []) := by
                  intro H locs ls hP hD hS hl
                  obtain ⟨x18, ex18⟩ : ∃ y : Int32, y = y3_l5 + 1 := ⟨_, rfl⟩
                  have hb19 : In x18 1 20 := ex18 ▸ In.add hb5 (⟨by decide, by decide⟩ : In 1 1 1) (by decide) (by decide) (by decide) (by decide)
                  have et20 : x18.toInt = y3_l5.toInt + 1 := In.adde ex18 hb5 (k := 1) (by decide) (by decide) (by decide)
                  refine lv_iinc (v := x18) (lv' := [(5, .int x18), (0, .ref (ad 11)), (1, .int z1), (2, .int z2), (3, .int z3), (4, .int z4), (6, .int x7), (7, .int y83_s0), (8, .int y155_s0)]) hx hb dX5_actFor_177 hl (k := 5) rfl (by rw [ex18]; rfl) (by decide) rfl (fun ls hl => ?_)
                  refine lv_goto (tgt := 3) hx hb dX5_actFor_180 (by decide) ?_
                  exact ih3 x18 _ _ _ (In.mono hb19 (by decide) (by decide)) hP hD hS (lv_sub hl [1, 2, 3, 4, 5, 0] rfl) (msu et20 (by decide) hmz3)
                refine lv_if_eq (tgt := 177) hx hb dX5_actFor_159 (by decide) (fun c21 => ?_) (fun c21 => ?_)
                ·
                  have cc22 : y83_s0.toInt = (0 : Int32).toInt := congrArg Int32.toInt c21
                  have hb23 : In y83_s0 0 0 := In.eq1 hy83_s0 (⟨by decide, by decide⟩ : In 0 0 0) cc22 (by omega) (by omega)
                  exact hJ177 _ _ _ hP hD hS (lv_sub hl [1, 2, 3, 4, 5, 6, 7, 8, 0] rfl)
                ·
                  have cc24 : y83_s0.toInt ≠ (0 : Int32).toInt := i32_ne c21
                  have hb25 : In y83_s0 1 1 := In.ne1 hy83_s0 (⟨by decide, by decide⟩ : In 0 0 0) cc24 (by omega) (by omega)
                  refine lv_iload hx hb dX5_actFor_162 (lv_at hl 0 rfl) ?_
                  refine lv_if_eq (tgt := 177) hx hb dX5_actFor_164 (by decide) (fun c26 => ?_) (fun c26 => ?_)
                  ·
                    have cc27 : y155_s0.toInt = (0 : Int32).toInt := congrArg Int32.toInt c26
                    have hb28 : In y155_s0 0 0 := In.eq1 hy155_s0 (⟨by decide, by decide⟩ : In 0 0 0) cc27 (by omega) (by omega)
                    exact hJ177 _ _ _ hP hD hS (lv_sub hl [1, 2, 3, 4, 5, 6, 7, 8, 0] rfl)
                  ·
                    have cc29 : y155_s0.toInt ≠ (0 : Int32).toInt := i32_ne c26
                    have hb30 : In y155_s0 1 1 := In.ne1 hy155_s0 (⟨by decide, by decide⟩ : In 0 0 0) cc29 (by omega) (by omega)
                    refine lv_aload_n hx hb dX5_actFor_167 rfl (lv_at hl 1 rfl) ?_
                    refine pl_get (v := .ref (ad 12)) hx hb hts (fun w h => mT (inX5 w h)) hown hG.1 hP (hst.1 11 (by decide)) hf2 rfl 0 (by decide) (hts _ (mT wg_269)) (fun _ h => h) rfl dX5_actFor_168 ?_
                    refine lv_iload hx hb dX5_actFor_171 (lv_at hl 7 rfl) ?_
                    refine lv_iconst (v := 4) hx hb dX5_actFor_173 (by decide) ?_
                    refine lv_iadd hx hb dX5_actFor_174 ?_
                    refine lv_topi (fun x31 ex31 => ?_)
                    have hb32 : In x31 4 99 := ex31 ▸ In.add hb8 (⟨by decide, by decide⟩ : In 4 4 4) (by decide) (by decide) (by decide) (by decide)
                    have et33 : x31.toInt = x7.toInt + 4 := In.adde ex31 hb8 (k := 4) (by decide) (by decide) (by decide)
                    have hin34 : vp_in x31 100 := In.inb hb32 (by decide) (by decide)
                    refine pl_iald hx hb hG.1 hP (hst.1 12 (by decide)) 0 hf10 rfl hin34 dX5_actFor_175 ?_
                    refine lv_topi (fun x35 ex35 => ?_)
                    exact ret_i (ty := .int) hx hb hr hlocks (rfl) hP hD hS (Nat.le_of_ble_eq_true rfl) (Nat.le_of_ble_eq_true rfl) (⟨rfl, rfl⟩) dX5_actFor_176
              have hJ154 : ∀ (H : Heap) (locs : List Loc) (ls : Array Slot), va_P g.1 vwCl (va_pl L f) H → va_D A (va_pl L f) → va_S A s.heap H locs → lv_has ls 9 [(0, .ref (ad 11)), (1, .int z1), (2, .int z2), (3, .int z3), (4, .int z4), (5, .int y3_l5), (6, .int x7), (7, .int y83_s0), (8, .int y116_s0)] → W p l e rm_X5_actFor s m [.ref (ad 11), .int z1, .int z2, .int z3, .int z4].toArray below meth c H locs 0 0 (MQ below (va_Qi (po_X5_actFor g ad th L f z1 z2 z3 z4) (PstB g A) A) [.ref (ad 11), .int z1, .int z2, .int z3, .int z4].toArray s rm_X5_actFor.cells rm_X5_actFor.slots A) (F0 m 154 ls []) := by
                intro H locs ls hP hD hS hl
                refine lv_iconst (v := 0) hx hb dX5_actFor_154 (by decide) ?_
                exact hJ155 0 _ _ _ (⟨by decide, by decide⟩ : In 0 0 1) hP hD hS (lv_sub hl [0, 1, 2, 3, 4, 5, 6, 7, 8] rfl)
              refine lv_if_eq (tgt := 154) hx hb dX5_actFor_120 (by decide) (fun c36 => ?_) (fun c36 => ?_)
              ·
                have cc37 : y116_s0.toInt = (0 : Int32).toInt := congrArg Int32.toInt c36
                have hb38 : In y116_s0 0 0 := In.eq1 hy116_s0 (⟨by decide, by decide⟩ : In 0 0 0) cc37 (by omega) (by omega)
                exact hJ154 _ _ _ hP hD hS (lv_sub hl [1, 2, 3, 4, 5, 6, 7, 8, 0] rfl)
              ·
                have cc39 : y116_s0.toInt ≠ (0 : Int32).toInt := i32_ne c36
                have hb40 : In y116_s0 1 1 := In.ne1 hy116_s0 (⟨by decide, by decide⟩ : In 0 0 0) cc39 (by omega) (by omega)
                refine lv_aload_n hx hb dX5_actFor_123 rfl (lv_at hl 1 rfl) ?_
                refine pl_get (v := .ref (ad 12)) hx hb hts (fun w h => mT (inX5 w h)) hown hG.1 hP (hst.1 11 (by decide)) hf2 rfl 0 (by decide) (hts _ (mT wg_269)) (fun _ h => h) rfl dX5_actFor_124 ?_
                refine lv_iload hx hb dX5_actFor_127 (lv_at hl 7 rfl) ?_
                refine lv_iconst (v := 3) hx hb dX5_actFor_129 (by decide) ?_
                refine lv_iadd hx hb dX5_actFor_130 ?_
                refine lv_topi (fun x41 ex41 => ?_)
                have hb42 : In x41 3 98 := ex41 ▸ In.add hb8 (⟨by decide, by decide⟩ : In 3 3 3) (by decide) (by decide) (by decide) (by decide)
                have et43 : x41.toInt = x7.toInt + 3 := In.adde ex41 hb8 (k := 3) (by decide) (by decide) (by decide)
                have hin44 : vp_in x41 100 := In.inb hb42 (by decide) (by decide)
                refine pl_iald hx hb hG.1 hP (hst.1 12 (by decide)) 0 hf10 rfl hin44 dX5_actFor_131 ?_
                refine lv_topi (fun x45 ex45 => ?_)
                refine lv_iconst (v := (-1)) hx hb dX5_actFor_132 (by decide) ?_
                have hJ150 : ∀ (H : Heap) (locs : List Loc) (ls : Array Slot), va_P g.1 vwCl (va_pl L f) H → va_D A (va_pl L f) → va_S A s.heap H locs → lv_has ls 9 [(0, .ref (ad 11)), (1, .int z1), (2, .int z2), (3, .int z3), (4, .int z4), (5, .int y3_l5), (6, .int x7), (7, .int y83_s0), (8, .int y116_s0)] → W p l e rm_X5_actFor s m [.ref (ad 11), .int z1, .int z2, .int z3, .int z4].toArray below meth c H locs 0 0 (MQ below (va_Qi (po_X5_actFor g ad th L f z1 z2 z3 z4) (PstB g A) A) [.ref (ad 11), .int z1, .int z2, .int z3, .int z4].toArray s rm_X5_actFor.cells rm_X5_actFor.slots A) (F0 m 150 ls []) := by
                  intro H locs ls hP hD hS hl
                  refine lv_iconst (v := 1) hx hb dX5_actFor_150 (by decide) ?_
                  refine lv_goto (tgt := 155) hx hb dX5_actFor_151 (by decide) ?_
                  exact hJ155 1 _ _ _ (⟨by decide, by decide⟩ : In 1 0 1) hP hD hS (lv_sub hl [0, 1, 2, 3, 4, 5, 6, 7, 8] rfl)
                refine lv_icmp_eq (tgt := 150) hx hb dX5_actFor_133 (by decide) (fun c46 => ?_) (fun c46 => ?_)
                ·
                  have cc47 : x45.toInt = ((-1) : Int32).toInt := congrArg Int32.toInt c46
                  have hb48 : In x45 (-1) (-1) := In.eq1 (In.full x45) (⟨by decide, by decide⟩ : In (-1) (-1) (-1)) cc47 (by omega) (by omega)
                  exact hJ150 _ _ _ hP hD hS (lv_sub hl [1, 2, 3, 4, 5, 6, 7, 8, 0] rfl)
                ·
                  refine lv_aload_n hx hb dX5_actFor_136 rfl (lv_at hl 1 rfl) ?_
                  refine pl_get (v := .ref (ad 12)) hx hb hts (fun w h => mT (inX5 w h)) hown hG.1 hP (hst.1 11 (by decide)) hf2 rfl 0 (by decide) (hts _ (mT wg_269)) (fun _ h => h) rfl dX5_actFor_137 ?_
                  refine lv_iload hx hb dX5_actFor_140 (lv_at hl 7 rfl) ?_
                  refine lv_iconst (v := 3) hx hb dX5_actFor_142 (by decide) ?_
                  refine lv_iadd hx hb dX5_actFor_143 ?_
                  refine lv_topi (fun x49 ex49 => ?_)
                  obtain rfl : x41 = x49 := ex41.trans ex49.symm
                  have hin50 : vp_in x41 100 := In.inb hb42 (by decide) (by decide)
                  refine pl_iald hx hb hG.1 hP (hst.1 12 (by decide)) 0 hf10 rfl hin50 dX5_actFor_144 ?_
                  refine lv_topi (fun x51 ex51 => ?_)
                  obtain rfl : x45 = x51 := ex45.trans ex51.symm
                  refine lv_iload hx hb dX5_actFor_145 (lv_at hl 5 rfl) ?_
                  refine lv_icmp_ne (tgt := 154) hx hb dX5_actFor_147 (by decide) (fun c52 => ?_) (fun c52 => ?_)
                  ·
                    exact hJ154 _ _ _ hP hD hS (lv_sub hl [1, 2, 3, 4, 5, 6, 7, 8, 0] rfl)
                  ·
                    exact hJ150 _ _ _ hP hD hS (lv_sub hl [1, 2, 3, 4, 5, 6, 7, 8, 0] rfl)
            have hJ111 : ∀ (H : Heap) (locs : List Loc) (ls : Array Slot), va_P g.1 vwCl (va_pl L f) H → va_D A (va_pl L f) → va_S A s.heap H locs → lv_has ls 9 [(0, .ref (ad 11)), (1, .int z1), (2, .int z2), (3, .int z3), (4, .int z4), (5, .int y3_l5), (6, .int x7), (7, .int y83_s0)] → W p l e rm_X5_actFor s m [.ref (ad 11), .int z1, .int z2, .int z3, .int z4].toArray below meth c H locs 0 0 (MQ below (va_Qi (po_X5_actFor g ad th L f z1 z2 z3 z4) (PstB g A) A) [.ref (ad 11), .int z1, .int z2, .int z3, .int z4].toArray s rm_X5_actFor.cells rm_X5_actFor.slots A) (F0 m 111 ls []) := by
              intro H locs ls hP hD hS hl
              refine lv_iconst (v := 1) hx hb dX5_actFor_111 (by decide) ?_
              refine lv_goto (tgt := 116) hx hb dX5_actFor_112 (by decide) ?_
              exact hJ116 1 _ _ _ (⟨by decide, by decide⟩ : In 1 0 1) hP hD hS (lv_sub hl [0, 1, 2, 3, 4, 5, 6, 7] rfl)
            refine lv_icmp_eq (tgt := 111) hx hb dX5_actFor_95 (by decide) (fun c53 => ?_) (fun c53 => ?_)
            ·
              have cc54 : x17.toInt = ((-1) : Int32).toInt := congrArg Int32.toInt c53
              have hb55 : In x17 (-1) (-1) := In.eq1 (In.full x17) (⟨by decide, by decide⟩ : In (-1) (-1) (-1)) cc54 (by omega) (by omega)
              exact hJ111 _ _ _ hP hD hS (lv_sub hl [1, 2, 3, 4, 5, 6, 7, 0] rfl)
            ·
              refine lv_aload_n hx hb dX5_actFor_98 rfl (lv_at hl 1 rfl) ?_
              refine pl_get (v := .ref (ad 12)) hx hb hts (fun w h => mT (inX5 w h)) hown hG.1 hP (hst.1 11 (by decide)) hf2 rfl 0 (by decide) (hts _ (mT wg_269)) (fun _ h => h) rfl dX5_actFor_99 ?_
              refine lv_iload hx hb dX5_actFor_102 (lv_at hl 7 rfl) ?_
              refine lv_iconst (v := 2) hx hb dX5_actFor_104 (by decide) ?_
              refine lv_iadd hx hb dX5_actFor_105 ?_
              refine lv_topi (fun x56 ex56 => ?_)
              obtain rfl : x13 = x56 := ex13.trans ex56.symm
              have hin57 : vp_in x13 100 := In.inb hb14 (by decide) (by decide)
              refine pl_iald hx hb hG.1 hP (hst.1 12 (by decide)) 0 hf10 rfl hin57 dX5_actFor_106 ?_
              refine lv_topi (fun x58 ex58 => ?_)
              obtain rfl : x17 = x58 := ex17.trans ex58.symm
              refine lv_iload_n hx hb dX5_actFor_107 rfl (lv_at hl 4 rfl) ?_
              refine lv_icmp_ne (tgt := 115) hx hb dX5_actFor_108 (by decide) (fun c59 => ?_) (fun c59 => ?_)
              ·
                refine lv_iconst (v := 0) hx hb dX5_actFor_115 (by decide) ?_
                exact hJ116 0 _ _ _ (⟨by decide, by decide⟩ : In 0 0 1) hP hD hS (lv_sub hl [1, 2, 3, 4, 5, 6, 7, 0] rfl)
              ·
                exact hJ111 _ _ _ hP hD hS (lv_sub hl [1, 2, 3, 4, 5, 6, 7, 0] rfl)
          have hJ82 : ∀ (H : Heap) (locs : List Loc) (ls : Array Slot), va_P g.1 vwCl (va_pl L f) H → va_D A (va_pl L f) → va_S A s.heap H locs → lv_has ls 9 [(0, .ref (ad 11)), (1, .int z1), (2, .int z2), (3, .int z3), (4, .int z4), (5, .int y3_l5), (6, .int x7), (7, .int y45_s0)] → W p l e rm_X5_actFor s m [.ref (ad 11), .int z1, .int z2, .int z3, .int z4].toArray below meth c H locs 0 0 (MQ below (va_Qi (po_X5_actFor g ad th L f z1 z2 z3 z4) (PstB g A) A) [.ref (ad 11), .int z1, .int z2, .int z3, .int z4].toArray s rm_X5_actFor.cells rm_X5_actFor.slots A) (F0 m 82 ls []) := by
            intro H locs ls hP hD hS hl
            refine lv_iconst (v := 0) hx hb dX5_actFor_82 (by decide) ?_
            exact hJ83 0 _ _ _ (⟨by decide, by decide⟩ : In 0 0 1) hP hD hS (lv_sub hl [0, 1, 2, 3, 4, 5, 6, 7] rfl)
          refine lv_if_eq (tgt := 82) hx hb dX5_actFor_49 (by decide) (fun c60 => ?_) (fun c60 => ?_)
          ·
            have cc61 : y45_s0.toInt = (0 : Int32).toInt := congrArg Int32.toInt c60
            have hb62 : In y45_s0 0 0 := In.eq1 hy45_s0 (⟨by decide, by decide⟩ : In 0 0 0) cc61 (by omega) (by omega)
            exact hJ82 _ _ _ hP hD hS (lv_sub hl [1, 2, 3, 4, 5, 6, 7, 0] rfl)
          ·
            have cc63 : y45_s0.toInt ≠ (0 : Int32).toInt := i32_ne c60
            have hb64 : In y45_s0 1 1 := In.ne1 hy45_s0 (⟨by decide, by decide⟩ : In 0 0 0) cc63 (by omega) (by omega)
            refine lv_aload_n hx hb dX5_actFor_52 rfl (lv_at hl 1 rfl) ?_
            refine pl_get (v := .ref (ad 12)) hx hb hts (fun w h => mT (inX5 w h)) hown hG.1 hP (hst.1 11 (by decide)) hf2 rfl 0 (by decide) (hts _ (mT wg_269)) (fun _ h => h) rfl dX5_actFor_53 ?_
            refine lv_iload hx hb dX5_actFor_56 (lv_at hl 7 rfl) ?_
            refine lv_iconst (v := 1) hx hb dX5_actFor_58 (by decide) ?_
            refine lv_iadd hx hb dX5_actFor_59 ?_
            refine lv_topi (fun x65 ex65 => ?_)
            have hb66 : In x65 1 96 := ex65 ▸ In.add hb8 (⟨by decide, by decide⟩ : In 1 1 1) (by decide) (by decide) (by decide) (by decide)
            have et67 : x65.toInt = x7.toInt + 1 := In.adde ex65 hb8 (k := 1) (by decide) (by decide) (by decide)
            have hin68 : vp_in x65 100 := In.inb hb66 (by decide) (by decide)
            refine pl_iald hx hb hG.1 hP (hst.1 12 (by decide)) 0 hf10 rfl hin68 dX5_actFor_60 ?_
            refine lv_topi (fun x69 ex69 => ?_)
            refine lv_iconst (v := (-1)) hx hb dX5_actFor_61 (by decide) ?_
            have hJ78 : ∀ (H : Heap) (locs : List Loc) (ls : Array Slot), va_P g.1 vwCl (va_pl L f) H → va_D A (va_pl L f) → va_S A s.heap H locs → lv_has ls 9 [(0, .ref (ad 11)), (1, .int z1), (2, .int z2), (3, .int z3), (4, .int z4), (5, .int y3_l5), (6, .int x7), (7, .int y45_s0)] → W p l e rm_X5_actFor s m [.ref (ad 11), .int z1, .int z2, .int z3, .int z4].toArray below meth c H locs 0 0 (MQ below (va_Qi (po_X5_actFor g ad th L f z1 z2 z3 z4) (PstB g A) A) [.ref (ad 11), .int z1, .int z2, .int z3, .int z4].toArray s rm_X5_actFor.cells rm_X5_actFor.slots A) (F0 m 78 ls []) := by
              intro H locs ls hP hD hS hl
              refine lv_iconst (v := 1) hx hb dX5_actFor_78 (by decide) ?_
              refine lv_goto (tgt := 83) hx hb dX5_actFor_79 (by decide) ?_
              exact hJ83 1 _ _ _ (⟨by decide, by decide⟩ : In 1 0 1) hP hD hS (lv_sub hl [0, 1, 2, 3, 4, 5, 6, 7] rfl)
            refine lv_icmp_eq (tgt := 78) hx hb dX5_actFor_62 (by decide) (fun c70 => ?_) (fun c70 => ?_)
            ·
              have cc71 : x69.toInt = ((-1) : Int32).toInt := congrArg Int32.toInt c70
              have hb72 : In x69 (-1) (-1) := In.eq1 (In.full x69) (⟨by decide, by decide⟩ : In (-1) (-1) (-1)) cc71 (by omega) (by omega)
              exact hJ78 _ _ _ hP hD hS (lv_sub hl [1, 2, 3, 4, 5, 6, 7, 0] rfl)
            ·
              refine lv_aload_n hx hb dX5_actFor_65 rfl (lv_at hl 1 rfl) ?_
              refine pl_get (v := .ref (ad 12)) hx hb hts (fun w h => mT (inX5 w h)) hown hG.1 hP (hst.1 11 (by decide)) hf2 rfl 0 (by decide) (hts _ (mT wg_269)) (fun _ h => h) rfl dX5_actFor_66 ?_
              refine lv_iload hx hb dX5_actFor_69 (lv_at hl 7 rfl) ?_
              refine lv_iconst (v := 1) hx hb dX5_actFor_71 (by decide) ?_
              refine lv_iadd hx hb dX5_actFor_72 ?_
              refine lv_topi (fun x73 ex73 => ?_)
              obtain rfl : x65 = x73 := ex65.trans ex73.symm
              have hin74 : vp_in x65 100 := In.inb hb66 (by decide) (by decide)
              refine pl_iald hx hb hG.1 hP (hst.1 12 (by decide)) 0 hf10 rfl hin74 dX5_actFor_73 ?_
              refine lv_topi (fun x75 ex75 => ?_)
              obtain rfl : x69 = x75 := ex69.trans ex75.symm
              refine lv_iload_n hx hb dX5_actFor_74 rfl (lv_at hl 3 rfl) ?_
              refine lv_icmp_ne (tgt := 82) hx hb dX5_actFor_75 (by decide) (fun c76 => ?_) (fun c76 => ?_)
              ·
                exact hJ82 _ _ _ hP hD hS (lv_sub hl [1, 2, 3, 4, 5, 6, 7, 0] rfl)
              ·
                exact hJ78 _ _ _ hP hD hS (lv_sub hl [1, 2, 3, 4, 5, 6, 7, 0] rfl)
        have hJ40 : ∀ (H : Heap) (locs : List Loc) (ls : Array Slot), va_P g.1 vwCl (va_pl L f) H → va_D A (va_pl L f) → va_S A s.heap H locs → lv_has ls 9 [(0, .ref (ad 11)), (1, .int z1), (2, .int z2), (3, .int z3), (4, .int z4), (5, .int y3_l5), (6, .int x7)] → W p l e rm_X5_actFor s m [.ref (ad 11), .int z1, .int z2, .int z3, .int z4].toArray below meth c H locs 0 0 (MQ below (va_Qi (po_X5_actFor g ad th L f z1 z2 z3 z4) (PstB g A) A) [.ref (ad 11), .int z1, .int z2, .int z3, .int z4].toArray s rm_X5_actFor.cells rm_X5_actFor.slots A) (F0 m 40 ls []) := by
          intro H locs ls hP hD hS hl
          refine lv_iconst (v := 1) hx hb dX5_actFor_40 (by decide) ?_
          refine lv_goto (tgt := 45) hx hb dX5_actFor_41 (by decide) ?_
          exact hJ45 1 _ _ _ (⟨by decide, by decide⟩ : In 1 0 1) hP hD hS (lv_sub hl [0, 1, 2, 3, 4, 5, 6] rfl)
        refine lv_icmp_eq (tgt := 40) hx hb dX5_actFor_26 (by decide) (fun c77 => ?_) (fun c77 => ?_)
        ·
          have cc78 : x12.toInt = ((-1) : Int32).toInt := congrArg Int32.toInt c77
          have hb79 : In x12 (-1) (-1) := In.eq1 (In.full x12) (⟨by decide, by decide⟩ : In (-1) (-1) (-1)) cc78 (by omega) (by omega)
          exact hJ40 _ _ _ hP hD hS (lv_sub hl [1, 2, 3, 4, 5, 6, 0] rfl)
        ·
          refine lv_aload_n hx hb dX5_actFor_29 rfl (lv_at hl 1 rfl) ?_
          refine pl_get (v := .ref (ad 12)) hx hb hts (fun w h => mT (inX5 w h)) hown hG.1 hP (hst.1 11 (by decide)) hf2 rfl 0 (by decide) (hts _ (mT wg_269)) (fun _ h => h) rfl dX5_actFor_30 ?_
          refine lv_iload hx hb dX5_actFor_33 (lv_at hl 0 rfl) ?_
          have hin80 : vp_in x7 100 := In.inb hb8 (by decide) (by decide)
          refine pl_iald hx hb hG.1 hP (hst.1 12 (by decide)) 0 hf10 rfl hin80 dX5_actFor_35 ?_
          refine lv_topi (fun x81 ex81 => ?_)
          obtain rfl : x12 = x81 := ex12.trans ex81.symm
          refine lv_iload_n hx hb dX5_actFor_36 rfl (lv_at hl 2 rfl) ?_
          refine lv_icmp_ne (tgt := 44) hx hb dX5_actFor_37 (by decide) (fun c82 => ?_) (fun c82 => ?_)
          ·
            refine lv_iconst (v := 0) hx hb dX5_actFor_44 (by decide) ?_
            exact hJ45 0 _ _ _ (⟨by decide, by decide⟩ : In 0 0 1) hP hD hS (lv_sub hl [1, 2, 3, 4, 5, 6, 0] rfl)
          ·
            exact hJ40 _ _ _ hP hD hS (lv_sub hl [1, 2, 3, 4, 5, 6, 0] rfl)
  exact hJ3 ((20 - (0 : Int32).toInt).toNat + 1) 0 _ _ _ (⟨by decide, by decide⟩ : In 0 0 20) hP hD hS (lv_sub hl [1, 2, 3, 4, 5, 0] rfl) (msI _)

abbrev rm_X7_isEnough : Room := { frames := 0, cells := 0, slots := 0, locals := 0 }
abbrev po_X7_isEnough (g : GG) (ad : Nat → Nat) (th : Nat → Int) (L : List Nat) (f : HP)  : Int32 → (List Nat × HP) → Prop := fun r u => u.1 = L ∧ u.2 = f ∧ In r 0 1
set_option maxHeartbeats 4000000 in
set_option maxRecDepth 100000 in
theorem s_X7_isEnough (l : Launch) (g : GG) (ad : Nat → Nat) (th : Nat → Int) (L : List Nat) (f : HP) (sz : Nat)  (hst : ST ad L) (hT : TI g ad th f)  : MtI l g yX7_isEnough cX7_isEnough 1 (some .boolean) rm_X7_isEnough [.ref (ad 18)] L f sz (po_X7_isEnough g ad th L f ) := by
  refine MtI.of (by decide +kernel) (Nat.le_of_ble_eq_true rfl) ?_
  intro p e s m below meth c A hEn hP hD hS ls hl
  obtain ⟨hx, hb, hr, hml, hown, hlocks, hts, hG, hA, hE, hnm⟩ := hEn
  have hown : s.vm.findClass "RulerWord$Search" = some m.cls := hown
  have hl : lv_has ls 1 [(0, .ref (ad 18))] := hl
  refine lv_aload_n hx hb dX7_isEnough_0 rfl (lv_at hl 0 rfl) ?_
  obtain ⟨v6_1, v7_1, v8_1, v9_1, v10_1, v11_1, v12_1, v13_1, hf2, hv8_1, hv9_1, hv10_1, hv11_1, hv13_1⟩ := hT.1 18 (by decide)
  refine pl_get (v := .int v13_1) hx hb hts (fun w h => mT (inX7 w h)) hown hG.1 hP (hst.1 18 (by decide)) hf2 rfl 13 (by decide) (hts _ (mT wg_445)) (fun _ h => h) rfl dX7_isEnough_1 ?_
  have hJ19 : ∀ (H : Heap) (locs : List Loc) (ls : Array Slot), va_P g.1 vwCl (va_pl L f) H → va_D A (va_pl L f) → va_S A s.heap H locs → lv_has ls 1 [(0, .ref (ad 18))] → W p l e rm_X7_isEnough s m [.ref (ad 18)].toArray below meth c H locs 0 0 (MQ below (va_Qi (po_X7_isEnough g ad th L f ) (PstB g A) A) [.ref (ad 18)].toArray s rm_X7_isEnough.cells rm_X7_isEnough.slots A) (F0 m 19 ls []) := by
    intro H locs ls hP hD hS hl
    refine lv_iconst (v := 0) hx hb dX7_isEnough_19 (by decide) ?_
    exact ret_i (ty := .boolean) hx hb hr hlocks (rfl) hP hD hS (Nat.le_of_ble_eq_true rfl) (Nat.le_of_ble_eq_true rfl) (⟨rfl, rfl, (⟨by decide, by decide⟩ : In 0 0 1)⟩) dX7_isEnough_20
  refine lv_if_eq (tgt := 19) hx hb dX7_isEnough_4 (by decide) (fun c3 => ?_) (fun c3 => ?_)
  ·
    have cc4 : v13_1.toInt = (0 : Int32).toInt := congrArg Int32.toInt c3
    have hb5 : In v13_1 0 0 := In.eq1 hv13_1 (⟨by decide, by decide⟩ : In 0 0 0) cc4 (by omega) (by omega)
    exact hJ19 _ _ _ hP hD hS (lv_sub hl [0] rfl)
  ·
    have cc6 : v13_1.toInt ≠ (0 : Int32).toInt := i32_ne c3
    have hb7 : In v13_1 1 1 := In.ne1 hv13_1 (⟨by decide, by decide⟩ : In 0 0 0) cc6 (by omega) (by omega)
    refine lv_aload_n hx hb dX7_isEnough_7 rfl (lv_at hl 0 rfl) ?_
    refine pl_get (v := .int v12_1) hx hb hts (fun w h => mT (inX7 w h)) hown hG.1 hP (hst.1 18 (by decide)) hf2 rfl 12 (by decide) (hts _ (mT wg_444)) (fun _ h => h) rfl dX7_isEnough_8 ?_
    refine lv_iconst (v := (-1)) hx hb dX7_isEnough_11 (by decide) ?_
    refine lv_icmp_eq (tgt := 19) hx hb dX7_isEnough_12 (by decide) (fun c8 => ?_) (fun c8 => ?_)
    ·
      have cc9 : v12_1.toInt = ((-1) : Int32).toInt := congrArg Int32.toInt c8
      have hb10 : In v12_1 (-1) (-1) := In.eq1 (In.full v12_1) (⟨by decide, by decide⟩ : In (-1) (-1) (-1)) cc9 (by omega) (by omega)
      exact hJ19 _ _ _ hP hD hS (lv_sub hl [0] rfl)
    ·
      refine lv_iconst (v := 1) hx hb dX7_isEnough_15 (by decide) ?_
      refine lv_goto (tgt := 20) hx hb dX7_isEnough_16 (by decide) ?_
      exact ret_i (ty := .boolean) hx hb hr hlocks (rfl) hP hD hS (Nat.le_of_ble_eq_true rfl) (Nat.le_of_ble_eq_true rfl) (⟨rfl, rfl, (⟨by decide, by decide⟩ : In 1 0 1)⟩) dX7_isEnough_20

abbrev rm_X7_doesSuspicionCount : Room := { frames := 0, cells := 0, slots := 0, locals := 0 }
abbrev po_X7_doesSuspicionCount (g : GG) (ad : Nat → Nat) (th : Nat → Int) (L : List Nat) (f : HP) (z1 : Int32) : Int32 → (List Nat × HP) → Prop := fun r u => u.1 = L ∧ u.2 = f ∧ In r 0 1
set_option maxHeartbeats 4000000 in
set_option maxRecDepth 100000 in
theorem s_X7_doesSuspicionCount (l : Launch) (g : GG) (ad : Nat → Nat) (th : Nat → Int) (L : List Nat) (f : HP) (sz : Nat) (z1 : Int32) (hst : ST ad L) (hT : TI g ad th f) (hz1 : In z1 0 6) : MtI l g yX7_doesSuspicionCount cX7_doesSuspicionCount 2 (some .boolean) rm_X7_doesSuspicionCount [.ref (ad 18), .int z1] L f sz (po_X7_doesSuspicionCount g ad th L f z1) := by
  refine MtI.of (by decide +kernel) (Nat.le_of_ble_eq_true rfl) ?_
  intro p e s m below meth c A hEn hP hD hS ls hl
  obtain ⟨hx, hb, hr, hml, hown, hlocks, hts, hG, hA, hE, hnm⟩ := hEn
  have hown : s.vm.findClass "RulerWord$Search" = some m.cls := hown
  have hl : lv_has ls 2 [(0, .ref (ad 18)), (1, .int z1)] := hl
  refine lv_aload_n hx hb dX7_doesSuspicionCount_0 rfl (lv_at hl 0 rfl) ?_
  obtain ⟨v6_1, v7_1, v8_1, v9_1, v10_1, v11_1, v12_1, v13_1, hf2, hv8_1, hv9_1, hv10_1, hv11_1, hv13_1⟩ := hT.1 18 (by decide)
  refine pl_get (v := .ref (ad 8)) hx hb hts (fun w h => mT (inX7 w h)) hown hG.1 hP (hst.1 18 (by decide)) hf2 rfl 0 (by decide) (hts _ (mT wg_432)) (fun _ h => h) rfl dX7_doesSuspicionCount_1 ?_
  obtain ⟨v0_3, v1_3, v2_3, v3_3, v4_3, v5_3, v6_3, v7_3, hf4, hv0_3, hv1_3, hv2_3, hv3_3, hv5_3, hv6_3⟩ := hT.1 8 (by decide)
  refine pl_getN (v := .int v6_3) hx hb hts (fun w h => mT (inX2 w h)) hown hG.1 hP (hst.1 8 (by decide)) hf4 rfl 6 (by decide) (hG.2.1 _ wn_243) (fun _ h => h) rfl dX7_doesSuspicionCount_4 ?_
  have hJ30 : ∀ (H : Heap) (locs : List Loc) (ls : Array Slot), va_P g.1 vwCl (va_pl L f) H → va_D A (va_pl L f) → va_S A s.heap H locs → lv_has ls 2 [(0, .ref (ad 18)), (1, .int z1)] → W p l e rm_X7_doesSuspicionCount s m [.ref (ad 18), .int z1].toArray below meth c H locs 0 0 (MQ below (va_Qi (po_X7_doesSuspicionCount g ad th L f z1) (PstB g A) A) [.ref (ad 18), .int z1].toArray s rm_X7_doesSuspicionCount.cells rm_X7_doesSuspicionCount.slots A) (F0 m 30 ls []) := by
    intro H locs ls hP hD hS hl
    refine lv_iconst (v := 0) hx hb dX7_doesSuspicionCount_30 (by decide) ?_
    exact ret_i (ty := .boolean) hx hb hr hlocks (rfl) hP hD hS (Nat.le_of_ble_eq_true rfl) (Nat.le_of_ble_eq_true rfl) (⟨rfl, rfl, (⟨by decide, by decide⟩ : In 0 0 1)⟩) dX7_doesSuspicionCount_31
  refine lv_if_eq (tgt := 30) hx hb dX7_doesSuspicionCount_7 (by decide) (fun c5 => ?_) (fun c5 => ?_)
  ·
    have cc6 : v6_3.toInt = (0 : Int32).toInt := congrArg Int32.toInt c5
    have hb7 : In v6_3 0 0 := In.eq1 hv6_3 (⟨by decide, by decide⟩ : In 0 0 0) cc6 (by omega) (by omega)
    exact hJ30 _ _ _ hP hD hS (lv_sub hl [0, 1] rfl)
  ·
    have cc8 : v6_3.toInt ≠ (0 : Int32).toInt := i32_ne c5
    have hb9 : In v6_3 1 1 := In.ne1 hv6_3 (⟨by decide, by decide⟩ : In 0 0 0) cc8 (by omega) (by omega)
    refine lv_iload_n hx hb dX7_doesSuspicionCount_10 rfl (lv_at hl 1 rfl) ?_
    refine lv_aload_n hx hb dX7_doesSuspicionCount_11 rfl (lv_at hl 0 rfl) ?_
    refine pl_get (v := .ref (ad 8)) hx hb hts (fun w h => mT (inX7 w h)) hown hG.1 hP (hst.1 18 (by decide)) hf2 rfl 0 (by decide) (hts _ (mT wg_432)) (fun _ h => h) rfl dX7_doesSuspicionCount_12 ?_
    refine pl_getN (v := .int v1_3) hx hb hts (fun w h => mT (inX2 w h)) hown hG.1 hP (hst.1 8 (by decide)) hf4 rfl 1 (by decide) (hG.2.1 _ wn_229) (fun _ h => h) rfl dX7_doesSuspicionCount_15 ?_
    refine lv_iadd hx hb dX7_doesSuspicionCount_18 ?_
    refine lv_topi (fun x10 ex10 => ?_)
    have hb11 : In x10 0 15 := ex10 ▸ In.add hz1 hv1_3 (by decide) (by decide) (by decide) (by decide)
    have et12 : x10.toInt = z1.toInt + v1_3.toInt := In.add2e ex10 hz1 hv1_3 (by decide) (by decide)
    refine lv_aload_n hx hb dX7_doesSuspicionCount_19 rfl (lv_at hl 0 rfl) ?_
    refine pl_get (v := .int v7_1) hx hb hts (fun w h => mT (inX7 w h)) hown hG.1 hP (hst.1 18 (by decide)) hf2 rfl 7 (by decide) (hts _ (mT wg_439)) (fun _ h => h) rfl dX7_doesSuspicionCount_20 ?_
    refine lv_icmp_ge (tgt := 30) hx hb dX7_doesSuspicionCount_23 (by decide) (fun c13 => ?_) (fun c13 => ?_)
    ·
      have cc14 : v7_1.toInt ≤ x10.toInt := i32_le.mp c13
      have hb15 : In v7_1 (-2147483648) 15 := In.ge2 hb11 (In.full v7_1) cc14 (by omega) (by omega)
      exact hJ30 _ _ _ hP hD hS (lv_sub hl [0, 1] rfl)
    ·
      have cc16 : x10.toInt < v7_1.toInt := i32_nle c13
      have hb17 : In v7_1 1 2147483647 := In.lt2 hb11 (In.full v7_1) cc16 (by omega) (by omega)
      refine lv_iconst (v := 1) hx hb dX7_doesSuspicionCount_26 (by decide) ?_
      refine lv_goto (tgt := 31) hx hb dX7_doesSuspicionCount_27 (by decide) ?_
      exact ret_i (ty := .boolean) hx hb hr hlocks (rfl) hP hD hS (Nat.le_of_ble_eq_true rfl) (Nat.le_of_ble_eq_true rfl) (⟨rfl, rfl, (⟨by decide, by decide⟩ : In 1 0 1)⟩) dX7_doesSuspicionCount_31

abbrev rm_X7_power : Room := { frames := 0, cells := 0, slots := 0, locals := 0 }
abbrev po_X7_power (g : GG) (ad : Nat → Nat) (th : Nat → Int) (L : List Nat) (f : HP) (z1 : Int32) : Int32 → (List Nat × HP) → Prop := fun _ u => u.1 = L ∧ u.2 = f
set_option maxHeartbeats 4000000 in
set_option maxRecDepth 100000 in
theorem s_X7_power (l : Launch) (g : GG) (ad : Nat → Nat) (th : Nat → Int) (L : List Nat) (f : HP) (sz : Nat) (z1 : Int32) (hst : ST ad L) (hT : TI g ad th f)  : MtI l g yX7_power cX7_power 4 (some .int) rm_X7_power [.ref (ad 18), .int z1] L f sz (po_X7_power g ad th L f z1) := by
  refine MtI.of (by decide +kernel) (Nat.le_of_ble_eq_true rfl) ?_
  intro p e s m below meth c A hEn hP hD hS ls hl
  obtain ⟨hx, hb, hr, hml, hown, hlocks, hts, hG, hA, hE, hnm⟩ := hEn
  have hown : s.vm.findClass "RulerWord$Search" = some m.cls := hown
  have hl : lv_has ls 4 [(0, .ref (ad 18)), (1, .int z1)] := hl
  refine lv_iconst (v := 1) hx hb dX7_power_0 (by decide) ?_
  refine lv_istore_n (lv' := [(2, .int 1), (0, .ref (ad 18)), (1, .int z1)]) hx hb dX7_power_1 rfl hl (by decide) rfl (fun ls hl => ?_)
  refine lv_iconst (v := 0) hx hb dX7_power_2 (by decide) ?_
  refine lv_istore_n (lv' := [(3, .int 0), (2, .int 1), (0, .ref (ad 18)), (1, .int z1)]) hx hb dX7_power_3 rfl hl (by decide) rfl (fun ls hl => ?_)
  have hJ4 : ∀ (k4 : Nat) (y4_l2 : Int32) (y4_l3 : Int32) (H : Heap) (locs : List Loc) (ls : Array Slot), In y4_l2 (-2147483648) 2147483647 → In y4_l3 0 9 → va_P g.1 vwCl (va_pl L f) H → va_D A (va_pl L f) → va_S A s.heap H locs → lv_has ls 4 [(0, .ref (ad 18)), (1, .int z1), (2, .int y4_l2), (3, .int y4_l3)] → 9 - y4_l3.toInt < ((k4 : Nat) : Int) → W p l e rm_X7_power s m [.ref (ad 18), .int z1].toArray below meth c H locs 0 0 (MQ below (va_Qi (po_X7_power g ad th L f z1) (PstB g A) A) [.ref (ad 18), .int z1].toArray s rm_X7_power.cells rm_X7_power.slots A) (F0 m 4 ls []) := by
    intro k4
    induction k4 with
    | zero =>
      intro y4_l2 y4_l3 H locs ls hy4_l2 hy4_l3 hP hD hS hl hmz4
      exact ms0 hy4_l3 hmz4
    | succ k4 ih4 =>
      intro y4_l2 y4_l3 H locs ls hy4_l2 hy4_l3 hP hD hS hl hmz4
      refine lv_iload_n hx hb dX7_power_4 rfl (lv_at hl 3 rfl) ?_
      refine lv_aload_n hx hb dX7_power_5 rfl (lv_at hl 0 rfl) ?_
      obtain ⟨v6_1, v7_1, v8_1, v9_1, v10_1, v11_1, v12_1, v13_1, hf2, hv8_1, hv9_1, hv10_1, hv11_1, hv13_1⟩ := hT.1 18 (by decide)
      refine pl_get (v := .int v10_1) hx hb hts (fun w h => mT (inX7 w h)) hown hG.1 hP (hst.1 18 (by decide)) hf2 rfl 10 (by decide) (hts _ (mT wg_442)) (fun _ h => h) rfl dX7_power_6 ?_
      refine lv_icmp_ge (tgt := 22) hx hb dX7_power_9 (by decide) (fun c3 => ?_) (fun c3 => ?_)
      ·
        refine lv_iload_n hx hb dX7_power_22 rfl (lv_at hl 2 rfl) ?_
        exact ret_i (ty := .int) hx hb hr hlocks (rfl) hP hD hS (Nat.le_of_ble_eq_true rfl) (Nat.le_of_ble_eq_true rfl) (⟨rfl, rfl⟩) dX7_power_23
      ·
        have cc4 : y4_l3.toInt < v10_1.toInt := i32_nle c3
        have hb5 : In y4_l3 0 8 := In.lt1 hy4_l3 hv10_1 cc4 (by omega) (by omega)
        have hb6 : In v10_1 1 9 := In.lt2 hy4_l3 hv10_1 cc4 (by omega) (by omega)
        refine lv_iload_n hx hb dX7_power_12 rfl (lv_at hl 2 rfl) ?_
        refine lv_iload_n hx hb dX7_power_13 rfl (lv_at hl 1 rfl) ?_
        refine lv_imul hx hb dX7_power_14 ?_
        refine lv_topi (fun x7 ex7 => ?_)
        refine lv_istore_n (lv' := [(2, .int x7), (0, .ref (ad 18)), (1, .int z1), (3, .int y4_l3)]) hx hb dX7_power_15 rfl hl (by decide) rfl (fun ls hl => ?_)
        obtain ⟨x8, ex8⟩ : ∃ y : Int32, y = y4_l3 + 1 := ⟨_, rfl⟩
        have hb9 : In x8 1 9 := ex8 ▸ In.add hb5 (⟨by decide, by decide⟩ : In 1 1 1) (by decide) (by decide) (by decide) (by decide)
        have et10 : x8.toInt = y4_l3.toInt + 1 := In.adde ex8 hb5 (k := 1) (by decide) (by decide) (by decide)
        refine lv_iinc (v := x8) (lv' := [(3, .int x8), (2, .int x7), (0, .ref (ad 18)), (1, .int z1)]) hx hb dX7_power_16 hl (k := 3) rfl (by rw [ex8]; rfl) (by decide) rfl (fun ls hl => ?_)
        refine lv_goto (tgt := 4) hx hb dX7_power_19 (by decide) ?_
        exact ih4 x7 x8 _ _ _ (In.full x7) (In.mono hb9 (by decide) (by decide)) hP hD hS (lv_sub hl [2, 3, 1, 0] rfl) (msu et10 (by decide) hmz4)
  exact hJ4 ((9 - (0 : Int32).toInt).toNat + 1) 1 0 _ _ _ (⟨by decide, by decide⟩ : In 1 (-2147483648) 2147483647) (⟨by decide, by decide⟩ : In 0 0 9) hP hD hS (lv_sub hl [2, 3, 1, 0] rfl) (msI _)

abbrev rm_X7_bitsOf : Room := { frames := 0, cells := 0, slots := 0, locals := 0 }
abbrev po_X7_bitsOf (g : GG) (ad : Nat → Nat) (th : Nat → Int) (L : List Nat) (f : HP) (z1 : Int32) (z2 : Int32) : Int32 → (List Nat × HP) → Prop := fun _ u => u.1 = L ∧ u.2 = f
set_option maxHeartbeats 4000000 in
set_option maxRecDepth 100000 in
theorem s_X7_bitsOf (l : Launch) (g : GG) (ad : Nat → Nat) (th : Nat → Int) (L : List Nat) (f : HP) (sz : Nat) (z1 : Int32) (z2 : Int32) (hst : ST ad L) (hT : TI g ad th f)  : MtI l g yX7_bitsOf cX7_bitsOf 5 (some .int) rm_X7_bitsOf [.ref (ad 18), .int z1, .int z2] L f sz (po_X7_bitsOf g ad th L f z1 z2) := by
  refine MtI.of (by decide +kernel) (Nat.le_of_ble_eq_true rfl) ?_
  intro p e s m below meth c A hEn hP hD hS ls hl
  obtain ⟨hx, hb, hr, hml, hown, hlocks, hts, hG, hA, hE, hnm⟩ := hEn
  have hown : s.vm.findClass "RulerWord$Search" = some m.cls := hown
  have hl : lv_has ls 5 [(0, .ref (ad 18)), (1, .int z1), (2, .int z2)] := hl
  refine lv_iconst (v := 0) hx hb dX7_bitsOf_0 (by decide) ?_
  refine lv_istore_n (lv' := [(3, .int 0), (0, .ref (ad 18)), (1, .int z1), (2, .int z2)]) hx hb dX7_bitsOf_1 rfl hl (by decide) rfl (fun ls hl => ?_)
  refine lv_iconst (v := 0) hx hb dX7_bitsOf_2 (by decide) ?_
  refine lv_istore (lv' := [(4, .int 0), (3, .int 0), (0, .ref (ad 18)), (1, .int z1), (2, .int z2)]) hx hb dX7_bitsOf_3 hl (by decide) rfl (fun ls hl => ?_)
  have hJ5 : ∀ (k5 : Nat) (y5_l3 : Int32) (y5_l4 : Int32) (H : Heap) (locs : List Loc) (ls : Array Slot), In y5_l3 (-2147483648) 2147483647 → In y5_l4 0 2147483647 → va_P g.1 vwCl (va_pl L f) H → va_D A (va_pl L f) → va_S A s.heap H locs → lv_has ls 5 [(0, .ref (ad 18)), (1, .int z1), (2, .int z2), (3, .int y5_l3), (4, .int y5_l4)] → 2147483647 - y5_l4.toInt < ((k5 : Nat) : Int) → W p l e rm_X7_bitsOf s m [.ref (ad 18), .int z1, .int z2].toArray below meth c H locs 0 0 (MQ below (va_Qi (po_X7_bitsOf g ad th L f z1 z2) (PstB g A) A) [.ref (ad 18), .int z1, .int z2].toArray s rm_X7_bitsOf.cells rm_X7_bitsOf.slots A) (F0 m 5 ls []) := by
    intro k5
    induction k5 with
    | zero =>
      intro y5_l3 y5_l4 H locs ls hy5_l3 hy5_l4 hP hD hS hl hmz5
      exact ms0 hy5_l4 hmz5
    | succ k5 ih5 =>
      intro y5_l3 y5_l4 H locs ls hy5_l3 hy5_l4 hP hD hS hl hmz5
      refine lv_iload hx hb dX7_bitsOf_5 (lv_at hl 4 rfl) ?_
      refine lv_iload_n hx hb dX7_bitsOf_7 rfl (lv_at hl 1 rfl) ?_
      refine lv_icmp_ge (tgt := 31) hx hb dX7_bitsOf_8 (by decide) (fun c1 => ?_) (fun c1 => ?_)
      ·
        refine lv_iload_n hx hb dX7_bitsOf_31 rfl (lv_at hl 3 rfl) ?_
        exact ret_i (ty := .int) hx hb hr hlocks (rfl) hP hD hS (Nat.le_of_ble_eq_true rfl) (Nat.le_of_ble_eq_true rfl) (⟨rfl, rfl⟩) dX7_bitsOf_32
      ·
        have cc2 : y5_l4.toInt < z1.toInt := i32_nle c1
        have hb3 : In y5_l4 0 2147483646 := In.lt1 hy5_l4 (In.full z1) cc2 (by omega) (by omega)
        have hb4 : In z1 1 2147483647 := In.lt2 hy5_l4 (In.full z1) cc2 (by omega) (by omega)
        refine lv_iload_n hx hb dX7_bitsOf_11 rfl (lv_at hl 3 rfl) ?_
        refine lv_iconst (v := 1) hx hb dX7_bitsOf_12 (by decide) ?_
        refine lv_iload_n hx hb dX7_bitsOf_13 rfl (lv_at hl 2 rfl) ?_
        refine lv_iload hx hb dX7_bitsOf_14 (lv_at hl 4 rfl) ?_
        refine lv_aload_n hx hb dX7_bitsOf_16 rfl (lv_at hl 0 rfl) ?_
        obtain ⟨v6_5, v7_5, v8_5, v9_5, v10_5, v11_5, v12_5, v13_5, hf6, hv8_5, hv9_5, hv10_5, hv11_5, hv13_5⟩ := hT.1 18 (by decide)
        refine pl_get (v := .int v10_5) hx hb hts (fun w h => mT (inX7 w h)) hown hG.1 hP (hst.1 18 (by decide)) hf6 rfl 10 (by decide) (hts _ (mT wg_442)) (fun _ h => h) rfl dX7_bitsOf_17 ?_
        refine lv_imul hx hb dX7_bitsOf_20 ?_
        refine lv_topi (fun x7 ex7 => ?_)
        refine lv_iadd hx hb dX7_bitsOf_21 ?_
        refine lv_topi (fun x8 ex8 => ?_)
        refine lv_ishl hx hb dX7_bitsOf_22 ?_
        refine lv_topi (fun x9 ex9 => ?_)
        refine lv_ior hx hb dX7_bitsOf_23 ?_
        refine lv_topi (fun x10 ex10 => ?_)
        refine lv_istore_n (lv' := [(3, .int x10), (0, .ref (ad 18)), (1, .int z1), (2, .int z2), (4, .int y5_l4)]) hx hb dX7_bitsOf_24 rfl hl (by decide) rfl (fun ls hl => ?_)
        obtain ⟨x11, ex11⟩ : ∃ y : Int32, y = y5_l4 + 1 := ⟨_, rfl⟩
        have hb12 : In x11 1 2147483647 := ex11 ▸ In.add hb3 (⟨by decide, by decide⟩ : In 1 1 1) (by decide) (by decide) (by decide) (by decide)
        have et13 : x11.toInt = y5_l4.toInt + 1 := In.adde ex11 hb3 (k := 1) (by decide) (by decide) (by decide)
        refine lv_iinc (v := x11) (lv' := [(4, .int x11), (3, .int x10), (0, .ref (ad 18)), (1, .int z1), (2, .int z2)]) hx hb dX7_bitsOf_25 hl (k := 4) rfl (by rw [ex11]; rfl) (by decide) rfl (fun ls hl => ?_)
        refine lv_goto (tgt := 5) hx hb dX7_bitsOf_28 (by decide) ?_
        exact ih5 x10 x11 _ _ _ (In.full x10) (In.mono hb12 (by decide) (by decide)) hP hD hS (lv_sub hl [2, 3, 4, 1, 0] rfl) (msu et13 (by decide) hmz5)
  exact hJ5 ((2147483647 - (0 : Int32).toInt).toNat + 1) 0 0 _ _ _ (⟨by decide, by decide⟩ : In 0 (-2147483648) 2147483647) (⟨by decide, by decide⟩ : In 0 0 2147483647) hP hD hS (lv_sub hl [2, 3, 4, 1, 0] rfl) (msI _)

abbrev rm_X7_spread : Room := { frames := 0, cells := 0, slots := 0, locals := 0 }
abbrev po_X7_spread (g : GG) (ad : Nat → Nat) (th : Nat → Int) (L : List Nat) (f : HP) (z1 : Int32) : Int32 → (List Nat × HP) → Prop := fun r u => u.1 = L ∧ u.2 = f ∧ In r 0 511
set_option maxHeartbeats 4000000 in
set_option maxRecDepth 100000 in
theorem s_X7_spread (l : Launch) (g : GG) (ad : Nat → Nat) (th : Nat → Int) (L : List Nat) (f : HP) (sz : Nat) (z1 : Int32) (hst : ST ad L) (hT : TI g ad th f)  : MtI l g yX7_spread cX7_spread 4 (some .int) rm_X7_spread [.ref (ad 18), .int z1] L f sz (po_X7_spread g ad th L f z1) := by
  refine MtI.of (by decide +kernel) (Nat.le_of_ble_eq_true rfl) ?_
  intro p e s m below meth c A hEn hP hD hS ls hl
  obtain ⟨hx, hb, hr, hml, hown, hlocks, hts, hG, hA, hE, hnm⟩ := hEn
  have hown : s.vm.findClass "RulerWord$Search" = some m.cls := hown
  have hl : lv_has ls 4 [(0, .ref (ad 18)), (1, .int z1)] := hl
  refine lv_iconst (v := 0) hx hb dX7_spread_0 (by decide) ?_
  refine lv_istore_n (lv' := [(2, .int 0), (0, .ref (ad 18)), (1, .int z1)]) hx hb dX7_spread_1 rfl hl (by decide) rfl (fun ls hl => ?_)
  refine lv_iconst (v := 0) hx hb dX7_spread_2 (by decide) ?_
  refine lv_istore_n (lv' := [(3, .int 0), (2, .int 0), (0, .ref (ad 18)), (1, .int z1)]) hx hb dX7_spread_3 rfl hl (by decide) rfl (fun ls hl => ?_)
  have hJ4 : ∀ (k4 : Nat) (y4_l2 : Int32) (y4_l3 : Int32) (H : Heap) (locs : List Loc) (ls : Array Slot), In y4_l2 0 511 → In y4_l3 0 9 → va_P g.1 vwCl (va_pl L f) H → va_D A (va_pl L f) → va_S A s.heap H locs → lv_has ls 4 [(0, .ref (ad 18)), (1, .int z1), (2, .int y4_l2), (3, .int y4_l3)] → 9 - y4_l3.toInt < ((k4 : Nat) : Int) → W p l e rm_X7_spread s m [.ref (ad 18), .int z1].toArray below meth c H locs 0 0 (MQ below (va_Qi (po_X7_spread g ad th L f z1) (PstB g A) A) [.ref (ad 18), .int z1].toArray s rm_X7_spread.cells rm_X7_spread.slots A) (F0 m 4 ls []) := by
    intro k4
    induction k4 with
    | zero =>
      intro y4_l2 y4_l3 H locs ls hy4_l2 hy4_l3 hP hD hS hl hmz4
      exact ms0 hy4_l3 hmz4
    | succ k4 ih4 =>
      intro y4_l2 y4_l3 H locs ls hy4_l2 hy4_l3 hP hD hS hl hmz4
      refine lv_iload_n hx hb dX7_spread_4 rfl (lv_at hl 3 rfl) ?_
      refine lv_aload_n hx hb dX7_spread_5 rfl (lv_at hl 0 rfl) ?_
      obtain ⟨v6_1, v7_1, v8_1, v9_1, v10_1, v11_1, v12_1, v13_1, hf2, hv8_1, hv9_1, hv10_1, hv11_1, hv13_1⟩ := hT.1 18 (by decide)
      refine pl_get (v := .int v10_1) hx hb hts (fun w h => mT (inX7 w h)) hown hG.1 hP (hst.1 18 (by decide)) hf2 rfl 10 (by decide) (hts _ (mT wg_442)) (fun _ h => h) rfl dX7_spread_6 ?_
      refine lv_icmp_ge (tgt := 33) hx hb dX7_spread_9 (by decide) (fun c3 => ?_) (fun c3 => ?_)
      ·
        refine lv_iload_n hx hb dX7_spread_33 rfl (lv_at hl 2 rfl) ?_
        exact ret_i (ty := .int) hx hb hr hlocks (rfl) hP hD hS (Nat.le_of_ble_eq_true rfl) (Nat.le_of_ble_eq_true rfl) (⟨rfl, rfl, hy4_l2⟩) dX7_spread_34
      ·
        have cc4 : y4_l3.toInt < v10_1.toInt := i32_nle c3
        have hb5 : In y4_l3 0 8 := In.lt1 hy4_l3 hv10_1 cc4 (by omega) (by omega)
        have hb6 : In v10_1 1 9 := In.lt2 hy4_l3 hv10_1 cc4 (by omega) (by omega)
        refine lv_iload_n hx hb dX7_spread_12 rfl (lv_at hl 2 rfl) ?_
        refine lv_iload_n hx hb dX7_spread_13 rfl (lv_at hl 1 rfl) ?_
        refine lv_iload_n hx hb dX7_spread_14 rfl (lv_at hl 3 rfl) ?_
        refine lv_iushr hx hb dX7_spread_15 rfl ?_
        refine lv_topi (fun x7 ex7 => ?_)
        refine lv_iconst (v := 1) hx hb dX7_spread_16 (by decide) ?_
        refine lv_iand hx hb dX7_spread_17 ?_
        refine lv_topi (fun x8 ex8 => ?_)
        have hb9 : In x8 0 1 := ex8 ▸ In.andr (⟨by decide, by decide⟩ : In 1 1 1) (by decide)
        refine lv_aload_n hx hb dX7_spread_18 rfl (lv_at hl 0 rfl) ?_
        refine pl_get (v := .ref (ad 19)) hx hb hts (fun w h => mT (inX7 w h)) hown hG.1 hP (hst.1 18 (by decide)) hf2 rfl 1 (by decide) (hts _ (mT wg_433)) (fun _ h => h) rfl dX7_spread_19 ?_
        refine lv_iload_n hx hb dX7_spread_22 rfl (lv_at hl 3 rfl) ?_
        obtain ⟨rw10, hf11, hc12⟩ := hT.1 19 (by decide)
        have hin13 : vp_in y4_l3 9 := In.inb hb5 (by decide) (by decide)
        refine pl_iald hx hb hG.1 hP (hst.1 19 (by decide)) 0 hf11 rfl hin13 dX7_spread_23 ?_
        refine lv_topi (fun x14 ex14 => ?_)
        have hb15 : In x14 0 8 := by rw [ex14]; exact hc12 _ (vp_nat hin13)
        refine lv_ishl hx hb dX7_spread_24 ?_
        refine lv_topi (fun x16 ex16 => ?_)
        have hb17 : In x16 0 256 := ex16 ▸ In.shl hb9 hb15 (by decide) (by decide) (by decide) (by decide) (by decide) (by decide)
        refine lv_ior hx hb dX7_spread_25 ?_
        refine lv_topi (fun x18 ex18 => ?_)
        have hb19 : In x18 0 511 := ex18 ▸ In.or 9 hy4_l2 hb17 (by decide) (by decide) (by decide) (by decide) (by decide)
        refine lv_istore_n (lv' := [(2, .int x18), (0, .ref (ad 18)), (1, .int z1), (3, .int y4_l3)]) hx hb dX7_spread_26 rfl hl (by decide) rfl (fun ls hl => ?_)
        obtain ⟨x20, ex20⟩ : ∃ y : Int32, y = y4_l3 + 1 := ⟨_, rfl⟩
        have hb21 : In x20 1 9 := ex20 ▸ In.add hb5 (⟨by decide, by decide⟩ : In 1 1 1) (by decide) (by decide) (by decide) (by decide)
        have et22 : x20.toInt = y4_l3.toInt + 1 := In.adde ex20 hb5 (k := 1) (by decide) (by decide) (by decide)
        refine lv_iinc (v := x20) (lv' := [(3, .int x20), (2, .int x18), (0, .ref (ad 18)), (1, .int z1)]) hx hb dX7_spread_27 hl (k := 3) rfl (by rw [ex20]; rfl) (by decide) rfl (fun ls hl => ?_)
        refine lv_goto (tgt := 4) hx hb dX7_spread_30 (by decide) ?_
        exact ih4 x18 x20 _ _ _ hb19 (In.mono hb21 (by decide) (by decide)) hP hD hS (lv_sub hl [2, 3, 1, 0] rfl) (msu et22 (by decide) hmz4)
  exact hJ4 ((9 - (0 : Int32).toInt).toNat + 1) 0 0 _ _ _ (⟨by decide, by decide⟩ : In 0 0 511) (⟨by decide, by decide⟩ : In 0 0 9) hP hD hS (lv_sub hl [2, 3, 1, 0] rfl) (msI _)

abbrev rm_X7_seen : Room := { frames := 0, cells := 0, slots := 0, locals := 0 }
abbrev po_X7_seen (g : GG) (ad : Nat → Nat) (th : Nat → Int) (L : List Nat) (f : HP) (z0 : Int32) (z1 : Int32) (z2 : Int32) : Int32 → (List Nat × HP) → Prop := fun r u => u.1 = L ∧ u.2 = f ∧ In r 0 511
set_option maxHeartbeats 4000000 in
set_option maxRecDepth 100000 in
theorem s_X7_seen (l : Launch) (g : GG) (ad : Nat → Nat) (th : Nat → Int) (L : List Nat) (f : HP) (sz : Nat) (z0 : Int32) (z1 : Int32) (z2 : Int32) (hst : ST ad L) (hT : TI g ad th f) (hz0 : In z0 0 511) (hz1 : In z1 0 511) : MtI l g yX7_seen cX7_seen 4 (some .int) rm_X7_seen [.int z0, .int z1, .int z2] L f sz (po_X7_seen g ad th L f z0 z1 z2) := by
  refine MtI.of (by decide +kernel) (Nat.le_of_ble_eq_true rfl) ?_
  intro p e s m below meth c A hEn hP hD hS ls hl
  obtain ⟨hx, hb, hr, hml, hown, hlocks, hts, hG, hA, hE, hnm⟩ := hEn
  have hown : s.vm.findClass "RulerWord$Search" = some m.cls := hown
  have hl : lv_has ls 4 [(0, .int z0), (1, .int z1), (2, .int z2)] := hl
  refine lv_iload_n hx hb dX7_seen_0 rfl (lv_at hl 2 rfl) ?_
  refine lv_iconst (v := 4) hx hb dX7_seen_1 (by decide) ?_
  refine lv_irem hx hb dX7_seen_2 (In.ne0 (⟨by decide, by decide⟩ : In 4 4 4) (by decide)) ?_
  refine lv_topi (fun x1 ex1 => ?_)
  refine lv_istore_n (lv' := [(3, .int x1), (0, .int z0), (1, .int z1), (2, .int z2)]) hx hb dX7_seen_3 rfl hl (by decide) rfl (fun ls hl => ?_)
  refine lv_iload_n hx hb dX7_seen_4 rfl (lv_at hl 0 rfl) ?_
  refine lv_iconst (v := 2) hx hb dX7_seen_5 (by decide) ?_
  refine lv_icmp_ne (tgt := 11) hx hb dX7_seen_6 (by decide) (fun c2 => ?_) (fun c2 => ?_)
  ·
    refine lv_iload_n hx hb dX7_seen_11 rfl (lv_at hl 0 rfl) ?_
    refine lv_iconst (v := 1) hx hb dX7_seen_12 (by decide) ?_
    refine lv_icmp_ne (tgt := 22) hx hb dX7_seen_13 (by decide) (fun c3 => ?_) (fun c3 => ?_)
    ·
      refine lv_iload_n hx hb dX7_seen_22 rfl (lv_at hl 1 rfl) ?_
      refine lv_iload_n hx hb dX7_seen_23 rfl (lv_at hl 2 rfl) ?_
      refine lv_iconst (v := (-1)) hx hb dX7_seen_24 (by decide) ?_
      refine lv_ixor hx hb dX7_seen_25 ?_
      refine lv_topi (fun x4 ex4 => ?_)
      refine lv_iand hx hb dX7_seen_26 ?_
      refine lv_topi (fun x5 ex5 => ?_)
      have hb6 : In x5 0 511 := ex5 ▸ In.andl hz0 (by decide)
      exact ret_i (ty := .int) hx hb hr hlocks (rfl) hP hD hS (Nat.le_of_ble_eq_true rfl) (Nat.le_of_ble_eq_true rfl) (⟨rfl, rfl, hb6⟩) dX7_seen_27
    ·
      have cc7 : x1.toInt = (1 : Int32).toInt := congrArg Int32.toInt c3
      have hb8 : In x1 1 1 := In.eq1 (In.full x1) (⟨by decide, by decide⟩ : In 1 1 1) cc7 (by omega) (by omega)
      refine lv_iload_n hx hb dX7_seen_16 rfl (lv_at hl 1 rfl) ?_
      refine lv_iload_n hx hb dX7_seen_17 rfl (lv_at hl 2 rfl) ?_
      refine lv_ior hx hb dX7_seen_18 ?_
      refine lv_topi (fun x9 ex9 => ?_)
      have hb10 : In x9 0 511 := ex9 ▸ In.or 9 hz0 hz1 (by decide) (by decide) (by decide) (by decide) (by decide)
      refine lv_goto (tgt := 27) hx hb dX7_seen_19 (by decide) ?_
      exact ret_i (ty := .int) hx hb hr hlocks (rfl) hP hD hS (Nat.le_of_ble_eq_true rfl) (Nat.le_of_ble_eq_true rfl) (⟨rfl, rfl, hb10⟩) dX7_seen_27
  ·
    have cc11 : x1.toInt = (2 : Int32).toInt := congrArg Int32.toInt c2
    have hb12 : In x1 2 2 := In.eq1 (In.full x1) (⟨by decide, by decide⟩ : In 2 2 2) cc11 (by omega) (by omega)
    refine lv_iload_n hx hb dX7_seen_9 rfl (lv_at hl 1 rfl) ?_
    exact ret_i (ty := .int) hx hb hr hlocks (rfl) hP hD hS (Nat.le_of_ble_eq_true rfl) (Nat.le_of_ble_eq_true rfl) (⟨rfl, rfl, hz0⟩) dX7_seen_10

abbrev rm_X7_wordOf : Room := { frames := 0, cells := 0, slots := 0, locals := 0 }
abbrev po_X7_wordOf (g : GG) (ad : Nat → Nat) (th : Nat → Int) (L : List Nat) (f : HP) (z0 : Int32) (z1 : Int32) : Int32 → (List Nat × HP) → Prop := fun _ u => u.1 = L ∧ u.2 = f
set_option maxHeartbeats 4000000 in
set_option maxRecDepth 100000 in
theorem s_X7_wordOf (l : Launch) (g : GG) (ad : Nat → Nat) (th : Nat → Int) (L : List Nat) (f : HP) (sz : Nat) (z0 : Int32) (z1 : Int32) (hst : ST ad L) (hT : TI g ad th f)  : MtI l g yX7_wordOf cX7_wordOf 2 (some .int) rm_X7_wordOf [.int z0, .int z1] L f sz (po_X7_wordOf g ad th L f z0 z1) := by
  refine MtI.of (by decide +kernel) (Nat.le_of_ble_eq_true rfl) ?_
  intro p e s m below meth c A hEn hP hD hS ls hl
  obtain ⟨hx, hb, hr, hml, hown, hlocks, hts, hG, hA, hE, hnm⟩ := hEn
  have hown : s.vm.findClass "RulerWord$Search" = some m.cls := hown
  have hl : lv_has ls 2 [(0, .int z0), (1, .int z1)] := hl
  refine lv_iload_n hx hb dX7_wordOf_0 rfl (lv_at hl 0 rfl) ?_
  refine lv_iconst (v := 2) hx hb dX7_wordOf_1 (by decide) ?_
  refine lv_icmp_ne (tgt := 9) hx hb dX7_wordOf_2 (by decide) (fun c1 => ?_) (fun c1 => ?_)
  ·
    refine lv_iconst (v := 1) hx hb dX7_wordOf_9 (by decide) ?_
    refine lv_iload_n hx hb dX7_wordOf_10 rfl (lv_at hl 1 rfl) ?_
    refine lv_iload_n hx hb dX7_wordOf_11 rfl (lv_at hl 0 rfl) ?_
    refine lv_bipush (v := 9) hx hb dX7_wordOf_12 (by decide) ?_
    refine lv_imul hx hb dX7_wordOf_14 ?_
    refine lv_topi (fun x2 ex2 => ?_)
    refine lv_iadd hx hb dX7_wordOf_15 ?_
    refine lv_topi (fun x3 ex3 => ?_)
    refine lv_ishl hx hb dX7_wordOf_16 ?_
    refine lv_topi (fun x4 ex4 => ?_)
    exact ret_i (ty := .int) hx hb hr hlocks (rfl) hP hD hS (Nat.le_of_ble_eq_true rfl) (Nat.le_of_ble_eq_true rfl) (⟨rfl, rfl⟩) dX7_wordOf_17
  ·
    have cc5 : z0.toInt = (2 : Int32).toInt := congrArg Int32.toInt c1
    have hb6 : In z0 2 2 := In.eq1 (In.full z0) (⟨by decide, by decide⟩ : In 2 2 2) cc5 (by omega) (by omega)
    refine lv_iconst (v := 0) hx hb dX7_wordOf_5 (by decide) ?_
    refine lv_goto (tgt := 17) hx hb dX7_wordOf_6 (by decide) ?_
    exact ret_i (ty := .int) hx hb hr hlocks (rfl) hP hD hS (Nat.le_of_ble_eq_true rfl) (Nat.le_of_ble_eq_true rfl) (⟨rfl, rfl⟩) dX7_wordOf_17

abbrev rm_X7_judge : Room := { frames := 0, cells := 0, slots := 0, locals := 0 }
abbrev po_X7_judge (g : GG) (ad : Nat → Nat) (th : Nat → Int) (L : List Nat) (f : HP) (z1 : Int32) (z2 : Int32) : (List Nat × HP) → Prop := fun u => u.1 = L ∧ TI g ad th u.2 ∧ (∀ b, b ≠ (ad 18) → u.2 b = f b)
set_option maxHeartbeats 4000000 in
set_option maxRecDepth 100000 in
theorem s_X7_judge (l : Launch) (g : GG) (ad : Nat → Nat) (th : Nat → Int) (L : List Nat) (f : HP) (sz : Nat) (z1 : Int32) (z2 : Int32) (hst : ST ad L) (hT : TI g ad th f) (hz1 : In z1 0 511) : MtV l g yX7_judge cX7_judge 3 rm_X7_judge [.ref (ad 18), .int z1, .int z2] L f sz (po_X7_judge g ad th L f z1 z2) := by
  refine MtV.of (by decide +kernel) (Nat.le_of_ble_eq_true rfl) ?_
  intro p e s m below meth c A hEn hP hD hS ls hl
  obtain ⟨hx, hb, hr, hml, hown, hlocks, hts, hG, hA, hE, hnm⟩ := hEn
  have hown : s.vm.findClass "RulerWord$Search" = some m.cls := hown
  have hl : lv_has ls 3 [(0, .ref (ad 18)), (1, .int z1), (2, .int z2)] := hl
  have hfr : (∀ b, b ≠ (ad 18) → f b = f b) := fun b z0_ => rfl
  refine lv_iload_n hx hb dX7_judge_0 rfl (lv_at hl 1 rfl) ?_
  refine lv_if_eq (tgt := 12) hx hb dX7_judge_1 (by decide) (fun c1 => ?_) (fun c1 => ?_)
  ·
    have cc2 : z1.toInt = (0 : Int32).toInt := congrArg Int32.toInt c1
    have hb3 : In z1 0 0 := In.eq1 hz1 (⟨by decide, by decide⟩ : In 0 0 0) cc2 (by omega) (by omega)
    exact ret_v hx hb hr hlocks hP hD hS (Nat.le_of_ble_eq_true rfl) (Nat.le_of_ble_eq_true rfl) (⟨rfl, hT, hfr⟩) dX7_judge_12
  ·
    have cc4 : z1.toInt ≠ (0 : Int32).toInt := i32_ne c1
    have hb5 : In z1 1 511 := In.ne1 hz1 (⟨by decide, by decide⟩ : In 0 0 0) cc4 (by omega) (by omega)
    refine lv_iload_n hx hb dX7_judge_4 rfl (lv_at hl 1 rfl) ?_
    refine lv_aload_n hx hb dX7_judge_5 rfl (lv_at hl 0 rfl) ?_
    obtain ⟨v6_6, v7_6, v8_6, v9_6, v10_6, v11_6, v12_6, v13_6, hf7, hv8_6, hv9_6, hv10_6, hv11_6, hv13_6⟩ := hT.1 18 (by decide)
    refine pl_get (v := .int v9_6) hx hb hts (fun w h => mT (inX7 w h)) hown hG.1 hP (hst.1 18 (by decide)) hf7 rfl 9 (by decide) (hts _ (mT wg_441)) (fun _ h => h) rfl dX7_judge_6 ?_
    refine lv_icmp_ne (tgt := 13) hx hb dX7_judge_9 (by decide) (fun c8 => ?_) (fun c8 => ?_)
    ·
      refine lv_aload_n hx hb dX7_judge_13 rfl (lv_at hl 0 rfl) ?_
      refine lv_dup hx hb dX7_judge_14 rfl ?_
      refine pl_get (v := .int v6_6) hx hb hts (fun w h => mT (inX7 w h)) hown hG.1 hP (hst.1 18 (by decide)) hf7 rfl 6 (by decide) (hts _ (mT wg_438)) (fun _ h => h) rfl dX7_judge_15 ?_
      refine lv_iconst (v := 1) hx hb dX7_judge_18 (by decide) ?_
      refine lv_iadd hx hb dX7_judge_19 ?_
      refine lv_topi (fun x9 ex9 => ?_)
      refine pl_put (ty := .int) (v := .int x9) (fs' := [.ref (ad 8), .ref (ad 19), .ref (ad 20), .ref (ad 21), .ref (ad 22), .ref (ad 23), .int x9, .int v7_6, .int v8_6, .int v9_6, .int v10_6, .int v11_6, .int v12_6, .int v13_6]) hx hb hts (fun w h => mT (inX7 w h)) tyX7 tyX7_ok nmX7 hown hG.1 hP hD hS (hst.1 18 (by decide)) hf7 rfl 6 (by decide) (hts _ (mT wg_438)) (fun _ h => h) rfl (by decide +kernel) (rfl) (rfl) (Nat.le_of_ble_eq_true rfl) rfl dX7_judge_20 (fun H locs f10 hf11 ho12 hP hD hS => ?_)
      have hfr : (∀ b, b ≠ (ad 18) → f10 b = f b) := fun b z0_ => (ho12 b z0_).trans (hfr b z0_)
      refine lv_aload_n hx hb dX7_judge_23 rfl (lv_at hl 0 rfl) ?_
      refine pl_get (v := .int v12_6) hx hb hts (fun w h => mT (inX7 w h)) hown hG.1 hP (hst.1 18 (by decide)) hf11 rfl 12 (by decide) (hts _ (mT wg_444)) (fun _ h => h) rfl dX7_judge_24 ?_
      refine lv_iconst (v := (-1)) hx hb dX7_judge_27 (by decide) ?_
      have hT := TI.updA hT hst (k := 18) (by decide) hf11 ho12 ⟨x9, v7_6, v8_6, v9_6, v10_6, v11_6, v12_6, v13_6, rfl, hv8_6, hv9_6, hv10_6, hv11_6, hv13_6⟩
      have hJ39 : ∀ (H : Heap) (locs : List Loc) (ls : Array Slot), va_P g.1 vwCl (va_pl L f10) H → va_D A (va_pl L f10) → va_S A s.heap H locs → lv_has ls 3 [(0, .ref (ad 18)), (1, .int z1), (2, .int z2)] → W p l e rm_X7_judge s m [.ref (ad 18), .int z1, .int z2].toArray below meth c H locs 0 0 (MQ below (va_Qv (po_X7_judge g ad th L f z1 z2) (PstB g A) A) [.ref (ad 18), .int z1, .int z2].toArray s rm_X7_judge.cells rm_X7_judge.slots A) (F0 m 39 ls []) := by
        intro H locs ls hP hD hS hl
        refine lv_aload_n hx hb dX7_judge_39 rfl (lv_at hl 0 rfl) ?_
        refine lv_iload_n hx hb dX7_judge_40 rfl (lv_at hl 2 rfl) ?_
        refine pl_put (ty := .int) (v := .int z2) (fs' := [.ref (ad 8), .ref (ad 19), .ref (ad 20), .ref (ad 21), .ref (ad 22), .ref (ad 23), .int x9, .int v7_6, .int v8_6, .int v9_6, .int v10_6, .int v11_6, .int z2, .int v13_6]) hx hb hts (fun w h => mT (inX7 w h)) tyX7 tyX7_ok nmX7 hown hG.1 hP hD hS (hst.1 18 (by decide)) hf11 rfl 12 (by decide) (hts _ (mT wg_444)) (fun _ h => h) rfl (by decide +kernel) (rfl) (rfl) (Nat.le_of_ble_eq_true rfl) rfl dX7_judge_41 (fun H locs f13 hf14 ho15 hP hD hS => ?_)
        have hfr : (∀ b, b ≠ (ad 18) → f13 b = f b) := fun b z0_ => (ho15 b z0_).trans (hfr b z0_)
        have hT := TI.updA hT hst (k := 18) (by decide) hf14 ho15 ⟨x9, v7_6, v8_6, v9_6, v10_6, v11_6, z2, v13_6, rfl, hv8_6, hv9_6, hv10_6, hv11_6, hv13_6⟩
        exact ret_v hx hb hr hlocks hP hD hS (Nat.le_of_ble_eq_true rfl) (Nat.le_of_ble_eq_true rfl) (⟨rfl, hT, hfr⟩) dX7_judge_44
      refine lv_icmp_eq (tgt := 39) hx hb dX7_judge_28 (by decide) (fun c16 => ?_) (fun c16 => ?_)
      ·
        have cc17 : v12_6.toInt = ((-1) : Int32).toInt := congrArg Int32.toInt c16
        have hb18 : In v12_6 (-1) (-1) := In.eq1 (In.full v12_6) (⟨by decide, by decide⟩ : In (-1) (-1) (-1)) cc17 (by omega) (by omega)
        exact hJ39 _ _ _ hP hD hS (lv_sub hl [0, 1, 2] rfl)
      ·
        refine lv_iload_n hx hb dX7_judge_31 rfl (lv_at hl 2 rfl) ?_
        refine lv_aload_n hx hb dX7_judge_32 rfl (lv_at hl 0 rfl) ?_
        refine pl_get (v := .int v12_6) hx hb hts (fun w h => mT (inX7 w h)) hown hG.1 hP (hst.1 18 (by decide)) hf11 rfl 12 (by decide) (hts _ (mT wg_444)) (fun _ h => h) rfl dX7_judge_33 ?_
        refine lv_icmp_ge (tgt := 44) hx hb dX7_judge_36 (by decide) (fun c19 => ?_) (fun c19 => ?_)
        ·
          exact ret_v hx hb hr hlocks hP hD hS (Nat.le_of_ble_eq_true rfl) (Nat.le_of_ble_eq_true rfl) (⟨rfl, hT, hfr⟩) dX7_judge_44
        ·
          have cc20 : z2.toInt < v12_6.toInt := i32_nle c19
          have hb21 : In z2 (-2147483648) 2147483646 := In.lt1 (In.full z2) (In.full v12_6) cc20 (by omega) (by omega)
          have hb22 : In v12_6 (-2147483647) 2147483647 := In.lt2 (In.full z2) (In.full v12_6) cc20 (by omega) (by omega)
          exact hJ39 _ _ _ hP hD hS (lv_sub hl [0, 1, 2] rfl)
    ·
      have cc23 : z1.toInt = v9_6.toInt := congrArg Int32.toInt c8
      have hb24 : In v9_6 1 511 := In.eq2 hb5 hv9_6 cc23 (by omega) (by omega)
      exact ret_v hx hb hr hlocks hP hD hS (Nat.le_of_ble_eq_true rfl) (Nat.le_of_ble_eq_true rfl) (⟨rfl, hT, hfr⟩) dX7_judge_12
