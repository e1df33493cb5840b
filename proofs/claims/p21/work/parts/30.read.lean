abbrev rm_X5_readLine : Room := { frames := 6, cells := 0, slots := 0, locals := 127 }
abbrev po_X5_readLine (g : GG) (ad : Nat → Nat) (th : Nat → Int) (L : List Nat) (f : HP) (z2 : Int32) : Int32 → (List Nat × HP) → Prop := fun r u => u.1 = L ∧ TI g ad th u.2 ∧ (∀ b, b ≠ (ad 1) → b ≠ (ad 10) → u.2 b = f b) ∧ In r 0 1
set_option maxHeartbeats 4000000 in
set_option maxRecDepth 100000 in
theorem s_X5_readLine (l : Launch) (g : GG) (ad : Nat → Nat) (th : Nat → Int) (L : List Nat) (f : HP) (sz : Nat) (z2 : Int32) (hst : ST ad L) (hT : TI g ad th f) (hz2 : In z2 0 95) : MtI l g yX5_readLine cX5_readLine 5 (some .boolean) rm_X5_readLine [.ref (ad 9), .ref (ad 1), .int z2] L f sz (po_X5_readLine g ad th L f z2) := by
  refine MtI.of (by decide +kernel) (Nat.le_of_ble_eq_true rfl) ?_
  intro p e s m below meth c A hEn hP hD hS ls hl
  obtain ⟨hx, hb, hr, hml, hown, hlocks, hts, hG, hA, hE, hnm⟩ := hEn
  have hown : s.vm.findClass "RulerWord$Plan" = some m.cls := hown
  have hl : lv_has ls 5 [(0, .ref (ad 9)), (1, .ref (ad 1)), (2, .int z2)] := hl
  have hfr : (∀ b, b ≠ (ad 1) → b ≠ (ad 10) → f b = f b) := fun b z0_ z1_ => rfl
  refine lv_iconst (v := 0) hx hb dX5_readLine_0 (by decide) ?_
  refine lv_istore_n (lv' := [(3, .int 0), (0, .ref (ad 9)), (1, .ref (ad 1)), (2, .int z2)]) hx hb dX5_readLine_1 rfl hl (by decide) rfl (fun ls hl => ?_)
  have hJ2 : ∀ (k2 : Nat) (y2_l3 : Int32) (f_2 : HP) (H : Heap) (locs : List Loc) (ls : Array Slot), In y2_l3 0 4 → va_P g.1 vwCl (va_pl L f_2) H → va_D A (va_pl L f_2) → va_S A s.heap H locs → TI g ad th f_2 → (∀ b, b ≠ (ad 1) → b ≠ (ad 10) → f_2 b = f b) → lv_has ls 5 [(0, .ref (ad 9)), (1, .ref (ad 1)), (2, .int z2), (3, .int y2_l3)] → 4 - y2_l3.toInt < ((k2 : Nat) : Int) → W p l e rm_X5_readLine s m [.ref (ad 9), .ref (ad 1), .int z2].toArray below meth c H locs 0 0 (MQ below (va_Qi (po_X5_readLine g ad th L f z2) (PstB g A) A) [.ref (ad 9), .ref (ad 1), .int z2].toArray s rm_X5_readLine.cells rm_X5_readLine.slots A) (F0 m 2 ls []) := by
    intro k2
    induction k2 with
    | zero =>
      intro y2_l3 f_2 H locs ls hy2_l3 hP hD hS hT hfr hl hmz2
      exact ms0 hy2_l3 hmz2
    | succ k2 ih2 =>
      intro y2_l3 f_2 H locs ls hy2_l3 hP hD hS hT hfr hl hmz2
      refine lv_iload_n hx hb dX5_readLine_2 rfl (lv_at hl 3 rfl) ?_
      refine lv_iconst (v := 4) hx hb dX5_readLine_3 (by decide) ?_
      refine lv_icmp_ge (tgt := 70) hx hb dX5_readLine_4 (by decide) (fun c1 => ?_) (fun c1 => ?_)
      ·
        have cc2 : (4 : Int32).toInt ≤ y2_l3.toInt := i32_le.mp c1
        have hb3 : In y2_l3 4 4 := In.ge1 hy2_l3 (⟨by decide, by decide⟩ : In 4 4 4) cc2 (by omega) (by omega)
        refine lv_aload_n hx hb dX5_readLine_70 rfl (lv_at hl 0 rfl) ?_
        obtain ⟨v1_4, hf5, hv1_4⟩ := hT.1 9 (by decide)
        refine pl_get (v := .ref (ad 10)) hx hb hts (fun w h => mT (inX5 w h)) hown hG.1 hP (hst.1 9 (by decide)) hf5 rfl 0 (by decide) (hts _ (mT wg_269)) (fun _ h => h) rfl dX5_readLine_71 ?_
        refine lv_iload_n hx hb dX5_readLine_74 rfl (lv_at hl 2 rfl) ?_
        refine lv_iconst (v := 4) hx hb dX5_readLine_75 (by decide) ?_
        refine lv_iadd hx hb dX5_readLine_76 ?_
        refine lv_topi (fun x6 ex6 => ?_)
        have hb7 : In x6 4 99 := ex6 ▸ In.add hz2 (⟨by decide, by decide⟩ : In 4 4 4) (by decide) (by decide) (by decide) (by decide)
        have et8 : x6.toInt = z2.toInt + 4 := In.adde ex6 hz2 (k := 4) (by decide) (by decide) (by decide)
        refine lv_aload_n hx hb dX5_readLine_77 rfl (lv_at hl 1 rfl) ?_
        refine call_i (run_S (rm := rm_X5_actOf) hx hb hml hown hts (s_X5_actOf l g ad th _ _ _  hst hT ) cS_X5_actOf wg_698 ⟨Nat.le_of_ble_eq_true rfl, Nat.le_of_ble_eq_true rfl⟩ hG hE hA hP hD hS rfl hl.1 (As := [.ref (ad 1)]) (rest := [.int x6, .ref (ad 10)]) rfl (Nat.le_of_ble_eq_true rfl) dX5_readLine_78 ⟨Nat.le_of_ble_eq_true rfl, Nat.le_of_ble_eq_true rfl⟩) hA hD hS (fun r9 L10 f11 H locs hp12 hP hD hS => ?_)
        obtain ⟨eL13L, eL13T, eL13R⟩ := hp12
        have eL13L : L10 = L := eL13L
        have eL13T : f11 = f_2 := eL13T
        rw [eL13L, eL13T] at hP hD
        have eL13R : In r9 (-1) 6 := eL13R
        obtain ⟨rw14, hf15⟩ := hT.1 10 (by decide)
        refine pl_iastE hx hb hG.1 hP hD hS (hst.1 10 (by decide)) 0 hf15 rfl (In.inb hb7 (by decide) (by decide)) dX5_readLine_81 (fun H locs f16 r19 er19 hf17 ho18 hP hD hS => ?_)
        have hf20 := (ho18 (ad 9) (hst.ne (by decide) (by decide) (by decide))).trans hf5
        have hfr : (∀ b, b ≠ (ad 1) → b ≠ (ad 10) → f16 b = f b) := fun b z0_ z1_ => (ho18 b z1_).trans (hfr b z0_ z1_)
        refine lv_aload_n hx hb dX5_readLine_82 rfl (lv_at hl 0 rfl) ?_
        refine pl_get (v := .ref (ad 10)) hx hb hts (fun w h => mT (inX5 w h)) hown hG.1 hP (hst.1 9 (by decide)) hf20 rfl 0 (by decide) (hts _ (mT wg_269)) (fun _ h => h) rfl dX5_readLine_83 ?_
        refine lv_iload_n hx hb dX5_readLine_86 rfl (lv_at hl 2 rfl) ?_
        refine lv_iconst (v := 4) hx hb dX5_readLine_87 (by decide) ?_
        refine lv_iadd hx hb dX5_readLine_88 ?_
        refine lv_topi (fun x21 ex21 => ?_)
        obtain rfl : x6 = x21 := ex6.trans ex21.symm
        have hin22 : vp_in x6 100 := In.inb hb7 (by decide) (by decide)
        refine pl_iald hx hb hG.1 hP (hst.1 10 (by decide)) 0 hf17 rfl hin22 dX5_readLine_89 ?_
        refine lv_topi (fun x23 ex23 => ?_)
        refine lv_iconst (v := (-1)) hx hb dX5_readLine_90 (by decide) ?_
        have hT := TI.updA hT hst (k := 10) (by decide) hf17 ho18 ⟨r19, rfl⟩
        refine lv_icmp_eq (tgt := 98) hx hb dX5_readLine_91 (by decide) (fun c24 => ?_) (fun c24 => ?_)
        ·
          have cc25 : x23.toInt = ((-1) : Int32).toInt := congrArg Int32.toInt c24
          have hb26 : In x23 (-1) (-1) := In.eq1 (In.full x23) (⟨by decide, by decide⟩ : In (-1) (-1) (-1)) cc25 (by omega) (by omega)
          refine lv_iconst (v := 0) hx hb dX5_readLine_98 (by decide) ?_
          exact ret_i (ty := .boolean) hx hb hr hlocks (rfl) hP hD hS (Nat.le_of_ble_eq_true rfl) (Nat.le_of_ble_eq_true rfl) (⟨rfl, hT, hfr, (⟨by decide, by decide⟩ : In 0 0 1)⟩) dX5_readLine_99
        ·
          refine lv_iconst (v := 1) hx hb dX5_readLine_94 (by decide) ?_
          refine lv_goto (tgt := 99) hx hb dX5_readLine_95 (by decide) ?_
          exact ret_i (ty := .boolean) hx hb hr hlocks (rfl) hP hD hS (Nat.le_of_ble_eq_true rfl) (Nat.le_of_ble_eq_true rfl) (⟨rfl, hT, hfr, (⟨by decide, by decide⟩ : In 1 0 1)⟩) dX5_readLine_99
      ·
        have cc27 : y2_l3.toInt < (4 : Int32).toInt := i32_nle c1
        have hb28 : In y2_l3 0 3 := In.lt1 hy2_l3 (⟨by decide, by decide⟩ : In 4 4 4) cc27 (by omega) (by omega)
        refine lv_aload_n hx hb dX5_readLine_7 rfl (lv_at hl 0 rfl) ?_
        obtain ⟨v1_29, hf30, hv1_29⟩ := hT.1 9 (by decide)
        refine pl_get (v := .ref (ad 10)) hx hb hts (fun w h => mT (inX5 w h)) hown hG.1 hP (hst.1 9 (by decide)) hf30 rfl 0 (by decide) (hts _ (mT wg_269)) (fun _ h => h) rfl dX5_readLine_8 ?_
        refine lv_iload_n hx hb dX5_readLine_11 rfl (lv_at hl 2 rfl) ?_
        refine lv_iload_n hx hb dX5_readLine_12 rfl (lv_at hl 3 rfl) ?_
        refine lv_iadd hx hb dX5_readLine_13 ?_
        refine lv_topi (fun x31 ex31 => ?_)
        have hb32 : In x31 0 98 := ex31 ▸ In.add hz2 hb28 (by decide) (by decide) (by decide) (by decide)
        have et33 : x31.toInt = z2.toInt + y2_l3.toInt := In.add2e ex31 hz2 hb28 (by decide) (by decide)
        refine lv_iconst (v := (-1)) hx hb dX5_readLine_14 (by decide) ?_
        obtain ⟨rw34, hf35⟩ := hT.1 10 (by decide)
        refine pl_iastE hx hb hG.1 hP hD hS (hst.1 10 (by decide)) 0 hf35 rfl (In.inb hb32 (by decide) (by decide)) dX5_readLine_15 (fun H locs f36 r39 er39 hf37 ho38 hP hD hS => ?_)
        have hf40 := (ho38 (ad 9) (hst.ne (by decide) (by decide) (by decide))).trans hf30
        have hfr : (∀ b, b ≠ (ad 1) → b ≠ (ad 10) → f36 b = f b) := fun b z0_ z1_ => (ho38 b z1_).trans (hfr b z0_ z1_)
        refine lv_aload_n hx hb dX5_readLine_16 rfl (lv_at hl 1 rfl) ?_
        refine lv_iload_n hx hb dX5_readLine_17 rfl (lv_at hl 3 rfl) ?_
        have hT := TI.updA hT hst (k := 10) (by decide) hf37 ho38 ⟨r39, rfl⟩
        refine call_r (run_S (rm := rm_X5_wordOf) hx hb hml hown hts (s_X5_wordOf l g ad th _ _ _ y2_l3 hst hT ) cS_X5_wordOf wg_685 ⟨Nat.le_of_ble_eq_true rfl, Nat.le_of_ble_eq_true rfl⟩ hG hE hA hP hD hS rfl hl.1 (As := [.int y2_l3]) (rest := [.ref (ad 1)]) rfl (Nat.le_of_ble_eq_true rfl) dX5_readLine_18 ⟨Nat.le_of_ble_eq_true rfl, Nat.le_of_ble_eq_true rfl⟩) hA hD hS (fun r41 L42 f43 H locs hp44 hP hD hS => ?_)
        obtain ⟨eL45L, eL45T, eL45S⟩ := hp44
        have eL45L : L42 = L := eL45L
        have eL45T : f43 = f36 := eL45T
        rw [eL45L, eL45T] at hP hD
        obtain ⟨i46, hi_i46, ei46⟩ := eL45S
        subst ei46
        obtain ⟨v1_47, v2_47, v3_47, v4_47, hf48, hv1_47, hv2_47, hv3_47, hv4_47⟩ := hT.1 1 (by decide)
        refine call_i (run_VN (rm := rm_X8_isWord) hx hb hml hown hts (s_X8_isWord l g ad th _ _ _ i46 hst hT hi_i46) cV_X8_isWord wn_692 ⟨Nat.le_of_ble_eq_true rfl, Nat.le_of_ble_eq_true rfl⟩ hG hE hA hP hD hS (hst.1 1 (by decide)) hf48 rfl rfl hl.1 (As := [.ref (g.2.2.1 i46)]) (rest := []) rfl (Nat.le_of_ble_eq_true rfl) dX5_readLine_21 ⟨Nat.le_of_ble_eq_true rfl, Nat.le_of_ble_eq_true rfl⟩) hA hD hS (fun r49 L50 f51 H locs hp52 hP hD hS => ?_)
        obtain ⟨eL53L, eL53T, eL53R⟩ := hp52
        have eL53L : L50 = L := eL53L
        have eL53T : f51 = f36 := eL53T
        rw [eL53L, eL53T] at hP hD
        have eL53R : In r49 0 1 := eL53R
        have hJ64 : ∀ (f_64 : HP) (H : Heap) (locs : List Loc) (ls : Array Slot), va_P g.1 vwCl (va_pl L f_64) H → va_D A (va_pl L f_64) → va_S A s.heap H locs → TI g ad th f_64 → (∀ b, b ≠ (ad 1) → b ≠ (ad 10) → f_64 b = f b) → f_64 (ad 9) = .inr (5, [.ref (ad 10), .int v1_29]) → lv_has ls 5 [(0, .ref (ad 9)), (1, .ref (ad 1)), (2, .int z2), (3, .int y2_l3)] → W p l e rm_X5_readLine s m [.ref (ad 9), .ref (ad 1), .int z2].toArray below meth c H locs 0 0 (MQ below (va_Qi (po_X5_readLine g ad th L f z2) (PstB g A) A) [.ref (ad 9), .ref (ad 1), .int z2].toArray s rm_X5_readLine.cells rm_X5_readLine.slots A) (F0 m 64 ls []) := by
          intro f_64 H locs ls hP hD hS hT hfr hf54 hl
          obtain ⟨x55, ex55⟩ : ∃ y : Int32, y = y2_l3 + 1 := ⟨_, rfl⟩
          have hb56 : In x55 1 4 := ex55 ▸ In.add hb28 (⟨by decide, by decide⟩ : In 1 1 1) (by decide) (by decide) (by decide) (by decide)
          have et57 : x55.toInt = y2_l3.toInt + 1 := In.adde ex55 hb28 (k := 1) (by decide) (by decide) (by decide)
          refine lv_iinc (v := x55) (lv' := [(3, .int x55), (0, .ref (ad 9)), (1, .ref (ad 1)), (2, .int z2)]) hx hb dX5_readLine_64 hl (k := 3) rfl (by rw [ex55]; rfl) (by decide) rfl (fun ls hl => ?_)
          refine lv_goto (tgt := 2) hx hb dX5_readLine_67 (by decide) ?_
          exact ih2 x55 _ _ _ _ (In.mono hb56 (by decide) (by decide)) hP hD hS hT hfr (lv_sub hl [1, 2, 3, 0] rfl) (msu et57 (by decide) hmz2)
        refine lv_if_eq (tgt := 64) hx hb dX5_readLine_24 (by decide) (fun c58 => ?_) (fun c58 => ?_)
        ·
          have cc59 : r49.toInt = (0 : Int32).toInt := congrArg Int32.toInt c58
          have hb60 : In r49 0 0 := In.eq1 eL53R (⟨by decide, by decide⟩ : In 0 0 0) cc59 (by omega) (by omega)
          exact hJ64 _ _ _ _ hP hD hS hT hfr hf40 (lv_sub hl [0, 1, 2, 3] rfl)
        ·
          have cc61 : r49.toInt ≠ (0 : Int32).toInt := i32_ne c58
          have hb62 : In r49 1 1 := In.ne1 eL53R (⟨by decide, by decide⟩ : In 0 0 0) cc61 (by omega) (by omega)
          refine lv_aload_n hx hb dX5_readLine_27 rfl (lv_at hl 1 rfl) ?_
          refine call_v (run_VN (rm := rm_X8_nextPart) hx hb hml hown hts (s_X8_nextPart l g ad th _ _ _  hst hT ) cV_X8_nextPart wn_693 ⟨Nat.le_of_ble_eq_true rfl, Nat.le_of_ble_eq_true rfl⟩ hG hE hA hP hD hS (hst.1 1 (by decide)) hf48 rfl rfl hl.1 (As := []) (rest := []) rfl (Nat.le_of_ble_eq_true rfl) dX5_readLine_28 ⟨Nat.le_of_ble_eq_true rfl, Nat.le_of_ble_eq_true rfl⟩) hA hD hS (fun L64 f65 H locs hp66 hP hD hS => ?_)
          obtain ⟨eL67L, eL67T, eL67F⟩ := hp66
          have eL67L : L64 = L := eL67L
          rw [eL67L] at hP hD
          have hT : TI g ad th f65 := eL67T
          have eL67F : ∀ b, b ≠ (ad 1) → f65 b = f36 b := eL67F
          have hf68 := (eL67F (ad 9) (hst.ne (by decide) (by decide) (by decide))).trans hf40
          have hf69 := (eL67F (ad 10) (hst.ne (by decide) (by decide) (by decide))).trans hf37
          have hfr : (∀ b, b ≠ (ad 1) → b ≠ (ad 10) → f65 b = f b) := fun b z0_ z1_ => (eL67F b z0_).trans (hfr b z0_ z1_)
          refine lv_aload_n hx hb dX5_readLine_31 rfl (lv_at hl 1 rfl) ?_
          refine lv_iconst (v := 0) hx hb dX5_readLine_32 (by decide) ?_
          refine lv_iload_n hx hb dX5_readLine_33 rfl (lv_at hl 3 rfl) ?_
          refine call_i (run_S (rm := rm_X5_greatestOf) hx hb hml hown hts (s_X5_greatestOf l g ad th _ _ _ y2_l3 hst hT ) cS_X5_greatestOf wg_694 ⟨Nat.le_of_ble_eq_true rfl, Nat.le_of_ble_eq_true rfl⟩ hG hE hA hP hD hS rfl hl.1 (As := [.int y2_l3]) (rest := [.int 0, .ref (ad 1)]) rfl (Nat.le_of_ble_eq_true rfl) dX5_readLine_34 ⟨Nat.le_of_ble_eq_true rfl, Nat.le_of_ble_eq_true rfl⟩) hA hD hS (fun r70 L71 f72 H locs hp73 hP hD hS => ?_)
          obtain ⟨eL74L, eL74T, eL74R⟩ := hp73
          have eL74L : L71 = L := eL74L
          have eL74T : f72 = f65 := eL74T
          rw [eL74L, eL74T] at hP hD
          have eL74R : In r70 2 8 := eL74R
          obtain ⟨v1_75, v2_75, v3_75, v4_75, hf76, hv1_75, hv2_75, hv3_75, hv4_75⟩ := hT.1 1 (by decide)
          refine call_i (run_VN (rm := rm_X8_number) hx hb hml hown hts (s_X8_number l g ad th _ _ _ 0 r70 hst hT ) cV_X8_number wn_697 ⟨Nat.le_of_ble_eq_true rfl, Nat.le_of_ble_eq_true rfl⟩ hG hE hA hP hD hS (hst.1 1 (by decide)) hf76 rfl rfl hl.1 (As := [.int 0, .int r70]) (rest := []) rfl (Nat.le_of_ble_eq_true rfl) dX5_readLine_37 ⟨Nat.le_of_ble_eq_true rfl, Nat.le_of_ble_eq_true rfl⟩) hA hD hS (fun r77 L78 f79 H locs hp80 hP hD hS => ?_)
          obtain ⟨eL81L, eL81T⟩ := hp80
          have eL81L : L78 = L := eL81L
          have eL81T : f79 = f65 := eL81T
          rw [eL81L, eL81T] at hP hD
          refine lv_istore (lv' := [(4, .int r77), (0, .ref (ad 9)), (1, .ref (ad 1)), (2, .int z2), (3, .int y2_l3)]) hx hb dX5_readLine_40 hl (by decide) rfl (fun ls hl => ?_)
          refine lv_iload hx hb dX5_readLine_42 (lv_at hl 0 rfl) ?_
          refine lv_iconst (v := (-1)) hx hb dX5_readLine_44 (by decide) ?_
          refine lv_icmp_ne (tgt := 50) hx hb dX5_readLine_45 (by decide) (fun c82 => ?_) (fun c82 => ?_)
          ·
            refine lv_aload_n hx hb dX5_readLine_50 rfl (lv_at hl 1 rfl) ?_
            refine pl_get (v := .ref (ad 10)) hx hb hts (fun w h => mT (inX5 w h)) hown hG.1 hP (hst.1 9 (by decide)) hf68 rfl 0 (by decide) (hts _ (mT wg_269)) (fun _ h => h) rfl dX5_readLine_51 ?_
            refine lv_iload_n hx hb dX5_readLine_54 rfl (lv_at hl 3 rfl) ?_
            refine lv_iload_n hx hb dX5_readLine_55 rfl (lv_at hl 4 rfl) ?_
            refine lv_iadd hx hb dX5_readLine_56 ?_
            refine lv_topi (fun x83 ex83 => ?_)
            obtain rfl : x31 = x83 := ex31.trans ex83.symm
            refine lv_iload hx hb dX5_readLine_57 (lv_at hl 0 rfl) ?_
            refine pl_iastE hx hb hG.1 hP hD hS (hst.1 10 (by decide)) 0 hf69 rfl (In.inb hb32 (by decide) (by decide)) dX5_readLine_59 (fun H locs f84 r87 er87 hf85 ho86 hP hD hS => ?_)
            have hf88 := (ho86 (ad 9) (hst.ne (by decide) (by decide) (by decide))).trans hf68
            have hf89 := (ho86 (ad 1) (hst.ne (by decide) (by decide) (by decide))).trans hf76
            have hfr : (∀ b, b ≠ (ad 1) → b ≠ (ad 10) → f84 b = f b) := fun b z0_ z1_ => (ho86 b z1_).trans (hfr b z0_ z1_)
            refine lv_aload_n hx hb dX5_readLine_60 rfl (lv_at hl 2 rfl) ?_
            have hT := TI.updA hT hst (k := 10) (by decide) hf85 ho86 ⟨r87, rfl⟩
            refine call_v (run_VN (rm := rm_X8_nextPart) hx hb hml hown hts (s_X8_nextPart l g ad th _ _ _  hst hT ) cV_X8_nextPart wn_693 ⟨Nat.le_of_ble_eq_true rfl, Nat.le_of_ble_eq_true rfl⟩ hG hE hA hP hD hS (hst.1 1 (by decide)) hf89 rfl rfl hl.1 (As := []) (rest := []) rfl (Nat.le_of_ble_eq_true rfl) dX5_readLine_61 ⟨Nat.le_of_ble_eq_true rfl, Nat.le_of_ble_eq_true rfl⟩) hA hD hS (fun L91 f92 H locs hp93 hP hD hS => ?_)
            obtain ⟨eL94L, eL94T, eL94F⟩ := hp93
            have eL94L : L91 = L := eL94L
            rw [eL94L] at hP hD
            have hT : TI g ad th f92 := eL94T
            have eL94F : ∀ b, b ≠ (ad 1) → f92 b = f84 b := eL94F
            have hf95 := (eL94F (ad 9) (hst.ne (by decide) (by decide) (by decide))).trans hf88
            have hf96 := (eL94F (ad 10) (hst.ne (by decide) (by decide) (by decide))).trans hf85
            have hfr : (∀ b, b ≠ (ad 1) → b ≠ (ad 10) → f92 b = f b) := fun b z0_ z1_ => (eL94F b z0_).trans (hfr b z0_ z1_)
            exact hJ64 _ _ _ _ hP hD hS hT hfr hf95 (lv_sub hl [1, 2, 3, 4] rfl)
          ·
            have cc97 : r77.toInt = ((-1) : Int32).toInt := congrArg Int32.toInt c82
            have hb98 : In r77 (-1) (-1) := In.eq1 (In.full r77) (⟨by decide, by decide⟩ : In (-1) (-1) (-1)) cc97 (by omega) (by omega)
            refine lv_iconst (v := 0) hx hb dX5_readLine_48 (by decide) ?_
            exact ret_i (ty := .boolean) hx hb hr hlocks (rfl) hP hD hS (Nat.le_of_ble_eq_true rfl) (Nat.le_of_ble_eq_true rfl) (⟨rfl, hT, hfr, (⟨by decide, by decide⟩ : In 0 0 1)⟩) dX5_readLine_49
  exact hJ2 ((4 - (0 : Int32).toInt).toNat + 1) 0 _ _ _ _ (⟨by decide, by decide⟩ : In 0 0 4) hP hD hS hT hfr (lv_sub hl [1, 2, 3, 0] rfl) (msI _)

abbrev rm_X5_readFrom : Room := { frames := 7, cells := 0, slots := 0, locals := 151 }
abbrev po_X5_readFrom (g : GG) (ad : Nat → Nat) (th : Nat → Int) (L : List Nat) (f : HP)  : Int32 → (List Nat × HP) → Prop := fun r u => u.1 = L ∧ TI g ad th u.2 ∧ (∀ b, b ≠ (ad 1) → b ≠ (ad 10) → b ≠ (ad 9) → u.2 b = f b)
set_option maxHeartbeats 4000000 in
set_option maxRecDepth 100000 in
theorem s_X5_readFrom (l : Launch) (g : GG) (ad : Nat → Nat) (th : Nat → Int) (L : List Nat) (f : HP) (sz : Nat)  (hst : ST ad L) (hT : TI g ad th f)  : MtI l g yX5_readFrom cX5_readFrom 3 (some .int) rm_X5_readFrom [.ref (ad 9), .ref (ad 1)] L f sz (po_X5_readFrom g ad th L f ) := by
  refine MtI.of (by decide +kernel) (Nat.le_of_ble_eq_true rfl) ?_
  intro p e s m below meth c A hEn hP hD hS ls hl
  obtain ⟨hx, hb, hr, hml, hown, hlocks, hts, hG, hA, hE, hnm⟩ := hEn
  have hown : s.vm.findClass "RulerWord$Plan" = some m.cls := hown
  have hl : lv_has ls 3 [(0, .ref (ad 9)), (1, .ref (ad 1))] := hl
  have hfr : (∀ b, b ≠ (ad 1) → b ≠ (ad 10) → b ≠ (ad 9) → f b = f b) := fun b z0_ z1_ z2_ => rfl
  refine lv_aload_n hx hb dX5_readFrom_0 rfl (lv_at hl 0 rfl) ?_
  refine lv_iconst (v := 0) hx hb dX5_readFrom_1 (by decide) ?_
  obtain ⟨v1_1, hf2, hv1_1⟩ := hT.1 9 (by decide)
  refine pl_put (ty := .int) (v := .int 0) (fs' := [.ref (ad 10), .int 0]) hx hb hts (fun w h => mT (inX5 w h)) tyX5 tyX5_ok nmX5 hown hG.1 hP hD hS (hst.1 9 (by decide)) hf2 rfl 1 (by decide) (hts _ (mT wg_270)) (fun _ h => h) rfl (by decide +kernel) (rfl) (rfl) (Nat.le_of_ble_eq_true rfl) rfl dX5_readFrom_2 (fun H locs f3 hf4 ho5 hP hD hS => ?_)
  have hfr : (∀ b, b ≠ (ad 1) → b ≠ (ad 10) → b ≠ (ad 9) → f3 b = f b) := fun b z0_ z1_ z2_ => (ho5 b z2_).trans (hfr b z0_ z1_ z2_)
  refine lv_aload_n hx hb dX5_readFrom_5 rfl (lv_at hl 1 rfl) ?_
  have hT := TI.updA hT hst (k := 9) (by decide) hf4 ho5 ⟨0, rfl, (⟨by decide, by decide⟩ : In 0 0 20)⟩
  obtain ⟨v1_6, v2_6, v3_6, v4_6, hf7, hv1_6, hv2_6, hv3_6, hv4_6⟩ := hT.1 1 (by decide)
  refine call_v (run_VN (rm := rm_X8_firstPart) hx hb hml hown hts (s_X8_firstPart l g ad th _ _ _  hst hT ) cV_X8_firstPart wn_680 ⟨Nat.le_of_ble_eq_true rfl, Nat.le_of_ble_eq_true rfl⟩ hG hE hA hP hD hS (hst.1 1 (by decide)) hf7 rfl rfl hl.1 (As := []) (rest := []) rfl (Nat.le_of_ble_eq_true rfl) dX5_readFrom_6 ⟨Nat.le_of_ble_eq_true rfl, Nat.le_of_ble_eq_true rfl⟩) hA hD hS (fun L9 f10 H locs hp11 hP hD hS => ?_)
  obtain ⟨eL12L, eL12T, eL12F⟩ := hp11
  have eL12L : L9 = L := eL12L
  rw [eL12L] at hP hD
  have hT : TI g ad th f10 := eL12T
  have eL12F : ∀ b, b ≠ (ad 1) → f10 b = f3 b := eL12F
  have hf13 := (eL12F (ad 9) (hst.ne (by decide) (by decide) (by decide))).trans hf4
  have hfr : (∀ b, b ≠ (ad 1) → b ≠ (ad 10) → b ≠ (ad 9) → f10 b = f b) := fun b z0_ z1_ z2_ => (eL12F b z0_).trans (hfr b z0_ z1_ z2_)
  refine lv_iconst (v := 0) hx hb dX5_readFrom_9 (by decide) ?_
  refine lv_istore_n (lv' := [(2, .int 0), (0, .ref (ad 9)), (1, .ref (ad 1))]) hx hb dX5_readFrom_10 rfl hl (by decide) rfl (fun ls hl => ?_)
  have hJ11 : ∀ (k11 : Nat) (y11_l2 : Int32) (f_11 : HP) (H : Heap) (locs : List Loc) (ls : Array Slot), In y11_l2 0 20 → va_P g.1 vwCl (va_pl L f_11) H → va_D A (va_pl L f_11) → va_S A s.heap H locs → TI g ad th f_11 → (∀ b, b ≠ (ad 1) → b ≠ (ad 10) → b ≠ (ad 9) → f_11 b = f b) → lv_has ls 3 [(0, .ref (ad 9)), (1, .ref (ad 1)), (2, .int y11_l2)] → 20 - y11_l2.toInt < ((k11 : Nat) : Int) → W p l e rm_X5_readFrom s m [.ref (ad 9), .ref (ad 1)].toArray below meth c H locs 0 0 (MQ below (va_Qi (po_X5_readFrom g ad th L f ) (PstB g A) A) [.ref (ad 9), .ref (ad 1)].toArray s rm_X5_readFrom.cells rm_X5_readFrom.slots A) (F0 m 11 ls []) := by
    intro k11
    induction k11 with
    | zero =>
      intro y11_l2 f_11 H locs ls hy11_l2 hP hD hS hT hfr hl hmz11
      exact ms0 hy11_l2 hmz11
    | succ k11 ih11 =>
      intro y11_l2 f_11 H locs ls hy11_l2 hP hD hS hT hfr hl hmz11
      refine lv_iload_n hx hb dX5_readFrom_11 rfl (lv_at hl 2 rfl) ?_
      refine lv_bipush (v := 20) hx hb dX5_readFrom_12 (by decide) ?_
      refine lv_icmp_ge (tgt := 76) hx hb dX5_readFrom_14 (by decide) (fun c14 => ?_) (fun c14 => ?_)
      ·
        have cc15 : (20 : Int32).toInt ≤ y11_l2.toInt := i32_le.mp c14
        have hb16 : In y11_l2 20 20 := In.ge1 hy11_l2 (⟨by decide, by decide⟩ : In 20 20 20) cc15 (by omega) (by omega)
        refine lv_aload_n hx hb dX5_readFrom_76 rfl (lv_at hl 1 rfl) ?_
        obtain ⟨v1_17, v2_17, v3_17, v4_17, hf18, hv1_17, hv2_17, hv3_17, hv4_17⟩ := hT.1 1 (by decide)
        refine pl_getN (v := .int v2_17) hx hb hts (fun w h => mT (inX8 w h)) hown hG.1 hP (hst.1 1 (by decide)) hf18 rfl 2 (by decide) (hG.2.1 _ wn_200) (fun _ h => h) rfl dX5_readFrom_77 ?_
        exact ret_i (ty := .int) hx hb hr hlocks (rfl) hP hD hS (Nat.le_of_ble_eq_true rfl) (Nat.le_of_ble_eq_true rfl) (⟨rfl, hT, hfr⟩) dX5_readFrom_80
      ·
        have cc19 : y11_l2.toInt < (20 : Int32).toInt := i32_nle c14
        have hb20 : In y11_l2 0 19 := In.lt1 hy11_l2 (⟨by decide, by decide⟩ : In 20 20 20) cc19 (by omega) (by omega)
        refine lv_aload_n hx hb dX5_readFrom_17 rfl (lv_at hl 0 rfl) ?_
        refine lv_aload_n hx hb dX5_readFrom_18 rfl (lv_at hl 1 rfl) ?_
        refine lv_iload_n hx hb dX5_readFrom_19 rfl (lv_at hl 2 rfl) ?_
        refine lv_iconst (v := 5) hx hb dX5_readFrom_20 (by decide) ?_
        refine lv_imul hx hb dX5_readFrom_21 ?_
        refine lv_topi (fun x21 ex21 => ?_)
        have hb22 : In x21 0 95 := ex21 ▸ In.mul hb20 (⟨by decide, by decide⟩ : In 5 5 5) (by decide) (by decide) (by decide) (by decide) (by decide)
        obtain ⟨v1_23, hf24, hv1_23⟩ := hT.1 9 (by decide)
        refine call_i (run_V (rm := rm_X5_readLine) hx hb hml hown hts (s_X5_readLine l g ad th _ _ _ x21 hst hT hb22) cV_X5_readLine wg_681 ⟨Nat.le_of_ble_eq_true rfl, Nat.le_of_ble_eq_true rfl⟩ hG hE hA hP hD hS (hst.1 9 (by decide)) hf24 rfl rfl hl.1 (As := [.ref (ad 1), .int x21]) (rest := []) rfl (Nat.le_of_ble_eq_true rfl) dX5_readFrom_22 ⟨Nat.le_of_ble_eq_true rfl, Nat.le_of_ble_eq_true rfl⟩) hA hD hS (fun r25 L26 f27 H locs hp28 hP hD hS => ?_)
        obtain ⟨eL29L, eL29T, eL29F, eL29R⟩ := hp28
        have eL29L : L26 = L := eL29L
        rw [eL29L] at hP hD
        have hT : TI g ad th f27 := eL29T
        have eL29F : ∀ b, b ≠ (ad 1) → b ≠ (ad 10) → f27 b = f_11 b := eL29F
        have hf30 := (eL29F (ad 9) (hst.ne (by decide) (by decide) (by decide)) (hst.ne (by decide) (by decide) (by decide))).trans hf24
        have hfr : (∀ b, b ≠ (ad 1) → b ≠ (ad 10) → b ≠ (ad 9) → f27 b = f b) := fun b z0_ z1_ z2_ => (eL29F b z0_ z1_).trans (hfr b z0_ z1_ z2_)
        have eL29R : In r25 0 1 := eL29R
        refine lv_if_ne (tgt := 33) hx hb dX5_readFrom_25 (by decide) (fun c31 => ?_) (fun c31 => ?_)
        ·
          have cc32 : r25.toInt ≠ (0 : Int32).toInt := i32_ne c31
          have hb33 : In r25 1 1 := In.ne1 eL29R (⟨by decide, by decide⟩ : In 0 0 0) cc32 (by omega) (by omega)
          refine lv_aload_n hx hb dX5_readFrom_33 rfl (lv_at hl 0 rfl) ?_
          refine lv_iload_n hx hb dX5_readFrom_34 rfl (lv_at hl 2 rfl) ?_
          refine lv_iconst (v := 1) hx hb dX5_readFrom_35 (by decide) ?_
          refine lv_iadd hx hb dX5_readFrom_36 ?_
          refine lv_topi (fun x34 ex34 => ?_)
          have hb35 : In x34 1 20 := ex34 ▸ In.add hb20 (⟨by decide, by decide⟩ : In 1 1 1) (by decide) (by decide) (by decide) (by decide)
          have et36 : x34.toInt = y11_l2.toInt + 1 := In.adde ex34 hb20 (k := 1) (by decide) (by decide) (by decide)
          refine pl_put (ty := .int) (v := .int x34) (fs' := [.ref (ad 10), .int x34]) hx hb hts (fun w h => mT (inX5 w h)) tyX5 tyX5_ok nmX5 hown hG.1 hP hD hS (hst.1 9 (by decide)) hf30 rfl 1 (by decide) (hts _ (mT wg_270)) (fun _ h => h) rfl (by decide +kernel) (rfl) (rfl) (Nat.le_of_ble_eq_true rfl) rfl dX5_readFrom_37 (fun H locs f37 hf38 ho39 hP hD hS => ?_)
          have hfr : (∀ b, b ≠ (ad 1) → b ≠ (ad 10) → b ≠ (ad 9) → f37 b = f b) := fun b z0_ z1_ z2_ => (ho39 b z2_).trans (hfr b z0_ z1_ z2_)
          refine lv_aload_n hx hb dX5_readFrom_40 rfl (lv_at hl 1 rfl) ?_
          have hT := TI.updA hT hst (k := 9) (by decide) hf38 ho39 ⟨x34, rfl, (In.mono hb35 (by decide) (by decide))⟩
          obtain ⟨v1_40, v2_40, v3_40, v4_40, hf41, hv1_40, hv2_40, hv3_40, hv4_40⟩ := hT.1 1 (by decide)
          refine call_v (run_VN (rm := rm_X8_nextPart) hx hb hml hown hts (s_X8_nextPart l g ad th _ _ _  hst hT ) cV_X8_nextPart wn_693 ⟨Nat.le_of_ble_eq_true rfl, Nat.le_of_ble_eq_true rfl⟩ hG hE hA hP hD hS (hst.1 1 (by decide)) hf41 rfl rfl hl.1 (As := []) (rest := []) rfl (Nat.le_of_ble_eq_true rfl) dX5_readFrom_41 ⟨Nat.le_of_ble_eq_true rfl, Nat.le_of_ble_eq_true rfl⟩) hA hD hS (fun L43 f44 H locs hp45 hP hD hS => ?_)
          obtain ⟨eL46L, eL46T, eL46F⟩ := hp45
          have eL46L : L43 = L := eL46L
          rw [eL46L] at hP hD
          have hT : TI g ad th f44 := eL46T
          have eL46F : ∀ b, b ≠ (ad 1) → f44 b = f37 b := eL46F
          have hf47 := (eL46F (ad 9) (hst.ne (by decide) (by decide) (by decide))).trans hf38
          have hfr : (∀ b, b ≠ (ad 1) → b ≠ (ad 10) → b ≠ (ad 9) → f44 b = f b) := fun b z0_ z1_ z2_ => (eL46F b z0_).trans (hfr b z0_ z1_ z2_)
          refine lv_aload_n hx hb dX5_readFrom_44 rfl (lv_at hl 1 rfl) ?_
          obtain ⟨v1_48, v2_48, v3_48, v4_48, hf49, hv1_48, hv2_48, hv3_48, hv4_48⟩ := hT.1 1 (by decide)
          refine pl_getN (v := .int v4_48) hx hb hts (fun w h => mT (inX8 w h)) hown hG.1 hP (hst.1 1 (by decide)) hf49 rfl 4 (by decide) (hG.2.1 _ wn_204) (fun _ h => h) rfl dX5_readFrom_45 ?_
          refine lv_if_ne (tgt := 53) hx hb dX5_readFrom_48 (by decide) (fun c50 => ?_) (fun c50 => ?_)
          ·
            have cc51 : v4_48.toInt ≠ (0 : Int32).toInt := i32_ne c50
            have hb52 : In v4_48 1 4 := In.ne1 hv4_48 (⟨by decide, by decide⟩ : In 0 0 0) cc51 (by omega) (by omega)
            refine lv_aload_n hx hb dX5_readFrom_53 rfl (lv_at hl 1 rfl) ?_
            refine pl_getN (v := .int v4_48) hx hb hts (fun w h => mT (inX8 w h)) hown hG.1 hP (hst.1 1 (by decide)) hf49 rfl 4 (by decide) (hG.2.1 _ wn_204) (fun _ h => h) rfl dX5_readFrom_54 ?_
            refine lv_iconst (v := 1) hx hb dX5_readFrom_57 (by decide) ?_
            refine lv_icmp_eq (tgt := 66) hx hb dX5_readFrom_58 (by decide) (fun c53 => ?_) (fun c53 => ?_)
            ·
              have cc54 : v4_48.toInt = (1 : Int32).toInt := congrArg Int32.toInt c53
              have hb55 : In v4_48 1 1 := In.eq1 hb52 (⟨by decide, by decide⟩ : In 1 1 1) cc54 (by omega) (by omega)
              refine lv_aload_n hx hb dX5_readFrom_66 rfl (lv_at hl 1 rfl) ?_
              refine call_v (run_VN (rm := rm_X8_nextPart) hx hb hml hown hts (s_X8_nextPart l g ad th _ _ _  hst hT ) cV_X8_nextPart wn_693 ⟨Nat.le_of_ble_eq_true rfl, Nat.le_of_ble_eq_true rfl⟩ hG hE hA hP hD hS (hst.1 1 (by decide)) hf49 rfl rfl hl.1 (As := []) (rest := []) rfl (Nat.le_of_ble_eq_true rfl) dX5_readFrom_67 ⟨Nat.le_of_ble_eq_true rfl, Nat.le_of_ble_eq_true rfl⟩) hA hD hS (fun L57 f58 H locs hp59 hP hD hS => ?_)
              obtain ⟨eL60L, eL60T, eL60F⟩ := hp59
              have eL60L : L57 = L := eL60L
              rw [eL60L] at hP hD
              have hT : TI g ad th f58 := eL60T
              have eL60F : ∀ b, b ≠ (ad 1) → f58 b = f44 b := eL60F
              have hf61 := (eL60F (ad 9) (hst.ne (by decide) (by decide) (by decide))).trans hf47
              have hfr : (∀ b, b ≠ (ad 1) → b ≠ (ad 10) → b ≠ (ad 9) → f58 b = f b) := fun b z0_ z1_ z2_ => (eL60F b z0_).trans (hfr b z0_ z1_ z2_)
              obtain ⟨x62, ex62⟩ : ∃ y : Int32, y = y11_l2 + 1 := ⟨_, rfl⟩
              have hb63 : In x62 1 20 := ex62 ▸ In.add hb20 (⟨by decide, by decide⟩ : In 1 1 1) (by decide) (by decide) (by decide) (by decide)
              have et64 : x62.toInt = y11_l2.toInt + 1 := In.adde ex62 hb20 (k := 1) (by decide) (by decide) (by decide)
              refine lv_iinc (v := x62) (lv' := [(2, .int x62), (0, .ref (ad 9)), (1, .ref (ad 1))]) hx hb dX5_readFrom_70 hl (k := 2) rfl (by rw [ex62]; rfl) (by decide) rfl (fun ls hl => ?_)
              refine lv_goto (tgt := 11) hx hb dX5_readFrom_73 (by decide) ?_
              exact ih11 x62 _ _ _ _ (In.mono hb63 (by decide) (by decide)) hP hD hS hT hfr (lv_sub hl [1, 2, 0] rfl) (msu et64 (by decide) hmz11)
            ·
              have cc65 : v4_48.toInt ≠ (1 : Int32).toInt := i32_ne c53
              have hb66 : In v4_48 2 4 := In.ne1 hb52 (⟨by decide, by decide⟩ : In 1 1 1) cc65 (by omega) (by omega)
              refine lv_aload_n hx hb dX5_readFrom_61 rfl (lv_at hl 1 rfl) ?_
              refine pl_getN (v := .int v2_48) hx hb hts (fun w h => mT (inX8 w h)) hown hG.1 hP (hst.1 1 (by decide)) hf49 rfl 2 (by decide) (hG.2.1 _ wn_200) (fun _ h => h) rfl dX5_readFrom_62 ?_
              exact ret_i (ty := .int) hx hb hr hlocks (rfl) hP hD hS (Nat.le_of_ble_eq_true rfl) (Nat.le_of_ble_eq_true rfl) (⟨rfl, hT, hfr⟩) dX5_readFrom_65
          ·
            have cc67 : v4_48.toInt = (0 : Int32).toInt := congrArg Int32.toInt c50
            have hb68 : In v4_48 0 0 := In.eq1 hv4_48 (⟨by decide, by decide⟩ : In 0 0 0) cc67 (by omega) (by omega)
            refine lv_iconst (v := (-1)) hx hb dX5_readFrom_51 (by decide) ?_
            exact ret_i (ty := .int) hx hb hr hlocks (rfl) hP hD hS (Nat.le_of_ble_eq_true rfl) (Nat.le_of_ble_eq_true rfl) (⟨rfl, hT, hfr⟩) dX5_readFrom_52
        ·
          have cc69 : r25.toInt = (0 : Int32).toInt := congrArg Int32.toInt c31
          have hb70 : In r25 0 0 := In.eq1 eL29R (⟨by decide, by decide⟩ : In 0 0 0) cc69 (by omega) (by omega)
          refine lv_aload_n hx hb dX5_readFrom_28 rfl (lv_at hl 1 rfl) ?_
          obtain ⟨v1_71, v2_71, v3_71, v4_71, hf72, hv1_71, hv2_71, hv3_71, hv4_71⟩ := hT.1 1 (by decide)
          refine pl_getN (v := .int v2_71) hx hb hts (fun w h => mT (inX8 w h)) hown hG.1 hP (hst.1 1 (by decide)) hf72 rfl 2 (by decide) (hG.2.1 _ wn_200) (fun _ h => h) rfl dX5_readFrom_29 ?_
          exact ret_i (ty := .int) hx hb hr hlocks (rfl) hP hD hS (Nat.le_of_ble_eq_true rfl) (Nat.le_of_ble_eq_true rfl) (⟨rfl, hT, hfr⟩) dX5_readFrom_32
  exact hJ11 ((20 - (0 : Int32).toInt).toNat + 1) 0 _ _ _ _ (⟨by decide, by decide⟩ : In 0 0 20) hP hD hS hT hfr (lv_sub hl [1, 2, 0] rfl) (msI _)

abbrev rm_X2_readFalses : Room := { frames := 2, cells := 0, slots := 0, locals := 41 }
abbrev po_X2_readFalses (g : GG) (ad : Nat → Nat) (th : Nat → Int) (L : List Nat) (f : HP)  : Int32 → (List Nat × HP) → Prop := fun r u => u.1 = L ∧ (∃ zz : Int, (capI zz (th 7)) ∧ TI g ad (gset th 8 zz) u.2) ∧ (∀ b, b ≠ (ad 5) → u.2 b = f b) ∧ In r 0 1
set_option maxHeartbeats 4000000 in
set_option maxRecDepth 100000 in
theorem s_X2_readFalses (l : Launch) (g : GG) (ad : Nat → Nat) (th : Nat → Int) (L : List Nat) (f : HP) (sz : Nat)  (hst : ST ad L) (hT : TI g ad th f) (hdz : th 8 = 0) (hsz : 3 ≤ th 7 ∧ th 7 ≤ 9) : MtI l g yX2_readFalses cX2_readFalses 5 (some .boolean) rm_X2_readFalses [.ref (ad 5), .ref (ad 1)] L f sz (po_X2_readFalses g ad th L f ) := by
  refine MtI.of (by decide +kernel) (Nat.le_of_ble_eq_true rfl) ?_
  intro p e s m below meth c A hEn hP hD hS ls hl
  obtain ⟨hx, hb, hr, hml, hown, hlocks, hts, hG, hA, hE, hnm⟩ := hEn
  have hown : s.vm.findClass "RulerWord$Council" = some m.cls := hown
  have hl : lv_has ls 5 [(0, .ref (ad 5)), (1, .ref (ad 1))] := hl
  have hfr : (∀ b, b ≠ (ad 5) → f b = f b) := fun b z0_ => rfl
  refine lv_aload_n hx hb dX2_readFalses_0 rfl (lv_at hl 1 rfl) ?_
  obtain ⟨v1_1, v2_1, v3_1, v4_1, hf2, hv1_1, hv2_1, hv3_1, hv4_1⟩ := hT.1 1 (by decide)
  refine call_i (run_VN (rm := rm_X8_digits) hx hb hml hown hts (s_X8_digits l g ad th _ _ _  hst hT ) cV_X8_digits wn_663 ⟨Nat.le_of_ble_eq_true rfl, Nat.le_of_ble_eq_true rfl⟩ hG hE hA hP hD hS (hst.1 1 (by decide)) hf2 rfl rfl hl.1 (As := []) (rest := []) rfl (Nat.le_of_ble_eq_true rfl) dX2_readFalses_1 ⟨Nat.le_of_ble_eq_true rfl, Nat.le_of_ble_eq_true rfl⟩) hA hD hS (fun r3 L4 f5 H locs hp6 hP hD hS => ?_)
  obtain ⟨eL7L, eL7T, eL7R, eL7X0⟩ := hp6
  have eL7L : L4 = L := eL7L
  have eL7T : f5 = f := eL7T
  rw [eL7L, eL7T] at hP hD
  have eL7R : In r3 (-520) 520 := eL7R
  have hd8 : (v4_1.toInt = 3 ∧ r3.toInt = v3_1.toInt - v2_1.toInt) ∨ (v4_1.toInt ≠ 3 ∧ r3.toInt = 0) := eL7X0 _ _ _ _ hf2
  refine lv_iconst (v := 1) hx hb dX2_readFalses_4 (by decide) ?_
  refine lv_icmp_lt (tgt := 19) hx hb dX2_readFalses_5 (by decide) (fun c9 => ?_) (fun c9 => ?_)
  ·
    have oc1 : (1 : Int32).toInt = 1 := by decide
    have cc10 : r3.toInt < (1 : Int32).toInt := i32_lt.mp c9
    have hb11 : In r3 (-520) 0 := In.lt1 eL7R (⟨by decide, by decide⟩ : In 1 1 1) cc10 (by omega) (by omega)
    refine lv_iconst (v := 0) hx hb dX2_readFalses_19 (by decide) ?_
    exact ret_i (ty := .boolean) hx hb hr hlocks (rfl) hP hD hS (Nat.le_of_ble_eq_true rfl) (Nat.le_of_ble_eq_true rfl) (⟨rfl, ⟨th 8, by rw [hdz]; exact Or.inl rfl, by rw [gset_same]; exact hT⟩, hfr, (⟨by decide, by decide⟩ : In 0 0 1)⟩) dX2_readFalses_20
  ·
    have oc1 : (1 : Int32).toInt = 1 := by decide
    have cc12 : (1 : Int32).toInt ≤ r3.toInt := i32_nlt c9
    have hb13 : In r3 1 520 := In.ge1 eL7R (⟨by decide, by decide⟩ : In 1 1 1) cc12 (by omega) (by omega)
    refine lv_aload_n hx hb dX2_readFalses_8 rfl (lv_at hl 1 rfl) ?_
    refine call_i (run_VN (rm := rm_X8_digits) hx hb hml hown hts (s_X8_digits l g ad th _ _ _  hst hT ) cV_X8_digits wn_663 ⟨Nat.le_of_ble_eq_true rfl, Nat.le_of_ble_eq_true rfl⟩ hG hE hA hP hD hS (hst.1 1 (by decide)) hf2 rfl rfl hl.1 (As := []) (rest := []) rfl (Nat.le_of_ble_eq_true rfl) dX2_readFalses_9 ⟨Nat.le_of_ble_eq_true rfl, Nat.le_of_ble_eq_true rfl⟩) hA hD hS (fun r14 L15 f16 H locs hp17 hP hD hS => ?_)
    obtain ⟨eL18L, eL18T, eL18R, eL18X0⟩ := hp17
    have eL18L : L15 = L := eL18L
    have eL18T : f16 = f := eL18T
    rw [eL18L, eL18T] at hP hD
    have eL18R : In r14 (-520) 520 := eL18R
    have hd19 : (v4_1.toInt = 3 ∧ r14.toInt = v3_1.toInt - v2_1.toInt) ∨ (v4_1.toInt ≠ 3 ∧ r14.toInt = 0) := eL18X0 _ _ _ _ hf2
    refine lv_aload_n hx hb dX2_readFalses_12 rfl (lv_at hl 0 rfl) ?_
    obtain ⟨v0_20, v1_20, v2_20, v3_20, v4_20, v5_20, v6_20, v7_20, hf21, hv0_20, hv1_20, hg1_20, hv2_20, hv3_20, hv5_20, hg5_20, hv6_20, hv7_20, hg7_20⟩ := hT.1 5 (by decide)
    refine pl_get (v := .int v1_20) hx hb hts (fun w h => mT (inX2 w h)) hown hG.1 hP (hst.1 5 (by decide)) hf21 rfl 1 (by decide) (hts _ (mT wg_228)) (fun _ h => h) rfl dX2_readFalses_13 ?_
    refine lv_icmp_lt (tgt := 21) hx hb dX2_readFalses_16 (by decide) (fun c22 => ?_) (fun c22 => ?_)
    ·
      have cc23 : r14.toInt < v1_20.toInt := i32_lt.mp c22
      have hb24 : In r14 (-520) 8 := In.lt1 eL18R hv1_20 cc23 (by omega) (by omega)
      refine lv_iconst (v := (-1)) hx hb dX2_readFalses_21 (by decide) ?_
      refine lv_istore_n (lv' := [(2, .int (-1)), (0, .ref (ad 5)), (1, .ref (ad 1))]) hx hb dX2_readFalses_22 rfl hl (by decide) rfl (fun ls hl => ?_)
      refine lv_iconst (v := 0) hx hb dX2_readFalses_23 (by decide) ?_
      refine lv_istore_n (lv' := [(3, .int 0), (2, .int (-1)), (0, .ref (ad 5)), (1, .ref (ad 1))]) hx hb dX2_readFalses_24 rfl hl (by decide) rfl (fun ls hl => ?_)
      have hJ25 : ∀ (k25 : Nat) (zg25_zf : Int) (y25_l2 : Int32) (y25_l3 : Int32) (f_25 : HP) (H : Heap) (locs : List Loc) (ls : Array Slot), (0 ≤ zg25_zf ∧ zg25_zf < 2 ^ (th 7).toNat ∧ pcI zg25_zf ≤ y25_l3.toInt) → In y25_l2 (-1) 8 → In y25_l3 0 2147483647 → va_P g.1 vwCl (va_pl L f_25) H → va_D A (va_pl L f_25) → va_S A s.heap H locs → TI g ad (gset th 8 zg25_zf) f_25 → (∀ b, b ≠ (ad 5) → f_25 b = f b) → f_25 (ad 1) = .inr (8, [.ref (ad 2), .int v1_1, .int v2_1, .int v3_1, .int v4_1]) → (y25_l3.toInt ≤ v3_1.toInt - v2_1.toInt ∧ 0 ≤ y25_l3.toInt) → lv_has ls 5 [(0, .ref (ad 5)), (1, .ref (ad 1)), (2, .int y25_l2), (3, .int y25_l3)] → 2147483647 - y25_l3.toInt < ((k25 : Nat) : Int) → W p l e rm_X2_readFalses s m [.ref (ad 5), .ref (ad 1)].toArray below meth c H locs 0 0 (MQ below (va_Qi (po_X2_readFalses g ad th L f ) (PstB g A) A) [.ref (ad 5), .ref (ad 1)].toArray s rm_X2_readFalses.cells rm_X2_readFalses.slots A) (F0 m 25 ls []) := by
        intro k25
        induction k25 with
        | zero =>
          intro zg25_zf y25_l2 y25_l3 f_25 H locs ls hzg25 hy25_l2 hy25_l3 hP hD hS hT hfr hf25 hinv25_0 hl hmz25
          exact ms0 hy25_l3 hmz25
        | succ k25 ih25 =>
          intro zg25_zf y25_l2 y25_l3 f_25 H locs ls hzg25 hy25_l2 hy25_l3 hP hD hS hT hfr hf25 hinv25_0 hl hmz25
          refine lv_iload_n hx hb dX2_readFalses_25 rfl (lv_at hl 3 rfl) ?_
          refine lv_aload_n hx hb dX2_readFalses_26 rfl (lv_at hl 1 rfl) ?_
          refine call_i (run_VN (rm := rm_X8_digits) hx hb hml hown hts (s_X8_digits l g ad (gset th 8 zg25_zf) _ _ _  hst hT ) cV_X8_digits wn_663 ⟨Nat.le_of_ble_eq_true rfl, Nat.le_of_ble_eq_true rfl⟩ hG hE hA hP hD hS (hst.1 1 (by decide)) hf25 rfl rfl hl.1 (As := []) (rest := [.int y25_l3]) rfl (Nat.le_of_ble_eq_true rfl) dX2_readFalses_27 ⟨Nat.le_of_ble_eq_true rfl, Nat.le_of_ble_eq_true rfl⟩) hA hD hS (fun r26 L27 f28 H locs hp29 hP hD hS => ?_)
          obtain ⟨eL30L, eL30T, eL30R, eL30X0⟩ := hp29
          have eL30L : L27 = L := eL30L
          have eL30T : f28 = f_25 := eL30T
          rw [eL30L, eL30T] at hP hD
          have eL30R : In r26 (-520) 520 := eL30R
          have hd31 : (v4_1.toInt = 3 ∧ r26.toInt = v3_1.toInt - v2_1.toInt) ∨ (v4_1.toInt ≠ 3 ∧ r26.toInt = 0) := eL30X0 _ _ _ _ hf25
          refine lv_icmp_ge (tgt := 79) hx hb dX2_readFalses_30 (by decide) (fun c32 => ?_) (fun c32 => ?_)
          ·
            have cc33 : r26.toInt ≤ y25_l3.toInt := i32_le.mp c32
            refine lv_iconst (v := 1) hx hb dX2_readFalses_79 (by decide) ?_
            exact ret_i (ty := .boolean) hx hb hr hlocks (rfl) hP hD hS (Nat.le_of_ble_eq_true rfl) (Nat.le_of_ble_eq_true rfl) (⟨rfl, ⟨zg25_zf, pc_cap (i := y25_l3.toInt) hzg25 (by obtain ⟨q1, q2⟩ := hsz; exact ⟨by omega, by omega⟩) (by obtain ⟨o0a, o0b⟩ := (hy25_l3 : In _ _ _); obtain ⟨o1a, o1b⟩ := (hv3_1 : In _ _ _); obtain ⟨o2a, o2b⟩ := (hv2_1 : In _ _ _); obtain ⟨o3a, o3b⟩ := (eL30R : In _ _ _); obtain ⟨o4a, o4b⟩ := (hb13 : In _ _ _); obtain ⟨o5a, o5b⟩ := (hb24 : In _ _ _); obtain ⟨o6a, o6b⟩ := (hv1_20 : In _ _ _); omega), hT⟩, hfr, (⟨by decide, by decide⟩ : In 1 0 1)⟩) dX2_readFalses_80
          ·
            have cc34 : y25_l3.toInt < r26.toInt := i32_nle c32
            have hb35 : In y25_l3 0 519 := In.lt1 hy25_l3 eL30R cc34 (by omega) (by omega)
            have hb36 : In r26 1 520 := In.lt2 hy25_l3 eL30R cc34 (by omega) (by omega)
            refine lv_aload_n hx hb dX2_readFalses_33 rfl (lv_at hl 1 rfl) ?_
            refine lv_iload_n hx hb dX2_readFalses_34 rfl (lv_at hl 3 rfl) ?_
            refine call_i (run_VN (rm := rm_X8_digitAt) hx hb hml hown hts (s_X8_digitAt l g ad (gset th 8 zg25_zf) _ _ _ y25_l3 hst hT ) cV_X8_digitAt wn_664 ⟨Nat.le_of_ble_eq_true rfl, Nat.le_of_ble_eq_true rfl⟩ hG hE hA hP hD hS (hst.1 1 (by decide)) hf25 rfl rfl hl.1 (As := [.int y25_l3]) (rest := []) rfl (Nat.le_of_ble_eq_true rfl) dX2_readFalses_35 ⟨Nat.le_of_ble_eq_true rfl, Nat.le_of_ble_eq_true rfl⟩) hA hD hS (fun r37 L38 f39 H locs hp40 hP hD hS => ?_)
            obtain ⟨eL41L, eL41T, eL41R⟩ := hp40
            have eL41L : L38 = L := eL41L
            have eL41T : f39 = f_25 := eL41T
            rw [eL41L, eL41T] at hP hD
            have eL41R : In r37 (-49) 65487 := eL41R
            refine lv_istore (lv' := [(4, .int r37), (0, .ref (ad 5)), (1, .ref (ad 1)), (2, .int y25_l2), (3, .int y25_l3)]) hx hb dX2_readFalses_38 hl (by decide) rfl (fun ls hl => ?_)
            refine lv_iload hx hb dX2_readFalses_40 (lv_at hl 0 rfl) ?_
            refine lv_iload_n hx hb dX2_readFalses_42 rfl (lv_at hl 3 rfl) ?_
            refine lv_icmp_le (tgt := 55) hx hb dX2_readFalses_43 (by decide) (fun c42 => ?_) (fun c42 => ?_)
            ·
              have cc43 : r37.toInt ≤ y25_l2.toInt := i32_le.mp c42
              have hb44 : In r37 (-49) 8 := In.le1 eL41R hy25_l2 cc43 (by omega) (by omega)
              refine lv_iconst (v := 0) hx hb dX2_readFalses_55 (by decide) ?_
              exact ret_i (ty := .boolean) hx hb hr hlocks (rfl) hP hD hS (Nat.le_of_ble_eq_true rfl) (Nat.le_of_ble_eq_true rfl) (⟨rfl, ⟨zg25_zf, pc_cap (i := y25_l3.toInt) hzg25 (by obtain ⟨q1, q2⟩ := hsz; exact ⟨by omega, by omega⟩) (by obtain ⟨o0a, o0b⟩ := (hb35 : In _ _ _); obtain ⟨o1a, o1b⟩ := (hv3_1 : In _ _ _); obtain ⟨o2a, o2b⟩ := (hv2_1 : In _ _ _); obtain ⟨o3a, o3b⟩ := (hb36 : In _ _ _); obtain ⟨o4a, o4b⟩ := (hb13 : In _ _ _); obtain ⟨o5a, o5b⟩ := (hb24 : In _ _ _); obtain ⟨o6a, o6b⟩ := (hv1_20 : In _ _ _); omega), hT⟩, hfr, (⟨by decide, by decide⟩ : In 0 0 1)⟩) dX2_readFalses_56
            ·
              have cc45 : y25_l2.toInt < r37.toInt := i32_nle c42
              have hb46 : In r37 0 65487 := In.gt1 eL41R hy25_l2 cc45 (by omega) (by omega)
              refine lv_iload hx hb dX2_readFalses_46 (lv_at hl 0 rfl) ?_
              refine lv_aload_n hx hb dX2_readFalses_48 rfl (lv_at hl 1 rfl) ?_
              obtain ⟨v0_47, v1_47, v2_47, v3_47, v4_47, v5_47, v6_47, v7_47, hf48, hv0_47, hv1_47, hg1_47, hv2_47, hv3_47, hv5_47, hg5_47, hv6_47, hv7_47, hg7_47⟩ := hT.1 5 (by decide)
              have hg1_47 : v1_47.toInt = th 7 := hg1_47
              have hg5_47 : v5_47.toInt = zg25_zf := hg5_47
              have hg7_47 : v7_47.toInt = th 9 := hg7_47
              refine pl_get (v := .int v1_47) hx hb hts (fun w h => mT (inX2 w h)) hown hG.1 hP (hst.1 5 (by decide)) hf48 rfl 1 (by decide) (hts _ (mT wg_228)) (fun _ h => h) rfl dX2_readFalses_49 ?_
              refine lv_icmp_lt (tgt := 57) hx hb dX2_readFalses_52 (by decide) (fun c49 => ?_) (fun c49 => ?_)
              ·
                have cc50 : r37.toInt < v1_47.toInt := i32_lt.mp c49
                have hb51 : In r37 0 8 := In.lt1 hb46 hv1_47 cc50 (by omega) (by omega)
                have hb52 : In v1_47 1 9 := In.lt2 hb46 hv1_47 cc50 (by omega) (by omega)
                refine lv_aload_n hx hb dX2_readFalses_57 rfl (lv_at hl 1 rfl) ?_
                refine lv_dup hx hb dX2_readFalses_58 rfl ?_
                refine pl_get (v := .int v5_47) hx hb hts (fun w h => mT (inX2 w h)) hown hG.1 hP (hst.1 5 (by decide)) hf48 rfl 5 (by decide) (hts _ (mT wg_239)) (fun _ h => h) rfl dX2_readFalses_59 ?_
                refine lv_iconst (v := 1) hx hb dX2_readFalses_62 (by decide) ?_
                refine lv_iload hx hb dX2_readFalses_63 (lv_at hl 0 rfl) ?_
                refine lv_ishl hx hb dX2_readFalses_65 ?_
                refine lv_topi (fun x53 ex53 => ?_)
                have hb54 : In x53 1 256 := ex53 ▸ In.shl (⟨by decide, by decide⟩ : In 1 1 1) hb51 (by decide) (by decide) (by decide) (by decide) (by decide) (by decide)
                refine lv_ior hx hb dX2_readFalses_66 ?_
                refine lv_topi (fun x55 ex55 => ?_)
                have hb56 : In x55 0 511 := ex55 ▸ In.or 9 hv5_47 hb54 (by decide) (by decide) (by decide) (by decide) (by decide)
                refine pl_put (ty := .int) (v := .int x55) (fs' := [.int v0_47, .int v1_47, .int v2_47, .int v3_47, .int v4_47, .int x55, .int v6_47, .int v7_47]) hx hb hts (fun w h => mT (inX2 w h)) tyX2 tyX2_ok nmX2 hown hG.1 hP hD hS (hst.1 5 (by decide)) hf48 rfl 5 (by decide) (hts _ (mT wg_239)) (fun _ h => h) rfl (by decide +kernel) (rfl) (rfl) (Nat.le_of_ble_eq_true rfl) rfl dX2_readFalses_67 (fun H locs f57 hf58 ho59 hP hD hS => ?_)
                have hf60 := (ho59 (ad 1) (hst.ne (by decide) (by decide) (by decide))).trans hf25
                have hfr : (∀ b, b ≠ (ad 5) → f57 b = f b) := fun b z0_ => (ho59 b z0_).trans (hfr b z0_)
                refine lv_iload hx hb dX2_readFalses_70 (lv_at hl 0 rfl) ?_
                refine lv_istore_n (lv' := [(2, .int r37), (4, .int r37), (0, .ref (ad 5)), (1, .ref (ad 1)), (3, .int y25_l3)]) hx hb dX2_readFalses_72 rfl hl (by decide) rfl (fun ls hl => ?_)
                obtain ⟨x61, ex61⟩ : ∃ y : Int32, y = y25_l3 + 1 := ⟨_, rfl⟩
                have hb62 : In x61 1 520 := ex61 ▸ In.add hb35 (⟨by decide, by decide⟩ : In 1 1 1) (by decide) (by decide) (by decide) (by decide)
                have et63 : x61.toInt = y25_l3.toInt + 1 := In.adde ex61 hb35 (k := 1) (by decide) (by decide) (by decide)
                refine lv_iinc (v := x61) (lv' := [(3, .int x61), (2, .int r37), (4, .int r37), (0, .ref (ad 5)), (1, .ref (ad 1))]) hx hb dX2_readFalses_73 hl (k := 4) rfl (by rw [ex61]; rfl) (by decide) rfl (fun ls hl => ?_)
                have hT := TI.updAG (th' := (gset (gset th 8 zg25_zf) 8 (x55.toInt))) hT hst (k := 5) (by decide) hf58 ho59 ⟨v0_47, v1_47, v2_47, v3_47, v4_47, x55, v6_47, v7_47, rfl, hv0_47, (In.mono hb52 (by decide) (by decide)), (by rw [hg1_47]; simp [gset]), hv2_47, hv3_47, hb56, (by simp [gset]), hv6_47, hv7_47, (by rw [hg7_47]; simp [gset])⟩ (fun q hq => ((gset_ne (own_ne hq (k := 8) (by decide) rfl)).trans rfl))
                have hT : TI g ad (gset th 8 x55.toInt) f57 := TI.cast hT (by funext q; simp only [gset]; (repeat' split); all_goals first | rfl | omega | (subst_vars; rfl) | (exfalso; omega))
                refine lv_goto (tgt := 25) hx hb dX2_readFalses_76 (by decide) ?_
                have hsz765 : r37.toInt < th 7 := (by obtain ⟨o0a, o0b⟩ := (hb51 : In _ _ _); obtain ⟨o1a, o1b⟩ := (hy25_l2 : In _ _ _); obtain ⟨o2a, o2b⟩ := (hb52 : In _ _ _); omega)
                have hop64 := or_pc (n := th 7) (i := y25_l3.toInt) ex53 ex55 hb51 hsz.2 hsz765 ⟨by have := hzg25; omega, by have := hzg25; rw [hg5_47]; exact this.2.1, by rw [hg5_47]; exact hzg25.2.2⟩
                exact ih25 x55.toInt r37 x61 _ _ _ _ (by rw [et63]; exact hop64) (In.mono hb51 (by decide) (by decide)) (In.mono hb62 (by decide) (by decide)) hP hD hS (TI.cast hT (by funext q; simp only [gset]; (repeat' split); all_goals first | rfl | omega | (subst_vars; rfl) | (exfalso; omega))) hfr hf60 (by obtain ⟨o0a, o0b⟩ := (hb62 : In _ _ _); obtain ⟨o1a, o1b⟩ := (hv3_1 : In _ _ _); obtain ⟨o2a, o2b⟩ := (hv2_1 : In _ _ _); obtain ⟨o3a, o3b⟩ := (hb35 : In _ _ _); obtain ⟨o4a, o4b⟩ := (hb13 : In _ _ _); obtain ⟨o5a, o5b⟩ := (hb24 : In _ _ _); obtain ⟨o6a, o6b⟩ := (hb36 : In _ _ _); obtain ⟨o7a, o7b⟩ := (hv1_20 : In _ _ _); omega) (lv_sub hl [3, 4, 1, 0] rfl) (msu et63 (by decide) hmz25)
              ·
                have cc66 : v1_47.toInt ≤ r37.toInt := i32_nlt c49
                refine lv_iconst (v := 0) hx hb dX2_readFalses_55 (by decide) ?_
                exact ret_i (ty := .boolean) hx hb hr hlocks (rfl) hP hD hS (Nat.le_of_ble_eq_true rfl) (Nat.le_of_ble_eq_true rfl) (⟨rfl, ⟨zg25_zf, pc_cap (i := y25_l3.toInt) hzg25 (by obtain ⟨q1, q2⟩ := hsz; exact ⟨by omega, by omega⟩) (by obtain ⟨o0a, o0b⟩ := (hb35 : In _ _ _); obtain ⟨o1a, o1b⟩ := (hv3_1 : In _ _ _); obtain ⟨o2a, o2b⟩ := (hv2_1 : In _ _ _); obtain ⟨o3a, o3b⟩ := (hb36 : In _ _ _); obtain ⟨o4a, o4b⟩ := (hb13 : In _ _ _); obtain ⟨o5a, o5b⟩ := (hb24 : In _ _ _); obtain ⟨o6a, o6b⟩ := (hv1_20 : In _ _ _); omega), hT⟩, hfr, (⟨by decide, by decide⟩ : In 0 0 1)⟩) dX2_readFalses_56
      exact hJ25 ((2147483647 - (0 : Int32).toInt).toNat + 1) (th 8) (-1) 0 _ _ _ _ (by rw [hdz]; exact pc_0 _) (⟨by decide, by decide⟩ : In (-1) (-1) 8) (⟨by decide, by decide⟩ : In 0 0 2147483647) hP hD hS (TI.cast hT (by funext q; simp only [gset]; (repeat' split); all_goals first | rfl | omega | (subst_vars; rfl) | (exfalso; omega))) hfr hf2 (by have oc0 : (0 : Int32).toInt = 0 := (by decide); obtain ⟨o1a, o1b⟩ := (hv3_1 : In _ _ _); obtain ⟨o2a, o2b⟩ := (hv2_1 : In _ _ _); obtain ⟨o3a, o3b⟩ := (hb13 : In _ _ _); obtain ⟨o4a, o4b⟩ := (hb24 : In _ _ _); obtain ⟨o5a, o5b⟩ := (hv1_20 : In _ _ _); omega) (lv_sub hl [2, 3, 1, 0] rfl) (msI _)
    ·
      have cc67 : v1_20.toInt ≤ r14.toInt := i32_nlt c22
      have hb68 : In r14 (-1) 520 := In.ge1 eL18R hv1_20 cc67 (by omega) (by omega)
      refine lv_iconst (v := 0) hx hb dX2_readFalses_19 (by decide) ?_
      exact ret_i (ty := .boolean) hx hb hr hlocks (rfl) hP hD hS (Nat.le_of_ble_eq_true rfl) (Nat.le_of_ble_eq_true rfl) (⟨rfl, ⟨th 8, by rw [hdz]; exact Or.inl rfl, by rw [gset_same]; exact hT⟩, hfr, (⟨by decide, by decide⟩ : In 0 0 1)⟩) dX2_readFalses_20

abbrev rm_X2_fillIn : Room := { frames := 2, cells := 0, slots := 0, locals := 42 }
abbrev po_X2_fillIn (g : GG) (ad : Nat → Nat) (th : Nat → Int) (L : List Nat) (f : HP)  : (List Nat × HP) → Prop := fun u => u.1 = L ∧ TI g ad th u.2 ∧ (∀ b, b ≠ (ad 5) → u.2 b = f b)
set_option maxHeartbeats 4000000 in
set_option maxRecDepth 100000 in
theorem s_X2_fillIn (l : Launch) (g : GG) (ad : Nat → Nat) (th : Nat → Int) (L : List Nat) (f : HP) (sz : Nat)  (hst : ST ad L) (hT : TI g ad th f)  : MtV l g yX2_fillIn cX2_fillIn 1 rm_X2_fillIn [.ref (ad 5)] L f sz (po_X2_fillIn g ad th L f ) := by
  refine MtV.of (by decide +kernel) (Nat.le_of_ble_eq_true rfl) ?_
  intro p e s m below meth c A hEn hP hD hS ls hl
  obtain ⟨hx, hb, hr, hml, hown, hlocks, hts, hG, hA, hE, hnm⟩ := hEn
  have hown : s.vm.findClass "RulerWord$Council" = some m.cls := hown
  have hl : lv_has ls 1 [(0, .ref (ad 5))] := hl
  have hfr : (∀ b, b ≠ (ad 5) → f b = f b) := fun b z0_ => rfl
  refine lv_aload_n hx hb dX2_fillIn_0 rfl (lv_at hl 0 rfl) ?_
  refine lv_aload_n hx hb dX2_fillIn_1 rfl (lv_at hl 0 rfl) ?_
  refine lv_iconst (v := 1) hx hb dX2_fillIn_2 (by decide) ?_
  obtain ⟨v0_1, v1_1, v2_1, v3_1, v4_1, v5_1, v6_1, v7_1, hf2, hv0_1, hv1_1, hg1_1, hv2_1, hv3_1, hv5_1, hg5_1, hv6_1, hv7_1, hg7_1⟩ := hT.1 5 (by decide)
  refine call_i (run_V (rm := rm_X2_isTold) hx hb hml hown hts (s_X2_isTold l g ad th _ _ _ 1 hst hT (⟨by decide, by decide⟩ : In 1 0 5)) cV_X2_isTold wg_640 ⟨Nat.le_of_ble_eq_true rfl, Nat.le_of_ble_eq_true rfl⟩ hG hE hA hP hD hS (hst.1 5 (by decide)) hf2 rfl rfl hl.1 (As := [.int 1]) (rest := [.ref (ad 5)]) rfl (Nat.le_of_ble_eq_true rfl) dX2_fillIn_3 ⟨Nat.le_of_ble_eq_true rfl, Nat.le_of_ble_eq_true rfl⟩) hA hD hS (fun r3 L4 f5 H locs hp6 hP hD hS => ?_)
  obtain ⟨eL7L, eL7T, eL7R, eL7X0⟩ := hp6
  have eL7L : L4 = L := eL7L
  have eL7T : f5 = f := eL7T
  rw [eL7L, eL7T] at hP hD
  have eL7R : In r3 0 1 := eL7R
  have hit8 : r3.toInt = bitI (th 9) 1 := eL7X0
  have hJ27 : ∀ (y27_s0 : Int32) (H : Heap) (locs : List Loc) (ls : Array Slot), In y27_s0 (-1) 4 → va_P g.1 vwCl (va_pl L f) H → va_D A (va_pl L f) → va_S A s.heap H locs → lv_has ls 1 [(0, .ref (ad 5))] → W p l e rm_X2_fillIn s m [.ref (ad 5)].toArray below meth c H locs 0 0 (MQ below (va_Qv (po_X2_fillIn g ad th L f ) (PstB g A) A) [.ref (ad 5)].toArray s rm_X2_fillIn.cells rm_X2_fillIn.slots A) (F0 m 27 ls [.int y27_s0, .ref (ad 5)]) := by
    intro y27_s0 H locs ls hy27_s0 hP hD hS hl
    refine pl_put (ty := .int) (v := .int y27_s0) (fs' := [.int v0_1, .int v1_1, .int y27_s0, .int v3_1, .int v4_1, .int v5_1, .int v6_1, .int v7_1]) hx hb hts (fun w h => mT (inX2 w h)) tyX2 tyX2_ok nmX2 hown hG.1 hP hD hS (hst.1 5 (by decide)) hf2 rfl 2 (by decide) (hts _ (mT wg_232)) (fun _ h => h) rfl (by decide +kernel) (rfl) (rfl) (Nat.le_of_ble_eq_true rfl) rfl dX2_fillIn_27 (fun H locs f9 hf10 ho11 hP hD hS => ?_)
    have hfr : (∀ b, b ≠ (ad 5) → f9 b = f b) := fun b z0_ => (ho11 b z0_).trans (hfr b z0_)
    refine lv_aload_n hx hb dX2_fillIn_30 rfl (lv_at hl 0 rfl) ?_
    refine lv_aload_n hx hb dX2_fillIn_31 rfl (lv_at hl 0 rfl) ?_
    refine lv_iconst (v := 2) hx hb dX2_fillIn_32 (by decide) ?_
    have hT := TI.updA hT hst (k := 5) (by decide) hf10 ho11 ⟨v0_1, v1_1, y27_s0, v3_1, v4_1, v5_1, v6_1, v7_1, rfl, hv0_1, hv1_1, hg1_1, hy27_s0, hv3_1, hv5_1, hg5_1, hv6_1, hv7_1, hg7_1⟩
    refine call_i (run_V (rm := rm_X2_isTold) hx hb hml hown hts (s_X2_isTold l g ad th _ _ _ 2 hst hT (⟨by decide, by decide⟩ : In 2 0 5)) cV_X2_isTold wg_640 ⟨Nat.le_of_ble_eq_true rfl, Nat.le_of_ble_eq_true rfl⟩ hG hE hA hP hD hS (hst.1 5 (by decide)) hf10 rfl rfl hl.1 (As := [.int 2]) (rest := [.ref (ad 5)]) rfl (Nat.le_of_ble_eq_true rfl) dX2_fillIn_33 ⟨Nat.le_of_ble_eq_true rfl, Nat.le_of_ble_eq_true rfl⟩) hA hD hS (fun r12 L13 f14 H locs hp15 hP hD hS => ?_)
    obtain ⟨eL16L, eL16T, eL16R, eL16X0⟩ := hp15
    have eL16L : L13 = L := eL16L
    have eL16T : f14 = f9 := eL16T
    rw [eL16L, eL16T] at hP hD
    have eL16R : In r12 0 1 := eL16R
    have hit17 : r12.toInt = bitI (th 9) 2 := eL16X0
    have hJ52 : ∀ (y52_s0 : Int32) (H : Heap) (locs : List Loc) (ls : Array Slot), In y52_s0 (-1) 6 → va_P g.1 vwCl (va_pl L f9) H → va_D A (va_pl L f9) → va_S A s.heap H locs → lv_has ls 1 [(0, .ref (ad 5))] → W p l e rm_X2_fillIn s m [.ref (ad 5)].toArray below meth c H locs 0 0 (MQ below (va_Qv (po_X2_fillIn g ad th L f ) (PstB g A) A) [.ref (ad 5)].toArray s rm_X2_fillIn.cells rm_X2_fillIn.slots A) (F0 m 52 ls [.int y52_s0, .ref (ad 5)]) := by
      intro y52_s0 H locs ls hy52_s0 hP hD hS hl
      refine pl_put (ty := .int) (v := .int y52_s0) (fs' := [.int v0_1, .int v1_1, .int y27_s0, .int y52_s0, .int v4_1, .int v5_1, .int v6_1, .int v7_1]) hx hb hts (fun w h => mT (inX2 w h)) tyX2 tyX2_ok nmX2 hown hG.1 hP hD hS (hst.1 5 (by decide)) hf10 rfl 3 (by decide) (hts _ (mT wg_234)) (fun _ h => h) rfl (by decide +kernel) (rfl) (rfl) (Nat.le_of_ble_eq_true rfl) rfl dX2_fillIn_52 (fun H locs f18 hf19 ho20 hP hD hS => ?_)
      have hfr : (∀ b, b ≠ (ad 5) → f18 b = f b) := fun b z0_ => (ho20 b z0_).trans (hfr b z0_)
      have hT := TI.updA hT hst (k := 5) (by decide) hf19 ho20 ⟨v0_1, v1_1, y27_s0, y52_s0, v4_1, v5_1, v6_1, v7_1, rfl, hv0_1, hv1_1, hg1_1, hy27_s0, hy52_s0, hv5_1, hg5_1, hv6_1, hv7_1, hg7_1⟩
      exact ret_v hx hb hr hlocks hP hD hS (Nat.le_of_ble_eq_true rfl) (Nat.le_of_ble_eq_true rfl) (⟨rfl, hT, hfr⟩) dX2_fillIn_55
    refine lv_if_eq (tgt := 46) hx hb dX2_fillIn_36 (by decide) (fun c21 => ?_) (fun c21 => ?_)
    ·
      have cc22 : r12.toInt = (0 : Int32).toInt := congrArg Int32.toInt c21
      have hb23 : In r12 0 0 := In.eq1 eL16R (⟨by decide, by decide⟩ : In 0 0 0) cc22 (by omega) (by omega)
      refine lv_aload_n hx hb dX2_fillIn_46 rfl (lv_at hl 0 rfl) ?_
      refine pl_get (v := .int y27_s0) hx hb hts (fun w h => mT (inX2 w h)) hown hG.1 hP (hst.1 5 (by decide)) hf10 rfl 2 (by decide) (hts _ (mT wg_232)) (fun _ h => h) rfl dX2_fillIn_47 ?_
      refine lv_iconst (v := 1) hx hb dX2_fillIn_50 (by decide) ?_
      refine lv_iadd hx hb dX2_fillIn_51 ?_
      refine lv_topi (fun x24 ex24 => ?_)
      have hb25 : In x24 0 5 := ex24 ▸ In.add hy27_s0 (⟨by decide, by decide⟩ : In 1 1 1) (by decide) (by decide) (by decide) (by decide)
      have et26 : x24.toInt = y27_s0.toInt + 1 := In.adde ex24 hy27_s0 (k := 1) (by decide) (by decide) (by decide)
      exact hJ52 x24 _ _ _ (In.mono hb25 (by decide) (by decide)) hP hD hS (lv_sub hl [0] rfl)
    ·
      have cc27 : r12.toInt ≠ (0 : Int32).toInt := i32_ne c21
      have hb28 : In r12 1 1 := In.ne1 eL16R (⟨by decide, by decide⟩ : In 0 0 0) cc27 (by omega) (by omega)
      refine lv_aload_n hx hb dX2_fillIn_39 rfl (lv_at hl 0 rfl) ?_
      refine pl_get (v := .int v3_1) hx hb hts (fun w h => mT (inX2 w h)) hown hG.1 hP (hst.1 5 (by decide)) hf10 rfl 3 (by decide) (hts _ (mT wg_234)) (fun _ h => h) rfl dX2_fillIn_40 ?_
      refine lv_goto (tgt := 52) hx hb dX2_fillIn_43 (by decide) ?_
      exact hJ52 v3_1 _ _ _ hv3_1 hP hD hS (lv_sub hl [0] rfl)
  refine lv_if_eq (tgt := 16) hx hb dX2_fillIn_6 (by decide) (fun c29 => ?_) (fun c29 => ?_)
  ·
    have cc30 : r3.toInt = (0 : Int32).toInt := congrArg Int32.toInt c29
    have hb31 : In r3 0 0 := In.eq1 eL7R (⟨by decide, by decide⟩ : In 0 0 0) cc30 (by omega) (by omega)
    refine lv_aload_n hx hb dX2_fillIn_16 rfl (lv_at hl 0 rfl) ?_
    refine pl_get (v := .int v0_1) hx hb hts (fun w h => mT (inX2 w h)) hown hG.1 hP (hst.1 5 (by decide)) hf2 rfl 0 (by decide) (hts _ (mT wg_224)) (fun _ h => h) rfl dX2_fillIn_17 ?_
    refine lv_aload_n hx hb dX2_fillIn_20 rfl (lv_at hl 0 rfl) ?_
    refine pl_get (v := .int v1_1) hx hb hts (fun w h => mT (inX2 w h)) hown hG.1 hP (hst.1 5 (by decide)) hf2 rfl 1 (by decide) (hts _ (mT wg_228)) (fun _ h => h) rfl dX2_fillIn_21 ?_
    refine call_i (run_SN (rm := rm_X10_greatestBound_9) hx hb hml hown hts (s_X10_greatestBound_9 l g ad th _ _ _ v0_1 v1_1 hst hT hv1_1) cS_X10_greatestBound wn_673 ⟨Nat.le_of_ble_eq_true rfl, Nat.le_of_ble_eq_true rfl⟩ hG hE hA hP hD hS rfl hl.1 (As := [.int v0_1, .int v1_1]) (rest := [.ref (ad 5)]) rfl (Nat.le_of_ble_eq_true rfl) dX2_fillIn_24 ⟨Nat.le_of_ble_eq_true rfl, Nat.le_of_ble_eq_true rfl⟩) hA hD hS (fun r32 L33 f34 H locs hp35 hP hD hS => ?_)
    obtain ⟨eL36L, eL36T, eL36R⟩ := hp35
    have eL36L : L33 = L := eL36L
    have eL36T : f34 = f := eL36T
    rw [eL36L, eL36T] at hP hD
    have eL36R : In r32 0 2 := eL36R
    exact hJ27 r32 _ _ _ (In.mono eL36R (by decide) (by decide)) hP hD hS (lv_sub hl [0] rfl)
  ·
    have cc37 : r3.toInt ≠ (0 : Int32).toInt := i32_ne c29
    have hb38 : In r3 1 1 := In.ne1 eL7R (⟨by decide, by decide⟩ : In 0 0 0) cc37 (by omega) (by omega)
    refine lv_aload_n hx hb dX2_fillIn_9 rfl (lv_at hl 0 rfl) ?_
    refine pl_get (v := .int v2_1) hx hb hts (fun w h => mT (inX2 w h)) hown hG.1 hP (hst.1 5 (by decide)) hf2 rfl 2 (by decide) (hts _ (mT wg_232)) (fun _ h => h) rfl dX2_fillIn_10 ?_
    refine lv_goto (tgt := 27) hx hb dX2_fillIn_13 (by decide) ?_
    exact hJ27 v2_1 _ _ _ hv2_1 hP hD hS (lv_sub hl [0] rfl)

abbrev rm_X2_readPiece : Room := { frames := 6, cells := 0, slots := 0, locals := 128 }
abbrev po_X2_readPiece (g : GG) (ad : Nat → Nat) (th : Nat → Int) (L : List Nat) (f : HP)  : Int32 → (List Nat × HP) → Prop := fun r u => u.1 = L ∧ (∃ zt zs zf : Int, (r.toInt = 0 ∨ DIp zt zs zf) ∧ TI g ad (gset (gset (gset th 9 zt) 7 zs) 8 zf) u.2) ∧ (∀ b, b ≠ (ad 1) → b ≠ (ad 5) → u.2 b = f b) ∧ In r 0 1
set_option maxHeartbeats 4000000 in
set_option maxRecDepth 100000 in
theorem s_X2_readPiece (l : Launch) (g : GG) (ad : Nat → Nat) (th : Nat → Int) (L : List Nat) (f : HP) (sz : Nat)  (hst : ST ad L) (hT : TI g ad th f) (hDI : DIp (th 9) (th 7) (th 8)) : MtI l g yX2_readPiece cX2_readPiece 3 (some .boolean) rm_X2_readPiece [.ref (ad 5), .ref (ad 1)] L f sz (po_X2_readPiece g ad th L f ) := by
  refine MtI.of (by decide +kernel) (Nat.le_of_ble_eq_true rfl) ?_
  intro p e s m below meth c A hEn hP hD hS ls hl
  obtain ⟨hx, hb, hr, hml, hown, hlocks, hts, hG, hA, hE, hnm⟩ := hEn
  have hown : s.vm.findClass "RulerWord$Council" = some m.cls := hown
  have hl : lv_has ls 3 [(0, .ref (ad 5)), (1, .ref (ad 1))] := hl
  have hfr : (∀ b, b ≠ (ad 1) → b ≠ (ad 5) → f b = f b) := fun b z0_ z1_ => rfl
  obtain ⟨hd1, hd2, hd3, hd4, hd5⟩ := hDI
  have hb0 := bitI_0 (th 9)
  have hbs := bitI_s (th 9)
  refine lv_aload_n hx hb dX2_readPiece_0 rfl (lv_at hl 1 rfl) ?_
  refine call_i (run_S (rm := rm_X2_pieceOf) hx hb hml hown hts (s_X2_pieceOf l g ad th _ _ _  hst hT ) cS_X2_pieceOf wg_628 ⟨Nat.le_of_ble_eq_true rfl, Nat.le_of_ble_eq_true rfl⟩ hG hE hA hP hD hS rfl hl.1 (As := [.ref (ad 1)]) (rest := []) rfl (Nat.le_of_ble_eq_true rfl) dX2_readPiece_1 ⟨Nat.le_of_ble_eq_true rfl, Nat.le_of_ble_eq_true rfl⟩) hA hD hS (fun r1 L2 f3 H locs hp4 hP hD hS => ?_)
  obtain ⟨eL5L, eL5T, eL5R⟩ := hp4
  have eL5L : L2 = L := eL5L
  have eL5T : f3 = f := eL5T
  rw [eL5L, eL5T] at hP hD
  have eL5R : In r1 (-1) 5 := eL5R
  refine lv_istore_n (lv' := [(2, .int r1), (0, .ref (ad 5)), (1, .ref (ad 1))]) hx hb dX2_readPiece_4 rfl hl (by decide) rfl (fun ls hl => ?_)
  refine lv_iload_n hx hb dX2_readPiece_5 rfl (lv_at hl 0 rfl) ?_
  refine lv_iconst (v := (-1)) hx hb dX2_readPiece_6 (by decide) ?_
  refine lv_icmp_eq (tgt := 18) hx hb dX2_readPiece_7 (by decide) (fun c6 => ?_) (fun c6 => ?_)
  ·
    have ocm1 : ((-1) : Int32).toInt = (-1) := by decide
    have cc7 : r1.toInt = ((-1) : Int32).toInt := congrArg Int32.toInt c6
    have hb8 : In r1 (-1) (-1) := In.eq1 eL5R (⟨by decide, by decide⟩ : In (-1) (-1) (-1)) cc7 (by omega) (by omega)
    refine lv_iconst (v := 0) hx hb dX2_readPiece_18 (by decide) ?_
    exact ret_i (ty := .boolean) hx hb hr hlocks (rfl) hP hD hS (Nat.le_of_ble_eq_true rfl) (Nat.le_of_ble_eq_true rfl) (⟨rfl, ⟨th 9, th 7, th 8, Or.inl (by decide), TI.cast hT (by funext q; simp only [gset]; (repeat' split); all_goals first | rfl | omega | (subst_vars; rfl) | (exfalso; omega))⟩, hfr, (⟨by decide, by decide⟩ : In 0 0 1)⟩) dX2_readPiece_19
  ·
    have ocm1 : ((-1) : Int32).toInt = (-1) := by decide
    have cc9 : r1.toInt ≠ ((-1) : Int32).toInt := i32_ne c6
    have hb10 : In r1 0 5 := In.ne1 eL5R (⟨by decide, by decide⟩ : In (-1) (-1) (-1)) cc9 (by omega) (by omega)
    refine lv_aload_n hx hb dX2_readPiece_10 rfl (lv_at hl 1 rfl) ?_
    refine lv_iload_n hx hb dX2_readPiece_11 rfl (lv_at hl 0 rfl) ?_
    obtain ⟨v0_11, v1_11, v2_11, v3_11, v4_11, v5_11, v6_11, v7_11, hf12, hv0_11, hv1_11, hg1_11, hv2_11, hv3_11, hv5_11, hg5_11, hv6_11, hv7_11, hg7_11⟩ := hT.1 5 (by decide)
    refine call_i (run_V (rm := rm_X2_isTold) hx hb hml hown hts (s_X2_isTold l g ad th _ _ _ r1 hst hT hb10) cV_X2_isTold wg_640 ⟨Nat.le_of_ble_eq_true rfl, Nat.le_of_ble_eq_true rfl⟩ hG hE hA hP hD hS (hst.1 5 (by decide)) hf12 rfl rfl hl.1 (As := [.int r1]) (rest := []) rfl (Nat.le_of_ble_eq_true rfl) dX2_readPiece_12 ⟨Nat.le_of_ble_eq_true rfl, Nat.le_of_ble_eq_true rfl⟩) hA hD hS (fun r13 L14 f15 H locs hp16 hP hD hS => ?_)
    obtain ⟨eL17L, eL17T, eL17R, eL17X0⟩ := hp16
    have eL17L : L14 = L := eL17L
    have eL17T : f15 = f := eL17T
    rw [eL17L, eL17T] at hP hD
    have eL17R : In r13 0 1 := eL17R
    have hit18 : r13.toInt = bitI (th 9) r1.toInt := eL17X0
    refine lv_if_eq (tgt := 20) hx hb dX2_readPiece_15 (by decide) (fun c19 => ?_) (fun c19 => ?_)
    ·
      have oc0 : (0 : Int32).toInt = 0 := by decide
      have cc20 : r13.toInt = (0 : Int32).toInt := congrArg Int32.toInt c19
      have hb21 : In r13 0 0 := In.eq1 eL17R (⟨by decide, by decide⟩ : In 0 0 0) cc20 (by omega) (by omega)
      refine lv_iload_n hx hb dX2_readPiece_20 rfl (lv_at hl 0 rfl) ?_
      refine lv_iconst (v := 3) hx hb dX2_readPiece_21 (by decide) ?_
      have hJ40 : ∀ (H : Heap) (locs : List Loc) (ls : Array Slot), va_P g.1 vwCl (va_pl L f) H → va_D A (va_pl L f) → va_S A s.heap H locs → (r1.toInt ≠ 4 ∨ bitI (th 9) 0 = 1) → lv_has ls 3 [(0, .ref (ad 5)), (1, .ref (ad 1)), (2, .int r1)] → W p l e rm_X2_readPiece s m [.ref (ad 5), .ref (ad 1)].toArray below meth c H locs 0 0 (MQ below (va_Qi (po_X2_readPiece g ad th L f ) (PstB g A) A) [.ref (ad 5), .ref (ad 1)].toArray s rm_X2_readPiece.cells rm_X2_readPiece.slots A) (F0 m 40 ls []) := by
        intro H locs ls hP hD hS hinv40_0 hl
        refine lv_aload_n hx hb dX2_readPiece_40 rfl (lv_at hl 0 rfl) ?_
        refine lv_dup hx hb dX2_readPiece_41 rfl ?_
        refine pl_get (v := .int v7_11) hx hb hts (fun w h => mT (inX2 w h)) hown hG.1 hP (hst.1 5 (by decide)) hf12 rfl 7 (by decide) (hts _ (mT wg_245)) (fun _ h => h) rfl dX2_readPiece_42 ?_
        refine lv_iconst (v := 1) hx hb dX2_readPiece_45 (by decide) ?_
        refine lv_iload_n hx hb dX2_readPiece_46 rfl (lv_at hl 2 rfl) ?_
        refine lv_ishl hx hb dX2_readPiece_47 ?_
        refine lv_topi (fun x22 ex22 => ?_)
        have hb23 : In x22 1 32 := ex22 ▸ In.shl (⟨by decide, by decide⟩ : In 1 1 1) hb10 (by decide) (by decide) (by decide) (by decide) (by decide) (by decide)
        refine lv_ior hx hb dX2_readPiece_48 ?_
        refine lv_topi (fun x24 ex24 => ?_)
        have hb25 : In x24 0 63 := ex24 ▸ In.or 6 hv7_11 hb23 (by decide) (by decide) (by decide) (by decide) (by decide)
        have hoa : x24.toInt = th 9 + 2 ^ r1.toInt.toNat := (or_add ex22 ex24 hb10 hv7_11 (by rw [hg7_11]; omega)).trans (by rw [hg7_11])
        have hb26 : In x24 0 63 := by rw [ex24]; exact In.or 6 hv7_11 hb23 (by decide) (by decide) (by decide) (by decide) (by decide)
        refine pl_put (ty := .int) (v := .int x24) (fs' := [.int v0_11, .int v1_11, .int v2_11, .int v3_11, .int v4_11, .int v5_11, .int v6_11, .int x24]) hx hb hts (fun w h => mT (inX2 w h)) tyX2 tyX2_ok nmX2 hown hG.1 hP hD hS (hst.1 5 (by decide)) hf12 rfl 7 (by decide) (hts _ (mT wg_245)) (fun _ h => h) rfl (by decide +kernel) (rfl) (rfl) (Nat.le_of_ble_eq_true rfl) rfl dX2_readPiece_49 (fun H locs f27 hf28 ho29 hP hD hS => ?_)
        have hfr : (∀ b, b ≠ (ad 1) → b ≠ (ad 5) → f27 b = f b) := fun b z0_ z1_ => (ho29 b z1_).trans (hfr b z0_ z1_)
        refine lv_iload_n hx hb dX2_readPiece_52 rfl (lv_at hl 2 rfl) ?_
        refine lv_iconst (v := 5) hx hb dX2_readPiece_53 (by decide) ?_
        have hT := TI.updAG (th' := (gset th 9 (x24.toInt))) hT hst (k := 5) (by decide) hf28 ho29 ⟨v0_11, v1_11, v2_11, v3_11, v4_11, v5_11, v6_11, x24, rfl, hv0_11, hv1_11, (by rw [hg1_11]; simp [gset]), hv2_11, hv3_11, hv5_11, (by rw [hg5_11]; simp [gset]), hv6_11, hb26, (by simp [gset])⟩ (fun q hq => ((gset_ne (own_ne hq (k := 9) (by decide) rfl)).trans rfl))
        have hT : TI g ad (gset th 9 x24.toInt) f27 := TI.cast hT (by funext q; simp only [gset]; (repeat' split); all_goals first | rfl | omega | (subst_vars; rfl) | (exfalso; omega))
        refine lv_icmp_ne (tgt := 64) hx hb dX2_readPiece_54 (by decide) (fun c30 => ?_) (fun c30 => ?_)
        ·
          have oc5 : (5 : Int32).toInt = 5 := by decide
          have cc31 : r1.toInt ≠ (5 : Int32).toInt := i32_ne c30
          have hb32 : In r1 0 4 := In.ne1 hb10 (⟨by decide, by decide⟩ : In 5 5 5) cc31 (by omega) (by omega)
          refine lv_aload_n hx hb dX2_readPiece_64 rfl (lv_at hl 1 rfl) ?_
          obtain ⟨v1_33, v2_33, v3_33, v4_33, hf34, hv1_33, hv2_33, hv3_33, hv4_33⟩ := hT.1 1 (by decide)
          refine call_v (run_VN (rm := rm_X8_nextPart) hx hb hml hown hts (s_X8_nextPart l g ad (gset th 9 x24.toInt) _ _ _  hst hT ) cV_X8_nextPart wn_623 ⟨Nat.le_of_ble_eq_true rfl, Nat.le_of_ble_eq_true rfl⟩ hG hE hA hP hD hS (hst.1 1 (by decide)) hf34 rfl rfl hl.1 (As := []) (rest := []) rfl (Nat.le_of_ble_eq_true rfl) dX2_readPiece_65 ⟨Nat.le_of_ble_eq_true rfl, Nat.le_of_ble_eq_true rfl⟩) hA hD hS (fun L36 f37 H locs hp38 hP hD hS => ?_)
          obtain ⟨eL39L, eL39T, eL39F⟩ := hp38
          have eL39L : L36 = L := eL39L
          rw [eL39L] at hP hD
          have hT : TI g ad (gset th 9 x24.toInt) f37 := eL39T
          have eL39F : ∀ b, b ≠ (ad 1) → f37 b = f27 b := eL39F
          have hfr : (∀ b, b ≠ (ad 1) → b ≠ (ad 5) → f37 b = f b) := fun b z0_ z1_ => (eL39F b z0_).trans (hfr b z0_ z1_)
          refine lv_iload_n hx hb dX2_readPiece_68 rfl (lv_at hl 2 rfl) ?_
          by_cases c40 : r1 = 0
          ·
            refine lv_tableIn (off := 31) (tgt := 100) hx hb dX2_readPiece_69 (by rw [c40]; decide) (by rw [c40]; decide) (by rw [c40]; decide) (by decide) ?_
            have hb41 : In r1 0 0 := by rw [c40]; exact ⟨by decide, by decide⟩
            have hpk : r1.toInt = 0 := (by obtain ⟨o0a, o0b⟩ := (hb41 : In _ _ _); omega)
            have hp2 : (2 : Int) ^ r1.toInt.toNat = 1 := by rw [hpk]; rfl
            have hbk : bitI (th 9) r1.toInt = bitI (th 9) 0 := by rw [hpk]
            refine lv_aload_n hx hb dX2_readPiece_100 rfl (lv_at hl 0 rfl) ?_
            refine lv_aload_n hx hb dX2_readPiece_101 rfl (lv_at hl 1 rfl) ?_
            refine lv_iconst (v := 3) hx hb dX2_readPiece_102 (by decide) ?_
            refine lv_bipush (v := 9) hx hb dX2_readPiece_103 (by decide) ?_
            obtain ⟨v1_42, v2_42, v3_42, v4_42, hf43, hv1_42, hv2_42, hv3_42, hv4_42⟩ := hT.1 1 (by decide)
            refine call_i (run_VN (rm := rm_X8_number_3_9) hx hb hml hown hts (s_X8_number_3_9 l g ad (gset th 9 x24.toInt) _ _ _  hst hT ) cV_X8_number wn_647 ⟨Nat.le_of_ble_eq_true rfl, Nat.le_of_ble_eq_true rfl⟩ hG hE hA hP hD hS (hst.1 1 (by decide)) hf43 rfl rfl hl.1 (As := [.int 3, .int 9]) (rest := [.ref (ad 5)]) rfl (Nat.le_of_ble_eq_true rfl) dX2_readPiece_105 ⟨Nat.le_of_ble_eq_true rfl, Nat.le_of_ble_eq_true rfl⟩) hA hD hS (fun r44 L45 f46 H locs hp47 hP hD hS => ?_)
            obtain ⟨eL48L, eL48T, eL48R, eL48X0⟩ := hp47
            have eL48L : L45 = L := eL48L
            have eL48T : f46 = f37 := eL48T
            rw [eL48L, eL48T] at hP hD
            have eL48R : In r44 (-1) 9 := eL48R
            have eL48X0n := eL48X0
            obtain ⟨v0_49, v1_49, v2_49, v3_49, v4_49, v5_49, v6_49, v7_49, hf50, hv0_49, hv1_49, hg1_49, hv2_49, hv3_49, hv5_49, hg5_49, hv6_49, hv7_49, hg7_49⟩ := hT.1 5 (by decide)
            have hg1_49 : v1_49.toInt = th 7 := hg1_49
            have hg5_49 : v5_49.toInt = th 8 := hg5_49
            have hg7_49 : v7_49.toInt = x24.toInt := hg7_49
            refine pl_put (ty := .int) (v := .int r44) (fs' := [.int v0_49, .int r44, .int v2_49, .int v3_49, .int v4_49, .int v5_49, .int v6_49, .int v7_49]) hx hb hts (fun w h => mT (inX2 w h)) tyX2 tyX2_ok nmX2 hown hG.1 hP hD hS (hst.1 5 (by decide)) hf50 rfl 1 (by decide) (hts _ (mT wg_228)) (fun _ h => h) rfl (by decide +kernel) (rfl) (rfl) (Nat.le_of_ble_eq_true rfl) rfl dX2_readPiece_108 (fun H locs f51 hf52 ho53 hP hD hS => ?_)
            have hf54 := (ho53 (ad 1) (hst.ne (by decide) (by decide) (by decide))).trans hf43
            have hfr : (∀ b, b ≠ (ad 1) → b ≠ (ad 5) → f51 b = f b) := fun b z0_ z1_ => (ho53 b z1_).trans (hfr b z0_ z1_)
            refine lv_aload_n hx hb dX2_readPiece_111 rfl (lv_at hl 0 rfl) ?_
            refine pl_get (v := .int r44) hx hb hts (fun w h => mT (inX2 w h)) hown hG.1 hP (hst.1 5 (by decide)) hf52 rfl 1 (by decide) (hts _ (mT wg_228)) (fun _ h => h) rfl dX2_readPiece_112 ?_
            refine lv_iconst (v := (-1)) hx hb dX2_readPiece_115 (by decide) ?_
            have hT := TI.updAG (th' := (gset (gset th 9 x24.toInt) 7 (r44.toInt))) hT hst (k := 5) (by decide) hf52 ho53 ⟨v0_49, r44, v2_49, v3_49, v4_49, v5_49, v6_49, v7_49, rfl, hv0_49, eL48R, (by simp [gset]), hv2_49, hv3_49, hv5_49, (by rw [hg5_49]; simp [gset]), hv6_49, hv7_49, (by rw [hg7_49]; simp [gset])⟩ (fun q hq => ((gset_ne (own_ne hq (k := 7) (by decide) rfl)).trans rfl))
            have hT : TI g ad (gset (gset th 9 x24.toInt) 7 r44.toInt) f51 := TI.cast hT (by funext q; simp only [gset]; (repeat' split); all_goals first | rfl | omega | (subst_vars; rfl) | (exfalso; omega))
            refine lv_icmp_eq (tgt := 123) hx hb dX2_readPiece_116 (by decide) (fun c55 => ?_) (fun c55 => ?_)
            ·
              have ocm1 : ((-1) : Int32).toInt = (-1) := by decide
              have cc56 : r44.toInt = ((-1) : Int32).toInt := congrArg Int32.toInt c55
              have hb57 : In r44 (-1) (-1) := In.eq1 eL48R (⟨by decide, by decide⟩ : In (-1) (-1) (-1)) cc56 (by omega) (by omega)
              refine lv_iconst (v := 0) hx hb dX2_readPiece_123 (by decide) ?_
              exact ret_i (ty := .boolean) hx hb hr hlocks (rfl) hP hD hS (Nat.le_of_ble_eq_true rfl) (Nat.le_of_ble_eq_true rfl) (⟨rfl, ⟨x24.toInt, r44.toInt, th 8, Or.inl (by decide), TI.cast hT (by funext q; simp only [gset]; (repeat' split); all_goals first | rfl | omega | (subst_vars; rfl) | (exfalso; omega))⟩, hfr, (⟨by decide, by decide⟩ : In 0 0 1)⟩) dX2_readPiece_124
            ·
              have ocm1 : ((-1) : Int32).toInt = (-1) := by decide
              have cc58 : r44.toInt ≠ ((-1) : Int32).toInt := i32_ne c55
              have hb59 : In r44 0 9 := In.ne1 eL48R (⟨by decide, by decide⟩ : In (-1) (-1) (-1)) cc58 (by omega) (by omega)
              refine lv_iconst (v := 1) hx hb dX2_readPiece_119 (by decide) ?_
              refine lv_goto (tgt := 124) hx hb dX2_readPiece_120 (by decide) ?_
              exact ret_i (ty := .boolean) hx hb hr hlocks (rfl) hP hD hS (Nat.le_of_ble_eq_true rfl) (Nat.le_of_ble_eq_true rfl) (⟨rfl, ⟨x24.toInt, r44.toInt, th 8, Or.inr ⟨(by obtain ⟨o0a, o0b⟩ := (hb23 : In _ _ _); obtain ⟨o1a, o1b⟩ := (hb26 : In _ _ _); obtain ⟨o2a, o2b⟩ := (hb59 : In _ _ _); omega), (by obtain ⟨o0a, o0b⟩ := (hb23 : In _ _ _); obtain ⟨o1a, o1b⟩ := (hb26 : In _ _ _); obtain ⟨o2a, o2b⟩ := (hb59 : In _ _ _); omega), (by obtain ⟨o0a, o0b⟩ := (hb23 : In _ _ _); obtain ⟨o1a, o1b⟩ := (hb26 : In _ _ _); obtain ⟨o2a, o2b⟩ := (hb59 : In _ _ _); omega), Or.inl (by omega), (by obtain ⟨o0a, o0b⟩ := (hb23 : In _ _ _); obtain ⟨o1a, o1b⟩ := (hb26 : In _ _ _); obtain ⟨o2a, o2b⟩ := (hb59 : In _ _ _); omega)⟩, TI.cast hT (by funext q; simp only [gset]; (repeat' split); all_goals first | rfl | omega | (subst_vars; rfl) | (exfalso; omega))⟩, hfr, (⟨by decide, by decide⟩ : In 1 0 1)⟩) dX2_readPiece_124
          by_cases c60 : r1 = 1
          ·
            refine lv_tableIn (off := 56) (tgt := 125) hx hb dX2_readPiece_69 (by rw [c60]; decide) (by rw [c60]; decide) (by rw [c60]; decide) (by decide) ?_
            have hb61 : In r1 1 1 := by rw [c60]; exact ⟨by decide, by decide⟩
            have hpk : r1.toInt = 1 := (by obtain ⟨o0a, o0b⟩ := (hb61 : In _ _ _); omega)
            have hp2 : (2 : Int) ^ r1.toInt.toNat = 2 := by rw [hpk]; rfl
            have hbk : bitI (th 9) r1.toInt = bitI (th 9) 1 := by rw [hpk]
            refine lv_aload_n hx hb dX2_readPiece_125 rfl (lv_at hl 0 rfl) ?_
            refine lv_aload_n hx hb dX2_readPiece_126 rfl (lv_at hl 1 rfl) ?_
            refine lv_iconst (v := 0) hx hb dX2_readPiece_127 (by decide) ?_
            refine lv_iconst (v := 4) hx hb dX2_readPiece_128 (by decide) ?_
            obtain ⟨v1_62, v2_62, v3_62, v4_62, hf63, hv1_62, hv2_62, hv3_62, hv4_62⟩ := hT.1 1 (by decide)
            refine call_i (run_VN (rm := rm_X8_number_0_4) hx hb hml hown hts (s_X8_number_0_4 l g ad (gset th 9 x24.toInt) _ _ _  hst hT ) cV_X8_number wn_647 ⟨Nat.le_of_ble_eq_true rfl, Nat.le_of_ble_eq_true rfl⟩ hG hE hA hP hD hS (hst.1 1 (by decide)) hf63 rfl rfl hl.1 (As := [.int 0, .int 4]) (rest := [.ref (ad 5)]) rfl (Nat.le_of_ble_eq_true rfl) dX2_readPiece_129 ⟨Nat.le_of_ble_eq_true rfl, Nat.le_of_ble_eq_true rfl⟩) hA hD hS (fun r64 L65 f66 H locs hp67 hP hD hS => ?_)
            obtain ⟨eL68L, eL68T, eL68R, eL68X0⟩ := hp67
            have eL68L : L65 = L := eL68L
            have eL68T : f66 = f37 := eL68T
            rw [eL68L, eL68T] at hP hD
            have eL68R : In r64 (-1) 4 := eL68R
            have eL68X0n := eL68X0
            obtain ⟨v0_69, v1_69, v2_69, v3_69, v4_69, v5_69, v6_69, v7_69, hf70, hv0_69, hv1_69, hg1_69, hv2_69, hv3_69, hv5_69, hg5_69, hv6_69, hv7_69, hg7_69⟩ := hT.1 5 (by decide)
            have hg1_69 : v1_69.toInt = th 7 := hg1_69
            have hg5_69 : v5_69.toInt = th 8 := hg5_69
            have hg7_69 : v7_69.toInt = x24.toInt := hg7_69
            refine pl_put (ty := .int) (v := .int r64) (fs' := [.int v0_69, .int v1_69, .int r64, .int v3_69, .int v4_69, .int v5_69, .int v6_69, .int v7_69]) hx hb hts (fun w h => mT (inX2 w h)) tyX2 tyX2_ok nmX2 hown hG.1 hP hD hS (hst.1 5 (by decide)) hf70 rfl 2 (by decide) (hts _ (mT wg_232)) (fun _ h => h) rfl (by decide +kernel) (rfl) (rfl) (Nat.le_of_ble_eq_true rfl) rfl dX2_readPiece_132 (fun H locs f71 hf72 ho73 hP hD hS => ?_)
            have hf74 := (ho73 (ad 1) (hst.ne (by decide) (by decide) (by decide))).trans hf63
            have hfr : (∀ b, b ≠ (ad 1) → b ≠ (ad 5) → f71 b = f b) := fun b z0_ z1_ => (ho73 b z1_).trans (hfr b z0_ z1_)
            refine lv_aload_n hx hb dX2_readPiece_135 rfl (lv_at hl 0 rfl) ?_
            refine pl_get (v := .int r64) hx hb hts (fun w h => mT (inX2 w h)) hown hG.1 hP (hst.1 5 (by decide)) hf72 rfl 2 (by decide) (hts _ (mT wg_232)) (fun _ h => h) rfl dX2_readPiece_136 ?_
            refine lv_iconst (v := (-1)) hx hb dX2_readPiece_139 (by decide) ?_
            have hT := TI.updA hT hst (k := 5) (by decide) hf72 ho73 ⟨v0_69, v1_69, r64, v3_69, v4_69, v5_69, v6_69, v7_69, rfl, hv0_69, hv1_69, hg1_69, eL68R, hv3_69, hv5_69, hg5_69, hv6_69, hv7_69, hg7_69⟩
            refine lv_icmp_eq (tgt := 147) hx hb dX2_readPiece_140 (by decide) (fun c75 => ?_) (fun c75 => ?_)
            ·
              have ocm1 : ((-1) : Int32).toInt = (-1) := by decide
              have cc76 : r64.toInt = ((-1) : Int32).toInt := congrArg Int32.toInt c75
              have hb77 : In r64 (-1) (-1) := In.eq1 eL68R (⟨by decide, by decide⟩ : In (-1) (-1) (-1)) cc76 (by omega) (by omega)
              refine lv_iconst (v := 0) hx hb dX2_readPiece_147 (by decide) ?_
              exact ret_i (ty := .boolean) hx hb hr hlocks (rfl) hP hD hS (Nat.le_of_ble_eq_true rfl) (Nat.le_of_ble_eq_true rfl) (⟨rfl, ⟨x24.toInt, th 7, th 8, Or.inl (by decide), TI.cast hT (by funext q; simp only [gset]; (repeat' split); all_goals first | rfl | omega | (subst_vars; rfl) | (exfalso; omega))⟩, hfr, (⟨by decide, by decide⟩ : In 0 0 1)⟩) dX2_readPiece_148
            ·
              have ocm1 : ((-1) : Int32).toInt = (-1) := by decide
              have cc78 : r64.toInt ≠ ((-1) : Int32).toInt := i32_ne c75
              have hb79 : In r64 0 4 := In.ne1 eL68R (⟨by decide, by decide⟩ : In (-1) (-1) (-1)) cc78 (by omega) (by omega)
              refine lv_iconst (v := 1) hx hb dX2_readPiece_143 (by decide) ?_
              refine lv_goto (tgt := 148) hx hb dX2_readPiece_144 (by decide) ?_
              exact ret_i (ty := .boolean) hx hb hr hlocks (rfl) hP hD hS (Nat.le_of_ble_eq_true rfl) (Nat.le_of_ble_eq_true rfl) (⟨rfl, ⟨x24.toInt, th 7, th 8, Or.inr ⟨(by obtain ⟨o0a, o0b⟩ := (hb23 : In _ _ _); obtain ⟨o1a, o1b⟩ := (hb26 : In _ _ _); omega), (by obtain ⟨o0a, o0b⟩ := (hb23 : In _ _ _); obtain ⟨o1a, o1b⟩ := (hb26 : In _ _ _); omega), (by obtain ⟨o0a, o0b⟩ := (hb23 : In _ _ _); obtain ⟨o1a, o1b⟩ := (hb26 : In _ _ _); omega), hd4, (by obtain ⟨o0a, o0b⟩ := (hb23 : In _ _ _); obtain ⟨o1a, o1b⟩ := (hb26 : In _ _ _); omega)⟩, TI.cast hT (by funext q; simp only [gset]; (repeat' split); all_goals first | rfl | omega | (subst_vars; rfl) | (exfalso; omega))⟩, hfr, (⟨by decide, by decide⟩ : In 1 0 1)⟩) dX2_readPiece_148
          by_cases c80 : r1 = 2
          ·
            refine lv_tableIn (off := 80) (tgt := 149) hx hb dX2_readPiece_69 (by rw [c80]; decide) (by rw [c80]; decide) (by rw [c80]; decide) (by decide) ?_
            have hb81 : In r1 2 2 := by rw [c80]; exact ⟨by decide, by decide⟩
            have hpk : r1.toInt = 2 := (by obtain ⟨o0a, o0b⟩ := (hb81 : In _ _ _); omega)
            have hp2 : (2 : Int) ^ r1.toInt.toNat = 4 := by rw [hpk]; rfl
            have hbk : bitI (th 9) r1.toInt = bitI (th 9) 2 := by rw [hpk]
            refine lv_aload_n hx hb dX2_readPiece_149 rfl (lv_at hl 0 rfl) ?_
            refine lv_aload_n hx hb dX2_readPiece_150 rfl (lv_at hl 1 rfl) ?_
            refine lv_iconst (v := 1) hx hb dX2_readPiece_151 (by decide) ?_
            refine lv_bipush (v := 6) hx hb dX2_readPiece_152 (by decide) ?_
            obtain ⟨v1_82, v2_82, v3_82, v4_82, hf83, hv1_82, hv2_82, hv3_82, hv4_82⟩ := hT.1 1 (by decide)
            refine call_i (run_VN (rm := rm_X8_number_1_6) hx hb hml hown hts (s_X8_number_1_6 l g ad (gset th 9 x24.toInt) _ _ _  hst hT ) cV_X8_number wn_647 ⟨Nat.le_of_ble_eq_true rfl, Nat.le_of_ble_eq_true rfl⟩ hG hE hA hP hD hS (hst.1 1 (by decide)) hf83 rfl rfl hl.1 (As := [.int 1, .int 6]) (rest := [.ref (ad 5)]) rfl (Nat.le_of_ble_eq_true rfl) dX2_readPiece_154 ⟨Nat.le_of_ble_eq_true rfl, Nat.le_of_ble_eq_true rfl⟩) hA hD hS (fun r84 L85 f86 H locs hp87 hP hD hS => ?_)
            obtain ⟨eL88L, eL88T, eL88R, eL88X0⟩ := hp87
            have eL88L : L85 = L := eL88L
            have eL88T : f86 = f37 := eL88T
            rw [eL88L, eL88T] at hP hD
            have eL88R : In r84 (-1) 6 := eL88R
            have eL88X0n := eL88X0
            obtain ⟨v0_89, v1_89, v2_89, v3_89, v4_89, v5_89, v6_89, v7_89, hf90, hv0_89, hv1_89, hg1_89, hv2_89, hv3_89, hv5_89, hg5_89, hv6_89, hv7_89, hg7_89⟩ := hT.1 5 (by decide)
            have hg1_89 : v1_89.toInt = th 7 := hg1_89
            have hg5_89 : v5_89.toInt = th 8 := hg5_89
            have hg7_89 : v7_89.toInt = x24.toInt := hg7_89
            refine pl_put (ty := .int) (v := .int r84) (fs' := [.int v0_89, .int v1_89, .int v2_89, .int r84, .int v4_89, .int v5_89, .int v6_89, .int v7_89]) hx hb hts (fun w h => mT (inX2 w h)) tyX2 tyX2_ok nmX2 hown hG.1 hP hD hS (hst.1 5 (by decide)) hf90 rfl 3 (by decide) (hts _ (mT wg_234)) (fun _ h => h) rfl (by decide +kernel) (rfl) (rfl) (Nat.le_of_ble_eq_true rfl) rfl dX2_readPiece_157 (fun H locs f91 hf92 ho93 hP hD hS => ?_)
            have hf94 := (ho93 (ad 1) (hst.ne (by decide) (by decide) (by decide))).trans hf83
            have hfr : (∀ b, b ≠ (ad 1) → b ≠ (ad 5) → f91 b = f b) := fun b z0_ z1_ => (ho93 b z1_).trans (hfr b z0_ z1_)
            refine lv_aload_n hx hb dX2_readPiece_160 rfl (lv_at hl 0 rfl) ?_
            refine pl_get (v := .int r84) hx hb hts (fun w h => mT (inX2 w h)) hown hG.1 hP (hst.1 5 (by decide)) hf92 rfl 3 (by decide) (hts _ (mT wg_234)) (fun _ h => h) rfl dX2_readPiece_161 ?_
            refine lv_iconst (v := (-1)) hx hb dX2_readPiece_164 (by decide) ?_
            have hT := TI.updA hT hst (k := 5) (by decide) hf92 ho93 ⟨v0_89, v1_89, v2_89, r84, v4_89, v5_89, v6_89, v7_89, rfl, hv0_89, hv1_89, hg1_89, hv2_89, eL88R, hv5_89, hg5_89, hv6_89, hv7_89, hg7_89⟩
            refine lv_icmp_eq (tgt := 172) hx hb dX2_readPiece_165 (by decide) (fun c95 => ?_) (fun c95 => ?_)
            ·
              have ocm1 : ((-1) : Int32).toInt = (-1) := by decide
              have cc96 : r84.toInt = ((-1) : Int32).toInt := congrArg Int32.toInt c95
              have hb97 : In r84 (-1) (-1) := In.eq1 eL88R (⟨by decide, by decide⟩ : In (-1) (-1) (-1)) cc96 (by omega) (by omega)
              refine lv_iconst (v := 0) hx hb dX2_readPiece_172 (by decide) ?_
              exact ret_i (ty := .boolean) hx hb hr hlocks (rfl) hP hD hS (Nat.le_of_ble_eq_true rfl) (Nat.le_of_ble_eq_true rfl) (⟨rfl, ⟨x24.toInt, th 7, th 8, Or.inl (by decide), TI.cast hT (by funext q; simp only [gset]; (repeat' split); all_goals first | rfl | omega | (subst_vars; rfl) | (exfalso; omega))⟩, hfr, (⟨by decide, by decide⟩ : In 0 0 1)⟩) dX2_readPiece_173
            ·
              have ocm1 : ((-1) : Int32).toInt = (-1) := by decide
              have cc98 : r84.toInt ≠ ((-1) : Int32).toInt := i32_ne c95
              have hb99 : In r84 0 6 := In.ne1 eL88R (⟨by decide, by decide⟩ : In (-1) (-1) (-1)) cc98 (by omega) (by omega)
              refine lv_iconst (v := 1) hx hb dX2_readPiece_168 (by decide) ?_
              refine lv_goto (tgt := 173) hx hb dX2_readPiece_169 (by decide) ?_
              exact ret_i (ty := .boolean) hx hb hr hlocks (rfl) hP hD hS (Nat.le_of_ble_eq_true rfl) (Nat.le_of_ble_eq_true rfl) (⟨rfl, ⟨x24.toInt, th 7, th 8, Or.inr ⟨(by obtain ⟨o0a, o0b⟩ := (hb23 : In _ _ _); obtain ⟨o1a, o1b⟩ := (hb26 : In _ _ _); omega), (by obtain ⟨o0a, o0b⟩ := (hb23 : In _ _ _); obtain ⟨o1a, o1b⟩ := (hb26 : In _ _ _); omega), (by obtain ⟨o0a, o0b⟩ := (hb23 : In _ _ _); obtain ⟨o1a, o1b⟩ := (hb26 : In _ _ _); omega), hd4, (by obtain ⟨o0a, o0b⟩ := (hb23 : In _ _ _); obtain ⟨o1a, o1b⟩ := (hb26 : In _ _ _); omega)⟩, TI.cast hT (by funext q; simp only [gset]; (repeat' split); all_goals first | rfl | omega | (subst_vars; rfl) | (exfalso; omega))⟩, hfr, (⟨by decide, by decide⟩ : In 1 0 1)⟩) dX2_readPiece_173
          by_cases c100 : r1 = 3
          ·
            refine lv_tableIn (off := 105) (tgt := 174) hx hb dX2_readPiece_69 (by rw [c100]; decide) (by rw [c100]; decide) (by rw [c100]; decide) (by decide) ?_
            have hb101 : In r1 3 3 := by rw [c100]; exact ⟨by decide, by decide⟩
            have hpk : r1.toInt = 3 := (by obtain ⟨o0a, o0b⟩ := (hb101 : In _ _ _); omega)
            have hp2 : (2 : Int) ^ r1.toInt.toNat = 8 := by rw [hpk]; rfl
            have hbk : bitI (th 9) r1.toInt = bitI (th 9) 3 := by rw [hpk]
            refine lv_aload_n hx hb dX2_readPiece_174 rfl (lv_at hl 0 rfl) ?_
            refine lv_aload_n hx hb dX2_readPiece_175 rfl (lv_at hl 1 rfl) ?_
            obtain ⟨v0_102, v1_102, v2_102, v3_102, v4_102, v5_102, v6_102, v7_102, hf103, hv0_102, hv1_102, hg1_102, hv2_102, hv3_102, hv5_102, hg5_102, hv6_102, hv7_102, hg7_102⟩ := hT.1 5 (by decide)
            have hg1_102 : v1_102.toInt = th 7 := hg1_102
            have hg5_102 : v5_102.toInt = th 8 := hg5_102
            have hg7_102 : v7_102.toInt = x24.toInt := hg7_102
            refine call_i (run_V (rm := rm_X2_readStarts) hx hb hml hown hts (s_X2_readStarts l g ad (gset th 9 x24.toInt) _ _ _  hst hT ) cV_X2_readStarts wg_659 ⟨Nat.le_of_ble_eq_true rfl, Nat.le_of_ble_eq_true rfl⟩ hG hE hA hP hD hS (hst.1 5 (by decide)) hf103 rfl rfl hl.1 (As := [.ref (ad 1)]) (rest := []) rfl (Nat.le_of_ble_eq_true rfl) dX2_readPiece_176 ⟨Nat.le_of_ble_eq_true rfl, Nat.le_of_ble_eq_true rfl⟩) hA hD hS (fun r104 L105 f106 H locs hp107 hP hD hS => ?_)
            obtain ⟨eL108L, eL108T, eL108F, eL108R⟩ := hp107
            have eL108L : L105 = L := eL108L
            rw [eL108L] at hP hD
            have hT : TI g ad (gset th 9 x24.toInt) f106 := eL108T
            have eL108F : ∀ b, b ≠ (ad 5) → f106 b = f37 b := eL108F
            have hfr : (∀ b, b ≠ (ad 1) → b ≠ (ad 5) → f106 b = f b) := fun b z0_ z1_ => (eL108F b z1_).trans (hfr b z0_ z1_)
            have eL108R : In r104 0 1 := eL108R
            exact ret_i (ty := .boolean) hx hb hr hlocks (nar_z eL108R) hP hD hS (Nat.le_of_ble_eq_true rfl) (Nat.le_of_ble_eq_true rfl) (⟨rfl, ⟨x24.toInt, th 7, th 8, Or.inr ⟨(by obtain ⟨o0a, o0b⟩ := (hb23 : In _ _ _); obtain ⟨o1a, o1b⟩ := (hb26 : In _ _ _); omega), (by obtain ⟨o0a, o0b⟩ := (hb23 : In _ _ _); obtain ⟨o1a, o1b⟩ := (hb26 : In _ _ _); omega), (by obtain ⟨o0a, o0b⟩ := (hb23 : In _ _ _); obtain ⟨o1a, o1b⟩ := (hb26 : In _ _ _); omega), hd4, (by obtain ⟨o0a, o0b⟩ := (hb23 : In _ _ _); obtain ⟨o1a, o1b⟩ := (hb26 : In _ _ _); omega)⟩, TI.cast hT (by funext q; simp only [gset]; (repeat' split); all_goals first | rfl | omega | (subst_vars; rfl) | (exfalso; omega))⟩, hfr, eL108R⟩) dX2_readPiece_179
          refine lv_tableOut (tgt := 180) hx hb dX2_readPiece_69 (tb_out (by decide) (by decide) (fun k h1 h2 => ?_)) (by decide) ?_
          · rcases (show k = 0 ∨ k = 1 ∨ k = 2 ∨ k = 3 by omega) with rfl | rfl | rfl | rfl
            · exact fun e => c40 (e.trans (by decide))
            · exact fun e => c60 (e.trans (by decide))
            · exact fun e => c80 (e.trans (by decide))
            · exact fun e => c100 (e.trans (by decide))
          ·
            have csc40 : r1.toInt ≠ 0 := fun e => i32_ne c40 (e.trans (by decide))
            have csc60 : r1.toInt ≠ 1 := fun e => i32_ne c60 (e.trans (by decide))
            have csc80 : r1.toInt ≠ 2 := fun e => i32_ne c80 (e.trans (by decide))
            have csc100 : r1.toInt ≠ 3 := fun e => i32_ne c100 (e.trans (by decide))
            have hb109 : In r1 4 4 := by obtain ⟨q1, q2⟩ := (hb32 : In _ _ _); exact ⟨by omega, by omega⟩
            have hpk : r1.toInt = 4 := (by obtain ⟨o0a, o0b⟩ := (hb109 : In _ _ _); omega)
            have hp2 : (2 : Int) ^ r1.toInt.toNat = 16 := by rw [hpk]; rfl
            have hbk : bitI (th 9) r1.toInt = bitI (th 9) 4 := by rw [hpk]
            refine lv_aload_n hx hb dX2_readPiece_180 rfl (lv_at hl 0 rfl) ?_
            refine lv_aload_n hx hb dX2_readPiece_181 rfl (lv_at hl 1 rfl) ?_
            obtain ⟨v0_110, v1_110, v2_110, v3_110, v4_110, v5_110, v6_110, v7_110, hf111, hv0_110, hv1_110, hg1_110, hv2_110, hv3_110, hv5_110, hg5_110, hv6_110, hv7_110, hg7_110⟩ := hT.1 5 (by decide)
            have hg1_110 : v1_110.toInt = th 7 := hg1_110
            have hg5_110 : v5_110.toInt = th 8 := hg5_110
            have hg7_110 : v7_110.toInt = x24.toInt := hg7_110
            refine call_i (run_V (rm := rm_X2_readFalses) hx hb hml hown hts (s_X2_readFalses l g ad (gset th 9 x24.toInt) _ _ _  hst hT (show th 8 = 0 by omega) (show 3 ≤ th 7 ∧ th 7 ≤ 9 by omega)) cV_X2_readFalses wg_665 ⟨Nat.le_of_ble_eq_true rfl, Nat.le_of_ble_eq_true rfl⟩ hG hE hA hP hD hS (hst.1 5 (by decide)) hf111 rfl rfl hl.1 (As := [.ref (ad 1)]) (rest := []) rfl (Nat.le_of_ble_eq_true rfl) dX2_readPiece_182 ⟨Nat.le_of_ble_eq_true rfl, Nat.le_of_ble_eq_true rfl⟩) hA hD hS (fun r112 L113 f114 H locs hp115 hP hD hS => ?_)
            obtain ⟨eL116L, eL116T, eL116F, eL116R⟩ := hp115
            have eL116L : L113 = L := eL116L
            rw [eL116L] at hP hD
            obtain ⟨zz117, hzz117, eL116T⟩ := eL116T
            have hT : TI g ad (gset (gset th 9 x24.toInt) 8 zz117) f114 := eL116T
            have eL116F : ∀ b, b ≠ (ad 5) → f114 b = f37 b := eL116F
            have hfr : (∀ b, b ≠ (ad 1) → b ≠ (ad 5) → f114 b = f b) := fun b z0_ z1_ => (eL116F b z1_).trans (hfr b z0_ z1_)
            have eL116R : In r112 0 1 := eL116R
            exact ret_i (ty := .boolean) hx hb hr hlocks (nar_z eL116R) hP hD hS (Nat.le_of_ble_eq_true rfl) (Nat.le_of_ble_eq_true rfl) (⟨rfl, ⟨x24.toInt, th 7, zz117, Or.inr ⟨(by obtain ⟨o0a, o0b⟩ := (hb23 : In _ _ _); obtain ⟨o1a, o1b⟩ := (hb26 : In _ _ _); omega), (by obtain ⟨o0a, o0b⟩ := (hb23 : In _ _ _); obtain ⟨o1a, o1b⟩ := (hb26 : In _ _ _); omega), (by obtain ⟨o0a, o0b⟩ := (hb23 : In _ _ _); obtain ⟨o1a, o1b⟩ := (hb26 : In _ _ _); omega), hzz117, (by obtain ⟨o0a, o0b⟩ := (hb23 : In _ _ _); obtain ⟨o1a, o1b⟩ := (hb26 : In _ _ _); omega)⟩, TI.cast hT (by funext q; simp only [gset]; (repeat' split); all_goals first | rfl | omega | (subst_vars; rfl) | (exfalso; omega))⟩, hfr, eL116R⟩) dX2_readPiece_185
        ·
          have oc5 : (5 : Int32).toInt = 5 := by decide
          have cc118 : r1.toInt = (5 : Int32).toInt := congrArg Int32.toInt c30
          have hb119 : In r1 5 5 := In.eq1 hb10 (⟨by decide, by decide⟩ : In 5 5 5) cc118 (by omega) (by omega)
          have hpk : r1.toInt = 5 := (by obtain ⟨o0a, o0b⟩ := (hb119 : In _ _ _); omega)
          have hp2 : (2 : Int) ^ r1.toInt.toNat = 32 := by rw [hpk]; rfl
          have hbk : bitI (th 9) r1.toInt = bitI (th 9) 5 := by rw [hpk]
          refine lv_aload_n hx hb dX2_readPiece_57 rfl (lv_at hl 0 rfl) ?_
          refine lv_iconst (v := 1) hx hb dX2_readPiece_58 (by decide) ?_
          obtain ⟨v0_120, v1_120, v2_120, v3_120, v4_120, v5_120, v6_120, v7_120, hf121, hv0_120, hv1_120, hg1_120, hv2_120, hv3_120, hv5_120, hg5_120, hv6_120, hv7_120, hg7_120⟩ := hT.1 5 (by decide)
          have hg1_120 : v1_120.toInt = th 7 := hg1_120
          have hg5_120 : v5_120.toInt = th 8 := hg5_120
          have hg7_120 : v7_120.toInt = x24.toInt := hg7_120
          refine pl_put (ty := .boolean) (v := .int 1) (fs' := [.int v0_120, .int v1_120, .int v2_120, .int v3_120, .int v4_120, .int v5_120, .int 1, .int v7_120]) hx hb hts (fun w h => mT (inX2 w h)) tyX2 tyX2_ok nmX2 hown hG.1 hP hD hS (hst.1 5 (by decide)) hf121 rfl 6 (by decide) (hts _ (mT wg_241)) (fun _ h => h) rfl (by decide +kernel) (rfl) (rfl) (Nat.le_of_ble_eq_true rfl) rfl dX2_readPiece_59 (fun H locs f122 hf123 ho124 hP hD hS => ?_)
          have hfr : (∀ b, b ≠ (ad 1) → b ≠ (ad 5) → f122 b = f b) := fun b z0_ z1_ => (ho124 b z1_).trans (hfr b z0_ z1_)
          refine lv_iconst (v := 1) hx hb dX2_readPiece_62 (by decide) ?_
          have hT := TI.updA hT hst (k := 5) (by decide) hf123 ho124 ⟨v0_120, v1_120, v2_120, v3_120, v4_120, v5_120, 1, v7_120, rfl, hv0_120, hv1_120, hg1_120, hv2_120, hv3_120, hv5_120, hg5_120, (⟨by decide, by decide⟩ : In 1 0 1), hv7_120, hg7_120⟩
          exact ret_i (ty := .boolean) hx hb hr hlocks (rfl) hP hD hS (Nat.le_of_ble_eq_true rfl) (Nat.le_of_ble_eq_true rfl) (⟨rfl, ⟨x24.toInt, th 7, th 8, Or.inr ⟨(by obtain ⟨o0a, o0b⟩ := (hb23 : In _ _ _); obtain ⟨o1a, o1b⟩ := (hb26 : In _ _ _); omega), (by obtain ⟨o0a, o0b⟩ := (hb23 : In _ _ _); obtain ⟨o1a, o1b⟩ := (hb26 : In _ _ _); omega), (by obtain ⟨o0a, o0b⟩ := (hb23 : In _ _ _); obtain ⟨o1a, o1b⟩ := (hb26 : In _ _ _); omega), hd4, (by obtain ⟨o0a, o0b⟩ := (hb23 : In _ _ _); obtain ⟨o1a, o1b⟩ := (hb26 : In _ _ _); omega)⟩, TI.cast hT (by funext q; simp only [gset]; (repeat' split); all_goals first | rfl | omega | (subst_vars; rfl) | (exfalso; omega))⟩, hfr, (⟨by decide, by decide⟩ : In 1 0 1)⟩) dX2_readPiece_63
      have hJ30 : ∀ (H : Heap) (locs : List Loc) (ls : Array Slot), va_P g.1 vwCl (va_pl L f) H → va_D A (va_pl L f) → va_S A s.heap H locs → lv_has ls 3 [(0, .ref (ad 5)), (1, .ref (ad 1)), (2, .int r1)] → W p l e rm_X2_readPiece s m [.ref (ad 5), .ref (ad 1)].toArray below meth c H locs 0 0 (MQ below (va_Qi (po_X2_readPiece g ad th L f ) (PstB g A) A) [.ref (ad 5), .ref (ad 1)].toArray s rm_X2_readPiece.cells rm_X2_readPiece.slots A) (F0 m 30 ls []) := by
        intro H locs ls hP hD hS hl
        refine lv_aload_n hx hb dX2_readPiece_30 rfl (lv_at hl 0 rfl) ?_
        refine lv_iconst (v := 0) hx hb dX2_readPiece_31 (by decide) ?_
        refine call_i (run_V (rm := rm_X2_isTold) hx hb hml hown hts (s_X2_isTold l g ad th _ _ _ 0 hst hT (⟨by decide, by decide⟩ : In 0 0 5)) cV_X2_isTold wg_640 ⟨Nat.le_of_ble_eq_true rfl, Nat.le_of_ble_eq_true rfl⟩ hG hE hA hP hD hS (hst.1 5 (by decide)) hf12 rfl rfl hl.1 (As := [.int 0]) (rest := []) rfl (Nat.le_of_ble_eq_true rfl) dX2_readPiece_32 ⟨Nat.le_of_ble_eq_true rfl, Nat.le_of_ble_eq_true rfl⟩) hA hD hS (fun r125 L126 f127 H locs hp128 hP hD hS => ?_)
        obtain ⟨eL129L, eL129T, eL129R, eL129X0⟩ := hp128
        have eL129L : L126 = L := eL129L
        have eL129T : f127 = f := eL129T
        rw [eL129L, eL129T] at hP hD
        have eL129R : In r125 0 1 := eL129R
        have hit130 : r125.toInt = bitI (th 9) 0 := eL129X0
        refine lv_if_ne (tgt := 40) hx hb dX2_readPiece_35 (by decide) (fun c131 => ?_) (fun c131 => ?_)
        ·
          have oc0 : (0 : Int32).toInt = 0 := by decide
          have cc132 : r125.toInt ≠ (0 : Int32).toInt := i32_ne c131
          have hb133 : In r125 1 1 := In.ne1 eL129R (⟨by decide, by decide⟩ : In 0 0 0) cc132 (by omega) (by omega)
          exact hJ40 _ _ _ hP hD hS (by obtain ⟨o0a, o0b⟩ := (hb10 : In _ _ _); omega) (lv_sub hl [0, 1, 2] rfl)
        ·
          have oc0 : (0 : Int32).toInt = 0 := by decide
          have cc134 : r125.toInt = (0 : Int32).toInt := congrArg Int32.toInt c131
          have hb135 : In r125 0 0 := In.eq1 eL129R (⟨by decide, by decide⟩ : In 0 0 0) cc134 (by omega) (by omega)
          refine lv_iconst (v := 0) hx hb dX2_readPiece_38 (by decide) ?_
          exact ret_i (ty := .boolean) hx hb hr hlocks (rfl) hP hD hS (Nat.le_of_ble_eq_true rfl) (Nat.le_of_ble_eq_true rfl) (⟨rfl, ⟨th 9, th 7, th 8, Or.inl (by decide), TI.cast hT (by funext q; simp only [gset]; (repeat' split); all_goals first | rfl | omega | (subst_vars; rfl) | (exfalso; omega))⟩, hfr, (⟨by decide, by decide⟩ : In 0 0 1)⟩) dX2_readPiece_39
      refine lv_icmp_eq (tgt := 30) hx hb dX2_readPiece_22 (by decide) (fun c136 => ?_) (fun c136 => ?_)
      ·
        have oc3 : (3 : Int32).toInt = 3 := by decide
        have cc137 : r1.toInt = (3 : Int32).toInt := congrArg Int32.toInt c136
        have hb138 : In r1 3 3 := In.eq1 hb10 (⟨by decide, by decide⟩ : In 3 3 3) cc137 (by omega) (by omega)
        exact hJ30 _ _ _ hP hD hS (lv_sub hl [1, 2, 0] rfl)
      ·
        have oc3 : (3 : Int32).toInt = 3 := by decide
        have cc139 : r1.toInt ≠ (3 : Int32).toInt := i32_ne c136
        refine lv_iload_n hx hb dX2_readPiece_25 rfl (lv_at hl 0 rfl) ?_
        refine lv_iconst (v := 4) hx hb dX2_readPiece_26 (by decide) ?_
        refine lv_icmp_ne (tgt := 40) hx hb dX2_readPiece_27 (by decide) (fun c140 => ?_) (fun c140 => ?_)
        ·
          have oc4 : (4 : Int32).toInt = 4 := by decide
          have cc141 : r1.toInt ≠ (4 : Int32).toInt := i32_ne c140
          exact hJ40 _ _ _ hP hD hS (by obtain ⟨o0a, o0b⟩ := (hb10 : In _ _ _); omega) (lv_sub hl [1, 2, 0] rfl)
        ·
          have oc4 : (4 : Int32).toInt = 4 := by decide
          have cc142 : r1.toInt = (4 : Int32).toInt := congrArg Int32.toInt c140
          have hb143 : In r1 4 4 := In.eq1 hb10 (⟨by decide, by decide⟩ : In 4 4 4) cc142 (by omega) (by omega)
          exact hJ30 _ _ _ hP hD hS (lv_sub hl [1, 2, 0] rfl)
    ·
      have oc0 : (0 : Int32).toInt = 0 := by decide
      have cc144 : r13.toInt ≠ (0 : Int32).toInt := i32_ne c19
      have hb145 : In r13 1 1 := In.ne1 eL17R (⟨by decide, by decide⟩ : In 0 0 0) cc144 (by omega) (by omega)
      refine lv_iconst (v := 0) hx hb dX2_readPiece_18 (by decide) ?_
      exact ret_i (ty := .boolean) hx hb hr hlocks (rfl) hP hD hS (Nat.le_of_ble_eq_true rfl) (Nat.le_of_ble_eq_true rfl) (⟨rfl, ⟨th 9, th 7, th 8, Or.inl (by decide), TI.cast hT (by funext q; simp only [gset]; (repeat' split); all_goals first | rfl | omega | (subst_vars; rfl) | (exfalso; omega))⟩, hfr, (⟨by decide, by decide⟩ : In 0 0 1)⟩) dX2_readPiece_19

abbrev rm_X2_readFrom : Room := { frames := 7, cells := 0, slots := 0, locals := 150 }
abbrev po_X2_readFrom (g : GG) (ad : Nat → Nat) (th : Nat → Int) (L : List Nat) (f : HP)  : Int32 → (List Nat × HP) → Prop := fun r u => u.1 = L ∧ (∃ zt zs zf : Int, (0 ≤ r.toInt ∨ (DIp zt zs zf ∧ zt % 2 = 1)) ∧ TI g ad (gset (gset (gset th 9 zt) 7 zs) 8 zf) u.2) ∧ (∀ b, b ≠ (ad 1) → b ≠ (ad 5) → u.2 b = f b) ∧ In r (-1) 520
set_option maxHeartbeats 4000000 in
set_option maxRecDepth 100000 in
theorem s_X2_readFrom (l : Launch) (g : GG) (ad : Nat → Nat) (th : Nat → Int) (L : List Nat) (f : HP) (sz : Nat)  (hst : ST ad L) (hT : TI g ad th f)  : MtI l g yX2_readFrom cX2_readFrom 3 (some .int) rm_X2_readFrom [.ref (ad 5), .ref (ad 1)] L f sz (po_X2_readFrom g ad th L f ) := by
  refine MtI.of (by decide +kernel) (Nat.le_of_ble_eq_true rfl) ?_
  intro p e s m below meth c A hEn hP hD hS ls hl
  obtain ⟨hx, hb, hr, hml, hown, hlocks, hts, hG, hA, hE, hnm⟩ := hEn
  have hown : s.vm.findClass "RulerWord$Council" = some m.cls := hown
  have hl : lv_has ls 3 [(0, .ref (ad 5)), (1, .ref (ad 1))] := hl
  have hfr : (∀ b, b ≠ (ad 1) → b ≠ (ad 5) → f b = f b) := fun b z0_ z1_ => rfl
  refine lv_aload_n hx hb dX2_readFrom_0 rfl (lv_at hl 0 rfl) ?_
  obtain ⟨v0_1, v1_1, v2_1, v3_1, v4_1, v5_1, v6_1, v7_1, hf2, hv0_1, hv1_1, hg1_1, hv2_1, hv3_1, hv5_1, hg5_1, hv6_1, hv7_1, hg7_1⟩ := hT.1 5 (by decide)
  refine call_v (run_V (rm := rm_X2_clear) hx hb hml hown hts (s_X2_clear l g ad th _ _ _  hst hT ) cV_X2_clear wg_554 ⟨Nat.le_of_ble_eq_true rfl, Nat.le_of_ble_eq_true rfl⟩ hG hE hA hP hD hS (hst.1 5 (by decide)) hf2 rfl rfl hl.1 (As := []) (rest := []) rfl (Nat.le_of_ble_eq_true rfl) dX2_readFrom_1 ⟨Nat.le_of_ble_eq_true rfl, Nat.le_of_ble_eq_true rfl⟩) hA hD hS (fun L4 f5 H locs hp6 hP hD hS => ?_)
  obtain ⟨eL7L, eL7T, eL7F⟩ := hp6
  have eL7L : L4 = L := eL7L
  rw [eL7L] at hP hD
  have hT : TI g ad (gset (gset (gset th 7 0) 8 0) 9 0) f5 := eL7T
  have eL7F : ∀ b, b ≠ (ad 5) → f5 b = f b := eL7F
  have hfr : (∀ b, b ≠ (ad 1) → b ≠ (ad 5) → f5 b = f b) := fun b z0_ z1_ => (eL7F b z1_).trans (hfr b z0_ z1_)
  refine lv_aload_n hx hb dX2_readFrom_4 rfl (lv_at hl 1 rfl) ?_
  obtain ⟨v1_8, v2_8, v3_8, v4_8, hf9, hv1_8, hv2_8, hv3_8, hv4_8⟩ := hT.1 1 (by decide)
  refine call_v (run_VN (rm := rm_X8_firstPart) hx hb hml hown hts (s_X8_firstPart l g ad (gset (gset (gset th 7 0) 8 0) 9 0) _ _ _  hst hT ) cV_X8_firstPart wn_558 ⟨Nat.le_of_ble_eq_true rfl, Nat.le_of_ble_eq_true rfl⟩ hG hE hA hP hD hS (hst.1 1 (by decide)) hf9 rfl rfl hl.1 (As := []) (rest := []) rfl (Nat.le_of_ble_eq_true rfl) dX2_readFrom_5 ⟨Nat.le_of_ble_eq_true rfl, Nat.le_of_ble_eq_true rfl⟩) hA hD hS (fun L11 f12 H locs hp13 hP hD hS => ?_)
  obtain ⟨eL14L, eL14T, eL14F⟩ := hp13
  have eL14L : L11 = L := eL14L
  rw [eL14L] at hP hD
  have hT : TI g ad (gset (gset (gset th 7 0) 8 0) 9 0) f12 := eL14T
  have eL14F : ∀ b, b ≠ (ad 1) → f12 b = f5 b := eL14F
  have hfr : (∀ b, b ≠ (ad 1) → b ≠ (ad 5) → f12 b = f b) := fun b z0_ z1_ => (eL14F b z0_).trans (hfr b z0_ z1_)
  refine lv_aload_n hx hb dX2_readFrom_8 rfl (lv_at hl 0 rfl) ?_
  refine lv_aload_n hx hb dX2_readFrom_9 rfl (lv_at hl 1 rfl) ?_
  refine va_ldcS hx hb hown (hG.2.2.1 ("RulerWord$Council", 42, "king", 0) (by decide +kernel)) dX2_readFrom_10 ?_
  obtain ⟨v1_15, v2_15, v3_15, v4_15, hf16, hv1_15, hv2_15, hv3_15, hv4_15⟩ := hT.1 1 (by decide)
  refine call_i (run_VN (rm := rm_X8_isWord) hx hb hml hown hts (s_X8_isWord l g ad (gset (gset (gset th 7 0) 8 0) 9 0) _ _ _ 0 hst hT (by decide)) cV_X8_isWord wn_570 ⟨Nat.le_of_ble_eq_true rfl, Nat.le_of_ble_eq_true rfl⟩ hG hE hA hP hD hS (hst.1 1 (by decide)) hf16 rfl rfl hl.1 (As := [.ref (g.2.2.1 0)]) (rest := [.ref (ad 5)]) rfl (Nat.le_of_ble_eq_true rfl) dX2_readFrom_12 ⟨Nat.le_of_ble_eq_true rfl, Nat.le_of_ble_eq_true rfl⟩) hA hD hS (fun r17 L18 f19 H locs hp20 hP hD hS => ?_)
  obtain ⟨eL21L, eL21T, eL21R⟩ := hp20
  have eL21L : L18 = L := eL21L
  have eL21T : f19 = f12 := eL21T
  rw [eL21L, eL21T] at hP hD
  have eL21R : In r17 0 1 := eL21R
  have hJ23 : ∀ (y23_s0 : Int32) (H : Heap) (locs : List Loc) (ls : Array Slot), In y23_s0 0 1 → va_P g.1 vwCl (va_pl L f12) H → va_D A (va_pl L f12) → va_S A s.heap H locs → lv_has ls 3 [(0, .ref (ad 5)), (1, .ref (ad 1))] → W p l e rm_X2_readFrom s m [.ref (ad 5), .ref (ad 1)].toArray below meth c H locs 0 0 (MQ below (va_Qi (po_X2_readFrom g ad th L f ) (PstB g A) A) [.ref (ad 5), .ref (ad 1)].toArray s rm_X2_readFrom.cells rm_X2_readFrom.slots A) (F0 m 23 ls [.int y23_s0, .ref (ad 5)]) := by
    intro y23_s0 H locs ls hy23_s0 hP hD hS hl
    obtain ⟨v0_22, v1_22, v2_22, v3_22, v4_22, v5_22, v6_22, v7_22, hf23, hv0_22, hv1_22, hg1_22, hv2_22, hv3_22, hv5_22, hg5_22, hv6_22, hv7_22, hg7_22⟩ := hT.1 5 (by decide)
    have hg1_22 : v1_22.toInt = 0 := hg1_22
    have hg5_22 : v5_22.toInt = 0 := hg5_22
    have hg7_22 : v7_22.toInt = 0 := hg7_22
    refine pl_put (ty := .int) (v := .int y23_s0) (fs' := [.int y23_s0, .int v1_22, .int v2_22, .int v3_22, .int v4_22, .int v5_22, .int v6_22, .int v7_22]) hx hb hts (fun w h => mT (inX2 w h)) tyX2 tyX2_ok nmX2 hown hG.1 hP hD hS (hst.1 5 (by decide)) hf23 rfl 0 (by decide) (hts _ (mT wg_224)) (fun _ h => h) rfl (by decide +kernel) (rfl) (rfl) (Nat.le_of_ble_eq_true rfl) rfl dX2_readFrom_23 (fun H locs f24 hf25 ho26 hP hD hS => ?_)
    have hf27 := (ho26 (ad 1) (hst.ne (by decide) (by decide) (by decide))).trans hf16
    have hfr : (∀ b, b ≠ (ad 1) → b ≠ (ad 5) → f24 b = f b) := fun b z0_ z1_ => (ho26 b z1_).trans (hfr b z0_ z1_)
    refine lv_aload_n hx hb dX2_readFrom_26 rfl (lv_at hl 0 rfl) ?_
    refine pl_get (v := .int y23_s0) hx hb hts (fun w h => mT (inX2 w h)) hown hG.1 hP (hst.1 5 (by decide)) hf25 rfl 0 (by decide) (hts _ (mT wg_224)) (fun _ h => h) rfl dX2_readFrom_27 ?_
    refine lv_iconst (v := 1) hx hb dX2_readFrom_30 (by decide) ?_
    have hT := TI.updA hT hst (k := 5) (by decide) hf25 ho26 ⟨y23_s0, v1_22, v2_22, v3_22, v4_22, v5_22, v6_22, v7_22, rfl, hy23_s0, hv1_22, hg1_22, hv2_22, hv3_22, hv5_22, hg5_22, hv6_22, hv7_22, hg7_22⟩
    have hJ48 : ∀ (H : Heap) (locs : List Loc) (ls : Array Slot), va_P g.1 vwCl (va_pl L f24) H → va_D A (va_pl L f24) → va_S A s.heap H locs → lv_has ls 3 [(0, .ref (ad 5)), (1, .ref (ad 1))] → W p l e rm_X2_readFrom s m [.ref (ad 5), .ref (ad 1)].toArray below meth c H locs 0 0 (MQ below (va_Qi (po_X2_readFrom g ad th L f ) (PstB g A) A) [.ref (ad 5), .ref (ad 1)].toArray s rm_X2_readFrom.cells rm_X2_readFrom.slots A) (F0 m 48 ls []) := by
      intro H locs ls hP hD hS hl
      refine lv_aload_n hx hb dX2_readFrom_48 rfl (lv_at hl 1 rfl) ?_
      refine call_v (run_VN (rm := rm_X8_nextPart) hx hb hml hown hts (s_X8_nextPart l g ad (gset (gset (gset th 7 0) 8 0) 9 0) _ _ _  hst hT ) cV_X8_nextPart wn_623 ⟨Nat.le_of_ble_eq_true rfl, Nat.le_of_ble_eq_true rfl⟩ hG hE hA hP hD hS (hst.1 1 (by decide)) hf27 rfl rfl hl.1 (As := []) (rest := []) rfl (Nat.le_of_ble_eq_true rfl) dX2_readFrom_49 ⟨Nat.le_of_ble_eq_true rfl, Nat.le_of_ble_eq_true rfl⟩) hA hD hS (fun L29 f30 H locs hp31 hP hD hS => ?_)
      obtain ⟨eL32L, eL32T, eL32F⟩ := hp31
      have eL32L : L29 = L := eL32L
      rw [eL32L] at hP hD
      have hT : TI g ad (gset (gset (gset th 7 0) 8 0) 9 0) f30 := eL32T
      have eL32F : ∀ b, b ≠ (ad 1) → f30 b = f24 b := eL32F
      have hf33 := (eL32F (ad 5) (hst.ne (by decide) (by decide) (by decide))).trans hf25
      have hfr : (∀ b, b ≠ (ad 1) → b ≠ (ad 5) → f30 b = f b) := fun b z0_ z1_ => (eL32F b z0_).trans (hfr b z0_ z1_)
      refine lv_iconst (v := 0) hx hb dX2_readFrom_52 (by decide) ?_
      refine lv_istore_n (lv' := [(2, .int 0), (0, .ref (ad 5)), (1, .ref (ad 1))]) hx hb dX2_readFrom_53 rfl hl (by decide) rfl (fun ls hl => ?_)
      have hJ54 : ∀ (k54 : Nat) (zg54_zt : Int) (zg54_zs : Int) (zg54_zf : Int) (y54_l2 : Int32) (f_54 : HP) (H : Heap) (locs : List Loc) (ls : Array Slot), DIp zg54_zt zg54_zs zg54_zf → In y54_l2 0 7 → va_P g.1 vwCl (va_pl L f_54) H → va_D A (va_pl L f_54) → va_S A s.heap H locs → TI g ad (gset (gset (gset th 9 zg54_zt) 7 zg54_zs) 8 zg54_zf) f_54 → (∀ b, b ≠ (ad 1) → b ≠ (ad 5) → f_54 b = f b) → lv_has ls 3 [(0, .ref (ad 5)), (1, .ref (ad 1)), (2, .int y54_l2)] → 7 - y54_l2.toInt < ((k54 : Nat) : Int) → W p l e rm_X2_readFrom s m [.ref (ad 5), .ref (ad 1)].toArray below meth c H locs 0 0 (MQ below (va_Qi (po_X2_readFrom g ad th L f ) (PstB g A) A) [.ref (ad 5), .ref (ad 1)].toArray s rm_X2_readFrom.cells rm_X2_readFrom.slots A) (F0 m 54 ls []) := by
        intro k54
        induction k54 with
        | zero =>
          intro zg54_zt zg54_zs zg54_zf y54_l2 f_54 H locs ls hzg54 hy54_l2 hP hD hS hT hfr hl hmz54
          exact ms0 hy54_l2 hmz54
        | succ k54 ih54 =>
          intro zg54_zt zg54_zs zg54_zf y54_l2 f_54 H locs ls hzg54 hy54_l2 hP hD hS hT hfr hl hmz54
          refine lv_iload_n hx hb dX2_readFrom_54 rfl (lv_at hl 2 rfl) ?_
          refine lv_bipush (v := 6) hx hb dX2_readFrom_55 (by decide) ?_
          have hJ95 : ∀ (H : Heap) (locs : List Loc) (ls : Array Slot), va_P g.1 vwCl (va_pl L f_54) H → va_D A (va_pl L f_54) → va_S A s.heap H locs → lv_has ls 3 [(0, .ref (ad 5)), (1, .ref (ad 1)), (2, .int y54_l2)] → W p l e rm_X2_readFrom s m [.ref (ad 5), .ref (ad 1)].toArray below meth c H locs 0 0 (MQ below (va_Qi (po_X2_readFrom g ad th L f ) (PstB g A) A) [.ref (ad 5), .ref (ad 1)].toArray s rm_X2_readFrom.cells rm_X2_readFrom.slots A) (F0 m 95 ls []) := by
            intro H locs ls hP hD hS hl
            refine lv_aload_n hx hb dX2_readFrom_95 rfl (lv_at hl 1 rfl) ?_
            obtain ⟨v1_34, v2_34, v3_34, v4_34, hf35, hv1_34, hv2_34, hv3_34, hv4_34⟩ := hT.1 1 (by decide)
            refine pl_getN (v := .int v4_34) hx hb hts (fun w h => mT (inX8 w h)) hown hG.1 hP (hst.1 1 (by decide)) hf35 rfl 4 (by decide) (hG.2.1 _ wn_203) (fun _ h => h) rfl dX2_readFrom_96 ?_
            have hJ110 : ∀ (H : Heap) (locs : List Loc) (ls : Array Slot), va_P g.1 vwCl (va_pl L f_54) H → va_D A (va_pl L f_54) → va_S A s.heap H locs → lv_has ls 3 [(0, .ref (ad 5)), (1, .ref (ad 1)), (2, .int y54_l2)] → W p l e rm_X2_readFrom s m [.ref (ad 5), .ref (ad 1)].toArray below meth c H locs 0 0 (MQ below (va_Qi (po_X2_readFrom g ad th L f ) (PstB g A) A) [.ref (ad 5), .ref (ad 1)].toArray s rm_X2_readFrom.cells rm_X2_readFrom.slots A) (F0 m 110 ls []) := by
              intro H locs ls hP hD hS hl
              refine lv_aload_n hx hb dX2_readFrom_110 rfl (lv_at hl 1 rfl) ?_
              refine pl_getN (v := .int v2_34) hx hb hts (fun w h => mT (inX8 w h)) hown hG.1 hP (hst.1 1 (by decide)) hf35 rfl 2 (by decide) (hG.2.1 _ wn_199) (fun _ h => h) rfl dX2_readFrom_111 ?_
              exact ret_i (ty := .int) hx hb hr hlocks (rfl) hP hD hS (Nat.le_of_ble_eq_true rfl) (Nat.le_of_ble_eq_true rfl) (⟨rfl, ⟨zg54_zt, zg54_zs, zg54_zf, Or.inl (Int.le_trans (by decide) hv2_34.1), TI.cast hT (by funext q; simp only [gset]; (repeat' split); all_goals first | rfl | omega | (subst_vars; rfl) | (exfalso; omega))⟩, hfr, (In.mono hv2_34 (by decide) (by decide))⟩) dX2_readFrom_114
            refine lv_if_ne (tgt := 110) hx hb dX2_readFrom_99 (by decide) (fun c36 => ?_) (fun c36 => ?_)
            ·
              have oc0 : (0 : Int32).toInt = 0 := by decide
              have cc37 : v4_34.toInt ≠ (0 : Int32).toInt := i32_ne c36
              have hb38 : In v4_34 1 4 := In.ne1 hv4_34 (⟨by decide, by decide⟩ : In 0 0 0) cc37 (by omega) (by omega)
              exact hJ110 _ _ _ hP hD hS (lv_sub hl [0, 1, 2] rfl)
            ·
              have oc0 : (0 : Int32).toInt = 0 := by decide
              have cc39 : v4_34.toInt = (0 : Int32).toInt := congrArg Int32.toInt c36
              have hb40 : In v4_34 0 0 := In.eq1 hv4_34 (⟨by decide, by decide⟩ : In 0 0 0) cc39 (by omega) (by omega)
              refine lv_aload_n hx hb dX2_readFrom_102 rfl (lv_at hl 0 rfl) ?_
              refine lv_iconst (v := 0) hx hb dX2_readFrom_103 (by decide) ?_
              obtain ⟨v0_41, v1_41, v2_41, v3_41, v4_41, v5_41, v6_41, v7_41, hf42, hv0_41, hv1_41, hg1_41, hv2_41, hv3_41, hv5_41, hg5_41, hv6_41, hv7_41, hg7_41⟩ := hT.1 5 (by decide)
              have hg1_41 : v1_41.toInt = zg54_zs := hg1_41
              have hg5_41 : v5_41.toInt = zg54_zf := hg5_41
              have hg7_41 : v7_41.toInt = zg54_zt := hg7_41
              refine call_i (run_V (rm := rm_X2_isTold) hx hb hml hown hts (s_X2_isTold l g ad (gset (gset (gset th 9 zg54_zt) 7 zg54_zs) 8 zg54_zf) _ _ _ 0 hst hT (⟨by decide, by decide⟩ : In 0 0 5)) cV_X2_isTold wg_640 ⟨Nat.le_of_ble_eq_true rfl, Nat.le_of_ble_eq_true rfl⟩ hG hE hA hP hD hS (hst.1 5 (by decide)) hf42 rfl rfl hl.1 (As := [.int 0]) (rest := []) rfl (Nat.le_of_ble_eq_true rfl) dX2_readFrom_104 ⟨Nat.le_of_ble_eq_true rfl, Nat.le_of_ble_eq_true rfl⟩) hA hD hS (fun r43 L44 f45 H locs hp46 hP hD hS => ?_)
              obtain ⟨eL47L, eL47T, eL47R, eL47X0⟩ := hp46
              have eL47L : L44 = L := eL47L
              have eL47T : f45 = f_54 := eL47T
              rw [eL47L, eL47T] at hP hD
              have eL47R : In r43 0 1 := eL47R
              have hit48 : r43.toInt = bitI (zg54_zt) 0 := eL47X0
              refine lv_if_ne (tgt := 115) hx hb dX2_readFrom_107 (by decide) (fun c49 => ?_) (fun c49 => ?_)
              ·
                have oc0 : (0 : Int32).toInt = 0 := by decide
                have cc50 : r43.toInt ≠ (0 : Int32).toInt := i32_ne c49
                have hb51 : In r43 1 1 := In.ne1 eL47R (⟨by decide, by decide⟩ : In 0 0 0) cc50 (by omega) (by omega)
                refine lv_aload_n hx hb dX2_readFrom_115 rfl (lv_at hl 0 rfl) ?_
                refine call_v (run_V (rm := rm_X2_fillIn) hx hb hml hown hts (s_X2_fillIn l g ad (gset (gset (gset th 9 zg54_zt) 7 zg54_zs) 8 zg54_zf) _ _ _  hst hT ) cV_X2_fillIn wg_669 ⟨Nat.le_of_ble_eq_true rfl, Nat.le_of_ble_eq_true rfl⟩ hG hE hA hP hD hS (hst.1 5 (by decide)) hf42 rfl rfl hl.1 (As := []) (rest := []) rfl (Nat.le_of_ble_eq_true rfl) dX2_readFrom_116 ⟨Nat.le_of_ble_eq_true rfl, Nat.le_of_ble_eq_true rfl⟩) hA hD hS (fun L53 f54 H locs hp55 hP hD hS => ?_)
                obtain ⟨eL56L, eL56T, eL56F⟩ := hp55
                have eL56L : L53 = L := eL56L
                rw [eL56L] at hP hD
                have hT : TI g ad (gset (gset (gset th 9 zg54_zt) 7 zg54_zs) 8 zg54_zf) f54 := eL56T
                have eL56F : ∀ b, b ≠ (ad 5) → f54 b = f_54 b := eL56F
                have hf57 := (eL56F (ad 1) (hst.ne (by decide) (by decide) (by decide))).trans hf35
                have hfr : (∀ b, b ≠ (ad 1) → b ≠ (ad 5) → f54 b = f b) := fun b z0_ z1_ => (eL56F b z1_).trans (hfr b z0_ z1_)
                refine lv_iconst (v := (-1)) hx hb dX2_readFrom_119 (by decide) ?_
                exact ret_i (ty := .int) hx hb hr hlocks (rfl) hP hD hS (Nat.le_of_ble_eq_true rfl) (Nat.le_of_ble_eq_true rfl) (⟨rfl, ⟨zg54_zt, zg54_zs, zg54_zf, Or.inr ⟨hzg54, by have := bitI_0 zg54_zt; omega⟩, TI.cast hT (by funext q; simp only [gset]; (repeat' split); all_goals first | rfl | omega | (subst_vars; rfl) | (exfalso; omega))⟩, hfr, (⟨by decide, by decide⟩ : In (-1) (-1) 520)⟩) dX2_readFrom_120
              ·
                have oc0 : (0 : Int32).toInt = 0 := by decide
                have cc58 : r43.toInt = (0 : Int32).toInt := congrArg Int32.toInt c49
                have hb59 : In r43 0 0 := In.eq1 eL47R (⟨by decide, by decide⟩ : In 0 0 0) cc58 (by omega) (by omega)
                exact hJ110 _ _ _ hP hD hS (lv_sub hl [0, 1, 2] rfl)
          refine lv_icmp_gt (tgt := 95) hx hb dX2_readFrom_57 (by decide) (fun c60 => ?_) (fun c60 => ?_)
          ·
            have oc6 : (6 : Int32).toInt = 6 := by decide
            have cc61 : (6 : Int32).toInt < y54_l2.toInt := i32_lt.mp c60
            have hb62 : In y54_l2 7 7 := In.gt1 hy54_l2 (⟨by decide, by decide⟩ : In 6 6 6) cc61 (by omega) (by omega)
            exact hJ95 _ _ _ hP hD hS (lv_sub hl [0, 1, 2] rfl)
          ·
            have oc6 : (6 : Int32).toInt = 6 := by decide
            have cc63 : y54_l2.toInt ≤ (6 : Int32).toInt := i32_nlt c60
            have hb64 : In y54_l2 0 6 := In.le1 hy54_l2 (⟨by decide, by decide⟩ : In 6 6 6) cc63 (by omega) (by omega)
            refine lv_aload_n hx hb dX2_readFrom_60 rfl (lv_at hl 1 rfl) ?_
            obtain ⟨v1_65, v2_65, v3_65, v4_65, hf66, hv1_65, hv2_65, hv3_65, hv4_65⟩ := hT.1 1 (by decide)
            refine pl_getN (v := .int v4_65) hx hb hts (fun w h => mT (inX8 w h)) hown hG.1 hP (hst.1 1 (by decide)) hf66 rfl 4 (by decide) (hG.2.1 _ wn_203) (fun _ h => h) rfl dX2_readFrom_61 ?_
            refine lv_iconst (v := 1) hx hb dX2_readFrom_64 (by decide) ?_
            refine lv_icmp_ne (tgt := 95) hx hb dX2_readFrom_65 (by decide) (fun c67 => ?_) (fun c67 => ?_)
            ·
              have oc1 : (1 : Int32).toInt = 1 := by decide
              have cc68 : v4_65.toInt ≠ (1 : Int32).toInt := i32_ne c67
              exact hJ95 _ _ _ hP hD hS (lv_sub hl [0, 1, 2] rfl)
            ·
              have oc1 : (1 : Int32).toInt = 1 := by decide
              have cc69 : v4_65.toInt = (1 : Int32).toInt := congrArg Int32.toInt c67
              have hb70 : In v4_65 1 1 := In.eq1 hv4_65 (⟨by decide, by decide⟩ : In 1 1 1) cc69 (by omega) (by omega)
              refine lv_aload_n hx hb dX2_readFrom_68 rfl (lv_at hl 1 rfl) ?_
              refine call_v (run_VN (rm := rm_X8_nextPart) hx hb hml hown hts (s_X8_nextPart l g ad (gset (gset (gset th 9 zg54_zt) 7 zg54_zs) 8 zg54_zf) _ _ _  hst hT ) cV_X8_nextPart wn_623 ⟨Nat.le_of_ble_eq_true rfl, Nat.le_of_ble_eq_true rfl⟩ hG hE hA hP hD hS (hst.1 1 (by decide)) hf66 rfl rfl hl.1 (As := []) (rest := []) rfl (Nat.le_of_ble_eq_true rfl) dX2_readFrom_69 ⟨Nat.le_of_ble_eq_true rfl, Nat.le_of_ble_eq_true rfl⟩) hA hD hS (fun L72 f73 H locs hp74 hP hD hS => ?_)
              obtain ⟨eL75L, eL75T, eL75F⟩ := hp74
              have eL75L : L72 = L := eL75L
              rw [eL75L] at hP hD
              have hT : TI g ad (gset (gset (gset th 9 zg54_zt) 7 zg54_zs) 8 zg54_zf) f73 := eL75T
              have eL75F : ∀ b, b ≠ (ad 1) → f73 b = f_54 b := eL75F
              have hfr : (∀ b, b ≠ (ad 1) → b ≠ (ad 5) → f73 b = f b) := fun b z0_ z1_ => (eL75F b z0_).trans (hfr b z0_ z1_)
              refine lv_aload_n hx hb dX2_readFrom_72 rfl (lv_at hl 0 rfl) ?_
              refine lv_aload_n hx hb dX2_readFrom_73 rfl (lv_at hl 1 rfl) ?_
              obtain ⟨v0_76, v1_76, v2_76, v3_76, v4_76, v5_76, v6_76, v7_76, hf77, hv0_76, hv1_76, hg1_76, hv2_76, hv3_76, hv5_76, hg5_76, hv6_76, hv7_76, hg7_76⟩ := hT.1 5 (by decide)
              have hg1_76 : v1_76.toInt = zg54_zs := hg1_76
              have hg5_76 : v5_76.toInt = zg54_zf := hg5_76
              have hg7_76 : v7_76.toInt = zg54_zt := hg7_76
              refine call_i (run_V (rm := rm_X2_readPiece) hx hb hml hown hts (s_X2_readPiece l g ad (gset (gset (gset th 9 zg54_zt) 7 zg54_zs) 8 zg54_zf) _ _ _  hst hT (show DIp (zg54_zt) (zg54_zs) (zg54_zf) from hzg54)) cV_X2_readPiece wg_624 ⟨Nat.le_of_ble_eq_true rfl, Nat.le_of_ble_eq_true rfl⟩ hG hE hA hP hD hS (hst.1 5 (by decide)) hf77 rfl rfl hl.1 (As := [.ref (ad 1)]) (rest := []) rfl (Nat.le_of_ble_eq_true rfl) dX2_readFrom_74 ⟨Nat.le_of_ble_eq_true rfl, Nat.le_of_ble_eq_true rfl⟩) hA hD hS (fun r78 L79 f80 H locs hp81 hP hD hS => ?_)
              obtain ⟨eL82L, eL82T, eL82F, eL82R⟩ := hp81
              have eL82L : L79 = L := eL82L
              rw [eL82L] at hP hD
              obtain ⟨zz83, zz84, zz85, hzz83, eL82T⟩ := eL82T
              have hT : TI g ad (gset (gset (gset (gset (gset (gset th 9 zg54_zt) 7 zg54_zs) 8 zg54_zf) 9 zz83) 7 zz84) 8 zz85) f80 := eL82T
              have hT : TI g ad (gset (gset (gset th 9 zz83) 7 zz84) 8 zz85) f80 := TI.cast hT (by funext q; simp only [gset]; (repeat' split); all_goals first | rfl | omega | (subst_vars; rfl) | (exfalso; omega))
              have eL82F : ∀ b, b ≠ (ad 1) → b ≠ (ad 5) → f80 b = f73 b := eL82F
              have hfr : (∀ b, b ≠ (ad 1) → b ≠ (ad 5) → f80 b = f b) := fun b z0_ z1_ => (eL82F b z0_ z1_).trans (hfr b z0_ z1_)
              have eL82R : In r78 0 1 := eL82R
              refine lv_if_ne (tgt := 85) hx hb dX2_readFrom_77 (by decide) (fun c86 => ?_) (fun c86 => ?_)
              ·
                have oc0 : (0 : Int32).toInt = 0 := by decide
                have cc87 : r78.toInt ≠ (0 : Int32).toInt := i32_ne c86
                have hb88 : In r78 1 1 := In.ne1 eL82R (⟨by decide, by decide⟩ : In 0 0 0) cc87 (by omega) (by omega)
                refine lv_aload_n hx hb dX2_readFrom_85 rfl (lv_at hl 1 rfl) ?_
                obtain ⟨v1_89, v2_89, v3_89, v4_89, hf90, hv1_89, hv2_89, hv3_89, hv4_89⟩ := hT.1 1 (by decide)
                refine call_v (run_VN (rm := rm_X8_nextPart) hx hb hml hown hts (s_X8_nextPart l g ad (gset (gset (gset th 9 zz83) 7 zz84) 8 zz85) _ _ _  hst hT ) cV_X8_nextPart wn_623 ⟨Nat.le_of_ble_eq_true rfl, Nat.le_of_ble_eq_true rfl⟩ hG hE hA hP hD hS (hst.1 1 (by decide)) hf90 rfl rfl hl.1 (As := []) (rest := []) rfl (Nat.le_of_ble_eq_true rfl) dX2_readFrom_86 ⟨Nat.le_of_ble_eq_true rfl, Nat.le_of_ble_eq_true rfl⟩) hA hD hS (fun L92 f93 H locs hp94 hP hD hS => ?_)
                obtain ⟨eL95L, eL95T, eL95F⟩ := hp94
                have eL95L : L92 = L := eL95L
                rw [eL95L] at hP hD
                have hT : TI g ad (gset (gset (gset th 9 zz83) 7 zz84) 8 zz85) f93 := eL95T
                have eL95F : ∀ b, b ≠ (ad 1) → f93 b = f80 b := eL95F
                have hfr : (∀ b, b ≠ (ad 1) → b ≠ (ad 5) → f93 b = f b) := fun b z0_ z1_ => (eL95F b z0_).trans (hfr b z0_ z1_)
                obtain ⟨x96, ex96⟩ : ∃ y : Int32, y = y54_l2 + 1 := ⟨_, rfl⟩
                have hb97 : In x96 1 7 := ex96 ▸ In.add hb64 (⟨by decide, by decide⟩ : In 1 1 1) (by decide) (by decide) (by decide) (by decide)
                have et98 : x96.toInt = y54_l2.toInt + 1 := In.adde ex96 hb64 (k := 1) (by decide) (by decide) (by decide)
                refine lv_iinc (v := x96) (lv' := [(2, .int x96), (0, .ref (ad 5)), (1, .ref (ad 1))]) hx hb dX2_readFrom_89 hl (k := 2) rfl (by rw [ex96]; rfl) (by decide) rfl (fun ls hl => ?_)
                refine lv_goto (tgt := 54) hx hb dX2_readFrom_92 (by decide) ?_
                exact ih54 zz83 zz84 zz85 x96 _ _ _ _ (hzz83.resolve_left (by omega)) (In.mono hb97 (by decide) (by decide)) hP hD hS (TI.cast hT (by funext q; simp only [gset]; (repeat' split); all_goals first | rfl | omega | (subst_vars; rfl) | (exfalso; omega))) hfr (lv_sub hl [1, 2, 0] rfl) (msu et98 (by decide) hmz54)
              ·
                have oc0 : (0 : Int32).toInt = 0 := by decide
                have cc99 : r78.toInt = (0 : Int32).toInt := congrArg Int32.toInt c86
                have hb100 : In r78 0 0 := In.eq1 eL82R (⟨by decide, by decide⟩ : In 0 0 0) cc99 (by omega) (by omega)
                refine lv_aload_n hx hb dX2_readFrom_80 rfl (lv_at hl 1 rfl) ?_
                obtain ⟨v1_101, v2_101, v3_101, v4_101, hf102, hv1_101, hv2_101, hv3_101, hv4_101⟩ := hT.1 1 (by decide)
                refine pl_getN (v := .int v2_101) hx hb hts (fun w h => mT (inX8 w h)) hown hG.1 hP (hst.1 1 (by decide)) hf102 rfl 2 (by decide) (hG.2.1 _ wn_199) (fun _ h => h) rfl dX2_readFrom_81 ?_
                exact ret_i (ty := .int) hx hb hr hlocks (rfl) hP hD hS (Nat.le_of_ble_eq_true rfl) (Nat.le_of_ble_eq_true rfl) (⟨rfl, ⟨zz83, zz84, zz85, Or.inl (Int.le_trans (by decide) hv2_101.1), TI.cast hT (by funext q; simp only [gset]; (repeat' split); all_goals first | rfl | omega | (subst_vars; rfl) | (exfalso; omega))⟩, hfr, (In.mono hv2_101 (by decide) (by decide))⟩) dX2_readFrom_84
      exact hJ54 ((7 - (0 : Int32).toInt).toNat + 1) (0 : Int) (0 : Int) (0 : Int) 0 _ _ _ _ di_0 (⟨by decide, by decide⟩ : In 0 0 7) hP hD hS (TI.cast hT (by funext q; simp only [gset]; (repeat' split); all_goals first | rfl | omega | (subst_vars; rfl) | (exfalso; omega))) hfr (lv_sub hl [1, 2, 0] rfl) (msI _)
    refine lv_icmp_ne (tgt := 48) hx hb dX2_readFrom_31 (by decide) (fun c103 => ?_) (fun c103 => ?_)
    ·
      have oc1 : (1 : Int32).toInt = 1 := by decide
      have cc104 : y23_s0.toInt ≠ (1 : Int32).toInt := i32_ne c103
      have hb105 : In y23_s0 0 0 := In.ne1 hy23_s0 (⟨by decide, by decide⟩ : In 1 1 1) cc104 (by omega) (by omega)
      exact hJ48 _ _ _ hP hD hS (lv_sub hl [0, 1] rfl)
    ·
      have oc1 : (1 : Int32).toInt = 1 := by decide
      have cc106 : y23_s0.toInt = (1 : Int32).toInt := congrArg Int32.toInt c103
      have hb107 : In y23_s0 1 1 := In.eq1 hy23_s0 (⟨by decide, by decide⟩ : In 1 1 1) cc106 (by omega) (by omega)
      refine lv_aload_n hx hb dX2_readFrom_34 rfl (lv_at hl 1 rfl) ?_
      refine va_ldcS hx hb hown (hG.2.2.1 ("RulerWord$Council", 48, "queen", 1) (by decide +kernel)) dX2_readFrom_35 ?_
      refine call_i (run_VN (rm := rm_X8_isWord) hx hb hml hown hts (s_X8_isWord l g ad (gset (gset (gset th 7 0) 8 0) 9 0) _ _ _ 1 hst hT (by decide)) cV_X8_isWord wn_570 ⟨Nat.le_of_ble_eq_true rfl, Nat.le_of_ble_eq_true rfl⟩ hG hE hA hP hD hS (hst.1 1 (by decide)) hf27 rfl rfl hl.1 (As := [.ref (g.2.2.1 1)]) (rest := []) rfl (Nat.le_of_ble_eq_true rfl) dX2_readFrom_37 ⟨Nat.le_of_ble_eq_true rfl, Nat.le_of_ble_eq_true rfl⟩) hA hD hS (fun r108 L109 f110 H locs hp111 hP hD hS => ?_)
      obtain ⟨eL112L, eL112T, eL112R⟩ := hp111
      have eL112L : L109 = L := eL112L
      have eL112T : f110 = f24 := eL112T
      rw [eL112L, eL112T] at hP hD
      have eL112R : In r108 0 1 := eL112R
      refine lv_if_ne (tgt := 48) hx hb dX2_readFrom_40 (by decide) (fun c113 => ?_) (fun c113 => ?_)
      ·
        have oc0 : (0 : Int32).toInt = 0 := by decide
        have cc114 : r108.toInt ≠ (0 : Int32).toInt := i32_ne c113
        have hb115 : In r108 1 1 := In.ne1 eL112R (⟨by decide, by decide⟩ : In 0 0 0) cc114 (by omega) (by omega)
        exact hJ48 _ _ _ hP hD hS (lv_sub hl [0, 1] rfl)
      ·
        have oc0 : (0 : Int32).toInt = 0 := by decide
        have cc116 : r108.toInt = (0 : Int32).toInt := congrArg Int32.toInt c113
        have hb117 : In r108 0 0 := In.eq1 eL112R (⟨by decide, by decide⟩ : In 0 0 0) cc116 (by omega) (by omega)
        refine lv_aload_n hx hb dX2_readFrom_43 rfl (lv_at hl 1 rfl) ?_
        refine pl_getN (v := .int v2_15) hx hb hts (fun w h => mT (inX8 w h)) hown hG.1 hP (hst.1 1 (by decide)) hf27 rfl 2 (by decide) (hG.2.1 _ wn_199) (fun _ h => h) rfl dX2_readFrom_44 ?_
        exact ret_i (ty := .int) hx hb hr hlocks (rfl) hP hD hS (Nat.le_of_ble_eq_true rfl) (Nat.le_of_ble_eq_true rfl) (⟨rfl, ⟨0, 0, 0, Or.inl (Int.le_trans (by decide) hv2_15.1), TI.cast hT (by funext q; simp only [gset]; (repeat' split); all_goals first | rfl | omega | (subst_vars; rfl) | (exfalso; omega))⟩, hfr, (In.mono hv2_15 (by decide) (by decide))⟩) dX2_readFrom_47
  refine lv_if_eq (tgt := 22) hx hb dX2_readFrom_15 (by decide) (fun c118 => ?_) (fun c118 => ?_)
  ·
    have oc0 : (0 : Int32).toInt = 0 := by decide
    have cc119 : r17.toInt = (0 : Int32).toInt := congrArg Int32.toInt c118
    have hb120 : In r17 0 0 := In.eq1 eL21R (⟨by decide, by decide⟩ : In 0 0 0) cc119 (by omega) (by omega)
    refine lv_iconst (v := 1) hx hb dX2_readFrom_22 (by decide) ?_
    exact hJ23 1 _ _ _ (⟨by decide, by decide⟩ : In 1 0 1) hP hD hS (lv_sub hl [0, 1] rfl)
  ·
    have oc0 : (0 : Int32).toInt = 0 := by decide
    have cc121 : r17.toInt ≠ (0 : Int32).toInt := i32_ne c118
    have hb122 : In r17 1 1 := In.ne1 eL21R (⟨by decide, by decide⟩ : In 0 0 0) cc121 (by omega) (by omega)
    refine lv_iconst (v := 0) hx hb dX2_readFrom_18 (by decide) ?_
    refine lv_goto (tgt := 23) hx hb dX2_readFrom_19 (by decide) ?_
    exact hJ23 0 _ _ _ (⟨by decide, by decide⟩ : In 0 0 1) hP hD hS (lv_sub hl [0, 1] rfl)
