abbrev rm_X3_agreedFrom_co : Room := { frames := 3, cells := 0, slots := 0, locals := 64 }
abbrev po_X3_agreedFrom_co (g : GG) (ad : Nat → Nat) (th : Nat → Int) (L : List Nat) (f : HP) (j : Nat) : Int32 → (List Nat × HP) → Prop := fun _ u => u.1 = L ∧ u.2 = f
set_option maxHeartbeats 4000000 in
set_option maxRecDepth 100000 in
theorem s_X3_agreedFrom_co (l : Launch) (g : GG) (ad : Nat → Nat) (th : Nat → Int) (L : List Nat) (f : HP) (sz : Nat) (j : Nat) (hst : ST ad L) (hT : TI g ad th f) (hj : j < 23) (h3a : 0 ≤ th (300 + j)) (h3b : th (300 + j) ≤ 6 * rnd (th 2)) : MtI l g yX3_agreedFrom cX3_agreedFrom 4 (some .int) rm_X3_agreedFrom_co [.ref (cr ad j 0), .ref (ad 6)] L f sz (po_X3_agreedFrom_co g ad th L f j) := by
  refine MtI.of (by decide +kernel) (Nat.le_of_ble_eq_true rfl) ?_
  intro p e s m below meth c A hEn hP hD hS ls hl
  obtain ⟨hx, hb, hr, hml, hown, hlocks, hts, hG, hA, hE, hnm⟩ := hEn
  have hown : s.vm.findClass "RulerWord$Course" = some m.cls := hown
  have hl : lv_has ls 4 [(0, .ref (cr ad j 0)), (1, .ref (ad 6))] := hl
  refine lv_iconst (v := (-1)) hx hb dX3_agreedFrom_0 (by decide) ?_
  refine lv_istore_n (lv' := [(2, .int (-1)), (0, .ref (cr ad j 0)), (1, .ref (ad 6))]) hx hb dX3_agreedFrom_1 rfl hl (by decide) rfl (fun ls hl => ?_)
  refine lv_aload_n hx hb dX3_agreedFrom_2 rfl (lv_at hl 2 rfl) ?_
  refine lv_aload_n hx hb dX3_agreedFrom_3 rfl (lv_at hl 1 rfl) ?_
  obtain ⟨v0_1, v1_1, v2_1, v3_1, v4_1, v5_1, v6_1, v7_1, v8_1, hf2, hv1_1, hg1_1, hv2_1, hg2_1, hv6_1⟩ := hT.2.1 j hj 0 (by decide)
  refine pl_get (v := .int v2_1) hx hb hts (fun w h => mT (inX3 w h)) hown hG.1 hP (hst.c hj (by decide)) hf2 rfl 2 (by decide) (hts _ (mT wg_340)) (fun _ h => h) rfl dX3_agreedFrom_4 ?_
  obtain ⟨v0_3, v1_3, v2_3, v3_3, v4_3, v5_3, v6_3, v7_3, hf4, hv0_3, hg0_3, hv1_3, hg1_3, hv2_3, hv3_3, hv5_3, hv6_3, hrel0_3⟩ := hT.1 6 (by decide)
  refine call_i (run_VN (rm := rm_X2_phaseAt_co) hx hb hml hown hts (s_X2_phaseAt_co l g ad th _ _ _ v2_1 hst hT hv2_1) cV_X2_phaseAt wn_775 ⟨Nat.le_of_ble_eq_true rfl, Nat.le_of_ble_eq_true rfl⟩ hG hE hA hP hD hS (hst.1 6 (by decide)) hf4 rfl rfl hl.1 (As := [.int v2_1]) (rest := []) rfl (Nat.le_of_ble_eq_true rfl) dX3_agreedFrom_7 ⟨Nat.le_of_ble_eq_true rfl, Nat.le_of_ble_eq_true rfl⟩) hA hD hS (fun r5 L6 f7 H locs hp8 hP hD hS => ?_)
  obtain ⟨eL9L, eL9T, eL9R, eL9X0⟩ := hp8
  have eL9L : L6 = L := eL9L
  have eL9T : f7 = f := eL9T
  rw [eL9L, eL9T] at hP hD
  have eL9R : In r5 0 9 := eL9R
  have hph10 : r5.toInt * rnd (th 2) ≤ v2_1.toInt ∧ v2_1.toInt < (r5.toInt + 1) * rnd (th 2) := eL9X0
  have hb11 : In r5 0 6 := ph6 hph10 (by rw [hg2_1]; exact h3b) eL9R
  refine lv_iconst (v := 1) hx hb dX3_agreedFrom_10 (by decide) ?_
  refine lv_isub hx hb dX3_agreedFrom_11 ?_
  refine lv_topi (fun x12 ex12 => ?_)
  have hb13 : In x12 (-1) 5 := ex12 ▸ In.sub hb11 (⟨by decide, by decide⟩ : In 1 1 1) (by decide) (by decide) (by decide) (by decide)
  have et14 : x12.toInt = r5.toInt + (-1) := In.sube ex12 hb11 (k := 1) (by decide) (by decide) (by decide)
  refine lv_istore_n (lv' := [(3, .int x12), (2, .int (-1)), (0, .ref (cr ad j 0)), (1, .ref (ad 6))]) hx hb dX3_agreedFrom_12 rfl hl (by decide) rfl (fun ls hl => ?_)
  have hJ13 : ∀ (k13 : Nat) (y13_l2 : Int32) (y13_l3 : Int32) (H : Heap) (locs : List Loc) (ls : Array Slot), In y13_l2 (-1) 5 → In y13_l3 (-1) 5 → va_P g.1 vwCl (va_pl L f) H → va_D A (va_pl L f) → va_S A s.heap H locs → lv_has ls 4 [(0, .ref (cr ad j 0)), (1, .ref (ad 6)), (2, .int y13_l2), (3, .int y13_l3)] → y13_l3.toInt - (-1) < ((k13 : Nat) : Int) → W p l e rm_X3_agreedFrom_co s m [.ref (cr ad j 0), .ref (ad 6)].toArray below meth c H locs 0 0 (MQ below (va_Qi (po_X3_agreedFrom_co g ad th L f j) (PstB g A) A) [.ref (cr ad j 0), .ref (ad 6)].toArray s rm_X3_agreedFrom_co.cells rm_X3_agreedFrom_co.slots A) (F0 m 13 ls []) := by
    intro k13
    induction k13 with
    | zero =>
      intro y13_l2 y13_l3 H locs ls hy13_l2 hy13_l3 hP hD hS hl hmz13
      exact ms0d hy13_l3 hmz13
    | succ k13 ih13 =>
      intro y13_l2 y13_l3 H locs ls hy13_l2 hy13_l3 hP hD hS hl hmz13
      refine lv_iload_n hx hb dX3_agreedFrom_13 rfl (lv_at hl 3 rfl) ?_
      refine lv_if_lt (tgt := 39) hx hb dX3_agreedFrom_14 (by decide) (fun c15 => ?_) (fun c15 => ?_)
      ·
        have cc16 : y13_l3.toInt < (0 : Int32).toInt := i32_lt.mp c15
        have hb17 : In y13_l3 (-1) (-1) := In.lt1 hy13_l3 (⟨by decide, by decide⟩ : In 0 0 0) cc16 (by omega) (by omega)
        refine lv_iload_n hx hb dX3_agreedFrom_39 rfl (lv_at hl 2 rfl) ?_
        exact ret_i (ty := .int) hx hb hr hlocks (rfl) hP hD hS (Nat.le_of_ble_eq_true rfl) (Nat.le_of_ble_eq_true rfl) (⟨rfl, rfl⟩) dX3_agreedFrom_40
      ·
        have cc18 : (0 : Int32).toInt ≤ y13_l3.toInt := i32_nlt c15
        have hb19 : In y13_l3 0 5 := In.ge1 hy13_l3 (⟨by decide, by decide⟩ : In 0 0 0) cc18 (by omega) (by omega)
        refine lv_aload_n hx hb dX3_agreedFrom_17 rfl (lv_at hl 0 rfl) ?_
        refine lv_aload_n hx hb dX3_agreedFrom_18 rfl (lv_at hl 1 rfl) ?_
        refine lv_aload_n hx hb dX3_agreedFrom_19 rfl (lv_at hl 0 rfl) ?_
        refine pl_get (v := .ref (cr ad j 6)) hx hb hts (fun w h => mT (inX3 w h)) hown hG.1 hP (hst.c hj (by decide)) hf2 rfl 14 (by decide) (hts _ (mT wg_358)) (fun _ h => h) rfl dX3_agreedFrom_20 ?_
        refine lv_iload_n hx hb dX3_agreedFrom_23 rfl (lv_at hl 3 rfl) ?_
        obtain ⟨rw20, hf21⟩ := hT.2.1 j hj 6 (by decide)
        have hin22 : vp_in y13_l3 6 := In.inb hb19 (by decide) (by decide)
        refine pl_iald hx hb hG.1 hP (hst.c hj (by decide)) 0 hf21 rfl hin22 dX3_agreedFrom_24 ?_
        refine lv_topi (fun x23 ex23 => ?_)
        refine call_i (run_V (rm := rm_X3_alike_co) hx hb hml hown hts (s_X3_alike_co l g ad th _ _ _ j x23 hst hT hj) cV_X3_alike wg_972 ⟨Nat.le_of_ble_eq_true rfl, Nat.le_of_ble_eq_true rfl⟩ hG hE hA hP hD hS (hst.c hj (by decide)) hf2 rfl rfl hl.1 (As := [.ref (ad 6), .int x23]) (rest := []) rfl (Nat.le_of_ble_eq_true rfl) dX3_agreedFrom_25 ⟨Nat.le_of_ble_eq_true rfl, Nat.le_of_ble_eq_true rfl⟩) hA hD hS (fun r24 L25 f26 H locs hp27 hP hD hS => ?_)
        obtain ⟨eL28L, eL28T, eL28R⟩ := hp27
        have eL28L : L25 = L := eL28L
        have eL28T : f26 = f := eL28T
        rw [eL28L, eL28T] at hP hD
        have eL28R : In r24 0 1 := eL28R
        refine lv_if_eq (tgt := 39) hx hb dX3_agreedFrom_28 (by decide) (fun c29 => ?_) (fun c29 => ?_)
        ·
          have cc30 : r24.toInt = (0 : Int32).toInt := congrArg Int32.toInt c29
          have hb31 : In r24 0 0 := In.eq1 eL28R (⟨by decide, by decide⟩ : In 0 0 0) cc30 (by omega) (by omega)
          refine lv_iload_n hx hb dX3_agreedFrom_39 rfl (lv_at hl 2 rfl) ?_
          exact ret_i (ty := .int) hx hb hr hlocks (rfl) hP hD hS (Nat.le_of_ble_eq_true rfl) (Nat.le_of_ble_eq_true rfl) (⟨rfl, rfl⟩) dX3_agreedFrom_40
        ·
          have cc32 : r24.toInt ≠ (0 : Int32).toInt := i32_ne c29
          have hb33 : In r24 1 1 := In.ne1 eL28R (⟨by decide, by decide⟩ : In 0 0 0) cc32 (by omega) (by omega)
          refine lv_iload_n hx hb dX3_agreedFrom_31 rfl (lv_at hl 3 rfl) ?_
          refine lv_istore_n (lv' := [(2, .int y13_l3), (0, .ref (cr ad j 0)), (1, .ref (ad 6)), (3, .int y13_l3)]) hx hb dX3_agreedFrom_32 rfl hl (by decide) rfl (fun ls hl => ?_)
          obtain ⟨x34, ex34⟩ : ∃ y : Int32, y = y13_l3 + (-1) := ⟨_, rfl⟩
          have hb35 : In x34 (-1) 4 := ex34 ▸ In.add hb19 (⟨by decide, by decide⟩ : In (-1) (-1) (-1)) (by decide) (by decide) (by decide) (by decide)
          have et36 : x34.toInt = y13_l3.toInt + (-1) := In.adde ex34 hb19 (k := (-1)) (by decide) (by decide) (by decide)
          refine lv_iinc (v := x34) (lv' := [(3, .int x34), (2, .int y13_l3), (0, .ref (cr ad j 0)), (1, .ref (ad 6))]) hx hb dX3_agreedFrom_33 hl (k := 3) rfl (by rw [ex34]; rfl) (by decide) rfl (fun ls hl => ?_)
          refine lv_goto (tgt := 13) hx hb dX3_agreedFrom_36 (by decide) ?_
          exact ih13 y13_l3 x34 _ _ _ (In.mono hb19 (by decide) (by decide)) (In.mono hb35 (by decide) (by decide)) hP hD hS (lv_sub hl [2, 3, 1, 0] rfl) (msd et36 (by decide) hmz13)
  exact hJ13 ((x12.toInt - (-1)).toNat + 1) (-1) x12 _ _ _ (⟨by decide, by decide⟩ : In (-1) (-1) 5) hb13 hP hD hS (lv_sub hl [2, 3, 1, 0] rfl) (msI _)

abbrev rm_X3_agreedFrom_ot : Room := { frames := 3, cells := 0, slots := 0, locals := 64 }
abbrev po_X3_agreedFrom_ot (g : GG) (ad : Nat → Nat) (th : Nat → Int) (L : List Nat) (f : HP) (j : Nat) : Int32 → (List Nat × HP) → Prop := fun _ u => u.1 = L ∧ u.2 = f
set_option maxHeartbeats 4000000 in
set_option maxRecDepth 100000 in
theorem s_X3_agreedFrom_ot (l : Launch) (g : GG) (ad : Nat → Nat) (th : Nat → Int) (L : List Nat) (f : HP) (sz : Nat) (j : Nat) (hst : ST ad L) (hT : TI g ad th f) (hj : j < 23) (h3a : 0 ≤ th (300 + j)) (h3b : th (300 + j) ≤ 6 * rnd (th 4)) : MtI l g yX3_agreedFrom cX3_agreedFrom 4 (some .int) rm_X3_agreedFrom_ot [.ref (cr ad j 0), .ref (ad 7)] L f sz (po_X3_agreedFrom_ot g ad th L f j) := by
  refine MtI.of (by decide +kernel) (Nat.le_of_ble_eq_true rfl) ?_
  intro p e s m below meth c A hEn hP hD hS ls hl
  obtain ⟨hx, hb, hr, hml, hown, hlocks, hts, hG, hA, hE, hnm⟩ := hEn
  have hown : s.vm.findClass "RulerWord$Course" = some m.cls := hown
  have hl : lv_has ls 4 [(0, .ref (cr ad j 0)), (1, .ref (ad 7))] := hl
  refine lv_iconst (v := (-1)) hx hb dX3_agreedFrom_0 (by decide) ?_
  refine lv_istore_n (lv' := [(2, .int (-1)), (0, .ref (cr ad j 0)), (1, .ref (ad 7))]) hx hb dX3_agreedFrom_1 rfl hl (by decide) rfl (fun ls hl => ?_)
  refine lv_aload_n hx hb dX3_agreedFrom_2 rfl (lv_at hl 2 rfl) ?_
  refine lv_aload_n hx hb dX3_agreedFrom_3 rfl (lv_at hl 1 rfl) ?_
  obtain ⟨v0_1, v1_1, v2_1, v3_1, v4_1, v5_1, v6_1, v7_1, v8_1, hf2, hv1_1, hg1_1, hv2_1, hg2_1, hv6_1⟩ := hT.2.1 j hj 0 (by decide)
  refine pl_get (v := .int v2_1) hx hb hts (fun w h => mT (inX3 w h)) hown hG.1 hP (hst.c hj (by decide)) hf2 rfl 2 (by decide) (hts _ (mT wg_340)) (fun _ h => h) rfl dX3_agreedFrom_4 ?_
  obtain ⟨v0_3, v1_3, v2_3, v3_3, v4_3, v5_3, v6_3, v7_3, hf4, hv0_3, hg0_3, hv1_3, hv2_3, hv3_3, hv5_3, hv6_3⟩ := hT.1 7 (by decide)
  refine call_i (run_VN (rm := rm_X2_phaseAt_ot) hx hb hml hown hts (s_X2_phaseAt_ot l g ad th _ _ _ v2_1 hst hT hv2_1) cV_X2_phaseAt wn_775 ⟨Nat.le_of_ble_eq_true rfl, Nat.le_of_ble_eq_true rfl⟩ hG hE hA hP hD hS (hst.1 7 (by decide)) hf4 rfl rfl hl.1 (As := [.int v2_1]) (rest := []) rfl (Nat.le_of_ble_eq_true rfl) dX3_agreedFrom_7 ⟨Nat.le_of_ble_eq_true rfl, Nat.le_of_ble_eq_true rfl⟩) hA hD hS (fun r5 L6 f7 H locs hp8 hP hD hS => ?_)
  obtain ⟨eL9L, eL9T, eL9R, eL9X0⟩ := hp8
  have eL9L : L6 = L := eL9L
  have eL9T : f7 = f := eL9T
  rw [eL9L, eL9T] at hP hD
  have eL9R : In r5 0 9 := eL9R
  have hph10 : r5.toInt * rnd (th 4) ≤ v2_1.toInt ∧ v2_1.toInt < (r5.toInt + 1) * rnd (th 4) := eL9X0
  have hb11 : In r5 0 6 := ph6 hph10 (by rw [hg2_1]; exact h3b) eL9R
  refine lv_iconst (v := 1) hx hb dX3_agreedFrom_10 (by decide) ?_
  refine lv_isub hx hb dX3_agreedFrom_11 ?_
  refine lv_topi (fun x12 ex12 => ?_)
  have hb13 : In x12 (-1) 5 := ex12 ▸ In.sub hb11 (⟨by decide, by decide⟩ : In 1 1 1) (by decide) (by decide) (by decide) (by decide)
  have et14 : x12.toInt = r5.toInt + (-1) := In.sube ex12 hb11 (k := 1) (by decide) (by decide) (by decide)
  refine lv_istore_n (lv' := [(3, .int x12), (2, .int (-1)), (0, .ref (cr ad j 0)), (1, .ref (ad 7))]) hx hb dX3_agreedFrom_12 rfl hl (by decide) rfl (fun ls hl => ?_)
  have hJ13 : ∀ (k13 : Nat) (y13_l2 : Int32) (y13_l3 : Int32) (H : Heap) (locs : List Loc) (ls : Array Slot), In y13_l2 (-1) 5 → In y13_l3 (-1) 5 → va_P g.1 vwCl (va_pl L f) H → va_D A (va_pl L f) → va_S A s.heap H locs → lv_has ls 4 [(0, .ref (cr ad j 0)), (1, .ref (ad 7)), (2, .int y13_l2), (3, .int y13_l3)] → y13_l3.toInt - (-1) < ((k13 : Nat) : Int) → W p l e rm_X3_agreedFrom_ot s m [.ref (cr ad j 0), .ref (ad 7)].toArray below meth c H locs 0 0 (MQ below (va_Qi (po_X3_agreedFrom_ot g ad th L f j) (PstB g A) A) [.ref (cr ad j 0), .ref (ad 7)].toArray s rm_X3_agreedFrom_ot.cells rm_X3_agreedFrom_ot.slots A) (F0 m 13 ls []) := by
    intro k13
    induction k13 with
    | zero =>
      intro y13_l2 y13_l3 H locs ls hy13_l2 hy13_l3 hP hD hS hl hmz13
      exact ms0d hy13_l3 hmz13
    | succ k13 ih13 =>
      intro y13_l2 y13_l3 H locs ls hy13_l2 hy13_l3 hP hD hS hl hmz13
      refine lv_iload_n hx hb dX3_agreedFrom_13 rfl (lv_at hl 3 rfl) ?_
      refine lv_if_lt (tgt := 39) hx hb dX3_agreedFrom_14 (by decide) (fun c15 => ?_) (fun c15 => ?_)
      ·
        have cc16 : y13_l3.toInt < (0 : Int32).toInt := i32_lt.mp c15
        have hb17 : In y13_l3 (-1) (-1) := In.lt1 hy13_l3 (⟨by decide, by decide⟩ : In 0 0 0) cc16 (by omega) (by omega)
        refine lv_iload_n hx hb dX3_agreedFrom_39 rfl (lv_at hl 2 rfl) ?_
        exact ret_i (ty := .int) hx hb hr hlocks (rfl) hP hD hS (Nat.le_of_ble_eq_true rfl) (Nat.le_of_ble_eq_true rfl) (⟨rfl, rfl⟩) dX3_agreedFrom_40
      ·
        have cc18 : (0 : Int32).toInt ≤ y13_l3.toInt := i32_nlt c15
        have hb19 : In y13_l3 0 5 := In.ge1 hy13_l3 (⟨by decide, by decide⟩ : In 0 0 0) cc18 (by omega) (by omega)
        refine lv_aload_n hx hb dX3_agreedFrom_17 rfl (lv_at hl 0 rfl) ?_
        refine lv_aload_n hx hb dX3_agreedFrom_18 rfl (lv_at hl 1 rfl) ?_
        refine lv_aload_n hx hb dX3_agreedFrom_19 rfl (lv_at hl 0 rfl) ?_
        refine pl_get (v := .ref (cr ad j 6)) hx hb hts (fun w h => mT (inX3 w h)) hown hG.1 hP (hst.c hj (by decide)) hf2 rfl 14 (by decide) (hts _ (mT wg_358)) (fun _ h => h) rfl dX3_agreedFrom_20 ?_
        refine lv_iload_n hx hb dX3_agreedFrom_23 rfl (lv_at hl 3 rfl) ?_
        obtain ⟨rw20, hf21⟩ := hT.2.1 j hj 6 (by decide)
        have hin22 : vp_in y13_l3 6 := In.inb hb19 (by decide) (by decide)
        refine pl_iald hx hb hG.1 hP (hst.c hj (by decide)) 0 hf21 rfl hin22 dX3_agreedFrom_24 ?_
        refine lv_topi (fun x23 ex23 => ?_)
        refine call_i (run_V (rm := rm_X3_alike_ot) hx hb hml hown hts (s_X3_alike_ot l g ad th _ _ _ j x23 hst hT hj) cV_X3_alike wg_972 ⟨Nat.le_of_ble_eq_true rfl, Nat.le_of_ble_eq_true rfl⟩ hG hE hA hP hD hS (hst.c hj (by decide)) hf2 rfl rfl hl.1 (As := [.ref (ad 7), .int x23]) (rest := []) rfl (Nat.le_of_ble_eq_true rfl) dX3_agreedFrom_25 ⟨Nat.le_of_ble_eq_true rfl, Nat.le_of_ble_eq_true rfl⟩) hA hD hS (fun r24 L25 f26 H locs hp27 hP hD hS => ?_)
        obtain ⟨eL28L, eL28T, eL28R⟩ := hp27
        have eL28L : L25 = L := eL28L
        have eL28T : f26 = f := eL28T
        rw [eL28L, eL28T] at hP hD
        have eL28R : In r24 0 1 := eL28R
        refine lv_if_eq (tgt := 39) hx hb dX3_agreedFrom_28 (by decide) (fun c29 => ?_) (fun c29 => ?_)
        ·
          have cc30 : r24.toInt = (0 : Int32).toInt := congrArg Int32.toInt c29
          have hb31 : In r24 0 0 := In.eq1 eL28R (⟨by decide, by decide⟩ : In 0 0 0) cc30 (by omega) (by omega)
          refine lv_iload_n hx hb dX3_agreedFrom_39 rfl (lv_at hl 2 rfl) ?_
          exact ret_i (ty := .int) hx hb hr hlocks (rfl) hP hD hS (Nat.le_of_ble_eq_true rfl) (Nat.le_of_ble_eq_true rfl) (⟨rfl, rfl⟩) dX3_agreedFrom_40
        ·
          have cc32 : r24.toInt ≠ (0 : Int32).toInt := i32_ne c29
          have hb33 : In r24 1 1 := In.ne1 eL28R (⟨by decide, by decide⟩ : In 0 0 0) cc32 (by omega) (by omega)
          refine lv_iload_n hx hb dX3_agreedFrom_31 rfl (lv_at hl 3 rfl) ?_
          refine lv_istore_n (lv' := [(2, .int y13_l3), (0, .ref (cr ad j 0)), (1, .ref (ad 7)), (3, .int y13_l3)]) hx hb dX3_agreedFrom_32 rfl hl (by decide) rfl (fun ls hl => ?_)
          obtain ⟨x34, ex34⟩ : ∃ y : Int32, y = y13_l3 + (-1) := ⟨_, rfl⟩
          have hb35 : In x34 (-1) 4 := ex34 ▸ In.add hb19 (⟨by decide, by decide⟩ : In (-1) (-1) (-1)) (by decide) (by decide) (by decide) (by decide)
          have et36 : x34.toInt = y13_l3.toInt + (-1) := In.adde ex34 hb19 (k := (-1)) (by decide) (by decide) (by decide)
          refine lv_iinc (v := x34) (lv' := [(3, .int x34), (2, .int y13_l3), (0, .ref (cr ad j 0)), (1, .ref (ad 7))]) hx hb dX3_agreedFrom_33 hl (k := 3) rfl (by rw [ex34]; rfl) (by decide) rfl (fun ls hl => ?_)
          refine lv_goto (tgt := 13) hx hb dX3_agreedFrom_36 (by decide) ?_
          exact ih13 y13_l3 x34 _ _ _ (In.mono hb19 (by decide) (by decide)) (In.mono hb35 (by decide) (by decide)) hP hD hS (lv_sub hl [2, 3, 1, 0] rfl) (msd et36 (by decide) hmz13)
  exact hJ13 ((x12.toInt - (-1)).toNat + 1) (-1) x12 _ _ _ (⟨by decide, by decide⟩ : In (-1) (-1) 5) hb13 hP hD hS (lv_sub hl [2, 3, 1, 0] rfl) (msI _)

abbrev rm_X0_keep : Room := { frames := 2, cells := 0, slots := 0, locals := 221 }
abbrev po_X0_keep (g : GG) (ad : Nat → Nat) (th : Nat → Int) (L : List Nat) (f : HP)  : (List Nat × HP) → Prop := fun u => u.1 = L ∧ (∃ th' : Nat → Int, (CIv th' ∧ SBK th th') ∧ TI g ad th' u.2)
set_option maxHeartbeats 4000000 in
set_option maxRecDepth 100000 in
theorem s_X0_keep (l : Launch) (g : GG) (ad : Nat → Nat) (th : Nat → Int) (L : List Nat) (f : HP) (sz : Nat)  (hst : ST ad L) (hT : TI g ad th f) (hC : CIv th) : MtV l g yX0_keep cX0_keep 2 rm_X0_keep [.ref (ad 16), .ref (cr ad 0 0)] L f sz (po_X0_keep g ad th L f ) := by
  refine MtV.of (by decide +kernel) (Nat.le_of_ble_eq_true rfl) ?_
  intro p e s m below meth c A hEn hP hD hS ls hl
  obtain ⟨hx, hb, hr, hml, hown, hlocks, hts, hG, hA, hE, hnm⟩ := hEn
  have hown : s.vm.findClass "RulerWord$Acts" = some m.cls := hown
  have hl : lv_has ls 2 [(0, .ref (ad 16)), (1, .ref (cr ad 0 0))] := hl
  refine lv_aload_n hx hb dX0_keep_0 rfl (lv_at hl 0 rfl) ?_
  refine lv_aload_n hx hb dX0_keep_1 rfl (lv_at hl 0 rfl) ?_
  obtain ⟨v1_1, v2_1, hf2, hv1_1, hg1_1, hv2_1, hg2_1⟩ := hT.1 16 (by decide)
  refine pl_get (v := .int v1_1) hx hb hts (fun w h => mT (inX0 w h)) hown hG.1 hP (hst.1 16 (by decide)) hf2 rfl 1 (by decide) (hts _ (mT wg_414)) (fun _ h => h) rfl dX0_keep_2 ?_
  refine lv_iconst (v := 1) hx hb dX0_keep_5 (by decide) ?_
  refine lv_iadd hx hb dX0_keep_6 ?_
  refine lv_topi (fun x3 ex3 => ?_)
  have hb4 : In x3 1 20 := ex3 ▸ In.add hv1_1 (⟨by decide, by decide⟩ : In 1 1 1) (by decide) (by decide) (by decide) (by decide)
  have et5 : x3.toInt = v1_1.toInt + 1 := In.adde ex3 hv1_1 (k := 1) (by decide) (by decide) (by decide)
  refine lv_bipush (v := 20) hx hb dX0_keep_7 (by decide) ?_
  refine lv_irem hx hb dX0_keep_9 (In.ne0 (⟨by decide, by decide⟩ : In 20 20 20) (by decide)) ?_
  refine lv_topi (fun x6 ex6 => ?_)
  have hb7 : In x6 0 19 := ex6 ▸ In.rem hb4 (⟨by decide, by decide⟩ : In 20 20 20) (by decide) (by decide) (by decide)
  refine pl_put (ty := .int) (v := .int x6) (fs' := [.ref (ad 17), .int x6, .int v2_1]) hx hb hts (fun w h => mT (inX0 w h)) tyX0 tyX0_ok nmX0 hown hG.1 hP hD hS (hst.1 16 (by decide)) hf2 rfl 1 (by decide) (hts _ (mT wg_414)) (fun _ h => h) rfl (by decide +kernel) (rfl) (rfl) (Nat.le_of_ble_eq_true rfl) rfl dX0_keep_10 (fun H locs f8 hf9 ho10 hP hD hS => ?_)
  refine lv_aload_n hx hb dX0_keep_13 rfl (lv_at hl 0 rfl) ?_
  refine pl_get (v := .ref (ad 17)) hx hb hts (fun w h => mT (inX0 w h)) hown hG.1 hP (hst.1 16 (by decide)) hf9 rfl 0 (by decide) (hts _ (mT wg_413)) (fun _ h => h) rfl dX0_keep_14 ?_
  refine lv_aload_n hx hb dX0_keep_17 rfl (lv_at hl 0 rfl) ?_
  refine pl_get (v := .int x6) hx hb hts (fun w h => mT (inX0 w h)) hown hG.1 hP (hst.1 16 (by decide)) hf9 rfl 1 (by decide) (hts _ (mT wg_414)) (fun _ h => h) rfl dX0_keep_18 ?_
  have hT := TI.updAG (th' := (gset th 5 (x6.toInt))) hT hst (k := 16) (by decide) hf9 ho10 ⟨x6, v2_1, rfl, hb7, (by simp [gset]), hv2_1, (by rw [hg2_1]; simp [gset])⟩ (fun q hq => ((gset_ne (own_ne hq (k := 5) (by decide) rfl)).trans rfl))
  have hT : TI g ad (gset th 5 x6.toInt) f8 := TI.cast hT (by funext q; simp only [gset]; (repeat' split); all_goals first | rfl | omega | (subst_vars; rfl) | (exfalso; omega))
  obtain ⟨rw11, hf12, hc13⟩ := hT.1 17 (by decide)
  refine pl_aldq hx hb hG.1 hP (hst.1 17 (by decide)) 4 hf12 rfl (In.inb hb7 (by decide) (by decide)) dX0_keep_21 ?_
  obtain ⟨j14, hj14, kj14, ej14⟩ := ring_at hc13 hb7
  rw [ej14]
  have h3j14 : 3 ≤ j14 := by have q := kj14; have q1 := (hb7 : In _ _ _).1; omega
  refine lv_aload_n hx hb dX0_keep_22 rfl (lv_at hl 1 rfl) ?_
  obtain ⟨v0_16, v1_16, v2_16, v3_16, v4_16, v5_16, v6_16, v7_16, v8_16, hf17, hv1_16, hg1_16, hv2_16, hg2_16, hv6_16⟩ := hT.2.1 j14 hj14 0 (by decide)
  refine call_v (run_VN (rm := rm_X3_copy) hx hb hml hown hts (s_X3_copy l g ad (gset th 5 x6.toInt) _ _ _ j14 0 hst hT hj14 (by decide) (by have := kj14; obtain ⟨q1, q2⟩ := hb7; omega)) cV_X3_copy wn_763 ⟨Nat.le_of_ble_eq_true rfl, Nat.le_of_ble_eq_true rfl⟩ hG hE hA hP hD hS (hst.c hj14 (by decide)) hf17 rfl rfl hl.1 (As := [.ref (cr ad 0 0)]) (rest := []) rfl (Nat.le_of_ble_eq_true rfl) dX0_keep_23 ⟨Nat.le_of_ble_eq_true rfl, Nat.le_of_ble_eq_true rfl⟩) hA hD hS (fun L19 f20 H locs hp21 hP hD hS => ?_)
  obtain ⟨eL22L, eL22T, eL22F⟩ := hp21
  have eL22L : L19 = L := eL22L
  rw [eL22L] at hP hD
  have hT : TI g ad (gset (gset (gset th 5 x6.toInt) (200 + j14) ((gset th 5 x6.toInt) (200 + 0))) (300 + j14) ((gset th 5 x6.toInt) (300 + 0))) f20 := eL22T
  have eL22F : ∀ b, b ≠ (cr ad j14 0) → b ≠ (cr ad j14 1) → b ≠ (cr ad j14 2) → b ≠ (cr ad j14 3) → b ≠ (cr ad j14 4) → b ≠ (cr ad j14 5) → b ≠ (cr ad j14 6) → b ≠ (cr ad j14 7) → b ≠ (cr ad j14 8) → b ≠ (cr ad j14 9) → f20 b = f8 b := eL22F
  have hf23 := (eL22F (ad 17) (hst.ne (by omega) (by omega) (by omega)) (hst.ne (by omega) (by omega) (by omega)) (hst.ne (by omega) (by omega) (by omega)) (hst.ne (by omega) (by omega) (by omega)) (hst.ne (by omega) (by omega) (by omega)) (hst.ne (by omega) (by omega) (by omega)) (hst.ne (by omega) (by omega) (by omega)) (hst.ne (by omega) (by omega) (by omega)) (hst.ne (by omega) (by omega) (by omega)) (hst.ne (by omega) (by omega) (by omega))).trans hf12
  refine lv_aload_n hx hb dX0_keep_26 rfl (lv_at hl 0 rfl) ?_
  refine lv_aload_n hx hb dX0_keep_27 rfl (lv_at hl 0 rfl) ?_
  obtain ⟨v1_24, v2_24, hf25, hv1_24, hg1_24, hv2_24, hg2_24⟩ := hT.1 16 (by decide)
  have hg1_24 : v1_24.toInt = x6.toInt := hg1_24.trans ((gset_ne (by omega)).trans ((gset_ne (by omega)).trans ((gset_eq _ _ _))))
  have hg2_24 : v2_24.toInt = th 6 := hg2_24.trans ((gset_ne (by omega)).trans ((gset_ne (by omega)).trans ((gset_ne (by omega)).trans (rfl))))
  refine pl_get (v := .int v2_24) hx hb hts (fun w h => mT (inX0 w h)) hown hG.1 hP (hst.1 16 (by decide)) hf25 rfl 2 (by decide) (hts _ (mT wg_415)) (fun _ h => h) rfl dX0_keep_28 ?_
  refine lv_iconst (v := 1) hx hb dX0_keep_31 (by decide) ?_
  refine lv_iadd hx hb dX0_keep_32 ?_
  refine lv_topi (fun x26 ex26 => ?_)
  have hb27 : In x26 1 21 := ex26 ▸ In.add hv2_24 (⟨by decide, by decide⟩ : In 1 1 1) (by decide) (by decide) (by decide) (by decide)
  have et28 : x26.toInt = v2_24.toInt + 1 := In.adde ex26 hv2_24 (k := 1) (by decide) (by decide) (by decide)
  refine lv_bipush (v := 20) hx hb dX0_keep_33 (by decide) ?_
  refine va_mmin hx hb (hml.trans hl.1.symm) hown (hts _ (mT wg_768)) (hts _ (mT wg_769)) (hts _ (mT wg_178)) (hts _ (mT (mG 770 (by decide +kernel) rfl))) (by first | decide | exact Nat.le_of_ble_eq_true rfl) (by first | decide | exact Nat.le_of_ble_eq_true rfl) (by first | decide | exact Nat.le_of_ble_eq_true rfl) (by first | decide | exact Nat.le_of_ble_eq_true rfl) dX0_keep_35 ?_
  refine lv_topi (fun x29 ex29 => ?_)
  have hb30 : In x29 1 20 := ex29 ▸ In.min hb27 (⟨by decide, by decide⟩ : In 20 20 20) (by omega) (by omega)
  refine pl_put (ty := .int) (v := .int x29) (fs' := [.ref (ad 17), .int v1_24, .int x29]) hx hb hts (fun w h => mT (inX0 w h)) tyX0 tyX0_ok nmX0 hown hG.1 hP hD hS (hst.1 16 (by decide)) hf25 rfl 2 (by decide) (hts _ (mT wg_415)) (fun _ h => h) rfl (by decide +kernel) (rfl) (rfl) (Nat.le_of_ble_eq_true rfl) rfl dX0_keep_38 (fun H locs f31 hf32 ho33 hP hD hS => ?_)
  have hf34 := (ho33 (ad 17) (hst.ne (by decide) (by decide) (by decide))).trans hf23
  have hT := TI.updAG (th' := (gset (gset (gset (gset th 5 x6.toInt) (200 + j14) ((gset th 5 x6.toInt) (200 + 0))) (300 + j14) ((gset th 5 x6.toInt) (300 + 0))) 6 (x29.toInt))) hT hst (k := 16) (by decide) hf32 ho33 ⟨v1_24, x29, rfl, hv1_24, (hg1_24.trans ((gset_ne (by omega)).trans ((gset_ne (by omega)).trans ((gset_ne (by omega)).trans ((gset_eq _ _ _))))).symm), (In.mono hb30 (by decide) (by decide)), (by simp [gset])⟩ (fun q hq => ((gset_ne (own_ne hq (k := 6) (by decide) rfl)).trans rfl))
  have hT : TI g ad (gset (gset (gset (gset th 5 x6.toInt) (200 + j14) ((gset th 5 x6.toInt) (200 + 0))) (300 + j14) ((gset th 5 x6.toInt) (300 + 0))) 6 x29.toInt) f31 := TI.cast hT (by funext q; simp only [gset]; (repeat' split); all_goals first | rfl | omega | (subst_vars; rfl) | (exfalso; omega))
  have hm5 : x6.toInt = (th 5 + 1) % 20 := by rw [rem_e ex6 (n := 20) (by decide) (by decide) (Int.le_trans (by decide) hb4.1), et5, hg1_1]
  have hd6 : x29.toInt = min (th 6 + 1) 20 := by rw [min_e ex29, et28, show (20 : Int32).toInt = 20 by decide]; have := hg2_24; omega
  have hi5 : x6.toInt = x6.toInt := by omega
  have hkp : CIv (gset (gset (gset (gset th 5 x6.toInt) (200 + j14) ((gset th 5 x6.toInt) (200 + 0))) (300 + j14) ((gset th 5 x6.toInt) (300 + 0))) 6 x29.toInt) ∧ SBK th (gset (gset (gset (gset th 5 x6.toInt) (200 + j14) ((gset th 5 x6.toInt) (200 + 0))) (300 + j14) ((gset th 5 x6.toInt) (300 + 0))) 6 x29.toInt) := CIv.keep (k := j14) (m := x6.toInt) (d := x29.toInt) hC (by have := kj14; omega) hm5 hd6 ((gset_ne (by omega)).trans ((gset_ne (by omega)).trans ((gset_ne (by omega)).trans ((gset_eq _ _ _))))) ((gset_eq _ _ _)) (((gset_ne (by omega)).trans ((gset_ne (by omega)).trans ((gset_eq _ _ _)))).trans rfl) (((gset_ne (by omega)).trans ((gset_eq _ _ _))).trans rfl) (fun q h1 h2 h3 h4 => (by simp only [gset]; (repeat' split); all_goals first | rfl | omega))
  exact ret_v hx hb hr hlocks hP hD hS (Nat.le_of_ble_eq_true rfl) (Nat.le_of_ble_eq_true rfl) (⟨rfl, ⟨(gset (gset (gset (gset th 5 x6.toInt) (200 + j14) ((gset th 5 x6.toInt) (200 + 0))) (300 + j14) ((gset th 5 x6.toInt) (300 + 0))) 6 x29.toInt), hkp, hT⟩⟩) dX0_keep_41

abbrev rm_X0_takeBack : Room := { frames := 2, cells := 0, slots := 0, locals := 221 }
abbrev po_X0_takeBack (g : GG) (ad : Nat → Nat) (th : Nat → Int) (L : List Nat) (f : HP)  : Int32 → (List Nat × HP) → Prop := fun r u => u.1 = L ∧ (∃ th' : Nat → Int, (CIv th' ∧ SBC th th') ∧ TI g ad th' u.2) ∧ (∀ b, b ≠ (ad 16) → b ≠ (cr ad 0 0) → b ≠ (cr ad 0 1) → b ≠ (cr ad 0 2) → b ≠ (cr ad 0 3) → b ≠ (cr ad 0 4) → b ≠ (cr ad 0 5) → b ≠ (cr ad 0 6) → b ≠ (cr ad 0 7) → b ≠ (cr ad 0 8) → b ≠ (cr ad 0 9) → u.2 b = f b) ∧ In r 0 1
set_option maxHeartbeats 4000000 in
set_option maxRecDepth 100000 in
theorem s_X0_takeBack (l : Launch) (g : GG) (ad : Nat → Nat) (th : Nat → Int) (L : List Nat) (f : HP) (sz : Nat)  (hst : ST ad L) (hT : TI g ad th f) (hC : CIv th) : MtI l g yX0_takeBack cX0_takeBack 2 (some .boolean) rm_X0_takeBack [.ref (ad 16), .ref (cr ad 0 0)] L f sz (po_X0_takeBack g ad th L f ) := by
  refine MtI.of (by decide +kernel) (Nat.le_of_ble_eq_true rfl) ?_
  intro p e s m below meth c A hEn hP hD hS ls hl
  obtain ⟨hx, hb, hr, hml, hown, hlocks, hts, hG, hA, hE, hnm⟩ := hEn
  have hown : s.vm.findClass "RulerWord$Acts" = some m.cls := hown
  have hl : lv_has ls 2 [(0, .ref (ad 16)), (1, .ref (cr ad 0 0))] := hl
  have hfr : (∀ b, b ≠ (ad 16) → b ≠ (cr ad 0 0) → b ≠ (cr ad 0 1) → b ≠ (cr ad 0 2) → b ≠ (cr ad 0 3) → b ≠ (cr ad 0 4) → b ≠ (cr ad 0 5) → b ≠ (cr ad 0 6) → b ≠ (cr ad 0 7) → b ≠ (cr ad 0 8) → b ≠ (cr ad 0 9) → f b = f b) := fun b z0_ z1_ z2_ z3_ z4_ z5_ z6_ z7_ z8_ z9_ z10_ => rfl
  refine lv_aload_n hx hb dX0_takeBack_0 rfl (lv_at hl 0 rfl) ?_
  obtain ⟨v1_1, v2_1, hf2, hv1_1, hg1_1, hv2_1, hg2_1⟩ := hT.1 16 (by decide)
  refine pl_get (v := .int v2_1) hx hb hts (fun w h => mT (inX0 w h)) hown hG.1 hP (hst.1 16 (by decide)) hf2 rfl 2 (by decide) (hts _ (mT wg_415)) (fun _ h => h) rfl dX0_takeBack_1 ?_
  refine lv_iconst (v := 1) hx hb dX0_takeBack_4 (by decide) ?_
  refine lv_icmp_ge (tgt := 10) hx hb dX0_takeBack_5 (by decide) (fun c3 => ?_) (fun c3 => ?_)
  ·
    have oc1 : (1 : Int32).toInt = 1 := by decide
    have cc4 : (1 : Int32).toInt ≤ v2_1.toInt := i32_le.mp c3
    have hb5 : In v2_1 1 20 := In.ge1 hv2_1 (⟨by decide, by decide⟩ : In 1 1 1) cc4 (by omega) (by omega)
    refine lv_aload_n hx hb dX0_takeBack_10 rfl (lv_at hl 1 rfl) ?_
    refine lv_aload_n hx hb dX0_takeBack_11 rfl (lv_at hl 0 rfl) ?_
    refine pl_get (v := .ref (ad 17)) hx hb hts (fun w h => mT (inX0 w h)) hown hG.1 hP (hst.1 16 (by decide)) hf2 rfl 0 (by decide) (hts _ (mT wg_413)) (fun _ h => h) rfl dX0_takeBack_12 ?_
    refine lv_aload_n hx hb dX0_takeBack_15 rfl (lv_at hl 0 rfl) ?_
    refine pl_get (v := .int v1_1) hx hb hts (fun w h => mT (inX0 w h)) hown hG.1 hP (hst.1 16 (by decide)) hf2 rfl 1 (by decide) (hts _ (mT wg_414)) (fun _ h => h) rfl dX0_takeBack_16 ?_
    obtain ⟨rw6, hf7, hc8⟩ := hT.1 17 (by decide)
    refine pl_aldq hx hb hG.1 hP (hst.1 17 (by decide)) 4 hf7 rfl (In.inb hv1_1 (by decide) (by decide)) dX0_takeBack_19 ?_
    obtain ⟨j9, hj9, kj9, ej9⟩ := ring_at hc8 hv1_1
    rw [ej9]
    have h3j9 : 3 ≤ j9 := by have q := kj9; have q1 := (hv1_1 : In _ _ _).1; omega
    obtain ⟨v0_11, v1_11, v2_11, v3_11, v4_11, v5_11, v6_11, v7_11, v8_11, hf12, hv1_11, hg1_11, hv2_11, hg2_11, hv6_11⟩ := hT.2.1 0 (by decide) 0 (by decide)
    refine call_v (run_VN (rm := rm_X3_copy) hx hb hml hown hts (s_X3_copy l g ad th _ _ _ 0 j9 hst hT (by decide) hj9 (by have := kj9; obtain ⟨q1, q2⟩ := hv1_1; omega)) cV_X3_copy wn_763 ⟨Nat.le_of_ble_eq_true rfl, Nat.le_of_ble_eq_true rfl⟩ hG hE hA hP hD hS (hst.c (by decide) (by decide)) hf12 rfl rfl hl.1 (As := [.ref (cr ad j9 0)]) (rest := []) rfl (Nat.le_of_ble_eq_true rfl) dX0_takeBack_20 ⟨Nat.le_of_ble_eq_true rfl, Nat.le_of_ble_eq_true rfl⟩) hA hD hS (fun L14 f15 H locs hp16 hP hD hS => ?_)
    obtain ⟨eL17L, eL17T, eL17F⟩ := hp16
    have eL17L : L14 = L := eL17L
    rw [eL17L] at hP hD
    have hT : TI g ad (gset (gset th (200 + 0) (th (200 + j9))) (300 + 0) (th (300 + j9))) f15 := eL17T
    have eL17F : ∀ b, b ≠ (cr ad 0 0) → b ≠ (cr ad 0 1) → b ≠ (cr ad 0 2) → b ≠ (cr ad 0 3) → b ≠ (cr ad 0 4) → b ≠ (cr ad 0 5) → b ≠ (cr ad 0 6) → b ≠ (cr ad 0 7) → b ≠ (cr ad 0 8) → b ≠ (cr ad 0 9) → f15 b = f b := eL17F
    have hf18 := (eL17F (ad 17) (hst.ne (by omega) (by omega) (by omega)) (hst.ne (by omega) (by omega) (by omega)) (hst.ne (by omega) (by omega) (by omega)) (hst.ne (by omega) (by omega) (by omega)) (hst.ne (by omega) (by omega) (by omega)) (hst.ne (by omega) (by omega) (by omega)) (hst.ne (by omega) (by omega) (by omega)) (hst.ne (by omega) (by omega) (by omega)) (hst.ne (by omega) (by omega) (by omega)) (hst.ne (by omega) (by omega) (by omega))).trans hf7
    have hfr : (∀ b, b ≠ (ad 16) → b ≠ (cr ad 0 0) → b ≠ (cr ad 0 1) → b ≠ (cr ad 0 2) → b ≠ (cr ad 0 3) → b ≠ (cr ad 0 4) → b ≠ (cr ad 0 5) → b ≠ (cr ad 0 6) → b ≠ (cr ad 0 7) → b ≠ (cr ad 0 8) → b ≠ (cr ad 0 9) → f15 b = f b) := fun b z0_ z1_ z2_ z3_ z4_ z5_ z6_ z7_ z8_ z9_ z10_ => (eL17F b z1_ z2_ z3_ z4_ z5_ z6_ z7_ z8_ z9_ z10_).trans (hfr b z0_ z1_ z2_ z3_ z4_ z5_ z6_ z7_ z8_ z9_ z10_)
    refine lv_aload_n hx hb dX0_takeBack_23 rfl (lv_at hl 0 rfl) ?_
    refine lv_aload_n hx hb dX0_takeBack_24 rfl (lv_at hl 0 rfl) ?_
    obtain ⟨v1_19, v2_19, hf20, hv1_19, hg1_19, hv2_19, hg2_19⟩ := hT.1 16 (by decide)
    have hg1_19 : v1_19.toInt = th 5 := hg1_19
    have hg2_19 : v2_19.toInt = th 6 := hg2_19
    refine pl_get (v := .int v1_19) hx hb hts (fun w h => mT (inX0 w h)) hown hG.1 hP (hst.1 16 (by decide)) hf20 rfl 1 (by decide) (hts _ (mT wg_414)) (fun _ h => h) rfl dX0_takeBack_25 ?_
    refine lv_bipush (v := 20) hx hb dX0_takeBack_28 (by decide) ?_
    refine lv_iadd hx hb dX0_takeBack_30 ?_
    refine lv_topi (fun x21 ex21 => ?_)
    have hb22 : In x21 20 39 := ex21 ▸ In.add hv1_19 (⟨by decide, by decide⟩ : In 20 20 20) (by decide) (by decide) (by decide) (by decide)
    have et23 : x21.toInt = v1_19.toInt + 20 := In.adde ex21 hv1_19 (k := 20) (by decide) (by decide) (by decide)
    refine lv_iconst (v := 1) hx hb dX0_takeBack_31 (by decide) ?_
    refine lv_isub hx hb dX0_takeBack_32 ?_
    refine lv_topi (fun x24 ex24 => ?_)
    have hb25 : In x24 19 38 := ex24 ▸ In.sub hb22 (⟨by decide, by decide⟩ : In 1 1 1) (by decide) (by decide) (by decide) (by decide)
    have et26 : x24.toInt = x21.toInt + (-1) := In.sube ex24 hb22 (k := 1) (by decide) (by decide) (by decide)
    refine lv_bipush (v := 20) hx hb dX0_takeBack_33 (by decide) ?_
    refine lv_irem hx hb dX0_takeBack_35 (In.ne0 (⟨by decide, by decide⟩ : In 20 20 20) (by decide)) ?_
    refine lv_topi (fun x27 ex27 => ?_)
    have hb28 : In x27 0 19 := ex27 ▸ In.rem hb25 (⟨by decide, by decide⟩ : In 20 20 20) (by decide) (by decide) (by decide)
    refine pl_put (ty := .int) (v := .int x27) (fs' := [.ref (ad 17), .int x27, .int v2_19]) hx hb hts (fun w h => mT (inX0 w h)) tyX0 tyX0_ok nmX0 hown hG.1 hP hD hS (hst.1 16 (by decide)) hf20 rfl 1 (by decide) (hts _ (mT wg_414)) (fun _ h => h) rfl (by decide +kernel) (rfl) (rfl) (Nat.le_of_ble_eq_true rfl) rfl dX0_takeBack_36 (fun H locs f29 hf30 ho31 hP hD hS => ?_)
    have hf32 := (ho31 (ad 17) (hst.ne (by decide) (by decide) (by decide))).trans hf18
    have hfr : (∀ b, b ≠ (ad 16) → b ≠ (cr ad 0 0) → b ≠ (cr ad 0 1) → b ≠ (cr ad 0 2) → b ≠ (cr ad 0 3) → b ≠ (cr ad 0 4) → b ≠ (cr ad 0 5) → b ≠ (cr ad 0 6) → b ≠ (cr ad 0 7) → b ≠ (cr ad 0 8) → b ≠ (cr ad 0 9) → f29 b = f b) := fun b z0_ z1_ z2_ z3_ z4_ z5_ z6_ z7_ z8_ z9_ z10_ => (ho31 b z0_).trans (hfr b z0_ z1_ z2_ z3_ z4_ z5_ z6_ z7_ z8_ z9_ z10_)
    refine lv_aload_n hx hb dX0_takeBack_39 rfl (lv_at hl 0 rfl) ?_
    refine lv_dup hx hb dX0_takeBack_40 rfl ?_
    refine pl_get (v := .int v2_19) hx hb hts (fun w h => mT (inX0 w h)) hown hG.1 hP (hst.1 16 (by decide)) hf30 rfl 2 (by decide) (hts _ (mT wg_415)) (fun _ h => h) rfl dX0_takeBack_41 ?_
    refine lv_iconst (v := 1) hx hb dX0_takeBack_44 (by decide) ?_
    refine lv_isub hx hb dX0_takeBack_45 ?_
    refine lv_topi (fun x33 ex33 => ?_)
    have hb34 : In x33 (-1) 19 := ex33 ▸ In.sub hv2_19 (⟨by decide, by decide⟩ : In 1 1 1) (by decide) (by decide) (by decide) (by decide)
    have et35 : x33.toInt = v2_19.toInt + (-1) := In.sube ex33 hv2_19 (k := 1) (by decide) (by decide) (by decide)
    refine pl_put (ty := .int) (v := .int x33) (fs' := [.ref (ad 17), .int x27, .int x33]) hx hb hts (fun w h => mT (inX0 w h)) tyX0 tyX0_ok nmX0 hown hG.1 hP hD hS (hst.1 16 (by decide)) hf30 rfl 2 (by decide) (hts _ (mT wg_415)) (fun _ h => h) rfl (by decide +kernel) (rfl) (rfl) (Nat.le_of_ble_eq_true rfl) rfl dX0_takeBack_46 (fun H locs f36 hf37 ho38 hP hD hS => ?_)
    have hf39 := (ho38 (ad 17) (hst.ne (by decide) (by decide) (by decide))).trans hf32
    have ho40 : ∀ b, b ≠ (ad 16) → f36 b = _ := fun b hb => (ho38 b hb).trans (ho31 b hb)
    have hfr : (∀ b, b ≠ (ad 16) → b ≠ (cr ad 0 0) → b ≠ (cr ad 0 1) → b ≠ (cr ad 0 2) → b ≠ (cr ad 0 3) → b ≠ (cr ad 0 4) → b ≠ (cr ad 0 5) → b ≠ (cr ad 0 6) → b ≠ (cr ad 0 7) → b ≠ (cr ad 0 8) → b ≠ (cr ad 0 9) → f36 b = f b) := fun b z0_ z1_ z2_ z3_ z4_ z5_ z6_ z7_ z8_ z9_ z10_ => (ho38 b z0_).trans (hfr b z0_ z1_ z2_ z3_ z4_ z5_ z6_ z7_ z8_ z9_ z10_)
    refine lv_iconst (v := 1) hx hb dX0_takeBack_49 (by decide) ?_
    have hT := TI.updAG (th' := (gset (gset (gset (gset th (200 + 0) (th (200 + j9))) (300 + 0) (th (300 + j9))) 5 (x27.toInt)) 6 (x33.toInt))) hT hst (k := 16) (by decide) hf37 ho40 ⟨x27, x33, rfl, hb28, (by simp [gset]), (In.mk (by obtain ⟨o0a, o0b⟩ := (hb34 : In _ _ _); obtain ⟨o1a, o1b⟩ := (hv2_19 : In _ _ _); omega) (by obtain ⟨o0a, o0b⟩ := (hb34 : In _ _ _); obtain ⟨o1a, o1b⟩ := (hv2_19 : In _ _ _); omega)), (by simp [gset])⟩ (fun q hq => ((gset_ne (own_ne hq (k := 6) (by decide) rfl)).trans ((gset_ne (own_ne hq (k := 5) (by decide) rfl)).trans rfl)))
    have hT : TI g ad (gset (gset (gset (gset th (200 + 0) (th (200 + j9))) (300 + 0) (th (300 + j9))) 5 x27.toInt) 6 x33.toInt) f36 := TI.cast hT (by funext q; simp only [gset]; (repeat' split); all_goals first | rfl | omega | (subst_vars; rfl) | (exfalso; omega))
    have hm5 : x27.toInt = (th 5 + 20 - 1) % 20 := by rw [rem_e ex27 (n := 20) (by decide) (by decide) (Int.le_trans (by decide) hb25.1), et26, et23]; omega
    have hd6 : x33.toInt = th 6 - 1 := by rw [et35]; omega
    have hkp : CIv (gset (gset (gset (gset th (200 + 0) (th (200 + j9))) (300 + 0) (th (300 + j9))) 5 x27.toInt) 6 x33.toInt) ∧ SBC th (gset (gset (gset (gset th (200 + 0) (th (200 + j9))) (300 + 0) (th (300 + j9))) 5 x27.toInt) 6 x33.toInt) := CIv.tback (k := j9) (m := x27.toInt) (d := x33.toInt) hC (by have := kj9; omega) hm5 (by omega) hd6 ((gset_ne (by omega)).trans ((gset_eq _ _ _))) ((gset_eq _ _ _)) ((gset_ne (by omega)).trans ((gset_ne (by omega)).trans ((gset_ne (by omega)).trans ((gset_eq _ _ _))))) ((gset_ne (by omega)).trans ((gset_ne (by omega)).trans ((gset_eq _ _ _)))) (fun q h1 h2 h3 h4 => (by simp only [gset]; (repeat' split); all_goals first | rfl | omega))
    exact ret_i (ty := .boolean) hx hb hr hlocks (rfl) hP hD hS (Nat.le_of_ble_eq_true rfl) (Nat.le_of_ble_eq_true rfl) (⟨rfl, ⟨(gset (gset (gset (gset th (200 + 0) (th (200 + j9))) (300 + 0) (th (300 + j9))) 5 x27.toInt) 6 x33.toInt), hkp, hT⟩, hfr, (⟨by decide, by decide⟩ : In 1 0 1)⟩) dX0_takeBack_50
  ·
    have oc1 : (1 : Int32).toInt = 1 := by decide
    have cc41 : v2_1.toInt < (1 : Int32).toInt := i32_nle c3
    have hb42 : In v2_1 0 0 := In.lt1 hv2_1 (⟨by decide, by decide⟩ : In 1 1 1) cc41 (by omega) (by omega)
    refine lv_iconst (v := 0) hx hb dX0_takeBack_8 (by decide) ?_
    exact ret_i (ty := .boolean) hx hb hr hlocks (rfl) hP hD hS (Nat.le_of_ble_eq_true rfl) (Nat.le_of_ble_eq_true rfl) (⟨rfl, ⟨th, ⟨hC, SBC.rf th⟩, hT⟩, hfr, (⟨by decide, by decide⟩ : In 0 0 1)⟩) dX0_takeBack_9

abbrev rm_X2_copy_dr : Room := { frames := 0, cells := 0, slots := 0, locals := 0 }
abbrev po_X2_copy_dr (g : GG) (ad : Nat → Nat) (th : Nat → Int) (L : List Nat) (f : HP)  : (List Nat × HP) → Prop := fun u => u.1 = L ∧ (∃ zz : Int, (True) ∧ TI g ad (gset (gset th 2 zz) 3 (th 7)) u.2) ∧ (∀ b, b ≠ (ad 6) → u.2 b = f b)
set_option maxHeartbeats 4000000 in
set_option maxRecDepth 100000 in
theorem s_X2_copy_dr (l : Launch) (g : GG) (ad : Nat → Nat) (th : Nat → Int) (L : List Nat) (f : HP) (sz : Nat)  (hst : ST ad L) (hT : TI g ad th f) (hdc : capI (th 8) (th 7) ∧ 3 ≤ th 7 ∧ th 7 ≤ 9) : MtV l g yX2_copy cX2_copy 2 rm_X2_copy_dr [.ref (ad 6), .ref (ad 5)] L f sz (po_X2_copy_dr g ad th L f ) := by
  refine MtV.of (by decide +kernel) (Nat.le_of_ble_eq_true rfl) ?_
  intro p e s m below meth c A hEn hP hD hS ls hl
  obtain ⟨hx, hb, hr, hml, hown, hlocks, hts, hG, hA, hE, hnm⟩ := hEn
  have hown : s.vm.findClass "RulerWord$Council" = some m.cls := hown
  have hl : lv_has ls 2 [(0, .ref (ad 6)), (1, .ref (ad 5))] := hl
  have hfr : (∀ b, b ≠ (ad 6) → f b = f b) := fun b z0_ => rfl
  refine lv_aload_n hx hb dX2_copy_0 rfl (lv_at hl 0 rfl) ?_
  refine lv_aload_n hx hb dX2_copy_1 rfl (lv_at hl 1 rfl) ?_
  obtain ⟨v0_1, v1_1, v2_1, v3_1, v4_1, v5_1, v6_1, v7_1, hf2, hv0_1, hv1_1, hg1_1, hv2_1, hv3_1, hv5_1, hg5_1, hv6_1, hv7_1, hg7_1⟩ := hT.1 5 (by decide)
  refine pl_get (v := .int v0_1) hx hb hts (fun w h => mT (inX2 w h)) hown hG.1 hP (hst.1 5 (by decide)) hf2 rfl 0 (by decide) (hts _ (mT wg_224)) (fun _ h => h) rfl dX2_copy_2 ?_
  obtain ⟨v0_3, v1_3, v2_3, v3_3, v4_3, v5_3, v6_3, v7_3, hf4, hv0_3, hg0_3, hv1_3, hg1_3, hv2_3, hv3_3, hv5_3, hv6_3, hrel0_3⟩ := hT.1 6 (by decide)
  refine pl_put (ty := .int) (v := .int v0_1) (fs' := [.int v0_1, .int v1_3, .int v2_3, .int v3_3, .int v4_3, .int v5_3, .int v6_3, .int v7_3]) hx hb hts (fun w h => mT (inX2 w h)) tyX2 tyX2_ok nmX2 hown hG.1 hP hD hS (hst.1 6 (by decide)) hf4 rfl 0 (by decide) (hts _ (mT wg_224)) (fun _ h => h) rfl (by decide +kernel) (rfl) (rfl) (Nat.le_of_ble_eq_true rfl) rfl dX2_copy_5 (fun H locs f5 hf6 ho7 hP hD hS => ?_)
  have hf8 := (ho7 (ad 5) (hst.ne (by decide) (by decide) (by decide))).trans hf2
  have hfr : (∀ b, b ≠ (ad 6) → f5 b = f b) := fun b z0_ => (ho7 b z0_).trans (hfr b z0_)
  refine lv_aload_n hx hb dX2_copy_8 rfl (lv_at hl 0 rfl) ?_
  refine lv_aload_n hx hb dX2_copy_9 rfl (lv_at hl 1 rfl) ?_
  refine pl_get (v := .int v1_1) hx hb hts (fun w h => mT (inX2 w h)) hown hG.1 hP (hst.1 5 (by decide)) hf8 rfl 1 (by decide) (hts _ (mT wg_228)) (fun _ h => h) rfl dX2_copy_10 ?_
  refine pl_put (ty := .int) (v := .int v1_1) (fs' := [.int v0_1, .int v1_1, .int v2_3, .int v3_3, .int v4_3, .int v5_3, .int v6_3, .int v7_3]) hx hb hts (fun w h => mT (inX2 w h)) tyX2 tyX2_ok nmX2 hown hG.1 hP hD hS (hst.1 6 (by decide)) hf6 rfl 1 (by decide) (hts _ (mT wg_228)) (fun _ h => h) rfl (by decide +kernel) (rfl) (rfl) (Nat.le_of_ble_eq_true rfl) rfl dX2_copy_13 (fun H locs f9 hf10 ho11 hP hD hS => ?_)
  have hf12 := (ho11 (ad 5) (hst.ne (by decide) (by decide) (by decide))).trans hf8
  have ho13 : ∀ b, b ≠ (ad 6) → f9 b = _ := fun b hb => (ho11 b hb).trans (ho7 b hb)
  have hfr : (∀ b, b ≠ (ad 6) → f9 b = f b) := fun b z0_ => (ho11 b z0_).trans (hfr b z0_)
  refine lv_aload_n hx hb dX2_copy_16 rfl (lv_at hl 0 rfl) ?_
  refine lv_aload_n hx hb dX2_copy_17 rfl (lv_at hl 1 rfl) ?_
  refine pl_get (v := .int v2_1) hx hb hts (fun w h => mT (inX2 w h)) hown hG.1 hP (hst.1 5 (by decide)) hf12 rfl 2 (by decide) (hts _ (mT wg_232)) (fun _ h => h) rfl dX2_copy_18 ?_
  refine pl_put (ty := .int) (v := .int v2_1) (fs' := [.int v0_1, .int v1_1, .int v2_1, .int v3_3, .int v4_3, .int v5_3, .int v6_3, .int v7_3]) hx hb hts (fun w h => mT (inX2 w h)) tyX2 tyX2_ok nmX2 hown hG.1 hP hD hS (hst.1 6 (by decide)) hf10 rfl 2 (by decide) (hts _ (mT wg_232)) (fun _ h => h) rfl (by decide +kernel) (rfl) (rfl) (Nat.le_of_ble_eq_true rfl) rfl dX2_copy_21 (fun H locs f14 hf15 ho16 hP hD hS => ?_)
  have hf17 := (ho16 (ad 5) (hst.ne (by decide) (by decide) (by decide))).trans hf12
  have ho18 : ∀ b, b ≠ (ad 6) → f14 b = _ := fun b hb => (ho16 b hb).trans (ho13 b hb)
  have hfr : (∀ b, b ≠ (ad 6) → f14 b = f b) := fun b z0_ => (ho16 b z0_).trans (hfr b z0_)
  refine lv_aload_n hx hb dX2_copy_24 rfl (lv_at hl 0 rfl) ?_
  refine lv_aload_n hx hb dX2_copy_25 rfl (lv_at hl 1 rfl) ?_
  refine pl_get (v := .int v3_1) hx hb hts (fun w h => mT (inX2 w h)) hown hG.1 hP (hst.1 5 (by decide)) hf17 rfl 3 (by decide) (hts _ (mT wg_234)) (fun _ h => h) rfl dX2_copy_26 ?_
  refine pl_put (ty := .int) (v := .int v3_1) (fs' := [.int v0_1, .int v1_1, .int v2_1, .int v3_1, .int v4_3, .int v5_3, .int v6_3, .int v7_3]) hx hb hts (fun w h => mT (inX2 w h)) tyX2 tyX2_ok nmX2 hown hG.1 hP hD hS (hst.1 6 (by decide)) hf15 rfl 3 (by decide) (hts _ (mT wg_234)) (fun _ h => h) rfl (by decide +kernel) (rfl) (rfl) (Nat.le_of_ble_eq_true rfl) rfl dX2_copy_29 (fun H locs f19 hf20 ho21 hP hD hS => ?_)
  have hf22 := (ho21 (ad 5) (hst.ne (by decide) (by decide) (by decide))).trans hf17
  have ho23 : ∀ b, b ≠ (ad 6) → f19 b = _ := fun b hb => (ho21 b hb).trans (ho18 b hb)
  have hfr : (∀ b, b ≠ (ad 6) → f19 b = f b) := fun b z0_ => (ho21 b z0_).trans (hfr b z0_)
  refine lv_aload_n hx hb dX2_copy_32 rfl (lv_at hl 0 rfl) ?_
  refine lv_aload_n hx hb dX2_copy_33 rfl (lv_at hl 1 rfl) ?_
  refine pl_get (v := .int v4_1) hx hb hts (fun w h => mT (inX2 w h)) hown hG.1 hP (hst.1 5 (by decide)) hf22 rfl 4 (by decide) (hts _ (mT wg_237)) (fun _ h => h) rfl dX2_copy_34 ?_
  refine pl_put (ty := .int) (v := .int v4_1) (fs' := [.int v0_1, .int v1_1, .int v2_1, .int v3_1, .int v4_1, .int v5_3, .int v6_3, .int v7_3]) hx hb hts (fun w h => mT (inX2 w h)) tyX2 tyX2_ok nmX2 hown hG.1 hP hD hS (hst.1 6 (by decide)) hf20 rfl 4 (by decide) (hts _ (mT wg_237)) (fun _ h => h) rfl (by decide +kernel) (rfl) (rfl) (Nat.le_of_ble_eq_true rfl) rfl dX2_copy_37 (fun H locs f24 hf25 ho26 hP hD hS => ?_)
  have hf27 := (ho26 (ad 5) (hst.ne (by decide) (by decide) (by decide))).trans hf22
  have ho28 : ∀ b, b ≠ (ad 6) → f24 b = _ := fun b hb => (ho26 b hb).trans (ho23 b hb)
  have hfr : (∀ b, b ≠ (ad 6) → f24 b = f b) := fun b z0_ => (ho26 b z0_).trans (hfr b z0_)
  refine lv_aload_n hx hb dX2_copy_40 rfl (lv_at hl 0 rfl) ?_
  refine lv_aload_n hx hb dX2_copy_41 rfl (lv_at hl 1 rfl) ?_
  refine pl_get (v := .int v5_1) hx hb hts (fun w h => mT (inX2 w h)) hown hG.1 hP (hst.1 5 (by decide)) hf27 rfl 5 (by decide) (hts _ (mT wg_239)) (fun _ h => h) rfl dX2_copy_42 ?_
  refine pl_put (ty := .int) (v := .int v5_1) (fs' := [.int v0_1, .int v1_1, .int v2_1, .int v3_1, .int v4_1, .int v5_1, .int v6_3, .int v7_3]) hx hb hts (fun w h => mT (inX2 w h)) tyX2 tyX2_ok nmX2 hown hG.1 hP hD hS (hst.1 6 (by decide)) hf25 rfl 5 (by decide) (hts _ (mT wg_239)) (fun _ h => h) rfl (by decide +kernel) (rfl) (rfl) (Nat.le_of_ble_eq_true rfl) rfl dX2_copy_45 (fun H locs f29 hf30 ho31 hP hD hS => ?_)
  have hf32 := (ho31 (ad 5) (hst.ne (by decide) (by decide) (by decide))).trans hf27
  have ho33 : ∀ b, b ≠ (ad 6) → f29 b = _ := fun b hb => (ho31 b hb).trans (ho28 b hb)
  have hfr : (∀ b, b ≠ (ad 6) → f29 b = f b) := fun b z0_ => (ho31 b z0_).trans (hfr b z0_)
  refine lv_aload_n hx hb dX2_copy_48 rfl (lv_at hl 0 rfl) ?_
  refine lv_aload_n hx hb dX2_copy_49 rfl (lv_at hl 1 rfl) ?_
  refine pl_get (v := .int v6_1) hx hb hts (fun w h => mT (inX2 w h)) hown hG.1 hP (hst.1 5 (by decide)) hf32 rfl 6 (by decide) (hts _ (mT wg_241)) (fun _ h => h) rfl dX2_copy_50 ?_
  refine pl_put (ty := .boolean) (v := .int v6_1) (fs' := [.int v0_1, .int v1_1, .int v2_1, .int v3_1, .int v4_1, .int v5_1, .int v6_1, .int v7_3]) hx hb hts (fun w h => mT (inX2 w h)) tyX2 tyX2_ok nmX2 hown hG.1 hP hD hS (hst.1 6 (by decide)) hf30 rfl 6 (by decide) (hts _ (mT wg_241)) (fun _ h => h) rfl (by decide +kernel) (nar_z hv6_1) (fit_z hv6_1) (Nat.le_of_ble_eq_true rfl) rfl dX2_copy_53 (fun H locs f34 hf35 ho36 hP hD hS => ?_)
  have hf37 := (ho36 (ad 5) (hst.ne (by decide) (by decide) (by decide))).trans hf32
  have ho38 : ∀ b, b ≠ (ad 6) → f34 b = _ := fun b hb => (ho36 b hb).trans (ho33 b hb)
  have hfr : (∀ b, b ≠ (ad 6) → f34 b = f b) := fun b z0_ => (ho36 b z0_).trans (hfr b z0_)
  have hT := TI.updAG (th' := (gset (gset th 2 (v0_1.toInt)) 3 (th 7))) hT hst (k := 6) (by decide) hf35 ho38 ⟨v0_1, v1_1, v2_1, v3_1, v4_1, v5_1, v6_1, v7_3, rfl, hv0_1, (by simp [gset]), (In.mk (by obtain ⟨o0a, o0b⟩ := (hv1_1 : In _ _ _); omega) (by obtain ⟨o0a, o0b⟩ := (hv1_1 : In _ _ _); omega)), (by simp [gset, hg1_1]), hv2_1, hv3_1, (cap510 hv5_1 hdc hg5_1), hv6_1, (by rw [hg5_1, hg1_1]; exact hdc.1)⟩ (fun q hq => ((gset_ne (own_ne hq (k := 3) (by decide) rfl)).trans ((gset_ne (own_ne hq (k := 2) (by decide) rfl)).trans rfl)))
  have hT : TI g ad (gset (gset th 2 v0_1.toInt) 3 (th 7)) f34 := TI.cast hT (by funext q; simp only [gset]; (repeat' split); all_goals first | rfl | omega | (subst_vars; rfl) | (exfalso; omega))
  exact ret_v hx hb hr hlocks hP hD hS (Nat.le_of_ble_eq_true rfl) (Nat.le_of_ble_eq_true rfl) (⟨rfl, ⟨v0_1.toInt, trivial, TI.cast hT (by rw [show th 7 = th 7 by omega])⟩, hfr⟩) dX2_copy_56

abbrev rm_X10_fault : Room := { frames := 8, cells := 0, slots := 0, locals := 173 }
abbrev po_X10_fault (g : GG) (ad : Nat → Nat) (th : Nat → Int) (L : List Nat) (f : HP) (z1 : Int32) : Int32 → (List Nat × HP) → Prop := fun r u => u.1 = L ∧ (∃ th' : Nat → Int, (CIv th' ∧ SBC th th') ∧ TI g ad th' u.2) ∧ (∀ b, b ≠ (ad 1) → b ≠ (ad 10) → b ≠ (ad 5) → b ≠ (ad 9) → u.2 b = f b)
set_option maxHeartbeats 4000000 in
set_option maxRecDepth 100000 in
theorem s_X10_fault (l : Launch) (g : GG) (ad : Nat → Nat) (th : Nat → Int) (L : List Nat) (f : HP) (sz : Nat) (z1 : Int32) (hst : ST ad L) (hT : TI g ad th f) (hC : CIv th) : MtI l g yX10_fault cX10_fault 2 (some .int) rm_X10_fault [.ref (ad 0), .int z1] L f sz (po_X10_fault g ad th L f z1) := by
  refine MtI.of (by decide +kernel) (Nat.le_of_ble_eq_true rfl) ?_
  intro p e s m below meth c A hEn hP hD hS ls hl
  obtain ⟨hx, hb, hr, hml, hown, hlocks, hts, hG, hA, hE, hnm⟩ := hEn
  have hown : s.vm.findClass "RulerWord" = some m.cls := hown
  have hl : lv_has ls 2 [(0, .ref (ad 0)), (1, .int z1)] := hl
  have hfr : (∀ b, b ≠ (ad 1) → b ≠ (ad 10) → b ≠ (ad 5) → b ≠ (ad 9) → f b = f b) := fun b z0_ z1_ z2_ z3_ => rfl
  refine lv_iload_n hx hb dX10_fault_0 rfl (lv_at hl 1 rfl) ?_
  by_cases c1 : z1 = 0
  ·
    refine lv_lookup (off := 27) (tgt := 28) hx hb dX10_fault_1 (by decide) (by rw [c1]; decide) (by decide) ?_
    have hb2 : In z1 0 0 := by rw [c1]; exact ⟨by decide, by decide⟩
    refine lv_aload_n hx hb dX10_fault_28 rfl (lv_at hl 0 rfl) ?_
    obtain ⟨v15_3, v16_3, v17_3, hf4, hv15_3, hv16_3, hg16_3⟩ := hT.1 0 (by decide)
    refine pl_get (v := .ref (ad 5)) hx hb hts (fun w h => mT (inX10 w h)) hown hG.1 hP (hst.1 0 (by decide)) hf4 rfl 1 (by decide) (hts _ (mT wg_476)) (fun _ h => h) rfl dX10_fault_29 ?_
    refine lv_aload_n hx hb dX10_fault_32 rfl (lv_at hl 0 rfl) ?_
    refine pl_get (v := .ref (ad 1)) hx hb hts (fun w h => mT (inX10 w h)) hown hG.1 hP (hst.1 0 (by decide)) hf4 rfl 0 (by decide) (hts _ (mT wg_475)) (fun _ h => h) rfl dX10_fault_33 ?_
    obtain ⟨v0_5, v1_5, v2_5, v3_5, v4_5, v5_5, v6_5, v7_5, hf6, hv0_5, hv1_5, hg1_5, hv2_5, hv3_5, hv5_5, hg5_5, hv6_5, hv7_5, hg7_5⟩ := hT.1 5 (by decide)
    refine call_i (run_VN (rm := rm_X2_readFrom) hx hb hml hown hts (s_X2_readFrom l g ad th _ _ _  hst hT ) cV_X2_readFrom wn_550 ⟨Nat.le_of_ble_eq_true rfl, Nat.le_of_ble_eq_true rfl⟩ hG hE hA hP hD hS (hst.1 5 (by decide)) hf6 rfl rfl hl.1 (As := [.ref (ad 1)]) (rest := []) rfl (Nat.le_of_ble_eq_true rfl) dX10_fault_36 ⟨Nat.le_of_ble_eq_true rfl, Nat.le_of_ble_eq_true rfl⟩) hA hD hS (fun r7 L8 f9 H locs hp10 hP hD hS => ?_)
    obtain ⟨eL11L, eL11T, eL11F, eL11R⟩ := hp10
    have eL11L : L8 = L := eL11L
    rw [eL11L] at hP hD
    obtain ⟨zz12, zz13, zz14, hzz12, eL11T⟩ := eL11T
    have hT : TI g ad (gset (gset (gset th 9 zz12) 7 zz13) 8 zz14) f9 := eL11T
    have eL11F : ∀ b, b ≠ (ad 1) → b ≠ (ad 5) → f9 b = f b := eL11F
    have hfr : (∀ b, b ≠ (ad 1) → b ≠ (ad 10) → b ≠ (ad 5) → b ≠ (ad 9) → f9 b = f b) := fun b z0_ z1_ z2_ z3_ => (eL11F b z0_ z2_).trans (hfr b z0_ z1_ z2_ z3_)
    have eL11R : In r7 (-1) 520 := eL11R
    exact ret_i (ty := .int) hx hb hr hlocks (rfl) hP hD hS (Nat.le_of_ble_eq_true rfl) (Nat.le_of_ble_eq_true rfl) (⟨rfl, ⟨(gset (gset (gset th 9 zz12) 7 zz13) 8 zz14), ⟨(CIv.set (k := 8) (CIv.set (k := 7) (CIv.set (k := 9) hC (by decide)) (by decide)) (by decide)), (SBC.set (k := 8) (SBC.set (k := 7) (SBC.set (k := 9) (SBC.rf th) (by decide)) (by decide)) (by decide))⟩, hT⟩, hfr⟩) dX10_fault_39
  by_cases c15 : z1 = 1
  ·
    refine lv_lookup (off := 39) (tgt := 40) hx hb dX10_fault_1 (by decide) (by rw [c15]; decide) (by decide) ?_
    have hb16 : In z1 1 1 := by rw [c15]; exact ⟨by decide, by decide⟩
    refine lv_aload_n hx hb dX10_fault_40 rfl (lv_at hl 0 rfl) ?_
    obtain ⟨v15_17, v16_17, v17_17, hf18, hv15_17, hv16_17, hg16_17⟩ := hT.1 0 (by decide)
    refine pl_get (v := .ref (ad 9)) hx hb hts (fun w h => mT (inX10 w h)) hown hG.1 hP (hst.1 0 (by decide)) hf18 rfl 4 (by decide) (hts _ (mT wg_479)) (fun _ h => h) rfl dX10_fault_41 ?_
    refine lv_aload_n hx hb dX10_fault_44 rfl (lv_at hl 0 rfl) ?_
    refine pl_get (v := .ref (ad 1)) hx hb hts (fun w h => mT (inX10 w h)) hown hG.1 hP (hst.1 0 (by decide)) hf18 rfl 0 (by decide) (hts _ (mT wg_475)) (fun _ h => h) rfl dX10_fault_45 ?_
    obtain ⟨v1_19, hf20, hv1_19⟩ := hT.1 9 (by decide)
    refine call_i (run_VN (rm := rm_X5_readFrom) hx hb hml hown hts (s_X5_readFrom l g ad th _ _ _  hst hT ) cV_X5_readFrom wn_676 ⟨Nat.le_of_ble_eq_true rfl, Nat.le_of_ble_eq_true rfl⟩ hG hE hA hP hD hS (hst.1 9 (by decide)) hf20 rfl rfl hl.1 (As := [.ref (ad 1)]) (rest := []) rfl (Nat.le_of_ble_eq_true rfl) dX10_fault_48 ⟨Nat.le_of_ble_eq_true rfl, Nat.le_of_ble_eq_true rfl⟩) hA hD hS (fun r21 L22 f23 H locs hp24 hP hD hS => ?_)
    obtain ⟨eL25L, eL25T, eL25F⟩ := hp24
    have eL25L : L22 = L := eL25L
    rw [eL25L] at hP hD
    have hT : TI g ad th f23 := eL25T
    have eL25F : ∀ b, b ≠ (ad 1) → b ≠ (ad 10) → b ≠ (ad 9) → f23 b = f b := eL25F
    have hf26 := (eL25F (ad 0) (hst.ne (by decide) (by decide) (by decide)) (hst.ne (by decide) (by decide) (by decide)) (hst.ne (by decide) (by decide) (by decide))).trans hf18
    have hfr : (∀ b, b ≠ (ad 1) → b ≠ (ad 10) → b ≠ (ad 5) → b ≠ (ad 9) → f23 b = f b) := fun b z0_ z1_ z2_ z3_ => (eL25F b z0_ z1_ z3_).trans (hfr b z0_ z1_ z2_ z3_)
    exact ret_i (ty := .int) hx hb hr hlocks (rfl) hP hD hS (Nat.le_of_ble_eq_true rfl) (Nat.le_of_ble_eq_true rfl) (⟨rfl, ⟨th, ⟨hC, (SBC.rf th)⟩, hT⟩, hfr⟩) dX10_fault_51
  refine lv_lookup (off := 51) (tgt := 52) hx hb dX10_fault_1 (by decide) (by simp [Op.lookupswitch.offset, ne_ti2 (k := 0) c1 (by decide), ne_ti2 (k := 1) c15 (by decide)]) (by decide) ?_
  ·
    have csc1 : z1.toInt ≠ 0 := fun e => i32_ne c1 (e.trans (by decide))
    have csc15 : z1.toInt ≠ 1 := fun e => i32_ne c15 (e.trans (by decide))
    refine lv_bipush (v := (-2)) hx hb dX10_fault_52 (by decide) ?_
    exact ret_i (ty := .int) hx hb hr hlocks (rfl) hP hD hS (Nat.le_of_ble_eq_true rfl) (Nat.le_of_ble_eq_true rfl) (⟨rfl, ⟨th, ⟨hC, (SBC.rf th)⟩, hT⟩, hfr⟩) dX10_fault_54

abbrev rm_X10_agreed : Room := { frames := 4, cells := 0, slots := 0, locals := 87 }
abbrev po_X10_agreed (g : GG) (ad : Nat → Nat) (th : Nat → Int) (L : List Nat) (f : HP)  : Int32 → (List Nat × HP) → Prop := fun _ u => u.1 = L ∧ u.2 = f
set_option maxHeartbeats 4000000 in
set_option maxRecDepth 100000 in
theorem s_X10_agreed (l : Launch) (g : GG) (ad : Nat → Nat) (th : Nat → Int) (L : List Nat) (f : HP) (sz : Nat)  (hst : ST ad L) (hT : TI g ad th f) (hC : CIv th) : MtI l g yX10_agreed cX10_agreed 1 (some .int) rm_X10_agreed [.ref (ad 0)] L f sz (po_X10_agreed g ad th L f ) := by
  refine MtI.of (by decide +kernel) (Nat.le_of_ble_eq_true rfl) ?_
  intro p e s m below meth c A hEn hP hD hS ls hl
  obtain ⟨hx, hb, hr, hml, hown, hlocks, hts, hG, hA, hE, hnm⟩ := hEn
  have hown : s.vm.findClass "RulerWord" = some m.cls := hown
  have hl : lv_has ls 1 [(0, .ref (ad 0))] := hl
  refine lv_aload_n hx hb dX10_agreed_0 rfl (lv_at hl 0 rfl) ?_
  obtain ⟨v15_1, v16_1, v17_1, hf2, hv15_1, hv16_1, hg16_1⟩ := hT.1 0 (by decide)
  refine pl_get (v := .ref (cr ad 0 0)) hx hb hts (fun w h => mT (inX10 w h)) hown hG.1 hP (hst.1 0 (by decide)) hf2 rfl 8 (by decide) (hts _ (mT wg_483)) (fun _ h => h) rfl dX10_agreed_1 ?_
  refine lv_aload_n hx hb dX10_agreed_4 rfl (lv_at hl 0 rfl) ?_
  refine pl_get (v := .ref (ad 6)) hx hb hts (fun w h => mT (inX10 w h)) hown hG.1 hP (hst.1 0 (by decide)) hf2 rfl 2 (by decide) (hts _ (mT wg_477)) (fun _ h => h) rfl dX10_agreed_5 ?_
  obtain ⟨v0_3, v1_3, v2_3, v3_3, v4_3, v5_3, v6_3, v7_3, v8_3, hf4, hv1_3, hg1_3, hv2_3, hg2_3, hv6_3⟩ := hT.2.1 0 (by decide) 0 (by decide)
  refine call_i (run_VN (rm := rm_X3_agreedFrom_co) hx hb hml hown hts (s_X3_agreedFrom_co l g ad th _ _ _ 0 hst hT (by decide) hC.1.1.1 hC.1.1.2) cV_X3_agreedFrom wn_968 ⟨Nat.le_of_ble_eq_true rfl, Nat.le_of_ble_eq_true rfl⟩ hG hE hA hP hD hS (hst.c (by decide) (by decide)) hf4 rfl rfl hl.1 (As := [.ref (ad 6)]) (rest := []) rfl (Nat.le_of_ble_eq_true rfl) dX10_agreed_8 ⟨Nat.le_of_ble_eq_true rfl, Nat.le_of_ble_eq_true rfl⟩) hA hD hS (fun r5 L6 f7 H locs hp8 hP hD hS => ?_)
  obtain ⟨eL9L, eL9T⟩ := hp8
  have eL9L : L6 = L := eL9L
  have eL9T : f7 = f := eL9T
  rw [eL9L, eL9T] at hP hD
  exact ret_i (ty := .int) hx hb hr hlocks (rfl) hP hD hS (Nat.le_of_ble_eq_true rfl) (Nat.le_of_ble_eq_true rfl) (⟨rfl, rfl⟩) dX10_agreed_11

abbrev rm_X10_council : Room := { frames := 8, cells := 0, slots := 0, locals := 172 }
abbrev po_X10_council (g : GG) (ad : Nat → Nat) (th : Nat → Int) (L : List Nat) (f : HP) (z1 : Int64) : Int32 → (List Nat × HP) → Prop := fun r u => u.1 = L ∧ (∃ th' : Nat → Int, (CIv th' ∧ SBC th th') ∧ TI g ad th' u.2) ∧ (∀ b, b ≠ (ad 0) → b ≠ (ad 1) → b ≠ (ad 16) → b ≠ (ad 5) → b ≠ (ad 6) → b ≠ (cr ad 0 0) → u.2 b = f b)
set_option maxHeartbeats 4000000 in
set_option maxRecDepth 100000 in
theorem s_X10_council (l : Launch) (g : GG) (ad : Nat → Nat) (th : Nat → Int) (L : List Nat) (f : HP) (sz : Nat) (z1 : Int64) (hst : ST ad L) (hT : TI g ad th f) (hC : CIv th) : MtI l g yX10_council cX10_council 3 (some .int) rm_X10_council [.ref (ad 0), .long z1] L f sz (po_X10_council g ad th L f z1) := by
  refine MtI.of (by decide +kernel) (Nat.le_of_ble_eq_true rfl) ?_
  intro p e s m below meth c A hEn hP hD hS ls hl
  obtain ⟨hx, hb, hr, hml, hown, hlocks, hts, hG, hA, hE, hnm⟩ := hEn
  have hown : s.vm.findClass "RulerWord" = some m.cls := hown
  have hl : lv_has ls 3 [(0, .ref (ad 0)), (1, .long z1)] := hl
  have hfr : (∀ b, b ≠ (ad 0) → b ≠ (ad 1) → b ≠ (ad 16) → b ≠ (ad 5) → b ≠ (ad 6) → b ≠ (cr ad 0 0) → f b = f b) := fun b z0_ z1_ z2_ z3_ z4_ z5_ => rfl
  refine lv_aload_n hx hb dX10_council_0 rfl (lv_at hl 0 rfl) ?_
  obtain ⟨v15_1, v16_1, v17_1, hf2, hv15_1, hv16_1, hg16_1⟩ := hT.1 0 (by decide)
  refine pl_get (v := .ref (ad 5)) hx hb hts (fun w h => mT (inX10 w h)) hown hG.1 hP (hst.1 0 (by decide)) hf2 rfl 1 (by decide) (hts _ (mT wg_476)) (fun _ h => h) rfl dX10_council_1 ?_
  refine lv_aload_n hx hb dX10_council_4 rfl (lv_at hl 0 rfl) ?_
  refine pl_get (v := .ref (ad 1)) hx hb hts (fun w h => mT (inX10 w h)) hown hG.1 hP (hst.1 0 (by decide)) hf2 rfl 0 (by decide) (hts _ (mT wg_475)) (fun _ h => h) rfl dX10_council_5 ?_
  obtain ⟨v0_3, v1_3, v2_3, v3_3, v4_3, v5_3, v6_3, v7_3, hf4, hv0_3, hv1_3, hg1_3, hv2_3, hv3_3, hv5_3, hg5_3, hv6_3, hv7_3, hg7_3⟩ := hT.1 5 (by decide)
  refine call_i (run_VN (rm := rm_X2_readFrom) hx hb hml hown hts (s_X2_readFrom l g ad th _ _ _  hst hT ) cV_X2_readFrom wn_550 ⟨Nat.le_of_ble_eq_true rfl, Nat.le_of_ble_eq_true rfl⟩ hG hE hA hP hD hS (hst.1 5 (by decide)) hf4 rfl rfl hl.1 (As := [.ref (ad 1)]) (rest := []) rfl (Nat.le_of_ble_eq_true rfl) dX10_council_8 ⟨Nat.le_of_ble_eq_true rfl, Nat.le_of_ble_eq_true rfl⟩) hA hD hS (fun r5 L6 f7 H locs hp8 hP hD hS => ?_)
  obtain ⟨eL9L, eL9T, eL9F, eL9R⟩ := hp8
  have eL9L : L6 = L := eL9L
  rw [eL9L] at hP hD
  obtain ⟨zz10, zz11, zz12, hzz10, eL9T⟩ := eL9T
  have hT : TI g ad (gset (gset (gset th 9 zz10) 7 zz11) 8 zz12) f7 := eL9T
  have eL9F : ∀ b, b ≠ (ad 1) → b ≠ (ad 5) → f7 b = f b := eL9F
  have hfr : (∀ b, b ≠ (ad 0) → b ≠ (ad 1) → b ≠ (ad 16) → b ≠ (ad 5) → b ≠ (ad 6) → b ≠ (cr ad 0 0) → f7 b = f b) := fun b z0_ z1_ z2_ z3_ z4_ z5_ => (eL9F b z1_ z3_).trans (hfr b z0_ z1_ z2_ z3_ z4_ z5_)
  have eL9R : In r5 (-1) 520 := eL9R
  refine lv_iconst (v := (-1)) hx hb dX10_council_11 (by decide) ?_
  refine lv_icmp_eq (tgt := 17) hx hb dX10_council_12 (by decide) (fun c13 => ?_) (fun c13 => ?_)
  ·
    have ocm1 : ((-1) : Int32).toInt = (-1) := by decide
    have cc14 : r5.toInt = ((-1) : Int32).toInt := congrArg Int32.toInt c13
    have hb15 : In r5 (-1) (-1) := In.eq1 eL9R (⟨by decide, by decide⟩ : In (-1) (-1) (-1)) cc14 (by omega) (by omega)
    refine lv_aload_n hx hb dX10_council_17 rfl (lv_at hl 0 rfl) ?_
    obtain ⟨v15_16, v16_16, v17_16, hf17, hv15_16, hv16_16, hg16_16⟩ := hT.1 0 (by decide)
    have hg16_16 : v16_16.toInt = th 1 := hg16_16
    refine pl_get (v := .ref (ad 1)) hx hb hts (fun w h => mT (inX10 w h)) hown hG.1 hP (hst.1 0 (by decide)) hf17 rfl 0 (by decide) (hts _ (mT wg_475)) (fun _ h => h) rfl dX10_council_18 ?_
    refine lv_iconst (v := 0) hx hb dX10_council_21 (by decide) ?_
    obtain ⟨v1_18, v2_18, v3_18, v4_18, hf19, hv1_18, hv2_18, hv3_18, hv4_18⟩ := hT.1 1 (by decide)
    refine pl_putN (ty := .int) (v := .int 0) (fs' := [.ref (ad 2), .int 0, .int v2_18, .int v3_18, .int v4_18]) hx hb hts (fun w h => mT (inX8 w h)) tyX8 tyX8_ok nmX8 hown hG.1 hP hD hS (hst.1 1 (by decide)) hf19 rfl 1 (by decide) (hG.2.1 _ wn_197) (fun _ h => h) rfl (by decide +kernel) (rfl) (rfl) (Nat.le_of_ble_eq_true rfl) rfl dX10_council_22 (fun H locs f20 hf21 ho22 hP hD hS => ?_)
    have hf23 := (ho22 (ad 0) (hst.ne (by decide) (by decide) (by decide))).trans hf17
    have hfr : (∀ b, b ≠ (ad 0) → b ≠ (ad 1) → b ≠ (ad 16) → b ≠ (ad 5) → b ≠ (ad 6) → b ≠ (cr ad 0 0) → f20 b = f b) := fun b z0_ z1_ z2_ z3_ z4_ z5_ => (ho22 b z1_).trans (hfr b z0_ z1_ z2_ z3_ z4_ z5_)
    refine lv_aload_n hx hb dX10_council_25 rfl (lv_at hl 0 rfl) ?_
    refine pl_get (v := .ref (ad 6)) hx hb hts (fun w h => mT (inX10 w h)) hown hG.1 hP (hst.1 0 (by decide)) hf23 rfl 2 (by decide) (hts _ (mT wg_477)) (fun _ h => h) rfl dX10_council_26 ?_
    refine lv_aload_n hx hb dX10_council_29 rfl (lv_at hl 0 rfl) ?_
    refine pl_get (v := .ref (ad 5)) hx hb hts (fun w h => mT (inX10 w h)) hown hG.1 hP (hst.1 0 (by decide)) hf23 rfl 1 (by decide) (hts _ (mT wg_476)) (fun _ h => h) rfl dX10_council_30 ?_
    have hT := TI.updA hT hst (k := 1) (by decide) hf21 ho22 ⟨0, v2_18, v3_18, v4_18, rfl, (⟨by decide, by decide⟩ : In 0 0 520), hv2_18, hv3_18, hv4_18⟩
    obtain ⟨v0_24, v1_24, v2_24, v3_24, v4_24, v5_24, v6_24, v7_24, hf25, hv0_24, hg0_24, hv1_24, hg1_24, hv2_24, hv3_24, hv5_24, hv6_24, hrel0_24⟩ := hT.1 6 (by decide)
    have hg0_24 : v0_24.toInt = th 2 := hg0_24
    have hg1_24 : v1_24.toInt = th 3 := hg1_24
    refine call_v (run_VN (rm := rm_X2_copy_dr) hx hb hml hown hts (s_X2_copy_dr l g ad (gset (gset (gset th 9 zz10) 7 zz11) 8 zz12) _ _ _  hst hT (show capI (zz12) (zz11) ∧ 3 ≤ zz11 ∧ zz11 ≤ 9 from dip_c (Or.resolve_left hzz10 (by omega)))) cV_X2_copy wn_710 ⟨Nat.le_of_ble_eq_true rfl, Nat.le_of_ble_eq_true rfl⟩ hG hE hA hP hD hS (hst.1 6 (by decide)) hf25 rfl rfl hl.1 (As := [.ref (ad 5)]) (rest := []) rfl (Nat.le_of_ble_eq_true rfl) dX10_council_33 ⟨Nat.le_of_ble_eq_true rfl, Nat.le_of_ble_eq_true rfl⟩) hA hD hS (fun L27 f28 H locs hp29 hP hD hS => ?_)
    obtain ⟨eL30L, eL30T, eL30F⟩ := hp29
    have eL30L : L27 = L := eL30L
    rw [eL30L] at hP hD
    obtain ⟨zz31, hzz31, eL30T⟩ := eL30T
    have hT : TI g ad (gset (gset (gset (gset (gset th 9 zz10) 7 zz11) 8 zz12) 2 zz31) 3 ((gset (gset (gset th 9 zz10) 7 zz11) 8 zz12) 7)) f28 := eL30T
    have eL30F : ∀ b, b ≠ (ad 6) → f28 b = f20 b := eL30F
    have hf32 := (eL30F (ad 1) (hst.ne (by decide) (by decide) (by decide))).trans hf21
    have hfr : (∀ b, b ≠ (ad 0) → b ≠ (ad 1) → b ≠ (ad 16) → b ≠ (ad 5) → b ≠ (ad 6) → b ≠ (cr ad 0 0) → f28 b = f b) := fun b z0_ z1_ z2_ z3_ z4_ z5_ => (eL30F b z4_).trans (hfr b z0_ z1_ z2_ z3_ z4_ z5_)
    refine lv_aload_n hx hb dX10_council_36 rfl (lv_at hl 0 rfl) ?_
    refine lv_iconst (v := 1) hx hb dX10_council_37 (by decide) ?_
    obtain ⟨v15_33, v16_33, v17_33, hf34, hv15_33, hv16_33, hg16_33⟩ := hT.1 0 (by decide)
    have hg16_33 : v16_33.toInt = th 1 := hg16_33
    refine pl_put (ty := .boolean) (v := .int 1) (fs' := [.ref (ad 1), .ref (ad 5), .ref (ad 6), .ref (ad 7), .ref (ad 9), .ref (ad 13), .ref (ad 14), .ref (ad 15), .ref (cr ad 0 0), .ref (cr ad 1 0), .ref (cr ad 2 0), .ref (ad 16), .ref (ad 18), .ref (ad 3), .ref (ad 24), .int 1, .int v16_33, .long v17_33]) hx hb hts (fun w h => mT (inX10 w h)) tyX10 tyX10_ok nmX10 hown hG.1 hP hD hS (hst.1 0 (by decide)) hf34 rfl 15 (by decide) (hts _ (mT wg_490)) (fun _ h => h) rfl (by decide +kernel) (rfl) (rfl) (Nat.le_of_ble_eq_true rfl) rfl dX10_council_38 (fun H locs f35 hf36 ho37 hP hD hS => ?_)
    have hf38 := (ho37 (ad 1) (hst.ne (by decide) (by decide) (by decide))).trans hf32
    have hfr : (∀ b, b ≠ (ad 0) → b ≠ (ad 1) → b ≠ (ad 16) → b ≠ (ad 5) → b ≠ (ad 6) → b ≠ (cr ad 0 0) → f35 b = f b) := fun b z0_ z1_ z2_ z3_ z4_ z5_ => (ho37 b z0_).trans (hfr b z0_ z1_ z2_ z3_ z4_ z5_)
    refine lv_aload_n hx hb dX10_council_41 rfl (lv_at hl 0 rfl) ?_
    refine lv_iconst (v := 0) hx hb dX10_council_42 (by decide) ?_
    refine pl_put (ty := .boolean) (v := .int 0) (fs' := [.ref (ad 1), .ref (ad 5), .ref (ad 6), .ref (ad 7), .ref (ad 9), .ref (ad 13), .ref (ad 14), .ref (ad 15), .ref (cr ad 0 0), .ref (cr ad 1 0), .ref (cr ad 2 0), .ref (ad 16), .ref (ad 18), .ref (ad 3), .ref (ad 24), .int 1, .int 0, .long v17_33]) hx hb hts (fun w h => mT (inX10 w h)) tyX10 tyX10_ok nmX10 hown hG.1 hP hD hS (hst.1 0 (by decide)) hf36 rfl 16 (by decide) (hts _ (mT wg_491)) (fun _ h => h) rfl (by decide +kernel) (rfl) (rfl) (Nat.le_of_ble_eq_true rfl) rfl dX10_council_43 (fun H locs f39 hf40 ho41 hP hD hS => ?_)
    have hf42 := (ho41 (ad 1) (hst.ne (by decide) (by decide) (by decide))).trans hf38
    have ho43 : ∀ b, b ≠ (ad 0) → f39 b = _ := fun b hb => (ho41 b hb).trans (ho37 b hb)
    have hfr : (∀ b, b ≠ (ad 0) → b ≠ (ad 1) → b ≠ (ad 16) → b ≠ (ad 5) → b ≠ (ad 6) → b ≠ (cr ad 0 0) → f39 b = f b) := fun b z0_ z1_ z2_ z3_ z4_ z5_ => (ho41 b z0_).trans (hfr b z0_ z1_ z2_ z3_ z4_ z5_)
    refine lv_aload_n hx hb dX10_council_46 rfl (lv_at hl 0 rfl) ?_
    refine lv_lload_n hx hb dX10_council_47 rfl (lv_at hl 1 rfl) ?_
    refine pl_put (ty := .long) (v := .long z1) (fs' := [.ref (ad 1), .ref (ad 5), .ref (ad 6), .ref (ad 7), .ref (ad 9), .ref (ad 13), .ref (ad 14), .ref (ad 15), .ref (cr ad 0 0), .ref (cr ad 1 0), .ref (cr ad 2 0), .ref (ad 16), .ref (ad 18), .ref (ad 3), .ref (ad 24), .int 1, .int 0, .long z1]) hx hb hts (fun w h => mT (inX10 w h)) tyX10 tyX10_ok nmX10 hown hG.1 hP hD hS (hst.1 0 (by decide)) hf40 rfl 17 (by decide) (hts _ (mT wg_492)) (fun _ h => h) rfl (by decide +kernel) (rfl) (rfl) (Nat.le_of_ble_eq_true rfl) rfl dX10_council_48 (fun H locs f44 hf45 ho46 hP hD hS => ?_)
    have hf47 := (ho46 (ad 1) (hst.ne (by decide) (by decide) (by decide))).trans hf42
    have ho48 : ∀ b, b ≠ (ad 0) → f44 b = _ := fun b hb => (ho46 b hb).trans (ho43 b hb)
    have hfr : (∀ b, b ≠ (ad 0) → b ≠ (ad 1) → b ≠ (ad 16) → b ≠ (ad 5) → b ≠ (ad 6) → b ≠ (cr ad 0 0) → f44 b = f b) := fun b z0_ z1_ z2_ z3_ z4_ z5_ => (ho46 b z0_).trans (hfr b z0_ z1_ z2_ z3_ z4_ z5_)
    refine lv_aload_n hx hb dX10_council_51 rfl (lv_at hl 0 rfl) ?_
    refine pl_get (v := .ref (ad 16)) hx hb hts (fun w h => mT (inX10 w h)) hown hG.1 hP (hst.1 0 (by decide)) hf45 rfl 11 (by decide) (hts _ (mT wg_486)) (fun _ h => h) rfl dX10_council_52 ?_
    refine lv_iconst (v := 0) hx hb dX10_council_55 (by decide) ?_
    have hT := TI.updAG (th' := (gset (gset (gset (gset (gset (gset th 9 zz10) 7 zz11) 8 zz12) 2 zz31) 3 ((gset (gset (gset th 9 zz10) 7 zz11) 8 zz12) 7)) 1 (0))) hT hst (k := 0) (by decide) hf45 ho48 ⟨1, 0, z1, rfl, (⟨by decide, by decide⟩ : In 1 0 1), (⟨by decide, by decide⟩ : In 0 0 1), (by simp [gset, i32z])⟩ (fun q hq => ((gset_ne (own_ne hq (k := 1) (by decide) rfl)).trans rfl))
    have hT : TI g ad (gset (gset (gset (gset (gset (gset th 9 zz10) 7 zz11) 8 zz12) 2 zz31) 3 ((gset (gset (gset th 9 zz10) 7 zz11) 8 zz12) 7)) 1 0) f44 := TI.cast hT (by funext q; simp only [gset]; (repeat' split); all_goals first | rfl | omega | (subst_vars; rfl) | (exfalso; omega))
    obtain ⟨v1_49, v2_49, hf50, hv1_49, hg1_49, hv2_49, hg2_49⟩ := hT.1 16 (by decide)
    have hg1_49 : v1_49.toInt = th 5 := hg1_49
    have hg2_49 : v2_49.toInt = th 6 := hg2_49
    refine pl_putN (ty := .int) (v := .int 0) (fs' := [.ref (ad 17), .int v1_49, .int 0]) hx hb hts (fun w h => mT (inX0 w h)) tyX0 tyX0_ok nmX0 hown hG.1 hP hD hS (hst.1 16 (by decide)) hf50 rfl 2 (by decide) (hG.2.1 _ wn_416) (fun _ h => h) rfl (by decide +kernel) (rfl) (rfl) (Nat.le_of_ble_eq_true rfl) rfl dX10_council_56 (fun H locs f51 hf52 ho53 hP hD hS => ?_)
    have hf54 := (ho53 (ad 1) (hst.ne (by decide) (by decide) (by decide))).trans hf47
    have hfr : (∀ b, b ≠ (ad 0) → b ≠ (ad 1) → b ≠ (ad 16) → b ≠ (ad 5) → b ≠ (ad 6) → b ≠ (cr ad 0 0) → f51 b = f b) := fun b z0_ z1_ z2_ z3_ z4_ z5_ => (ho53 b z2_).trans (hfr b z0_ z1_ z2_ z3_ z4_ z5_)
    refine lv_aload_n hx hb dX10_council_59 rfl (lv_at hl 0 rfl) ?_
    have hT := TI.updAG (th' := (gset (gset (gset (gset (gset (gset (gset th 9 zz10) 7 zz11) 8 zz12) 2 zz31) 3 ((gset (gset (gset th 9 zz10) 7 zz11) 8 zz12) 7)) 1 0) 6 (0))) hT hst (k := 16) (by decide) hf52 ho53 ⟨v1_49, 0, rfl, hv1_49, (by rw [hg1_49]; simp [gset]), (⟨by decide, by decide⟩ : In 0 0 20), (by simp [gset, i32z])⟩ (fun q hq => ((gset_ne (own_ne hq (k := 6) (by decide) rfl)).trans rfl))
    have hT : TI g ad (gset (gset (gset (gset (gset (gset (gset th 9 zz10) 7 zz11) 8 zz12) 2 zz31) 3 ((gset (gset (gset th 9 zz10) 7 zz11) 8 zz12) 7)) 1 0) 6 0) f51 := TI.cast hT (by funext q; simp only [gset]; (repeat' split); all_goals first | rfl | omega | (subst_vars; rfl) | (exfalso; omega))
    obtain ⟨v15_55, v16_55, v17_55, hf56, hv15_55, hv16_55, hg16_55⟩ := hT.1 0 (by decide)
    have hg16_55 : v16_55.toInt = 0 := hg16_55
    refine pl_get (v := .ref (cr ad 0 0)) hx hb hts (fun w h => mT (inX10 w h)) hown hG.1 hP (hst.1 0 (by decide)) hf56 rfl 8 (by decide) (hts _ (mT wg_483)) (fun _ h => h) rfl dX10_council_60 ?_
    refine lv_aload_n hx hb dX10_council_63 rfl (lv_at hl 0 rfl) ?_
    refine pl_get (v := .ref (ad 6)) hx hb hts (fun w h => mT (inX10 w h)) hown hG.1 hP (hst.1 0 (by decide)) hf56 rfl 2 (by decide) (hts _ (mT wg_477)) (fun _ h => h) rfl dX10_council_64 ?_
    obtain ⟨v0_57, v1_57, v2_57, v3_57, v4_57, v5_57, v6_57, v7_57, hf58, hv0_57, hg0_57, hv1_57, hg1_57, hv2_57, hv3_57, hv5_57, hv6_57, hrel0_57⟩ := hT.1 6 (by decide)
    have hg0_57 : v0_57.toInt = zz31 := hg0_57
    have hg1_57 : v1_57.toInt = (gset (gset (gset th 9 zz10) 7 zz11) 8 zz12) 7 := hg1_57
    refine pl_getN (v := .int v4_57) hx hb hts (fun w h => mT (inX2 w h)) hown hG.1 hP (hst.1 6 (by decide)) hf58 rfl 4 (by decide) (hG.2.1 _ wn_238) (fun _ h => h) rfl dX10_council_67 ?_
    refine lv_aload_n hx hb dX10_council_70 rfl (lv_at hl 0 rfl) ?_
    refine pl_get (v := .ref (ad 6)) hx hb hts (fun w h => mT (inX10 w h)) hown hG.1 hP (hst.1 0 (by decide)) hf56 rfl 2 (by decide) (hts _ (mT wg_477)) (fun _ h => h) rfl dX10_council_71 ?_
    refine pl_getN (v := .int v5_57) hx hb hts (fun w h => mT (inX2 w h)) hown hG.1 hP (hst.1 6 (by decide)) hf58 rfl 5 (by decide) (hG.2.1 _ wn_240) (fun _ h => h) rfl dX10_council_74 ?_
    refine lv_lload_n hx hb dX10_council_77 rfl (lv_at hl 1 rfl) ?_
    have hcap0 := (show capI (v5_57.toInt) ((gset (gset (gset th 9 zz10) 7 zz11) 8 zz12) 7) by rw [← hg1_57]; exact hrel0_57)
    obtain ⟨v0_59, v1_59, v2_59, v3_59, v4_59, v5_59, v6_59, v7_59, v8_59, hf60, hv1_59, hg1_59, hv2_59, hg2_59, hv6_59⟩ := hT.2.1 0 (by decide) 0 (by decide)
    refine call_v (run_VN (rm := rm_X3_begin) hx hb hml hown hts (s_X3_begin l g ad (gset (gset (gset (gset (gset (gset (gset th 9 zz10) 7 zz11) 8 zz12) 2 zz31) 3 ((gset (gset (gset th 9 zz10) 7 zz11) 8 zz12) 7)) 1 0) 6 0) _ _ _ 0 v4_57 v5_57 z1 hst hT (by decide) hv5_57) cV_X3_begin wn_714 ⟨Nat.le_of_ble_eq_true rfl, Nat.le_of_ble_eq_true rfl⟩ hG hE hA hP hD hS (hst.c (by decide) (by decide)) hf60 rfl rfl hl.1 (As := [.int v4_57, .int v5_57, .long z1]) (rest := []) rfl (Nat.le_of_ble_eq_true rfl) dX10_council_78 ⟨Nat.le_of_ble_eq_true rfl, Nat.le_of_ble_eq_true rfl⟩) hA hD hS (fun L62 f63 H locs hp64 hP hD hS => ?_)
    obtain ⟨eL65L, eL65T, eL65F⟩ := hp64
    have eL65L : L62 = L := eL65L
    rw [eL65L] at hP hD
    have hT : TI g ad (gset (gset (gset (gset (gset (gset (gset (gset (gset th 9 zz10) 7 zz11) 8 zz12) 2 zz31) 3 ((gset (gset (gset th 9 zz10) 7 zz11) 8 zz12) 7)) 1 0) 6 0) (200 + 0) v5_57.toInt) (300 + 0) 0) f63 := eL65T
    have eL65F : ∀ b, b ≠ (cr ad 0 0) → f63 b = f51 b := eL65F
    have hf66 := (eL65F (ad 1) (hst.ne (by omega) (by omega) (by omega))).trans hf54
    have hfr : (∀ b, b ≠ (ad 0) → b ≠ (ad 1) → b ≠ (ad 16) → b ≠ (ad 5) → b ≠ (ad 6) → b ≠ (cr ad 0 0) → f63 b = f b) := fun b z0_ z1_ z2_ z3_ z4_ z5_ => (eL65F b z5_).trans (hfr b z0_ z1_ z2_ z3_ z4_ z5_)
    refine lv_aload_n hx hb dX10_council_81 rfl (lv_at hl 0 rfl) ?_
    obtain ⟨v15_67, v16_67, v17_67, hf68, hv15_67, hv16_67, hg16_67⟩ := hT.1 0 (by decide)
    have hg16_67 : v16_67.toInt = 0 := hg16_67
    refine pl_get (v := .ref (ad 6)) hx hb hts (fun w h => mT (inX10 w h)) hown hG.1 hP (hst.1 0 (by decide)) hf68 rfl 2 (by decide) (hts _ (mT wg_477)) (fun _ h => h) rfl dX10_council_82 ?_
    obtain ⟨v0_69, v1_69, v2_69, v3_69, v4_69, v5_69, v6_69, v7_69, hf70, hv0_69, hg0_69, hv1_69, hg1_69, hv2_69, hv3_69, hv5_69, hv6_69, hrel0_69⟩ := hT.1 6 (by decide)
    have hg0_69 : v0_69.toInt = zz31 := hg0_69
    have hg1_69 : v1_69.toInt = (gset (gset (gset th 9 zz10) 7 zz11) 8 zz12) 7 := hg1_69
    refine pl_getN (v := .int v1_69) hx hb hts (fun w h => mT (inX2 w h)) hown hG.1 hP (hst.1 6 (by decide)) hf70 rfl 1 (by decide) (hG.2.1 _ wn_230) (fun _ h => h) rfl dX10_council_85 ?_
    have hcc := hcap0
    have hcn : CIv (gset (gset (gset (gset (gset (gset (gset (gset (gset th 9 zz10) 7 zz11) 8 zz12) 2 zz31) 3 ((gset (gset (gset th 9 zz10) 7 zz11) 8 zz12) 7)) 1 0) 6 0) (200 + 0) v5_57.toInt) (300 + 0) 0) ∧ SBC th (gset (gset (gset (gset (gset (gset (gset (gset (gset th 9 zz10) 7 zz11) 8 zz12) 2 zz31) 3 ((gset (gset (gset th 9 zz10) 7 zz11) 8 zz12) 7)) 1 0) 6 0) (200 + 0) v5_57.toInt) (300 + 0) 0) := CIv.new hC rfl rfl hcc rfl rfl (fun q h1 h2 => (by simp only [gset]; (repeat' split); all_goals first | rfl | omega))
    exact ret_i (ty := .int) hx hb hr hlocks (rfl) hP hD hS (Nat.le_of_ble_eq_true rfl) (Nat.le_of_ble_eq_true rfl) (⟨rfl, ⟨(gset (gset (gset (gset (gset (gset (gset (gset (gset th 9 zz10) 7 zz11) 8 zz12) 2 zz31) 3 ((gset (gset (gset th 9 zz10) 7 zz11) 8 zz12) 7)) 1 0) 6 0) (200 + 0) v5_57.toInt) (300 + 0) 0), hcn, hT⟩, hfr⟩) dX10_council_88
  ·
    have ocm1 : ((-1) : Int32).toInt = (-1) := by decide
    have cc71 : r5.toInt ≠ ((-1) : Int32).toInt := i32_ne c13
    have hb72 : In r5 0 520 := In.ne1 eL9R (⟨by decide, by decide⟩ : In (-1) (-1) (-1)) cc71 (by omega) (by omega)
    refine lv_iconst (v := (-1)) hx hb dX10_council_15 (by decide) ?_
    exact ret_i (ty := .int) hx hb hr hlocks (rfl) hP hD hS (Nat.le_of_ble_eq_true rfl) (Nat.le_of_ble_eq_true rfl) (⟨rfl, ⟨(gset (gset (gset th 9 zz10) 7 zz11) 8 zz12), ⟨(CIv.set (k := 8) (CIv.set (k := 7) (CIv.set (k := 9) hC (by decide)) (by decide)) (by decide)), (SBC.set (k := 8) (SBC.set (k := 7) (SBC.set (k := 9) (SBC.rf th) (by decide)) (by decide)) (by decide))⟩, hT⟩, hfr⟩) dX10_council_16

abbrev rm_X10_round : Room := { frames := 6, cells := 0, slots := 0, locals := 242 }
abbrev po_X10_round (g : GG) (ad : Nat → Nat) (th : Nat → Int) (L : List Nat) (f : HP)  : Int32 → (List Nat × HP) → Prop := fun r u => u.1 = L ∧ (∃ th' : Nat → Int, (CIv th' ∧ SBC th th') ∧ TI g ad th' u.2)
set_option maxHeartbeats 4000000 in
set_option maxRecDepth 100000 in
theorem s_X10_round (l : Launch) (g : GG) (ad : Nat → Nat) (th : Nat → Int) (L : List Nat) (f : HP) (sz : Nat)  (hst : ST ad L) (hT : TI g ad th f) (hC : CIv th) : MtI l g yX10_round cX10_round 1 (some .int) rm_X10_round [.ref (ad 0)] L f sz (po_X10_round g ad th L f ) := by
  refine MtI.of (by decide +kernel) (Nat.le_of_ble_eq_true rfl) ?_
  intro p e s m below meth c A hEn hP hD hS ls hl
  obtain ⟨hx, hb, hr, hml, hown, hlocks, hts, hG, hA, hE, hnm⟩ := hEn
  have hown : s.vm.findClass "RulerWord" = some m.cls := hown
  have hl : lv_has ls 1 [(0, .ref (ad 0))] := hl
  refine lv_aload_n hx hb dX10_round_0 rfl (lv_at hl 0 rfl) ?_
  obtain ⟨v15_1, v16_1, v17_1, hf2, hv15_1, hv16_1, hg16_1⟩ := hT.1 0 (by decide)
  refine call_i (run_V (rm := rm_X10_roundsLeft) hx hb hml hown hts (s_X10_roundsLeft l g ad th _ _ _  hst hT ) cV_X10_roundsLeft wg_751 ⟨Nat.le_of_ble_eq_true rfl, Nat.le_of_ble_eq_true rfl⟩ hG hE hA hP hD hS (hst.1 0 (by decide)) hf2 rfl rfl hl.1 (As := []) (rest := []) rfl (Nat.le_of_ble_eq_true rfl) dX10_round_1 ⟨Nat.le_of_ble_eq_true rfl, Nat.le_of_ble_eq_true rfl⟩) hA hD hS (fun r3 L4 f5 H locs hp6 hP hD hS => ?_)
  obtain ⟨eL7L, eL7T⟩ := hp6
  have eL7L : L4 = L := eL7L
  have eL7T : f5 = f := eL7T
  rw [eL7L, eL7T] at hP hD
  refine lv_iconst (v := 1) hx hb dX10_round_4 (by decide) ?_
  refine lv_icmp_ge (tgt := 10) hx hb dX10_round_5 (by decide) (fun c8 => ?_) (fun c8 => ?_)
  ·
    have cc9 : (1 : Int32).toInt ≤ r3.toInt := i32_le.mp c8
    have hb10 : In r3 1 2147483647 := In.ge1 (In.full r3) (⟨by decide, by decide⟩ : In 1 1 1) cc9 (by omega) (by omega)
    refine lv_aload_n hx hb dX10_round_10 rfl (lv_at hl 0 rfl) ?_
    refine pl_get (v := .ref (ad 16)) hx hb hts (fun w h => mT (inX10 w h)) hown hG.1 hP (hst.1 0 (by decide)) hf2 rfl 11 (by decide) (hts _ (mT wg_486)) (fun _ h => h) rfl dX10_round_11 ?_
    refine lv_aload_n hx hb dX10_round_14 rfl (lv_at hl 0 rfl) ?_
    refine pl_get (v := .ref (cr ad 0 0)) hx hb hts (fun w h => mT (inX10 w h)) hown hG.1 hP (hst.1 0 (by decide)) hf2 rfl 8 (by decide) (hts _ (mT wg_483)) (fun _ h => h) rfl dX10_round_15 ?_
    obtain ⟨v1_11, v2_11, hf12, hv1_11, hg1_11, hv2_11, hg2_11⟩ := hT.1 16 (by decide)
    refine call_v (run_VN (rm := rm_X0_keep) hx hb hml hown hts (s_X0_keep l g ad th _ _ _  hst hT hC) cV_X0_keep wn_759 ⟨Nat.le_of_ble_eq_true rfl, Nat.le_of_ble_eq_true rfl⟩ hG hE hA hP hD hS (hst.1 16 (by decide)) hf12 rfl rfl hl.1 (As := [.ref (cr ad 0 0)]) (rest := []) rfl (Nat.le_of_ble_eq_true rfl) dX10_round_18 ⟨Nat.le_of_ble_eq_true rfl, Nat.le_of_ble_eq_true rfl⟩) hA hD hS (fun L14 f15 H locs hp16 hP hD hS => ?_)
    obtain ⟨eL17L, eL17T⟩ := hp16
    have eL17L : L14 = L := eL17L
    rw [eL17L] at hP hD
    obtain ⟨th18, hth18, eL17T⟩ := eL17T
    have hT : TI g ad th18 f15 := eL17T
    refine lv_aload_n hx hb dX10_round_21 rfl (lv_at hl 0 rfl) ?_
    obtain ⟨v15_19, v16_19, v17_19, hf20, hv15_19, hv16_19, hg16_19⟩ := hT.1 0 (by decide)
    have hg16_19 : v16_19.toInt = th18 1 := hg16_19
    refine pl_get (v := .ref (cr ad 0 0)) hx hb hts (fun w h => mT (inX10 w h)) hown hG.1 hP (hst.1 0 (by decide)) hf20 rfl 8 (by decide) (hts _ (mT wg_483)) (fun _ h => h) rfl dX10_round_22 ?_
    refine lv_aload_n hx hb dX10_round_25 rfl (lv_at hl 0 rfl) ?_
    refine pl_get (v := .ref (ad 6)) hx hb hts (fun w h => mT (inX10 w h)) hown hG.1 hP (hst.1 0 (by decide)) hf20 rfl 2 (by decide) (hts _ (mT wg_477)) (fun _ h => h) rfl dX10_round_26 ?_
    refine lv_aload_n hx hb dX10_round_29 rfl (lv_at hl 0 rfl) ?_
    refine pl_get (v := .ref (ad 13)) hx hb hts (fun w h => mT (inX10 w h)) hown hG.1 hP (hst.1 0 (by decide)) hf20 rfl 5 (by decide) (hts _ (mT wg_480)) (fun _ h => h) rfl dX10_round_30 ?_
    obtain ⟨v0_21, v1_21, v2_21, v3_21, v4_21, v5_21, v6_21, v7_21, v8_21, hf22, hv1_21, hg1_21, hv2_21, hg2_21, hv6_21⟩ := hT.2.1 0 (by decide) 0 (by decide)
    refine call_v (run_VN (rm := rm_X3_play_co_pn) hx hb hml hown hts (s_X3_play_co_pn l g ad th18 _ _ _ 0 hst hT (by decide) ((hth18).1.1.1.1) ((hth18).1.1.1.2)) cV_X3_play wn_771 ⟨Nat.le_of_ble_eq_true rfl, Nat.le_of_ble_eq_true rfl⟩ hG hE hA hP hD hS (hst.c (by decide) (by decide)) hf22 rfl rfl hl.1 (As := [.ref (ad 6), .ref (ad 13)]) (rest := []) rfl (Nat.le_of_ble_eq_true rfl) dX10_round_33 ⟨Nat.le_of_ble_eq_true rfl, Nat.le_of_ble_eq_true rfl⟩) hA hD hS (fun L24 f25 H locs hp26 hP hD hS => ?_)
    obtain ⟨eL27L, eL27T, eL27F⟩ := hp26
    have eL27L : L24 = L := eL27L
    rw [eL27L] at hP hD
    obtain ⟨zz28, hzz28, eL27T⟩ := eL27T
    have hT : TI g ad (gset th18 (300 + 0) zz28) f25 := eL27T
    have eL27F : ∀ b, b ≠ (ad 13) → b ≠ (cr ad 0 0) → b ≠ (cr ad 0 2) → b ≠ (cr ad 0 3) → b ≠ (cr ad 0 4) → b ≠ (cr ad 0 5) → b ≠ (cr ad 0 6) → b ≠ (cr ad 0 7) → b ≠ (cr ad 0 8) → b ≠ (cr ad 0 9) → f25 b = f15 b := eL27F
    refine lv_aload_n hx hb dX10_round_36 rfl (lv_at hl 0 rfl) ?_
    obtain ⟨v15_29, v16_29, v17_29, hf30, hv15_29, hv16_29, hg16_29⟩ := hT.1 0 (by decide)
    have hg16_29 : v16_29.toInt = th18 1 := hg16_29
    refine pl_get (v := .ref (cr ad 0 0)) hx hb hts (fun w h => mT (inX10 w h)) hown hG.1 hP (hst.1 0 (by decide)) hf30 rfl 8 (by decide) (hts _ (mT wg_483)) (fun _ h => h) rfl dX10_round_37 ?_
    obtain ⟨v0_31, v1_31, v2_31, v3_31, v4_31, v5_31, v6_31, v7_31, v8_31, hf32, hv1_31, hg1_31, hv2_31, hg2_31, hv6_31⟩ := hT.2.1 0 (by decide) 0 (by decide)
    refine pl_getN (v := .int v2_31) hx hb hts (fun w h => mT (inX3 w h)) hown hG.1 hP (hst.c (by decide) (by decide)) hf32 rfl 2 (by decide) (hG.2.1 _ wn_341) (fun _ h => h) rfl dX10_round_40 ?_
    exact ret_i (ty := .int) hx hb hr hlocks (rfl) hP hD hS (Nat.le_of_ble_eq_true rfl) (Nat.le_of_ble_eq_true rfl) (⟨rfl, ⟨(gset th18 (300 + 0) zz28), ⟨(CIv.gone (hth18).1 (by omega)), (SBC.set (k := (300 + 0)) (SBC.trans (SBC.rf th) (SBK.c (hth18).2)) (by decide))⟩, hT⟩⟩) dX10_round_43
  ·
    have cc33 : r3.toInt < (1 : Int32).toInt := i32_nle c8
    have hb34 : In r3 (-2147483648) 0 := In.lt1 (In.full r3) (⟨by decide, by decide⟩ : In 1 1 1) cc33 (by omega) (by omega)
    refine lv_iconst (v := (-1)) hx hb dX10_round_8 (by decide) ?_
    exact ret_i (ty := .int) hx hb hr hlocks (rfl) hP hD hS (Nat.le_of_ble_eq_true rfl) (Nat.le_of_ble_eq_true rfl) (⟨rfl, ⟨th, ⟨hC, (SBC.rf th)⟩, hT⟩⟩) dX10_round_9

abbrev rm_X10_run : Room := { frames := 6, cells := 0, slots := 0, locals := 242 }
abbrev po_X10_run (g : GG) (ad : Nat → Nat) (th : Nat → Int) (L : List Nat) (f : HP)  : Int32 → (List Nat × HP) → Prop := fun r u => u.1 = L ∧ (∃ th' : Nat → Int, (CIv th' ∧ SBC th th') ∧ TI g ad th' u.2)
set_option maxHeartbeats 4000000 in
set_option maxRecDepth 100000 in
theorem s_X10_run (l : Launch) (g : GG) (ad : Nat → Nat) (th : Nat → Int) (L : List Nat) (f : HP) (sz : Nat)  (hst : ST ad L) (hT : TI g ad th f) (hC : CIv th) : MtI l g yX10_run cX10_run 3 (some .int) rm_X10_run [.ref (ad 0)] L f sz (po_X10_run g ad th L f ) := by
  refine MtI.of (by decide +kernel) (Nat.le_of_ble_eq_true rfl) ?_
  intro p e s m below meth c A hEn hP hD hS ls hl
  obtain ⟨hx, hb, hr, hml, hown, hlocks, hts, hG, hA, hE, hnm⟩ := hEn
  have hown : s.vm.findClass "RulerWord" = some m.cls := hown
  have hl : lv_has ls 3 [(0, .ref (ad 0))] := hl
  refine lv_aload_n hx hb dX10_run_0 rfl (lv_at hl 0 rfl) ?_
  obtain ⟨v15_1, v16_1, v17_1, hf2, hv15_1, hv16_1, hg16_1⟩ := hT.1 0 (by decide)
  refine call_i (run_V (rm := rm_X10_roundsLeft) hx hb hml hown hts (s_X10_roundsLeft l g ad th _ _ _  hst hT ) cV_X10_roundsLeft wg_751 ⟨Nat.le_of_ble_eq_true rfl, Nat.le_of_ble_eq_true rfl⟩ hG hE hA hP hD hS (hst.1 0 (by decide)) hf2 rfl rfl hl.1 (As := []) (rest := []) rfl (Nat.le_of_ble_eq_true rfl) dX10_run_1 ⟨Nat.le_of_ble_eq_true rfl, Nat.le_of_ble_eq_true rfl⟩) hA hD hS (fun r3 L4 f5 H locs hp6 hP hD hS => ?_)
  obtain ⟨eL7L, eL7T⟩ := hp6
  have eL7L : L4 = L := eL7L
  have eL7T : f5 = f := eL7T
  rw [eL7L, eL7T] at hP hD
  refine lv_istore_n (lv' := [(1, .int r3), (0, .ref (ad 0))]) hx hb dX10_run_4 rfl hl (by decide) rfl (fun ls hl => ?_)
  refine lv_iload_n hx hb dX10_run_5 rfl (lv_at hl 0 rfl) ?_
  refine lv_iconst (v := 1) hx hb dX10_run_6 (by decide) ?_
  refine lv_icmp_ge (tgt := 12) hx hb dX10_run_7 (by decide) (fun c8 => ?_) (fun c8 => ?_)
  ·
    have cc9 : (1 : Int32).toInt ≤ r3.toInt := i32_le.mp c8
    have hb10 : In r3 1 2147483647 := In.ge1 (In.full r3) (⟨by decide, by decide⟩ : In 1 1 1) cc9 (by omega) (by omega)
    refine lv_iconst (v := 0) hx hb dX10_run_12 (by decide) ?_
    refine lv_istore_n (lv' := [(2, .int 0), (1, .int r3), (0, .ref (ad 0))]) hx hb dX10_run_13 rfl hl (by decide) rfl (fun ls hl => ?_)
    have hJ14 : ∀ (k14 : Nat) (th_14 : Nat → Int) (y14_l2 : Int32) (f_14 : HP) (H : Heap) (locs : List Loc) (ls : Array Slot), CIv th_14 ∧ SBC th th_14 → In y14_l2 0 2147483647 → va_P g.1 vwCl (va_pl L f_14) H → va_D A (va_pl L f_14) → va_S A s.heap H locs → TI g ad th_14 f_14 → lv_has ls 3 [(0, .ref (ad 0)), (1, .int r3), (2, .int y14_l2)] → 2147483647 - y14_l2.toInt < ((k14 : Nat) : Int) → W p l e rm_X10_run s m [.ref (ad 0)].toArray below meth c H locs 0 0 (MQ below (va_Qi (po_X10_run g ad th L f ) (PstB g A) A) [.ref (ad 0)].toArray s rm_X10_run.cells rm_X10_run.slots A) (F0 m 14 ls []) := by
      intro k14
      induction k14 with
      | zero =>
        intro th_14 y14_l2 f_14 H locs ls hth14 hy14_l2 hP hD hS hT hl hmz14
        exact ms0 hy14_l2 hmz14
      | succ k14 ih14 =>
        intro th_14 y14_l2 f_14 H locs ls hth14 hy14_l2 hP hD hS hT hl hmz14
        refine lv_iload_n hx hb dX10_run_14 rfl (lv_at hl 2 rfl) ?_
        refine lv_iload_n hx hb dX10_run_15 rfl (lv_at hl 1 rfl) ?_
        refine lv_icmp_ge (tgt := 51) hx hb dX10_run_16 (by decide) (fun c11 => ?_) (fun c11 => ?_)
        ·
          have cc12 : r3.toInt ≤ y14_l2.toInt := i32_le.mp c11
          have hb13 : In y14_l2 1 2147483647 := In.ge1 hy14_l2 hb10 cc12 (by omega) (by omega)
          refine lv_iload_n hx hb dX10_run_51 rfl (lv_at hl 1 rfl) ?_
          exact ret_i (ty := .int) hx hb hr hlocks (rfl) hP hD hS (Nat.le_of_ble_eq_true rfl) (Nat.le_of_ble_eq_true rfl) (⟨rfl, ⟨th_14, ⟨(hth14).1, (hth14).2⟩, hT⟩⟩) dX10_run_52
        ·
          have cc14 : y14_l2.toInt < r3.toInt := i32_nle c11
          have hb15 : In y14_l2 0 2147483646 := In.lt1 hy14_l2 hb10 cc14 (by omega) (by omega)
          refine lv_aload_n hx hb dX10_run_19 rfl (lv_at hl 0 rfl) ?_
          obtain ⟨v15_16, v16_16, v17_16, hf17, hv15_16, hv16_16, hg16_16⟩ := hT.1 0 (by decide)
          have hg16_16 : v16_16.toInt = th_14 1 := hg16_16
          refine pl_get (v := .ref (ad 16)) hx hb hts (fun w h => mT (inX10 w h)) hown hG.1 hP (hst.1 0 (by decide)) hf17 rfl 11 (by decide) (hts _ (mT wg_486)) (fun _ h => h) rfl dX10_run_20 ?_
          refine lv_aload_n hx hb dX10_run_23 rfl (lv_at hl 0 rfl) ?_
          refine pl_get (v := .ref (cr ad 0 0)) hx hb hts (fun w h => mT (inX10 w h)) hown hG.1 hP (hst.1 0 (by decide)) hf17 rfl 8 (by decide) (hts _ (mT wg_483)) (fun _ h => h) rfl dX10_run_24 ?_
          obtain ⟨v1_18, v2_18, hf19, hv1_18, hg1_18, hv2_18, hg2_18⟩ := hT.1 16 (by decide)
          have hg1_18 : v1_18.toInt = th_14 5 := hg1_18
          have hg2_18 : v2_18.toInt = th_14 6 := hg2_18
          refine call_v (run_VN (rm := rm_X0_keep) hx hb hml hown hts (s_X0_keep l g ad th_14 _ _ _  hst hT ((hth14).1)) cV_X0_keep wn_759 ⟨Nat.le_of_ble_eq_true rfl, Nat.le_of_ble_eq_true rfl⟩ hG hE hA hP hD hS (hst.1 16 (by decide)) hf19 rfl rfl hl.1 (As := [.ref (cr ad 0 0)]) (rest := []) rfl (Nat.le_of_ble_eq_true rfl) dX10_run_27 ⟨Nat.le_of_ble_eq_true rfl, Nat.le_of_ble_eq_true rfl⟩) hA hD hS (fun L21 f22 H locs hp23 hP hD hS => ?_)
          obtain ⟨eL24L, eL24T⟩ := hp23
          have eL24L : L21 = L := eL24L
          rw [eL24L] at hP hD
          obtain ⟨th25, hth25, eL24T⟩ := eL24T
          have hT : TI g ad th25 f22 := eL24T
          refine lv_aload_n hx hb dX10_run_30 rfl (lv_at hl 0 rfl) ?_
          obtain ⟨v15_26, v16_26, v17_26, hf27, hv15_26, hv16_26, hg16_26⟩ := hT.1 0 (by decide)
          have hg16_26 : v16_26.toInt = th25 1 := hg16_26
          refine pl_get (v := .ref (cr ad 0 0)) hx hb hts (fun w h => mT (inX10 w h)) hown hG.1 hP (hst.1 0 (by decide)) hf27 rfl 8 (by decide) (hts _ (mT wg_483)) (fun _ h => h) rfl dX10_run_31 ?_
          refine lv_aload_n hx hb dX10_run_34 rfl (lv_at hl 0 rfl) ?_
          refine pl_get (v := .ref (ad 6)) hx hb hts (fun w h => mT (inX10 w h)) hown hG.1 hP (hst.1 0 (by decide)) hf27 rfl 2 (by decide) (hts _ (mT wg_477)) (fun _ h => h) rfl dX10_run_35 ?_
          refine lv_aload_n hx hb dX10_run_38 rfl (lv_at hl 0 rfl) ?_
          refine pl_get (v := .ref (ad 13)) hx hb hts (fun w h => mT (inX10 w h)) hown hG.1 hP (hst.1 0 (by decide)) hf27 rfl 5 (by decide) (hts _ (mT wg_480)) (fun _ h => h) rfl dX10_run_39 ?_
          obtain ⟨v0_28, v1_28, v2_28, v3_28, v4_28, v5_28, v6_28, v7_28, v8_28, hf29, hv1_28, hg1_28, hv2_28, hg2_28, hv6_28⟩ := hT.2.1 0 (by decide) 0 (by decide)
          refine call_v (run_VN (rm := rm_X3_play_co_pn) hx hb hml hown hts (s_X3_play_co_pn l g ad th25 _ _ _ 0 hst hT (by decide) ((hth25).1.1.1.1) ((hth25).1.1.1.2)) cV_X3_play wn_771 ⟨Nat.le_of_ble_eq_true rfl, Nat.le_of_ble_eq_true rfl⟩ hG hE hA hP hD hS (hst.c (by decide) (by decide)) hf29 rfl rfl hl.1 (As := [.ref (ad 6), .ref (ad 13)]) (rest := []) rfl (Nat.le_of_ble_eq_true rfl) dX10_run_42 ⟨Nat.le_of_ble_eq_true rfl, Nat.le_of_ble_eq_true rfl⟩) hA hD hS (fun L31 f32 H locs hp33 hP hD hS => ?_)
          obtain ⟨eL34L, eL34T, eL34F⟩ := hp33
          have eL34L : L31 = L := eL34L
          rw [eL34L] at hP hD
          obtain ⟨zz35, hzz35, eL34T⟩ := eL34T
          have hT : TI g ad (gset th25 (300 + 0) zz35) f32 := eL34T
          have eL34F : ∀ b, b ≠ (ad 13) → b ≠ (cr ad 0 0) → b ≠ (cr ad 0 2) → b ≠ (cr ad 0 3) → b ≠ (cr ad 0 4) → b ≠ (cr ad 0 5) → b ≠ (cr ad 0 6) → b ≠ (cr ad 0 7) → b ≠ (cr ad 0 8) → b ≠ (cr ad 0 9) → f32 b = f22 b := eL34F
          obtain ⟨x36, ex36⟩ : ∃ y : Int32, y = y14_l2 + 1 := ⟨_, rfl⟩
          have hb37 : In x36 1 2147483647 := ex36 ▸ In.add hb15 (⟨by decide, by decide⟩ : In 1 1 1) (by decide) (by decide) (by decide) (by decide)
          have et38 : x36.toInt = y14_l2.toInt + 1 := In.adde ex36 hb15 (k := 1) (by decide) (by decide) (by decide)
          refine lv_iinc (v := x36) (lv' := [(2, .int x36), (0, .ref (ad 0)), (1, .int r3)]) hx hb dX10_run_45 hl (k := 2) rfl (by rw [ex36]; rfl) (by decide) rfl (fun ls hl => ?_)
          refine lv_goto (tgt := 14) hx hb dX10_run_48 (by decide) ?_
          exact ih14 (gset th25 (300 + 0) zz35) x36 _ _ _ _ (⟨(CIv.gone (hth25).1 (by omega)), (SBC.set (k := (300 + 0)) (SBC.trans (hth14).2 (SBK.c (hth25).2)) (by decide))⟩) (In.mono hb37 (by decide) (by decide)) hP hD hS hT (lv_sub hl [1, 2, 0] rfl) (msu et38 (by decide) hmz14)
    exact hJ14 ((2147483647 - (0 : Int32).toInt).toNat + 1) th 0 _ _ _ _ (⟨hC, (SBC.rf th)⟩) (⟨by decide, by decide⟩ : In 0 0 2147483647) hP hD hS hT (lv_sub hl [2, 1, 0] rfl) (msI _)
  ·
    have cc39 : r3.toInt < (1 : Int32).toInt := i32_nle c8
    have hb40 : In r3 (-2147483648) 0 := In.lt1 (In.full r3) (⟨by decide, by decide⟩ : In 1 1 1) cc39 (by omega) (by omega)
    refine lv_iconst (v := (-1)) hx hb dX10_run_10 (by decide) ?_
    exact ret_i (ty := .int) hx hb hr hlocks (rfl) hP hD hS (Nat.le_of_ble_eq_true rfl) (Nat.le_of_ble_eq_true rfl) (⟨rfl, ⟨th, ⟨hC, (SBC.rf th)⟩, hT⟩⟩) dX10_run_11

abbrev rm_X10_say : Room := { frames := 3, cells := 0, slots := 0, locals := 242 }
abbrev po_X10_say (g : GG) (ad : Nat → Nat) (th : Nat → Int) (L : List Nat) (f : HP) (z1 : Int32) (z2 : Int32) (z3 : Int32) (z4 : Int32) (z5 : Int32) : Int32 → (List Nat × HP) → Prop := fun r u => u.1 = L ∧ (∃ th' : Nat → Int, (CIv th' ∧ SBC th th') ∧ TI g ad th' u.2)
set_option maxHeartbeats 4000000 in
set_option maxRecDepth 100000 in
theorem s_X10_say (l : Launch) (g : GG) (ad : Nat → Nat) (th : Nat → Int) (L : List Nat) (f : HP) (sz : Nat) (z1 : Int32) (z2 : Int32) (z3 : Int32) (z4 : Int32) (z5 : Int32) (hst : ST ad L) (hT : TI g ad th f) (hC : CIv th) : MtI l g yX10_say cX10_say 7 (some .int) rm_X10_say [.ref (ad 0), .int z1, .int z2, .int z3, .int z4, .int z5] L f sz (po_X10_say g ad th L f z1 z2 z3 z4 z5) := by
  refine MtI.of (by decide +kernel) (Nat.le_of_ble_eq_true rfl) ?_
  intro p e s m below meth c A hEn hP hD hS ls hl
  obtain ⟨hx, hb, hr, hml, hown, hlocks, hts, hG, hA, hE, hnm⟩ := hEn
  have hown : s.vm.findClass "RulerWord" = some m.cls := hown
  have hl : lv_has ls 7 [(0, .ref (ad 0)), (1, .int z1), (2, .int z2), (3, .int z3), (4, .int z4), (5, .int z5)] := hl
  refine lv_aload_n hx hb dX10_say_0 rfl (lv_at hl 0 rfl) ?_
  refine lv_iload_n hx hb dX10_say_1 rfl (lv_at hl 1 rfl) ?_
  refine lv_iload_n hx hb dX10_say_2 rfl (lv_at hl 2 rfl) ?_
  refine lv_iload_n hx hb dX10_say_3 rfl (lv_at hl 3 rfl) ?_
  refine lv_iload hx hb dX10_say_4 (lv_at hl 4 rfl) ?_
  refine lv_iload hx hb dX10_say_6 (lv_at hl 5 rfl) ?_
  obtain ⟨v15_1, v16_1, v17_1, hf2, hv15_1, hv16_1, hg16_1⟩ := hT.1 0 (by decide)
  refine call_i (run_V (rm := rm_X10_whyNotSaid) hx hb hml hown hts (s_X10_whyNotSaid l g ad th _ _ _ z1 z2 z3 z4 z5 hst hT ) cV_X10_whyNotSaid wg_889 ⟨Nat.le_of_ble_eq_true rfl, Nat.le_of_ble_eq_true rfl⟩ hG hE hA hP hD hS (hst.1 0 (by decide)) hf2 rfl rfl hl.1 (As := [.int z1, .int z2, .int z3, .int z4, .int z5]) (rest := []) rfl (Nat.le_of_ble_eq_true rfl) dX10_say_8 ⟨Nat.le_of_ble_eq_true rfl, Nat.le_of_ble_eq_true rfl⟩) hA hD hS (fun r3 L4 f5 H locs hp6 hP hD hS => ?_)
  obtain ⟨eL7L, eL7T, eL7R⟩ := hp6
  have eL7L : L4 = L := eL7L
  have eL7T : f5 = f := eL7T
  rw [eL7L, eL7T] at hP hD
  have eL7R : In r3 (-1) 4 := eL7R
  refine lv_istore (lv' := [(6, .int r3), (0, .ref (ad 0)), (1, .int z1), (2, .int z2), (3, .int z3), (4, .int z4), (5, .int z5)]) hx hb dX10_say_11 hl (by decide) rfl (fun ls hl => ?_)
  refine lv_iload hx hb dX10_say_13 (lv_at hl 0 rfl) ?_
  refine lv_iconst (v := (-1)) hx hb dX10_say_15 (by decide) ?_
  refine lv_icmp_eq (tgt := 26) hx hb dX10_say_16 (by decide) (fun c8 => ?_) (fun c8 => ?_)
  ·
    have cc9 : r3.toInt = ((-1) : Int32).toInt := congrArg Int32.toInt c8
    have hb10 : In r3 (-1) (-1) := In.eq1 eL7R (⟨by decide, by decide⟩ : In (-1) (-1) (-1)) cc9 (by omega) (by omega)
    refine lv_aload_n hx hb dX10_say_26 rfl (lv_at hl 1 rfl) ?_
    refine pl_get (v := .ref (ad 16)) hx hb hts (fun w h => mT (inX10 w h)) hown hG.1 hP (hst.1 0 (by decide)) hf2 rfl 11 (by decide) (hts _ (mT wg_486)) (fun _ h => h) rfl dX10_say_27 ?_
    refine lv_aload_n hx hb dX10_say_30 rfl (lv_at hl 1 rfl) ?_
    refine pl_get (v := .ref (cr ad 0 0)) hx hb hts (fun w h => mT (inX10 w h)) hown hG.1 hP (hst.1 0 (by decide)) hf2 rfl 8 (by decide) (hts _ (mT wg_483)) (fun _ h => h) rfl dX10_say_31 ?_
    obtain ⟨v1_11, v2_11, hf12, hv1_11, hg1_11, hv2_11, hg2_11⟩ := hT.1 16 (by decide)
    refine call_v (run_VN (rm := rm_X0_keep) hx hb hml hown hts (s_X0_keep l g ad th _ _ _  hst hT hC) cV_X0_keep wn_759 ⟨Nat.le_of_ble_eq_true rfl, Nat.le_of_ble_eq_true rfl⟩ hG hE hA hP hD hS (hst.1 16 (by decide)) hf12 rfl rfl hl.1 (As := [.ref (cr ad 0 0)]) (rest := []) rfl (Nat.le_of_ble_eq_true rfl) dX10_say_34 ⟨Nat.le_of_ble_eq_true rfl, Nat.le_of_ble_eq_true rfl⟩) hA hD hS (fun L14 f15 H locs hp16 hP hD hS => ?_)
    obtain ⟨eL17L, eL17T⟩ := hp16
    have eL17L : L14 = L := eL17L
    rw [eL17L] at hP hD
    obtain ⟨th18, hth18, eL17T⟩ := eL17T
    have hT : TI g ad th18 f15 := eL17T
    refine lv_aload_n hx hb dX10_say_37 rfl (lv_at hl 1 rfl) ?_
    obtain ⟨v15_19, v16_19, v17_19, hf20, hv15_19, hv16_19, hg16_19⟩ := hT.1 0 (by decide)
    have hg16_19 : v16_19.toInt = th18 1 := hg16_19
    refine pl_get (v := .ref (cr ad 0 0)) hx hb hts (fun w h => mT (inX10 w h)) hown hG.1 hP (hst.1 0 (by decide)) hf20 rfl 8 (by decide) (hts _ (mT wg_483)) (fun _ h => h) rfl dX10_say_38 ?_
    refine lv_iload_n hx hb dX10_say_41 rfl (lv_at hl 2 rfl) ?_
    refine lv_iload_n hx hb dX10_say_42 rfl (lv_at hl 3 rfl) ?_
    refine lv_iload_n hx hb dX10_say_43 rfl (lv_at hl 4 rfl) ?_
    refine lv_iload hx hb dX10_say_44 (lv_at hl 5 rfl) ?_
    refine lv_iload hx hb dX10_say_46 (lv_at hl 6 rfl) ?_
    obtain ⟨v0_21, v1_21, v2_21, v3_21, v4_21, v5_21, v6_21, v7_21, v8_21, hf22, hv1_21, hg1_21, hv2_21, hg2_21, hv6_21⟩ := hT.2.1 0 (by decide) 0 (by decide)
    refine call_v (run_VN (rm := rm_X3_addSaid) hx hb hml hown hts (s_X3_addSaid l g ad th18 _ _ _ 0 z1 z2 z3 z4 z5 hst hT (by decide)) cV_X3_addSaid wn_910 ⟨Nat.le_of_ble_eq_true rfl, Nat.le_of_ble_eq_true rfl⟩ hG hE hA hP hD hS (hst.c (by decide) (by decide)) hf22 rfl rfl hl.1 (As := [.int z1, .int z2, .int z3, .int z4, .int z5]) (rest := []) rfl (Nat.le_of_ble_eq_true rfl) dX10_say_48 ⟨Nat.le_of_ble_eq_true rfl, Nat.le_of_ble_eq_true rfl⟩) hA hD hS (fun L24 f25 H locs hp26 hP hD hS => ?_)
    obtain ⟨eL27L, eL27T, eL27F⟩ := hp26
    have eL27L : L24 = L := eL27L
    rw [eL27L] at hP hD
    have hT : TI g ad th18 f25 := eL27T
    have eL27F : ∀ b, b ≠ (cr ad 0 0) → b ≠ (cr ad 0 1) → f25 b = f15 b := eL27F
    have hf28 := (eL27F (ad 0) (hst.ne (by omega) (by omega) (by omega)) (hst.ne (by omega) (by omega) (by omega))).trans hf20
    refine lv_aload_n hx hb dX10_say_51 rfl (lv_at hl 1 rfl) ?_
    refine pl_get (v := .ref (cr ad 0 0)) hx hb hts (fun w h => mT (inX10 w h)) hown hG.1 hP (hst.1 0 (by decide)) hf28 rfl 8 (by decide) (hts _ (mT wg_483)) (fun _ h => h) rfl dX10_say_52 ?_
    obtain ⟨v0_29, v1_29, v2_29, v3_29, v4_29, v5_29, v6_29, v7_29, v8_29, hf30, hv1_29, hg1_29, hv2_29, hg2_29, hv6_29⟩ := hT.2.1 0 (by decide) 0 (by decide)
    refine pl_getN (v := .int v6_29) hx hb hts (fun w h => mT (inX3 w h)) hown hG.1 hP (hst.c (by decide) (by decide)) hf30 rfl 6 (by decide) (hG.2.1 _ wn_349) (fun _ h => h) rfl dX10_say_55 ?_
    exact ret_i (ty := .int) hx hb hr hlocks (rfl) hP hD hS (Nat.le_of_ble_eq_true rfl) (Nat.le_of_ble_eq_true rfl) (⟨rfl, ⟨th18, ⟨(hth18).1, (SBC.trans (SBC.rf th) (SBK.c (hth18).2))⟩, hT⟩⟩) dX10_say_58
  ·
    have cc31 : r3.toInt ≠ ((-1) : Int32).toInt := i32_ne c8
    have hb32 : In r3 0 4 := In.ne1 eL7R (⟨by decide, by decide⟩ : In (-1) (-1) (-1)) cc31 (by omega) (by omega)
    refine lv_aload_n hx hb dX10_say_19 rfl (lv_at hl 1 rfl) ?_
    refine lv_iload hx hb dX10_say_20 (lv_at hl 0 rfl) ?_
    refine call_i (run_V (rm := rm_X10_refuse) hx hb hml hown hts (s_X10_refuse l g ad th _ _ _ r3 hst hT hb32) cV_X10_refuse wg_906 ⟨Nat.le_of_ble_eq_true rfl, Nat.le_of_ble_eq_true rfl⟩ hG hE hA hP hD hS (hst.1 0 (by decide)) hf2 rfl rfl hl.1 (As := [.int r3]) (rest := []) rfl (Nat.le_of_ble_eq_true rfl) dX10_say_22 ⟨Nat.le_of_ble_eq_true rfl, Nat.le_of_ble_eq_true rfl⟩) hA hD hS (fun r33 L34 f35 H locs hp36 hP hD hS => ?_)
    obtain ⟨eL37L, eL37T, eL37F⟩ := hp36
    have eL37L : L34 = L := eL37L
    rw [eL37L] at hP hD
    have hT : TI g ad th f35 := eL37T
    have eL37F : ∀ b, b ≠ (ad 24) → f35 b = f b := eL37F
    have hf38 := (eL37F (ad 0) (hst.ne (by decide) (by decide) (by decide))).trans hf2
    exact ret_i (ty := .int) hx hb hr hlocks (rfl) hP hD hS (Nat.le_of_ble_eq_true rfl) (Nat.le_of_ble_eq_true rfl) (⟨rfl, ⟨th, ⟨hC, (SBC.rf th)⟩, hT⟩⟩) dX10_say_25

abbrev rm_X10_starts : Room := { frames := 3, cells := 0, slots := 0, locals := 242 }
abbrev po_X10_starts (g : GG) (ad : Nat → Nat) (th : Nat → Int) (L : List Nat) (f : HP) (z1 : Int32) : Int32 → (List Nat × HP) → Prop := fun r u => u.1 = L ∧ (∃ th' : Nat → Int, (CIv th' ∧ SBC th th') ∧ TI g ad th' u.2)
set_option maxHeartbeats 4000000 in
set_option maxRecDepth 100000 in
theorem s_X10_starts (l : Launch) (g : GG) (ad : Nat → Nat) (th : Nat → Int) (L : List Nat) (f : HP) (sz : Nat) (z1 : Int32) (hst : ST ad L) (hT : TI g ad th f) (hC : CIv th) : MtI l g yX10_starts cX10_starts 4 (some .int) rm_X10_starts [.ref (ad 0), .int z1] L f sz (po_X10_starts g ad th L f z1) := by
  refine MtI.of (by decide +kernel) (Nat.le_of_ble_eq_true rfl) ?_
  intro p e s m below meth c A hEn hP hD hS ls hl
  obtain ⟨hx, hb, hr, hml, hown, hlocks, hts, hG, hA, hE, hnm⟩ := hEn
  have hown : s.vm.findClass "RulerWord" = some m.cls := hown
  have hl : lv_has ls 4 [(0, .ref (ad 0)), (1, .int z1)] := hl
  refine lv_aload_n hx hb dX10_starts_0 rfl (lv_at hl 0 rfl) ?_
  refine lv_iload_n hx hb dX10_starts_1 rfl (lv_at hl 1 rfl) ?_
  refine lv_aload_n hx hb dX10_starts_2 rfl (lv_at hl 0 rfl) ?_
  obtain ⟨v15_1, v16_1, v17_1, hf2, hv15_1, hv16_1, hg16_1⟩ := hT.1 0 (by decide)
  refine pl_get (v := .ref (ad 6)) hx hb hts (fun w h => mT (inX10 w h)) hown hG.1 hP (hst.1 0 (by decide)) hf2 rfl 2 (by decide) (hts _ (mT wg_477)) (fun _ h => h) rfl dX10_starts_3 ?_
  obtain ⟨v0_3, v1_3, v2_3, v3_3, v4_3, v5_3, v6_3, v7_3, hf4, hv0_3, hg0_3, hv1_3, hg1_3, hv2_3, hv3_3, hv5_3, hv6_3, hrel0_3⟩ := hT.1 6 (by decide)
  refine call_i (run_VN (rm := rm_X2_everybody_co) hx hb hml hown hts (s_X2_everybody_co l g ad th _ _ _  hst hT ) cV_X2_everybody wn_918 ⟨Nat.le_of_ble_eq_true rfl, Nat.le_of_ble_eq_true rfl⟩ hG hE hA hP hD hS (hst.1 6 (by decide)) hf4 rfl rfl hl.1 (As := []) (rest := [.int z1, .ref (ad 0)]) rfl (Nat.le_of_ble_eq_true rfl) dX10_starts_6 ⟨Nat.le_of_ble_eq_true rfl, Nat.le_of_ble_eq_true rfl⟩) hA hD hS (fun r5 L6 f7 H locs hp8 hP hD hS => ?_)
  obtain ⟨eL9L, eL9T, eL9R, eL9X0⟩ := hp8
  have eL9L : L6 = L := eL9L
  have eL9T : f7 = f := eL9T
  rw [eL9L, eL9T] at hP hD
  have eL9R : In r5 0 511 := eL9R
  have hev10 : r5.toInt = 2 ^ (th 3).toNat - 1 := eL9X0
  refine call_i (run_V (rm := rm_X10_whyNotTold) hx hb hml hown hts (s_X10_whyNotTold l g ad th _ _ _ z1 r5 hst hT ) cV_X10_whyNotTold wg_922 ⟨Nat.le_of_ble_eq_true rfl, Nat.le_of_ble_eq_true rfl⟩ hG hE hA hP hD hS (hst.1 0 (by decide)) hf2 rfl rfl hl.1 (As := [.int z1, .int r5]) (rest := []) rfl (Nat.le_of_ble_eq_true rfl) dX10_starts_9 ⟨Nat.le_of_ble_eq_true rfl, Nat.le_of_ble_eq_true rfl⟩) hA hD hS (fun r11 L12 f13 H locs hp14 hP hD hS => ?_)
  obtain ⟨eL15L, eL15T, eL15R, eL15X0⟩ := hp14
  have eL15L : L12 = L := eL15L
  have eL15T : f13 = f := eL15T
  rw [eL15L, eL15T] at hP hD
  have eL15R : In r11 (-1) 3 := eL15R
  have hwn16 : r11.toInt ≠ -1 ∨ (0 ≤ z1.toInt ∧ z1.toInt ≤ r5.toInt) := eL15X0
  refine lv_istore_n (lv' := [(2, .int r11), (0, .ref (ad 0)), (1, .int z1)]) hx hb dX10_starts_12 rfl hl (by decide) rfl (fun ls hl => ?_)
  refine lv_iload_n hx hb dX10_starts_13 rfl (lv_at hl 0 rfl) ?_
  refine lv_iconst (v := (-1)) hx hb dX10_starts_14 (by decide) ?_
  refine lv_icmp_eq (tgt := 24) hx hb dX10_starts_15 (by decide) (fun c17 => ?_) (fun c17 => ?_)
  ·
    have cc18 : r11.toInt = ((-1) : Int32).toInt := congrArg Int32.toInt c17
    have hb19 : In r11 (-1) (-1) := In.eq1 eL15R (⟨by decide, by decide⟩ : In (-1) (-1) (-1)) cc18 (by omega) (by omega)
    refine lv_aload_n hx hb dX10_starts_24 rfl (lv_at hl 1 rfl) ?_
    refine pl_get (v := .ref (cr ad 0 0)) hx hb hts (fun w h => mT (inX10 w h)) hown hG.1 hP (hst.1 0 (by decide)) hf2 rfl 8 (by decide) (hts _ (mT wg_483)) (fun _ h => h) rfl dX10_starts_25 ?_
    obtain ⟨v0_20, v1_20, v2_20, v3_20, v4_20, v5_20, v6_20, v7_20, v8_20, hf21, hv1_20, hg1_20, hv2_20, hg2_20, hv6_20⟩ := hT.2.1 0 (by decide) 0 (by decide)
    refine pl_getN (v := .int v0_20) hx hb hts (fun w h => mT (inX3 w h)) hown hG.1 hP (hst.c (by decide) (by decide)) hf21 rfl 0 (by decide) (hG.2.1 _ wn_336) (fun _ h => h) rfl dX10_starts_28 ?_
    refine lv_istore_n (lv' := [(3, .int v0_20), (2, .int r11), (0, .ref (ad 0)), (1, .int z1)]) hx hb dX10_starts_31 rfl hl (by decide) rfl (fun ls hl => ?_)
    refine lv_aload_n hx hb dX10_starts_32 rfl (lv_at hl 2 rfl) ?_
    refine pl_get (v := .ref (ad 16)) hx hb hts (fun w h => mT (inX10 w h)) hown hG.1 hP (hst.1 0 (by decide)) hf2 rfl 11 (by decide) (hts _ (mT wg_486)) (fun _ h => h) rfl dX10_starts_33 ?_
    refine lv_aload_n hx hb dX10_starts_36 rfl (lv_at hl 2 rfl) ?_
    refine pl_get (v := .ref (cr ad 0 0)) hx hb hts (fun w h => mT (inX10 w h)) hown hG.1 hP (hst.1 0 (by decide)) hf2 rfl 8 (by decide) (hts _ (mT wg_483)) (fun _ h => h) rfl dX10_starts_37 ?_
    obtain ⟨v1_22, v2_22, hf23, hv1_22, hg1_22, hv2_22, hg2_22⟩ := hT.1 16 (by decide)
    refine call_v (run_VN (rm := rm_X0_keep) hx hb hml hown hts (s_X0_keep l g ad th _ _ _  hst hT hC) cV_X0_keep wn_759 ⟨Nat.le_of_ble_eq_true rfl, Nat.le_of_ble_eq_true rfl⟩ hG hE hA hP hD hS (hst.1 16 (by decide)) hf23 rfl rfl hl.1 (As := [.ref (cr ad 0 0)]) (rest := []) rfl (Nat.le_of_ble_eq_true rfl) dX10_starts_40 ⟨Nat.le_of_ble_eq_true rfl, Nat.le_of_ble_eq_true rfl⟩) hA hD hS (fun L25 f26 H locs hp27 hP hD hS => ?_)
    obtain ⟨eL28L, eL28T⟩ := hp27
    have eL28L : L25 = L := eL28L
    rw [eL28L] at hP hD
    obtain ⟨th29, hth29, eL28T⟩ := eL28T
    have hT : TI g ad th29 f26 := eL28T
    refine lv_aload_n hx hb dX10_starts_43 rfl (lv_at hl 2 rfl) ?_
    obtain ⟨v15_30, v16_30, v17_30, hf31, hv15_30, hv16_30, hg16_30⟩ := hT.1 0 (by decide)
    have hg16_30 : v16_30.toInt = th29 1 := hg16_30
    refine pl_get (v := .ref (cr ad 0 0)) hx hb hts (fun w h => mT (inX10 w h)) hown hG.1 hP (hst.1 0 (by decide)) hf31 rfl 8 (by decide) (hts _ (mT wg_483)) (fun _ h => h) rfl dX10_starts_44 ?_
    refine lv_iload_n hx hb dX10_starts_47 rfl (lv_at hl 3 rfl) ?_
    obtain ⟨v0_32, v1_32, v2_32, v3_32, v4_32, v5_32, v6_32, v7_32, v8_32, hf33, hv1_32, hg1_32, hv2_32, hg2_32, hv6_32⟩ := hT.2.1 0 (by decide) 0 (by decide)
    refine pl_putN (ty := .int) (v := .int z1) (fs' := [.int z1, .int v1_32, .int v2_32, .int v3_32, .int v4_32, .int v5_32, .int v6_32, .long v7_32, .long v8_32, .ref (cr ad 0 1), .ref (cr ad 0 2), .ref (cr ad 0 3), .ref (cr ad 0 4), .ref (cr ad 0 5), .ref (cr ad 0 6), .ref (cr ad 0 7), .ref (cr ad 0 8), .ref (cr ad 0 9)]) hx hb hts (fun w h => mT (inX3 w h)) tyX3 tyX3_ok nmX3 hown hG.1 hP hD hS (hst.c (by decide) (by decide)) hf33 rfl 0 (by decide) (hG.2.1 _ wn_336) (fun _ h => h) rfl (by decide +kernel) (rfl) (rfl) (Nat.le_of_ble_eq_true rfl) rfl dX10_starts_48 (fun H locs f34 hf35 ho36 hP hD hS => ?_)
    have hf37 := (ho36 (ad 0) (hst.ne (by omega) (by omega) (by omega))).trans hf31
    refine lv_aload_n hx hb dX10_starts_51 rfl (lv_at hl 2 rfl) ?_
    refine pl_get (v := .ref (cr ad 0 0)) hx hb hts (fun w h => mT (inX10 w h)) hown hG.1 hP (hst.1 0 (by decide)) hf37 rfl 8 (by decide) (hts _ (mT wg_483)) (fun _ h => h) rfl dX10_starts_52 ?_
    refine lv_iload_n hx hb dX10_starts_55 rfl (lv_at hl 3 rfl) ?_
    refine pl_putN (ty := .int) (v := .int z1) (fs' := [.int z1, .int v1_32, .int v2_32, .int z1, .int v4_32, .int v5_32, .int v6_32, .long v7_32, .long v8_32, .ref (cr ad 0 1), .ref (cr ad 0 2), .ref (cr ad 0 3), .ref (cr ad 0 4), .ref (cr ad 0 5), .ref (cr ad 0 6), .ref (cr ad 0 7), .ref (cr ad 0 8), .ref (cr ad 0 9)]) hx hb hts (fun w h => mT (inX3 w h)) tyX3 tyX3_ok nmX3 hown hG.1 hP hD hS (hst.c (by decide) (by decide)) hf35 rfl 3 (by decide) (hG.2.1 _ wn_343) (fun _ h => h) rfl (by decide +kernel) (rfl) (rfl) (Nat.le_of_ble_eq_true rfl) rfl dX10_starts_56 (fun H locs f38 hf39 ho40 hP hD hS => ?_)
    have hf41 := (ho40 (ad 0) (hst.ne (by omega) (by omega) (by omega))).trans hf37
    have ho42 : ∀ b, b ≠ (cr ad 0 0) → f38 b = _ := fun b hb => (ho40 b hb).trans (ho36 b hb)
    refine lv_iload_n hx hb dX10_starts_59 rfl (lv_at hl 0 rfl) ?_
    have hT := TI.updC hT hst (by decide) (k := 0) (by decide) hf39 ho42 ⟨z1, v1_32, v2_32, z1, v4_32, v5_32, v6_32, v7_32, v8_32, rfl, hv1_32, hg1_32, hv2_32, hg2_32, hv6_32⟩
    exact ret_i (ty := .int) hx hb hr hlocks (rfl) hP hD hS (Nat.le_of_ble_eq_true rfl) (Nat.le_of_ble_eq_true rfl) (⟨rfl, ⟨th29, ⟨(hth29).1, (SBC.trans (SBC.rf th) (SBK.c (hth29).2))⟩, hT⟩⟩) dX10_starts_60
  ·
    have cc43 : r11.toInt ≠ ((-1) : Int32).toInt := i32_ne c17
    have hb44 : In r11 0 3 := In.ne1 eL15R (⟨by decide, by decide⟩ : In (-1) (-1) (-1)) cc43 (by omega) (by omega)
    refine lv_aload_n hx hb dX10_starts_18 rfl (lv_at hl 1 rfl) ?_
    refine lv_iload_n hx hb dX10_starts_19 rfl (lv_at hl 0 rfl) ?_
    refine call_i (run_V (rm := rm_X10_refuse) hx hb hml hown hts (s_X10_refuse l g ad th _ _ _ r11 hst hT (In.mono hb44 (by decide) (by decide))) cV_X10_refuse wg_906 ⟨Nat.le_of_ble_eq_true rfl, Nat.le_of_ble_eq_true rfl⟩ hG hE hA hP hD hS (hst.1 0 (by decide)) hf2 rfl rfl hl.1 (As := [.int r11]) (rest := []) rfl (Nat.le_of_ble_eq_true rfl) dX10_starts_20 ⟨Nat.le_of_ble_eq_true rfl, Nat.le_of_ble_eq_true rfl⟩) hA hD hS (fun r45 L46 f47 H locs hp48 hP hD hS => ?_)
    obtain ⟨eL49L, eL49T, eL49F⟩ := hp48
    have eL49L : L46 = L := eL49L
    rw [eL49L] at hP hD
    have hT : TI g ad th f47 := eL49T
    have eL49F : ∀ b, b ≠ (ad 24) → f47 b = f b := eL49F
    have hf50 := (eL49F (ad 0) (hst.ne (by decide) (by decide) (by decide))).trans hf2
    have hf51 := (eL49F (ad 6) (hst.ne (by decide) (by decide) (by decide))).trans hf4
    exact ret_i (ty := .int) hx hb hr hlocks (rfl) hP hD hS (Nat.le_of_ble_eq_true rfl) (Nat.le_of_ble_eq_true rfl) (⟨rfl, ⟨th, ⟨hC, (SBC.rf th)⟩, hT⟩⟩) dX10_starts_23

abbrev rm_X10_falseOnes : Room := { frames := 3, cells := 0, slots := 0, locals := 242 }
abbrev po_X10_falseOnes (g : GG) (ad : Nat → Nat) (th : Nat → Int) (L : List Nat) (f : HP) (z1 : Int32) : Int32 → (List Nat × HP) → Prop := fun r u => u.1 = L ∧ (∃ th' : Nat → Int, (CIv th' ∧ SBC th th') ∧ TI g ad th' u.2)
set_option maxHeartbeats 4000000 in
set_option maxRecDepth 100000 in
theorem s_X10_falseOnes (l : Launch) (g : GG) (ad : Nat → Nat) (th : Nat → Int) (L : List Nat) (f : HP) (sz : Nat) (z1 : Int32) (hst : ST ad L) (hT : TI g ad th f) (hC : CIv th) : MtI l g yX10_falseOnes cX10_falseOnes 4 (some .int) rm_X10_falseOnes [.ref (ad 0), .int z1] L f sz (po_X10_falseOnes g ad th L f z1) := by
  refine MtI.of (by decide +kernel) (Nat.le_of_ble_eq_true rfl) ?_
  intro p e s m below meth c A hEn hP hD hS ls hl
  obtain ⟨hx, hb, hr, hml, hown, hlocks, hts, hG, hA, hE, hnm⟩ := hEn
  have hown : s.vm.findClass "RulerWord" = some m.cls := hown
  have hl : lv_has ls 4 [(0, .ref (ad 0)), (1, .int z1)] := hl
  refine lv_aload_n hx hb dX10_falseOnes_0 rfl (lv_at hl 0 rfl) ?_
  refine lv_iload_n hx hb dX10_falseOnes_1 rfl (lv_at hl 1 rfl) ?_
  refine lv_aload_n hx hb dX10_falseOnes_2 rfl (lv_at hl 0 rfl) ?_
  obtain ⟨v15_1, v16_1, v17_1, hf2, hv15_1, hv16_1, hg16_1⟩ := hT.1 0 (by decide)
  refine pl_get (v := .ref (ad 6)) hx hb hts (fun w h => mT (inX10 w h)) hown hG.1 hP (hst.1 0 (by decide)) hf2 rfl 2 (by decide) (hts _ (mT wg_477)) (fun _ h => h) rfl dX10_falseOnes_3 ?_
  obtain ⟨v0_3, v1_3, v2_3, v3_3, v4_3, v5_3, v6_3, v7_3, hf4, hv0_3, hg0_3, hv1_3, hg1_3, hv2_3, hv3_3, hv5_3, hv6_3, hrel0_3⟩ := hT.1 6 (by decide)
  have h3r : 0 ≤ th 3 ∧ th 3 ≤ 9 ∧ True := by obtain ⟨q1, q2⟩ := hv1_3; have := hg1_3; exact ⟨by omega, by omega, trivial⟩
  refine call_i (run_VN (rm := rm_X2_everybody_co) hx hb hml hown hts (s_X2_everybody_co l g ad th _ _ _  hst hT ) cV_X2_everybody wn_918 ⟨Nat.le_of_ble_eq_true rfl, Nat.le_of_ble_eq_true rfl⟩ hG hE hA hP hD hS (hst.1 6 (by decide)) hf4 rfl rfl hl.1 (As := []) (rest := [.int z1, .ref (ad 0)]) rfl (Nat.le_of_ble_eq_true rfl) dX10_falseOnes_6 ⟨Nat.le_of_ble_eq_true rfl, Nat.le_of_ble_eq_true rfl⟩) hA hD hS (fun r5 L6 f7 H locs hp8 hP hD hS => ?_)
  obtain ⟨eL9L, eL9T, eL9R, eL9X0⟩ := hp8
  have eL9L : L6 = L := eL9L
  have eL9T : f7 = f := eL9T
  rw [eL9L, eL9T] at hP hD
  have eL9R : In r5 0 511 := eL9R
  have hev10 : r5.toInt = 2 ^ (th 3).toNat - 1 := eL9X0
  refine lv_iconst (v := 1) hx hb dX10_falseOnes_9 (by decide) ?_
  refine lv_isub hx hb dX10_falseOnes_10 ?_
  refine lv_topi (fun x11 ex11 => ?_)
  have hb12 : In x11 (-1) 510 := ex11 ▸ In.sub eL9R (⟨by decide, by decide⟩ : In 1 1 1) (by decide) (by decide) (by decide) (by decide)
  have et13 : x11.toInt = r5.toInt + (-1) := In.sube ex11 eL9R (k := 1) (by decide) (by decide) (by decide)
  refine call_i (run_V (rm := rm_X10_whyNotTold) hx hb hml hown hts (s_X10_whyNotTold l g ad th _ _ _ z1 x11 hst hT ) cV_X10_whyNotTold wg_922 ⟨Nat.le_of_ble_eq_true rfl, Nat.le_of_ble_eq_true rfl⟩ hG hE hA hP hD hS (hst.1 0 (by decide)) hf2 rfl rfl hl.1 (As := [.int z1, .int x11]) (rest := []) rfl (Nat.le_of_ble_eq_true rfl) dX10_falseOnes_11 ⟨Nat.le_of_ble_eq_true rfl, Nat.le_of_ble_eq_true rfl⟩) hA hD hS (fun r14 L15 f16 H locs hp17 hP hD hS => ?_)
  obtain ⟨eL18L, eL18T, eL18R, eL18X0⟩ := hp17
  have eL18L : L15 = L := eL18L
  have eL18T : f16 = f := eL18T
  rw [eL18L, eL18T] at hP hD
  have eL18R : In r14 (-1) 3 := eL18R
  have hwn19 : r14.toInt ≠ -1 ∨ (0 ≤ z1.toInt ∧ z1.toInt ≤ x11.toInt) := eL18X0
  refine lv_istore_n (lv' := [(2, .int r14), (0, .ref (ad 0)), (1, .int z1)]) hx hb dX10_falseOnes_14 rfl hl (by decide) rfl (fun ls hl => ?_)
  refine lv_iload_n hx hb dX10_falseOnes_15 rfl (lv_at hl 0 rfl) ?_
  refine lv_iconst (v := (-1)) hx hb dX10_falseOnes_16 (by decide) ?_
  refine lv_icmp_eq (tgt := 26) hx hb dX10_falseOnes_17 (by decide) (fun c20 => ?_) (fun c20 => ?_)
  ·
    have ocm1 : ((-1) : Int32).toInt = (-1) := by decide
    have cc21 : r14.toInt = ((-1) : Int32).toInt := congrArg Int32.toInt c20
    have hb22 : In r14 (-1) (-1) := In.eq1 eL18R (⟨by decide, by decide⟩ : In (-1) (-1) (-1)) cc21 (by omega) (by omega)
    refine lv_aload_n hx hb dX10_falseOnes_26 rfl (lv_at hl 1 rfl) ?_
    refine pl_get (v := .ref (cr ad 0 0)) hx hb hts (fun w h => mT (inX10 w h)) hown hG.1 hP (hst.1 0 (by decide)) hf2 rfl 8 (by decide) (hts _ (mT wg_483)) (fun _ h => h) rfl dX10_falseOnes_27 ?_
    have hp9 : (2 : Int) ^ (th 3).toNat ≤ 512 := p9 (h3r.2.1)
    have hb23 : In z1 0 510 := In.mk (by omega) (by omega)
    have hcb : capI z1.toInt (th 3) := Or.inr (by obtain ⟨o0a, o0b⟩ := (hb23 : In _ _ _); omega)
    obtain ⟨v0_24, v1_24, v2_24, v3_24, v4_24, v5_24, v6_24, v7_24, v8_24, hf25, hv1_24, hg1_24, hv2_24, hg2_24, hv6_24⟩ := hT.2.1 0 (by decide) 0 (by decide)
    refine pl_getN (v := .int v1_24) hx hb hts (fun w h => mT (inX3 w h)) hown hG.1 hP (hst.c (by decide) (by decide)) hf25 rfl 1 (by decide) (hG.2.1 _ wn_339) (fun _ h => h) rfl dX10_falseOnes_30 ?_
    refine lv_istore_n (lv' := [(3, .int v1_24), (2, .int r14), (0, .ref (ad 0)), (1, .int z1)]) hx hb dX10_falseOnes_33 rfl hl (by decide) rfl (fun ls hl => ?_)
    refine lv_aload_n hx hb dX10_falseOnes_34 rfl (lv_at hl 2 rfl) ?_
    refine pl_get (v := .ref (ad 16)) hx hb hts (fun w h => mT (inX10 w h)) hown hG.1 hP (hst.1 0 (by decide)) hf2 rfl 11 (by decide) (hts _ (mT wg_486)) (fun _ h => h) rfl dX10_falseOnes_35 ?_
    refine lv_aload_n hx hb dX10_falseOnes_38 rfl (lv_at hl 2 rfl) ?_
    refine pl_get (v := .ref (cr ad 0 0)) hx hb hts (fun w h => mT (inX10 w h)) hown hG.1 hP (hst.1 0 (by decide)) hf2 rfl 8 (by decide) (hts _ (mT wg_483)) (fun _ h => h) rfl dX10_falseOnes_39 ?_
    obtain ⟨v1_26, v2_26, hf27, hv1_26, hg1_26, hv2_26, hg2_26⟩ := hT.1 16 (by decide)
    refine call_v (run_VN (rm := rm_X0_keep) hx hb hml hown hts (s_X0_keep l g ad th _ _ _  hst hT hC) cV_X0_keep wn_759 ⟨Nat.le_of_ble_eq_true rfl, Nat.le_of_ble_eq_true rfl⟩ hG hE hA hP hD hS (hst.1 16 (by decide)) hf27 rfl rfl hl.1 (As := [.ref (cr ad 0 0)]) (rest := []) rfl (Nat.le_of_ble_eq_true rfl) dX10_falseOnes_42 ⟨Nat.le_of_ble_eq_true rfl, Nat.le_of_ble_eq_true rfl⟩) hA hD hS (fun L29 f30 H locs hp31 hP hD hS => ?_)
    obtain ⟨eL32L, eL32T⟩ := hp31
    have eL32L : L29 = L := eL32L
    rw [eL32L] at hP hD
    obtain ⟨th33, hth33, eL32T⟩ := eL32T
    have hT : TI g ad th33 f30 := eL32T
    refine lv_aload_n hx hb dX10_falseOnes_45 rfl (lv_at hl 2 rfl) ?_
    obtain ⟨v15_34, v16_34, v17_34, hf35, hv15_34, hv16_34, hg16_34⟩ := hT.1 0 (by decide)
    have hg16_34 : v16_34.toInt = th33 1 := hg16_34
    refine pl_get (v := .ref (cr ad 0 0)) hx hb hts (fun w h => mT (inX10 w h)) hown hG.1 hP (hst.1 0 (by decide)) hf35 rfl 8 (by decide) (hts _ (mT wg_483)) (fun _ h => h) rfl dX10_falseOnes_46 ?_
    refine lv_iload_n hx hb dX10_falseOnes_49 rfl (lv_at hl 3 rfl) ?_
    obtain ⟨v0_36, v1_36, v2_36, v3_36, v4_36, v5_36, v6_36, v7_36, v8_36, hf37, hv1_36, hg1_36, hv2_36, hg2_36, hv6_36⟩ := hT.2.1 0 (by decide) 0 (by decide)
    refine pl_putN (ty := .int) (v := .int z1) (fs' := [.int v0_36, .int z1, .int v2_36, .int v3_36, .int v4_36, .int v5_36, .int v6_36, .long v7_36, .long v8_36, .ref (cr ad 0 1), .ref (cr ad 0 2), .ref (cr ad 0 3), .ref (cr ad 0 4), .ref (cr ad 0 5), .ref (cr ad 0 6), .ref (cr ad 0 7), .ref (cr ad 0 8), .ref (cr ad 0 9)]) hx hb hts (fun w h => mT (inX3 w h)) tyX3 tyX3_ok nmX3 hown hG.1 hP hD hS (hst.c (by decide) (by decide)) hf37 rfl 1 (by decide) (hG.2.1 _ wn_339) (fun _ h => h) rfl (by decide +kernel) (rfl) (rfl) (Nat.le_of_ble_eq_true rfl) rfl dX10_falseOnes_50 (fun H locs f38 hf39 ho40 hP hD hS => ?_)
    have hf41 := (ho40 (ad 0) (hst.ne (by omega) (by omega) (by omega))).trans hf35
    refine lv_aload_n hx hb dX10_falseOnes_53 rfl (lv_at hl 2 rfl) ?_
    refine pl_get (v := .ref (cr ad 0 0)) hx hb hts (fun w h => mT (inX10 w h)) hown hG.1 hP (hst.1 0 (by decide)) hf41 rfl 8 (by decide) (hts _ (mT wg_483)) (fun _ h => h) rfl dX10_falseOnes_54 ?_
    have hT := TI.updCG (th' := (gset th33 (200 + 0) (z1.toInt))) hT hst (by decide) hf39 ho40 ⟨v0_36, z1, v2_36, v3_36, v4_36, v5_36, v6_36, v7_36, v8_36, rfl, hb23, (by simp [gset]), hv2_36, (by rw [hg2_36]; simp [gset]), hv6_36⟩ (fun k h1 h2 => by simp [gset, h1, h2])
    have hT : TI g ad (gset th33 (200 + 0) z1.toInt) f38 := TI.cast hT (by funext q; simp only [gset]; (repeat' split); all_goals first | rfl | omega | (subst_vars; rfl) | (exfalso; omega))
    obtain ⟨v0_42, v1_42, v2_42, v3_42, v4_42, v5_42, v6_42, v7_42, v8_42, hf43, hv1_42, hg1_42, hv2_42, hg2_42, hv6_42⟩ := hT.2.1 0 (by decide) 0 (by decide)
    refine call_v (run_VN (rm := rm_X3_dropSaidByTrue) hx hb hml hown hts (s_X3_dropSaidByTrue l g ad (gset th33 (200 + 0) z1.toInt) _ _ _ 0 hst hT (by decide)) cV_X3_dropSaidByTrue wn_930 ⟨Nat.le_of_ble_eq_true rfl, Nat.le_of_ble_eq_true rfl⟩ hG hE hA hP hD hS (hst.c (by decide) (by decide)) hf43 rfl rfl hl.1 (As := []) (rest := []) rfl (Nat.le_of_ble_eq_true rfl) dX10_falseOnes_57 ⟨Nat.le_of_ble_eq_true rfl, Nat.le_of_ble_eq_true rfl⟩) hA hD hS (fun L45 f46 H locs hp47 hP hD hS => ?_)
    obtain ⟨eL48L, eL48T, eL48F⟩ := hp47
    have eL48L : L45 = L := eL48L
    rw [eL48L] at hP hD
    have hT : TI g ad (gset th33 (200 + 0) z1.toInt) f46 := eL48T
    have eL48F : ∀ b, b ≠ (cr ad 0 0) → b ≠ (cr ad 0 1) → f46 b = f38 b := eL48F
    refine lv_iload_n hx hb dX10_falseOnes_60 rfl (lv_at hl 0 rfl) ?_
    exact ret_i (ty := .int) hx hb hr hlocks (rfl) hP hD hS (Nat.le_of_ble_eq_true rfl) (Nat.le_of_ble_eq_true rfl) (⟨rfl, ⟨(gset th33 (200 + 0) z1.toInt), ⟨(CIv.fals (hth33).1 (by rw [hth33.2.1 3 (by decide) (by decide) (by decide)]; exact hcb)), (SBC.set (k := (200 + 0)) (SBC.trans (SBC.rf th) (SBK.c (hth33).2)) (by decide))⟩, hT⟩⟩) dX10_falseOnes_61
  ·
    have ocm1 : ((-1) : Int32).toInt = (-1) := by decide
    have cc49 : r14.toInt ≠ ((-1) : Int32).toInt := i32_ne c20
    have hb50 : In r14 0 3 := In.ne1 eL18R (⟨by decide, by decide⟩ : In (-1) (-1) (-1)) cc49 (by omega) (by omega)
    refine lv_aload_n hx hb dX10_falseOnes_20 rfl (lv_at hl 1 rfl) ?_
    refine lv_iload_n hx hb dX10_falseOnes_21 rfl (lv_at hl 0 rfl) ?_
    refine call_i (run_V (rm := rm_X10_refuse) hx hb hml hown hts (s_X10_refuse l g ad th _ _ _ r14 hst hT (In.mono hb50 (by decide) (by decide))) cV_X10_refuse wg_906 ⟨Nat.le_of_ble_eq_true rfl, Nat.le_of_ble_eq_true rfl⟩ hG hE hA hP hD hS (hst.1 0 (by decide)) hf2 rfl rfl hl.1 (As := [.int r14]) (rest := []) rfl (Nat.le_of_ble_eq_true rfl) dX10_falseOnes_22 ⟨Nat.le_of_ble_eq_true rfl, Nat.le_of_ble_eq_true rfl⟩) hA hD hS (fun r51 L52 f53 H locs hp54 hP hD hS => ?_)
    obtain ⟨eL55L, eL55T, eL55F⟩ := hp54
    have eL55L : L52 = L := eL55L
    rw [eL55L] at hP hD
    have hT : TI g ad th f53 := eL55T
    have eL55F : ∀ b, b ≠ (ad 24) → f53 b = f b := eL55F
    have hf56 := (eL55F (ad 0) (hst.ne (by decide) (by decide) (by decide))).trans hf2
    have hf57 := (eL55F (ad 6) (hst.ne (by decide) (by decide) (by decide))).trans hf4
    exact ret_i (ty := .int) hx hb hr hlocks (rfl) hP hD hS (Nat.le_of_ble_eq_true rfl) (Nat.le_of_ble_eq_true rfl) (⟨rfl, ⟨th, ⟨hC, (SBC.rf th)⟩, hT⟩⟩) dX10_falseOnes_25

abbrev rm_X10_undo : Room := { frames := 3, cells := 0, slots := 0, locals := 242 }
abbrev po_X10_undo (g : GG) (ad : Nat → Nat) (th : Nat → Int) (L : List Nat) (f : HP)  : Int32 → (List Nat × HP) → Prop := fun r u => u.1 = L ∧ (∃ th' : Nat → Int, (CIv th' ∧ SBC th th') ∧ TI g ad th' u.2) ∧ (∀ b, b ≠ (ad 16) → b ≠ (cr ad 0 0) → b ≠ (cr ad 0 1) → b ≠ (cr ad 0 2) → b ≠ (cr ad 0 3) → b ≠ (cr ad 0 4) → b ≠ (cr ad 0 5) → b ≠ (cr ad 0 6) → b ≠ (cr ad 0 7) → b ≠ (cr ad 0 8) → b ≠ (cr ad 0 9) → u.2 b = f b)
set_option maxHeartbeats 4000000 in
set_option maxRecDepth 100000 in
theorem s_X10_undo (l : Launch) (g : GG) (ad : Nat → Nat) (th : Nat → Int) (L : List Nat) (f : HP) (sz : Nat)  (hst : ST ad L) (hT : TI g ad th f) (hC : CIv th) : MtI l g yX10_undo cX10_undo 1 (some .int) rm_X10_undo [.ref (ad 0)] L f sz (po_X10_undo g ad th L f ) := by
  refine MtI.of (by decide +kernel) (Nat.le_of_ble_eq_true rfl) ?_
  intro p e s m below meth c A hEn hP hD hS ls hl
  obtain ⟨hx, hb, hr, hml, hown, hlocks, hts, hG, hA, hE, hnm⟩ := hEn
  have hown : s.vm.findClass "RulerWord" = some m.cls := hown
  have hl : lv_has ls 1 [(0, .ref (ad 0))] := hl
  have hfr : (∀ b, b ≠ (ad 16) → b ≠ (cr ad 0 0) → b ≠ (cr ad 0 1) → b ≠ (cr ad 0 2) → b ≠ (cr ad 0 3) → b ≠ (cr ad 0 4) → b ≠ (cr ad 0 5) → b ≠ (cr ad 0 6) → b ≠ (cr ad 0 7) → b ≠ (cr ad 0 8) → b ≠ (cr ad 0 9) → f b = f b) := fun b z0_ z1_ z2_ z3_ z4_ z5_ z6_ z7_ z8_ z9_ z10_ => rfl
  refine lv_aload_n hx hb dX10_undo_0 rfl (lv_at hl 0 rfl) ?_
  obtain ⟨v15_1, v16_1, v17_1, hf2, hv15_1, hv16_1, hg16_1⟩ := hT.1 0 (by decide)
  refine pl_get (v := .ref (ad 16)) hx hb hts (fun w h => mT (inX10 w h)) hown hG.1 hP (hst.1 0 (by decide)) hf2 rfl 11 (by decide) (hts _ (mT wg_486)) (fun _ h => h) rfl dX10_undo_1 ?_
  refine lv_aload_n hx hb dX10_undo_4 rfl (lv_at hl 0 rfl) ?_
  refine pl_get (v := .ref (cr ad 0 0)) hx hb hts (fun w h => mT (inX10 w h)) hown hG.1 hP (hst.1 0 (by decide)) hf2 rfl 8 (by decide) (hts _ (mT wg_483)) (fun _ h => h) rfl dX10_undo_5 ?_
  obtain ⟨v1_3, v2_3, hf4, hv1_3, hg1_3, hv2_3, hg2_3⟩ := hT.1 16 (by decide)
  refine call_i (run_VN (rm := rm_X0_takeBack) hx hb hml hown hts (s_X0_takeBack l g ad th _ _ _  hst hT hC) cV_X0_takeBack wn_1210 ⟨Nat.le_of_ble_eq_true rfl, Nat.le_of_ble_eq_true rfl⟩ hG hE hA hP hD hS (hst.1 16 (by decide)) hf4 rfl rfl hl.1 (As := [.ref (cr ad 0 0)]) (rest := []) rfl (Nat.le_of_ble_eq_true rfl) dX10_undo_8 ⟨Nat.le_of_ble_eq_true rfl, Nat.le_of_ble_eq_true rfl⟩) hA hD hS (fun r5 L6 f7 H locs hp8 hP hD hS => ?_)
  obtain ⟨eL9L, eL9T, eL9F, eL9R⟩ := hp8
  have eL9L : L6 = L := eL9L
  rw [eL9L] at hP hD
  obtain ⟨th10, hth10, eL9T⟩ := eL9T
  have hT : TI g ad th10 f7 := eL9T
  have eL9F : ∀ b, b ≠ (ad 16) → b ≠ (cr ad 0 0) → b ≠ (cr ad 0 1) → b ≠ (cr ad 0 2) → b ≠ (cr ad 0 3) → b ≠ (cr ad 0 4) → b ≠ (cr ad 0 5) → b ≠ (cr ad 0 6) → b ≠ (cr ad 0 7) → b ≠ (cr ad 0 8) → b ≠ (cr ad 0 9) → f7 b = f b := eL9F
  have hfr : (∀ b, b ≠ (ad 16) → b ≠ (cr ad 0 0) → b ≠ (cr ad 0 1) → b ≠ (cr ad 0 2) → b ≠ (cr ad 0 3) → b ≠ (cr ad 0 4) → b ≠ (cr ad 0 5) → b ≠ (cr ad 0 6) → b ≠ (cr ad 0 7) → b ≠ (cr ad 0 8) → b ≠ (cr ad 0 9) → f7 b = f b) := fun b z0_ z1_ z2_ z3_ z4_ z5_ z6_ z7_ z8_ z9_ z10_ => (eL9F b z0_ z1_ z2_ z3_ z4_ z5_ z6_ z7_ z8_ z9_ z10_).trans (hfr b z0_ z1_ z2_ z3_ z4_ z5_ z6_ z7_ z8_ z9_ z10_)
  have eL9R : In r5 0 1 := eL9R
  refine lv_if_eq (tgt := 24) hx hb dX10_undo_11 (by decide) (fun c11 => ?_) (fun c11 => ?_)
  ·
    have oc0 : (0 : Int32).toInt = 0 := by decide
    have cc12 : r5.toInt = (0 : Int32).toInt := congrArg Int32.toInt c11
    have hb13 : In r5 0 0 := In.eq1 eL9R (⟨by decide, by decide⟩ : In 0 0 0) cc12 (by omega) (by omega)
    refine lv_iconst (v := (-1)) hx hb dX10_undo_24 (by decide) ?_
    exact ret_i (ty := .int) hx hb hr hlocks (rfl) hP hD hS (Nat.le_of_ble_eq_true rfl) (Nat.le_of_ble_eq_true rfl) (⟨rfl, ⟨th10, ⟨(hth10).1, (SBC.trans (SBC.rf th) (hth10).2)⟩, hT⟩, hfr⟩) dX10_undo_25
  ·
    have oc0 : (0 : Int32).toInt = 0 := by decide
    have cc14 : r5.toInt ≠ (0 : Int32).toInt := i32_ne c11
    have hb15 : In r5 1 1 := In.ne1 eL9R (⟨by decide, by decide⟩ : In 0 0 0) cc14 (by omega) (by omega)
    refine lv_aload_n hx hb dX10_undo_14 rfl (lv_at hl 0 rfl) ?_
    obtain ⟨v15_16, v16_16, v17_16, hf17, hv15_16, hv16_16, hg16_16⟩ := hT.1 0 (by decide)
    have hg16_16 : v16_16.toInt = th10 1 := hg16_16
    refine pl_get (v := .ref (ad 16)) hx hb hts (fun w h => mT (inX10 w h)) hown hG.1 hP (hst.1 0 (by decide)) hf17 rfl 11 (by decide) (hts _ (mT wg_486)) (fun _ h => h) rfl dX10_undo_15 ?_
    obtain ⟨v1_18, v2_18, hf19, hv1_18, hg1_18, hv2_18, hg2_18⟩ := hT.1 16 (by decide)
    have hg1_18 : v1_18.toInt = th10 5 := hg1_18
    have hg2_18 : v2_18.toInt = th10 6 := hg2_18
    refine pl_getN (v := .int v2_18) hx hb hts (fun w h => mT (inX0 w h)) hown hG.1 hP (hst.1 16 (by decide)) hf19 rfl 2 (by decide) (hG.2.1 _ wn_416) (fun _ h => h) rfl dX10_undo_18 ?_
    refine lv_goto (tgt := 25) hx hb dX10_undo_21 (by decide) ?_
    exact ret_i (ty := .int) hx hb hr hlocks (rfl) hP hD hS (Nat.le_of_ble_eq_true rfl) (Nat.le_of_ble_eq_true rfl) (⟨rfl, ⟨th10, ⟨(hth10).1, (SBC.trans (SBC.rf th) (hth10).2)⟩, hT⟩, hfr⟩) dX10_undo_25

abbrev rm_X10_image : Room := { frames := 2, cells := 0, slots := 0, locals := 221 }
abbrev po_X10_image (g : GG) (ad : Nat → Nat) (th : Nat → Int) (L : List Nat) (f : HP)  : Int32 → (List Nat × HP) → Prop := fun r u => u.1 = L ∧ (∃ th' : Nat → Int, (CIv th' ∧ SBC th th') ∧ TI g ad th' u.2) ∧ (∀ b, b ≠ (ad 0) → b ≠ (cr ad 1 0) → b ≠ (cr ad 1 1) → b ≠ (cr ad 1 2) → b ≠ (cr ad 1 3) → b ≠ (cr ad 1 4) → b ≠ (cr ad 1 5) → b ≠ (cr ad 1 6) → b ≠ (cr ad 1 7) → b ≠ (cr ad 1 8) → b ≠ (cr ad 1 9) → u.2 b = f b)
set_option maxHeartbeats 4000000 in
set_option maxRecDepth 100000 in
theorem s_X10_image (l : Launch) (g : GG) (ad : Nat → Nat) (th : Nat → Int) (L : List Nat) (f : HP) (sz : Nat)  (hst : ST ad L) (hT : TI g ad th f) (hC : CIv th) : MtI l g yX10_image cX10_image 1 (some .int) rm_X10_image [.ref (ad 0)] L f sz (po_X10_image g ad th L f ) := by
  refine MtI.of (by decide +kernel) (Nat.le_of_ble_eq_true rfl) ?_
  intro p e s m below meth c A hEn hP hD hS ls hl
  obtain ⟨hx, hb, hr, hml, hown, hlocks, hts, hG, hA, hE, hnm⟩ := hEn
  have hown : s.vm.findClass "RulerWord" = some m.cls := hown
  have hl : lv_has ls 1 [(0, .ref (ad 0))] := hl
  have hfr : (∀ b, b ≠ (ad 0) → b ≠ (cr ad 1 0) → b ≠ (cr ad 1 1) → b ≠ (cr ad 1 2) → b ≠ (cr ad 1 3) → b ≠ (cr ad 1 4) → b ≠ (cr ad 1 5) → b ≠ (cr ad 1 6) → b ≠ (cr ad 1 7) → b ≠ (cr ad 1 8) → b ≠ (cr ad 1 9) → f b = f b) := fun b z0_ z1_ z2_ z3_ z4_ z5_ z6_ z7_ z8_ z9_ z10_ => rfl
  refine lv_aload_n hx hb dX10_image_0 rfl (lv_at hl 0 rfl) ?_
  obtain ⟨v15_1, v16_1, v17_1, hf2, hv15_1, hv16_1, hg16_1⟩ := hT.1 0 (by decide)
  refine pl_get (v := .int v15_1) hx hb hts (fun w h => mT (inX10 w h)) hown hG.1 hP (hst.1 0 (by decide)) hf2 rfl 15 (by decide) (hts _ (mT wg_490)) (fun _ h => h) rfl dX10_image_1 ?_
  refine lv_if_ne (tgt := 9) hx hb dX10_image_4 (by decide) (fun c3 => ?_) (fun c3 => ?_)
  ·
    have cc4 : v15_1.toInt ≠ (0 : Int32).toInt := i32_ne c3
    have hb5 : In v15_1 1 1 := In.ne1 hv15_1 (⟨by decide, by decide⟩ : In 0 0 0) cc4 (by omega) (by omega)
    refine lv_aload_n hx hb dX10_image_9 rfl (lv_at hl 0 rfl) ?_
    refine pl_get (v := .ref (cr ad 1 0)) hx hb hts (fun w h => mT (inX10 w h)) hown hG.1 hP (hst.1 0 (by decide)) hf2 rfl 9 (by decide) (hts _ (mT wg_484)) (fun _ h => h) rfl dX10_image_10 ?_
    refine lv_aload_n hx hb dX10_image_13 rfl (lv_at hl 0 rfl) ?_
    refine pl_get (v := .ref (cr ad 0 0)) hx hb hts (fun w h => mT (inX10 w h)) hown hG.1 hP (hst.1 0 (by decide)) hf2 rfl 8 (by decide) (hts _ (mT wg_483)) (fun _ h => h) rfl dX10_image_14 ?_
    obtain ⟨v0_6, v1_6, v2_6, v3_6, v4_6, v5_6, v6_6, v7_6, v8_6, hf7, hv1_6, hg1_6, hv2_6, hg2_6, hv6_6⟩ := hT.2.1 1 (by decide) 0 (by decide)
    refine call_v (run_VN (rm := rm_X3_copy) hx hb hml hown hts (s_X3_copy l g ad th _ _ _ 1 0 hst hT (by decide) (by decide) (by decide)) cV_X3_copy wn_1218 ⟨Nat.le_of_ble_eq_true rfl, Nat.le_of_ble_eq_true rfl⟩ hG hE hA hP hD hS (hst.c (by decide) (by decide)) hf7 rfl rfl hl.1 (As := [.ref (cr ad 0 0)]) (rest := []) rfl (Nat.le_of_ble_eq_true rfl) dX10_image_17 ⟨Nat.le_of_ble_eq_true rfl, Nat.le_of_ble_eq_true rfl⟩) hA hD hS (fun L9 f10 H locs hp11 hP hD hS => ?_)
    obtain ⟨eL12L, eL12T, eL12F⟩ := hp11
    have eL12L : L9 = L := eL12L
    rw [eL12L] at hP hD
    have hT : TI g ad (gset (gset th (200 + 1) (th (200 + 0))) (300 + 1) (th (300 + 0))) f10 := eL12T
    have eL12F : ∀ b, b ≠ (cr ad 1 0) → b ≠ (cr ad 1 1) → b ≠ (cr ad 1 2) → b ≠ (cr ad 1 3) → b ≠ (cr ad 1 4) → b ≠ (cr ad 1 5) → b ≠ (cr ad 1 6) → b ≠ (cr ad 1 7) → b ≠ (cr ad 1 8) → b ≠ (cr ad 1 9) → f10 b = f b := eL12F
    have hfr : (∀ b, b ≠ (ad 0) → b ≠ (cr ad 1 0) → b ≠ (cr ad 1 1) → b ≠ (cr ad 1 2) → b ≠ (cr ad 1 3) → b ≠ (cr ad 1 4) → b ≠ (cr ad 1 5) → b ≠ (cr ad 1 6) → b ≠ (cr ad 1 7) → b ≠ (cr ad 1 8) → b ≠ (cr ad 1 9) → f10 b = f b) := fun b z0_ z1_ z2_ z3_ z4_ z5_ z6_ z7_ z8_ z9_ z10_ => (eL12F b z1_ z2_ z3_ z4_ z5_ z6_ z7_ z8_ z9_ z10_).trans (hfr b z0_ z1_ z2_ z3_ z4_ z5_ z6_ z7_ z8_ z9_ z10_)
    refine lv_aload_n hx hb dX10_image_20 rfl (lv_at hl 0 rfl) ?_
    refine lv_iconst (v := 1) hx hb dX10_image_21 (by decide) ?_
    obtain ⟨v15_13, v16_13, v17_13, hf14, hv15_13, hv16_13, hg16_13⟩ := hT.1 0 (by decide)
    have hg16_13 : v16_13.toInt = th 1 := hg16_13
    refine pl_put (ty := .boolean) (v := .int 1) (fs' := [.ref (ad 1), .ref (ad 5), .ref (ad 6), .ref (ad 7), .ref (ad 9), .ref (ad 13), .ref (ad 14), .ref (ad 15), .ref (cr ad 0 0), .ref (cr ad 1 0), .ref (cr ad 2 0), .ref (ad 16), .ref (ad 18), .ref (ad 3), .ref (ad 24), .int v15_13, .int 1, .long v17_13]) hx hb hts (fun w h => mT (inX10 w h)) tyX10 tyX10_ok nmX10 hown hG.1 hP hD hS (hst.1 0 (by decide)) hf14 rfl 16 (by decide) (hts _ (mT wg_491)) (fun _ h => h) rfl (by decide +kernel) (rfl) (rfl) (Nat.le_of_ble_eq_true rfl) rfl dX10_image_22 (fun H locs f15 hf16 ho17 hP hD hS => ?_)
    have hfr : (∀ b, b ≠ (ad 0) → b ≠ (cr ad 1 0) → b ≠ (cr ad 1 1) → b ≠ (cr ad 1 2) → b ≠ (cr ad 1 3) → b ≠ (cr ad 1 4) → b ≠ (cr ad 1 5) → b ≠ (cr ad 1 6) → b ≠ (cr ad 1 7) → b ≠ (cr ad 1 8) → b ≠ (cr ad 1 9) → f15 b = f b) := fun b z0_ z1_ z2_ z3_ z4_ z5_ z6_ z7_ z8_ z9_ z10_ => (ho17 b z0_).trans (hfr b z0_ z1_ z2_ z3_ z4_ z5_ z6_ z7_ z8_ z9_ z10_)
    refine lv_aload_n hx hb dX10_image_25 rfl (lv_at hl 0 rfl) ?_
    refine pl_get (v := .ref (cr ad 0 0)) hx hb hts (fun w h => mT (inX10 w h)) hown hG.1 hP (hst.1 0 (by decide)) hf16 rfl 8 (by decide) (hts _ (mT wg_483)) (fun _ h => h) rfl dX10_image_26 ?_
    have hT := TI.updAG (th' := (gset (gset (gset th (200 + 1) (th (200 + 0))) (300 + 1) (th (300 + 0))) 1 (1))) hT hst (k := 0) (by decide) hf16 ho17 ⟨v15_13, 1, v17_13, rfl, hv15_13, (⟨by decide, by decide⟩ : In 1 0 1), (by simp [gset, i32z])⟩ (fun q hq => ((gset_ne (own_ne hq (k := 1) (by decide) rfl)).trans rfl))
    have hT : TI g ad (gset (gset (gset th (200 + 1) (th (200 + 0))) (300 + 1) (th (300 + 0))) 1 1) f15 := TI.cast hT (by funext q; simp only [gset]; (repeat' split); all_goals first | rfl | omega | (subst_vars; rfl) | (exfalso; omega))
    obtain ⟨v0_18, v1_18, v2_18, v3_18, v4_18, v5_18, v6_18, v7_18, v8_18, hf19, hv1_18, hg1_18, hv2_18, hg2_18, hv6_18⟩ := hT.2.1 0 (by decide) 0 (by decide)
    refine pl_getN (v := .int v2_18) hx hb hts (fun w h => mT (inX3 w h)) hown hG.1 hP (hst.c (by decide) (by decide)) hf19 rfl 2 (by decide) (hG.2.1 _ wn_341) (fun _ h => h) rfl dX10_image_29 ?_
    have hcn : CIv (gset (gset (gset th (200 + 1) (th (200 + 0))) (300 + 1) (th (300 + 0))) 1 1) ∧ SBC th (gset (gset (gset th (200 + 1) (th (200 + 0))) (300 + 1) (th (300 + 0))) 1 1) := CIv.img hC rfl rfl rfl (fun q h1 h2 h3 => (by simp only [gset]; (repeat' split); all_goals first | rfl | omega))
    exact ret_i (ty := .int) hx hb hr hlocks (rfl) hP hD hS (Nat.le_of_ble_eq_true rfl) (Nat.le_of_ble_eq_true rfl) (⟨rfl, ⟨(gset (gset (gset th (200 + 1) (th (200 + 0))) (300 + 1) (th (300 + 0))) 1 1), hcn, hT⟩, hfr⟩) dX10_image_32
  ·
    have cc20 : v15_1.toInt = (0 : Int32).toInt := congrArg Int32.toInt c3
    have hb21 : In v15_1 0 0 := In.eq1 hv15_1 (⟨by decide, by decide⟩ : In 0 0 0) cc20 (by omega) (by omega)
    refine lv_iconst (v := (-1)) hx hb dX10_image_7 (by decide) ?_
    exact ret_i (ty := .int) hx hb hr hlocks (rfl) hP hD hS (Nat.le_of_ble_eq_true rfl) (Nat.le_of_ble_eq_true rfl) (⟨rfl, ⟨th, ⟨hC, (SBC.rf th)⟩, hT⟩, hfr⟩) dX10_image_8

abbrev rm_X10_back : Room := { frames := 2, cells := 0, slots := 0, locals := 221 }
abbrev po_X10_back (g : GG) (ad : Nat → Nat) (th : Nat → Int) (L : List Nat) (f : HP)  : Int32 → (List Nat × HP) → Prop := fun r u => u.1 = L ∧ (∃ th' : Nat → Int, (CIv th' ∧ SBC th th') ∧ TI g ad th' u.2) ∧ (∀ b, b ≠ (ad 16) → b ≠ (cr ad 0 0) → b ≠ (cr ad 0 1) → b ≠ (cr ad 0 2) → b ≠ (cr ad 0 3) → b ≠ (cr ad 0 4) → b ≠ (cr ad 0 5) → b ≠ (cr ad 0 6) → b ≠ (cr ad 0 7) → b ≠ (cr ad 0 8) → b ≠ (cr ad 0 9) → u.2 b = f b)
set_option maxHeartbeats 4000000 in
set_option maxRecDepth 100000 in
theorem s_X10_back (l : Launch) (g : GG) (ad : Nat → Nat) (th : Nat → Int) (L : List Nat) (f : HP) (sz : Nat)  (hst : ST ad L) (hT : TI g ad th f) (hC : CIv th) : MtI l g yX10_back cX10_back 1 (some .int) rm_X10_back [.ref (ad 0)] L f sz (po_X10_back g ad th L f ) := by
  refine MtI.of (by decide +kernel) (Nat.le_of_ble_eq_true rfl) ?_
  intro p e s m below meth c A hEn hP hD hS ls hl
  obtain ⟨hx, hb, hr, hml, hown, hlocks, hts, hG, hA, hE, hnm⟩ := hEn
  have hown : s.vm.findClass "RulerWord" = some m.cls := hown
  have hl : lv_has ls 1 [(0, .ref (ad 0))] := hl
  have hfr : (∀ b, b ≠ (ad 16) → b ≠ (cr ad 0 0) → b ≠ (cr ad 0 1) → b ≠ (cr ad 0 2) → b ≠ (cr ad 0 3) → b ≠ (cr ad 0 4) → b ≠ (cr ad 0 5) → b ≠ (cr ad 0 6) → b ≠ (cr ad 0 7) → b ≠ (cr ad 0 8) → b ≠ (cr ad 0 9) → f b = f b) := fun b z0_ z1_ z2_ z3_ z4_ z5_ z6_ z7_ z8_ z9_ z10_ => rfl
  refine lv_aload_n hx hb dX10_back_0 rfl (lv_at hl 0 rfl) ?_
  obtain ⟨v15_1, v16_1, v17_1, hf2, hv15_1, hv16_1, hg16_1⟩ := hT.1 0 (by decide)
  refine pl_get (v := .int v16_1) hx hb hts (fun w h => mT (inX10 w h)) hown hG.1 hP (hst.1 0 (by decide)) hf2 rfl 16 (by decide) (hts _ (mT wg_491)) (fun _ h => h) rfl dX10_back_1 ?_
  refine lv_if_ne (tgt := 9) hx hb dX10_back_4 (by decide) (fun c3 => ?_) (fun c3 => ?_)
  ·
    have oc0 : (0 : Int32).toInt = 0 := by decide
    have cc4 : v16_1.toInt ≠ (0 : Int32).toInt := i32_ne c3
    have hb5 : In v16_1 1 1 := In.ne1 hv16_1 (⟨by decide, by decide⟩ : In 0 0 0) cc4 (by omega) (by omega)
    refine lv_aload_n hx hb dX10_back_9 rfl (lv_at hl 0 rfl) ?_
    refine pl_get (v := .ref (cr ad 0 0)) hx hb hts (fun w h => mT (inX10 w h)) hown hG.1 hP (hst.1 0 (by decide)) hf2 rfl 8 (by decide) (hts _ (mT wg_483)) (fun _ h => h) rfl dX10_back_10 ?_
    refine lv_aload_n hx hb dX10_back_13 rfl (lv_at hl 0 rfl) ?_
    refine pl_get (v := .ref (cr ad 1 0)) hx hb hts (fun w h => mT (inX10 w h)) hown hG.1 hP (hst.1 0 (by decide)) hf2 rfl 9 (by decide) (hts _ (mT wg_484)) (fun _ h => h) rfl dX10_back_14 ?_
    obtain ⟨v0_6, v1_6, v2_6, v3_6, v4_6, v5_6, v6_6, v7_6, v8_6, hf7, hv1_6, hg1_6, hv2_6, hg2_6, hv6_6⟩ := hT.2.1 0 (by decide) 0 (by decide)
    refine call_v (run_VN (rm := rm_X3_copy) hx hb hml hown hts (s_X3_copy l g ad th _ _ _ 0 1 hst hT (by decide) (by decide) (by decide)) cV_X3_copy wn_1218 ⟨Nat.le_of_ble_eq_true rfl, Nat.le_of_ble_eq_true rfl⟩ hG hE hA hP hD hS (hst.c (by decide) (by decide)) hf7 rfl rfl hl.1 (As := [.ref (cr ad 1 0)]) (rest := []) rfl (Nat.le_of_ble_eq_true rfl) dX10_back_17 ⟨Nat.le_of_ble_eq_true rfl, Nat.le_of_ble_eq_true rfl⟩) hA hD hS (fun L9 f10 H locs hp11 hP hD hS => ?_)
    obtain ⟨eL12L, eL12T, eL12F⟩ := hp11
    have eL12L : L9 = L := eL12L
    rw [eL12L] at hP hD
    have hT : TI g ad (gset (gset th (200 + 0) (th (200 + 1))) (300 + 0) (th (300 + 1))) f10 := eL12T
    have eL12F : ∀ b, b ≠ (cr ad 0 0) → b ≠ (cr ad 0 1) → b ≠ (cr ad 0 2) → b ≠ (cr ad 0 3) → b ≠ (cr ad 0 4) → b ≠ (cr ad 0 5) → b ≠ (cr ad 0 6) → b ≠ (cr ad 0 7) → b ≠ (cr ad 0 8) → b ≠ (cr ad 0 9) → f10 b = f b := eL12F
    have hfr : (∀ b, b ≠ (ad 16) → b ≠ (cr ad 0 0) → b ≠ (cr ad 0 1) → b ≠ (cr ad 0 2) → b ≠ (cr ad 0 3) → b ≠ (cr ad 0 4) → b ≠ (cr ad 0 5) → b ≠ (cr ad 0 6) → b ≠ (cr ad 0 7) → b ≠ (cr ad 0 8) → b ≠ (cr ad 0 9) → f10 b = f b) := fun b z0_ z1_ z2_ z3_ z4_ z5_ z6_ z7_ z8_ z9_ z10_ => (eL12F b z1_ z2_ z3_ z4_ z5_ z6_ z7_ z8_ z9_ z10_).trans (hfr b z0_ z1_ z2_ z3_ z4_ z5_ z6_ z7_ z8_ z9_ z10_)
    refine lv_aload_n hx hb dX10_back_20 rfl (lv_at hl 0 rfl) ?_
    obtain ⟨v15_13, v16_13, v17_13, hf14, hv15_13, hv16_13, hg16_13⟩ := hT.1 0 (by decide)
    have hg16_13 : v16_13.toInt = th 1 := hg16_13
    refine pl_get (v := .ref (ad 16)) hx hb hts (fun w h => mT (inX10 w h)) hown hG.1 hP (hst.1 0 (by decide)) hf14 rfl 11 (by decide) (hts _ (mT wg_486)) (fun _ h => h) rfl dX10_back_21 ?_
    refine lv_iconst (v := 0) hx hb dX10_back_24 (by decide) ?_
    obtain ⟨v1_15, v2_15, hf16, hv1_15, hg1_15, hv2_15, hg2_15⟩ := hT.1 16 (by decide)
    have hg1_15 : v1_15.toInt = th 5 := hg1_15
    have hg2_15 : v2_15.toInt = th 6 := hg2_15
    refine pl_putN (ty := .int) (v := .int 0) (fs' := [.ref (ad 17), .int v1_15, .int 0]) hx hb hts (fun w h => mT (inX0 w h)) tyX0 tyX0_ok nmX0 hown hG.1 hP hD hS (hst.1 16 (by decide)) hf16 rfl 2 (by decide) (hG.2.1 _ wn_416) (fun _ h => h) rfl (by decide +kernel) (rfl) (rfl) (Nat.le_of_ble_eq_true rfl) rfl dX10_back_25 (fun H locs f17 hf18 ho19 hP hD hS => ?_)
    have hf20 := (ho19 (ad 0) (hst.ne (by decide) (by decide) (by decide))).trans hf14
    have hfr : (∀ b, b ≠ (ad 16) → b ≠ (cr ad 0 0) → b ≠ (cr ad 0 1) → b ≠ (cr ad 0 2) → b ≠ (cr ad 0 3) → b ≠ (cr ad 0 4) → b ≠ (cr ad 0 5) → b ≠ (cr ad 0 6) → b ≠ (cr ad 0 7) → b ≠ (cr ad 0 8) → b ≠ (cr ad 0 9) → f17 b = f b) := fun b z0_ z1_ z2_ z3_ z4_ z5_ z6_ z7_ z8_ z9_ z10_ => (ho19 b z0_).trans (hfr b z0_ z1_ z2_ z3_ z4_ z5_ z6_ z7_ z8_ z9_ z10_)
    refine lv_aload_n hx hb dX10_back_28 rfl (lv_at hl 0 rfl) ?_
    refine pl_get (v := .ref (cr ad 0 0)) hx hb hts (fun w h => mT (inX10 w h)) hown hG.1 hP (hst.1 0 (by decide)) hf20 rfl 8 (by decide) (hts _ (mT wg_483)) (fun _ h => h) rfl dX10_back_29 ?_
    have hT := TI.updAG (th' := (gset (gset (gset th (200 + 0) (th (200 + 1))) (300 + 0) (th (300 + 1))) 6 (0))) hT hst (k := 16) (by decide) hf18 ho19 ⟨v1_15, 0, rfl, hv1_15, (by rw [hg1_15]; simp [gset]), (⟨by decide, by decide⟩ : In 0 0 20), (by simp [gset, i32z])⟩ (fun q hq => ((gset_ne (own_ne hq (k := 6) (by decide) rfl)).trans rfl))
    have hT : TI g ad (gset (gset (gset th (200 + 0) (th (200 + 1))) (300 + 0) (th (300 + 1))) 6 0) f17 := TI.cast hT (by funext q; simp only [gset]; (repeat' split); all_goals first | rfl | omega | (subst_vars; rfl) | (exfalso; omega))
    obtain ⟨v0_21, v1_21, v2_21, v3_21, v4_21, v5_21, v6_21, v7_21, v8_21, hf22, hv1_21, hg1_21, hv2_21, hg2_21, hv6_21⟩ := hT.2.1 0 (by decide) 0 (by decide)
    refine pl_getN (v := .int v2_21) hx hb hts (fun w h => mT (inX3 w h)) hown hG.1 hP (hst.c (by decide) (by decide)) hf22 rfl 2 (by decide) (hG.2.1 _ wn_341) (fun _ h => h) rfl dX10_back_32 ?_
    have hi1 : th 1 = 1 := by obtain ⟨q1, q2⟩ := hb5; have := hg16_1; omega
    have hcn : CIv (gset (gset (gset th (200 + 0) (th (200 + 1))) (300 + 0) (th (300 + 1))) 6 0) ∧ SBC th (gset (gset (gset th (200 + 0) (th (200 + 1))) (300 + 0) (th (300 + 1))) 6 0) := CIv.back hC hi1 rfl rfl rfl (fun q h1 h2 h3 => (by simp only [gset]; (repeat' split); all_goals first | rfl | omega))
    exact ret_i (ty := .int) hx hb hr hlocks (rfl) hP hD hS (Nat.le_of_ble_eq_true rfl) (Nat.le_of_ble_eq_true rfl) (⟨rfl, ⟨(gset (gset (gset th (200 + 0) (th (200 + 1))) (300 + 0) (th (300 + 1))) 6 0), hcn, hT⟩, hfr⟩) dX10_back_35
  ·
    have oc0 : (0 : Int32).toInt = 0 := by decide
    have cc23 : v16_1.toInt = (0 : Int32).toInt := congrArg Int32.toInt c3
    have hb24 : In v16_1 0 0 := In.eq1 hv16_1 (⟨by decide, by decide⟩ : In 0 0 0) cc23 (by omega) (by omega)
    refine lv_iconst (v := (-1)) hx hb dX10_back_7 (by decide) ?_
    exact ret_i (ty := .int) hx hb hr hlocks (rfl) hP hD hS (Nat.le_of_ble_eq_true rfl) (Nat.le_of_ble_eq_true rfl) (⟨rfl, ⟨th, ⟨hC, (SBC.rf th)⟩, hT⟩, hfr⟩) dX10_back_8

abbrev rm_X10_playTrial_co_fr : Room := { frames := 5, cells := 0, slots := 0, locals := 127 }
abbrev po_X10_playTrial_co_fr (g : GG) (ad : Nat → Nat) (th : Nat → Int) (L : List Nat) (f : HP) (z3 : Int64) : (List Nat × HP) → Prop := fun u => u.1 = L ∧ (∃ zf zz : Int, (0 ≤ zz ∧ zz ≤ 6 * rnd (th 2)) ∧ TI g ad (gset (gset th (200 + 2) zf) (300 + 2) zz) u.2) ∧ (∀ b, b ≠ (ad 15) → b ≠ (cr ad 2 0) → b ≠ (cr ad 2 2) → b ≠ (cr ad 2 3) → b ≠ (cr ad 2 4) → b ≠ (cr ad 2 5) → b ≠ (cr ad 2 6) → b ≠ (cr ad 2 7) → b ≠ (cr ad 2 8) → b ≠ (cr ad 2 9) → u.2 b = f b)
set_option maxHeartbeats 4000000 in
set_option maxRecDepth 100000 in
theorem s_X10_playTrial_co_fr (l : Launch) (g : GG) (ad : Nat → Nat) (th : Nat → Int) (L : List Nat) (f : HP) (sz : Nat) (z3 : Int64) (hst : ST ad L) (hT : TI g ad th f)  : MtV l g yX10_playTrial cX10_playTrial 6 rm_X10_playTrial_co_fr [.ref (ad 0), .ref (ad 6), .ref (ad 15), .long z3] L f sz (po_X10_playTrial_co_fr g ad th L f z3) := by
  refine MtV.of (by decide +kernel) (Nat.le_of_ble_eq_true rfl) ?_
  intro p e s m below meth c A hEn hP hD hS ls hl
  obtain ⟨hx, hb, hr, hml, hown, hlocks, hts, hG, hA, hE, hnm⟩ := hEn
  have hown : s.vm.findClass "RulerWord" = some m.cls := hown
  have hl : lv_has ls 6 [(0, .ref (ad 0)), (1, .ref (ad 6)), (2, .ref (ad 15)), (3, .long z3)] := hl
  have hfr : (∀ b, b ≠ (ad 15) → b ≠ (cr ad 2 0) → b ≠ (cr ad 2 2) → b ≠ (cr ad 2 3) → b ≠ (cr ad 2 4) → b ≠ (cr ad 2 5) → b ≠ (cr ad 2 6) → b ≠ (cr ad 2 7) → b ≠ (cr ad 2 8) → b ≠ (cr ad 2 9) → f b = f b) := fun b z0_ z1_ z2_ z3_ z4_ z5_ z6_ z7_ z8_ z9_ => rfl
  refine lv_aload_n hx hb dX10_playTrial_0 rfl (lv_at hl 0 rfl) ?_
  obtain ⟨v15_1, v16_1, v17_1, hf2, hv15_1, hv16_1, hg16_1⟩ := hT.1 0 (by decide)
  refine pl_get (v := .ref (cr ad 2 0)) hx hb hts (fun w h => mT (inX10 w h)) hown hG.1 hP (hst.1 0 (by decide)) hf2 rfl 10 (by decide) (hts _ (mT wg_485)) (fun _ h => h) rfl dX10_playTrial_1 ?_
  refine lv_aload_n hx hb dX10_playTrial_4 rfl (lv_at hl 0 rfl) ?_
  refine pl_get (v := .ref (cr ad 0 0)) hx hb hts (fun w h => mT (inX10 w h)) hown hG.1 hP (hst.1 0 (by decide)) hf2 rfl 8 (by decide) (hts _ (mT wg_483)) (fun _ h => h) rfl dX10_playTrial_5 ?_
  obtain ⟨v0_3, v1_3, v2_3, v3_3, v4_3, v5_3, v6_3, v7_3, v8_3, hf4, hv1_3, hg1_3, hv2_3, hg2_3, hv6_3⟩ := hT.2.1 0 (by decide) 0 (by decide)
  refine pl_getN (v := .int v0_3) hx hb hts (fun w h => mT (inX3 w h)) hown hG.1 hP (hst.c (by decide) (by decide)) hf4 rfl 0 (by decide) (hG.2.1 _ wn_336) (fun _ h => h) rfl dX10_playTrial_8 ?_
  refine lv_aload_n hx hb dX10_playTrial_11 rfl (lv_at hl 0 rfl) ?_
  refine pl_get (v := .ref (cr ad 0 0)) hx hb hts (fun w h => mT (inX10 w h)) hown hG.1 hP (hst.1 0 (by decide)) hf2 rfl 8 (by decide) (hts _ (mT wg_483)) (fun _ h => h) rfl dX10_playTrial_12 ?_
  refine pl_getN (v := .int v1_3) hx hb hts (fun w h => mT (inX3 w h)) hown hG.1 hP (hst.c (by decide) (by decide)) hf4 rfl 1 (by decide) (hG.2.1 _ wn_339) (fun _ h => h) rfl dX10_playTrial_15 ?_
  refine lv_lload_n hx hb dX10_playTrial_18 rfl (lv_at hl 3 rfl) ?_
  obtain ⟨v0_5, v1_5, v2_5, v3_5, v4_5, v5_5, v6_5, v7_5, v8_5, hf6, hv1_5, hg1_5, hv2_5, hg2_5, hv6_5⟩ := hT.2.1 2 (by decide) 0 (by decide)
  refine call_v (run_VN (rm := rm_X3_begin) hx hb hml hown hts (s_X3_begin l g ad th _ _ _ 2 v0_3 v1_3 z3 hst hT (by decide) hv1_3) cV_X3_begin wn_714 ⟨Nat.le_of_ble_eq_true rfl, Nat.le_of_ble_eq_true rfl⟩ hG hE hA hP hD hS (hst.c (by decide) (by decide)) hf6 rfl rfl hl.1 (As := [.int v0_3, .int v1_3, .long z3]) (rest := []) rfl (Nat.le_of_ble_eq_true rfl) dX10_playTrial_19 ⟨Nat.le_of_ble_eq_true rfl, Nat.le_of_ble_eq_true rfl⟩) hA hD hS (fun L8 f9 H locs hp10 hP hD hS => ?_)
  obtain ⟨eL11L, eL11T, eL11F⟩ := hp10
  have eL11L : L8 = L := eL11L
  rw [eL11L] at hP hD
  have hT : TI g ad (gset (gset th (200 + 2) v1_3.toInt) (300 + 2) 0) f9 := eL11T
  have eL11F : ∀ b, b ≠ (cr ad 2 0) → f9 b = f b := eL11F
  have hfr : (∀ b, b ≠ (ad 15) → b ≠ (cr ad 2 0) → b ≠ (cr ad 2 2) → b ≠ (cr ad 2 3) → b ≠ (cr ad 2 4) → b ≠ (cr ad 2 5) → b ≠ (cr ad 2 6) → b ≠ (cr ad 2 7) → b ≠ (cr ad 2 8) → b ≠ (cr ad 2 9) → f9 b = f b) := fun b z0_ z1_ z2_ z3_ z4_ z5_ z6_ z7_ z8_ z9_ => (eL11F b z1_).trans (hfr b z0_ z1_ z2_ z3_ z4_ z5_ z6_ z7_ z8_ z9_)
  refine lv_iconst (v := 0) hx hb dX10_playTrial_22 (by decide) ?_
  refine lv_istore (lv' := [(5, .int 0), (0, .ref (ad 0)), (1, .ref (ad 6)), (2, .ref (ad 15)), (3, .long z3)]) hx hb dX10_playTrial_23 hl (by decide) rfl (fun ls hl => ?_)
  have hJ25 : ∀ (k25 : Nat) (zg25_zf : Int) (zg25_zq : Int) (y25_l5 : Int32) (f_25 : HP) (H : Heap) (locs : List Loc) (ls : Array Slot), (0 ≤ zg25_zq ∧ zg25_zq ≤ 6 * rnd (th 2)) → In y25_l5 0 2147483647 → va_P g.1 vwCl (va_pl L f_25) H → va_D A (va_pl L f_25) → va_S A s.heap H locs → TI g ad (gset (gset th (200 + 2) zg25_zf) (300 + 2) zg25_zq) f_25 → (∀ b, b ≠ (ad 15) → b ≠ (cr ad 2 0) → b ≠ (cr ad 2 2) → b ≠ (cr ad 2 3) → b ≠ (cr ad 2 4) → b ≠ (cr ad 2 5) → b ≠ (cr ad 2 6) → b ≠ (cr ad 2 7) → b ≠ (cr ad 2 8) → b ≠ (cr ad 2 9) → f_25 b = f b) → lv_has ls 6 [(0, .ref (ad 0)), (1, .ref (ad 6)), (2, .ref (ad 15)), (3, .long z3), (5, .int y25_l5)] → 2147483647 - y25_l5.toInt < ((k25 : Nat) : Int) → W p l e rm_X10_playTrial_co_fr s m [.ref (ad 0), .ref (ad 6), .ref (ad 15), .long z3].toArray below meth c H locs 0 0 (MQ below (va_Qv (po_X10_playTrial_co_fr g ad th L f z3) (PstB g A) A) [.ref (ad 0), .ref (ad 6), .ref (ad 15), .long z3].toArray s rm_X10_playTrial_co_fr.cells rm_X10_playTrial_co_fr.slots A) (F0 m 25 ls []) := by
    intro k25
    induction k25 with
    | zero =>
      intro zg25_zf zg25_zq y25_l5 f_25 H locs ls hzg25 hy25_l5 hP hD hS hT hfr hl hmz25
      exact ms0 hy25_l5 hmz25
    | succ k25 ih25 =>
      intro zg25_zf zg25_zq y25_l5 f_25 H locs ls hzg25 hy25_l5 hP hD hS hT hfr hl hmz25
      refine lv_iload hx hb dX10_playTrial_25 (lv_at hl 4 rfl) ?_
      refine lv_aload_n hx hb dX10_playTrial_27 rfl (lv_at hl 1 rfl) ?_
      obtain ⟨v0_12, v1_12, v2_12, v3_12, v4_12, v5_12, v6_12, v7_12, hf13, hv0_12, hg0_12, hv1_12, hg1_12, hv2_12, hv3_12, hv5_12, hv6_12, hrel0_12⟩ := hT.1 6 (by decide)
      have hg0_12 : v0_12.toInt = th 2 := hg0_12
      have hg1_12 : v1_12.toInt = th 3 := hg1_12
      refine call_i (run_VN (rm := rm_X2_allRounds_co) hx hb hml hown hts (s_X2_allRounds_co l g ad (gset (gset th (200 + 2) zg25_zf) (300 + 2) zg25_zq) _ _ _  hst hT ) cV_X2_allRounds wn_755 ⟨Nat.le_of_ble_eq_true rfl, Nat.le_of_ble_eq_true rfl⟩ hG hE hA hP hD hS (hst.1 6 (by decide)) hf13 rfl rfl hl.1 (As := []) (rest := [.int y25_l5]) rfl (Nat.le_of_ble_eq_true rfl) dX10_playTrial_28 ⟨Nat.le_of_ble_eq_true rfl, Nat.le_of_ble_eq_true rfl⟩) hA hD hS (fun r14 L15 f16 H locs hp17 hP hD hS => ?_)
      obtain ⟨eL18L, eL18T⟩ := hp17
      have eL18L : L15 = L := eL18L
      have eL18T : f16 = f_25 := eL18T
      rw [eL18L, eL18T] at hP hD
      refine lv_icmp_ge (tgt := 49) hx hb dX10_playTrial_31 (by decide) (fun c19 => ?_) (fun c19 => ?_)
      ·
        have cc20 : r14.toInt ≤ y25_l5.toInt := i32_le.mp c19
        exact ret_v hx hb hr hlocks hP hD hS (Nat.le_of_ble_eq_true rfl) (Nat.le_of_ble_eq_true rfl) (⟨rfl, ⟨zg25_zf, zg25_zq, hzg25, TI.cast hT (by funext q; simp only [gset]; (repeat' split); all_goals first | rfl | omega | (subst_vars; rfl) | (exfalso; omega))⟩, hfr⟩) dX10_playTrial_49
      ·
        have cc21 : y25_l5.toInt < r14.toInt := i32_nle c19
        have hb22 : In y25_l5 0 2147483646 := In.lt1 hy25_l5 (In.full r14) cc21 (by omega) (by omega)
        have hb23 : In r14 1 2147483647 := In.lt2 hy25_l5 (In.full r14) cc21 (by omega) (by omega)
        refine lv_aload_n hx hb dX10_playTrial_34 rfl (lv_at hl 0 rfl) ?_
        obtain ⟨v15_24, v16_24, v17_24, hf25, hv15_24, hv16_24, hg16_24⟩ := hT.1 0 (by decide)
        have hg16_24 : v16_24.toInt = th 1 := hg16_24
        refine pl_get (v := .ref (cr ad 2 0)) hx hb hts (fun w h => mT (inX10 w h)) hown hG.1 hP (hst.1 0 (by decide)) hf25 rfl 10 (by decide) (hts _ (mT wg_485)) (fun _ h => h) rfl dX10_playTrial_35 ?_
        refine lv_aload_n hx hb dX10_playTrial_38 rfl (lv_at hl 1 rfl) ?_
        refine lv_aload_n hx hb dX10_playTrial_39 rfl (lv_at hl 2 rfl) ?_
        obtain ⟨v0_26, v1_26, v2_26, v3_26, v4_26, v5_26, v6_26, v7_26, v8_26, hf27, hv1_26, hg1_26, hv2_26, hg2_26, hv6_26⟩ := hT.2.1 2 (by decide) 0 (by decide)
        refine call_v (run_VN (rm := rm_X3_play_co_fr) hx hb hml hown hts (s_X3_play_co_fr l g ad (gset (gset th (200 + 2) zg25_zf) (300 + 2) zg25_zq) _ _ _ 2 hst hT (by decide) hzg25.1 hzg25.2) cV_X3_play wn_771 ⟨Nat.le_of_ble_eq_true rfl, Nat.le_of_ble_eq_true rfl⟩ hG hE hA hP hD hS (hst.c (by decide) (by decide)) hf27 rfl rfl hl.1 (As := [.ref (ad 6), .ref (ad 15)]) (rest := []) rfl (Nat.le_of_ble_eq_true rfl) dX10_playTrial_40 ⟨Nat.le_of_ble_eq_true rfl, Nat.le_of_ble_eq_true rfl⟩) hA hD hS (fun L29 f30 H locs hp31 hP hD hS => ?_)
        obtain ⟨eL32L, eL32T, eL32F⟩ := hp31
        have eL32L : L29 = L := eL32L
        rw [eL32L] at hP hD
        obtain ⟨zz33, hzz33, eL32T⟩ := eL32T
        have hT : TI g ad (gset (gset (gset th (200 + 2) zg25_zf) (300 + 2) zg25_zq) (300 + 2) zz33) f30 := eL32T
        have hT : TI g ad (gset (gset th (200 + 2) zg25_zf) (300 + 2) zz33) f30 := TI.cast hT (by funext q; simp only [gset]; (repeat' split); all_goals first | rfl | omega | (subst_vars; rfl) | (exfalso; omega))
        have eL32F : ∀ b, b ≠ (ad 15) → b ≠ (cr ad 2 0) → b ≠ (cr ad 2 2) → b ≠ (cr ad 2 3) → b ≠ (cr ad 2 4) → b ≠ (cr ad 2 5) → b ≠ (cr ad 2 6) → b ≠ (cr ad 2 7) → b ≠ (cr ad 2 8) → b ≠ (cr ad 2 9) → f30 b = f_25 b := eL32F
        have hfr : (∀ b, b ≠ (ad 15) → b ≠ (cr ad 2 0) → b ≠ (cr ad 2 2) → b ≠ (cr ad 2 3) → b ≠ (cr ad 2 4) → b ≠ (cr ad 2 5) → b ≠ (cr ad 2 6) → b ≠ (cr ad 2 7) → b ≠ (cr ad 2 8) → b ≠ (cr ad 2 9) → f30 b = f b) := fun b z0_ z1_ z2_ z3_ z4_ z5_ z6_ z7_ z8_ z9_ => (eL32F b z0_ z1_ z2_ z3_ z4_ z5_ z6_ z7_ z8_ z9_).trans (hfr b z0_ z1_ z2_ z3_ z4_ z5_ z6_ z7_ z8_ z9_)
        obtain ⟨x34, ex34⟩ : ∃ y : Int32, y = y25_l5 + 1 := ⟨_, rfl⟩
        have hb35 : In x34 1 2147483647 := ex34 ▸ In.add hb22 (⟨by decide, by decide⟩ : In 1 1 1) (by decide) (by decide) (by decide) (by decide)
        have et36 : x34.toInt = y25_l5.toInt + 1 := In.adde ex34 hb22 (k := 1) (by decide) (by decide) (by decide)
        refine lv_iinc (v := x34) (lv' := [(5, .int x34), (0, .ref (ad 0)), (1, .ref (ad 6)), (2, .ref (ad 15)), (3, .long z3)]) hx hb dX10_playTrial_43 hl (k := 4) rfl (by rw [ex34]; rfl) (by decide) rfl (fun ls hl => ?_)
        refine lv_goto (tgt := 25) hx hb dX10_playTrial_46 (by decide) ?_
        exact ih25 zg25_zf zz33 x34 _ _ _ _ hzz33 (In.mono hb35 (by decide) (by decide)) hP hD hS (TI.cast hT (by funext q; simp only [gset]; (repeat' split); all_goals first | rfl | omega | (subst_vars; rfl) | (exfalso; omega))) hfr (lv_sub hl [1, 2, 3, 4, 0] rfl) (msu et36 (by decide) hmz25)
  exact hJ25 ((2147483647 - (0 : Int32).toInt).toNat + 1) v1_3.toInt (0 : Int) 0 _ _ _ _ (⟨by decide, by rcases rnd_c (th 2) with q | q <;> rw [q] <;> decide⟩) (⟨by decide, by decide⟩ : In 0 0 2147483647) hP hD hS (TI.cast hT (by funext q; simp only [gset]; (repeat' split); all_goals first | rfl | omega | (subst_vars; rfl) | (exfalso; omega))) hfr (lv_sub hl [1, 2, 3, 4, 0] rfl) (msI _)

abbrev rm_X10_playTrial_co_ch : Room := { frames := 5, cells := 0, slots := 0, locals := 127 }
abbrev po_X10_playTrial_co_ch (g : GG) (ad : Nat → Nat) (th : Nat → Int) (L : List Nat) (f : HP) (z3 : Int64) : (List Nat × HP) → Prop := fun u => u.1 = L ∧ (∃ zf zz : Int, (0 ≤ zz ∧ zz ≤ 6 * rnd (th 2)) ∧ TI g ad (gset (gset th (200 + 2) zf) (300 + 2) zz) u.2) ∧ (∀ b, b ≠ (ad 14) → b ≠ (cr ad 2 0) → b ≠ (cr ad 2 2) → b ≠ (cr ad 2 3) → b ≠ (cr ad 2 4) → b ≠ (cr ad 2 5) → b ≠ (cr ad 2 6) → b ≠ (cr ad 2 7) → b ≠ (cr ad 2 8) → b ≠ (cr ad 2 9) → u.2 b = f b)
set_option maxHeartbeats 4000000 in
set_option maxRecDepth 100000 in
theorem s_X10_playTrial_co_ch (l : Launch) (g : GG) (ad : Nat → Nat) (th : Nat → Int) (L : List Nat) (f : HP) (sz : Nat) (z3 : Int64) (hst : ST ad L) (hT : TI g ad th f)  : MtV l g yX10_playTrial cX10_playTrial 6 rm_X10_playTrial_co_ch [.ref (ad 0), .ref (ad 6), .ref (ad 14), .long z3] L f sz (po_X10_playTrial_co_ch g ad th L f z3) := by
  refine MtV.of (by decide +kernel) (Nat.le_of_ble_eq_true rfl) ?_
  intro p e s m below meth c A hEn hP hD hS ls hl
  obtain ⟨hx, hb, hr, hml, hown, hlocks, hts, hG, hA, hE, hnm⟩ := hEn
  have hown : s.vm.findClass "RulerWord" = some m.cls := hown
  have hl : lv_has ls 6 [(0, .ref (ad 0)), (1, .ref (ad 6)), (2, .ref (ad 14)), (3, .long z3)] := hl
  have hfr : (∀ b, b ≠ (ad 14) → b ≠ (cr ad 2 0) → b ≠ (cr ad 2 2) → b ≠ (cr ad 2 3) → b ≠ (cr ad 2 4) → b ≠ (cr ad 2 5) → b ≠ (cr ad 2 6) → b ≠ (cr ad 2 7) → b ≠ (cr ad 2 8) → b ≠ (cr ad 2 9) → f b = f b) := fun b z0_ z1_ z2_ z3_ z4_ z5_ z6_ z7_ z8_ z9_ => rfl
  refine lv_aload_n hx hb dX10_playTrial_0 rfl (lv_at hl 0 rfl) ?_
  obtain ⟨v15_1, v16_1, v17_1, hf2, hv15_1, hv16_1, hg16_1⟩ := hT.1 0 (by decide)
  refine pl_get (v := .ref (cr ad 2 0)) hx hb hts (fun w h => mT (inX10 w h)) hown hG.1 hP (hst.1 0 (by decide)) hf2 rfl 10 (by decide) (hts _ (mT wg_485)) (fun _ h => h) rfl dX10_playTrial_1 ?_
  refine lv_aload_n hx hb dX10_playTrial_4 rfl (lv_at hl 0 rfl) ?_
  refine pl_get (v := .ref (cr ad 0 0)) hx hb hts (fun w h => mT (inX10 w h)) hown hG.1 hP (hst.1 0 (by decide)) hf2 rfl 8 (by decide) (hts _ (mT wg_483)) (fun _ h => h) rfl dX10_playTrial_5 ?_
  obtain ⟨v0_3, v1_3, v2_3, v3_3, v4_3, v5_3, v6_3, v7_3, v8_3, hf4, hv1_3, hg1_3, hv2_3, hg2_3, hv6_3⟩ := hT.2.1 0 (by decide) 0 (by decide)
  refine pl_getN (v := .int v0_3) hx hb hts (fun w h => mT (inX3 w h)) hown hG.1 hP (hst.c (by decide) (by decide)) hf4 rfl 0 (by decide) (hG.2.1 _ wn_336) (fun _ h => h) rfl dX10_playTrial_8 ?_
  refine lv_aload_n hx hb dX10_playTrial_11 rfl (lv_at hl 0 rfl) ?_
  refine pl_get (v := .ref (cr ad 0 0)) hx hb hts (fun w h => mT (inX10 w h)) hown hG.1 hP (hst.1 0 (by decide)) hf2 rfl 8 (by decide) (hts _ (mT wg_483)) (fun _ h => h) rfl dX10_playTrial_12 ?_
  refine pl_getN (v := .int v1_3) hx hb hts (fun w h => mT (inX3 w h)) hown hG.1 hP (hst.c (by decide) (by decide)) hf4 rfl 1 (by decide) (hG.2.1 _ wn_339) (fun _ h => h) rfl dX10_playTrial_15 ?_
  refine lv_lload_n hx hb dX10_playTrial_18 rfl (lv_at hl 3 rfl) ?_
  obtain ⟨v0_5, v1_5, v2_5, v3_5, v4_5, v5_5, v6_5, v7_5, v8_5, hf6, hv1_5, hg1_5, hv2_5, hg2_5, hv6_5⟩ := hT.2.1 2 (by decide) 0 (by decide)
  refine call_v (run_VN (rm := rm_X3_begin) hx hb hml hown hts (s_X3_begin l g ad th _ _ _ 2 v0_3 v1_3 z3 hst hT (by decide) hv1_3) cV_X3_begin wn_714 ⟨Nat.le_of_ble_eq_true rfl, Nat.le_of_ble_eq_true rfl⟩ hG hE hA hP hD hS (hst.c (by decide) (by decide)) hf6 rfl rfl hl.1 (As := [.int v0_3, .int v1_3, .long z3]) (rest := []) rfl (Nat.le_of_ble_eq_true rfl) dX10_playTrial_19 ⟨Nat.le_of_ble_eq_true rfl, Nat.le_of_ble_eq_true rfl⟩) hA hD hS (fun L8 f9 H locs hp10 hP hD hS => ?_)
  obtain ⟨eL11L, eL11T, eL11F⟩ := hp10
  have eL11L : L8 = L := eL11L
  rw [eL11L] at hP hD
  have hT : TI g ad (gset (gset th (200 + 2) v1_3.toInt) (300 + 2) 0) f9 := eL11T
  have eL11F : ∀ b, b ≠ (cr ad 2 0) → f9 b = f b := eL11F
  have hfr : (∀ b, b ≠ (ad 14) → b ≠ (cr ad 2 0) → b ≠ (cr ad 2 2) → b ≠ (cr ad 2 3) → b ≠ (cr ad 2 4) → b ≠ (cr ad 2 5) → b ≠ (cr ad 2 6) → b ≠ (cr ad 2 7) → b ≠ (cr ad 2 8) → b ≠ (cr ad 2 9) → f9 b = f b) := fun b z0_ z1_ z2_ z3_ z4_ z5_ z6_ z7_ z8_ z9_ => (eL11F b z1_).trans (hfr b z0_ z1_ z2_ z3_ z4_ z5_ z6_ z7_ z8_ z9_)
  refine lv_iconst (v := 0) hx hb dX10_playTrial_22 (by decide) ?_
  refine lv_istore (lv' := [(5, .int 0), (0, .ref (ad 0)), (1, .ref (ad 6)), (2, .ref (ad 14)), (3, .long z3)]) hx hb dX10_playTrial_23 hl (by decide) rfl (fun ls hl => ?_)
  have hJ25 : ∀ (k25 : Nat) (zg25_zf : Int) (zg25_zq : Int) (y25_l5 : Int32) (f_25 : HP) (H : Heap) (locs : List Loc) (ls : Array Slot), (0 ≤ zg25_zq ∧ zg25_zq ≤ 6 * rnd (th 2)) → In y25_l5 0 2147483647 → va_P g.1 vwCl (va_pl L f_25) H → va_D A (va_pl L f_25) → va_S A s.heap H locs → TI g ad (gset (gset th (200 + 2) zg25_zf) (300 + 2) zg25_zq) f_25 → (∀ b, b ≠ (ad 14) → b ≠ (cr ad 2 0) → b ≠ (cr ad 2 2) → b ≠ (cr ad 2 3) → b ≠ (cr ad 2 4) → b ≠ (cr ad 2 5) → b ≠ (cr ad 2 6) → b ≠ (cr ad 2 7) → b ≠ (cr ad 2 8) → b ≠ (cr ad 2 9) → f_25 b = f b) → lv_has ls 6 [(0, .ref (ad 0)), (1, .ref (ad 6)), (2, .ref (ad 14)), (3, .long z3), (5, .int y25_l5)] → 2147483647 - y25_l5.toInt < ((k25 : Nat) : Int) → W p l e rm_X10_playTrial_co_ch s m [.ref (ad 0), .ref (ad 6), .ref (ad 14), .long z3].toArray below meth c H locs 0 0 (MQ below (va_Qv (po_X10_playTrial_co_ch g ad th L f z3) (PstB g A) A) [.ref (ad 0), .ref (ad 6), .ref (ad 14), .long z3].toArray s rm_X10_playTrial_co_ch.cells rm_X10_playTrial_co_ch.slots A) (F0 m 25 ls []) := by
    intro k25
    induction k25 with
    | zero =>
      intro zg25_zf zg25_zq y25_l5 f_25 H locs ls hzg25 hy25_l5 hP hD hS hT hfr hl hmz25
      exact ms0 hy25_l5 hmz25
    | succ k25 ih25 =>
      intro zg25_zf zg25_zq y25_l5 f_25 H locs ls hzg25 hy25_l5 hP hD hS hT hfr hl hmz25
      refine lv_iload hx hb dX10_playTrial_25 (lv_at hl 4 rfl) ?_
      refine lv_aload_n hx hb dX10_playTrial_27 rfl (lv_at hl 1 rfl) ?_
      obtain ⟨v0_12, v1_12, v2_12, v3_12, v4_12, v5_12, v6_12, v7_12, hf13, hv0_12, hg0_12, hv1_12, hg1_12, hv2_12, hv3_12, hv5_12, hv6_12, hrel0_12⟩ := hT.1 6 (by decide)
      have hg0_12 : v0_12.toInt = th 2 := hg0_12
      have hg1_12 : v1_12.toInt = th 3 := hg1_12
      refine call_i (run_VN (rm := rm_X2_allRounds_co) hx hb hml hown hts (s_X2_allRounds_co l g ad (gset (gset th (200 + 2) zg25_zf) (300 + 2) zg25_zq) _ _ _  hst hT ) cV_X2_allRounds wn_755 ⟨Nat.le_of_ble_eq_true rfl, Nat.le_of_ble_eq_true rfl⟩ hG hE hA hP hD hS (hst.1 6 (by decide)) hf13 rfl rfl hl.1 (As := []) (rest := [.int y25_l5]) rfl (Nat.le_of_ble_eq_true rfl) dX10_playTrial_28 ⟨Nat.le_of_ble_eq_true rfl, Nat.le_of_ble_eq_true rfl⟩) hA hD hS (fun r14 L15 f16 H locs hp17 hP hD hS => ?_)
      obtain ⟨eL18L, eL18T⟩ := hp17
      have eL18L : L15 = L := eL18L
      have eL18T : f16 = f_25 := eL18T
      rw [eL18L, eL18T] at hP hD
      refine lv_icmp_ge (tgt := 49) hx hb dX10_playTrial_31 (by decide) (fun c19 => ?_) (fun c19 => ?_)
      ·
        have cc20 : r14.toInt ≤ y25_l5.toInt := i32_le.mp c19
        exact ret_v hx hb hr hlocks hP hD hS (Nat.le_of_ble_eq_true rfl) (Nat.le_of_ble_eq_true rfl) (⟨rfl, ⟨zg25_zf, zg25_zq, hzg25, TI.cast hT (by funext q; simp only [gset]; (repeat' split); all_goals first | rfl | omega | (subst_vars; rfl) | (exfalso; omega))⟩, hfr⟩) dX10_playTrial_49
      ·
        have cc21 : y25_l5.toInt < r14.toInt := i32_nle c19
        have hb22 : In y25_l5 0 2147483646 := In.lt1 hy25_l5 (In.full r14) cc21 (by omega) (by omega)
        have hb23 : In r14 1 2147483647 := In.lt2 hy25_l5 (In.full r14) cc21 (by omega) (by omega)
        refine lv_aload_n hx hb dX10_playTrial_34 rfl (lv_at hl 0 rfl) ?_
        obtain ⟨v15_24, v16_24, v17_24, hf25, hv15_24, hv16_24, hg16_24⟩ := hT.1 0 (by decide)
        have hg16_24 : v16_24.toInt = th 1 := hg16_24
        refine pl_get (v := .ref (cr ad 2 0)) hx hb hts (fun w h => mT (inX10 w h)) hown hG.1 hP (hst.1 0 (by decide)) hf25 rfl 10 (by decide) (hts _ (mT wg_485)) (fun _ h => h) rfl dX10_playTrial_35 ?_
        refine lv_aload_n hx hb dX10_playTrial_38 rfl (lv_at hl 1 rfl) ?_
        refine lv_aload_n hx hb dX10_playTrial_39 rfl (lv_at hl 2 rfl) ?_
        obtain ⟨v0_26, v1_26, v2_26, v3_26, v4_26, v5_26, v6_26, v7_26, v8_26, hf27, hv1_26, hg1_26, hv2_26, hg2_26, hv6_26⟩ := hT.2.1 2 (by decide) 0 (by decide)
        refine call_v (run_VN (rm := rm_X3_play_co_ch) hx hb hml hown hts (s_X3_play_co_ch l g ad (gset (gset th (200 + 2) zg25_zf) (300 + 2) zg25_zq) _ _ _ 2 hst hT (by decide) hzg25.1 hzg25.2) cV_X3_play wn_771 ⟨Nat.le_of_ble_eq_true rfl, Nat.le_of_ble_eq_true rfl⟩ hG hE hA hP hD hS (hst.c (by decide) (by decide)) hf27 rfl rfl hl.1 (As := [.ref (ad 6), .ref (ad 14)]) (rest := []) rfl (Nat.le_of_ble_eq_true rfl) dX10_playTrial_40 ⟨Nat.le_of_ble_eq_true rfl, Nat.le_of_ble_eq_true rfl⟩) hA hD hS (fun L29 f30 H locs hp31 hP hD hS => ?_)
        obtain ⟨eL32L, eL32T, eL32F⟩ := hp31
        have eL32L : L29 = L := eL32L
        rw [eL32L] at hP hD
        obtain ⟨zz33, hzz33, eL32T⟩ := eL32T
        have hT : TI g ad (gset (gset (gset th (200 + 2) zg25_zf) (300 + 2) zg25_zq) (300 + 2) zz33) f30 := eL32T
        have hT : TI g ad (gset (gset th (200 + 2) zg25_zf) (300 + 2) zz33) f30 := TI.cast hT (by funext q; simp only [gset]; (repeat' split); all_goals first | rfl | omega | (subst_vars; rfl) | (exfalso; omega))
        have eL32F : ∀ b, b ≠ (ad 14) → b ≠ (cr ad 2 0) → b ≠ (cr ad 2 2) → b ≠ (cr ad 2 3) → b ≠ (cr ad 2 4) → b ≠ (cr ad 2 5) → b ≠ (cr ad 2 6) → b ≠ (cr ad 2 7) → b ≠ (cr ad 2 8) → b ≠ (cr ad 2 9) → f30 b = f_25 b := eL32F
        have hfr : (∀ b, b ≠ (ad 14) → b ≠ (cr ad 2 0) → b ≠ (cr ad 2 2) → b ≠ (cr ad 2 3) → b ≠ (cr ad 2 4) → b ≠ (cr ad 2 5) → b ≠ (cr ad 2 6) → b ≠ (cr ad 2 7) → b ≠ (cr ad 2 8) → b ≠ (cr ad 2 9) → f30 b = f b) := fun b z0_ z1_ z2_ z3_ z4_ z5_ z6_ z7_ z8_ z9_ => (eL32F b z0_ z1_ z2_ z3_ z4_ z5_ z6_ z7_ z8_ z9_).trans (hfr b z0_ z1_ z2_ z3_ z4_ z5_ z6_ z7_ z8_ z9_)
        obtain ⟨x34, ex34⟩ : ∃ y : Int32, y = y25_l5 + 1 := ⟨_, rfl⟩
        have hb35 : In x34 1 2147483647 := ex34 ▸ In.add hb22 (⟨by decide, by decide⟩ : In 1 1 1) (by decide) (by decide) (by decide) (by decide)
        have et36 : x34.toInt = y25_l5.toInt + 1 := In.adde ex34 hb22 (k := 1) (by decide) (by decide) (by decide)
        refine lv_iinc (v := x34) (lv' := [(5, .int x34), (0, .ref (ad 0)), (1, .ref (ad 6)), (2, .ref (ad 14)), (3, .long z3)]) hx hb dX10_playTrial_43 hl (k := 4) rfl (by rw [ex34]; rfl) (by decide) rfl (fun ls hl => ?_)
        refine lv_goto (tgt := 25) hx hb dX10_playTrial_46 (by decide) ?_
        exact ih25 zg25_zf zz33 x34 _ _ _ _ hzz33 (In.mono hb35 (by decide) (by decide)) hP hD hS (TI.cast hT (by funext q; simp only [gset]; (repeat' split); all_goals first | rfl | omega | (subst_vars; rfl) | (exfalso; omega))) hfr (lv_sub hl [1, 2, 3, 4, 0] rfl) (msu et36 (by decide) hmz25)
  exact hJ25 ((2147483647 - (0 : Int32).toInt).toNat + 1) v1_3.toInt (0 : Int) 0 _ _ _ _ (⟨by decide, by rcases rnd_c (th 2) with q | q <;> rw [q] <;> decide⟩) (⟨by decide, by decide⟩ : In 0 0 2147483647) hP hD hS (TI.cast hT (by funext q; simp only [gset]; (repeat' split); all_goals first | rfl | omega | (subst_vars; rfl) | (exfalso; omega))) hfr (lv_sub hl [1, 2, 3, 4, 0] rfl) (msI _)

abbrev rm_X10_playTrial_ot_pn : Room := { frames := 6, cells := 0, slots := 0, locals := 156 }
abbrev po_X10_playTrial_ot_pn (g : GG) (ad : Nat → Nat) (th : Nat → Int) (L : List Nat) (f : HP) (z3 : Int64) : (List Nat × HP) → Prop := fun u => u.1 = L ∧ (∃ zf zz : Int, (0 ≤ zz ∧ zz ≤ 6 * rnd (th 4)) ∧ TI g ad (gset (gset th (200 + 2) zf) (300 + 2) zz) u.2) ∧ (∀ b, b ≠ (ad 13) → b ≠ (cr ad 2 0) → b ≠ (cr ad 2 2) → b ≠ (cr ad 2 3) → b ≠ (cr ad 2 4) → b ≠ (cr ad 2 5) → b ≠ (cr ad 2 6) → b ≠ (cr ad 2 7) → b ≠ (cr ad 2 8) → b ≠ (cr ad 2 9) → u.2 b = f b)
set_option maxHeartbeats 4000000 in
set_option maxRecDepth 100000 in
theorem s_X10_playTrial_ot_pn (l : Launch) (g : GG) (ad : Nat → Nat) (th : Nat → Int) (L : List Nat) (f : HP) (sz : Nat) (z3 : Int64) (hst : ST ad L) (hT : TI g ad th f)  : MtV l g yX10_playTrial cX10_playTrial 6 rm_X10_playTrial_ot_pn [.ref (ad 0), .ref (ad 7), .ref (ad 13), .long z3] L f sz (po_X10_playTrial_ot_pn g ad th L f z3) := by
  refine MtV.of (by decide +kernel) (Nat.le_of_ble_eq_true rfl) ?_
  intro p e s m below meth c A hEn hP hD hS ls hl
  obtain ⟨hx, hb, hr, hml, hown, hlocks, hts, hG, hA, hE, hnm⟩ := hEn
  have hown : s.vm.findClass "RulerWord" = some m.cls := hown
  have hl : lv_has ls 6 [(0, .ref (ad 0)), (1, .ref (ad 7)), (2, .ref (ad 13)), (3, .long z3)] := hl
  have hfr : (∀ b, b ≠ (ad 13) → b ≠ (cr ad 2 0) → b ≠ (cr ad 2 2) → b ≠ (cr ad 2 3) → b ≠ (cr ad 2 4) → b ≠ (cr ad 2 5) → b ≠ (cr ad 2 6) → b ≠ (cr ad 2 7) → b ≠ (cr ad 2 8) → b ≠ (cr ad 2 9) → f b = f b) := fun b z0_ z1_ z2_ z3_ z4_ z5_ z6_ z7_ z8_ z9_ => rfl
  refine lv_aload_n hx hb dX10_playTrial_0 rfl (lv_at hl 0 rfl) ?_
  obtain ⟨v15_1, v16_1, v17_1, hf2, hv15_1, hv16_1, hg16_1⟩ := hT.1 0 (by decide)
  refine pl_get (v := .ref (cr ad 2 0)) hx hb hts (fun w h => mT (inX10 w h)) hown hG.1 hP (hst.1 0 (by decide)) hf2 rfl 10 (by decide) (hts _ (mT wg_485)) (fun _ h => h) rfl dX10_playTrial_1 ?_
  refine lv_aload_n hx hb dX10_playTrial_4 rfl (lv_at hl 0 rfl) ?_
  refine pl_get (v := .ref (cr ad 0 0)) hx hb hts (fun w h => mT (inX10 w h)) hown hG.1 hP (hst.1 0 (by decide)) hf2 rfl 8 (by decide) (hts _ (mT wg_483)) (fun _ h => h) rfl dX10_playTrial_5 ?_
  obtain ⟨v0_3, v1_3, v2_3, v3_3, v4_3, v5_3, v6_3, v7_3, v8_3, hf4, hv1_3, hg1_3, hv2_3, hg2_3, hv6_3⟩ := hT.2.1 0 (by decide) 0 (by decide)
  refine pl_getN (v := .int v0_3) hx hb hts (fun w h => mT (inX3 w h)) hown hG.1 hP (hst.c (by decide) (by decide)) hf4 rfl 0 (by decide) (hG.2.1 _ wn_336) (fun _ h => h) rfl dX10_playTrial_8 ?_
  refine lv_aload_n hx hb dX10_playTrial_11 rfl (lv_at hl 0 rfl) ?_
  refine pl_get (v := .ref (cr ad 0 0)) hx hb hts (fun w h => mT (inX10 w h)) hown hG.1 hP (hst.1 0 (by decide)) hf2 rfl 8 (by decide) (hts _ (mT wg_483)) (fun _ h => h) rfl dX10_playTrial_12 ?_
  refine pl_getN (v := .int v1_3) hx hb hts (fun w h => mT (inX3 w h)) hown hG.1 hP (hst.c (by decide) (by decide)) hf4 rfl 1 (by decide) (hG.2.1 _ wn_339) (fun _ h => h) rfl dX10_playTrial_15 ?_
  refine lv_lload_n hx hb dX10_playTrial_18 rfl (lv_at hl 3 rfl) ?_
  obtain ⟨v0_5, v1_5, v2_5, v3_5, v4_5, v5_5, v6_5, v7_5, v8_5, hf6, hv1_5, hg1_5, hv2_5, hg2_5, hv6_5⟩ := hT.2.1 2 (by decide) 0 (by decide)
  refine call_v (run_VN (rm := rm_X3_begin) hx hb hml hown hts (s_X3_begin l g ad th _ _ _ 2 v0_3 v1_3 z3 hst hT (by decide) hv1_3) cV_X3_begin wn_714 ⟨Nat.le_of_ble_eq_true rfl, Nat.le_of_ble_eq_true rfl⟩ hG hE hA hP hD hS (hst.c (by decide) (by decide)) hf6 rfl rfl hl.1 (As := [.int v0_3, .int v1_3, .long z3]) (rest := []) rfl (Nat.le_of_ble_eq_true rfl) dX10_playTrial_19 ⟨Nat.le_of_ble_eq_true rfl, Nat.le_of_ble_eq_true rfl⟩) hA hD hS (fun L8 f9 H locs hp10 hP hD hS => ?_)
  obtain ⟨eL11L, eL11T, eL11F⟩ := hp10
  have eL11L : L8 = L := eL11L
  rw [eL11L] at hP hD
  have hT : TI g ad (gset (gset th (200 + 2) v1_3.toInt) (300 + 2) 0) f9 := eL11T
  have eL11F : ∀ b, b ≠ (cr ad 2 0) → f9 b = f b := eL11F
  have hfr : (∀ b, b ≠ (ad 13) → b ≠ (cr ad 2 0) → b ≠ (cr ad 2 2) → b ≠ (cr ad 2 3) → b ≠ (cr ad 2 4) → b ≠ (cr ad 2 5) → b ≠ (cr ad 2 6) → b ≠ (cr ad 2 7) → b ≠ (cr ad 2 8) → b ≠ (cr ad 2 9) → f9 b = f b) := fun b z0_ z1_ z2_ z3_ z4_ z5_ z6_ z7_ z8_ z9_ => (eL11F b z1_).trans (hfr b z0_ z1_ z2_ z3_ z4_ z5_ z6_ z7_ z8_ z9_)
  refine lv_iconst (v := 0) hx hb dX10_playTrial_22 (by decide) ?_
  refine lv_istore (lv' := [(5, .int 0), (0, .ref (ad 0)), (1, .ref (ad 7)), (2, .ref (ad 13)), (3, .long z3)]) hx hb dX10_playTrial_23 hl (by decide) rfl (fun ls hl => ?_)
  have hJ25 : ∀ (k25 : Nat) (zg25_zf : Int) (zg25_zq : Int) (y25_l5 : Int32) (f_25 : HP) (H : Heap) (locs : List Loc) (ls : Array Slot), (0 ≤ zg25_zq ∧ zg25_zq ≤ 6 * rnd (th 4)) → In y25_l5 0 2147483647 → va_P g.1 vwCl (va_pl L f_25) H → va_D A (va_pl L f_25) → va_S A s.heap H locs → TI g ad (gset (gset th (200 + 2) zg25_zf) (300 + 2) zg25_zq) f_25 → (∀ b, b ≠ (ad 13) → b ≠ (cr ad 2 0) → b ≠ (cr ad 2 2) → b ≠ (cr ad 2 3) → b ≠ (cr ad 2 4) → b ≠ (cr ad 2 5) → b ≠ (cr ad 2 6) → b ≠ (cr ad 2 7) → b ≠ (cr ad 2 8) → b ≠ (cr ad 2 9) → f_25 b = f b) → lv_has ls 6 [(0, .ref (ad 0)), (1, .ref (ad 7)), (2, .ref (ad 13)), (3, .long z3), (5, .int y25_l5)] → 2147483647 - y25_l5.toInt < ((k25 : Nat) : Int) → W p l e rm_X10_playTrial_ot_pn s m [.ref (ad 0), .ref (ad 7), .ref (ad 13), .long z3].toArray below meth c H locs 0 0 (MQ below (va_Qv (po_X10_playTrial_ot_pn g ad th L f z3) (PstB g A) A) [.ref (ad 0), .ref (ad 7), .ref (ad 13), .long z3].toArray s rm_X10_playTrial_ot_pn.cells rm_X10_playTrial_ot_pn.slots A) (F0 m 25 ls []) := by
    intro k25
    induction k25 with
    | zero =>
      intro zg25_zf zg25_zq y25_l5 f_25 H locs ls hzg25 hy25_l5 hP hD hS hT hfr hl hmz25
      exact ms0 hy25_l5 hmz25
    | succ k25 ih25 =>
      intro zg25_zf zg25_zq y25_l5 f_25 H locs ls hzg25 hy25_l5 hP hD hS hT hfr hl hmz25
      refine lv_iload hx hb dX10_playTrial_25 (lv_at hl 4 rfl) ?_
      refine lv_aload_n hx hb dX10_playTrial_27 rfl (lv_at hl 1 rfl) ?_
      obtain ⟨v0_12, v1_12, v2_12, v3_12, v4_12, v5_12, v6_12, v7_12, hf13, hv0_12, hg0_12, hv1_12, hv2_12, hv3_12, hv5_12, hv6_12⟩ := hT.1 7 (by decide)
      have hg0_12 : v0_12.toInt = th 4 := hg0_12
      refine call_i (run_VN (rm := rm_X2_allRounds_ot) hx hb hml hown hts (s_X2_allRounds_ot l g ad (gset (gset th (200 + 2) zg25_zf) (300 + 2) zg25_zq) _ _ _  hst hT ) cV_X2_allRounds wn_755 ⟨Nat.le_of_ble_eq_true rfl, Nat.le_of_ble_eq_true rfl⟩ hG hE hA hP hD hS (hst.1 7 (by decide)) hf13 rfl rfl hl.1 (As := []) (rest := [.int y25_l5]) rfl (Nat.le_of_ble_eq_true rfl) dX10_playTrial_28 ⟨Nat.le_of_ble_eq_true rfl, Nat.le_of_ble_eq_true rfl⟩) hA hD hS (fun r14 L15 f16 H locs hp17 hP hD hS => ?_)
      obtain ⟨eL18L, eL18T⟩ := hp17
      have eL18L : L15 = L := eL18L
      have eL18T : f16 = f_25 := eL18T
      rw [eL18L, eL18T] at hP hD
      refine lv_icmp_ge (tgt := 49) hx hb dX10_playTrial_31 (by decide) (fun c19 => ?_) (fun c19 => ?_)
      ·
        have cc20 : r14.toInt ≤ y25_l5.toInt := i32_le.mp c19
        exact ret_v hx hb hr hlocks hP hD hS (Nat.le_of_ble_eq_true rfl) (Nat.le_of_ble_eq_true rfl) (⟨rfl, ⟨zg25_zf, zg25_zq, hzg25, TI.cast hT (by funext q; simp only [gset]; (repeat' split); all_goals first | rfl | omega | (subst_vars; rfl) | (exfalso; omega))⟩, hfr⟩) dX10_playTrial_49
      ·
        have cc21 : y25_l5.toInt < r14.toInt := i32_nle c19
        have hb22 : In y25_l5 0 2147483646 := In.lt1 hy25_l5 (In.full r14) cc21 (by omega) (by omega)
        have hb23 : In r14 1 2147483647 := In.lt2 hy25_l5 (In.full r14) cc21 (by omega) (by omega)
        refine lv_aload_n hx hb dX10_playTrial_34 rfl (lv_at hl 0 rfl) ?_
        obtain ⟨v15_24, v16_24, v17_24, hf25, hv15_24, hv16_24, hg16_24⟩ := hT.1 0 (by decide)
        have hg16_24 : v16_24.toInt = th 1 := hg16_24
        refine pl_get (v := .ref (cr ad 2 0)) hx hb hts (fun w h => mT (inX10 w h)) hown hG.1 hP (hst.1 0 (by decide)) hf25 rfl 10 (by decide) (hts _ (mT wg_485)) (fun _ h => h) rfl dX10_playTrial_35 ?_
        refine lv_aload_n hx hb dX10_playTrial_38 rfl (lv_at hl 1 rfl) ?_
        refine lv_aload_n hx hb dX10_playTrial_39 rfl (lv_at hl 2 rfl) ?_
        obtain ⟨v0_26, v1_26, v2_26, v3_26, v4_26, v5_26, v6_26, v7_26, v8_26, hf27, hv1_26, hg1_26, hv2_26, hg2_26, hv6_26⟩ := hT.2.1 2 (by decide) 0 (by decide)
        refine call_v (run_VN (rm := rm_X3_play_ot_pn) hx hb hml hown hts (s_X3_play_ot_pn l g ad (gset (gset th (200 + 2) zg25_zf) (300 + 2) zg25_zq) _ _ _ 2 hst hT (by decide) hzg25.1 hzg25.2) cV_X3_play wn_771 ⟨Nat.le_of_ble_eq_true rfl, Nat.le_of_ble_eq_true rfl⟩ hG hE hA hP hD hS (hst.c (by decide) (by decide)) hf27 rfl rfl hl.1 (As := [.ref (ad 7), .ref (ad 13)]) (rest := []) rfl (Nat.le_of_ble_eq_true rfl) dX10_playTrial_40 ⟨Nat.le_of_ble_eq_true rfl, Nat.le_of_ble_eq_true rfl⟩) hA hD hS (fun L29 f30 H locs hp31 hP hD hS => ?_)
        obtain ⟨eL32L, eL32T, eL32F⟩ := hp31
        have eL32L : L29 = L := eL32L
        rw [eL32L] at hP hD
        obtain ⟨zz33, hzz33, eL32T⟩ := eL32T
        have hT : TI g ad (gset (gset (gset th (200 + 2) zg25_zf) (300 + 2) zg25_zq) (300 + 2) zz33) f30 := eL32T
        have hT : TI g ad (gset (gset th (200 + 2) zg25_zf) (300 + 2) zz33) f30 := TI.cast hT (by funext q; simp only [gset]; (repeat' split); all_goals first | rfl | omega | (subst_vars; rfl) | (exfalso; omega))
        have eL32F : ∀ b, b ≠ (ad 13) → b ≠ (cr ad 2 0) → b ≠ (cr ad 2 2) → b ≠ (cr ad 2 3) → b ≠ (cr ad 2 4) → b ≠ (cr ad 2 5) → b ≠ (cr ad 2 6) → b ≠ (cr ad 2 7) → b ≠ (cr ad 2 8) → b ≠ (cr ad 2 9) → f30 b = f_25 b := eL32F
        have hfr : (∀ b, b ≠ (ad 13) → b ≠ (cr ad 2 0) → b ≠ (cr ad 2 2) → b ≠ (cr ad 2 3) → b ≠ (cr ad 2 4) → b ≠ (cr ad 2 5) → b ≠ (cr ad 2 6) → b ≠ (cr ad 2 7) → b ≠ (cr ad 2 8) → b ≠ (cr ad 2 9) → f30 b = f b) := fun b z0_ z1_ z2_ z3_ z4_ z5_ z6_ z7_ z8_ z9_ => (eL32F b z0_ z1_ z2_ z3_ z4_ z5_ z6_ z7_ z8_ z9_).trans (hfr b z0_ z1_ z2_ z3_ z4_ z5_ z6_ z7_ z8_ z9_)
        obtain ⟨x34, ex34⟩ : ∃ y : Int32, y = y25_l5 + 1 := ⟨_, rfl⟩
        have hb35 : In x34 1 2147483647 := ex34 ▸ In.add hb22 (⟨by decide, by decide⟩ : In 1 1 1) (by decide) (by decide) (by decide) (by decide)
        have et36 : x34.toInt = y25_l5.toInt + 1 := In.adde ex34 hb22 (k := 1) (by decide) (by decide) (by decide)
        refine lv_iinc (v := x34) (lv' := [(5, .int x34), (0, .ref (ad 0)), (1, .ref (ad 7)), (2, .ref (ad 13)), (3, .long z3)]) hx hb dX10_playTrial_43 hl (k := 4) rfl (by rw [ex34]; rfl) (by decide) rfl (fun ls hl => ?_)
        refine lv_goto (tgt := 25) hx hb dX10_playTrial_46 (by decide) ?_
        exact ih25 zg25_zf zz33 x34 _ _ _ _ hzz33 (In.mono hb35 (by decide) (by decide)) hP hD hS (TI.cast hT (by funext q; simp only [gset]; (repeat' split); all_goals first | rfl | omega | (subst_vars; rfl) | (exfalso; omega))) hfr (lv_sub hl [1, 2, 3, 4, 0] rfl) (msu et36 (by decide) hmz25)
  exact hJ25 ((2147483647 - (0 : Int32).toInt).toNat + 1) v1_3.toInt (0 : Int) 0 _ _ _ _ (⟨by decide, by rcases rnd_c (th 4) with q | q <;> rw [q] <;> decide⟩) (⟨by decide, by decide⟩ : In 0 0 2147483647) hP hD hS (TI.cast hT (by funext q; simp only [gset]; (repeat' split); all_goals first | rfl | omega | (subst_vars; rfl) | (exfalso; omega))) hfr (lv_sub hl [1, 2, 3, 4, 0] rfl) (msI _)

abbrev rm_X10_held : Room := { frames := 6, cells := 0, slots := 0, locals := 152 }
abbrev po_X10_held (g : GG) (ad : Nat → Nat) (th : Nat → Int) (L : List Nat) (f : HP) (z1 : Int32) (z2 : Int32) : Int32 → (List Nat × HP) → Prop := fun r u => u.1 = L ∧ (∃ th' : Nat → Int, (CIv th' ∧ SBC th th') ∧ TI g ad th' u.2) ∧ (∀ b, b ≠ (ad 15) → b ≠ (cr ad 2 0) → b ≠ (cr ad 2 2) → b ≠ (cr ad 2 3) → b ≠ (cr ad 2 4) → b ≠ (cr ad 2 5) → b ≠ (cr ad 2 6) → b ≠ (cr ad 2 7) → b ≠ (cr ad 2 8) → b ≠ (cr ad 2 9) → u.2 b = f b)
set_option maxHeartbeats 4000000 in
set_option maxRecDepth 100000 in
theorem s_X10_held (l : Launch) (g : GG) (ad : Nat → Nat) (th : Nat → Int) (L : List Nat) (f : HP) (sz : Nat) (z1 : Int32) (z2 : Int32) (hst : ST ad L) (hT : TI g ad th f) (hC : CIv th) : MtI l g yX10_held cX10_held 3 (some .int) rm_X10_held [.ref (ad 0), .int z1, .int z2] L f sz (po_X10_held g ad th L f z1 z2) := by
  refine MtI.of (by decide +kernel) (Nat.le_of_ble_eq_true rfl) ?_
  intro p e s m below meth c A hEn hP hD hS ls hl
  obtain ⟨hx, hb, hr, hml, hown, hlocks, hts, hG, hA, hE, hnm⟩ := hEn
  have hown : s.vm.findClass "RulerWord" = some m.cls := hown
  have hl : lv_has ls 3 [(0, .ref (ad 0)), (1, .int z1), (2, .int z2)] := hl
  have hfr : (∀ b, b ≠ (ad 15) → b ≠ (cr ad 2 0) → b ≠ (cr ad 2 2) → b ≠ (cr ad 2 3) → b ≠ (cr ad 2 4) → b ≠ (cr ad 2 5) → b ≠ (cr ad 2 6) → b ≠ (cr ad 2 7) → b ≠ (cr ad 2 8) → b ≠ (cr ad 2 9) → f b = f b) := fun b z0_ z1_ z2_ z3_ z4_ z5_ z6_ z7_ z8_ z9_ => rfl
  refine lv_aload_n hx hb dX10_held_0 rfl (lv_at hl 0 rfl) ?_
  refine lv_aload_n hx hb dX10_held_1 rfl (lv_at hl 0 rfl) ?_
  obtain ⟨v15_1, v16_1, v17_1, hf2, hv15_1, hv16_1, hg16_1⟩ := hT.1 0 (by decide)
  refine pl_get (v := .ref (cr ad 0 0)) hx hb hts (fun w h => mT (inX10 w h)) hown hG.1 hP (hst.1 0 (by decide)) hf2 rfl 8 (by decide) (hts _ (mT wg_483)) (fun _ h => h) rfl dX10_held_2 ?_
  obtain ⟨v0_3, v1_3, v2_3, v3_3, v4_3, v5_3, v6_3, v7_3, v8_3, hf4, hv1_3, hg1_3, hv2_3, hg2_3, hv6_3⟩ := hT.2.1 0 (by decide) 0 (by decide)
  refine pl_getN (v := .int v1_3) hx hb hts (fun w h => mT (inX3 w h)) hown hG.1 hP (hst.c (by decide) (by decide)) hf4 rfl 1 (by decide) (hG.2.1 _ wn_339) (fun _ h => h) rfl dX10_held_5 ?_
  refine call_i (run_V (rm := rm_X10_isAsked) hx hb hml hown hts (s_X10_isAsked l g ad th _ _ _ v1_3 hst hT ) cV_X10_isAsked wg_1032 ⟨Nat.le_of_ble_eq_true rfl, Nat.le_of_ble_eq_true rfl⟩ hG hE hA hP hD hS (hst.1 0 (by decide)) hf2 rfl rfl hl.1 (As := [.int v1_3]) (rest := []) rfl (Nat.le_of_ble_eq_true rfl) dX10_held_8 ⟨Nat.le_of_ble_eq_true rfl, Nat.le_of_ble_eq_true rfl⟩) hA hD hS (fun r5 L6 f7 H locs hp8 hP hD hS => ?_)
  obtain ⟨eL9L, eL9T, eL9R⟩ := hp8
  have eL9L : L6 = L := eL9L
  have eL9T : f7 = f := eL9T
  rw [eL9L, eL9T] at hP hD
  have eL9R : In r5 0 1 := eL9R
  refine lv_if_ne (tgt := 17) hx hb dX10_held_11 (by decide) (fun c10 => ?_) (fun c10 => ?_)
  ·
    have cc11 : r5.toInt ≠ (0 : Int32).toInt := i32_ne c10
    have hb12 : In r5 1 1 := In.ne1 eL9R (⟨by decide, by decide⟩ : In 0 0 0) cc11 (by omega) (by omega)
    refine lv_aload_n hx hb dX10_held_17 rfl (lv_at hl 0 rfl) ?_
    refine lv_iload_n hx hb dX10_held_18 rfl (lv_at hl 2 rfl) ?_
    refine call_i (run_V (rm := rm_X10_isPeer) hx hb hml hown hts (s_X10_isPeer l g ad th _ _ _ z2 hst hT ) cV_X10_isPeer wg_897 ⟨Nat.le_of_ble_eq_true rfl, Nat.le_of_ble_eq_true rfl⟩ hG hE hA hP hD hS (hst.1 0 (by decide)) hf2 rfl rfl hl.1 (As := [.int z2]) (rest := []) rfl (Nat.le_of_ble_eq_true rfl) dX10_held_19 ⟨Nat.le_of_ble_eq_true rfl, Nat.le_of_ble_eq_true rfl⟩) hA hD hS (fun r13 L14 f15 H locs hp16 hP hD hS => ?_)
    obtain ⟨eL17L, eL17T, eL17R, eL17W0⟩ := hp16
    have eL17L : L14 = L := eL17L
    have eL17T : f15 = f := eL17T
    rw [eL17L, eL17T] at hP hD
    have eL17R : In r13 0 1 := eL17R
    refine lv_if_eq (tgt := 46) hx hb dX10_held_22 (by decide) (fun c18 => ?_) (fun c18 => ?_)
    ·
      have cc19 : r13.toInt = (0 : Int32).toInt := congrArg Int32.toInt c18
      have hb20 : In r13 0 0 := In.eq1 eL17R (⟨by decide, by decide⟩ : In 0 0 0) cc19 (by omega) (by omega)
      refine lv_iconst (v := (-1)) hx hb dX10_held_46 (by decide) ?_
      exact ret_i (ty := .int) hx hb hr hlocks (rfl) hP hD hS (Nat.le_of_ble_eq_true rfl) (Nat.le_of_ble_eq_true rfl) (⟨rfl, ⟨th, ⟨hC, (SBC.rf th)⟩, hT⟩, hfr⟩) dX10_held_47
    ·
      have cc21 : r13.toInt ≠ (0 : Int32).toInt := i32_ne c18
      have hb22 : In r13 1 1 := In.ne1 eL17R (⟨by decide, by decide⟩ : In 0 0 0) cc21 (by omega) (by omega)
      have hb23 : In z2 0 8 := In.both (eL17W0 c18) (In.full z2) (by decide) (by decide)
      refine lv_iload_n hx hb dX10_held_25 rfl (lv_at hl 1 rfl) ?_
      refine lv_if_lt (tgt := 46) hx hb dX10_held_26 (by decide) (fun c24 => ?_) (fun c24 => ?_)
      ·
        have cc25 : z1.toInt < (0 : Int32).toInt := i32_lt.mp c24
        have hb26 : In z1 (-2147483648) (-1) := In.lt1 (In.full z1) (⟨by decide, by decide⟩ : In 0 0 0) cc25 (by omega) (by omega)
        refine lv_iconst (v := (-1)) hx hb dX10_held_46 (by decide) ?_
        exact ret_i (ty := .int) hx hb hr hlocks (rfl) hP hD hS (Nat.le_of_ble_eq_true rfl) (Nat.le_of_ble_eq_true rfl) (⟨rfl, ⟨th, ⟨hC, (SBC.rf th)⟩, hT⟩, hfr⟩) dX10_held_47
      ·
        have cc27 : (0 : Int32).toInt ≤ z1.toInt := i32_nlt c24
        have hb28 : In z1 0 2147483647 := In.ge1 (In.full z1) (⟨by decide, by decide⟩ : In 0 0 0) cc27 (by omega) (by omega)
        refine lv_iload_n hx hb dX10_held_29 rfl (lv_at hl 1 rfl) ?_
        refine lv_iconst (v := 1) hx hb dX10_held_30 (by decide) ?_
        refine lv_aload_n hx hb dX10_held_31 rfl (lv_at hl 0 rfl) ?_
        refine lv_aload_n hx hb dX10_held_32 rfl (lv_at hl 0 rfl) ?_
        refine pl_get (v := .ref (cr ad 0 0)) hx hb hts (fun w h => mT (inX10 w h)) hown hG.1 hP (hst.1 0 (by decide)) hf2 rfl 8 (by decide) (hts _ (mT wg_483)) (fun _ h => h) rfl dX10_held_33 ?_
        refine pl_getN (v := .int v1_3) hx hb hts (fun w h => mT (inX3 w h)) hown hG.1 hP (hst.c (by decide) (by decide)) hf4 rfl 1 (by decide) (hG.2.1 _ wn_339) (fun _ h => h) rfl dX10_held_36 ?_
        refine call_i (run_V (rm := rm_X10_freeWith) hx hb hml hown hts (s_X10_freeWith l g ad th _ _ _ v1_3 hst hT ) cV_X10_freeWith wg_1018 ⟨Nat.le_of_ble_eq_true rfl, Nat.le_of_ble_eq_true rfl⟩ hG hE hA hP hD hS (hst.1 0 (by decide)) hf2 rfl rfl hl.1 (As := [.int v1_3]) (rest := [.int 1, .int z1]) rfl (Nat.le_of_ble_eq_true rfl) dX10_held_39 ⟨Nat.le_of_ble_eq_true rfl, Nat.le_of_ble_eq_true rfl⟩) hA hD hS (fun r29 L30 f31 H locs hp32 hP hD hS => ?_)
        obtain ⟨eL33L, eL33T⟩ := hp32
        have eL33L : L30 = L := eL33L
        have eL33T : f31 = f := eL33T
        rw [eL33L, eL33T] at hP hD
        refine lv_ishl hx hb dX10_held_42 ?_
        refine lv_topi (fun x34 ex34 => ?_)
        refine lv_icmp_lt (tgt := 48) hx hb dX10_held_43 (by decide) (fun c35 => ?_) (fun c35 => ?_)
        ·
          have cc36 : z1.toInt < x34.toInt := i32_lt.mp c35
          have hb37 : In z1 0 2147483646 := In.lt1 hb28 (In.full x34) cc36 (by omega) (by omega)
          have hb38 : In x34 1 2147483647 := In.lt2 hb28 (In.full x34) cc36 (by omega) (by omega)
          refine lv_aload_n hx hb dX10_held_48 rfl (lv_at hl 0 rfl) ?_
          refine pl_get (v := .ref (ad 15)) hx hb hts (fun w h => mT (inX10 w h)) hown hG.1 hP (hst.1 0 (by decide)) hf2 rfl 7 (by decide) (hts _ (mT wg_482)) (fun _ h => h) rfl dX10_held_49 ?_
          refine lv_iload_n hx hb dX10_held_52 rfl (lv_at hl 1 rfl) ?_
          obtain ⟨v0_39, v1_39, v2_39, v3_39, hf40, hv0_39, hv1_39⟩ := hT.1 15 (by decide)
          refine pl_putN (ty := .int) (v := .int z1) (fs' := [.int v0_39, .int v1_39, .int z1, .int v3_39]) hx hb hts (fun w h => mT (inX4 w h)) tyX4 tyX4_ok nmX4 hown hG.1 hP hD hS (hst.1 15 (by decide)) hf40 rfl 2 (by decide) (hG.2.1 _ wn_319) (fun _ h => h) rfl (by decide +kernel) (rfl) (rfl) (Nat.le_of_ble_eq_true rfl) rfl dX10_held_53 (fun H locs f41 hf42 ho43 hP hD hS => ?_)
          have hf44 := (ho43 (ad 0) (hst.ne (by decide) (by decide) (by decide))).trans hf2
          have hf45 := (ho43 (cr ad 0 0) (hst.ne (by omega) (by omega) (by omega))).trans hf4
          have hfr : (∀ b, b ≠ (ad 15) → b ≠ (cr ad 2 0) → b ≠ (cr ad 2 2) → b ≠ (cr ad 2 3) → b ≠ (cr ad 2 4) → b ≠ (cr ad 2 5) → b ≠ (cr ad 2 6) → b ≠ (cr ad 2 7) → b ≠ (cr ad 2 8) → b ≠ (cr ad 2 9) → f41 b = f b) := fun b z0_ z1_ z2_ z3_ z4_ z5_ z6_ z7_ z8_ z9_ => (ho43 b z0_).trans (hfr b z0_ z1_ z2_ z3_ z4_ z5_ z6_ z7_ z8_ z9_)
          refine lv_aload_n hx hb dX10_held_56 rfl (lv_at hl 0 rfl) ?_
          refine pl_get (v := .ref (ad 15)) hx hb hts (fun w h => mT (inX10 w h)) hown hG.1 hP (hst.1 0 (by decide)) hf44 rfl 7 (by decide) (hts _ (mT wg_482)) (fun _ h => h) rfl dX10_held_57 ?_
          refine lv_iconst (v := 0) hx hb dX10_held_60 (by decide) ?_
          refine pl_putN (ty := .int) (v := .int 0) (fs' := [.int v0_39, .int v1_39, .int z1, .int 0]) hx hb hts (fun w h => mT (inX4 w h)) tyX4 tyX4_ok nmX4 hown hG.1 hP hD hS (hst.1 15 (by decide)) hf42 rfl 3 (by decide) (hG.2.1 _ wn_321) (fun _ h => h) rfl (by decide +kernel) (rfl) (rfl) (Nat.le_of_ble_eq_true rfl) rfl dX10_held_61 (fun H locs f46 hf47 ho48 hP hD hS => ?_)
          have hf49 := (ho48 (ad 0) (hst.ne (by decide) (by decide) (by decide))).trans hf44
          have hf50 := (ho48 (cr ad 0 0) (hst.ne (by omega) (by omega) (by omega))).trans hf45
          have ho51 : ∀ b, b ≠ (ad 15) → f46 b = _ := fun b hb => (ho48 b hb).trans (ho43 b hb)
          have hfr : (∀ b, b ≠ (ad 15) → b ≠ (cr ad 2 0) → b ≠ (cr ad 2 2) → b ≠ (cr ad 2 3) → b ≠ (cr ad 2 4) → b ≠ (cr ad 2 5) → b ≠ (cr ad 2 6) → b ≠ (cr ad 2 7) → b ≠ (cr ad 2 8) → b ≠ (cr ad 2 9) → f46 b = f b) := fun b z0_ z1_ z2_ z3_ z4_ z5_ z6_ z7_ z8_ z9_ => (ho48 b z0_).trans (hfr b z0_ z1_ z2_ z3_ z4_ z5_ z6_ z7_ z8_ z9_)
          refine lv_aload_n hx hb dX10_held_64 rfl (lv_at hl 0 rfl) ?_
          refine lv_aload_n hx hb dX10_held_65 rfl (lv_at hl 0 rfl) ?_
          refine pl_get (v := .ref (ad 6)) hx hb hts (fun w h => mT (inX10 w h)) hown hG.1 hP (hst.1 0 (by decide)) hf49 rfl 2 (by decide) (hts _ (mT wg_477)) (fun _ h => h) rfl dX10_held_66 ?_
          refine lv_aload_n hx hb dX10_held_69 rfl (lv_at hl 0 rfl) ?_
          refine pl_get (v := .ref (ad 15)) hx hb hts (fun w h => mT (inX10 w h)) hown hG.1 hP (hst.1 0 (by decide)) hf49 rfl 7 (by decide) (hts _ (mT wg_482)) (fun _ h => h) rfl dX10_held_70 ?_
          refine lv_aload_n hx hb dX10_held_73 rfl (lv_at hl 0 rfl) ?_
          refine pl_get (v := .long v17_1) hx hb hts (fun w h => mT (inX10 w h)) hown hG.1 hP (hst.1 0 (by decide)) hf49 rfl 17 (by decide) (hts _ (mT wg_492)) (fun _ h => h) rfl dX10_held_74 ?_
          have hT := TI.updA hT hst (k := 15) (by decide) hf47 ho51 ⟨v0_39, v1_39, z1, 0, rfl, hv0_39, hv1_39⟩
          refine call_v (run_V (rm := rm_X10_playTrial_co_fr) hx hb hml hown hts (s_X10_playTrial_co_fr l g ad th _ _ _ v17_1 hst hT ) cV_X10_playTrial wg_1177 ⟨Nat.le_of_ble_eq_true rfl, Nat.le_of_ble_eq_true rfl⟩ hG hE hA hP hD hS (hst.1 0 (by decide)) hf49 rfl rfl hl.1 (As := [.ref (ad 6), .ref (ad 15), .long v17_1]) (rest := []) rfl (Nat.le_of_ble_eq_true rfl) dX10_held_77 ⟨Nat.le_of_ble_eq_true rfl, Nat.le_of_ble_eq_true rfl⟩) hA hD hS (fun L53 f54 H locs hp55 hP hD hS => ?_)
          obtain ⟨eL56L, eL56T, eL56F⟩ := hp55
          have eL56L : L53 = L := eL56L
          rw [eL56L] at hP hD
          obtain ⟨zz57, zz58, hzz57, eL56T⟩ := eL56T
          have hT : TI g ad (gset (gset th (200 + 2) zz57) (300 + 2) zz58) f54 := eL56T
          have eL56F : ∀ b, b ≠ (ad 15) → b ≠ (cr ad 2 0) → b ≠ (cr ad 2 2) → b ≠ (cr ad 2 3) → b ≠ (cr ad 2 4) → b ≠ (cr ad 2 5) → b ≠ (cr ad 2 6) → b ≠ (cr ad 2 7) → b ≠ (cr ad 2 8) → b ≠ (cr ad 2 9) → f54 b = f46 b := eL56F
          have hfr : (∀ b, b ≠ (ad 15) → b ≠ (cr ad 2 0) → b ≠ (cr ad 2 2) → b ≠ (cr ad 2 3) → b ≠ (cr ad 2 4) → b ≠ (cr ad 2 5) → b ≠ (cr ad 2 6) → b ≠ (cr ad 2 7) → b ≠ (cr ad 2 8) → b ≠ (cr ad 2 9) → f54 b = f b) := fun b z0_ z1_ z2_ z3_ z4_ z5_ z6_ z7_ z8_ z9_ => (eL56F b z0_ z1_ z2_ z3_ z4_ z5_ z6_ z7_ z8_ z9_).trans (hfr b z0_ z1_ z2_ z3_ z4_ z5_ z6_ z7_ z8_ z9_)
          refine lv_aload_n hx hb dX10_held_80 rfl (lv_at hl 0 rfl) ?_
          obtain ⟨v15_59, v16_59, v17_59, hf60, hv15_59, hv16_59, hg16_59⟩ := hT.1 0 (by decide)
          have hg16_59 : v16_59.toInt = th 1 := hg16_59
          refine pl_get (v := .ref (cr ad 2 0)) hx hb hts (fun w h => mT (inX10 w h)) hown hG.1 hP (hst.1 0 (by decide)) hf60 rfl 10 (by decide) (hts _ (mT wg_485)) (fun _ h => h) rfl dX10_held_81 ?_
          obtain ⟨v0_61, v1_61, v2_61, v3_61, v4_61, v5_61, v6_61, v7_61, v8_61, hf62, hv1_61, hg1_61, hv2_61, hg2_61, hv6_61⟩ := hT.2.1 2 (by decide) 0 (by decide)
          refine pl_getN (v := .int v3_61) hx hb hts (fun w h => mT (inX3 w h)) hown hG.1 hP (hst.c (by decide) (by decide)) hf62 rfl 3 (by decide) (hG.2.1 _ wn_343) (fun _ h => h) rfl dX10_held_84 ?_
          refine lv_iload_n hx hb dX10_held_87 rfl (lv_at hl 2 rfl) ?_
          refine call_i (run_S (rm := rm_X10_bit) hx hb hml hown hts (s_X10_bit l g ad (gset (gset th (200 + 2) zz57) (300 + 2) zz58) _ _ _ v3_61 z2 hst hT ) cS_X10_bit wg_901 ⟨Nat.le_of_ble_eq_true rfl, Nat.le_of_ble_eq_true rfl⟩ hG hE hA hP hD hS rfl hl.1 (As := [.int v3_61, .int z2]) (rest := []) rfl (Nat.le_of_ble_eq_true rfl) dX10_held_88 ⟨Nat.le_of_ble_eq_true rfl, Nat.le_of_ble_eq_true rfl⟩) hA hD hS (fun r63 L64 f65 H locs hp66 hP hD hS => ?_)
          obtain ⟨eL67L, eL67T, eL67R, eL67X0⟩ := hp66
          have eL67L : L64 = L := eL67L
          have eL67T : f65 = f54 := eL67T
          rw [eL67L, eL67T] at hP hD
          have eL67R : In r63 0 1 := eL67R
          exact ret_i (ty := .int) hx hb hr hlocks (rfl) hP hD hS (Nat.le_of_ble_eq_true rfl) (Nat.le_of_ble_eq_true rfl) (⟨rfl, ⟨(gset (gset th (200 + 2) zz57) (300 + 2) zz58), ⟨(CIv.set (k := (300 + 2)) (CIv.set (k := (200 + 2)) hC (by decide)) (by decide)), (SBC.set (k := (300 + 2)) (SBC.set (k := (200 + 2)) (SBC.rf th) (by decide)) (by decide))⟩, hT⟩, hfr⟩) dX10_held_91
        ·
          refine lv_iconst (v := (-1)) hx hb dX10_held_46 (by decide) ?_
          exact ret_i (ty := .int) hx hb hr hlocks (rfl) hP hD hS (Nat.le_of_ble_eq_true rfl) (Nat.le_of_ble_eq_true rfl) (⟨rfl, ⟨th, ⟨hC, (SBC.rf th)⟩, hT⟩, hfr⟩) dX10_held_47
  ·
    have cc68 : r5.toInt = (0 : Int32).toInt := congrArg Int32.toInt c10
    have hb69 : In r5 0 0 := In.eq1 eL9R (⟨by decide, by decide⟩ : In 0 0 0) cc68 (by omega) (by omega)
    refine lv_bipush (v := (-2)) hx hb dX10_held_14 (by decide) ?_
    exact ret_i (ty := .int) hx hb hr hlocks (rfl) hP hD hS (Nat.le_of_ble_eq_true rfl) (Nat.le_of_ble_eq_true rfl) (⟨rfl, ⟨th, ⟨hC, (SBC.rf th)⟩, hT⟩, hfr⟩) dX10_held_16

abbrev rm_X10_asOthers : Room := { frames := 7, cells := 0, slots := 0, locals := 181 }
abbrev po_X10_asOthers (g : GG) (ad : Nat → Nat) (th : Nat → Int) (L : List Nat) (f : HP) (z1 : Int32) : Int32 → (List Nat × HP) → Prop := fun r u => u.1 = L ∧ (∃ th' : Nat → Int, (CIv th' ∧ SBC th th') ∧ TI g ad th' u.2) ∧ (∀ b, b ≠ (ad 13) → b ≠ (ad 7) → b ≠ (cr ad 2 0) → b ≠ (cr ad 2 2) → b ≠ (cr ad 2 3) → b ≠ (cr ad 2 4) → b ≠ (cr ad 2 5) → b ≠ (cr ad 2 6) → b ≠ (cr ad 2 7) → b ≠ (cr ad 2 8) → b ≠ (cr ad 2 9) → u.2 b = f b)
set_option maxHeartbeats 4000000 in
set_option maxRecDepth 100000 in
theorem s_X10_asOthers (l : Launch) (g : GG) (ad : Nat → Nat) (th : Nat → Int) (L : List Nat) (f : HP) (sz : Nat) (z1 : Int32) (hst : ST ad L) (hT : TI g ad th f) (hC : CIv th) : MtI l g yX10_asOthers cX10_asOthers 2 (some .int) rm_X10_asOthers [.ref (ad 0), .int z1] L f sz (po_X10_asOthers g ad th L f z1) := by
  refine MtI.of (by decide +kernel) (Nat.le_of_ble_eq_true rfl) ?_
  intro p e s m below meth c A hEn hP hD hS ls hl
  obtain ⟨hx, hb, hr, hml, hown, hlocks, hts, hG, hA, hE, hnm⟩ := hEn
  have hown : s.vm.findClass "RulerWord" = some m.cls := hown
  have hl : lv_has ls 2 [(0, .ref (ad 0)), (1, .int z1)] := hl
  have hfr : (∀ b, b ≠ (ad 13) → b ≠ (ad 7) → b ≠ (cr ad 2 0) → b ≠ (cr ad 2 2) → b ≠ (cr ad 2 3) → b ≠ (cr ad 2 4) → b ≠ (cr ad 2 5) → b ≠ (cr ad 2 6) → b ≠ (cr ad 2 7) → b ≠ (cr ad 2 8) → b ≠ (cr ad 2 9) → f b = f b) := fun b z0_ z1_ z2_ z3_ z4_ z5_ z6_ z7_ z8_ z9_ z10_ => rfl
  refine lv_aload_n hx hb dX10_asOthers_0 rfl (lv_at hl 0 rfl) ?_
  obtain ⟨v15_1, v16_1, v17_1, hf2, hv15_1, hv16_1, hg16_1⟩ := hT.1 0 (by decide)
  refine pl_get (v := .int v15_1) hx hb hts (fun w h => mT (inX10 w h)) hown hG.1 hP (hst.1 0 (by decide)) hf2 rfl 15 (by decide) (hts _ (mT wg_490)) (fun _ h => h) rfl dX10_asOthers_1 ?_
  have hJ16 : ∀ (H : Heap) (locs : List Loc) (ls : Array Slot), va_P g.1 vwCl (va_pl L f) H → va_D A (va_pl L f) → va_S A s.heap H locs → lv_has ls 2 [(0, .ref (ad 0)), (1, .int z1)] → W p l e rm_X10_asOthers s m [.ref (ad 0), .int z1].toArray below meth c H locs 0 0 (MQ below (va_Qi (po_X10_asOthers g ad th L f z1) (PstB g A) A) [.ref (ad 0), .int z1].toArray s rm_X10_asOthers.cells rm_X10_asOthers.slots A) (F0 m 16 ls []) := by
    intro H locs ls hP hD hS hl
    refine lv_bipush (v := (-2)) hx hb dX10_asOthers_16 (by decide) ?_
    exact ret_i (ty := .int) hx hb hr hlocks (rfl) hP hD hS (Nat.le_of_ble_eq_true rfl) (Nat.le_of_ble_eq_true rfl) (⟨rfl, ⟨th, ⟨hC, (SBC.rf th)⟩, hT⟩, hfr⟩) dX10_asOthers_18
  refine lv_if_eq (tgt := 16) hx hb dX10_asOthers_4 (by decide) (fun c3 => ?_) (fun c3 => ?_)
  ·
    have cc4 : v15_1.toInt = (0 : Int32).toInt := congrArg Int32.toInt c3
    have hb5 : In v15_1 0 0 := In.eq1 hv15_1 (⟨by decide, by decide⟩ : In 0 0 0) cc4 (by omega) (by omega)
    exact hJ16 _ _ _ hP hD hS (lv_sub hl [0, 1] rfl)
  ·
    have cc6 : v15_1.toInt ≠ (0 : Int32).toInt := i32_ne c3
    have hb7 : In v15_1 1 1 := In.ne1 hv15_1 (⟨by decide, by decide⟩ : In 0 0 0) cc6 (by omega) (by omega)
    refine lv_iload_n hx hb dX10_asOthers_7 rfl (lv_at hl 1 rfl) ?_
    refine lv_if_lt (tgt := 16) hx hb dX10_asOthers_8 (by decide) (fun c8 => ?_) (fun c8 => ?_)
    ·
      have cc9 : z1.toInt < (0 : Int32).toInt := i32_lt.mp c8
      have hb10 : In z1 (-2147483648) (-1) := In.lt1 (In.full z1) (⟨by decide, by decide⟩ : In 0 0 0) cc9 (by omega) (by omega)
      exact hJ16 _ _ _ hP hD hS (lv_sub hl [0, 1] rfl)
    ·
      have cc11 : (0 : Int32).toInt ≤ z1.toInt := i32_nlt c8
      have hb12 : In z1 0 2147483647 := In.ge1 (In.full z1) (⟨by decide, by decide⟩ : In 0 0 0) cc11 (by omega) (by omega)
      refine lv_iload_n hx hb dX10_asOthers_11 rfl (lv_at hl 1 rfl) ?_
      refine lv_iconst (v := 3) hx hb dX10_asOthers_12 (by decide) ?_
      refine lv_icmp_le (tgt := 19) hx hb dX10_asOthers_13 (by decide) (fun c13 => ?_) (fun c13 => ?_)
      ·
        have cc14 : z1.toInt ≤ (3 : Int32).toInt := i32_le.mp c13
        have hb15 : In z1 0 3 := In.le1 hb12 (⟨by decide, by decide⟩ : In 3 3 3) cc14 (by omega) (by omega)
        refine lv_aload_n hx hb dX10_asOthers_19 rfl (lv_at hl 0 rfl) ?_
        refine pl_get (v := .ref (ad 7)) hx hb hts (fun w h => mT (inX10 w h)) hown hG.1 hP (hst.1 0 (by decide)) hf2 rfl 3 (by decide) (hts _ (mT wg_478)) (fun _ h => h) rfl dX10_asOthers_20 ?_
        refine lv_aload_n hx hb dX10_asOthers_23 rfl (lv_at hl 0 rfl) ?_
        refine pl_get (v := .ref (ad 6)) hx hb hts (fun w h => mT (inX10 w h)) hown hG.1 hP (hst.1 0 (by decide)) hf2 rfl 2 (by decide) (hts _ (mT wg_477)) (fun _ h => h) rfl dX10_asOthers_24 ?_
        obtain ⟨v0_16, v1_16, v2_16, v3_16, v4_16, v5_16, v6_16, v7_16, hf17, hv0_16, hg0_16, hv1_16, hv2_16, hv3_16, hv5_16, hv6_16⟩ := hT.1 7 (by decide)
        refine call_v (run_VN (rm := rm_X2_copy_ot) hx hb hml hown hts (s_X2_copy_ot l g ad th _ _ _  hst hT ) cV_X2_copy wn_710 ⟨Nat.le_of_ble_eq_true rfl, Nat.le_of_ble_eq_true rfl⟩ hG hE hA hP hD hS (hst.1 7 (by decide)) hf17 rfl rfl hl.1 (As := [.ref (ad 6)]) (rest := []) rfl (Nat.le_of_ble_eq_true rfl) dX10_asOthers_27 ⟨Nat.le_of_ble_eq_true rfl, Nat.le_of_ble_eq_true rfl⟩) hA hD hS (fun L19 f20 H locs hp21 hP hD hS => ?_)
        obtain ⟨eL22L, eL22T, eL22F⟩ := hp21
        have eL22L : L19 = L := eL22L
        rw [eL22L] at hP hD
        have hT : TI g ad (gset th 4 (th 2)) f20 := eL22T
        have eL22F : ∀ b, b ≠ (ad 7) → f20 b = f b := eL22F
        have hfr : (∀ b, b ≠ (ad 13) → b ≠ (ad 7) → b ≠ (cr ad 2 0) → b ≠ (cr ad 2 2) → b ≠ (cr ad 2 3) → b ≠ (cr ad 2 4) → b ≠ (cr ad 2 5) → b ≠ (cr ad 2 6) → b ≠ (cr ad 2 7) → b ≠ (cr ad 2 8) → b ≠ (cr ad 2 9) → f20 b = f b) := fun b z0_ z1_ z2_ z3_ z4_ z5_ z6_ z7_ z8_ z9_ z10_ => (eL22F b z1_).trans (hfr b z0_ z1_ z2_ z3_ z4_ z5_ z6_ z7_ z8_ z9_ z10_)
        refine lv_aload_n hx hb dX10_asOthers_30 rfl (lv_at hl 0 rfl) ?_
        obtain ⟨v15_23, v16_23, v17_23, hf24, hv15_23, hv16_23, hg16_23⟩ := hT.1 0 (by decide)
        have hg16_23 : v16_23.toInt = th 1 := hg16_23
        refine pl_get (v := .ref (ad 7)) hx hb hts (fun w h => mT (inX10 w h)) hown hG.1 hP (hst.1 0 (by decide)) hf24 rfl 3 (by decide) (hts _ (mT wg_478)) (fun _ h => h) rfl dX10_asOthers_31 ?_
        refine lv_aload_n hx hb dX10_asOthers_34 rfl (lv_at hl 0 rfl) ?_
        refine pl_get (v := .ref (ad 6)) hx hb hts (fun w h => mT (inX10 w h)) hown hG.1 hP (hst.1 0 (by decide)) hf24 rfl 2 (by decide) (hts _ (mT wg_477)) (fun _ h => h) rfl dX10_asOthers_35 ?_
        obtain ⟨v0_25, v1_25, v2_25, v3_25, v4_25, v5_25, v6_25, v7_25, hf26, hv0_25, hg0_25, hv1_25, hg1_25, hv2_25, hv3_25, hv5_25, hv6_25, hrel0_25⟩ := hT.1 6 (by decide)
        have hg0_25 : v0_25.toInt = th 2 := hg0_25
        have hg1_25 : v1_25.toInt = th 3 := hg1_25
        refine pl_getN (v := .int v0_25) hx hb hts (fun w h => mT (inX2 w h)) hown hG.1 hP (hst.1 6 (by decide)) hf26 rfl 0 (by decide) (hG.2.1 _ wn_226) (fun _ h => h) rfl dX10_asOthers_38 ?_
        have hJ49 : ∀ (y49_s0 : Int32) (H : Heap) (locs : List Loc) (ls : Array Slot), In y49_s0 0 1 → va_P g.1 vwCl (va_pl L f20) H → va_D A (va_pl L f20) → va_S A s.heap H locs → lv_has ls 2 [(0, .ref (ad 0)), (1, .int z1)] → W p l e rm_X10_asOthers s m [.ref (ad 0), .int z1].toArray below meth c H locs 0 0 (MQ below (va_Qi (po_X10_asOthers g ad th L f z1) (PstB g A) A) [.ref (ad 0), .int z1].toArray s rm_X10_asOthers.cells rm_X10_asOthers.slots A) (F0 m 49 ls [.int y49_s0, .ref (ad 7)]) := by
          intro y49_s0 H locs ls hy49_s0 hP hD hS hl
          obtain ⟨v0_27, v1_27, v2_27, v3_27, v4_27, v5_27, v6_27, v7_27, hf28, hv0_27, hg0_27, hv1_27, hv2_27, hv3_27, hv5_27, hv6_27⟩ := hT.1 7 (by decide)
          have hg0_27 : v0_27.toInt = th 2 := hg0_27
          refine pl_putN (ty := .int) (v := .int y49_s0) (fs' := [.int y49_s0, .int v1_27, .int v2_27, .int v3_27, .int v4_27, .int v5_27, .int v6_27, .int v7_27]) hx hb hts (fun w h => mT (inX2 w h)) tyX2 tyX2_ok nmX2 hown hG.1 hP hD hS (hst.1 7 (by decide)) hf28 rfl 0 (by decide) (hG.2.1 _ wn_226) (fun _ h => h) rfl (by decide +kernel) (rfl) (rfl) (Nat.le_of_ble_eq_true rfl) rfl dX10_asOthers_49 (fun H locs f29 hf30 ho31 hP hD hS => ?_)
          have hf32 := (ho31 (ad 0) (hst.ne (by decide) (by decide) (by decide))).trans hf24
          have hf33 := (ho31 (ad 6) (hst.ne (by decide) (by decide) (by decide))).trans hf26
          have hfr : (∀ b, b ≠ (ad 13) → b ≠ (ad 7) → b ≠ (cr ad 2 0) → b ≠ (cr ad 2 2) → b ≠ (cr ad 2 3) → b ≠ (cr ad 2 4) → b ≠ (cr ad 2 5) → b ≠ (cr ad 2 6) → b ≠ (cr ad 2 7) → b ≠ (cr ad 2 8) → b ≠ (cr ad 2 9) → f29 b = f b) := fun b z0_ z1_ z2_ z3_ z4_ z5_ z6_ z7_ z8_ z9_ z10_ => (ho31 b z1_).trans (hfr b z0_ z1_ z2_ z3_ z4_ z5_ z6_ z7_ z8_ z9_ z10_)
          refine lv_iload_n hx hb dX10_asOthers_52 rfl (lv_at hl 1 rfl) ?_
          refine lv_iconst (v := 3) hx hb dX10_asOthers_53 (by decide) ?_
          have hT := TI.updAG (th' := (gset (gset th 4 (th 2)) 4 (y49_s0.toInt))) hT hst (k := 7) (by decide) hf30 ho31 ⟨y49_s0, v1_27, v2_27, v3_27, v4_27, v5_27, v6_27, v7_27, rfl, hy49_s0, (by simp [gset]), hv1_27, hv2_27, hv3_27, hv5_27, hv6_27⟩ (fun q hq => ((gset_ne (own_ne hq (k := 4) (by decide) rfl)).trans rfl))
          have hT : TI g ad (gset th 4 y49_s0.toInt) f29 := TI.cast hT (by funext q; simp only [gset]; (repeat' split); all_goals first | rfl | omega | (subst_vars; rfl) | (exfalso; omega))
          refine lv_icmp_ne (tgt := 65) hx hb dX10_asOthers_54 (by decide) (fun c34 => ?_) (fun c34 => ?_)
          ·
            have cc35 : z1.toInt ≠ (3 : Int32).toInt := i32_ne c34
            have hb36 : In z1 0 2 := In.ne1 hb15 (⟨by decide, by decide⟩ : In 3 3 3) cc35 (by omega) (by omega)
            refine lv_aload_n hx hb dX10_asOthers_65 rfl (lv_at hl 0 rfl) ?_
            refine lv_aload_n hx hb dX10_asOthers_66 rfl (lv_at hl 0 rfl) ?_
            obtain ⟨v15_37, v16_37, v17_37, hf38, hv15_37, hv16_37, hg16_37⟩ := hT.1 0 (by decide)
            have hg16_37 : v16_37.toInt = th 1 := hg16_37
            refine pl_get (v := .ref (ad 7)) hx hb hts (fun w h => mT (inX10 w h)) hown hG.1 hP (hst.1 0 (by decide)) hf38 rfl 3 (by decide) (hts _ (mT wg_478)) (fun _ h => h) rfl dX10_asOthers_67 ?_
            refine lv_aload_n hx hb dX10_asOthers_70 rfl (lv_at hl 0 rfl) ?_
            refine pl_get (v := .ref (ad 13)) hx hb hts (fun w h => mT (inX10 w h)) hown hG.1 hP (hst.1 0 (by decide)) hf38 rfl 5 (by decide) (hts _ (mT wg_480)) (fun _ h => h) rfl dX10_asOthers_71 ?_
            refine lv_aload_n hx hb dX10_asOthers_74 rfl (lv_at hl 0 rfl) ?_
            refine pl_get (v := .long v17_37) hx hb hts (fun w h => mT (inX10 w h)) hown hG.1 hP (hst.1 0 (by decide)) hf38 rfl 17 (by decide) (hts _ (mT wg_492)) (fun _ h => h) rfl dX10_asOthers_75 ?_
            refine call_v (run_V (rm := rm_X10_playTrial_ot_pn) hx hb hml hown hts (s_X10_playTrial_ot_pn l g ad (gset th 4 y49_s0.toInt) _ _ _ v17_37 hst hT ) cV_X10_playTrial wg_1177 ⟨Nat.le_of_ble_eq_true rfl, Nat.le_of_ble_eq_true rfl⟩ hG hE hA hP hD hS (hst.1 0 (by decide)) hf38 rfl rfl hl.1 (As := [.ref (ad 7), .ref (ad 13), .long v17_37]) (rest := []) rfl (Nat.le_of_ble_eq_true rfl) dX10_asOthers_78 ⟨Nat.le_of_ble_eq_true rfl, Nat.le_of_ble_eq_true rfl⟩) hA hD hS (fun L40 f41 H locs hp42 hP hD hS => ?_)
            obtain ⟨eL43L, eL43T, eL43F⟩ := hp42
            have eL43L : L40 = L := eL43L
            rw [eL43L] at hP hD
            obtain ⟨zz44, zz45, hzz44, eL43T⟩ := eL43T
            have hT : TI g ad (gset (gset (gset th 4 y49_s0.toInt) (200 + 2) zz44) (300 + 2) zz45) f41 := eL43T
            have eL43F : ∀ b, b ≠ (ad 13) → b ≠ (cr ad 2 0) → b ≠ (cr ad 2 2) → b ≠ (cr ad 2 3) → b ≠ (cr ad 2 4) → b ≠ (cr ad 2 5) → b ≠ (cr ad 2 6) → b ≠ (cr ad 2 7) → b ≠ (cr ad 2 8) → b ≠ (cr ad 2 9) → f41 b = f29 b := eL43F
            have hfr : (∀ b, b ≠ (ad 13) → b ≠ (ad 7) → b ≠ (cr ad 2 0) → b ≠ (cr ad 2 2) → b ≠ (cr ad 2 3) → b ≠ (cr ad 2 4) → b ≠ (cr ad 2 5) → b ≠ (cr ad 2 6) → b ≠ (cr ad 2 7) → b ≠ (cr ad 2 8) → b ≠ (cr ad 2 9) → f41 b = f b) := fun b z0_ z1_ z2_ z3_ z4_ z5_ z6_ z7_ z8_ z9_ z10_ => (eL43F b z0_ z2_ z3_ z4_ z5_ z6_ z7_ z8_ z9_ z10_).trans (hfr b z0_ z1_ z2_ z3_ z4_ z5_ z6_ z7_ z8_ z9_ z10_)
            refine lv_iload_n hx hb dX10_asOthers_81 rfl (lv_at hl 1 rfl) ?_
            by_cases c46 : z1 = 0
            ·
              refine lv_lookup (off := 26) (tgt := 108) hx hb dX10_asOthers_82 (by decide) (by rw [c46]; decide) (by decide) ?_
              have hb47 : In z1 0 0 := by rw [c46]; exact ⟨by decide, by decide⟩
              refine lv_aload_n hx hb dX10_asOthers_108 rfl (lv_at hl 0 rfl) ?_
              obtain ⟨v15_48, v16_48, v17_48, hf49, hv15_48, hv16_48, hg16_48⟩ := hT.1 0 (by decide)
              have hg16_48 : v16_48.toInt = th 1 := hg16_48
              refine pl_get (v := .ref (cr ad 2 0)) hx hb hts (fun w h => mT (inX10 w h)) hown hG.1 hP (hst.1 0 (by decide)) hf49 rfl 10 (by decide) (hts _ (mT wg_485)) (fun _ h => h) rfl dX10_asOthers_109 ?_
              refine lv_aload_n hx hb dX10_asOthers_112 rfl (lv_at hl 0 rfl) ?_
              refine pl_get (v := .ref (ad 7)) hx hb hts (fun w h => mT (inX10 w h)) hown hG.1 hP (hst.1 0 (by decide)) hf49 rfl 3 (by decide) (hts _ (mT wg_478)) (fun _ h => h) rfl dX10_asOthers_113 ?_
              obtain ⟨v0_50, v1_50, v2_50, v3_50, v4_50, v5_50, v6_50, v7_50, v8_50, hf51, hv1_50, hg1_50, hv2_50, hg2_50, hv6_50⟩ := hT.2.1 2 (by decide) 0 (by decide)
              refine call_i (run_VN (rm := rm_X3_agreedFrom_ot) hx hb hml hown hts (s_X3_agreedFrom_ot l g ad (gset (gset (gset th 4 y49_s0.toInt) (200 + 2) zz44) (300 + 2) zz45) _ _ _ 2 hst hT (by decide) hzz44.1 hzz44.2) cV_X3_agreedFrom wn_968 ⟨Nat.le_of_ble_eq_true rfl, Nat.le_of_ble_eq_true rfl⟩ hG hE hA hP hD hS (hst.c (by decide) (by decide)) hf51 rfl rfl hl.1 (As := [.ref (ad 7)]) (rest := []) rfl (Nat.le_of_ble_eq_true rfl) dX10_asOthers_116 ⟨Nat.le_of_ble_eq_true rfl, Nat.le_of_ble_eq_true rfl⟩) hA hD hS (fun r52 L53 f54 H locs hp55 hP hD hS => ?_)
              obtain ⟨eL56L, eL56T⟩ := hp55
              have eL56L : L53 = L := eL56L
              have eL56T : f54 = f41 := eL56T
              rw [eL56L, eL56T] at hP hD
              exact ret_i (ty := .int) hx hb hr hlocks (rfl) hP hD hS (Nat.le_of_ble_eq_true rfl) (Nat.le_of_ble_eq_true rfl) (⟨rfl, ⟨(gset (gset (gset th 4 y49_s0.toInt) (200 + 2) zz44) (300 + 2) zz45), ⟨(CIv.set (k := (300 + 2)) (CIv.set (k := (200 + 2)) (CIv.set (k := 4) hC (by decide)) (by decide)) (by decide)), (SBC.set (k := (300 + 2)) (SBC.set (k := (200 + 2)) (SBC.set (k := 4) (SBC.rf th) (by decide)) (by decide)) (by decide))⟩, hT⟩, hfr⟩) dX10_asOthers_119
            by_cases c57 : z1 = 1
            ·
              refine lv_lookup (off := 38) (tgt := 120) hx hb dX10_asOthers_82 (by decide) (by rw [c57]; decide) (by decide) ?_
              have hb58 : In z1 1 1 := by rw [c57]; exact ⟨by decide, by decide⟩
              refine lv_aload_n hx hb dX10_asOthers_120 rfl (lv_at hl 0 rfl) ?_
              obtain ⟨v15_59, v16_59, v17_59, hf60, hv15_59, hv16_59, hg16_59⟩ := hT.1 0 (by decide)
              have hg16_59 : v16_59.toInt = th 1 := hg16_59
              refine pl_get (v := .ref (cr ad 2 0)) hx hb hts (fun w h => mT (inX10 w h)) hown hG.1 hP (hst.1 0 (by decide)) hf60 rfl 10 (by decide) (hts _ (mT wg_485)) (fun _ h => h) rfl dX10_asOthers_121 ?_
              obtain ⟨v0_61, v1_61, v2_61, v3_61, v4_61, v5_61, v6_61, v7_61, v8_61, hf62, hv1_61, hg1_61, hv2_61, hg2_61, hv6_61⟩ := hT.2.1 2 (by decide) 0 (by decide)
              refine pl_getN (v := .int v4_61) hx hb hts (fun w h => mT (inX3 w h)) hown hG.1 hP (hst.c (by decide) (by decide)) hf62 rfl 4 (by decide) (hG.2.1 _ wn_345) (fun _ h => h) rfl dX10_asOthers_124 ?_
              exact ret_i (ty := .int) hx hb hr hlocks (rfl) hP hD hS (Nat.le_of_ble_eq_true rfl) (Nat.le_of_ble_eq_true rfl) (⟨rfl, ⟨(gset (gset (gset th 4 y49_s0.toInt) (200 + 2) zz44) (300 + 2) zz45), ⟨(CIv.set (k := (300 + 2)) (CIv.set (k := (200 + 2)) (CIv.set (k := 4) hC (by decide)) (by decide)) (by decide)), (SBC.set (k := (300 + 2)) (SBC.set (k := (200 + 2)) (SBC.set (k := 4) (SBC.rf th) (by decide)) (by decide)) (by decide))⟩, hT⟩, hfr⟩) dX10_asOthers_127
            refine lv_lookup (off := 46) (tgt := 128) hx hb dX10_asOthers_82 (by decide) (by simp [Op.lookupswitch.offset, ne_ti2 (k := 0) c46 (by decide), ne_ti2 (k := 1) c57 (by decide)]) (by decide) ?_
            ·
              have csc46 : z1.toInt ≠ 0 := fun e => i32_ne c46 (e.trans (by decide))
              have csc57 : z1.toInt ≠ 1 := fun e => i32_ne c57 (e.trans (by decide))
              have hb63 : In z1 2 2 := by obtain ⟨q1, q2⟩ := (hb36 : In _ _ _); exact ⟨by omega, by omega⟩
              refine lv_aload_n hx hb dX10_asOthers_128 rfl (lv_at hl 0 rfl) ?_
              obtain ⟨v15_64, v16_64, v17_64, hf65, hv15_64, hv16_64, hg16_64⟩ := hT.1 0 (by decide)
              have hg16_64 : v16_64.toInt = th 1 := hg16_64
              refine pl_get (v := .ref (cr ad 2 0)) hx hb hts (fun w h => mT (inX10 w h)) hown hG.1 hP (hst.1 0 (by decide)) hf65 rfl 10 (by decide) (hts _ (mT wg_485)) (fun _ h => h) rfl dX10_asOthers_129 ?_
              obtain ⟨v0_66, v1_66, v2_66, v3_66, v4_66, v5_66, v6_66, v7_66, v8_66, hf67, hv1_66, hg1_66, hv2_66, hg2_66, hv6_66⟩ := hT.2.1 2 (by decide) 0 (by decide)
              refine pl_getN (v := .int v3_66) hx hb hts (fun w h => mT (inX3 w h)) hown hG.1 hP (hst.c (by decide) (by decide)) hf67 rfl 3 (by decide) (hG.2.1 _ wn_343) (fun _ h => h) rfl dX10_asOthers_132 ?_
              exact ret_i (ty := .int) hx hb hr hlocks (rfl) hP hD hS (Nat.le_of_ble_eq_true rfl) (Nat.le_of_ble_eq_true rfl) (⟨rfl, ⟨(gset (gset (gset th 4 y49_s0.toInt) (200 + 2) zz44) (300 + 2) zz45), ⟨(CIv.set (k := (300 + 2)) (CIv.set (k := (200 + 2)) (CIv.set (k := 4) hC (by decide)) (by decide)) (by decide)), (SBC.set (k := (300 + 2)) (SBC.set (k := (200 + 2)) (SBC.set (k := 4) (SBC.rf th) (by decide)) (by decide)) (by decide))⟩, hT⟩, hfr⟩) dX10_asOthers_135
          ·
            have cc68 : z1.toInt = (3 : Int32).toInt := congrArg Int32.toInt c34
            have hb69 : In z1 3 3 := In.eq1 hb15 (⟨by decide, by decide⟩ : In 3 3 3) cc68 (by omega) (by omega)
            refine lv_aload_n hx hb dX10_asOthers_57 rfl (lv_at hl 0 rfl) ?_
            obtain ⟨v15_70, v16_70, v17_70, hf71, hv15_70, hv16_70, hg16_70⟩ := hT.1 0 (by decide)
            have hg16_70 : v16_70.toInt = th 1 := hg16_70
            refine pl_get (v := .ref (ad 7)) hx hb hts (fun w h => mT (inX10 w h)) hown hG.1 hP (hst.1 0 (by decide)) hf71 rfl 3 (by decide) (hts _ (mT wg_478)) (fun _ h => h) rfl dX10_asOthers_58 ?_
            obtain ⟨v0_72, v1_72, v2_72, v3_72, v4_72, v5_72, v6_72, v7_72, hf73, hv0_72, hg0_72, hv1_72, hv2_72, hv3_72, hv5_72, hv6_72⟩ := hT.1 7 (by decide)
            have hg0_72 : v0_72.toInt = y49_s0.toInt := hg0_72
            refine call_i (run_VN (rm := rm_X2_foretold_ot) hx hb hml hown hts (s_X2_foretold_ot l g ad (gset th 4 y49_s0.toInt) _ _ _  hst hT ) cV_X2_foretold wn_1001 ⟨Nat.le_of_ble_eq_true rfl, Nat.le_of_ble_eq_true rfl⟩ hG hE hA hP hD hS (hst.1 7 (by decide)) hf73 rfl rfl hl.1 (As := []) (rest := []) rfl (Nat.le_of_ble_eq_true rfl) dX10_asOthers_61 ⟨Nat.le_of_ble_eq_true rfl, Nat.le_of_ble_eq_true rfl⟩) hA hD hS (fun r74 L75 f76 H locs hp77 hP hD hS => ?_)
            obtain ⟨eL78L, eL78T⟩ := hp77
            have eL78L : L75 = L := eL78L
            have eL78T : f76 = f29 := eL78T
            rw [eL78L, eL78T] at hP hD
            exact ret_i (ty := .int) hx hb hr hlocks (rfl) hP hD hS (Nat.le_of_ble_eq_true rfl) (Nat.le_of_ble_eq_true rfl) (⟨rfl, ⟨(gset th 4 y49_s0.toInt), ⟨(CIv.set (k := 4) hC (by decide)), (SBC.set (k := 4) (SBC.rf th) (by decide))⟩, hT⟩, hfr⟩) dX10_asOthers_64
        refine lv_if_ne (tgt := 48) hx hb dX10_asOthers_41 (by decide) (fun c79 => ?_) (fun c79 => ?_)
        ·
          have cc80 : v0_25.toInt ≠ (0 : Int32).toInt := i32_ne c79
          have hb81 : In v0_25 1 1 := In.ne1 hv0_25 (⟨by decide, by decide⟩ : In 0 0 0) cc80 (by omega) (by omega)
          refine lv_iconst (v := 0) hx hb dX10_asOthers_48 (by decide) ?_
          exact hJ49 0 _ _ _ (⟨by decide, by decide⟩ : In 0 0 1) hP hD hS (lv_sub hl [0, 1] rfl)
        ·
          have cc82 : v0_25.toInt = (0 : Int32).toInt := congrArg Int32.toInt c79
          have hb83 : In v0_25 0 0 := In.eq1 hv0_25 (⟨by decide, by decide⟩ : In 0 0 0) cc82 (by omega) (by omega)
          refine lv_iconst (v := 1) hx hb dX10_asOthers_44 (by decide) ?_
          refine lv_goto (tgt := 49) hx hb dX10_asOthers_45 (by decide) ?_
          exact hJ49 1 _ _ _ (⟨by decide, by decide⟩ : In 1 0 1) hP hD hS (lv_sub hl [0, 1] rfl)
      ·
        have cc84 : (3 : Int32).toInt < z1.toInt := i32_nle c13
        have hb85 : In z1 4 2147483647 := In.gt1 hb12 (⟨by decide, by decide⟩ : In 3 3 3) cc84 (by omega) (by omega)
        exact hJ16 _ _ _ hP hD hS (lv_sub hl [0, 1] rfl)

abbrev rm_X10_byChance : Room := { frames := 6, cells := 0, slots := 0, locals := 152 }
abbrev po_X10_byChance (g : GG) (ad : Nat → Nat) (th : Nat → Int) (L : List Nat) (f : HP) (z1 : Int32) (z2 : Int64) (z3 : Int32) : Int32 → (List Nat × HP) → Prop := fun r u => u.1 = L ∧ (∃ th' : Nat → Int, (CIv th' ∧ SBC th th') ∧ TI g ad th' u.2) ∧ (∀ b, b ≠ (ad 14) → b ≠ (cr ad 2 0) → b ≠ (cr ad 2 2) → b ≠ (cr ad 2 3) → b ≠ (cr ad 2 4) → b ≠ (cr ad 2 5) → b ≠ (cr ad 2 6) → b ≠ (cr ad 2 7) → b ≠ (cr ad 2 8) → b ≠ (cr ad 2 9) → u.2 b = f b)
set_option maxHeartbeats 4000000 in
set_option maxRecDepth 100000 in
theorem s_X10_byChance (l : Launch) (g : GG) (ad : Nat → Nat) (th : Nat → Int) (L : List Nat) (f : HP) (sz : Nat) (z1 : Int32) (z2 : Int64) (z3 : Int32) (hst : ST ad L) (hT : TI g ad th f) (hC : CIv th) : MtI l g yX10_byChance cX10_byChance 10 (some .int) rm_X10_byChance [.ref (ad 0), .int z1, .long z2, .int z3] L f sz (po_X10_byChance g ad th L f z1 z2 z3) := by
  refine MtI.of (by decide +kernel) (Nat.le_of_ble_eq_true rfl) ?_
  intro p e s m below meth c A hEn hP hD hS ls hl
  obtain ⟨hx, hb, hr, hml, hown, hlocks, hts, hG, hA, hE, hnm⟩ := hEn
  have hown : s.vm.findClass "RulerWord" = some m.cls := hown
  have hl : lv_has ls 10 [(0, .ref (ad 0)), (1, .int z1), (2, .long z2), (4, .int z3)] := hl
  have hfr : (∀ b, b ≠ (ad 14) → b ≠ (cr ad 2 0) → b ≠ (cr ad 2 2) → b ≠ (cr ad 2 3) → b ≠ (cr ad 2 4) → b ≠ (cr ad 2 5) → b ≠ (cr ad 2 6) → b ≠ (cr ad 2 7) → b ≠ (cr ad 2 8) → b ≠ (cr ad 2 9) → f b = f b) := fun b z0_ z1_ z2_ z3_ z4_ z5_ z6_ z7_ z8_ z9_ => rfl
  refine lv_aload_n hx hb dX10_byChance_0 rfl (lv_at hl 0 rfl) ?_
  obtain ⟨v15_1, v16_1, v17_1, hf2, hv15_1, hv16_1, hg16_1⟩ := hT.1 0 (by decide)
  refine pl_get (v := .int v15_1) hx hb hts (fun w h => mT (inX10 w h)) hown hG.1 hP (hst.1 0 (by decide)) hf2 rfl 15 (by decide) (hts _ (mT wg_490)) (fun _ h => h) rfl dX10_byChance_1 ?_
  have hJ30 : ∀ (H : Heap) (locs : List Loc) (ls : Array Slot), va_P g.1 vwCl (va_pl L f) H → va_D A (va_pl L f) → va_S A s.heap H locs → lv_has ls 10 [(0, .ref (ad 0)), (1, .int z1), (2, .long z2), (4, .int z3)] → W p l e rm_X10_byChance s m [.ref (ad 0), .int z1, .long z2, .int z3].toArray below meth c H locs 0 0 (MQ below (va_Qi (po_X10_byChance g ad th L f z1 z2 z3) (PstB g A) A) [.ref (ad 0), .int z1, .long z2, .int z3].toArray s rm_X10_byChance.cells rm_X10_byChance.slots A) (F0 m 30 ls []) := by
    intro H locs ls hP hD hS hl
    refine lv_bipush (v := (-2)) hx hb dX10_byChance_30 (by decide) ?_
    exact ret_i (ty := .int) hx hb hr hlocks (rfl) hP hD hS (Nat.le_of_ble_eq_true rfl) (Nat.le_of_ble_eq_true rfl) (⟨rfl, ⟨th, ⟨hC, (SBC.rf th)⟩, hT⟩, hfr⟩) dX10_byChance_32
  refine lv_if_eq (tgt := 30) hx hb dX10_byChance_4 (by decide) (fun c3 => ?_) (fun c3 => ?_)
  ·
    have cc4 : v15_1.toInt = (0 : Int32).toInt := congrArg Int32.toInt c3
    have hb5 : In v15_1 0 0 := In.eq1 hv15_1 (⟨by decide, by decide⟩ : In 0 0 0) cc4 (by omega) (by omega)
    exact hJ30 _ _ _ hP hD hS (lv_sub hl [0, 1, 2, 3] rfl)
  ·
    have cc6 : v15_1.toInt ≠ (0 : Int32).toInt := i32_ne c3
    have hb7 : In v15_1 1 1 := In.ne1 hv15_1 (⟨by decide, by decide⟩ : In 0 0 0) cc6 (by omega) (by omega)
    refine lv_iload_n hx hb dX10_byChance_7 rfl (lv_at hl 1 rfl) ?_
    refine lv_iconst (v := 1) hx hb dX10_byChance_8 (by decide) ?_
    refine lv_icmp_lt (tgt := 30) hx hb dX10_byChance_9 (by decide) (fun c8 => ?_) (fun c8 => ?_)
    ·
      have cc9 : z1.toInt < (1 : Int32).toInt := i32_lt.mp c8
      have hb10 : In z1 (-2147483648) 0 := In.lt1 (In.full z1) (⟨by decide, by decide⟩ : In 1 1 1) cc9 (by omega) (by omega)
      exact hJ30 _ _ _ hP hD hS (lv_sub hl [0, 1, 2, 3] rfl)
    ·
      have cc11 : (1 : Int32).toInt ≤ z1.toInt := i32_nlt c8
      have hb12 : In z1 1 2147483647 := In.ge1 (In.full z1) (⟨by decide, by decide⟩ : In 1 1 1) cc11 (by omega) (by omega)
      refine lv_iload_n hx hb dX10_byChance_12 rfl (lv_at hl 1 rfl) ?_
      refine lv_sipush (v := 200) hx hb dX10_byChance_13 (by decide) ?_
      refine lv_icmp_gt (tgt := 30) hx hb dX10_byChance_16 (by decide) (fun c13 => ?_) (fun c13 => ?_)
      ·
        have cc14 : (200 : Int32).toInt < z1.toInt := i32_lt.mp c13
        have hb15 : In z1 201 2147483647 := In.gt1 hb12 (⟨by decide, by decide⟩ : In 200 200 200) cc14 (by omega) (by omega)
        exact hJ30 _ _ _ hP hD hS (lv_sub hl [0, 1, 2, 3] rfl)
      ·
        have cc16 : z1.toInt ≤ (200 : Int32).toInt := i32_nlt c13
        have hb17 : In z1 1 200 := In.le1 hb12 (⟨by decide, by decide⟩ : In 200 200 200) cc16 (by omega) (by omega)
        refine lv_iload hx hb dX10_byChance_19 (lv_at hl 3 rfl) ?_
        refine lv_if_lt (tgt := 30) hx hb dX10_byChance_21 (by decide) (fun c18 => ?_) (fun c18 => ?_)
        ·
          have cc19 : z3.toInt < (0 : Int32).toInt := i32_lt.mp c18
          have hb20 : In z3 (-2147483648) (-1) := In.lt1 (In.full z3) (⟨by decide, by decide⟩ : In 0 0 0) cc19 (by omega) (by omega)
          exact hJ30 _ _ _ hP hD hS (lv_sub hl [0, 1, 2, 3] rfl)
        ·
          have cc21 : (0 : Int32).toInt ≤ z3.toInt := i32_nlt c18
          have hb22 : In z3 0 2147483647 := In.ge1 (In.full z3) (⟨by decide, by decide⟩ : In 0 0 0) cc21 (by omega) (by omega)
          refine lv_iload hx hb dX10_byChance_24 (lv_at hl 3 rfl) ?_
          refine lv_iconst (v := 3) hx hb dX10_byChance_26 (by decide) ?_
          refine lv_icmp_le (tgt := 33) hx hb dX10_byChance_27 (by decide) (fun c23 => ?_) (fun c23 => ?_)
          ·
            have cc24 : z3.toInt ≤ (3 : Int32).toInt := i32_le.mp c23
            have hb25 : In z3 0 3 := In.le1 hb22 (⟨by decide, by decide⟩ : In 3 3 3) cc24 (by omega) (by omega)
            refine lv_iconst (v := 0) hx hb dX10_byChance_33 (by decide) ?_
            refine lv_istore (lv' := [(5, .int 0), (0, .ref (ad 0)), (1, .int z1), (2, .long z2), (4, .int z3)]) hx hb dX10_byChance_34 hl (by decide) rfl (fun ls hl => ?_)
            refine lv_iconst (v := 0) hx hb dX10_byChance_36 (by decide) ?_
            refine lv_istore (lv' := [(6, .int 0), (5, .int 0), (0, .ref (ad 0)), (1, .int z1), (2, .long z2), (4, .int z3)]) hx hb dX10_byChance_37 hl (by decide) rfl (fun ls hl => ?_)
            refine lv_iconst (v := (-1)) hx hb dX10_byChance_39 (by decide) ?_
            refine lv_istore (lv' := [(7, .int (-1)), (6, .int 0), (5, .int 0), (0, .ref (ad 0)), (1, .int z1), (2, .long z2), (4, .int z3)]) hx hb dX10_byChance_40 hl (by decide) rfl (fun ls hl => ?_)
            refine lv_iconst (v := 0) hx hb dX10_byChance_42 (by decide) ?_
            refine lv_istore (lv' := [(8, .int 0), (7, .int (-1)), (6, .int 0), (5, .int 0), (0, .ref (ad 0)), (1, .int z1), (2, .long z2), (4, .int z3)]) hx hb dX10_byChance_43 hl (by decide) rfl (fun ls hl => ?_)
            refine lv_iconst (v := 0) hx hb dX10_byChance_45 (by decide) ?_
            refine lv_istore (lv' := [(9, .int 0), (8, .int 0), (7, .int (-1)), (6, .int 0), (5, .int 0), (0, .ref (ad 0)), (1, .int z1), (2, .long z2), (4, .int z3)]) hx hb dX10_byChance_46 hl (by decide) rfl (fun ls hl => ?_)
            have hJ48 : ∀ (k48 : Nat) (th_48 : Nat → Int) (y48_l5 : Int32) (y48_l6 : Int32) (y48_l7 : Int32) (y48_l8 : Int32) (y48_l9 : Int32) (f_48 : HP) (H : Heap) (locs : List Loc) (ls : Array Slot), CIv th_48 ∧ SBC th th_48 → In y48_l5 (-2147483648) 2147483647 → In y48_l6 (-2147483648) 2147483647 → In y48_l7 (-1) 2147483647 → In y48_l8 (-2147483648) 2147483647 → In y48_l9 0 2147483647 → va_P g.1 vwCl (va_pl L f_48) H → va_D A (va_pl L f_48) → va_S A s.heap H locs → TI g ad th_48 f_48 → (∀ b, b ≠ (ad 14) → b ≠ (cr ad 2 0) → b ≠ (cr ad 2 2) → b ≠ (cr ad 2 3) → b ≠ (cr ad 2 4) → b ≠ (cr ad 2 5) → b ≠ (cr ad 2 6) → b ≠ (cr ad 2 7) → b ≠ (cr ad 2 8) → b ≠ (cr ad 2 9) → f_48 b = f b) → lv_has ls 10 [(0, .ref (ad 0)), (1, .int z1), (2, .long z2), (4, .int z3), (5, .int y48_l5), (6, .int y48_l6), (7, .int y48_l7), (8, .int y48_l8), (9, .int y48_l9)] → 2147483647 - y48_l9.toInt < ((k48 : Nat) : Int) → W p l e rm_X10_byChance s m [.ref (ad 0), .int z1, .long z2, .int z3].toArray below meth c H locs 0 0 (MQ below (va_Qi (po_X10_byChance g ad th L f z1 z2 z3) (PstB g A) A) [.ref (ad 0), .int z1, .long z2, .int z3].toArray s rm_X10_byChance.cells rm_X10_byChance.slots A) (F0 m 48 ls []) := by
              intro k48
              induction k48 with
              | zero =>
                intro th_48 y48_l5 y48_l6 y48_l7 y48_l8 y48_l9 f_48 H locs ls hth48 hy48_l5 hy48_l6 hy48_l7 hy48_l8 hy48_l9 hP hD hS hT hfr hl hmz48
                exact ms0 hy48_l9 hmz48
              | succ k48 ih48 =>
                intro th_48 y48_l5 y48_l6 y48_l7 y48_l8 y48_l9 f_48 H locs ls hth48 hy48_l5 hy48_l6 hy48_l7 hy48_l8 hy48_l9 hP hD hS hT hfr hl hmz48
                refine lv_iload hx hb dX10_byChance_48 (lv_at hl 8 rfl) ?_
                refine lv_iload_n hx hb dX10_byChance_50 rfl (lv_at hl 1 rfl) ?_
                refine lv_icmp_ge (tgt := 158) hx hb dX10_byChance_51 (by decide) (fun c26 => ?_) (fun c26 => ?_)
                ·
                  have cc27 : z1.toInt ≤ y48_l9.toInt := i32_le.mp c26
                  have hb28 : In y48_l9 1 2147483647 := In.ge1 hy48_l9 hb17 cc27 (by omega) (by omega)
                  refine lv_iload hx hb dX10_byChance_158 (lv_at hl 3 rfl) ?_
                  by_cases c29 : z3 = 0
                  ·
                    refine lv_tableIn (off := 28) (tgt := 188) hx hb dX10_byChance_160 (by rw [c29]; decide) (by rw [c29]; decide) (by rw [c29]; decide) (by decide) ?_
                    have hb30 : In z3 0 0 := by rw [c29]; exact ⟨by decide, by decide⟩
                    refine lv_iload hx hb dX10_byChance_188 (lv_at hl 4 rfl) ?_
                    exact ret_i (ty := .int) hx hb hr hlocks (rfl) hP hD hS (Nat.le_of_ble_eq_true rfl) (Nat.le_of_ble_eq_true rfl) (⟨rfl, ⟨th_48, ⟨(hth48).1, (hth48).2⟩, hT⟩, hfr⟩) dX10_byChance_190
                  by_cases c31 : z3 = 1
                  ·
                    refine lv_tableIn (off := 31) (tgt := 191) hx hb dX10_byChance_160 (by rw [c31]; decide) (by rw [c31]; decide) (by rw [c31]; decide) (by decide) ?_
                    have hb32 : In z3 1 1 := by rw [c31]; exact ⟨by decide, by decide⟩
                    refine lv_iload hx hb dX10_byChance_191 (lv_at hl 5 rfl) ?_
                    exact ret_i (ty := .int) hx hb hr hlocks (rfl) hP hD hS (Nat.le_of_ble_eq_true rfl) (Nat.le_of_ble_eq_true rfl) (⟨rfl, ⟨th_48, ⟨(hth48).1, (hth48).2⟩, hT⟩, hfr⟩) dX10_byChance_193
                  by_cases c33 : z3 = 2
                  ·
                    refine lv_tableIn (off := 34) (tgt := 194) hx hb dX10_byChance_160 (by rw [c33]; decide) (by rw [c33]; decide) (by rw [c33]; decide) (by decide) ?_
                    have hb34 : In z3 2 2 := by rw [c33]; exact ⟨by decide, by decide⟩
                    refine lv_iload hx hb dX10_byChance_194 (lv_at hl 6 rfl) ?_
                    exact ret_i (ty := .int) hx hb hr hlocks (rfl) hP hD hS (Nat.le_of_ble_eq_true rfl) (Nat.le_of_ble_eq_true rfl) (⟨rfl, ⟨th_48, ⟨(hth48).1, (hth48).2⟩, hT⟩, hfr⟩) dX10_byChance_196
                  refine lv_tableOut (tgt := 197) hx hb dX10_byChance_160 (tb_out (by decide) (by decide) (fun k h1 h2 => ?_)) (by decide) ?_
                  · rcases (show k = 0 ∨ k = 1 ∨ k = 2 by omega) with rfl | rfl | rfl
                    · exact fun e => c29 (e.trans (by decide))
                    · exact fun e => c31 (e.trans (by decide))
                    · exact fun e => c33 (e.trans (by decide))
                  ·
                    have csc29 : z3.toInt ≠ 0 := fun e => i32_ne c29 (e.trans (by decide))
                    have csc31 : z3.toInt ≠ 1 := fun e => i32_ne c31 (e.trans (by decide))
                    have csc33 : z3.toInt ≠ 2 := fun e => i32_ne c33 (e.trans (by decide))
                    have hb35 : In z3 3 3 := by obtain ⟨q1, q2⟩ := (hb25 : In _ _ _); exact ⟨by omega, by omega⟩
                    refine lv_iload hx hb dX10_byChance_197 (lv_at hl 7 rfl) ?_
                    exact ret_i (ty := .int) hx hb hr hlocks (rfl) hP hD hS (Nat.le_of_ble_eq_true rfl) (Nat.le_of_ble_eq_true rfl) (⟨rfl, ⟨th_48, ⟨(hth48).1, (hth48).2⟩, hT⟩, hfr⟩) dX10_byChance_199
                ·
                  have cc36 : y48_l9.toInt < z1.toInt := i32_nle c26
                  have hb37 : In y48_l9 0 199 := In.lt1 hy48_l9 hb17 cc36 (by omega) (by omega)
                  refine lv_aload_n hx hb dX10_byChance_54 rfl (lv_at hl 0 rfl) ?_
                  refine lv_aload_n hx hb dX10_byChance_55 rfl (lv_at hl 0 rfl) ?_
                  obtain ⟨v15_38, v16_38, v17_38, hf39, hv15_38, hv16_38, hg16_38⟩ := hT.1 0 (by decide)
                  have hg16_38 : v16_38.toInt = th_48 1 := hg16_38
                  refine pl_get (v := .ref (ad 6)) hx hb hts (fun w h => mT (inX10 w h)) hown hG.1 hP (hst.1 0 (by decide)) hf39 rfl 2 (by decide) (hts _ (mT wg_477)) (fun _ h => h) rfl dX10_byChance_56 ?_
                  refine lv_aload_n hx hb dX10_byChance_59 rfl (lv_at hl 0 rfl) ?_
                  refine pl_get (v := .ref (ad 14)) hx hb hts (fun w h => mT (inX10 w h)) hown hG.1 hP (hst.1 0 (by decide)) hf39 rfl 6 (by decide) (hts _ (mT wg_481)) (fun _ h => h) rfl dX10_byChance_60 ?_
                  refine lv_lload_n hx hb dX10_byChance_63 rfl (lv_at hl 2 rfl) ?_
                  refine lv_iload hx hb dX10_byChance_64 (lv_at hl 8 rfl) ?_
                  refine lv_i2l hx hb dX10_byChance_66 rfl ?_
                  refine lv_ladd hx hb dX10_byChance_67 ?_
                  refine lv_topl (fun x40 ex40 => ?_)
                  refine call_v (run_V (rm := rm_X10_playTrial_co_ch) hx hb hml hown hts (s_X10_playTrial_co_ch l g ad th_48 _ _ _ x40 hst hT ) cV_X10_playTrial wg_1177 ⟨Nat.le_of_ble_eq_true rfl, Nat.le_of_ble_eq_true rfl⟩ hG hE hA hP hD hS (hst.1 0 (by decide)) hf39 rfl rfl hl.1 (As := [.ref (ad 6), .ref (ad 14), .long x40]) (rest := []) rfl (Nat.le_of_ble_eq_true rfl) dX10_byChance_68 ⟨Nat.le_of_ble_eq_true rfl, Nat.le_of_ble_eq_true rfl⟩) hA hD hS (fun L42 f43 H locs hp44 hP hD hS => ?_)
                  obtain ⟨eL45L, eL45T, eL45F⟩ := hp44
                  have eL45L : L42 = L := eL45L
                  rw [eL45L] at hP hD
                  obtain ⟨zz46, zz47, hzz46, eL45T⟩ := eL45T
                  have hT : TI g ad (gset (gset th_48 (200 + 2) zz46) (300 + 2) zz47) f43 := eL45T
                  have eL45F : ∀ b, b ≠ (ad 14) → b ≠ (cr ad 2 0) → b ≠ (cr ad 2 2) → b ≠ (cr ad 2 3) → b ≠ (cr ad 2 4) → b ≠ (cr ad 2 5) → b ≠ (cr ad 2 6) → b ≠ (cr ad 2 7) → b ≠ (cr ad 2 8) → b ≠ (cr ad 2 9) → f43 b = f_48 b := eL45F
                  have hfr : (∀ b, b ≠ (ad 14) → b ≠ (cr ad 2 0) → b ≠ (cr ad 2 2) → b ≠ (cr ad 2 3) → b ≠ (cr ad 2 4) → b ≠ (cr ad 2 5) → b ≠ (cr ad 2 6) → b ≠ (cr ad 2 7) → b ≠ (cr ad 2 8) → b ≠ (cr ad 2 9) → f43 b = f b) := fun b z0_ z1_ z2_ z3_ z4_ z5_ z6_ z7_ z8_ z9_ => (eL45F b z0_ z1_ z2_ z3_ z4_ z5_ z6_ z7_ z8_ z9_).trans (hfr b z0_ z1_ z2_ z3_ z4_ z5_ z6_ z7_ z8_ z9_)
                  refine lv_iload hx hb dX10_byChance_71 (lv_at hl 5 rfl) ?_
                  refine lv_aload_n hx hb dX10_byChance_73 rfl (lv_at hl 0 rfl) ?_
                  obtain ⟨v15_48, v16_48, v17_48, hf49, hv15_48, hv16_48, hg16_48⟩ := hT.1 0 (by decide)
                  have hg16_48 : v16_48.toInt = th_48 1 := hg16_48
                  refine pl_get (v := .ref (cr ad 2 0)) hx hb hts (fun w h => mT (inX10 w h)) hown hG.1 hP (hst.1 0 (by decide)) hf49 rfl 10 (by decide) (hts _ (mT wg_485)) (fun _ h => h) rfl dX10_byChance_74 ?_
                  obtain ⟨v0_50, v1_50, v2_50, v3_50, v4_50, v5_50, v6_50, v7_50, v8_50, hf51, hv1_50, hg1_50, hv2_50, hg2_50, hv6_50⟩ := hT.2.1 2 (by decide) 0 (by decide)
                  refine pl_getN (v := .int v4_50) hx hb hts (fun w h => mT (inX3 w h)) hown hG.1 hP (hst.c (by decide) (by decide)) hf51 rfl 4 (by decide) (hG.2.1 _ wn_345) (fun _ h => h) rfl dX10_byChance_77 ?_
                  refine lv_iadd hx hb dX10_byChance_80 ?_
                  refine lv_topi (fun x52 ex52 => ?_)
                  refine lv_istore (lv' := [(6, .int x52), (0, .ref (ad 0)), (1, .int z1), (2, .long z2), (4, .int z3), (5, .int y48_l5), (7, .int y48_l7), (8, .int y48_l8), (9, .int y48_l9)]) hx hb dX10_byChance_81 hl (by decide) rfl (fun ls hl => ?_)
                  refine lv_aload_n hx hb dX10_byChance_83 rfl (lv_at hl 1 rfl) ?_
                  refine pl_get (v := .ref (cr ad 2 0)) hx hb hts (fun w h => mT (inX10 w h)) hown hG.1 hP (hst.1 0 (by decide)) hf49 rfl 10 (by decide) (hts _ (mT wg_485)) (fun _ h => h) rfl dX10_byChance_84 ?_
                  refine lv_aload_n hx hb dX10_byChance_87 rfl (lv_at hl 1 rfl) ?_
                  refine pl_get (v := .ref (ad 6)) hx hb hts (fun w h => mT (inX10 w h)) hown hG.1 hP (hst.1 0 (by decide)) hf49 rfl 2 (by decide) (hts _ (mT wg_477)) (fun _ h => h) rfl dX10_byChance_88 ?_
                  refine lv_aload_n hx hb dX10_byChance_91 rfl (lv_at hl 1 rfl) ?_
                  refine pl_get (v := .ref (cr ad 2 0)) hx hb hts (fun w h => mT (inX10 w h)) hown hG.1 hP (hst.1 0 (by decide)) hf49 rfl 10 (by decide) (hts _ (mT wg_485)) (fun _ h => h) rfl dX10_byChance_92 ?_
                  refine pl_getN (v := .int v3_50) hx hb hts (fun w h => mT (inX3 w h)) hown hG.1 hP (hst.c (by decide) (by decide)) hf51 rfl 3 (by decide) (hG.2.1 _ wn_343) (fun _ h => h) rfl dX10_byChance_95 ?_
                  refine call_i (run_VN (rm := rm_X3_alike_co) hx hb hml hown hts (s_X3_alike_co l g ad (gset (gset th_48 (200 + 2) zz46) (300 + 2) zz47) _ _ _ 2 v3_50 hst hT (by decide)) cV_X3_alike wn_985 ⟨Nat.le_of_ble_eq_true rfl, Nat.le_of_ble_eq_true rfl⟩ hG hE hA hP hD hS (hst.c (by decide) (by decide)) hf51 rfl rfl hl.1 (As := [.ref (ad 6), .int v3_50]) (rest := []) rfl (Nat.le_of_ble_eq_true rfl) dX10_byChance_98 ⟨Nat.le_of_ble_eq_true rfl, Nat.le_of_ble_eq_true rfl⟩) hA hD hS (fun r53 L54 f55 H locs hp56 hP hD hS => ?_)
                  obtain ⟨eL57L, eL57T, eL57R⟩ := hp56
                  have eL57L : L54 = L := eL57L
                  have eL57T : f55 = f43 := eL57T
                  rw [eL57L, eL57T] at hP hD
                  have eL57R : In r53 0 1 := eL57R
                  have hJ152 : ∀ (y152_l5 : Int32) (y152_l7 : Int32) (y152_l8 : Int32) (H : Heap) (locs : List Loc) (ls : Array Slot), In y152_l5 (-2147483648) 2147483647 → In y152_l7 (-1) 2147483647 → In y152_l8 (-2147483648) 2147483647 → va_P g.1 vwCl (va_pl L f43) H → va_D A (va_pl L f43) → va_S A s.heap H locs → lv_has ls 10 [(0, .ref (ad 0)), (1, .int z1), (2, .long z2), (4, .int z3), (5, .int y152_l5), (6, .int x52), (7, .int y152_l7), (8, .int y152_l8), (9, .int y48_l9)] → W p l e rm_X10_byChance s m [.ref (ad 0), .int z1, .long z2, .int z3].toArray below meth c H locs 0 0 (MQ below (va_Qi (po_X10_byChance g ad th L f z1 z2 z3) (PstB g A) A) [.ref (ad 0), .int z1, .long z2, .int z3].toArray s rm_X10_byChance.cells rm_X10_byChance.slots A) (F0 m 152 ls []) := by
                    intro y152_l5 y152_l7 y152_l8 H locs ls hy152_l5 hy152_l7 hy152_l8 hP hD hS hl
                    obtain ⟨x58, ex58⟩ : ∃ y : Int32, y = y48_l9 + 1 := ⟨_, rfl⟩
                    have hb59 : In x58 1 200 := ex58 ▸ In.add hb37 (⟨by decide, by decide⟩ : In 1 1 1) (by decide) (by decide) (by decide) (by decide)
                    have et60 : x58.toInt = y48_l9.toInt + 1 := In.adde ex58 hb37 (k := 1) (by decide) (by decide) (by decide)
                    refine lv_iinc (v := x58) (lv' := [(9, .int x58), (0, .ref (ad 0)), (1, .int z1), (2, .long z2), (4, .int z3), (5, .int y152_l5), (6, .int x52), (7, .int y152_l7), (8, .int y152_l8)]) hx hb dX10_byChance_152 hl (k := 8) rfl (by rw [ex58]; rfl) (by decide) rfl (fun ls hl => ?_)
                    refine lv_goto (tgt := 48) hx hb dX10_byChance_155 (by decide) ?_
                    exact ih48 (gset (gset th_48 (200 + 2) zz46) (300 + 2) zz47) y152_l5 x52 y152_l7 y152_l8 x58 _ _ _ _ (⟨(CIv.set (k := (300 + 2)) (CIv.set (k := (200 + 2)) (hth48).1 (by decide)) (by decide)), (SBC.set (k := (300 + 2)) (SBC.set (k := (200 + 2)) (hth48).2 (by decide)) (by decide))⟩) hy152_l5 (In.full x52) hy152_l7 hy152_l8 (In.mono hb59 (by decide) (by decide)) hP hD hS hT hfr (lv_sub hl [1, 2, 3, 4, 5, 6, 7, 8, 0] rfl) (msu et60 (by decide) hmz48)
                  refine lv_if_eq (tgt := 142) hx hb dX10_byChance_101 (by decide) (fun c61 => ?_) (fun c61 => ?_)
                  ·
                    have cc62 : r53.toInt = (0 : Int32).toInt := congrArg Int32.toInt c61
                    have hb63 : In r53 0 0 := In.eq1 eL57R (⟨by decide, by decide⟩ : In 0 0 0) cc62 (by omega) (by omega)
                    refine lv_iload hx hb dX10_byChance_142 (lv_at hl 6 rfl) ?_
                    refine lv_iconst (v := (-1)) hx hb dX10_byChance_144 (by decide) ?_
                    refine lv_icmp_ne (tgt := 152) hx hb dX10_byChance_145 (by decide) (fun c64 => ?_) (fun c64 => ?_)
                    ·
                      have cc65 : y48_l7.toInt ≠ ((-1) : Int32).toInt := i32_ne c64
                      have hb66 : In y48_l7 0 2147483647 := In.ne1 hy48_l7 (⟨by decide, by decide⟩ : In (-1) (-1) (-1)) cc65 (by omega) (by omega)
                      exact hJ152 y48_l5 y48_l7 y48_l8 _ _ _ hy48_l5 (In.mono hb66 (by decide) (by decide)) hy48_l8 hP hD hS (lv_sub hl [1, 2, 3, 4, 5, 0, 6, 7, 8] rfl)
                    ·
                      have cc67 : y48_l7.toInt = ((-1) : Int32).toInt := congrArg Int32.toInt c64
                      have hb68 : In y48_l7 (-1) (-1) := In.eq1 hy48_l7 (⟨by decide, by decide⟩ : In (-1) (-1) (-1)) cc67 (by omega) (by omega)
                      refine lv_iload hx hb dX10_byChance_148 (lv_at hl 8 rfl) ?_
                      refine lv_istore (lv' := [(7, .int y48_l9), (6, .int x52), (0, .ref (ad 0)), (1, .int z1), (2, .long z2), (4, .int z3), (5, .int y48_l5), (8, .int y48_l8), (9, .int y48_l9)]) hx hb dX10_byChance_150 hl (by decide) rfl (fun ls hl => ?_)
                      exact hJ152 y48_l5 y48_l9 y48_l8 _ _ _ hy48_l5 (In.mono hb37 (by decide) (by decide)) hy48_l8 hP hD hS (lv_sub hl [2, 3, 4, 5, 6, 1, 0, 7, 8] rfl)
                  ·
                    have cc69 : r53.toInt ≠ (0 : Int32).toInt := i32_ne c61
                    have hb70 : In r53 1 1 := In.ne1 eL57R (⟨by decide, by decide⟩ : In 0 0 0) cc69 (by omega) (by omega)
                    obtain ⟨x71, ex71⟩ : ∃ y : Int32, y = y48_l5 + 1 := ⟨_, rfl⟩
                    refine lv_iinc (v := x71) (lv' := [(5, .int x71), (6, .int x52), (0, .ref (ad 0)), (1, .int z1), (2, .long z2), (4, .int z3), (7, .int y48_l7), (8, .int y48_l8), (9, .int y48_l9)]) hx hb dX10_byChance_104 hl (k := 5) rfl (by rw [ex71]; rfl) (by decide) rfl (fun ls hl => ?_)
                    refine lv_iload hx hb dX10_byChance_107 (lv_at hl 7 rfl) ?_
                    refine lv_aload_n hx hb dX10_byChance_109 rfl (lv_at hl 2 rfl) ?_
                    refine pl_get (v := .ref (cr ad 2 0)) hx hb hts (fun w h => mT (inX10 w h)) hown hG.1 hP (hst.1 0 (by decide)) hf49 rfl 10 (by decide) (hts _ (mT wg_485)) (fun _ h => h) rfl dX10_byChance_110 ?_
                    refine pl_getN (v := .int v3_50) hx hb hts (fun w h => mT (inX3 w h)) hown hG.1 hP (hst.c (by decide) (by decide)) hf51 rfl 3 (by decide) (hG.2.1 _ wn_343) (fun _ h => h) rfl dX10_byChance_113 ?_
                    refine lv_aload_n hx hb dX10_byChance_116 rfl (lv_at hl 2 rfl) ?_
                    refine pl_get (v := .ref (cr ad 2 0)) hx hb hts (fun w h => mT (inX10 w h)) hown hG.1 hP (hst.1 0 (by decide)) hf49 rfl 10 (by decide) (hts _ (mT wg_485)) (fun _ h => h) rfl dX10_byChance_117 ?_
                    refine lv_aload_n hx hb dX10_byChance_120 rfl (lv_at hl 2 rfl) ?_
                    refine pl_get (v := .ref (ad 6)) hx hb hts (fun w h => mT (inX10 w h)) hown hG.1 hP (hst.1 0 (by decide)) hf49 rfl 2 (by decide) (hts _ (mT wg_477)) (fun _ h => h) rfl dX10_byChance_121 ?_
                    refine call_i (run_VN (rm := rm_X3_trues_co) hx hb hml hown hts (s_X3_trues_co l g ad (gset (gset th_48 (200 + 2) zz46) (300 + 2) zz47) _ _ _ 2 hst hT (by decide)) cV_X3_trues wn_986 ⟨Nat.le_of_ble_eq_true rfl, Nat.le_of_ble_eq_true rfl⟩ hG hE hA hP hD hS (hst.c (by decide) (by decide)) hf51 rfl rfl hl.1 (As := [.ref (ad 6)]) (rest := [.int v3_50, .int y48_l8]) rfl (Nat.le_of_ble_eq_true rfl) dX10_byChance_124 ⟨Nat.le_of_ble_eq_true rfl, Nat.le_of_ble_eq_true rfl⟩) hA hD hS (fun r72 L73 f74 H locs hp75 hP hD hS => ?_)
                    obtain ⟨eL76L, eL76T, eL76R⟩ := hp75
                    have eL76L : L73 = L := eL76L
                    have eL76T : f74 = f43 := eL76T
                    rw [eL76L, eL76T] at hP hD
                    have eL76R : In r72 0 511 := eL76R
                    refine lv_iand hx hb dX10_byChance_127 ?_
                    refine lv_topi (fun x77 ex77 => ?_)
                    have hb78 : In x77 0 511 := ex77 ▸ In.andr eL76R (by decide)
                    have hJ136 : ∀ (y136_s0 : Int32) (H : Heap) (locs : List Loc) (ls : Array Slot), In y136_s0 0 1 → va_P g.1 vwCl (va_pl L f43) H → va_D A (va_pl L f43) → va_S A s.heap H locs → lv_has ls 10 [(0, .ref (ad 0)), (1, .int z1), (2, .long z2), (4, .int z3), (5, .int x71), (6, .int x52), (7, .int y48_l7), (8, .int y48_l8), (9, .int y48_l9)] → W p l e rm_X10_byChance s m [.ref (ad 0), .int z1, .long z2, .int z3].toArray below meth c H locs 0 0 (MQ below (va_Qi (po_X10_byChance g ad th L f z1 z2 z3) (PstB g A) A) [.ref (ad 0), .int z1, .long z2, .int z3].toArray s rm_X10_byChance.cells rm_X10_byChance.slots A) (F0 m 136 ls [.int y136_s0, .int y48_l8]) := by
                      intro y136_s0 H locs ls hy136_s0 hP hD hS hl
                      refine lv_iadd hx hb dX10_byChance_136 ?_
                      refine lv_topi (fun x79 ex79 => ?_)
                      refine lv_istore (lv' := [(8, .int x79), (0, .ref (ad 0)), (1, .int z1), (2, .long z2), (4, .int z3), (5, .int x71), (6, .int x52), (7, .int y48_l7), (9, .int y48_l9)]) hx hb dX10_byChance_137 hl (by decide) rfl (fun ls hl => ?_)
                      refine lv_goto (tgt := 152) hx hb dX10_byChance_139 (by decide) ?_
                      exact hJ152 x71 y48_l7 x79 _ _ _ (In.full x71) hy48_l7 (In.full x79) hP hD hS (lv_sub hl [1, 2, 3, 4, 5, 6, 7, 0, 8] rfl)
                    refine lv_if_eq (tgt := 135) hx hb dX10_byChance_128 (by decide) (fun c80 => ?_) (fun c80 => ?_)
                    ·
                      have cc81 : x77.toInt = (0 : Int32).toInt := congrArg Int32.toInt c80
                      have hb82 : In x77 0 0 := In.eq1 hb78 (⟨by decide, by decide⟩ : In 0 0 0) cc81 (by omega) (by omega)
                      refine lv_iconst (v := 0) hx hb dX10_byChance_135 (by decide) ?_
                      exact hJ136 0 _ _ _ (⟨by decide, by decide⟩ : In 0 0 1) hP hD hS (lv_sub hl [2, 3, 4, 5, 0, 1, 6, 7, 8] rfl)
                    ·
                      have cc83 : x77.toInt ≠ (0 : Int32).toInt := i32_ne c80
                      have hb84 : In x77 1 511 := In.ne1 hb78 (⟨by decide, by decide⟩ : In 0 0 0) cc83 (by omega) (by omega)
                      refine lv_iconst (v := 1) hx hb dX10_byChance_131 (by decide) ?_
                      refine lv_goto (tgt := 136) hx hb dX10_byChance_132 (by decide) ?_
                      exact hJ136 1 _ _ _ (⟨by decide, by decide⟩ : In 1 0 1) hP hD hS (lv_sub hl [2, 3, 4, 5, 0, 1, 6, 7, 8] rfl)
            exact hJ48 ((2147483647 - (0 : Int32).toInt).toNat + 1) th 0 0 (-1) 0 0 _ _ _ _ (⟨hC, (SBC.rf th)⟩) (⟨by decide, by decide⟩ : In 0 (-2147483648) 2147483647) (⟨by decide, by decide⟩ : In 0 (-2147483648) 2147483647) (⟨by decide, by decide⟩ : In (-1) (-1) 2147483647) (⟨by decide, by decide⟩ : In 0 (-2147483648) 2147483647) (⟨by decide, by decide⟩ : In 0 0 2147483647) hP hD hS hT hfr (lv_sub hl [5, 6, 7, 8, 4, 3, 2, 1, 0] rfl) (msI _)
          ·
            have cc85 : (3 : Int32).toInt < z3.toInt := i32_nle c23
            have hb86 : In z3 4 2147483647 := In.gt1 hb22 (⟨by decide, by decide⟩ : In 3 3 3) cc85 (by omega) (by omega)
            exact hJ30 _ _ _ hP hD hS (lv_sub hl [0, 1, 2, 3] rfl)

abbrev rm_X10_weakest : Room := { frames := 27, cells := 0, slots := 0, locals := 916 }
abbrev po_X10_weakest (g : GG) (ad : Nat → Nat) (th : Nat → Int) (L : List Nat) (f : HP)  : Int32 → (List Nat × HP) → Prop := fun r u => u.1 = L ∧ TI g ad th u.2 ∧ (∀ b, b ≠ (ad 18) → b ≠ (ad 19) → b ≠ (ad 20) → b ≠ (ad 21) → b ≠ (ad 22) → b ≠ (ad 23) → b ≠ (ad 8) → u.2 b = f b)
set_option maxHeartbeats 4000000 in
set_option maxRecDepth 100000 in
theorem s_X10_weakest (l : Launch) (g : GG) (ad : Nat → Nat) (th : Nat → Int) (L : List Nat) (f : HP) (sz : Nat)  (hst : ST ad L) (hT : TI g ad th f) (hC : CIv th) : MtI l g yX10_weakest cX10_weakest 4 (some .int) rm_X10_weakest [.ref (ad 0)] L f sz (po_X10_weakest g ad th L f ) := by
  refine MtI.of (by decide +kernel) (Nat.le_of_ble_eq_true rfl) ?_
  intro p e s m below meth c A hEn hP hD hS ls hl
  obtain ⟨hx, hb, hr, hml, hown, hlocks, hts, hG, hA, hE, hnm⟩ := hEn
  have hown : s.vm.findClass "RulerWord" = some m.cls := hown
  have hl : lv_has ls 4 [(0, .ref (ad 0))] := hl
  have hfr : (∀ b, b ≠ (ad 18) → b ≠ (ad 19) → b ≠ (ad 20) → b ≠ (ad 21) → b ≠ (ad 22) → b ≠ (ad 23) → b ≠ (ad 8) → f b = f b) := fun b z0_ z1_ z2_ z3_ z4_ z5_ z6_ => rfl
  refine lv_aload_n hx hb dX10_weakest_0 rfl (lv_at hl 0 rfl) ?_
  obtain ⟨v15_1, v16_1, v17_1, hf2, hv15_1, hv16_1, hg16_1⟩ := hT.1 0 (by decide)
  refine pl_get (v := .int v15_1) hx hb hts (fun w h => mT (inX10 w h)) hown hG.1 hP (hst.1 0 (by decide)) hf2 rfl 15 (by decide) (hts _ (mT wg_490)) (fun _ h => h) rfl dX10_weakest_1 ?_
  refine lv_if_ne (tgt := 10) hx hb dX10_weakest_4 (by decide) (fun c3 => ?_) (fun c3 => ?_)
  ·
    have oc0 : (0 : Int32).toInt = 0 := by decide
    have cc4 : v15_1.toInt ≠ (0 : Int32).toInt := i32_ne c3
    have hb5 : In v15_1 1 1 := In.ne1 hv15_1 (⟨by decide, by decide⟩ : In 0 0 0) cc4 (by omega) (by omega)
    refine lv_iconst (v := (-1)) hx hb dX10_weakest_10 (by decide) ?_
    refine lv_istore_n (lv' := [(1, .int (-1)), (0, .ref (ad 0))]) hx hb dX10_weakest_11 rfl hl (by decide) rfl (fun ls hl => ?_)
    refine lv_aload_n hx hb dX10_weakest_12 rfl (lv_at hl 1 rfl) ?_
    refine pl_get (v := .ref (ad 6)) hx hb hts (fun w h => mT (inX10 w h)) hown hG.1 hP (hst.1 0 (by decide)) hf2 rfl 2 (by decide) (hts _ (mT wg_477)) (fun _ h => h) rfl dX10_weakest_13 ?_
    obtain ⟨v0_6, v1_6, v2_6, v3_6, v4_6, v5_6, v6_6, v7_6, hf7, hv0_6, hg0_6, hv1_6, hg1_6, hv2_6, hv3_6, hv5_6, hv6_6, hrel0_6⟩ := hT.1 6 (by decide)
    refine pl_getN (v := .int v1_6) hx hb hts (fun w h => mT (inX2 w h)) hown hG.1 hP (hst.1 6 (by decide)) hf7 rfl 1 (by decide) (hG.2.1 _ wn_230) (fun _ h => h) rfl dX10_weakest_16 ?_
    refine lv_iconst (v := 1) hx hb dX10_weakest_19 (by decide) ?_
    refine lv_isub hx hb dX10_weakest_20 ?_
    refine lv_topi (fun x8 ex8 => ?_)
    have hb9 : In x8 (-1) 8 := ex8 ▸ In.sub hv1_6 (⟨by decide, by decide⟩ : In 1 1 1) (by decide) (by decide) (by decide) (by decide)
    have et10 : x8.toInt = v1_6.toInt + (-1) := In.sube ex8 hv1_6 (k := 1) (by decide) (by decide) (by decide)
    refine lv_istore_n (lv' := [(2, .int x8), (1, .int (-1)), (0, .ref (ad 0))]) hx hb dX10_weakest_21 rfl hl (by decide) rfl (fun ls hl => ?_)
    have hJ22 : ∀ (k22 : Nat) (y22_l1 : Int32) (y22_l2 : Int32) (f_22 : HP) (H : Heap) (locs : List Loc) (ls : Array Slot), In y22_l1 (-1) 8 → In y22_l2 (-1) 8 → va_P g.1 vwCl (va_pl L f_22) H → va_D A (va_pl L f_22) → va_S A s.heap H locs → TI g ad th f_22 → (∀ b, b ≠ (ad 18) → b ≠ (ad 19) → b ≠ (ad 20) → b ≠ (ad 21) → b ≠ (ad 22) → b ≠ (ad 23) → b ≠ (ad 8) → f_22 b = f b) → f_22 (ad 0) = .inr (9, [.ref (ad 1), .ref (ad 5), .ref (ad 6), .ref (ad 7), .ref (ad 9), .ref (ad 13), .ref (ad 14), .ref (ad 15), .ref (cr ad 0 0), .ref (cr ad 1 0), .ref (cr ad 2 0), .ref (ad 16), .ref (ad 18), .ref (ad 3), .ref (ad 24), .int v15_1, .int v16_1, .long v17_1]) → f_22 (ad 6) = .inr (2, [.int v0_6, .int v1_6, .int v2_6, .int v3_6, .int v4_6, .int v5_6, .int v6_6, .int v7_6]) → y22_l2.toInt < v1_6.toInt → lv_has ls 4 [(0, .ref (ad 0)), (1, .int y22_l1), (2, .int y22_l2)] → y22_l2.toInt - (-1) < ((k22 : Nat) : Int) → W p l e rm_X10_weakest s m [.ref (ad 0)].toArray below meth c H locs 0 0 (MQ below (va_Qi (po_X10_weakest g ad th L f ) (PstB g A) A) [.ref (ad 0)].toArray s rm_X10_weakest.cells rm_X10_weakest.slots A) (F0 m 22 ls []) := by
      intro k22
      induction k22 with
      | zero =>
        intro y22_l1 y22_l2 f_22 H locs ls hy22_l1 hy22_l2 hP hD hS hT hfr hf11 hf12 hinv22_0 hl hmz22
        exact ms0d hy22_l2 hmz22
      | succ k22 ih22 =>
        intro y22_l1 y22_l2 f_22 H locs ls hy22_l1 hy22_l2 hP hD hS hT hfr hf11 hf12 hinv22_0 hl hmz22
        refine lv_iload_n hx hb dX10_weakest_22 rfl (lv_at hl 2 rfl) ?_
        refine lv_if_lt (tgt := 122) hx hb dX10_weakest_23 (by decide) (fun c13 => ?_) (fun c13 => ?_)
        ·
          have oc0 : (0 : Int32).toInt = 0 := by decide
          have cc14 : y22_l2.toInt < (0 : Int32).toInt := i32_lt.mp c13
          have hb15 : In y22_l2 (-1) (-1) := In.lt1 hy22_l2 (⟨by decide, by decide⟩ : In 0 0 0) cc14 (by omega) (by omega)
          refine lv_iload_n hx hb dX10_weakest_122 rfl (lv_at hl 1 rfl) ?_
          exact ret_i (ty := .int) hx hb hr hlocks (rfl) hP hD hS (Nat.le_of_ble_eq_true rfl) (Nat.le_of_ble_eq_true rfl) (⟨rfl, hT, hfr⟩) dX10_weakest_123
        ·
          have oc0 : (0 : Int32).toInt = 0 := by decide
          have cc16 : (0 : Int32).toInt ≤ y22_l2.toInt := i32_nlt c13
          have hb17 : In y22_l2 0 8 := In.ge1 hy22_l2 (⟨by decide, by decide⟩ : In 0 0 0) cc16 (by omega) (by omega)
          refine lv_aload_n hx hb dX10_weakest_26 rfl (lv_at hl 0 rfl) ?_
          refine pl_get (v := .ref (cr ad 0 0)) hx hb hts (fun w h => mT (inX10 w h)) hown hG.1 hP (hst.1 0 (by decide)) hf11 rfl 8 (by decide) (hts _ (mT wg_483)) (fun _ h => h) rfl dX10_weakest_27 ?_
          obtain ⟨v0_18, v1_18, v2_18, v3_18, v4_18, v5_18, v6_18, v7_18, v8_18, hf19, hv1_18, hg1_18, hv2_18, hg2_18, hv6_18⟩ := hT.2.1 0 (by decide) 0 (by decide)
          refine pl_getN (v := .int v1_18) hx hb hts (fun w h => mT (inX3 w h)) hown hG.1 hP (hst.c (by decide) (by decide)) hf19 rfl 1 (by decide) (hG.2.1 _ wn_339) (fun _ h => h) rfl dX10_weakest_30 ?_
          refine lv_iconst (v := 1) hx hb dX10_weakest_33 (by decide) ?_
          refine lv_iload_n hx hb dX10_weakest_34 rfl (lv_at hl 2 rfl) ?_
          refine lv_ishl hx hb dX10_weakest_35 ?_
          refine lv_topi (fun x20 ex20 => ?_)
          have hb21 : In x20 1 256 := ex20 ▸ In.shl (⟨by decide, by decide⟩ : In 1 1 1) hb17 (by decide) (by decide) (by decide) (by decide) (by decide) (by decide)
          refine lv_ior hx hb dX10_weakest_36 ?_
          refine lv_topi (fun x22 ex22 => ?_)
          have hb23 : In x22 0 511 := ex22 ▸ In.or 9 hv1_18 hb21 (by decide) (by decide) (by decide) (by decide) (by decide)
          refine lv_istore_n (lv' := [(3, .int x22), (0, .ref (ad 0)), (1, .int y22_l1), (2, .int y22_l2)]) hx hb dX10_weakest_37 rfl hl (by decide) rfl (fun ls hl => ?_)
          refine lv_iload_n hx hb dX10_weakest_38 rfl (lv_at hl 0 rfl) ?_
          refine lv_aload_n hx hb dX10_weakest_39 rfl (lv_at hl 1 rfl) ?_
          refine pl_get (v := .ref (cr ad 0 0)) hx hb hts (fun w h => mT (inX10 w h)) hown hG.1 hP (hst.1 0 (by decide)) hf11 rfl 8 (by decide) (hts _ (mT wg_483)) (fun _ h => h) rfl dX10_weakest_40 ?_
          refine pl_getN (v := .int v1_18) hx hb hts (fun w h => mT (inX3 w h)) hown hG.1 hP (hst.c (by decide) (by decide)) hf19 rfl 1 (by decide) (hG.2.1 _ wn_339) (fun _ h => h) rfl dX10_weakest_43 ?_
          have hJ116 : ∀ (y116_l1 : Int32) (f_116 : HP) (H : Heap) (locs : List Loc) (ls : Array Slot), In y116_l1 (-1) 8 → va_P g.1 vwCl (va_pl L f_116) H → va_D A (va_pl L f_116) → va_S A s.heap H locs → TI g ad th f_116 → (∀ b, b ≠ (ad 18) → b ≠ (ad 19) → b ≠ (ad 20) → b ≠ (ad 21) → b ≠ (ad 22) → b ≠ (ad 23) → b ≠ (ad 8) → f_116 b = f b) → f_116 (ad 0) = .inr (9, [.ref (ad 1), .ref (ad 5), .ref (ad 6), .ref (ad 7), .ref (ad 9), .ref (ad 13), .ref (ad 14), .ref (ad 15), .ref (cr ad 0 0), .ref (cr ad 1 0), .ref (cr ad 2 0), .ref (ad 16), .ref (ad 18), .ref (ad 3), .ref (ad 24), .int v15_1, .int v16_1, .long v17_1]) → f_116 (ad 6) = .inr (2, [.int v0_6, .int v1_6, .int v2_6, .int v3_6, .int v4_6, .int v5_6, .int v6_6, .int v7_6]) → f_116 (cr ad 0 0) = .inr (3, [.int v0_18, .int v1_18, .int v2_18, .int v3_18, .int v4_18, .int v5_18, .int v6_18, .long v7_18, .long v8_18, .ref (cr ad 0 1), .ref (cr ad 0 2), .ref (cr ad 0 3), .ref (cr ad 0 4), .ref (cr ad 0 5), .ref (cr ad 0 6), .ref (cr ad 0 7), .ref (cr ad 0 8), .ref (cr ad 0 9)]) → lv_has ls 4 [(0, .ref (ad 0)), (1, .int y116_l1), (2, .int y22_l2), (3, .int x22)] → W p l e rm_X10_weakest s m [.ref (ad 0)].toArray below meth c H locs 0 0 (MQ below (va_Qi (po_X10_weakest g ad th L f ) (PstB g A) A) [.ref (ad 0)].toArray s rm_X10_weakest.cells rm_X10_weakest.slots A) (F0 m 116 ls []) := by
            intro y116_l1 f_116 H locs ls hy116_l1 hP hD hS hT hfr hf24 hf25 hf26 hl
            obtain ⟨x27, ex27⟩ : ∃ y : Int32, y = y22_l2 + (-1) := ⟨_, rfl⟩
            have hb28 : In x27 (-1) 7 := ex27 ▸ In.add hb17 (⟨by decide, by decide⟩ : In (-1) (-1) (-1)) (by decide) (by decide) (by decide) (by decide)
            have et29 : x27.toInt = y22_l2.toInt + (-1) := In.adde ex27 hb17 (k := (-1)) (by decide) (by decide) (by decide)
            refine lv_iinc (v := x27) (lv' := [(2, .int x27), (0, .ref (ad 0)), (1, .int y116_l1), (3, .int x22)]) hx hb dX10_weakest_116 hl (k := 2) rfl (by rw [ex27]; rfl) (by decide) rfl (fun ls hl => ?_)
            refine lv_goto (tgt := 22) hx hb dX10_weakest_119 (by decide) ?_
            exact ih22 y116_l1 x27 _ _ _ _ hy116_l1 (In.mono hb28 (by decide) (by decide)) hP hD hS hT hfr hf24 hf25 (by obtain ⟨o0a, o0b⟩ := (hb28 : In _ _ _); obtain ⟨o1a, o1b⟩ := (hv1_6 : In _ _ _); obtain ⟨o2a, o2b⟩ := (hb17 : In _ _ _); omega) (lv_sub hl [1, 2, 0] rfl) (msd et29 (by decide) hmz22)
          refine lv_icmp_eq (tgt := 116) hx hb dX10_weakest_46 (by decide) (fun c30 => ?_) (fun c30 => ?_)
          ·
            have cc31 : x22.toInt = v1_18.toInt := congrArg Int32.toInt c30
            have hb32 : In x22 0 510 := In.eq1 hb23 hv1_18 cc31 (by omega) (by omega)
            exact hJ116 y22_l1 _ _ _ _ hy22_l1 hP hD hS hT hfr hf11 hf12 hf19 (lv_sub hl [1, 2, 3, 0] rfl)
          ·
            have cc33 : x22.toInt ≠ v1_18.toInt := i32_ne c30
            refine lv_iload_n hx hb dX10_weakest_49 rfl (lv_at hl 0 rfl) ?_
            refine lv_aload_n hx hb dX10_weakest_50 rfl (lv_at hl 1 rfl) ?_
            refine pl_get (v := .ref (ad 6)) hx hb hts (fun w h => mT (inX10 w h)) hown hG.1 hP (hst.1 0 (by decide)) hf11 rfl 2 (by decide) (hts _ (mT wg_477)) (fun _ h => h) rfl dX10_weakest_51 ?_
            refine call_i (run_VN (rm := rm_X2_everybody_co) hx hb hml hown hts (s_X2_everybody_co l g ad th _ _ _  hst hT ) cV_X2_everybody wn_918 ⟨Nat.le_of_ble_eq_true rfl, Nat.le_of_ble_eq_true rfl⟩ hG hE hA hP hD hS (hst.1 6 (by decide)) hf12 rfl rfl hl.1 (As := []) (rest := [.int x22]) rfl (Nat.le_of_ble_eq_true rfl) dX10_weakest_54 ⟨Nat.le_of_ble_eq_true rfl, Nat.le_of_ble_eq_true rfl⟩) hA hD hS (fun r34 L35 f36 H locs hp37 hP hD hS => ?_)
            obtain ⟨eL38L, eL38T, eL38R, eL38X0⟩ := hp37
            have eL38L : L35 = L := eL38L
            have eL38T : f36 = f_22 := eL38T
            rw [eL38L, eL38T] at hP hD
            have eL38R : In r34 0 511 := eL38R
            have hev39 : r34.toInt = 2 ^ (th 3).toNat - 1 := eL38X0
            refine lv_icmp_ne (tgt := 63) hx hb dX10_weakest_57 (by decide) (fun c40 => ?_) (fun c40 => ?_)
            ·
              have cc41 : x22.toInt ≠ r34.toInt := i32_ne c40
              have hwk42 := wk_or (n := th 3) ex20 ex22 hb17 (by obtain ⟨q1, q2⟩ := hv1_6; have := hg1_6; omega) (by obtain ⟨o0a, o0b⟩ := (hb17 : In _ _ _); obtain ⟨o1a, o1b⟩ := (hv1_6 : In _ _ _); omega) ⟨(Int.le_trans (by decide) hv1_18.1), Int.le_trans hv1_18.2 (by decide), by rw [hg1_18]; exact hC.1.2⟩ (by omega)
              have hb43 : In x22 0 510 := hwk42.1
              refine lv_aload_n hx hb dX10_weakest_63 rfl (lv_at hl 1 rfl) ?_
              refine lv_iload_n hx hb dX10_weakest_64 rfl (lv_at hl 0 rfl) ?_
              refine call_i (run_V (rm := rm_X10_isAsked) hx hb hml hown hts (s_X10_isAsked l g ad th _ _ _ x22 hst hT ) cV_X10_isAsked wg_1032 ⟨Nat.le_of_ble_eq_true rfl, Nat.le_of_ble_eq_true rfl⟩ hG hE hA hP hD hS (hst.1 0 (by decide)) hf11 rfl rfl hl.1 (As := [.int x22]) (rest := []) rfl (Nat.le_of_ble_eq_true rfl) dX10_weakest_65 ⟨Nat.le_of_ble_eq_true rfl, Nat.le_of_ble_eq_true rfl⟩) hA hD hS (fun r44 L45 f46 H locs hp47 hP hD hS => ?_)
              obtain ⟨eL48L, eL48T, eL48R⟩ := hp47
              have eL48L : L45 = L := eL48L
              have eL48T : f46 = f_22 := eL48T
              rw [eL48L, eL48T] at hP hD
              have eL48R : In r44 0 1 := eL48R
              refine lv_if_ne (tgt := 74) hx hb dX10_weakest_68 (by decide) (fun c49 => ?_) (fun c49 => ?_)
              ·
                have oc0 : (0 : Int32).toInt = 0 := by decide
                have cc50 : r44.toInt ≠ (0 : Int32).toInt := i32_ne c49
                have hb51 : In r44 1 1 := In.ne1 eL48R (⟨by decide, by decide⟩ : In 0 0 0) cc50 (by omega) (by omega)
                refine lv_aload_n hx hb dX10_weakest_74 rfl (lv_at hl 1 rfl) ?_
                refine pl_get (v := .ref (ad 18)) hx hb hts (fun w h => mT (inX10 w h)) hown hG.1 hP (hst.1 0 (by decide)) hf11 rfl 12 (by decide) (hts _ (mT wg_487)) (fun _ h => h) rfl dX10_weakest_75 ?_
                refine lv_aload_n hx hb dX10_weakest_78 rfl (lv_at hl 1 rfl) ?_
                refine pl_get (v := .ref (ad 6)) hx hb hts (fun w h => mT (inX10 w h)) hown hG.1 hP (hst.1 0 (by decide)) hf11 rfl 2 (by decide) (hts _ (mT wg_477)) (fun _ h => h) rfl dX10_weakest_79 ?_
                refine lv_iload_n hx hb dX10_weakest_82 rfl (lv_at hl 0 rfl) ?_
                refine lv_aload_n hx hb dX10_weakest_83 rfl (lv_at hl 1 rfl) ?_
                refine pl_get (v := .ref (ad 6)) hx hb hts (fun w h => mT (inX10 w h)) hown hG.1 hP (hst.1 0 (by decide)) hf11 rfl 2 (by decide) (hts _ (mT wg_477)) (fun _ h => h) rfl dX10_weakest_84 ?_
                refine pl_getN (v := .int v3_6) hx hb hts (fun w h => mT (inX2 w h)) hown hG.1 hP (hst.1 6 (by decide)) hf12 rfl 3 (by decide) (hG.2.1 _ wn_235) (fun _ h => h) rfl dX10_weakest_87 ?_
                obtain ⟨v6_52, v7_52, v8_52, v9_52, v10_52, v11_52, v12_52, v13_52, hf53, hv8_52, hv9_52, hv10_52, hv11_52, hv13_52⟩ := hT.1 18 (by decide)
                refine call_v (run_VN (rm := rm_X7_prepare) hx hb hml hown hts (s_X7_prepare l g ad th _ _ _ x22 v3_6 hst hT hb43) cV_X7_prepare wn_1036 ⟨Nat.le_of_ble_eq_true rfl, Nat.le_of_ble_eq_true rfl⟩ hG hE hA hP hD hS (hst.1 18 (by decide)) hf53 rfl rfl hl.1 (As := [.ref (ad 6), .int x22, .int v3_6]) (rest := []) rfl (Nat.le_of_ble_eq_true rfl) dX10_weakest_90 ⟨Nat.le_of_ble_eq_true rfl, Nat.le_of_ble_eq_true rfl⟩) hA hD hS (fun L55 f56 H locs hp57 hP hD hS => ?_)
                obtain ⟨eL58L, eL58T, eL58F⟩ := hp57
                have eL58L : L55 = L := eL58L
                rw [eL58L] at hP hD
                have hT : TI g ad th f56 := eL58T
                have eL58F : ∀ b, b ≠ (ad 18) → b ≠ (ad 19) → b ≠ (ad 20) → b ≠ (ad 23) → b ≠ (ad 8) → f56 b = f_22 b := eL58F
                have hf59 := (eL58F (ad 0) (hst.ne (by decide) (by decide) (by decide)) (hst.ne (by decide) (by decide) (by decide)) (hst.ne (by decide) (by decide) (by decide)) (hst.ne (by decide) (by decide) (by decide)) (hst.ne (by decide) (by decide) (by decide))).trans hf11
                have hf60 := (eL58F (ad 6) (hst.ne (by decide) (by decide) (by decide)) (hst.ne (by decide) (by decide) (by decide)) (hst.ne (by decide) (by decide) (by decide)) (hst.ne (by decide) (by decide) (by decide)) (hst.ne (by decide) (by decide) (by decide))).trans hf12
                have hf61 := (eL58F (cr ad 0 0) (hst.ne (by omega) (by omega) (by omega)) (hst.ne (by omega) (by omega) (by omega)) (hst.ne (by omega) (by omega) (by omega)) (hst.ne (by omega) (by omega) (by omega)) (hst.ne (by omega) (by omega) (by omega))).trans hf19
                have hfr : (∀ b, b ≠ (ad 18) → b ≠ (ad 19) → b ≠ (ad 20) → b ≠ (ad 21) → b ≠ (ad 22) → b ≠ (ad 23) → b ≠ (ad 8) → f56 b = f b) := fun b z0_ z1_ z2_ z3_ z4_ z5_ z6_ => (eL58F b z0_ z1_ z2_ z5_ z6_).trans (hfr b z0_ z1_ z2_ z3_ z4_ z5_ z6_)
                refine lv_aload_n hx hb dX10_weakest_93 rfl (lv_at hl 1 rfl) ?_
                refine pl_get (v := .ref (ad 18)) hx hb hts (fun w h => mT (inX10 w h)) hown hG.1 hP (hst.1 0 (by decide)) hf59 rfl 12 (by decide) (hts _ (mT wg_487)) (fun _ h => h) rfl dX10_weakest_94 ?_
                refine lv_aload_n hx hb dX10_weakest_97 rfl (lv_at hl 1 rfl) ?_
                refine pl_get (v := .ref (cr ad 0 0)) hx hb hts (fun w h => mT (inX10 w h)) hown hG.1 hP (hst.1 0 (by decide)) hf59 rfl 8 (by decide) (hts _ (mT wg_483)) (fun _ h => h) rfl dX10_weakest_98 ?_
                refine pl_getN (v := .int v0_18) hx hb hts (fun w h => mT (inX3 w h)) hown hG.1 hP (hst.c (by decide) (by decide)) hf61 rfl 0 (by decide) (hG.2.1 _ wn_336) (fun _ h => h) rfl dX10_weakest_101 ?_
                obtain ⟨v6_62, v7_62, v8_62, v9_62, v10_62, v11_62, v12_62, v13_62, hf63, hv8_62, hv9_62, hv10_62, hv11_62, hv13_62⟩ := hT.1 18 (by decide)
                refine call_i (run_VN (rm := rm_X7_isBroken) hx hb hml hown hts (s_X7_isBroken l g ad th _ _ _ v0_18 hst hT ) cV_X7_isBroken wn_1110 ⟨Nat.le_of_ble_eq_true rfl, Nat.le_of_ble_eq_true rfl⟩ hG hE hA hP hD hS (hst.1 18 (by decide)) hf63 rfl rfl hl.1 (As := [.int v0_18]) (rest := []) rfl (Nat.le_of_ble_eq_true rfl) dX10_weakest_104 ⟨Nat.le_of_ble_eq_true rfl, Nat.le_of_ble_eq_true rfl⟩) hA hD hS (fun r64 L65 f66 H locs hp67 hP hD hS => ?_)
                obtain ⟨eL68L, eL68T, eL68F, eL68R⟩ := hp67
                have eL68L : L65 = L := eL68L
                rw [eL68L] at hP hD
                have hT : TI g ad th f66 := eL68T
                have eL68F : ∀ b, b ≠ (ad 18) → b ≠ (ad 21) → b ≠ (ad 22) → b ≠ (ad 23) → f66 b = f56 b := eL68F
                have hf69 := (eL68F (ad 0) (hst.ne (by decide) (by decide) (by decide)) (hst.ne (by decide) (by decide) (by decide)) (hst.ne (by decide) (by decide) (by decide)) (hst.ne (by decide) (by decide) (by decide))).trans hf59
                have hf70 := (eL68F (ad 6) (hst.ne (by decide) (by decide) (by decide)) (hst.ne (by decide) (by decide) (by decide)) (hst.ne (by decide) (by decide) (by decide)) (hst.ne (by decide) (by decide) (by decide))).trans hf60
                have hf71 := (eL68F (cr ad 0 0) (hst.ne (by omega) (by omega) (by omega)) (hst.ne (by omega) (by omega) (by omega)) (hst.ne (by omega) (by omega) (by omega)) (hst.ne (by omega) (by omega) (by omega))).trans hf61
                have hfr : (∀ b, b ≠ (ad 18) → b ≠ (ad 19) → b ≠ (ad 20) → b ≠ (ad 21) → b ≠ (ad 22) → b ≠ (ad 23) → b ≠ (ad 8) → f66 b = f b) := fun b z0_ z1_ z2_ z3_ z4_ z5_ z6_ => (eL68F b z0_ z3_ z4_ z5_).trans (hfr b z0_ z1_ z2_ z3_ z4_ z5_ z6_)
                have eL68R : In r64 0 1 := eL68R
                have hJ115 : ∀ (y115_s0 : Int32) (H : Heap) (locs : List Loc) (ls : Array Slot), In y115_s0 (-1) 8 → va_P g.1 vwCl (va_pl L f66) H → va_D A (va_pl L f66) → va_S A s.heap H locs → lv_has ls 4 [(0, .ref (ad 0)), (1, .int y22_l1), (2, .int y22_l2), (3, .int x22)] → W p l e rm_X10_weakest s m [.ref (ad 0)].toArray below meth c H locs 0 0 (MQ below (va_Qi (po_X10_weakest g ad th L f ) (PstB g A) A) [.ref (ad 0)].toArray s rm_X10_weakest.cells rm_X10_weakest.slots A) (F0 m 115 ls [.int y115_s0]) := by
                  intro y115_s0 H locs ls hy115_s0 hP hD hS hl
                  refine lv_istore_n (lv' := [(1, .int y115_s0), (0, .ref (ad 0)), (2, .int y22_l2), (3, .int x22)]) hx hb dX10_weakest_115 rfl hl (by decide) rfl (fun ls hl => ?_)
                  exact hJ116 y115_s0 _ _ _ _ hy115_s0 hP hD hS hT hfr hf69 hf70 hf71 (lv_sub hl [1, 0, 2, 3] rfl)
                refine lv_if_eq (tgt := 114) hx hb dX10_weakest_107 (by decide) (fun c72 => ?_) (fun c72 => ?_)
                ·
                  have oc0 : (0 : Int32).toInt = 0 := by decide
                  have cc73 : r64.toInt = (0 : Int32).toInt := congrArg Int32.toInt c72
                  have hb74 : In r64 0 0 := In.eq1 eL68R (⟨by decide, by decide⟩ : In 0 0 0) cc73 (by omega) (by omega)
                  refine lv_iload_n hx hb dX10_weakest_114 rfl (lv_at hl 2 rfl) ?_
                  exact hJ115 y22_l1 _ _ _ hy22_l1 hP hD hS (lv_sub hl [1, 2, 3, 0] rfl)
                ·
                  have oc0 : (0 : Int32).toInt = 0 := by decide
                  have cc75 : r64.toInt ≠ (0 : Int32).toInt := i32_ne c72
                  have hb76 : In r64 1 1 := In.ne1 eL68R (⟨by decide, by decide⟩ : In 0 0 0) cc75 (by omega) (by omega)
                  refine lv_iload_n hx hb dX10_weakest_110 rfl (lv_at hl 3 rfl) ?_
                  refine lv_goto (tgt := 115) hx hb dX10_weakest_111 (by decide) ?_
                  exact hJ115 y22_l2 _ _ _ (In.mono hb17 (by decide) (by decide)) hP hD hS (lv_sub hl [1, 2, 3, 0] rfl)
              ·
                have oc0 : (0 : Int32).toInt = 0 := by decide
                have cc77 : r44.toInt = (0 : Int32).toInt := congrArg Int32.toInt c49
                have hb78 : In r44 0 0 := In.eq1 eL48R (⟨by decide, by decide⟩ : In 0 0 0) cc77 (by omega) (by omega)
                refine lv_bipush (v := (-2)) hx hb dX10_weakest_71 (by decide) ?_
                exact ret_i (ty := .int) hx hb hr hlocks (rfl) hP hD hS (Nat.le_of_ble_eq_true rfl) (Nat.le_of_ble_eq_true rfl) (⟨rfl, hT, hfr⟩) dX10_weakest_73
            ·
              have cc79 : x22.toInt = r34.toInt := congrArg Int32.toInt c40
              refine lv_goto (tgt := 116) hx hb dX10_weakest_60 (by decide) ?_
              exact hJ116 y22_l1 _ _ _ _ hy22_l1 hP hD hS hT hfr hf11 hf12 hf19 (lv_sub hl [1, 2, 3, 0] rfl)
    exact hJ22 ((x8.toInt - (-1)).toNat + 1) (-1) x8 _ _ _ _ (⟨by decide, by decide⟩ : In (-1) (-1) 8) hb9 hP hD hS hT hfr hf2 hf7 (by obtain ⟨o0a, o0b⟩ := (hb9 : In _ _ _); obtain ⟨o1a, o1b⟩ := (hv1_6 : In _ _ _); omega) (lv_sub hl [2, 1, 0] rfl) (msI _)
  ·
    have oc0 : (0 : Int32).toInt = 0 := by decide
    have cc80 : v15_1.toInt = (0 : Int32).toInt := congrArg Int32.toInt c3
    have hb81 : In v15_1 0 0 := In.eq1 hv15_1 (⟨by decide, by decide⟩ : In 0 0 0) cc80 (by omega) (by omega)
    refine lv_bipush (v := (-2)) hx hb dX10_weakest_7 (by decide) ?_
    exact ret_i (ty := .int) hx hb hr hlocks (rfl) hP hD hS (Nat.le_of_ble_eq_true rfl) (Nat.le_of_ble_eq_true rfl) (⟨rfl, hT, hfr⟩) dX10_weakest_9
