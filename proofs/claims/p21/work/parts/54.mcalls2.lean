abbrev rm_X11_freeIn : Room := { frames := 2, cells := 0, slots := 0, locals := 42 }
abbrev po_X11_freeIn (g : GG) (ad : Nat → Nat) (th : Nat → Int) (L : List Nat) (f : HP) (z1 : Int32) : Int32 → (List Nat × HP) → Prop := fun r u => u.1 = L ∧ u.2 = f ∧ r.toInt = frI (rnd (th 10)) (th 11) (th 14) z1.toInt
set_option maxHeartbeats 4000000 in
set_option maxRecDepth 100000 in
theorem s_X11_freeIn (l : Launch) (g : GG) (ad : Nat → Nat) (th : Nat → Int) (L : List Nat) (f : HP) (sz : Nat) (z1 : Int32) (hst : ST ad L) (hT : TI g ad th f) (hz1 : In z1 0 6) (hn3 : 3 ≤ th 11) : MtI l g yX11_freeIn cX11_freeIn 5 (some .int) rm_X11_freeIn [.ref (ad 255), .int z1] L f sz (po_X11_freeIn g ad th L f z1) := by
  refine MtI.of (by decide +kernel) (Nat.le_of_ble_eq_true rfl) ?_
  intro p e s m below meth c A hEn hP hD hS ls hl
  obtain ⟨hx, hb, hr, hml, hown, hlocks, hts, hG, hA, hE, hnm⟩ := hEn
  have hown : s.vm.findClass "RulerWordModel" = some m.cls := hown
  have hl : lv_has ls 5 [(0, .ref (ad 255)), (1, .int z1)] := hl
  refine M0e hT (fun v0_1 v2_1 v3_1 v4_1 v5_1 v6_1 v8_1 v9_1 v12_1 v13_1 v14_1 v15_1 v16_1 v17_1 v18_1 v19_1 v20_1 v21_1 v22_1 v23_1 v25_1 v36_1 v37_1 v38_1 v39_1 v40_1 v45_1 v46_1 v47_1 v48_1 v50_1 v51_1 v53_1 v55_1 hf2 hv0_1 hv2_1 hg2_1 hv3_1 hg3_1 hv4_1 hg4_1 hv5_1 hg5_1 hv6_1 hg6_1 hv8_1 hg8_1 hv9_1 hg9_1 hv12_1 hv13_1 hg13_1 hv14_1 hg14_1 hv15_1 hg15_1 hv17_1 hg17_1 hv20_1 hg20_1 hv23_1 hg23_1 hv25_1 hg25_1 hv36_1 hg36_1 hv47_1 hg47_1 hv48_1 hg48_1 hv53_1 hg53_1 hv55_1 hg55_1 hrel0_1 => ?_)
  have hg15_1 : v15_1.toInt = th 11 := hg15_1
  have hg17_1 : v17_1.toInt = th 12 := hg17_1
  have hg20_1 : v20_1.toInt = th 14 := hg20_1
  have hb3 : In v15_1 3 9 := ⟨by rw [hg15_1]; exact hn3, hv15_1.2⟩
  have hcap : capI (th 14) (th 11) := by rw [← hg20_1, ← hg15_1]; exact hrel0_1
  have h14 : (0 ≤ th 14 ∧ th 14 ≤ 511) ∧ th 11 ≤ 9 := by obtain ⟨q1, q2⟩ := (hv20_1 : In _ _ _); obtain ⟨q3, q4⟩ := (hb3 : In _ _ _); exact ⟨⟨by omega, by omega⟩, by omega⟩
  have hpcl := pc_lt h14.1 ⟨by omega, h14.2⟩ hcap
  refine lv_aload_n hx hb dX11_freeIn_0 rfl (lv_at hl 0 rfl) ?_
  refine pl_get (v := .int v15_1) hx hb hts (fun w h => mT (inX11 w h)) hown hG.1 hP (hst.1 255 (by decide)) hf2 rfl 15 (by decide) (hts _ (mT wg_1351)) (fun _ h => h) rfl dX11_freeIn_1 ?_
  refine lv_aload_n hx hb dX11_freeIn_4 rfl (lv_at hl 0 rfl) ?_
  refine pl_get (v := .int v20_1) hx hb hts (fun w h => mT (inX11 w h)) hown hG.1 hP (hst.1 255 (by decide)) hf2 rfl 20 (by decide) (hts _ (mT wg_1356)) (fun _ h => h) rfl dX11_freeIn_5 ?_
  refine call_i (run_S (rm := rm_X11_bitsIn) hx hb hml hown hts (s_X11_bitsIn l g ad th _ _ _ v20_1 hst hT ) cS_X11_bitsIn wg_1827 ⟨Nat.le_of_ble_eq_true rfl, Nat.le_of_ble_eq_true rfl⟩ hG hE hA hP hD hS rfl hl.1 (As := [.int v20_1]) (rest := [.int v15_1]) rfl (Nat.le_of_ble_eq_true rfl) dX11_freeIn_8 ⟨Nat.le_of_ble_eq_true rfl, Nat.le_of_ble_eq_true rfl⟩) hA hD hS (fun r4 L5 f6 H locs hp7 hP hD hS => ?_)
  obtain ⟨eL8L, eL8T, eL8R, eL8X0⟩ := hp7
  have eL8L : L5 = L := eL8L
  have eL8T : f6 = f := eL8T
  rw [eL8L, eL8T] at hP hD
  have eL8R : In r4 0 9 := eL8R
  have hpc9 : r4.toInt = pcI (th 14) := (eL8X0 hv20_1).trans (by rw [hg20_1])
  refine lv_isub hx hb dX11_freeIn_11 ?_
  refine lv_topi (fun x10 ex10 => ?_)
  have hb11 : In x10 (-6) 9 := ex10 ▸ In.sub hb3 eL8R (by decide) (by decide) (by decide) (by decide)
  have et12 : x10.toInt = v15_1.toInt - r4.toInt := In.sub2e ex10 hb3 eL8R (by decide) (by decide)
  have hb13 : In x10 1 9 := In.mk (by have ob10 : (0 : Int) ≤ (th 10) ∧ (th 10) ≤ 1 := (b0_10 hT :); have ob11 : (0 : Int) ≤ (th 11) ∧ (th 11) ≤ 9 := (b0_11 hT :); have ob12 : (0 : Int) ≤ (th 12) ∧ (th 12) ≤ 6 := (b0_12 hT :); have ob14 : (0 : Int) ≤ (th 14) ∧ (th 14) ≤ 511 := (b0_14 hT :); have ob15 : (0 : Int) ≤ (th 15) ∧ (th 15) ≤ 1 := (b0_15 hT :); have ob16 : (0 : Int) ≤ (th 16) ∧ (th 16) ≤ 20 := (b0_16 hT :); have ob17 : (0 : Int) ≤ (th 17) ∧ (th 17) ≤ 1 := (b0_17 hT :); have ob18 : (0 : Int) ≤ (th 18) ∧ (th 18) ≤ 18 := (b0_18 hT :); have ob38 : (0 : Int) ≤ (th 38) ∧ (th 38) ≤ 400 := (b0_38 hT :); have ob39 : (0 : Int) ≤ (th 39) ∧ (th 39) ≤ 200 := (b0_39 hT :); have ob44 : (0 : Int) ≤ (th 44) ∧ (th 44) ≤ 30 := (b0_44 hT :); have orn := rnd_b (th 10); obtain ⟨o0a, o0b⟩ := (hb11 : In _ _ _); obtain ⟨o1a, o1b⟩ := (hv14_1 : In _ _ _); obtain ⟨o2a, o2b⟩ := (hb3 : In _ _ _); obtain ⟨o3a, o3b⟩ := (hv17_1 : In _ _ _); obtain ⟨o4a, o4b⟩ := (hv20_1 : In _ _ _); obtain ⟨o5a, o5b⟩ := (hv23_1 : In _ _ _); obtain ⟨o6a, o6b⟩ := (hv25_1 : In _ _ _); obtain ⟨o7a, o7b⟩ := (hv36_1 : In _ _ _); obtain ⟨o8a, o8b⟩ := (hv47_1 : In _ _ _); obtain ⟨o9a, o9b⟩ := (hv48_1 : In _ _ _); obtain ⟨o10a, o10b⟩ := (hv53_1 : In _ _ _); obtain ⟨o11a, o11b⟩ := (hv55_1 : In _ _ _); obtain ⟨o12a, o12b⟩ := (eL8R : In _ _ _); omega) (by have ob10 : (0 : Int) ≤ (th 10) ∧ (th 10) ≤ 1 := (b0_10 hT :); have ob11 : (0 : Int) ≤ (th 11) ∧ (th 11) ≤ 9 := (b0_11 hT :); have ob12 : (0 : Int) ≤ (th 12) ∧ (th 12) ≤ 6 := (b0_12 hT :); have ob14 : (0 : Int) ≤ (th 14) ∧ (th 14) ≤ 511 := (b0_14 hT :); have ob15 : (0 : Int) ≤ (th 15) ∧ (th 15) ≤ 1 := (b0_15 hT :); have ob16 : (0 : Int) ≤ (th 16) ∧ (th 16) ≤ 20 := (b0_16 hT :); have ob17 : (0 : Int) ≤ (th 17) ∧ (th 17) ≤ 1 := (b0_17 hT :); have ob18 : (0 : Int) ≤ (th 18) ∧ (th 18) ≤ 18 := (b0_18 hT :); have ob38 : (0 : Int) ≤ (th 38) ∧ (th 38) ≤ 400 := (b0_38 hT :); have ob39 : (0 : Int) ≤ (th 39) ∧ (th 39) ≤ 200 := (b0_39 hT :); have ob44 : (0 : Int) ≤ (th 44) ∧ (th 44) ≤ 30 := (b0_44 hT :); have orn := rnd_b (th 10); obtain ⟨o0a, o0b⟩ := (hb11 : In _ _ _); obtain ⟨o1a, o1b⟩ := (hv14_1 : In _ _ _); obtain ⟨o2a, o2b⟩ := (hb3 : In _ _ _); obtain ⟨o3a, o3b⟩ := (hv17_1 : In _ _ _); obtain ⟨o4a, o4b⟩ := (hv20_1 : In _ _ _); obtain ⟨o5a, o5b⟩ := (hv23_1 : In _ _ _); obtain ⟨o6a, o6b⟩ := (hv25_1 : In _ _ _); obtain ⟨o7a, o7b⟩ := (hv36_1 : In _ _ _); obtain ⟨o8a, o8b⟩ := (hv47_1 : In _ _ _); obtain ⟨o9a, o9b⟩ := (hv48_1 : In _ _ _); obtain ⟨o10a, o10b⟩ := (hv53_1 : In _ _ _); obtain ⟨o11a, o11b⟩ := (hv55_1 : In _ _ _); obtain ⟨o12a, o12b⟩ := (eL8R : In _ _ _); omega)
  refine lv_istore_n (lv' := [(2, .int x10), (0, .ref (ad 255)), (1, .int z1)]) hx hb dX11_freeIn_12 rfl hl (by decide) rfl (fun ls hl => ?_)
  refine lv_iload_n hx hb dX11_freeIn_13 rfl (lv_at hl 2 rfl) ?_
  refine lv_aload_n hx hb dX11_freeIn_14 rfl (lv_at hl 1 rfl) ?_
  refine call_i (run_V (rm := rm_X11_each) hx hb hml hown hts (s_X11_each l g ad th _ _ _  hst hT ) cV_X11_each wg_1636 ⟨Nat.le_of_ble_eq_true rfl, Nat.le_of_ble_eq_true rfl⟩ hG hE hA hP hD hS (hst.1 255 (by decide)) hf2 rfl rfl hl.1 (As := []) (rest := [.int z1]) rfl (Nat.le_of_ble_eq_true rfl) dX11_freeIn_15 ⟨Nat.le_of_ble_eq_true rfl, Nat.le_of_ble_eq_true rfl⟩) hA hD hS (fun r14 L15 f16 H locs hp17 hP hD hS => ?_)
  obtain ⟨eL18L, eL18T, eL18R, eL18X0⟩ := hp17
  have eL18L : L15 = L := eL18L
  have eL18T : f16 = f := eL18T
  rw [eL18L, eL18T] at hP hD
  have eL18R : In r14 2 3 := eL18R
  have hrn19 : r14.toInt = rnd (th 10) := eL18X0
  refine lv_iconst (v := 1) hx hb dX11_freeIn_18 (by decide) ?_
  refine lv_isub hx hb dX11_freeIn_19 ?_
  refine lv_topi (fun x20 ex20 => ?_)
  have hb21 : In x20 1 2 := ex20 ▸ In.sub eL18R (⟨by decide, by decide⟩ : In 1 1 1) (by decide) (by decide) (by decide) (by decide)
  have et22 : x20.toInt = r14.toInt + (-1) := In.sube ex20 eL18R (k := 1) (by decide) (by decide) (by decide)
  refine lv_imul hx hb dX11_freeIn_20 ?_
  refine lv_topi (fun x23 ex23 => ?_)
  have hb24 : In x23 0 12 := ex23 ▸ In.mul hz1 hb21 (by decide) (by decide) (by decide) (by decide) (by decide)
  refine lv_aload_n hx hb dX11_freeIn_21 rfl (lv_at hl 1 rfl) ?_
  refine pl_get (v := .int v20_1) hx hb hts (fun w h => mT (inX11 w h)) hown hG.1 hP (hst.1 255 (by decide)) hf2 rfl 20 (by decide) (hts _ (mT wg_1356)) (fun _ h => h) rfl dX11_freeIn_22 ?_
  refine call_i (run_S (rm := rm_X11_bitsIn) hx hb hml hown hts (s_X11_bitsIn l g ad th _ _ _ v20_1 hst hT ) cS_X11_bitsIn wg_1827 ⟨Nat.le_of_ble_eq_true rfl, Nat.le_of_ble_eq_true rfl⟩ hG hE hA hP hD hS rfl hl.1 (As := [.int v20_1]) (rest := [.int x23]) rfl (Nat.le_of_ble_eq_true rfl) dX11_freeIn_25 ⟨Nat.le_of_ble_eq_true rfl, Nat.le_of_ble_eq_true rfl⟩) hA hD hS (fun r25 L26 f27 H locs hp28 hP hD hS => ?_)
  obtain ⟨eL29L, eL29T, eL29R, eL29X0⟩ := hp28
  have eL29L : L26 = L := eL29L
  have eL29T : f27 = f := eL29T
  rw [eL29L, eL29T] at hP hD
  have eL29R : In r25 0 9 := eL29R
  have hpc30 : r25.toInt = pcI (th 14) := (eL29X0 hv20_1).trans (by rw [hg20_1])
  refine lv_imul hx hb dX11_freeIn_28 ?_
  refine lv_topi (fun x31 ex31 => ?_)
  have hb32 : In x31 0 108 := ex31 ▸ In.mul hb24 eL29R (by decide) (by decide) (by decide) (by decide) (by decide)
  refine lv_iload_n hx hb dX11_freeIn_29 rfl (lv_at hl 0 rfl) ?_
  refine lv_imul hx hb dX11_freeIn_30 ?_
  refine lv_topi (fun x33 ex33 => ?_)
  have hb34 : In x33 0 972 := ex33 ▸ In.mul hb32 hb13 (by decide) (by decide) (by decide) (by decide) (by decide)
  have hm1 : x23.toInt = z1.toInt * x20.toInt := by rw [ex23]; exact mulB (a := 6) (b := 2) hz1 (In.mono hb21 (by decide) (by decide)) (A := 6) (B := 2) (by decide) (by decide) (by decide) (by decide)
  have hm2 : x31.toInt = x23.toInt * r25.toInt := by rw [ex31]; exact mulB (a := 12) (b := 9) hb24 eL29R (A := 12) (B := 9) (by decide) (by decide) (by decide) (by decide)
  have hm3 : x33.toInt = x31.toInt * x10.toInt := by rw [ex33]; exact mulB (a := 108) (b := 9) hb32 (In.mono hb13 (by decide) (by decide)) (A := 108) (B := 9) (by decide) (by decide) (by decide) (by decide)
  have hem : x20.toInt = rnd (th 10) - 1 := by omega
  have hft : x10.toInt = th 11 - pcI (th 14) := by omega
  have hrp : r25.toInt = pcI (th 14) := by omega
  have hx3 : x33.toInt = z1.toInt * (rnd (th 10) - 1) * pcI (th 14) * (th 11 - pcI (th 14)) := by rw [hm3, hm2, hm1, hem, hrp, hft]
  refine lv_istore_n (lv' := [(3, .int x33), (2, .int x10), (0, .ref (ad 255)), (1, .int z1)]) hx hb dX11_freeIn_31 rfl hl (by decide) rfl (fun ls hl => ?_)
  refine lv_iconst (v := 0) hx hb dX11_freeIn_32 (by decide) ?_
  refine lv_istore (lv' := [(4, .int 0), (3, .int x33), (2, .int x10), (0, .ref (ad 255)), (1, .int z1)]) hx hb dX11_freeIn_33 hl (by decide) rfl (fun ls hl => ?_)
  have hJ35 : ∀ (k35 : Nat) (y35_l3 : Int32) (y35_l4 : Int32) (H : Heap) (locs : List Loc) (ls : Array Slot), In y35_l3 0 1026 → In y35_l4 0 6 → va_P g.1 vwCl (va_pl L f) H → va_D A (va_pl L f) → va_S A s.heap H locs → (y35_l3.toInt ≤ 972 + 9 * y35_l4.toInt ∧ 0 ≤ y35_l3.toInt) → (y35_l4.toInt ≤ z1.toInt ∧ 0 ≤ y35_l4.toInt) → (y35_l3.toInt = x33.toInt + frL (th 11) (th 14) (x10.toInt) (y35_l4.toInt).toNat) → lv_has ls 5 [(0, .ref (ad 255)), (1, .int z1), (2, .int x10), (3, .int y35_l3), (4, .int y35_l4)] → 6 - y35_l4.toInt < ((k35 : Nat) : Int) → W p l e rm_X11_freeIn s m [.ref (ad 255), .int z1].toArray below meth c H locs 0 0 (MQ below (va_Qi (po_X11_freeIn g ad th L f z1) (PstB g A) A) [.ref (ad 255), .int z1].toArray s rm_X11_freeIn.cells rm_X11_freeIn.slots A) (F0 m 35 ls []) := by
    intro k35
    induction k35 with
    | zero =>
      intro y35_l3 y35_l4 H locs ls hy35_l3 hy35_l4 hP hD hS hinv35_0 hinv35_1 hxi35_0 hl hmz35
      exact ms0 hy35_l4 hmz35
    | succ k35 ih35 =>
      intro y35_l3 y35_l4 H locs ls hy35_l3 hy35_l4 hP hD hS hinv35_0 hinv35_1 hxi35_0 hl hmz35
      refine lv_iload hx hb dX11_freeIn_35 (lv_at hl 4 rfl) ?_
      refine lv_iload_n hx hb dX11_freeIn_37 rfl (lv_at hl 1 rfl) ?_
      refine lv_icmp_ge (tgt := 69) hx hb dX11_freeIn_38 (by decide) (fun c35 => ?_) (fun c35 => ?_)
      ·
        have cc36 : z1.toInt ≤ y35_l4.toInt := i32_le.mp c35
        refine lv_iload_n hx hb dX11_freeIn_69 rfl (lv_at hl 3 rfl) ?_
        exact ret_i (ty := .int) hx hb hr hlocks (rfl) hP hD hS (Nat.le_of_ble_eq_true rfl) (Nat.le_of_ble_eq_true rfl) (⟨rfl, rfl, (by have hkz : y35_l4.toInt = z1.toInt := (by have ob10 : (0 : Int) ≤ (th 10) ∧ (th 10) ≤ 1 := (b0_10 hT :); have ob11 : (0 : Int) ≤ (th 11) ∧ (th 11) ≤ 9 := (b0_11 hT :); have ob12 : (0 : Int) ≤ (th 12) ∧ (th 12) ≤ 6 := (b0_12 hT :); have ob14 : (0 : Int) ≤ (th 14) ∧ (th 14) ≤ 511 := (b0_14 hT :); have ob15 : (0 : Int) ≤ (th 15) ∧ (th 15) ≤ 1 := (b0_15 hT :); have ob16 : (0 : Int) ≤ (th 16) ∧ (th 16) ≤ 20 := (b0_16 hT :); have ob17 : (0 : Int) ≤ (th 17) ∧ (th 17) ≤ 1 := (b0_17 hT :); have ob18 : (0 : Int) ≤ (th 18) ∧ (th 18) ≤ 18 := (b0_18 hT :); have ob38 : (0 : Int) ≤ (th 38) ∧ (th 38) ≤ 400 := (b0_38 hT :); have ob39 : (0 : Int) ≤ (th 39) ∧ (th 39) ≤ 200 := (b0_39 hT :); have ob44 : (0 : Int) ≤ (th 44) ∧ (th 44) ≤ 30 := (b0_44 hT :); have orn := rnd_b (th 10); obtain ⟨o0a, o0b⟩ := (hy35_l4 : In _ _ _); obtain ⟨o1a, o1b⟩ := (hz1 : In _ _ _); obtain ⟨o2a, o2b⟩ := (hv14_1 : In _ _ _); obtain ⟨o3a, o3b⟩ := (hb3 : In _ _ _); obtain ⟨o4a, o4b⟩ := (hv17_1 : In _ _ _); obtain ⟨o5a, o5b⟩ := (hv20_1 : In _ _ _); obtain ⟨o6a, o6b⟩ := (hv23_1 : In _ _ _); obtain ⟨o7a, o7b⟩ := (hv25_1 : In _ _ _); obtain ⟨o8a, o8b⟩ := (hv36_1 : In _ _ _); obtain ⟨o9a, o9b⟩ := (hv47_1 : In _ _ _); obtain ⟨o10a, o10b⟩ := (hv48_1 : In _ _ _); obtain ⟨o11a, o11b⟩ := (hv53_1 : In _ _ _); obtain ⟨o12a, o12b⟩ := (hv55_1 : In _ _ _); obtain ⟨o13a, o13b⟩ := (hy35_l3 : In _ _ _); omega); unfold frI; rw [hxi35_0, hx3, hft, hkz])⟩) dX11_freeIn_70
      ·
        have cc37 : y35_l4.toInt < z1.toInt := i32_nle c35
        have hb38 : In y35_l4 0 5 := In.lt1 hy35_l4 hz1 cc37 (by decide) (by decide)
        have hb39 : In z1 1 6 := In.lt2 hy35_l4 hz1 cc37 (by decide) (by decide)
        refine lv_iload_n hx hb dX11_freeIn_41 rfl (lv_at hl 3 rfl) ?_
        refine lv_aload_n hx hb dX11_freeIn_42 rfl (lv_at hl 0 rfl) ?_
        refine lv_iload hx hb dX11_freeIn_43 (lv_at hl 4 rfl) ?_
        refine lv_aload_n hx hb dX11_freeIn_45 rfl (lv_at hl 0 rfl) ?_
        refine pl_get (v := .int v15_1) hx hb hts (fun w h => mT (inX11 w h)) hown hG.1 hP (hst.1 255 (by decide)) hf2 rfl 15 (by decide) (hts _ (mT wg_1351)) (fun _ h => h) rfl dX11_freeIn_46 ?_
        refine lv_irem hx hb dX11_freeIn_49 (In.ne0 hb3 (by decide)) ?_
        refine lv_topi (fun x40 ex40 => ?_)
        have hb41 : In x40 0 5 := ex40 ▸ In.rem hb38 hb3 (by decide) (by decide) (by decide)
        refine call_i (run_V (rm := rm_X11_isLiar) hx hb hml hown hts (s_X11_isLiar l g ad th _ _ _ x40 hst hT ) cV_X11_isLiar wg_1664 ⟨Nat.le_of_ble_eq_true rfl, Nat.le_of_ble_eq_true rfl⟩ hG hE hA hP hD hS (hst.1 255 (by decide)) hf2 rfl rfl hl.1 (As := [.int x40]) (rest := [.int y35_l3]) rfl (Nat.le_of_ble_eq_true rfl) dX11_freeIn_50 ⟨Nat.le_of_ble_eq_true rfl, Nat.le_of_ble_eq_true rfl⟩) hA hD hS (fun r42 L43 f44 H locs hp45 hP hD hS => ?_)
        obtain ⟨eL46L, eL46T, eL46R, eL46X0⟩ := hp45
        have eL46L : L43 = L := eL46L
        have eL46T : f44 = f := eL46T
        rw [eL46L, eL46T] at hP hD
        have eL46R : In r42 0 1 := eL46R
        have hbl47 : r42.toInt = bitI (th 14) x40.toInt := eL46X0 (In.mono hb41 (by decide) (by decide))
        refine lv_if_eq (tgt := 60) hx hb dX11_freeIn_53 (by decide) (fun c48 => ?_) (fun c48 => ?_)
        ·
          have oc0 : (0 : Int32).toInt = 0 := by decide
          have cc49 : r42.toInt = (0 : Int32).toInt := congrArg Int32.toInt c48
          have hb50 : In r42 0 0 := In.eq1 eL46R (⟨by decide, by decide⟩ : In 0 0 0) cc49 (by decide) (by decide)
          refine lv_iconst (v := 0) hx hb dX11_freeIn_60 (by decide) ?_
          refine lv_iadd hx hb dX11_freeIn_61 ?_
          refine lv_topi (fun x51 ex51 => ?_)
          have hb52 : In x51 0 1026 := ex51 ▸ In.add hy35_l3 (⟨by decide, by decide⟩ : In 0 0 0) (by decide) (by decide) (by decide) (by decide)
          have et53 : x51.toInt = y35_l3.toInt + 0 := In.adde ex51 hy35_l3 (k := 0) (by decide) (by decide) (by decide)
          refine lv_istore_n (lv' := [(3, .int x51), (0, .ref (ad 255)), (1, .int z1), (2, .int x10), (4, .int y35_l4)]) hx hb dX11_freeIn_62 rfl hl (by decide) rfl (fun ls hl => ?_)
          obtain ⟨x54, ex54⟩ : ∃ y : Int32, y = y35_l4 + 1 := ⟨_, rfl⟩
          have hb55 : In x54 1 6 := ex54 ▸ In.add hb38 (⟨by decide, by decide⟩ : In 1 1 1) (by decide) (by decide) (by decide) (by decide)
          have et56 : x54.toInt = y35_l4.toInt + 1 := In.adde ex54 hb38 (k := 1) (by decide) (by decide) (by decide)
          refine lv_iinc (v := x54) (lv' := [(4, .int x54), (3, .int x51), (0, .ref (ad 255)), (1, .int z1), (2, .int x10)]) hx hb dX11_freeIn_63 hl (k := 4) rfl (by rw [ex54]; rfl) (by decide) rfl (fun ls hl => ?_)
          refine lv_goto (tgt := 35) hx hb dX11_freeIn_66 (by decide) ?_
          exact ih35 x51 x54 _ _ _ hb52 (In.mono hb55 (by decide) (by decide)) hP hD hS (by have ob10 : (0 : Int) ≤ (th 10) ∧ (th 10) ≤ 1 := (b0_10 hT :); have ob11 : (0 : Int) ≤ (th 11) ∧ (th 11) ≤ 9 := (b0_11 hT :); have ob12 : (0 : Int) ≤ (th 12) ∧ (th 12) ≤ 6 := (b0_12 hT :); have ob14 : (0 : Int) ≤ (th 14) ∧ (th 14) ≤ 511 := (b0_14 hT :); have ob15 : (0 : Int) ≤ (th 15) ∧ (th 15) ≤ 1 := (b0_15 hT :); have ob16 : (0 : Int) ≤ (th 16) ∧ (th 16) ≤ 20 := (b0_16 hT :); have ob17 : (0 : Int) ≤ (th 17) ∧ (th 17) ≤ 1 := (b0_17 hT :); have ob18 : (0 : Int) ≤ (th 18) ∧ (th 18) ≤ 18 := (b0_18 hT :); have ob38 : (0 : Int) ≤ (th 38) ∧ (th 38) ≤ 400 := (b0_38 hT :); have ob39 : (0 : Int) ≤ (th 39) ∧ (th 39) ≤ 200 := (b0_39 hT :); have ob44 : (0 : Int) ≤ (th 44) ∧ (th 44) ≤ 30 := (b0_44 hT :); have orn := rnd_b (th 10); obtain ⟨o0a, o0b⟩ := (hb52 : In _ _ _); obtain ⟨o1a, o1b⟩ := (hb55 : In _ _ _); obtain ⟨o2a, o2b⟩ := (hv14_1 : In _ _ _); obtain ⟨o3a, o3b⟩ := (hb3 : In _ _ _); obtain ⟨o4a, o4b⟩ := (hv17_1 : In _ _ _); obtain ⟨o5a, o5b⟩ := (hv20_1 : In _ _ _); obtain ⟨o6a, o6b⟩ := (hv23_1 : In _ _ _); obtain ⟨o7a, o7b⟩ := (hv25_1 : In _ _ _); obtain ⟨o8a, o8b⟩ := (hv36_1 : In _ _ _); obtain ⟨o9a, o9b⟩ := (hv47_1 : In _ _ _); obtain ⟨o10a, o10b⟩ := (hv48_1 : In _ _ _); obtain ⟨o11a, o11b⟩ := (hv53_1 : In _ _ _); obtain ⟨o12a, o12b⟩ := (hv55_1 : In _ _ _); obtain ⟨o13a, o13b⟩ := (hy35_l3 : In _ _ _); obtain ⟨o14a, o14b⟩ := (hb38 : In _ _ _); obtain ⟨o15a, o15b⟩ := (hb39 : In _ _ _); omega) (by have ob10 : (0 : Int) ≤ (th 10) ∧ (th 10) ≤ 1 := (b0_10 hT :); have ob11 : (0 : Int) ≤ (th 11) ∧ (th 11) ≤ 9 := (b0_11 hT :); have ob12 : (0 : Int) ≤ (th 12) ∧ (th 12) ≤ 6 := (b0_12 hT :); have ob14 : (0 : Int) ≤ (th 14) ∧ (th 14) ≤ 511 := (b0_14 hT :); have ob15 : (0 : Int) ≤ (th 15) ∧ (th 15) ≤ 1 := (b0_15 hT :); have ob16 : (0 : Int) ≤ (th 16) ∧ (th 16) ≤ 20 := (b0_16 hT :); have ob17 : (0 : Int) ≤ (th 17) ∧ (th 17) ≤ 1 := (b0_17 hT :); have ob18 : (0 : Int) ≤ (th 18) ∧ (th 18) ≤ 18 := (b0_18 hT :); have ob38 : (0 : Int) ≤ (th 38) ∧ (th 38) ≤ 400 := (b0_38 hT :); have ob39 : (0 : Int) ≤ (th 39) ∧ (th 39) ≤ 200 := (b0_39 hT :); have ob44 : (0 : Int) ≤ (th 44) ∧ (th 44) ≤ 30 := (b0_44 hT :); have orn := rnd_b (th 10); obtain ⟨o0a, o0b⟩ := (hb55 : In _ _ _); obtain ⟨o1a, o1b⟩ := (hb39 : In _ _ _); obtain ⟨o2a, o2b⟩ := (hv14_1 : In _ _ _); obtain ⟨o3a, o3b⟩ := (hb3 : In _ _ _); obtain ⟨o4a, o4b⟩ := (hv17_1 : In _ _ _); obtain ⟨o5a, o5b⟩ := (hv20_1 : In _ _ _); obtain ⟨o6a, o6b⟩ := (hv23_1 : In _ _ _); obtain ⟨o7a, o7b⟩ := (hv25_1 : In _ _ _); obtain ⟨o8a, o8b⟩ := (hv36_1 : In _ _ _); obtain ⟨o9a, o9b⟩ := (hv47_1 : In _ _ _); obtain ⟨o10a, o10b⟩ := (hv48_1 : In _ _ _); obtain ⟨o11a, o11b⟩ := (hv53_1 : In _ _ _); obtain ⟨o12a, o12b⟩ := (hv55_1 : In _ _ _); obtain ⟨o13a, o13b⟩ := (hb38 : In _ _ _); obtain ⟨o14a, o14b⟩ := (hy35_l3 : In _ _ _); omega) (by have hrm : x40.toInt = y35_l4.toInt % th 11 := rem_e (n := th 11) ex40 hg15_1 (by omega) (Int.le_trans (by decide) hb38.1); rw [et56, show (y35_l4.toInt + 1).toNat = (y35_l4.toInt).toNat + 1 by omega]; show _ = _ + (frL (th 11) (th 14) _ (y35_l4.toInt).toNat + _); rw [if_neg (show ¬ bitI (th 14) ((((y35_l4.toInt).toNat : Nat) : Int) % th 11) = 1 by rw [show (((y35_l4.toInt).toNat : Nat) : Int) = y35_l4.toInt by omega, ← hrm]; have ob10 : (0 : Int) ≤ (th 10) ∧ (th 10) ≤ 1 := (b0_10 hT :); have ob11 : (0 : Int) ≤ (th 11) ∧ (th 11) ≤ 9 := (b0_11 hT :); have ob12 : (0 : Int) ≤ (th 12) ∧ (th 12) ≤ 6 := (b0_12 hT :); have ob14 : (0 : Int) ≤ (th 14) ∧ (th 14) ≤ 511 := (b0_14 hT :); have ob15 : (0 : Int) ≤ (th 15) ∧ (th 15) ≤ 1 := (b0_15 hT :); have ob16 : (0 : Int) ≤ (th 16) ∧ (th 16) ≤ 20 := (b0_16 hT :); have ob17 : (0 : Int) ≤ (th 17) ∧ (th 17) ≤ 1 := (b0_17 hT :); have ob18 : (0 : Int) ≤ (th 18) ∧ (th 18) ≤ 18 := (b0_18 hT :); have ob38 : (0 : Int) ≤ (th 38) ∧ (th 38) ≤ 400 := (b0_38 hT :); have ob39 : (0 : Int) ≤ (th 39) ∧ (th 39) ≤ 200 := (b0_39 hT :); have ob44 : (0 : Int) ≤ (th 44) ∧ (th 44) ≤ 30 := (b0_44 hT :); have orn := rnd_b (th 10); obtain ⟨o0a, o0b⟩ := (hb50 : In _ _ _); obtain ⟨o1a, o1b⟩ := (hv14_1 : In _ _ _); obtain ⟨o2a, o2b⟩ := (hb3 : In _ _ _); obtain ⟨o3a, o3b⟩ := (hv17_1 : In _ _ _); obtain ⟨o4a, o4b⟩ := (hv20_1 : In _ _ _); obtain ⟨o5a, o5b⟩ := (hv23_1 : In _ _ _); obtain ⟨o6a, o6b⟩ := (hv25_1 : In _ _ _); obtain ⟨o7a, o7b⟩ := (hv36_1 : In _ _ _); obtain ⟨o8a, o8b⟩ := (hv47_1 : In _ _ _); obtain ⟨o9a, o9b⟩ := (hv48_1 : In _ _ _); obtain ⟨o10a, o10b⟩ := (hv53_1 : In _ _ _); obtain ⟨o11a, o11b⟩ := (hv55_1 : In _ _ _); omega)]; omega) (lv_sub hl [2, 3, 4, 1, 0] rfl) (msu et56 (by decide) hmz35)
        ·
          have oc0 : (0 : Int32).toInt = 0 := by decide
          have cc57 : r42.toInt ≠ (0 : Int32).toInt := i32_ne c48
          have hb58 : In r42 1 1 := In.ne1 eL46R (⟨by decide, by decide⟩ : In 0 0 0) cc57 (by decide) (by decide)
          refine lv_iload_n hx hb dX11_freeIn_56 rfl (lv_at hl 2 rfl) ?_
          refine lv_goto (tgt := 61) hx hb dX11_freeIn_57 (by decide) ?_
          refine lv_iadd hx hb dX11_freeIn_61 ?_
          refine lv_topi (fun x59 ex59 => ?_)
          have hb60 : In x59 1 1035 := ex59 ▸ In.add hy35_l3 hb13 (by decide) (by decide) (by decide) (by decide)
          have et61 : x59.toInt = y35_l3.toInt + x10.toInt := In.add2e ex59 hy35_l3 hb13 (by decide) (by decide)
          refine lv_istore_n (lv' := [(3, .int x59), (0, .ref (ad 255)), (1, .int z1), (2, .int x10), (4, .int y35_l4)]) hx hb dX11_freeIn_62 rfl hl (by decide) rfl (fun ls hl => ?_)
          obtain ⟨x62, ex62⟩ : ∃ y : Int32, y = y35_l4 + 1 := ⟨_, rfl⟩
          have hb63 : In x62 1 6 := ex62 ▸ In.add hb38 (⟨by decide, by decide⟩ : In 1 1 1) (by decide) (by decide) (by decide) (by decide)
          have et64 : x62.toInt = y35_l4.toInt + 1 := In.adde ex62 hb38 (k := 1) (by decide) (by decide) (by decide)
          refine lv_iinc (v := x62) (lv' := [(4, .int x62), (3, .int x59), (0, .ref (ad 255)), (1, .int z1), (2, .int x10)]) hx hb dX11_freeIn_63 hl (k := 4) rfl (by rw [ex62]; rfl) (by decide) rfl (fun ls hl => ?_)
          refine lv_goto (tgt := 35) hx hb dX11_freeIn_66 (by decide) ?_
          exact ih35 x59 x62 _ _ _ (In.mk (by have ob10 : (0 : Int) ≤ (th 10) ∧ (th 10) ≤ 1 := (b0_10 hT :); have ob11 : (0 : Int) ≤ (th 11) ∧ (th 11) ≤ 9 := (b0_11 hT :); have ob12 : (0 : Int) ≤ (th 12) ∧ (th 12) ≤ 6 := (b0_12 hT :); have ob14 : (0 : Int) ≤ (th 14) ∧ (th 14) ≤ 511 := (b0_14 hT :); have ob15 : (0 : Int) ≤ (th 15) ∧ (th 15) ≤ 1 := (b0_15 hT :); have ob16 : (0 : Int) ≤ (th 16) ∧ (th 16) ≤ 20 := (b0_16 hT :); have ob17 : (0 : Int) ≤ (th 17) ∧ (th 17) ≤ 1 := (b0_17 hT :); have ob18 : (0 : Int) ≤ (th 18) ∧ (th 18) ≤ 18 := (b0_18 hT :); have ob38 : (0 : Int) ≤ (th 38) ∧ (th 38) ≤ 400 := (b0_38 hT :); have ob39 : (0 : Int) ≤ (th 39) ∧ (th 39) ≤ 200 := (b0_39 hT :); have ob44 : (0 : Int) ≤ (th 44) ∧ (th 44) ≤ 30 := (b0_44 hT :); have orn := rnd_b (th 10); obtain ⟨o0a, o0b⟩ := (hb60 : In _ _ _); obtain ⟨o1a, o1b⟩ := (hv14_1 : In _ _ _); obtain ⟨o2a, o2b⟩ := (hb3 : In _ _ _); obtain ⟨o3a, o3b⟩ := (hv17_1 : In _ _ _); obtain ⟨o4a, o4b⟩ := (hv20_1 : In _ _ _); obtain ⟨o5a, o5b⟩ := (hv23_1 : In _ _ _); obtain ⟨o6a, o6b⟩ := (hv25_1 : In _ _ _); obtain ⟨o7a, o7b⟩ := (hv36_1 : In _ _ _); obtain ⟨o8a, o8b⟩ := (hv47_1 : In _ _ _); obtain ⟨o9a, o9b⟩ := (hv48_1 : In _ _ _); obtain ⟨o10a, o10b⟩ := (hv53_1 : In _ _ _); obtain ⟨o11a, o11b⟩ := (hv55_1 : In _ _ _); obtain ⟨o12a, o12b⟩ := (hy35_l3 : In _ _ _); obtain ⟨o13a, o13b⟩ := (hb13 : In _ _ _); obtain ⟨o14a, o14b⟩ := (hb38 : In _ _ _); obtain ⟨o15a, o15b⟩ := (eL8R : In _ _ _); obtain ⟨o16a, o16b⟩ := (hb39 : In _ _ _); omega) (by have ob10 : (0 : Int) ≤ (th 10) ∧ (th 10) ≤ 1 := (b0_10 hT :); have ob11 : (0 : Int) ≤ (th 11) ∧ (th 11) ≤ 9 := (b0_11 hT :); have ob12 : (0 : Int) ≤ (th 12) ∧ (th 12) ≤ 6 := (b0_12 hT :); have ob14 : (0 : Int) ≤ (th 14) ∧ (th 14) ≤ 511 := (b0_14 hT :); have ob15 : (0 : Int) ≤ (th 15) ∧ (th 15) ≤ 1 := (b0_15 hT :); have ob16 : (0 : Int) ≤ (th 16) ∧ (th 16) ≤ 20 := (b0_16 hT :); have ob17 : (0 : Int) ≤ (th 17) ∧ (th 17) ≤ 1 := (b0_17 hT :); have ob18 : (0 : Int) ≤ (th 18) ∧ (th 18) ≤ 18 := (b0_18 hT :); have ob38 : (0 : Int) ≤ (th 38) ∧ (th 38) ≤ 400 := (b0_38 hT :); have ob39 : (0 : Int) ≤ (th 39) ∧ (th 39) ≤ 200 := (b0_39 hT :); have ob44 : (0 : Int) ≤ (th 44) ∧ (th 44) ≤ 30 := (b0_44 hT :); have orn := rnd_b (th 10); obtain ⟨o0a, o0b⟩ := (hb60 : In _ _ _); obtain ⟨o1a, o1b⟩ := (hv14_1 : In _ _ _); obtain ⟨o2a, o2b⟩ := (hb3 : In _ _ _); obtain ⟨o3a, o3b⟩ := (hv17_1 : In _ _ _); obtain ⟨o4a, o4b⟩ := (hv20_1 : In _ _ _); obtain ⟨o5a, o5b⟩ := (hv23_1 : In _ _ _); obtain ⟨o6a, o6b⟩ := (hv25_1 : In _ _ _); obtain ⟨o7a, o7b⟩ := (hv36_1 : In _ _ _); obtain ⟨o8a, o8b⟩ := (hv47_1 : In _ _ _); obtain ⟨o9a, o9b⟩ := (hv48_1 : In _ _ _); obtain ⟨o10a, o10b⟩ := (hv53_1 : In _ _ _); obtain ⟨o11a, o11b⟩ := (hv55_1 : In _ _ _); obtain ⟨o12a, o12b⟩ := (hy35_l3 : In _ _ _); obtain ⟨o13a, o13b⟩ := (hb13 : In _ _ _); obtain ⟨o14a, o14b⟩ := (hb38 : In _ _ _); obtain ⟨o15a, o15b⟩ := (eL8R : In _ _ _); obtain ⟨o16a, o16b⟩ := (hb39 : In _ _ _); omega)) (In.mono hb63 (by decide) (by decide)) hP hD hS (by have ob10 : (0 : Int) ≤ (th 10) ∧ (th 10) ≤ 1 := (b0_10 hT :); have ob11 : (0 : Int) ≤ (th 11) ∧ (th 11) ≤ 9 := (b0_11 hT :); have ob12 : (0 : Int) ≤ (th 12) ∧ (th 12) ≤ 6 := (b0_12 hT :); have ob14 : (0 : Int) ≤ (th 14) ∧ (th 14) ≤ 511 := (b0_14 hT :); have ob15 : (0 : Int) ≤ (th 15) ∧ (th 15) ≤ 1 := (b0_15 hT :); have ob16 : (0 : Int) ≤ (th 16) ∧ (th 16) ≤ 20 := (b0_16 hT :); have ob17 : (0 : Int) ≤ (th 17) ∧ (th 17) ≤ 1 := (b0_17 hT :); have ob18 : (0 : Int) ≤ (th 18) ∧ (th 18) ≤ 18 := (b0_18 hT :); have ob38 : (0 : Int) ≤ (th 38) ∧ (th 38) ≤ 400 := (b0_38 hT :); have ob39 : (0 : Int) ≤ (th 39) ∧ (th 39) ≤ 200 := (b0_39 hT :); have ob44 : (0 : Int) ≤ (th 44) ∧ (th 44) ≤ 30 := (b0_44 hT :); have orn := rnd_b (th 10); obtain ⟨o0a, o0b⟩ := (hb60 : In _ _ _); obtain ⟨o1a, o1b⟩ := (hb63 : In _ _ _); obtain ⟨o2a, o2b⟩ := (hv14_1 : In _ _ _); obtain ⟨o3a, o3b⟩ := (hb3 : In _ _ _); obtain ⟨o4a, o4b⟩ := (hv17_1 : In _ _ _); obtain ⟨o5a, o5b⟩ := (hv20_1 : In _ _ _); obtain ⟨o6a, o6b⟩ := (hv23_1 : In _ _ _); obtain ⟨o7a, o7b⟩ := (hv25_1 : In _ _ _); obtain ⟨o8a, o8b⟩ := (hv36_1 : In _ _ _); obtain ⟨o9a, o9b⟩ := (hv47_1 : In _ _ _); obtain ⟨o10a, o10b⟩ := (hv48_1 : In _ _ _); obtain ⟨o11a, o11b⟩ := (hv53_1 : In _ _ _); obtain ⟨o12a, o12b⟩ := (hv55_1 : In _ _ _); obtain ⟨o13a, o13b⟩ := (hy35_l3 : In _ _ _); obtain ⟨o14a, o14b⟩ := (hb13 : In _ _ _); obtain ⟨o15a, o15b⟩ := (hb38 : In _ _ _); obtain ⟨o16a, o16b⟩ := (eL8R : In _ _ _); obtain ⟨o17a, o17b⟩ := (hb39 : In _ _ _); omega) (by have ob10 : (0 : Int) ≤ (th 10) ∧ (th 10) ≤ 1 := (b0_10 hT :); have ob11 : (0 : Int) ≤ (th 11) ∧ (th 11) ≤ 9 := (b0_11 hT :); have ob12 : (0 : Int) ≤ (th 12) ∧ (th 12) ≤ 6 := (b0_12 hT :); have ob14 : (0 : Int) ≤ (th 14) ∧ (th 14) ≤ 511 := (b0_14 hT :); have ob15 : (0 : Int) ≤ (th 15) ∧ (th 15) ≤ 1 := (b0_15 hT :); have ob16 : (0 : Int) ≤ (th 16) ∧ (th 16) ≤ 20 := (b0_16 hT :); have ob17 : (0 : Int) ≤ (th 17) ∧ (th 17) ≤ 1 := (b0_17 hT :); have ob18 : (0 : Int) ≤ (th 18) ∧ (th 18) ≤ 18 := (b0_18 hT :); have ob38 : (0 : Int) ≤ (th 38) ∧ (th 38) ≤ 400 := (b0_38 hT :); have ob39 : (0 : Int) ≤ (th 39) ∧ (th 39) ≤ 200 := (b0_39 hT :); have ob44 : (0 : Int) ≤ (th 44) ∧ (th 44) ≤ 30 := (b0_44 hT :); have orn := rnd_b (th 10); obtain ⟨o0a, o0b⟩ := (hb63 : In _ _ _); obtain ⟨o1a, o1b⟩ := (hb39 : In _ _ _); obtain ⟨o2a, o2b⟩ := (hv14_1 : In _ _ _); obtain ⟨o3a, o3b⟩ := (hb3 : In _ _ _); obtain ⟨o4a, o4b⟩ := (hv17_1 : In _ _ _); obtain ⟨o5a, o5b⟩ := (hv20_1 : In _ _ _); obtain ⟨o6a, o6b⟩ := (hv23_1 : In _ _ _); obtain ⟨o7a, o7b⟩ := (hv25_1 : In _ _ _); obtain ⟨o8a, o8b⟩ := (hv36_1 : In _ _ _); obtain ⟨o9a, o9b⟩ := (hv47_1 : In _ _ _); obtain ⟨o10a, o10b⟩ := (hv48_1 : In _ _ _); obtain ⟨o11a, o11b⟩ := (hv53_1 : In _ _ _); obtain ⟨o12a, o12b⟩ := (hv55_1 : In _ _ _); obtain ⟨o13a, o13b⟩ := (hb38 : In _ _ _); obtain ⟨o14a, o14b⟩ := (hy35_l3 : In _ _ _); omega) (by have hrm : x40.toInt = y35_l4.toInt % th 11 := rem_e (n := th 11) ex40 hg15_1 (by omega) (Int.le_trans (by decide) hb38.1); rw [et64, show (y35_l4.toInt + 1).toNat = (y35_l4.toInt).toNat + 1 by omega]; show _ = _ + (frL (th 11) (th 14) _ (y35_l4.toInt).toNat + _); rw [if_pos (show bitI (th 14) ((((y35_l4.toInt).toNat : Nat) : Int) % th 11) = 1 by rw [show (((y35_l4.toInt).toNat : Nat) : Int) = y35_l4.toInt by omega, ← hrm]; have ob10 : (0 : Int) ≤ (th 10) ∧ (th 10) ≤ 1 := (b0_10 hT :); have ob11 : (0 : Int) ≤ (th 11) ∧ (th 11) ≤ 9 := (b0_11 hT :); have ob12 : (0 : Int) ≤ (th 12) ∧ (th 12) ≤ 6 := (b0_12 hT :); have ob14 : (0 : Int) ≤ (th 14) ∧ (th 14) ≤ 511 := (b0_14 hT :); have ob15 : (0 : Int) ≤ (th 15) ∧ (th 15) ≤ 1 := (b0_15 hT :); have ob16 : (0 : Int) ≤ (th 16) ∧ (th 16) ≤ 20 := (b0_16 hT :); have ob17 : (0 : Int) ≤ (th 17) ∧ (th 17) ≤ 1 := (b0_17 hT :); have ob18 : (0 : Int) ≤ (th 18) ∧ (th 18) ≤ 18 := (b0_18 hT :); have ob38 : (0 : Int) ≤ (th 38) ∧ (th 38) ≤ 400 := (b0_38 hT :); have ob39 : (0 : Int) ≤ (th 39) ∧ (th 39) ≤ 200 := (b0_39 hT :); have ob44 : (0 : Int) ≤ (th 44) ∧ (th 44) ≤ 30 := (b0_44 hT :); have orn := rnd_b (th 10); obtain ⟨o0a, o0b⟩ := (hb58 : In _ _ _); obtain ⟨o1a, o1b⟩ := (hv14_1 : In _ _ _); obtain ⟨o2a, o2b⟩ := (hb3 : In _ _ _); obtain ⟨o3a, o3b⟩ := (hv17_1 : In _ _ _); obtain ⟨o4a, o4b⟩ := (hv20_1 : In _ _ _); obtain ⟨o5a, o5b⟩ := (hv23_1 : In _ _ _); obtain ⟨o6a, o6b⟩ := (hv25_1 : In _ _ _); obtain ⟨o7a, o7b⟩ := (hv36_1 : In _ _ _); obtain ⟨o8a, o8b⟩ := (hv47_1 : In _ _ _); obtain ⟨o9a, o9b⟩ := (hv48_1 : In _ _ _); obtain ⟨o10a, o10b⟩ := (hv53_1 : In _ _ _); obtain ⟨o11a, o11b⟩ := (hv55_1 : In _ _ _); omega)]; omega) (lv_sub hl [2, 3, 4, 1, 0] rfl) (msu et64 (by decide) hmz35)
  exact hJ35 ((6 - (0 : Int32).toInt).toNat + 1) x33 0 _ _ _ (In.mono hb34 (by decide) (by decide)) (⟨by decide, by decide⟩ : In 0 0 6) hP hD hS (by have ob10 : (0 : Int) ≤ (th 10) ∧ (th 10) ≤ 1 := (b0_10 hT :); have ob11 : (0 : Int) ≤ (th 11) ∧ (th 11) ≤ 9 := (b0_11 hT :); have ob12 : (0 : Int) ≤ (th 12) ∧ (th 12) ≤ 6 := (b0_12 hT :); have ob14 : (0 : Int) ≤ (th 14) ∧ (th 14) ≤ 511 := (b0_14 hT :); have ob15 : (0 : Int) ≤ (th 15) ∧ (th 15) ≤ 1 := (b0_15 hT :); have ob16 : (0 : Int) ≤ (th 16) ∧ (th 16) ≤ 20 := (b0_16 hT :); have ob17 : (0 : Int) ≤ (th 17) ∧ (th 17) ≤ 1 := (b0_17 hT :); have ob18 : (0 : Int) ≤ (th 18) ∧ (th 18) ≤ 18 := (b0_18 hT :); have ob38 : (0 : Int) ≤ (th 38) ∧ (th 38) ≤ 400 := (b0_38 hT :); have ob39 : (0 : Int) ≤ (th 39) ∧ (th 39) ≤ 200 := (b0_39 hT :); have ob44 : (0 : Int) ≤ (th 44) ∧ (th 44) ≤ 30 := (b0_44 hT :); have orn := rnd_b (th 10); have oc0 : (0 : Int32).toInt = 0 := (by decide); obtain ⟨o0a, o0b⟩ := (hb34 : In _ _ _); obtain ⟨o2a, o2b⟩ := (hv14_1 : In _ _ _); obtain ⟨o3a, o3b⟩ := (hb3 : In _ _ _); obtain ⟨o4a, o4b⟩ := (hv17_1 : In _ _ _); obtain ⟨o5a, o5b⟩ := (hv20_1 : In _ _ _); obtain ⟨o6a, o6b⟩ := (hv23_1 : In _ _ _); obtain ⟨o7a, o7b⟩ := (hv25_1 : In _ _ _); obtain ⟨o8a, o8b⟩ := (hv36_1 : In _ _ _); obtain ⟨o9a, o9b⟩ := (hv47_1 : In _ _ _); obtain ⟨o10a, o10b⟩ := (hv48_1 : In _ _ _); obtain ⟨o11a, o11b⟩ := (hv53_1 : In _ _ _); obtain ⟨o12a, o12b⟩ := (hv55_1 : In _ _ _); omega) (by have ob10 : (0 : Int) ≤ (th 10) ∧ (th 10) ≤ 1 := (b0_10 hT :); have ob11 : (0 : Int) ≤ (th 11) ∧ (th 11) ≤ 9 := (b0_11 hT :); have ob12 : (0 : Int) ≤ (th 12) ∧ (th 12) ≤ 6 := (b0_12 hT :); have ob14 : (0 : Int) ≤ (th 14) ∧ (th 14) ≤ 511 := (b0_14 hT :); have ob15 : (0 : Int) ≤ (th 15) ∧ (th 15) ≤ 1 := (b0_15 hT :); have ob16 : (0 : Int) ≤ (th 16) ∧ (th 16) ≤ 20 := (b0_16 hT :); have ob17 : (0 : Int) ≤ (th 17) ∧ (th 17) ≤ 1 := (b0_17 hT :); have ob18 : (0 : Int) ≤ (th 18) ∧ (th 18) ≤ 18 := (b0_18 hT :); have ob38 : (0 : Int) ≤ (th 38) ∧ (th 38) ≤ 400 := (b0_38 hT :); have ob39 : (0 : Int) ≤ (th 39) ∧ (th 39) ≤ 200 := (b0_39 hT :); have ob44 : (0 : Int) ≤ (th 44) ∧ (th 44) ≤ 30 := (b0_44 hT :); have orn := rnd_b (th 10); have oc0 : (0 : Int32).toInt = 0 := (by decide); obtain ⟨o1a, o1b⟩ := (hz1 : In _ _ _); obtain ⟨o2a, o2b⟩ := (hv14_1 : In _ _ _); obtain ⟨o3a, o3b⟩ := (hb3 : In _ _ _); obtain ⟨o4a, o4b⟩ := (hv17_1 : In _ _ _); obtain ⟨o5a, o5b⟩ := (hv20_1 : In _ _ _); obtain ⟨o6a, o6b⟩ := (hv23_1 : In _ _ _); obtain ⟨o7a, o7b⟩ := (hv25_1 : In _ _ _); obtain ⟨o8a, o8b⟩ := (hv36_1 : In _ _ _); obtain ⟨o9a, o9b⟩ := (hv47_1 : In _ _ _); obtain ⟨o10a, o10b⟩ := (hv48_1 : In _ _ _); obtain ⟨o11a, o11b⟩ := (hv53_1 : In _ _ _); obtain ⟨o12a, o12b⟩ := (hv55_1 : In _ _ _); omega) (by rw [show ((0 : Int32).toInt).toNat = 0 by decide]; show _ = _ + (0 : Int); omega) (lv_sub hl [3, 4, 2, 1, 0] rfl) (msI _)

abbrev rm_X11_free : Room := { frames := 3, cells := 0, slots := 0, locals := 66 }
abbrev po_X11_free (g : GG) (ad : Nat → Nat) (th : Nat → Int) (L : List Nat) (f : HP)  : Int32 → (List Nat × HP) → Prop := fun r u => u.1 = L ∧ (∃ th' : Nat → Int, (MI th' ∧ SBM th th') ∧ TI g ad th' u.2) ∧ (∀ b, b ≠ (ad 255) → b ≠ (ad 265) → b ≠ (ad 266) → b ≠ (ad 267) → b ≠ (ad 269) → b ≠ (ad 260) → b ≠ (ad 261) → b ≠ (ad 262) → b ≠ (ad 263) → b ≠ (ad 264) → u.2 b = f b)
set_option maxHeartbeats 4000000 in
set_option maxRecDepth 100000 in
theorem s_X11_free (l : Launch) (g : GG) (ad : Nat → Nat) (th : Nat → Int) (L : List Nat) (f : HP) (sz : Nat)  (hst : ST ad L) (hT : TI g ad th f) (hM : MI th) : MtI l g yX11_free cX11_free 1 (some .int) rm_X11_free [.ref (ad 255)] L f sz (po_X11_free g ad th L f ) := by
  refine MtI.of (by decide +kernel) (Nat.le_of_ble_eq_true rfl) ?_
  intro p e s m below meth c A hEn hP hD hS ls hl
  obtain ⟨hx, hb, hr, hml, hown, hlocks, hts, hG, hA, hE, hnm⟩ := hEn
  have hown : s.vm.findClass "RulerWordModel" = some m.cls := hown
  have hl : lv_has ls 1 [(0, .ref (ad 255))] := hl
  have hfr : (∀ b, b ≠ (ad 255) → b ≠ (ad 265) → b ≠ (ad 266) → b ≠ (ad 267) → b ≠ (ad 269) → b ≠ (ad 260) → b ≠ (ad 261) → b ≠ (ad 262) → b ≠ (ad 263) → b ≠ (ad 264) → f b = f b) := fun b z0_ z1_ z2_ z3_ z4_ z5_ z6_ z7_ z8_ z9_ => rfl
  have hM0 := hM
  obtain ⟨m1, m2, m3, m4, m5, m6, m7, m8, m9, m10⟩ := hM0
  have m20 := mi20 m2 m3
  refine lv_aload_n hx hb dX11_free_0 rfl (lv_at hl 0 rfl) ?_
  refine lv_iconst (v := 0) hx hb dX11_free_1 (by decide) ?_
  refine M0e hT (fun v0_1 v2_1 v3_1 v4_1 v5_1 v6_1 v8_1 v9_1 v12_1 v13_1 v14_1 v15_1 v16_1 v17_1 v18_1 v19_1 v20_1 v21_1 v22_1 v23_1 v25_1 v36_1 v37_1 v38_1 v39_1 v40_1 v45_1 v46_1 v47_1 v48_1 v50_1 v51_1 v53_1 v55_1 hf2 hv0_1 hv2_1 hg2_1 hv3_1 hg3_1 hv4_1 hg4_1 hv5_1 hg5_1 hv6_1 hg6_1 hv8_1 hg8_1 hv9_1 hg9_1 hv12_1 hv13_1 hg13_1 hv14_1 hg14_1 hv15_1 hg15_1 hv17_1 hg17_1 hv20_1 hg20_1 hv23_1 hg23_1 hv25_1 hg25_1 hv36_1 hg36_1 hv47_1 hg47_1 hv48_1 hg48_1 hv53_1 hg53_1 hv55_1 hg55_1 hrel0_1 => ?_)
  have hg15_1 : v15_1.toInt = th 11 := hg15_1
  have hg17_1 : v17_1.toInt = th 12 := hg17_1
  have hg20_1 : v20_1.toInt = th 14 := hg20_1
  refine pl_put (ty := .int) (v := .int 0) (fs' := [.int 0, .ref (ad 256), .int v2_1, .int v3_1, .int v4_1, .int v5_1, .int v6_1, .ref (ad 257), .int v8_1, .int v9_1, .ref (ad 258), .ref (ad 259), .int v12_1, .int v13_1, .int v14_1, .int v15_1, .int v16_1, .int v17_1, .int v18_1, .int v19_1, .int v20_1, .long v21_1, .long v22_1, .int v23_1, .ref (ad 260), .int v25_1, .ref (ad 261), .ref (ad 262), .ref (ad 263), .ref (ad 264), .ref (ad 265), .ref (ad 266), .ref (ad 267), .ref (ad 268), .ref (ad 269), .ref (ad 270), .int v36_1, .int v37_1, .int v38_1, .int v39_1, .int v40_1, .ref (ad 271), .ref (ad 272), .ref (ad 273), .ref (ad 274), .long v45_1, .long v46_1, .int v47_1, .int v48_1, .ref (ad 275), .int v50_1, .int v51_1, .ref (ad 276), .int v53_1, .ref (ad 277), .int v55_1]) hx hb hts (fun w h => mT (inX11 w h)) tyX11 tyX11_ok nmX11 hown hG.1 hP hD hS (hst.1 255 (by decide)) hf2 rfl 0 (by decide) (hts _ (mT wg_1336)) (fun _ h => h) rfl (by decide +kernel) (rfl) (rfl) (Nat.le_of_ble_eq_true rfl) rfl dX11_free_2 (fun H locs f3 hf4 ho5 hP hD hS => ?_)
  have hfr : (∀ b, b ≠ (ad 255) → b ≠ (ad 265) → b ≠ (ad 266) → b ≠ (ad 267) → b ≠ (ad 269) → b ≠ (ad 260) → b ≠ (ad 261) → b ≠ (ad 262) → b ≠ (ad 263) → b ≠ (ad 264) → f3 b = f b) := fun b z0_ z1_ z2_ z3_ z4_ z5_ z6_ z7_ z8_ z9_ => (ho5 b z0_).trans (hfr b z0_ z1_ z2_ z3_ z4_ z5_ z6_ z7_ z8_ z9_)
  refine lv_aload_n hx hb dX11_free_5 rfl (lv_at hl 0 rfl) ?_
  refine pl_get (v := .int v23_1) hx hb hts (fun w h => mT (inX11 w h)) hown hG.1 hP (hst.1 255 (by decide)) hf4 rfl 23 (by decide) (hts _ (mT wg_1359)) (fun _ h => h) rfl dX11_free_6 ?_
  have hg23_1 : v23_1.toInt = th 15 := hg23_1
  have hT := TI.updM hT hst (k := 0) (by decide) hf4 ho5 ⟨0, v2_1, v3_1, v4_1, v5_1, v6_1, v8_1, v9_1, v12_1, v13_1, v14_1, v15_1, v16_1, v17_1, v18_1, v19_1, v20_1, v21_1, v22_1, v23_1, v25_1, v36_1, v37_1, v38_1, v39_1, v40_1, v45_1, v46_1, v47_1, v48_1, v50_1, v51_1, v53_1, v55_1, rfl, (⟨by decide, by decide⟩ : In 0 0 1), hv2_1, hg2_1, hv3_1, hg3_1, hv4_1, hg4_1, hv5_1, hg5_1, hv6_1, hg6_1, hv8_1, hg8_1, hv9_1, hg9_1, hv12_1, hv13_1, hg13_1, hv14_1, hg14_1, hv15_1, hg15_1, hv17_1, hg17_1, hv20_1, hg20_1, hv23_1, hg23_1, hv25_1, hg25_1, hv36_1, hg36_1, hv47_1, hg47_1, hv48_1, hg48_1, hv53_1, hg53_1, hv55_1, hg55_1, hrel0_1⟩
  refine lv_if_ne (tgt := 14) hx hb dX11_free_9 (by decide) (fun c6 => ?_) (fun c6 => ?_)
  ·
    have oc0 : (0 : Int32).toInt = 0 := by decide
    have cc7 : v23_1.toInt ≠ (0 : Int32).toInt := i32_ne c6
    have hb8 : In v23_1 1 1 := In.ne1 hv23_1 (⟨by decide, by decide⟩ : In 0 0 0) cc7 (by decide) (by decide)
    refine lv_aload_n hx hb dX11_free_14 rfl (lv_at hl 0 rfl) ?_
    refine call_v (run_V (rm := rm_X11_takesUp) hx hb hml hown hts (s_X11_takesUp l g ad th _ _ _  hst hT (show (th 22) = 2126 from (by have ob10 : (0 : Int) ≤ (th 10) ∧ (th 10) ≤ 1 := (b0_10 hT :); have ob11 : (0 : Int) ≤ (th 11) ∧ (th 11) ≤ 9 := (b0_11 hT :); have ob12 : (0 : Int) ≤ (th 12) ∧ (th 12) ≤ 6 := (b0_12 hT :); have ob14 : (0 : Int) ≤ (th 14) ∧ (th 14) ≤ 511 := (b0_14 hT :); have ob15 : (0 : Int) ≤ (th 15) ∧ (th 15) ≤ 1 := (b0_15 hT :); have ob16 : (0 : Int) ≤ (th 16) ∧ (th 16) ≤ 20 := (b0_16 hT :); have ob17 : (0 : Int) ≤ (th 17) ∧ (th 17) ≤ 1 := (b0_17 hT :); have ob18 : (0 : Int) ≤ (th 18) ∧ (th 18) ≤ 18 := (b0_18 hT :); have ob38 : (0 : Int) ≤ (th 38) ∧ (th 38) ≤ 400 := (b0_38 hT :); have ob39 : (0 : Int) ≤ (th 39) ∧ (th 39) ≤ 200 := (b0_39 hT :); have ob44 : (0 : Int) ≤ (th 44) ∧ (th 44) ≤ 30 := (b0_44 hT :); have orn := rnd_b (th 10); obtain ⟨o0a, o0b⟩ := (hv14_1 : In _ _ _); obtain ⟨o1a, o1b⟩ := (hv15_1 : In _ _ _); obtain ⟨o2a, o2b⟩ := (hv17_1 : In _ _ _); obtain ⟨o3a, o3b⟩ := (hv20_1 : In _ _ _); obtain ⟨o4a, o4b⟩ := (hb8 : In _ _ _); obtain ⟨o5a, o5b⟩ := (hv25_1 : In _ _ _); obtain ⟨o6a, o6b⟩ := (hv36_1 : In _ _ _); obtain ⟨o7a, o7b⟩ := (hv47_1 : In _ _ _); obtain ⟨o8a, o8b⟩ := (hv48_1 : In _ _ _); obtain ⟨o9a, o9b⟩ := (hv53_1 : In _ _ _); obtain ⟨o10a, o10b⟩ := (hv55_1 : In _ _ _); omega)) (show (th 20) ≤ 18 from (by have ob10 : (0 : Int) ≤ (th 10) ∧ (th 10) ≤ 1 := (b0_10 hT :); have ob11 : (0 : Int) ≤ (th 11) ∧ (th 11) ≤ 9 := (b0_11 hT :); have ob12 : (0 : Int) ≤ (th 12) ∧ (th 12) ≤ 6 := (b0_12 hT :); have ob14 : (0 : Int) ≤ (th 14) ∧ (th 14) ≤ 511 := (b0_14 hT :); have ob15 : (0 : Int) ≤ (th 15) ∧ (th 15) ≤ 1 := (b0_15 hT :); have ob16 : (0 : Int) ≤ (th 16) ∧ (th 16) ≤ 20 := (b0_16 hT :); have ob17 : (0 : Int) ≤ (th 17) ∧ (th 17) ≤ 1 := (b0_17 hT :); have ob18 : (0 : Int) ≤ (th 18) ∧ (th 18) ≤ 18 := (b0_18 hT :); have ob38 : (0 : Int) ≤ (th 38) ∧ (th 38) ≤ 400 := (b0_38 hT :); have ob39 : (0 : Int) ≤ (th 39) ∧ (th 39) ≤ 200 := (b0_39 hT :); have ob44 : (0 : Int) ≤ (th 44) ∧ (th 44) ≤ 30 := (b0_44 hT :); have orn := rnd_b (th 10); obtain ⟨o0a, o0b⟩ := (hv14_1 : In _ _ _); obtain ⟨o1a, o1b⟩ := (hv15_1 : In _ _ _); obtain ⟨o2a, o2b⟩ := (hv17_1 : In _ _ _); obtain ⟨o3a, o3b⟩ := (hv20_1 : In _ _ _); obtain ⟨o4a, o4b⟩ := (hb8 : In _ _ _); obtain ⟨o5a, o5b⟩ := (hv25_1 : In _ _ _); obtain ⟨o6a, o6b⟩ := (hv36_1 : In _ _ _); obtain ⟨o7a, o7b⟩ := (hv47_1 : In _ _ _); obtain ⟨o8a, o8b⟩ := (hv48_1 : In _ _ _); obtain ⟨o9a, o9b⟩ := (hv53_1 : In _ _ _); obtain ⟨o10a, o10b⟩ := (hv55_1 : In _ _ _); omega)) (show (th 21) = (th 11) from (by have ob10 : (0 : Int) ≤ (th 10) ∧ (th 10) ≤ 1 := (b0_10 hT :); have ob11 : (0 : Int) ≤ (th 11) ∧ (th 11) ≤ 9 := (b0_11 hT :); have ob12 : (0 : Int) ≤ (th 12) ∧ (th 12) ≤ 6 := (b0_12 hT :); have ob14 : (0 : Int) ≤ (th 14) ∧ (th 14) ≤ 511 := (b0_14 hT :); have ob15 : (0 : Int) ≤ (th 15) ∧ (th 15) ≤ 1 := (b0_15 hT :); have ob16 : (0 : Int) ≤ (th 16) ∧ (th 16) ≤ 20 := (b0_16 hT :); have ob17 : (0 : Int) ≤ (th 17) ∧ (th 17) ≤ 1 := (b0_17 hT :); have ob18 : (0 : Int) ≤ (th 18) ∧ (th 18) ≤ 18 := (b0_18 hT :); have ob38 : (0 : Int) ≤ (th 38) ∧ (th 38) ≤ 400 := (b0_38 hT :); have ob39 : (0 : Int) ≤ (th 39) ∧ (th 39) ≤ 200 := (b0_39 hT :); have ob44 : (0 : Int) ≤ (th 44) ∧ (th 44) ≤ 30 := (b0_44 hT :); have orn := rnd_b (th 10); obtain ⟨o0a, o0b⟩ := (hv14_1 : In _ _ _); obtain ⟨o1a, o1b⟩ := (hv15_1 : In _ _ _); obtain ⟨o2a, o2b⟩ := (hv17_1 : In _ _ _); obtain ⟨o3a, o3b⟩ := (hv20_1 : In _ _ _); obtain ⟨o4a, o4b⟩ := (hb8 : In _ _ _); obtain ⟨o5a, o5b⟩ := (hv25_1 : In _ _ _); obtain ⟨o6a, o6b⟩ := (hv36_1 : In _ _ _); obtain ⟨o7a, o7b⟩ := (hv47_1 : In _ _ _); obtain ⟨o8a, o8b⟩ := (hv48_1 : In _ _ _); obtain ⟨o9a, o9b⟩ := (hv53_1 : In _ _ _); obtain ⟨o10a, o10b⟩ := (hv55_1 : In _ _ _); omega))) cV_X11_takesUp wg_1648 ⟨Nat.le_of_ble_eq_true rfl, Nat.le_of_ble_eq_true rfl⟩ hG hE hA hP hD hS (hst.1 255 (by decide)) hf4 rfl rfl hl.1 (As := []) (rest := []) rfl (Nat.le_of_ble_eq_true rfl) dX11_free_15 ⟨Nat.le_of_ble_eq_true rfl, Nat.le_of_ble_eq_true rfl⟩) hA hD hS (fun L10 f11 H locs hp12 hP hD hS => ?_)
    obtain ⟨eL13L, eL13T, eL13F⟩ := hp12
    have eL13L : L10 = L := eL13L
    rw [eL13L] at hP hD
    obtain ⟨zz14, zz15, zz16, hzz14, eL13T⟩ := eL13T
    have hzz14 : ((zz14 = (th 19) ∧ 0 ≤ zz14 ∧ zz14 ≤ (th 20)) ∧ (0 ≤ zz15 ∧ zz15 ≤ 511)) ∧ capI zz15 ((th 11)) := hzz14
    have hT : TI g ad (gset (gset (gset th 18 zz14) 14 zz15) 44 zz16) f11 := eL13T
    have eL13F : ∀ b, b ≠ (ad 255) → b ≠ (ad 265) → b ≠ (ad 266) → b ≠ (ad 267) → b ≠ (ad 269) → b ≠ (ad 260) → b ≠ (ad 261) → b ≠ (ad 262) → b ≠ (ad 263) → b ≠ (ad 264) → f11 b = f3 b := eL13F
    have hfr : (∀ b, b ≠ (ad 255) → b ≠ (ad 265) → b ≠ (ad 266) → b ≠ (ad 267) → b ≠ (ad 269) → b ≠ (ad 260) → b ≠ (ad 261) → b ≠ (ad 262) → b ≠ (ad 263) → b ≠ (ad 264) → f11 b = f b) := fun b z0_ z1_ z2_ z3_ z4_ z5_ z6_ z7_ z8_ z9_ => (eL13F b z0_ z1_ z2_ z3_ z4_ z5_ z6_ z7_ z8_ z9_).trans (hfr b z0_ z1_ z2_ z3_ z4_ z5_ z6_ z7_ z8_ z9_)
    refine lv_aload_n hx hb dX11_free_18 rfl (lv_at hl 0 rfl) ?_
    refine lv_aload_n hx hb dX11_free_19 rfl (lv_at hl 0 rfl) ?_
    refine M0e hT (fun v0_17 v2_17 v3_17 v4_17 v5_17 v6_17 v8_17 v9_17 v12_17 v13_17 v14_17 v15_17 v16_17 v17_17 v18_17 v19_17 v20_17 v21_17 v22_17 v23_17 v25_17 v36_17 v37_17 v38_17 v39_17 v40_17 v45_17 v46_17 v47_17 v48_17 v50_17 v51_17 v53_17 v55_17 hf18 hv0_17 hv2_17 hg2_17 hv3_17 hg3_17 hv4_17 hg4_17 hv5_17 hg5_17 hv6_17 hg6_17 hv8_17 hg8_17 hv9_17 hg9_17 hv12_17 hv13_17 hg13_17 hv14_17 hg14_17 hv15_17 hg15_17 hv17_17 hg17_17 hv20_17 hg20_17 hv23_17 hg23_17 hv25_17 hg25_17 hv36_17 hg36_17 hv47_17 hg47_17 hv48_17 hg48_17 hv53_17 hg53_17 hv55_17 hg55_17 hrel0_17 => ?_)
    have hg15_17 : v15_17.toInt = th 11 := hg15_17
    have hg17_17 : v17_17.toInt = th 12 := hg17_17
    have hg20_17 : v20_17.toInt = zz15 := hg20_17
    refine pl_get (v := .int v17_17) hx hb hts (fun w h => mT (inX11 w h)) hown hG.1 hP (hst.1 255 (by decide)) hf18 rfl 17 (by decide) (hts _ (mT wg_1353)) (fun _ h => h) rfl dX11_free_20 ?_
    refine call_i (run_V (rm := rm_X11_freeIn) hx hb hml hown hts (s_X11_freeIn l g ad (gset (gset (gset th 18 zz14) 14 zz15) 44 zz16) _ _ _ v17_17 hst hT hv17_17 (show 3 ≤ th 11 by omega)) cV_X11_freeIn wg_1823 ⟨Nat.le_of_ble_eq_true rfl, Nat.le_of_ble_eq_true rfl⟩ hG hE hA hP hD hS (hst.1 255 (by decide)) hf18 rfl rfl hl.1 (As := [.int v17_17]) (rest := []) rfl (Nat.le_of_ble_eq_true rfl) dX11_free_23 ⟨Nat.le_of_ble_eq_true rfl, Nat.le_of_ble_eq_true rfl⟩) hA hD hS (fun r19 L20 f21 H locs hp22 hP hD hS => ?_)
    obtain ⟨eL23L, eL23T, eL23X0⟩ := hp22
    have eL23L : L20 = L := eL23L
    have eL23T : f21 = f11 := eL23T
    rw [eL23L, eL23T] at hP hD
    have hfi24 : r19.toInt = frI (rnd (th 10)) (th 11) (zz15) v17_17.toInt := eL23X0
    exact ret_i (ty := .int) hx hb hr hlocks (rfl) hP hD hS (Nat.le_of_ble_eq_true rfl) (Nat.le_of_ble_eq_true rfl) (⟨rfl, ⟨(gset (gset (gset th 18 zz14) 14 zz15) 44 zz16), ⟨(show MI (gset (gset (gset th 18 zz14) 14 zz15) 44 zz16) from ⟨m1, m2, (show th 20 = (th 12) * rnd (th 10) from m3), m4, m5, m6, m7, m8, m9, m10⟩), (SBM.set (k := 44) (SBM.set (k := 14) (SBM.set (k := 18) (SBM.rf th) (by decide)) (by decide)) (by decide))⟩, hT⟩, hfr⟩) dX11_free_26
  ·
    have oc0 : (0 : Int32).toInt = 0 := by decide
    have cc25 : v23_1.toInt = (0 : Int32).toInt := congrArg Int32.toInt c6
    have hb26 : In v23_1 0 0 := In.eq1 hv23_1 (⟨by decide, by decide⟩ : In 0 0 0) cc25 (by decide) (by decide)
    refine lv_iconst (v := (-1)) hx hb dX11_free_12 (by decide) ?_
    exact ret_i (ty := .int) hx hb hr hlocks (rfl) hP hD hS (Nat.le_of_ble_eq_true rfl) (Nat.le_of_ble_eq_true rfl) (⟨rfl, ⟨th, ⟨(show MI th from hM), (SBM.rf th)⟩, hT⟩, hfr⟩) dX11_free_13

abbrev rm_X11_leastBroken : Room := { frames := 6, cells := 0, slots := 0, locals := 148 }
abbrev po_X11_leastBroken (g : GG) (ad : Nat → Nat) (th : Nat → Int) (L : List Nat) (f : HP)  : Int32 → (List Nat × HP) → Prop := fun r u => u.1 = L ∧ (∃ z18 : Int, (True) ∧ TI g ad (gset th 18 z18) u.2) ∧ (∀ b, b ≠ (ad 255) → b ≠ (ad 265) → b ≠ (ad 266) → b ≠ (ad 267) → b ≠ (ad 268) → b ≠ (ad 269) → b ≠ (ad 270) → b ≠ (ad 261) → b ≠ (ad 262) → b ≠ (ad 263) → b ≠ (ad 264) → u.2 b = f b)
set_option maxHeartbeats 4000000 in
set_option maxRecDepth 100000 in
theorem s_X11_leastBroken (l : Launch) (g : GG) (ad : Nat → Nat) (th : Nat → Int) (L : List Nat) (f : HP) (sz : Nat)  (hst : ST ad L) (hT : TI g ad th f) (hn3 : 3 ≤ th 11) : MtI l g yX11_leastBroken cX11_leastBroken 3 (some .int) rm_X11_leastBroken [.ref (ad 255)] L f sz (po_X11_leastBroken g ad th L f ) := by
  refine MtI.of (by decide +kernel) (Nat.le_of_ble_eq_true rfl) ?_
  intro p e s m below meth c A hEn hP hD hS ls hl
  obtain ⟨hx, hb, hr, hml, hown, hlocks, hts, hG, hA, hE, hnm⟩ := hEn
  have hown : s.vm.findClass "RulerWordModel" = some m.cls := hown
  have hl : lv_has ls 3 [(0, .ref (ad 255))] := hl
  have hfr : (∀ b, b ≠ (ad 255) → b ≠ (ad 265) → b ≠ (ad 266) → b ≠ (ad 267) → b ≠ (ad 268) → b ≠ (ad 269) → b ≠ (ad 270) → b ≠ (ad 261) → b ≠ (ad 262) → b ≠ (ad 263) → b ≠ (ad 264) → f b = f b) := fun b z0_ z1_ z2_ z3_ z4_ z5_ z6_ z7_ z8_ z9_ z10_ => rfl
  refine lv_iconst (v := 1) hx hb dX11_leastBroken_0 (by decide) ?_
  refine lv_aload_n hx hb dX11_leastBroken_1 rfl (lv_at hl 0 rfl) ?_
  refine lv_aload_n hx hb dX11_leastBroken_2 rfl (lv_at hl 0 rfl) ?_
  refine M0e hT (fun v0_1 v2_1 v3_1 v4_1 v5_1 v6_1 v8_1 v9_1 v12_1 v13_1 v14_1 v15_1 v16_1 v17_1 v18_1 v19_1 v20_1 v21_1 v22_1 v23_1 v25_1 v36_1 v37_1 v38_1 v39_1 v40_1 v45_1 v46_1 v47_1 v48_1 v50_1 v51_1 v53_1 v55_1 hf2 hv0_1 hv2_1 hg2_1 hv3_1 hg3_1 hv4_1 hg4_1 hv5_1 hg5_1 hv6_1 hg6_1 hv8_1 hg8_1 hv9_1 hg9_1 hv12_1 hv13_1 hg13_1 hv14_1 hg14_1 hv15_1 hg15_1 hv17_1 hg17_1 hv20_1 hg20_1 hv23_1 hg23_1 hv25_1 hg25_1 hv36_1 hg36_1 hv47_1 hg47_1 hv48_1 hg48_1 hv53_1 hg53_1 hv55_1 hg55_1 hrel0_1 => ?_)
  have hg15_1 : v15_1.toInt = th 11 := hg15_1
  have hg17_1 : v17_1.toInt = th 12 := hg17_1
  have hg20_1 : v20_1.toInt = th 14 := hg20_1
  have hb3 : In v15_1 3 9 := ⟨by rw [hg15_1]; exact hn3, hv15_1.2⟩
  refine pl_get (v := .int v17_1) hx hb hts (fun w h => mT (inX11 w h)) hown hG.1 hP (hst.1 255 (by decide)) hf2 rfl 17 (by decide) (hts _ (mT wg_1353)) (fun _ h => h) rfl dX11_leastBroken_3 ?_
  refine call_i (run_V (rm := rm_X11_freeIn) hx hb hml hown hts (s_X11_freeIn l g ad th _ _ _ v17_1 hst hT hv17_1 hn3) cV_X11_freeIn wg_1823 ⟨Nat.le_of_ble_eq_true rfl, Nat.le_of_ble_eq_true rfl⟩ hG hE hA hP hD hS (hst.1 255 (by decide)) hf2 rfl rfl hl.1 (As := [.int v17_1]) (rest := [.int 1]) rfl (Nat.le_of_ble_eq_true rfl) dX11_leastBroken_6 ⟨Nat.le_of_ble_eq_true rfl, Nat.le_of_ble_eq_true rfl⟩) hA hD hS (fun r4 L5 f6 H locs hp7 hP hD hS => ?_)
  obtain ⟨eL8L, eL8T, eL8X0⟩ := hp7
  have eL8L : L5 = L := eL8L
  have eL8T : f6 = f := eL8T
  rw [eL8L, eL8T] at hP hD
  have hfi9 : r4.toInt = frI (rnd (th 10)) (th 11) (th 14) v17_1.toInt := eL8X0
  refine lv_ishl hx hb dX11_leastBroken_9 ?_
  refine lv_topi (fun x10 ex10 => ?_)
  refine lv_istore_n (lv' := [(1, .int x10), (0, .ref (ad 255))]) hx hb dX11_leastBroken_10 rfl hl (by decide) rfl (fun ls hl => ?_)
  refine lv_iconst (v := 0) hx hb dX11_leastBroken_11 (by decide) ?_
  refine lv_istore_n (lv' := [(2, .int 0), (1, .int x10), (0, .ref (ad 255))]) hx hb dX11_leastBroken_12 rfl hl (by decide) rfl (fun ls hl => ?_)
  have hJ13 : ∀ (k13 : Nat) (zg13_zg : Int) (y13_l2 : Int32) (f_13 : HP) (H : Heap) (locs : List Loc) (ls : Array Slot), In y13_l2 0 2147483647 → va_P g.1 vwCl (va_pl L f_13) H → va_D A (va_pl L f_13) → va_S A s.heap H locs → TI g ad (gset th 18 zg13_zg) f_13 → (∀ b, b ≠ (ad 255) → b ≠ (ad 265) → b ≠ (ad 266) → b ≠ (ad 267) → b ≠ (ad 268) → b ≠ (ad 269) → b ≠ (ad 270) → b ≠ (ad 261) → b ≠ (ad 262) → b ≠ (ad 263) → b ≠ (ad 264) → f_13 b = f b) → lv_has ls 3 [(0, .ref (ad 255)), (1, .int x10), (2, .int y13_l2)] → 2147483647 - y13_l2.toInt < ((k13 : Nat) : Int) → W p l e rm_X11_leastBroken s m [.ref (ad 255)].toArray below meth c H locs 0 0 (MQ below (va_Qi (po_X11_leastBroken g ad th L f ) (PstB g A) A) [.ref (ad 255)].toArray s rm_X11_leastBroken.cells rm_X11_leastBroken.slots A) (F0 m 13 ls []) := by
    intro k13
    induction k13 with
    | zero =>
      intro zg13_zg y13_l2 f_13 H locs ls hy13_l2 hP hD hS hT hfr hl hmz13
      exact ms0 hy13_l2 hmz13
    | succ k13 ih13 =>
      intro zg13_zg y13_l2 f_13 H locs ls hy13_l2 hP hD hS hT hfr hl hmz13
      refine lv_iload_n hx hb dX11_leastBroken_13 rfl (lv_at hl 2 rfl) ?_
      refine lv_iload_n hx hb dX11_leastBroken_14 rfl (lv_at hl 1 rfl) ?_
      refine lv_icmp_ge (tgt := 39) hx hb dX11_leastBroken_15 (by decide) (fun c11 => ?_) (fun c11 => ?_)
      ·
        have cc12 : x10.toInt ≤ y13_l2.toInt := i32_le.mp c11
        refine lv_iconst (v := (-1)) hx hb dX11_leastBroken_39 (by decide) ?_
        exact ret_i (ty := .int) hx hb hr hlocks (rfl) hP hD hS (Nat.le_of_ble_eq_true rfl) (Nat.le_of_ble_eq_true rfl) (⟨rfl, ⟨zg13_zg, trivial, TI.cast hT (by funext q; by_cases hq0 : q = 18; (subst hq0; rfl); simp only [gset, if_neg hq0])⟩, hfr⟩) dX11_leastBroken_40
      ·
        have cc13 : y13_l2.toInt < x10.toInt := i32_nle c11
        have hb14 : In y13_l2 0 2147483646 := In.lt1 hy13_l2 (In.full x10) cc13 (by decide) (by decide)
        have hb15 : In x10 1 2147483647 := In.lt2 hy13_l2 (In.full x10) cc13 (by decide) (by decide)
        refine lv_aload_n hx hb dX11_leastBroken_18 rfl (lv_at hl 0 rfl) ?_
        refine lv_iconst (v := 1) hx hb dX11_leastBroken_19 (by decide) ?_
        refine lv_iload_n hx hb dX11_leastBroken_20 rfl (lv_at hl 2 rfl) ?_
        refine M0e hT (fun v0_16 v2_16 v3_16 v4_16 v5_16 v6_16 v8_16 v9_16 v12_16 v13_16 v14_16 v15_16 v16_16 v17_16 v18_16 v19_16 v20_16 v21_16 v22_16 v23_16 v25_16 v36_16 v37_16 v38_16 v39_16 v40_16 v45_16 v46_16 v47_16 v48_16 v50_16 v51_16 v53_16 v55_16 hf17 hv0_16 hv2_16 hg2_16 hv3_16 hg3_16 hv4_16 hg4_16 hv5_16 hg5_16 hv6_16 hg6_16 hv8_16 hg8_16 hv9_16 hg9_16 hv12_16 hv13_16 hg13_16 hv14_16 hg14_16 hv15_16 hg15_16 hv17_16 hg17_16 hv20_16 hg20_16 hv23_16 hg23_16 hv25_16 hg25_16 hv36_16 hg36_16 hv47_16 hg47_16 hv48_16 hg48_16 hv53_16 hg53_16 hv55_16 hg55_16 hrel0_16 => ?_)
        have hg15_16 : v15_16.toInt = th 11 := hg15_16
        have hg17_16 : v17_16.toInt = th 12 := hg17_16
        have hg20_16 : v20_16.toInt = th 14 := hg20_16
        have hb18 : In v15_16 3 9 := ⟨by rw [hg15_16]; exact hn3, hv15_16.2⟩
        refine call_v (run_V (rm := rm_X11_runsWhole) hx hb hml hown hts (s_X11_runsWhole l g ad (gset th 18 zg13_zg) _ _ _ 1 y13_l2 hst hT hn3) cV_X11_runsWhole wg_1842 ⟨Nat.le_of_ble_eq_true rfl, Nat.le_of_ble_eq_true rfl⟩ hG hE hA hP hD hS (hst.1 255 (by decide)) hf17 rfl rfl hl.1 (As := [.int 1, .int y13_l2]) (rest := []) rfl (Nat.le_of_ble_eq_true rfl) dX11_leastBroken_21 ⟨Nat.le_of_ble_eq_true rfl, Nat.le_of_ble_eq_true rfl⟩) hA hD hS (fun L20 f21 H locs hp22 hP hD hS => ?_)
        obtain ⟨eL23L, eL23T, eL23F⟩ := hp22
        have eL23L : L20 = L := eL23L
        rw [eL23L] at hP hD
        obtain ⟨zz24, hzz24, eL23T⟩ := eL23T
        have hzz24 : True := hzz24
        have hT : TI g ad (gset (gset th 18 zg13_zg) 18 zz24) f21 := eL23T
        have hT : TI g ad (gset th 18 zz24) f21 := TI.cast hT (by funext q; by_cases hq0 : q = 18; (subst hq0; rfl); simp only [gset, if_neg hq0])
        have eL23F : ∀ b, b ≠ (ad 255) → b ≠ (ad 265) → b ≠ (ad 266) → b ≠ (ad 267) → b ≠ (ad 268) → b ≠ (ad 269) → b ≠ (ad 270) → b ≠ (ad 261) → b ≠ (ad 262) → b ≠ (ad 263) → b ≠ (ad 264) → f21 b = f_13 b := eL23F
        have hfr : (∀ b, b ≠ (ad 255) → b ≠ (ad 265) → b ≠ (ad 266) → b ≠ (ad 267) → b ≠ (ad 268) → b ≠ (ad 269) → b ≠ (ad 270) → b ≠ (ad 261) → b ≠ (ad 262) → b ≠ (ad 263) → b ≠ (ad 264) → f21 b = f b) := fun b z0_ z1_ z2_ z3_ z4_ z5_ z6_ z7_ z8_ z9_ z10_ => (eL23F b z0_ z1_ z2_ z3_ z4_ z5_ z6_ z7_ z8_ z9_ z10_).trans (hfr b z0_ z1_ z2_ z3_ z4_ z5_ z6_ z7_ z8_ z9_ z10_)
        refine lv_aload_n hx hb dX11_leastBroken_24 rfl (lv_at hl 0 rfl) ?_
        refine M0e hT (fun v0_25 v2_25 v3_25 v4_25 v5_25 v6_25 v8_25 v9_25 v12_25 v13_25 v14_25 v15_25 v16_25 v17_25 v18_25 v19_25 v20_25 v21_25 v22_25 v23_25 v25_25 v36_25 v37_25 v38_25 v39_25 v40_25 v45_25 v46_25 v47_25 v48_25 v50_25 v51_25 v53_25 v55_25 hf26 hv0_25 hv2_25 hg2_25 hv3_25 hg3_25 hv4_25 hg4_25 hv5_25 hg5_25 hv6_25 hg6_25 hv8_25 hg8_25 hv9_25 hg9_25 hv12_25 hv13_25 hg13_25 hv14_25 hg14_25 hv15_25 hg15_25 hv17_25 hg17_25 hv20_25 hg20_25 hv23_25 hg23_25 hv25_25 hg25_25 hv36_25 hg36_25 hv47_25 hg47_25 hv48_25 hg48_25 hv53_25 hg53_25 hv55_25 hg55_25 hrel0_25 => ?_)
        have hg15_25 : v15_25.toInt = th 11 := hg15_25
        have hg17_25 : v17_25.toInt = th 12 := hg17_25
        have hg20_25 : v20_25.toInt = th 14 := hg20_25
        have hb27 : In v15_25 3 9 := ⟨by rw [hg15_25]; exact hn3, hv15_25.2⟩
        refine call_i (run_V (rm := rm_X11_areAgreed) hx hb hml hown hts (s_X11_areAgreed l g ad (gset th 18 zz24) _ _ _  hst hT hn3) cV_X11_areAgreed wg_1846 ⟨Nat.le_of_ble_eq_true rfl, Nat.le_of_ble_eq_true rfl⟩ hG hE hA hP hD hS (hst.1 255 (by decide)) hf26 rfl rfl hl.1 (As := []) (rest := []) rfl (Nat.le_of_ble_eq_true rfl) dX11_leastBroken_25 ⟨Nat.le_of_ble_eq_true rfl, Nat.le_of_ble_eq_true rfl⟩) hA hD hS (fun r28 L29 f30 H locs hp31 hP hD hS => ?_)
        obtain ⟨eL32L, eL32T, eL32R⟩ := hp31
        have eL32L : L29 = L := eL32L
        have eL32T : f30 = f21 := eL32T
        rw [eL32L, eL32T] at hP hD
        have eL32R : In r28 0 1 := eL32R
        refine lv_if_ne (tgt := 33) hx hb dX11_leastBroken_28 (by decide) (fun c33 => ?_) (fun c33 => ?_)
        ·
          have oc0 : (0 : Int32).toInt = 0 := by decide
          have cc34 : r28.toInt ≠ (0 : Int32).toInt := i32_ne c33
          have hb35 : In r28 1 1 := In.ne1 eL32R (⟨by decide, by decide⟩ : In 0 0 0) cc34 (by decide) (by decide)
          obtain ⟨x36, ex36⟩ : ∃ y : Int32, y = y13_l2 + 1 := ⟨_, rfl⟩
          have hb37 : In x36 1 2147483647 := ex36 ▸ In.add hb14 (⟨by decide, by decide⟩ : In 1 1 1) (by decide) (by decide) (by decide) (by decide)
          have et38 : x36.toInt = y13_l2.toInt + 1 := In.adde ex36 hb14 (k := 1) (by decide) (by decide) (by decide)
          refine lv_iinc (v := x36) (lv' := [(2, .int x36), (0, .ref (ad 255)), (1, .int x10)]) hx hb dX11_leastBroken_33 hl (k := 2) rfl (by rw [ex36]; rfl) (by decide) rfl (fun ls hl => ?_)
          refine lv_goto (tgt := 13) hx hb dX11_leastBroken_36 (by decide) ?_
          exact ih13 zz24 x36 _ _ _ _ (In.mono hb37 (by decide) (by decide)) hP hD hS (TI.cast hT (by funext q; by_cases hq0 : q = 18; (subst hq0; rfl); simp only [gset, if_neg hq0])) hfr (lv_sub hl [1, 2, 0] rfl) (msu et38 (by decide) hmz13)
        ·
          have oc0 : (0 : Int32).toInt = 0 := by decide
          have cc39 : r28.toInt = (0 : Int32).toInt := congrArg Int32.toInt c33
          have hb40 : In r28 0 0 := In.eq1 eL32R (⟨by decide, by decide⟩ : In 0 0 0) cc39 (by decide) (by decide)
          refine lv_iload_n hx hb dX11_leastBroken_31 rfl (lv_at hl 2 rfl) ?_
          exact ret_i (ty := .int) hx hb hr hlocks (rfl) hP hD hS (Nat.le_of_ble_eq_true rfl) (Nat.le_of_ble_eq_true rfl) (⟨rfl, ⟨zz24, trivial, TI.cast hT (by funext q; by_cases hq0 : q = 18; (subst hq0; rfl); simp only [gset, if_neg hq0])⟩, hfr⟩) dX11_leastBroken_32
  exact hJ13 ((2147483647 - (0 : Int32).toInt).toNat + 1) (th 18) 0 _ _ _ _ (⟨by decide, by decide⟩ : In 0 0 2147483647) hP hD hS (TI.cast hT (by funext q; by_cases hq0 : q = 18; (subst hq0; rfl); simp only [gset, if_neg hq0])) hfr (lv_sub hl [2, 1, 0] rfl) (msI _)

abbrev rm_X11_canSearch : Room := { frames := 3, cells := 0, slots := 0, locals := 66 }
abbrev po_X11_canSearch (g : GG) (ad : Nat → Nat) (th : Nat → Int) (L : List Nat) (f : HP)  : Int32 → (List Nat × HP) → Prop := fun r u => u.1 = L ∧ (∃ zl zg zs : Int, (r.toInt = 0 ∨ (th 15 = 1 ∧ frI (rnd (th 10)) (th 11) zl (th 12) ≤ 12)) ∧ TI g ad (gset (gset (gset th 14 zl) 18 zg) 44 zs) u.2) ∧ (∀ b, b ≠ (ad 255) → b ≠ (ad 265) → b ≠ (ad 266) → b ≠ (ad 267) → b ≠ (ad 269) → b ≠ (ad 260) → b ≠ (ad 261) → b ≠ (ad 262) → b ≠ (ad 263) → b ≠ (ad 264) → u.2 b = f b) ∧ In r 0 1
set_option maxHeartbeats 4000000 in
set_option maxRecDepth 100000 in
theorem s_X11_canSearch (l : Launch) (g : GG) (ad : Nat → Nat) (th : Nat → Int) (L : List Nat) (f : HP) (sz : Nat)  (hst : ST ad L) (hT : TI g ad th f) (hM : MI th) : MtI l g yX11_canSearch cX11_canSearch 1 (some .boolean) rm_X11_canSearch [.ref (ad 255)] L f sz (po_X11_canSearch g ad th L f ) := by
  refine MtI.of (by decide +kernel) (Nat.le_of_ble_eq_true rfl) ?_
  intro p e s m below meth c A hEn hP hD hS ls hl
  obtain ⟨hx, hb, hr, hml, hown, hlocks, hts, hG, hA, hE, hnm⟩ := hEn
  have hown : s.vm.findClass "RulerWordModel" = some m.cls := hown
  have hl : lv_has ls 1 [(0, .ref (ad 255))] := hl
  have hfr : (∀ b, b ≠ (ad 255) → b ≠ (ad 265) → b ≠ (ad 266) → b ≠ (ad 267) → b ≠ (ad 269) → b ≠ (ad 260) → b ≠ (ad 261) → b ≠ (ad 262) → b ≠ (ad 263) → b ≠ (ad 264) → f b = f b) := fun b z0_ z1_ z2_ z3_ z4_ z5_ z6_ z7_ z8_ z9_ => rfl
  have hM0 := hM
  obtain ⟨m1, m2, m3, m4, m5, m6, m7, m8, m9, m10⟩ := hM0
  have m20 := mi20 m2 m3
  refine lv_aload_n hx hb dX11_canSearch_0 rfl (lv_at hl 0 rfl) ?_
  refine M0e hT (fun v0_1 v2_1 v3_1 v4_1 v5_1 v6_1 v8_1 v9_1 v12_1 v13_1 v14_1 v15_1 v16_1 v17_1 v18_1 v19_1 v20_1 v21_1 v22_1 v23_1 v25_1 v36_1 v37_1 v38_1 v39_1 v40_1 v45_1 v46_1 v47_1 v48_1 v50_1 v51_1 v53_1 v55_1 hf2 hv0_1 hv2_1 hg2_1 hv3_1 hg3_1 hv4_1 hg4_1 hv5_1 hg5_1 hv6_1 hg6_1 hv8_1 hg8_1 hv9_1 hg9_1 hv12_1 hv13_1 hg13_1 hv14_1 hg14_1 hv15_1 hg15_1 hv17_1 hg17_1 hv20_1 hg20_1 hv23_1 hg23_1 hv25_1 hg25_1 hv36_1 hg36_1 hv47_1 hg47_1 hv48_1 hg48_1 hv53_1 hg53_1 hv55_1 hg55_1 hrel0_1 => ?_)
  have hg15_1 : v15_1.toInt = th 11 := hg15_1
  have hg17_1 : v17_1.toInt = th 12 := hg17_1
  have hg20_1 : v20_1.toInt = th 14 := hg20_1
  refine pl_get (v := .int v23_1) hx hb hts (fun w h => mT (inX11 w h)) hown hG.1 hP (hst.1 255 (by decide)) hf2 rfl 23 (by decide) (hts _ (mT wg_1359)) (fun _ h => h) rfl dX11_canSearch_1 ?_
  have hg23_1 : v23_1.toInt = th 15 := hg23_1
  refine lv_if_ne (tgt := 9) hx hb dX11_canSearch_4 (by decide) (fun c3 => ?_) (fun c3 => ?_)
  ·
    have oc0 : (0 : Int32).toInt = 0 := by decide
    have cc4 : v23_1.toInt ≠ (0 : Int32).toInt := i32_ne c3
    have hb5 : In v23_1 1 1 := In.ne1 hv23_1 (⟨by decide, by decide⟩ : In 0 0 0) cc4 (by decide) (by decide)
    refine lv_aload_n hx hb dX11_canSearch_9 rfl (lv_at hl 0 rfl) ?_
    refine call_v (run_V (rm := rm_X11_takesUp) hx hb hml hown hts (s_X11_takesUp l g ad th _ _ _  hst hT (show (th 22) = 2126 from (by have ob10 : (0 : Int) ≤ (th 10) ∧ (th 10) ≤ 1 := (b0_10 hT :); have ob11 : (0 : Int) ≤ (th 11) ∧ (th 11) ≤ 9 := (b0_11 hT :); have ob12 : (0 : Int) ≤ (th 12) ∧ (th 12) ≤ 6 := (b0_12 hT :); have ob14 : (0 : Int) ≤ (th 14) ∧ (th 14) ≤ 511 := (b0_14 hT :); have ob15 : (0 : Int) ≤ (th 15) ∧ (th 15) ≤ 1 := (b0_15 hT :); have ob16 : (0 : Int) ≤ (th 16) ∧ (th 16) ≤ 20 := (b0_16 hT :); have ob17 : (0 : Int) ≤ (th 17) ∧ (th 17) ≤ 1 := (b0_17 hT :); have ob18 : (0 : Int) ≤ (th 18) ∧ (th 18) ≤ 18 := (b0_18 hT :); have ob38 : (0 : Int) ≤ (th 38) ∧ (th 38) ≤ 400 := (b0_38 hT :); have ob39 : (0 : Int) ≤ (th 39) ∧ (th 39) ≤ 200 := (b0_39 hT :); have ob44 : (0 : Int) ≤ (th 44) ∧ (th 44) ≤ 30 := (b0_44 hT :); have orn := rnd_b (th 10); obtain ⟨o0a, o0b⟩ := (hv14_1 : In _ _ _); obtain ⟨o1a, o1b⟩ := (hv15_1 : In _ _ _); obtain ⟨o2a, o2b⟩ := (hv17_1 : In _ _ _); obtain ⟨o3a, o3b⟩ := (hv20_1 : In _ _ _); obtain ⟨o4a, o4b⟩ := (hb5 : In _ _ _); obtain ⟨o5a, o5b⟩ := (hv25_1 : In _ _ _); obtain ⟨o6a, o6b⟩ := (hv36_1 : In _ _ _); obtain ⟨o7a, o7b⟩ := (hv47_1 : In _ _ _); obtain ⟨o8a, o8b⟩ := (hv48_1 : In _ _ _); obtain ⟨o9a, o9b⟩ := (hv53_1 : In _ _ _); obtain ⟨o10a, o10b⟩ := (hv55_1 : In _ _ _); omega)) (show (th 20) ≤ 18 from (by have ob10 : (0 : Int) ≤ (th 10) ∧ (th 10) ≤ 1 := (b0_10 hT :); have ob11 : (0 : Int) ≤ (th 11) ∧ (th 11) ≤ 9 := (b0_11 hT :); have ob12 : (0 : Int) ≤ (th 12) ∧ (th 12) ≤ 6 := (b0_12 hT :); have ob14 : (0 : Int) ≤ (th 14) ∧ (th 14) ≤ 511 := (b0_14 hT :); have ob15 : (0 : Int) ≤ (th 15) ∧ (th 15) ≤ 1 := (b0_15 hT :); have ob16 : (0 : Int) ≤ (th 16) ∧ (th 16) ≤ 20 := (b0_16 hT :); have ob17 : (0 : Int) ≤ (th 17) ∧ (th 17) ≤ 1 := (b0_17 hT :); have ob18 : (0 : Int) ≤ (th 18) ∧ (th 18) ≤ 18 := (b0_18 hT :); have ob38 : (0 : Int) ≤ (th 38) ∧ (th 38) ≤ 400 := (b0_38 hT :); have ob39 : (0 : Int) ≤ (th 39) ∧ (th 39) ≤ 200 := (b0_39 hT :); have ob44 : (0 : Int) ≤ (th 44) ∧ (th 44) ≤ 30 := (b0_44 hT :); have orn := rnd_b (th 10); obtain ⟨o0a, o0b⟩ := (hv14_1 : In _ _ _); obtain ⟨o1a, o1b⟩ := (hv15_1 : In _ _ _); obtain ⟨o2a, o2b⟩ := (hv17_1 : In _ _ _); obtain ⟨o3a, o3b⟩ := (hv20_1 : In _ _ _); obtain ⟨o4a, o4b⟩ := (hb5 : In _ _ _); obtain ⟨o5a, o5b⟩ := (hv25_1 : In _ _ _); obtain ⟨o6a, o6b⟩ := (hv36_1 : In _ _ _); obtain ⟨o7a, o7b⟩ := (hv47_1 : In _ _ _); obtain ⟨o8a, o8b⟩ := (hv48_1 : In _ _ _); obtain ⟨o9a, o9b⟩ := (hv53_1 : In _ _ _); obtain ⟨o10a, o10b⟩ := (hv55_1 : In _ _ _); omega)) (show (th 21) = (th 11) from (by have ob10 : (0 : Int) ≤ (th 10) ∧ (th 10) ≤ 1 := (b0_10 hT :); have ob11 : (0 : Int) ≤ (th 11) ∧ (th 11) ≤ 9 := (b0_11 hT :); have ob12 : (0 : Int) ≤ (th 12) ∧ (th 12) ≤ 6 := (b0_12 hT :); have ob14 : (0 : Int) ≤ (th 14) ∧ (th 14) ≤ 511 := (b0_14 hT :); have ob15 : (0 : Int) ≤ (th 15) ∧ (th 15) ≤ 1 := (b0_15 hT :); have ob16 : (0 : Int) ≤ (th 16) ∧ (th 16) ≤ 20 := (b0_16 hT :); have ob17 : (0 : Int) ≤ (th 17) ∧ (th 17) ≤ 1 := (b0_17 hT :); have ob18 : (0 : Int) ≤ (th 18) ∧ (th 18) ≤ 18 := (b0_18 hT :); have ob38 : (0 : Int) ≤ (th 38) ∧ (th 38) ≤ 400 := (b0_38 hT :); have ob39 : (0 : Int) ≤ (th 39) ∧ (th 39) ≤ 200 := (b0_39 hT :); have ob44 : (0 : Int) ≤ (th 44) ∧ (th 44) ≤ 30 := (b0_44 hT :); have orn := rnd_b (th 10); obtain ⟨o0a, o0b⟩ := (hv14_1 : In _ _ _); obtain ⟨o1a, o1b⟩ := (hv15_1 : In _ _ _); obtain ⟨o2a, o2b⟩ := (hv17_1 : In _ _ _); obtain ⟨o3a, o3b⟩ := (hv20_1 : In _ _ _); obtain ⟨o4a, o4b⟩ := (hb5 : In _ _ _); obtain ⟨o5a, o5b⟩ := (hv25_1 : In _ _ _); obtain ⟨o6a, o6b⟩ := (hv36_1 : In _ _ _); obtain ⟨o7a, o7b⟩ := (hv47_1 : In _ _ _); obtain ⟨o8a, o8b⟩ := (hv48_1 : In _ _ _); obtain ⟨o9a, o9b⟩ := (hv53_1 : In _ _ _); obtain ⟨o10a, o10b⟩ := (hv55_1 : In _ _ _); omega))) cV_X11_takesUp wg_1648 ⟨Nat.le_of_ble_eq_true rfl, Nat.le_of_ble_eq_true rfl⟩ hG hE hA hP hD hS (hst.1 255 (by decide)) hf2 rfl rfl hl.1 (As := []) (rest := []) rfl (Nat.le_of_ble_eq_true rfl) dX11_canSearch_10 ⟨Nat.le_of_ble_eq_true rfl, Nat.le_of_ble_eq_true rfl⟩) hA hD hS (fun L7 f8 H locs hp9 hP hD hS => ?_)
    obtain ⟨eL10L, eL10T, eL10F⟩ := hp9
    have eL10L : L7 = L := eL10L
    rw [eL10L] at hP hD
    obtain ⟨zz11, zz12, zz13, hzz11, eL10T⟩ := eL10T
    have hzz11 : ((zz11 = (th 19) ∧ 0 ≤ zz11 ∧ zz11 ≤ (th 20)) ∧ (0 ≤ zz12 ∧ zz12 ≤ 511)) ∧ capI zz12 ((th 11)) := hzz11
    have hT : TI g ad (gset (gset (gset th 18 zz11) 14 zz12) 44 zz13) f8 := eL10T
    have eL10F : ∀ b, b ≠ (ad 255) → b ≠ (ad 265) → b ≠ (ad 266) → b ≠ (ad 267) → b ≠ (ad 269) → b ≠ (ad 260) → b ≠ (ad 261) → b ≠ (ad 262) → b ≠ (ad 263) → b ≠ (ad 264) → f8 b = f b := eL10F
    have hfr : (∀ b, b ≠ (ad 255) → b ≠ (ad 265) → b ≠ (ad 266) → b ≠ (ad 267) → b ≠ (ad 269) → b ≠ (ad 260) → b ≠ (ad 261) → b ≠ (ad 262) → b ≠ (ad 263) → b ≠ (ad 264) → f8 b = f b) := fun b z0_ z1_ z2_ z3_ z4_ z5_ z6_ z7_ z8_ z9_ => (eL10F b z0_ z1_ z2_ z3_ z4_ z5_ z6_ z7_ z8_ z9_).trans (hfr b z0_ z1_ z2_ z3_ z4_ z5_ z6_ z7_ z8_ z9_)
    refine lv_aload_n hx hb dX11_canSearch_13 rfl (lv_at hl 0 rfl) ?_
    refine lv_aload_n hx hb dX11_canSearch_14 rfl (lv_at hl 0 rfl) ?_
    refine M0e hT (fun v0_14 v2_14 v3_14 v4_14 v5_14 v6_14 v8_14 v9_14 v12_14 v13_14 v14_14 v15_14 v16_14 v17_14 v18_14 v19_14 v20_14 v21_14 v22_14 v23_14 v25_14 v36_14 v37_14 v38_14 v39_14 v40_14 v45_14 v46_14 v47_14 v48_14 v50_14 v51_14 v53_14 v55_14 hf15 hv0_14 hv2_14 hg2_14 hv3_14 hg3_14 hv4_14 hg4_14 hv5_14 hg5_14 hv6_14 hg6_14 hv8_14 hg8_14 hv9_14 hg9_14 hv12_14 hv13_14 hg13_14 hv14_14 hg14_14 hv15_14 hg15_14 hv17_14 hg17_14 hv20_14 hg20_14 hv23_14 hg23_14 hv25_14 hg25_14 hv36_14 hg36_14 hv47_14 hg47_14 hv48_14 hg48_14 hv53_14 hg53_14 hv55_14 hg55_14 hrel0_14 => ?_)
    have hg15_14 : v15_14.toInt = th 11 := hg15_14
    have hg17_14 : v17_14.toInt = th 12 := hg17_14
    have hg20_14 : v20_14.toInt = zz12 := hg20_14
    refine pl_get (v := .int v17_14) hx hb hts (fun w h => mT (inX11 w h)) hown hG.1 hP (hst.1 255 (by decide)) hf15 rfl 17 (by decide) (hts _ (mT wg_1353)) (fun _ h => h) rfl dX11_canSearch_15 ?_
    refine call_i (run_V (rm := rm_X11_freeIn) hx hb hml hown hts (s_X11_freeIn l g ad (gset (gset (gset th 18 zz11) 14 zz12) 44 zz13) _ _ _ v17_14 hst hT hv17_14 (show 3 ≤ th 11 by omega)) cV_X11_freeIn wg_1823 ⟨Nat.le_of_ble_eq_true rfl, Nat.le_of_ble_eq_true rfl⟩ hG hE hA hP hD hS (hst.1 255 (by decide)) hf15 rfl rfl hl.1 (As := [.int v17_14]) (rest := []) rfl (Nat.le_of_ble_eq_true rfl) dX11_canSearch_18 ⟨Nat.le_of_ble_eq_true rfl, Nat.le_of_ble_eq_true rfl⟩) hA hD hS (fun r16 L17 f18 H locs hp19 hP hD hS => ?_)
    obtain ⟨eL20L, eL20T, eL20X0⟩ := hp19
    have eL20L : L17 = L := eL20L
    have eL20T : f18 = f8 := eL20T
    rw [eL20L, eL20T] at hP hD
    have hfi21 : r16.toInt = frI (rnd (th 10)) (th 11) (zz12) v17_14.toInt := eL20X0
    refine lv_bipush (v := 12) hx hb dX11_canSearch_21 (by decide) ?_
    refine lv_icmp_gt (tgt := 30) hx hb dX11_canSearch_23 (by decide) (fun c22 => ?_) (fun c22 => ?_)
    ·
      have oc12 : (12 : Int32).toInt = 12 := by decide
      have cc23 : (12 : Int32).toInt < r16.toInt := i32_lt.mp c22
      have hb24 : In r16 13 2147483647 := In.gt1 (In.full r16) (⟨by decide, by decide⟩ : In 12 12 12) cc23 (by decide) (by decide)
      refine lv_iconst (v := 0) hx hb dX11_canSearch_30 (by decide) ?_
      exact ret_i (ty := .boolean) hx hb hr hlocks (rfl) hP hD hS (Nat.le_of_ble_eq_true rfl) (Nat.le_of_ble_eq_true rfl) (⟨rfl, ⟨zz12, zz11, zz13, Or.inl (by decide), TI.cast hT (by funext q; by_cases hq0 : q = 44; (subst hq0; rfl); by_cases hq1 : q = 14; (subst hq1; rfl); by_cases hq2 : q = 18; (subst hq2; rfl); simp only [gset, if_neg hq0, if_neg hq1, if_neg hq2])⟩, hfr, (⟨by decide, by decide⟩ : In 0 0 1)⟩) dX11_canSearch_31
    ·
      have oc12 : (12 : Int32).toInt = 12 := by decide
      have cc25 : r16.toInt ≤ (12 : Int32).toInt := i32_nlt c22
      have hb26 : In r16 (-2147483648) 12 := In.le1 (In.full r16) (⟨by decide, by decide⟩ : In 12 12 12) cc25 (by decide) (by decide)
      refine lv_iconst (v := 1) hx hb dX11_canSearch_26 (by decide) ?_
      refine lv_goto (tgt := 31) hx hb dX11_canSearch_27 (by decide) ?_
      exact ret_i (ty := .boolean) hx hb hr hlocks (rfl) hP hD hS (Nat.le_of_ble_eq_true rfl) (Nat.le_of_ble_eq_true rfl) (⟨rfl, ⟨zz12, zz11, zz13, (show _ ∨ (th 15 = 1 ∧ frI (rnd (th 10)) (th 11) (zz12) (th 12) ≤ 12) from Or.inr ⟨(by have ob10 : (0 : Int) ≤ (th 10) ∧ (th 10) ≤ 1 := (b0_10 hT :); have ob11 : (0 : Int) ≤ (th 11) ∧ (th 11) ≤ 9 := (b0_11 hT :); have ob12 : (0 : Int) ≤ (th 12) ∧ (th 12) ≤ 6 := (b0_12 hT :); have ob14 : (0 : Int) ≤ zz12 ∧ zz12 ≤ 511 := (b0_14 hT :); have ob15 : (0 : Int) ≤ (th 15) ∧ (th 15) ≤ 1 := (b0_15 hT :); have ob16 : (0 : Int) ≤ (th 16) ∧ (th 16) ≤ 20 := (b0_16 hT :); have ob17 : (0 : Int) ≤ (th 17) ∧ (th 17) ≤ 1 := (b0_17 hT :); have ob18 : (0 : Int) ≤ zz11 ∧ zz11 ≤ 18 := (b0_18 hT :); have ob38 : (0 : Int) ≤ (th 38) ∧ (th 38) ≤ 400 := (b0_38 hT :); have ob39 : (0 : Int) ≤ (th 39) ∧ (th 39) ≤ 200 := (b0_39 hT :); have ob44 : (0 : Int) ≤ zz13 ∧ zz13 ≤ 30 := (b0_44 hT :); have orn := rnd_b (th 10); obtain ⟨o0a, o0b⟩ := (hv14_14 : In _ _ _); obtain ⟨o1a, o1b⟩ := (hv15_14 : In _ _ _); obtain ⟨o2a, o2b⟩ := (hv17_14 : In _ _ _); obtain ⟨o3a, o3b⟩ := (hv20_14 : In _ _ _); obtain ⟨o4a, o4b⟩ := (hv23_14 : In _ _ _); obtain ⟨o5a, o5b⟩ := (hv25_14 : In _ _ _); obtain ⟨o6a, o6b⟩ := (hv36_14 : In _ _ _); obtain ⟨o7a, o7b⟩ := (hv47_14 : In _ _ _); obtain ⟨o8a, o8b⟩ := (hv48_14 : In _ _ _); obtain ⟨o9a, o9b⟩ := (hv53_14 : In _ _ _); obtain ⟨o10a, o10b⟩ := (hv55_14 : In _ _ _); omega), by rw [← hg17_14]; exact (by have ob10 : (0 : Int) ≤ (th 10) ∧ (th 10) ≤ 1 := (b0_10 hT :); have ob11 : (0 : Int) ≤ (th 11) ∧ (th 11) ≤ 9 := (b0_11 hT :); have ob12 : (0 : Int) ≤ (th 12) ∧ (th 12) ≤ 6 := (b0_12 hT :); have ob14 : (0 : Int) ≤ zz12 ∧ zz12 ≤ 511 := (b0_14 hT :); have ob15 : (0 : Int) ≤ (th 15) ∧ (th 15) ≤ 1 := (b0_15 hT :); have ob16 : (0 : Int) ≤ (th 16) ∧ (th 16) ≤ 20 := (b0_16 hT :); have ob17 : (0 : Int) ≤ (th 17) ∧ (th 17) ≤ 1 := (b0_17 hT :); have ob18 : (0 : Int) ≤ zz11 ∧ zz11 ≤ 18 := (b0_18 hT :); have ob38 : (0 : Int) ≤ (th 38) ∧ (th 38) ≤ 400 := (b0_38 hT :); have ob39 : (0 : Int) ≤ (th 39) ∧ (th 39) ≤ 200 := (b0_39 hT :); have ob44 : (0 : Int) ≤ zz13 ∧ zz13 ≤ 30 := (b0_44 hT :); have orn := rnd_b (th 10); obtain ⟨o0a, o0b⟩ := (hv14_14 : In _ _ _); obtain ⟨o1a, o1b⟩ := (hv15_14 : In _ _ _); obtain ⟨o2a, o2b⟩ := (hv17_14 : In _ _ _); obtain ⟨o3a, o3b⟩ := (hv20_14 : In _ _ _); obtain ⟨o4a, o4b⟩ := (hv23_14 : In _ _ _); obtain ⟨o5a, o5b⟩ := (hv25_14 : In _ _ _); obtain ⟨o6a, o6b⟩ := (hv36_14 : In _ _ _); obtain ⟨o7a, o7b⟩ := (hv47_14 : In _ _ _); obtain ⟨o8a, o8b⟩ := (hv48_14 : In _ _ _); obtain ⟨o9a, o9b⟩ := (hv53_14 : In _ _ _); obtain ⟨o10a, o10b⟩ := (hv55_14 : In _ _ _); omega)⟩), TI.cast hT (by funext q; by_cases hq0 : q = 44; (subst hq0; rfl); by_cases hq1 : q = 14; (subst hq1; rfl); by_cases hq2 : q = 18; (subst hq2; rfl); simp only [gset, if_neg hq0, if_neg hq1, if_neg hq2])⟩, hfr, (⟨by decide, by decide⟩ : In 1 0 1)⟩) dX11_canSearch_31
  ·
    have oc0 : (0 : Int32).toInt = 0 := by decide
    have cc27 : v23_1.toInt = (0 : Int32).toInt := congrArg Int32.toInt c3
    have hb28 : In v23_1 0 0 := In.eq1 hv23_1 (⟨by decide, by decide⟩ : In 0 0 0) cc27 (by decide) (by decide)
    refine lv_iconst (v := 0) hx hb dX11_canSearch_7 (by decide) ?_
    exact ret_i (ty := .boolean) hx hb hr hlocks (rfl) hP hD hS (Nat.le_of_ble_eq_true rfl) (Nat.le_of_ble_eq_true rfl) (⟨rfl, ⟨(th 14), (th 18), (th 44), Or.inl (by decide), TI.cast hT (by funext q; by_cases hq0 : q = 14; (subst hq0; rfl); by_cases hq1 : q = 18; (subst hq1; rfl); by_cases hq2 : q = 44; (subst hq2; rfl); simp only [gset, if_neg hq0, if_neg hq1, if_neg hq2])⟩, hfr, (⟨by decide, by decide⟩ : In 0 0 1)⟩) dX11_canSearch_8

abbrev rm_X11_broken : Room := { frames := 7, cells := 0, slots := 0, locals := 170 }
abbrev po_X11_broken (g : GG) (ad : Nat → Nat) (th : Nat → Int) (L : List Nat) (f : HP)  : Int32 → (List Nat × HP) → Prop := fun r u => u.1 = L ∧ (∃ th' : Nat → Int, (MI th' ∧ SBM th th') ∧ TI g ad th' u.2) ∧ (∀ b, b ≠ (ad 255) → b ≠ (ad 265) → b ≠ (ad 266) → b ≠ (ad 267) → b ≠ (ad 268) → b ≠ (ad 269) → b ≠ (ad 270) → b ≠ (ad 260) → b ≠ (ad 261) → b ≠ (ad 262) → b ≠ (ad 263) → b ≠ (ad 264) → u.2 b = f b)
set_option maxHeartbeats 4000000 in
set_option maxRecDepth 100000 in
theorem s_X11_broken (l : Launch) (g : GG) (ad : Nat → Nat) (th : Nat → Int) (L : List Nat) (f : HP) (sz : Nat)  (hst : ST ad L) (hT : TI g ad th f) (hM : MI th) : MtI l g yX11_broken cX11_broken 1 (some .int) rm_X11_broken [.ref (ad 255)] L f sz (po_X11_broken g ad th L f ) := by
  refine MtI.of (by decide +kernel) (Nat.le_of_ble_eq_true rfl) ?_
  intro p e s m below meth c A hEn hP hD hS ls hl
  obtain ⟨hx, hb, hr, hml, hown, hlocks, hts, hG, hA, hE, hnm⟩ := hEn
  have hown : s.vm.findClass "RulerWordModel" = some m.cls := hown
  have hl : lv_has ls 1 [(0, .ref (ad 255))] := hl
  have hfr : (∀ b, b ≠ (ad 255) → b ≠ (ad 265) → b ≠ (ad 266) → b ≠ (ad 267) → b ≠ (ad 268) → b ≠ (ad 269) → b ≠ (ad 270) → b ≠ (ad 260) → b ≠ (ad 261) → b ≠ (ad 262) → b ≠ (ad 263) → b ≠ (ad 264) → f b = f b) := fun b z0_ z1_ z2_ z3_ z4_ z5_ z6_ z7_ z8_ z9_ z10_ z11_ => rfl
  have hM0 := hM
  obtain ⟨m1, m2, m3, m4, m5, m6, m7, m8, m9, m10⟩ := hM0
  have m20 := mi20 m2 m3
  refine lv_aload_n hx hb dX11_broken_0 rfl (lv_at hl 0 rfl) ?_
  refine lv_iconst (v := 0) hx hb dX11_broken_1 (by decide) ?_
  refine M0e hT (fun v0_1 v2_1 v3_1 v4_1 v5_1 v6_1 v8_1 v9_1 v12_1 v13_1 v14_1 v15_1 v16_1 v17_1 v18_1 v19_1 v20_1 v21_1 v22_1 v23_1 v25_1 v36_1 v37_1 v38_1 v39_1 v40_1 v45_1 v46_1 v47_1 v48_1 v50_1 v51_1 v53_1 v55_1 hf2 hv0_1 hv2_1 hg2_1 hv3_1 hg3_1 hv4_1 hg4_1 hv5_1 hg5_1 hv6_1 hg6_1 hv8_1 hg8_1 hv9_1 hg9_1 hv12_1 hv13_1 hg13_1 hv14_1 hg14_1 hv15_1 hg15_1 hv17_1 hg17_1 hv20_1 hg20_1 hv23_1 hg23_1 hv25_1 hg25_1 hv36_1 hg36_1 hv47_1 hg47_1 hv48_1 hg48_1 hv53_1 hg53_1 hv55_1 hg55_1 hrel0_1 => ?_)
  have hg15_1 : v15_1.toInt = th 11 := hg15_1
  have hg17_1 : v17_1.toInt = th 12 := hg17_1
  have hg20_1 : v20_1.toInt = th 14 := hg20_1
  refine pl_put (ty := .int) (v := .int 0) (fs' := [.int 0, .ref (ad 256), .int v2_1, .int v3_1, .int v4_1, .int v5_1, .int v6_1, .ref (ad 257), .int v8_1, .int v9_1, .ref (ad 258), .ref (ad 259), .int v12_1, .int v13_1, .int v14_1, .int v15_1, .int v16_1, .int v17_1, .int v18_1, .int v19_1, .int v20_1, .long v21_1, .long v22_1, .int v23_1, .ref (ad 260), .int v25_1, .ref (ad 261), .ref (ad 262), .ref (ad 263), .ref (ad 264), .ref (ad 265), .ref (ad 266), .ref (ad 267), .ref (ad 268), .ref (ad 269), .ref (ad 270), .int v36_1, .int v37_1, .int v38_1, .int v39_1, .int v40_1, .ref (ad 271), .ref (ad 272), .ref (ad 273), .ref (ad 274), .long v45_1, .long v46_1, .int v47_1, .int v48_1, .ref (ad 275), .int v50_1, .int v51_1, .ref (ad 276), .int v53_1, .ref (ad 277), .int v55_1]) hx hb hts (fun w h => mT (inX11 w h)) tyX11 tyX11_ok nmX11 hown hG.1 hP hD hS (hst.1 255 (by decide)) hf2 rfl 0 (by decide) (hts _ (mT wg_1336)) (fun _ h => h) rfl (by decide +kernel) (rfl) (rfl) (Nat.le_of_ble_eq_true rfl) rfl dX11_broken_2 (fun H locs f3 hf4 ho5 hP hD hS => ?_)
  have hfr : (∀ b, b ≠ (ad 255) → b ≠ (ad 265) → b ≠ (ad 266) → b ≠ (ad 267) → b ≠ (ad 268) → b ≠ (ad 269) → b ≠ (ad 270) → b ≠ (ad 260) → b ≠ (ad 261) → b ≠ (ad 262) → b ≠ (ad 263) → b ≠ (ad 264) → f3 b = f b) := fun b z0_ z1_ z2_ z3_ z4_ z5_ z6_ z7_ z8_ z9_ z10_ z11_ => (ho5 b z0_).trans (hfr b z0_ z1_ z2_ z3_ z4_ z5_ z6_ z7_ z8_ z9_ z10_ z11_)
  refine lv_aload_n hx hb dX11_broken_5 rfl (lv_at hl 0 rfl) ?_
  have hT := TI.updM hT hst (k := 0) (by decide) hf4 ho5 ⟨0, v2_1, v3_1, v4_1, v5_1, v6_1, v8_1, v9_1, v12_1, v13_1, v14_1, v15_1, v16_1, v17_1, v18_1, v19_1, v20_1, v21_1, v22_1, v23_1, v25_1, v36_1, v37_1, v38_1, v39_1, v40_1, v45_1, v46_1, v47_1, v48_1, v50_1, v51_1, v53_1, v55_1, rfl, (⟨by decide, by decide⟩ : In 0 0 1), hv2_1, hg2_1, hv3_1, hg3_1, hv4_1, hg4_1, hv5_1, hg5_1, hv6_1, hg6_1, hv8_1, hg8_1, hv9_1, hg9_1, hv12_1, hv13_1, hg13_1, hv14_1, hg14_1, hv15_1, hg15_1, hv17_1, hg17_1, hv20_1, hg20_1, hv23_1, hg23_1, hv25_1, hg25_1, hv36_1, hg36_1, hv47_1, hg47_1, hv48_1, hg48_1, hv53_1, hg53_1, hv55_1, hg55_1, hrel0_1⟩
  refine call_i (run_V (rm := rm_X11_canSearch) hx hb hml hown hts (s_X11_canSearch l g ad th _ _ _  hst hT (show MI th from hM)) cV_X11_canSearch wg_1834 ⟨Nat.le_of_ble_eq_true rfl, Nat.le_of_ble_eq_true rfl⟩ hG hE hA hP hD hS (hst.1 255 (by decide)) hf4 rfl rfl hl.1 (As := []) (rest := []) rfl (Nat.le_of_ble_eq_true rfl) dX11_broken_6 ⟨Nat.le_of_ble_eq_true rfl, Nat.le_of_ble_eq_true rfl⟩) hA hD hS (fun r6 L7 f8 H locs hp9 hP hD hS => ?_)
  obtain ⟨eL10L, eL10T, eL10F, eL10R⟩ := hp9
  have eL10L : L7 = L := eL10L
  rw [eL10L] at hP hD
  obtain ⟨zz11, zz12, zz13, hzz11, eL10T⟩ := eL10T
  have hT : TI g ad (gset (gset (gset th 14 zz11) 18 zz12) 44 zz13) f8 := eL10T
  have eL10F : ∀ b, b ≠ (ad 255) → b ≠ (ad 265) → b ≠ (ad 266) → b ≠ (ad 267) → b ≠ (ad 269) → b ≠ (ad 260) → b ≠ (ad 261) → b ≠ (ad 262) → b ≠ (ad 263) → b ≠ (ad 264) → f8 b = f3 b := eL10F
  have hfr : (∀ b, b ≠ (ad 255) → b ≠ (ad 265) → b ≠ (ad 266) → b ≠ (ad 267) → b ≠ (ad 268) → b ≠ (ad 269) → b ≠ (ad 270) → b ≠ (ad 260) → b ≠ (ad 261) → b ≠ (ad 262) → b ≠ (ad 263) → b ≠ (ad 264) → f8 b = f b) := fun b z0_ z1_ z2_ z3_ z4_ z5_ z6_ z7_ z8_ z9_ z10_ z11_ => (eL10F b z0_ z1_ z2_ z3_ z5_ z7_ z8_ z9_ z10_ z11_).trans (hfr b z0_ z1_ z2_ z3_ z4_ z5_ z6_ z7_ z8_ z9_ z10_ z11_)
  have eL10R : In r6 0 1 := eL10R
  refine lv_if_eq (tgt := 19) hx hb dX11_broken_9 (by decide) (fun c14 => ?_) (fun c14 => ?_)
  ·
    have oc0 : (0 : Int32).toInt = 0 := by decide
    have cc15 : r6.toInt = (0 : Int32).toInt := congrArg Int32.toInt c14
    have hb16 : In r6 0 0 := In.eq1 eL10R (⟨by decide, by decide⟩ : In 0 0 0) cc15 (by decide) (by decide)
    refine lv_bipush (v := (-2)) hx hb dX11_broken_19 (by decide) ?_
    exact ret_i (ty := .int) hx hb hr hlocks (rfl) hP hD hS (Nat.le_of_ble_eq_true rfl) (Nat.le_of_ble_eq_true rfl) (⟨rfl, ⟨(gset (gset (gset th 14 zz11) 18 zz12) 44 zz13), ⟨(show MI (gset (gset (gset th 14 zz11) 18 zz12) 44 zz13) from ⟨m1, m2, (show th 20 = (th 12) * rnd (th 10) from m3), m4, m5, m6, m7, m8, m9, m10⟩), (SBM.set (k := 44) (SBM.set (k := 18) (SBM.set (k := 14) (SBM.rf th) (by decide)) (by decide)) (by decide))⟩, hT⟩, hfr⟩) dX11_broken_21
  ·
    have oc0 : (0 : Int32).toInt = 0 := by decide
    have cc17 : r6.toInt ≠ (0 : Int32).toInt := i32_ne c14
    have hb18 : In r6 1 1 := In.ne1 eL10R (⟨by decide, by decide⟩ : In 0 0 0) cc17 (by decide) (by decide)
    refine lv_aload_n hx hb dX11_broken_12 rfl (lv_at hl 0 rfl) ?_
    refine M0e hT (fun v0_19 v2_19 v3_19 v4_19 v5_19 v6_19 v8_19 v9_19 v12_19 v13_19 v14_19 v15_19 v16_19 v17_19 v18_19 v19_19 v20_19 v21_19 v22_19 v23_19 v25_19 v36_19 v37_19 v38_19 v39_19 v40_19 v45_19 v46_19 v47_19 v48_19 v50_19 v51_19 v53_19 v55_19 hf20 hv0_19 hv2_19 hg2_19 hv3_19 hg3_19 hv4_19 hg4_19 hv5_19 hg5_19 hv6_19 hg6_19 hv8_19 hg8_19 hv9_19 hg9_19 hv12_19 hv13_19 hg13_19 hv14_19 hg14_19 hv15_19 hg15_19 hv17_19 hg17_19 hv20_19 hg20_19 hv23_19 hg23_19 hv25_19 hg25_19 hv36_19 hg36_19 hv47_19 hg47_19 hv48_19 hg48_19 hv53_19 hg53_19 hv55_19 hg55_19 hrel0_19 => ?_)
    have hg15_19 : v15_19.toInt = th 11 := hg15_19
    have hg17_19 : v17_19.toInt = th 12 := hg17_19
    have hg20_19 : v20_19.toInt = zz11 := hg20_19
    refine call_i (run_V (rm := rm_X11_leastBroken) hx hb hml hown hts (s_X11_leastBroken l g ad (gset (gset (gset th 14 zz11) 18 zz12) 44 zz13) _ _ _  hst hT (show 3 ≤ th 11 by omega)) cV_X11_leastBroken wg_1838 ⟨Nat.le_of_ble_eq_true rfl, Nat.le_of_ble_eq_true rfl⟩ hG hE hA hP hD hS (hst.1 255 (by decide)) hf20 rfl rfl hl.1 (As := []) (rest := []) rfl (Nat.le_of_ble_eq_true rfl) dX11_broken_13 ⟨Nat.le_of_ble_eq_true rfl, Nat.le_of_ble_eq_true rfl⟩) hA hD hS (fun r21 L22 f23 H locs hp24 hP hD hS => ?_)
    obtain ⟨eL25L, eL25T, eL25F⟩ := hp24
    have eL25L : L22 = L := eL25L
    rw [eL25L] at hP hD
    obtain ⟨zz26, hzz26, eL25T⟩ := eL25T
    have hzz26 : True := hzz26
    have hT : TI g ad (gset (gset (gset (gset th 14 zz11) 18 zz12) 44 zz13) 18 zz26) f23 := eL25T
    have hT : TI g ad (gset (gset (gset th 14 zz11) 44 zz13) 18 zz26) f23 := TI.cast hT (by funext q; by_cases hq0 : q = 18; (subst hq0; rfl); by_cases hq1 : q = 44; (subst hq1; rfl); by_cases hq2 : q = 14; (subst hq2; rfl); simp only [gset, if_neg hq0, if_neg hq1, if_neg hq2])
    have eL25F : ∀ b, b ≠ (ad 255) → b ≠ (ad 265) → b ≠ (ad 266) → b ≠ (ad 267) → b ≠ (ad 268) → b ≠ (ad 269) → b ≠ (ad 270) → b ≠ (ad 261) → b ≠ (ad 262) → b ≠ (ad 263) → b ≠ (ad 264) → f23 b = f8 b := eL25F
    have hfr : (∀ b, b ≠ (ad 255) → b ≠ (ad 265) → b ≠ (ad 266) → b ≠ (ad 267) → b ≠ (ad 268) → b ≠ (ad 269) → b ≠ (ad 270) → b ≠ (ad 260) → b ≠ (ad 261) → b ≠ (ad 262) → b ≠ (ad 263) → b ≠ (ad 264) → f23 b = f b) := fun b z0_ z1_ z2_ z3_ z4_ z5_ z6_ z7_ z8_ z9_ z10_ z11_ => (eL25F b z0_ z1_ z2_ z3_ z4_ z5_ z6_ z8_ z9_ z10_ z11_).trans (hfr b z0_ z1_ z2_ z3_ z4_ z5_ z6_ z7_ z8_ z9_ z10_ z11_)
    refine lv_goto (tgt := 21) hx hb dX11_broken_16 (by decide) ?_
    exact ret_i (ty := .int) hx hb hr hlocks (rfl) hP hD hS (Nat.le_of_ble_eq_true rfl) (Nat.le_of_ble_eq_true rfl) (⟨rfl, ⟨(gset (gset (gset th 14 zz11) 44 zz13) 18 zz26), ⟨(show MI (gset (gset (gset th 14 zz11) 44 zz13) 18 zz26) from ⟨m1, m2, (show th 20 = (th 12) * rnd (th 10) from m3), m4, m5, m6, m7, m8, m9, m10⟩), (SBM.set (k := 18) (SBM.set (k := 44) (SBM.set (k := 14) (SBM.rf th) (by decide)) (by decide)) (by decide))⟩, hT⟩, hfr⟩) dX11_broken_21

abbrev rm_X11_findsStarts : Room := { frames := 7, cells := 0, slots := 0, locals := 170 }
abbrev po_X11_findsStarts (g : GG) (ad : Nat → Nat) (th : Nat → Int) (L : List Nat) (f : HP)  : (List Nat × HP) → Prop := fun u => u.1 = L ∧ (∃ z18 : Int, (True) ∧ TI g ad (gset th 18 z18) u.2) ∧ (∀ b, b ≠ (ad 255) → b ≠ (ad 265) → b ≠ (ad 266) → b ≠ (ad 267) → b ≠ (ad 268) → b ≠ (ad 269) → b ≠ (ad 270) → b ≠ (ad 261) → b ≠ (ad 262) → b ≠ (ad 263) → b ≠ (ad 264) → u.2 b = f b)
set_option maxHeartbeats 4000000 in
set_option maxRecDepth 100000 in
theorem s_X11_findsStarts (l : Launch) (g : GG) (ad : Nat → Nat) (th : Nat → Int) (L : List Nat) (f : HP) (sz : Nat)  (hst : ST ad L) (hT : TI g ad th f) (hn3 : 3 ≤ th 11) : MtV l g yX11_findsStarts cX11_findsStarts 2 rm_X11_findsStarts [.ref (ad 255)] L f sz (po_X11_findsStarts g ad th L f ) := by
  refine MtV.of (by decide +kernel) (Nat.le_of_ble_eq_true rfl) ?_
  intro p e s m below meth c A hEn hP hD hS ls hl
  obtain ⟨hx, hb, hr, hml, hown, hlocks, hts, hG, hA, hE, hnm⟩ := hEn
  have hown : s.vm.findClass "RulerWordModel" = some m.cls := hown
  have hl : lv_has ls 2 [(0, .ref (ad 255))] := hl
  have hfr : (∀ b, b ≠ (ad 255) → b ≠ (ad 265) → b ≠ (ad 266) → b ≠ (ad 267) → b ≠ (ad 268) → b ≠ (ad 269) → b ≠ (ad 270) → b ≠ (ad 261) → b ≠ (ad 262) → b ≠ (ad 263) → b ≠ (ad 264) → f b = f b) := fun b z0_ z1_ z2_ z3_ z4_ z5_ z6_ z7_ z8_ z9_ z10_ => rfl
  refine lv_aload_n hx hb dX11_findsStarts_0 rfl (lv_at hl 0 rfl) ?_
  refine lv_iconst (v := 0) hx hb dX11_findsStarts_1 (by decide) ?_
  refine M0e hT (fun v0_1 v2_1 v3_1 v4_1 v5_1 v6_1 v8_1 v9_1 v12_1 v13_1 v14_1 v15_1 v16_1 v17_1 v18_1 v19_1 v20_1 v21_1 v22_1 v23_1 v25_1 v36_1 v37_1 v38_1 v39_1 v40_1 v45_1 v46_1 v47_1 v48_1 v50_1 v51_1 v53_1 v55_1 hf2 hv0_1 hv2_1 hg2_1 hv3_1 hg3_1 hv4_1 hg4_1 hv5_1 hg5_1 hv6_1 hg6_1 hv8_1 hg8_1 hv9_1 hg9_1 hv12_1 hv13_1 hg13_1 hv14_1 hg14_1 hv15_1 hg15_1 hv17_1 hg17_1 hv20_1 hg20_1 hv23_1 hg23_1 hv25_1 hg25_1 hv36_1 hg36_1 hv47_1 hg47_1 hv48_1 hg48_1 hv53_1 hg53_1 hv55_1 hg55_1 hrel0_1 => ?_)
  have hg15_1 : v15_1.toInt = th 11 := hg15_1
  have hg17_1 : v17_1.toInt = th 12 := hg17_1
  have hg20_1 : v20_1.toInt = th 14 := hg20_1
  have hb3 : In v15_1 3 9 := ⟨by rw [hg15_1]; exact hn3, hv15_1.2⟩
  refine pl_put (ty := .int) (v := .int 0) (fs' := [.int v0_1, .ref (ad 256), .int v2_1, .int v3_1, .int v4_1, .int v5_1, .int v6_1, .ref (ad 257), .int v8_1, .int v9_1, .ref (ad 258), .ref (ad 259), .int v12_1, .int v13_1, .int v14_1, .int v15_1, .int v16_1, .int v17_1, .int v18_1, .int v19_1, .int v20_1, .long v21_1, .long v22_1, .int v23_1, .ref (ad 260), .int v25_1, .ref (ad 261), .ref (ad 262), .ref (ad 263), .ref (ad 264), .ref (ad 265), .ref (ad 266), .ref (ad 267), .ref (ad 268), .ref (ad 269), .ref (ad 270), .int v36_1, .int v37_1, .int v38_1, .int v39_1, .int v40_1, .ref (ad 271), .ref (ad 272), .ref (ad 273), .ref (ad 274), .long v45_1, .long v46_1, .int v47_1, .int v48_1, .ref (ad 275), .int v50_1, .int 0, .ref (ad 276), .int v53_1, .ref (ad 277), .int v55_1]) hx hb hts (fun w h => mT (inX11 w h)) tyX11 tyX11_ok nmX11 hown hG.1 hP hD hS (hst.1 255 (by decide)) hf2 rfl 51 (by decide) (hts _ (mT wg_1387)) (fun _ h => h) rfl (by decide +kernel) (rfl) (rfl) (Nat.le_of_ble_eq_true rfl) rfl dX11_findsStarts_2 (fun H locs f4 hf5 ho6 hP hD hS => ?_)
  have hfr : (∀ b, b ≠ (ad 255) → b ≠ (ad 265) → b ≠ (ad 266) → b ≠ (ad 267) → b ≠ (ad 268) → b ≠ (ad 269) → b ≠ (ad 270) → b ≠ (ad 261) → b ≠ (ad 262) → b ≠ (ad 263) → b ≠ (ad 264) → f4 b = f b) := fun b z0_ z1_ z2_ z3_ z4_ z5_ z6_ z7_ z8_ z9_ z10_ => (ho6 b z0_).trans (hfr b z0_ z1_ z2_ z3_ z4_ z5_ z6_ z7_ z8_ z9_ z10_)
  refine lv_aload_n hx hb dX11_findsStarts_5 rfl (lv_at hl 0 rfl) ?_
  refine lv_iconst (v := (-1)) hx hb dX11_findsStarts_6 (by decide) ?_
  refine pl_put (ty := .int) (v := .int (-1)) (fs' := [.int v0_1, .ref (ad 256), .int v2_1, .int v3_1, .int v4_1, .int v5_1, .int v6_1, .ref (ad 257), .int v8_1, .int v9_1, .ref (ad 258), .ref (ad 259), .int v12_1, .int v13_1, .int v14_1, .int v15_1, .int v16_1, .int v17_1, .int v18_1, .int v19_1, .int v20_1, .long v21_1, .long v22_1, .int v23_1, .ref (ad 260), .int v25_1, .ref (ad 261), .ref (ad 262), .ref (ad 263), .ref (ad 264), .ref (ad 265), .ref (ad 266), .ref (ad 267), .ref (ad 268), .ref (ad 269), .ref (ad 270), .int v36_1, .int v37_1, .int v38_1, .int v39_1, .int v40_1, .ref (ad 271), .ref (ad 272), .ref (ad 273), .ref (ad 274), .long v45_1, .long v46_1, .int v47_1, .int v48_1, .ref (ad 275), .int (-1), .int 0, .ref (ad 276), .int v53_1, .ref (ad 277), .int v55_1]) hx hb hts (fun w h => mT (inX11 w h)) tyX11 tyX11_ok nmX11 hown hG.1 hP hD hS (hst.1 255 (by decide)) hf5 rfl 50 (by decide) (hts _ (mT wg_1386)) (fun _ h => h) rfl (by decide +kernel) (rfl) (rfl) (Nat.le_of_ble_eq_true rfl) rfl dX11_findsStarts_7 (fun H locs f7 hf8 ho9 hP hD hS => ?_)
  have ho10 : ∀ b, b ≠ (ad 255) → f7 b = _ := fun b hb => (ho9 b hb).trans (ho6 b hb)
  have hfr : (∀ b, b ≠ (ad 255) → b ≠ (ad 265) → b ≠ (ad 266) → b ≠ (ad 267) → b ≠ (ad 268) → b ≠ (ad 269) → b ≠ (ad 270) → b ≠ (ad 261) → b ≠ (ad 262) → b ≠ (ad 263) → b ≠ (ad 264) → f7 b = f b) := fun b z0_ z1_ z2_ z3_ z4_ z5_ z6_ z7_ z8_ z9_ z10_ => (ho9 b z0_).trans (hfr b z0_ z1_ z2_ z3_ z4_ z5_ z6_ z7_ z8_ z9_ z10_)
  refine lv_iconst (v := 0) hx hb dX11_findsStarts_10 (by decide) ?_
  refine lv_istore_n (lv' := [(1, .int 0), (0, .ref (ad 255))]) hx hb dX11_findsStarts_11 rfl hl (by decide) rfl (fun ls hl => ?_)
  have hT := TI.updM hT hst (k := 0) (by decide) hf8 ho10 ⟨v0_1, v2_1, v3_1, v4_1, v5_1, v6_1, v8_1, v9_1, v12_1, v13_1, v14_1, v15_1, v16_1, v17_1, v18_1, v19_1, v20_1, v21_1, v22_1, v23_1, v25_1, v36_1, v37_1, v38_1, v39_1, v40_1, v45_1, v46_1, v47_1, v48_1, (-1), 0, v53_1, v55_1, rfl, hv0_1, hv2_1, hg2_1, hv3_1, hg3_1, hv4_1, hg4_1, hv5_1, hg5_1, hv6_1, hg6_1, hv8_1, hg8_1, hv9_1, hg9_1, hv12_1, hv13_1, hg13_1, hv14_1, hg14_1, (In.mono hb3 (by decide) (by decide)), hg15_1, hv17_1, hg17_1, hv20_1, hg20_1, hv23_1, hg23_1, hv25_1, hg25_1, hv36_1, hg36_1, hv47_1, hg47_1, hv48_1, hg48_1, hv53_1, hg53_1, hv55_1, hg55_1, hrel0_1⟩
  have hJ12 : ∀ (k12 : Nat) (zg12_zg : Int) (y12_l1 : Int32) (f_12 : HP) (H : Heap) (locs : List Loc) (ls : Array Slot), In y12_l1 0 2147483647 → va_P g.1 vwCl (va_pl L f_12) H → va_D A (va_pl L f_12) → va_S A s.heap H locs → TI g ad (gset th 18 zg12_zg) f_12 → (∀ b, b ≠ (ad 255) → b ≠ (ad 265) → b ≠ (ad 266) → b ≠ (ad 267) → b ≠ (ad 268) → b ≠ (ad 269) → b ≠ (ad 270) → b ≠ (ad 261) → b ≠ (ad 262) → b ≠ (ad 263) → b ≠ (ad 264) → f_12 b = f b) → lv_has ls 2 [(0, .ref (ad 255)), (1, .int y12_l1)] → 2147483647 - y12_l1.toInt < ((k12 : Nat) : Int) → W p l e rm_X11_findsStarts s m [.ref (ad 255)].toArray below meth c H locs 0 0 (MQ below (va_Qv (po_X11_findsStarts g ad th L f ) (PstB g A) A) [.ref (ad 255)].toArray s rm_X11_findsStarts.cells rm_X11_findsStarts.slots A) (F0 m 12 ls []) := by
    intro k12
    induction k12 with
    | zero =>
      intro zg12_zg y12_l1 f_12 H locs ls hy12_l1 hP hD hS hT hfr hl hmz12
      exact ms0 hy12_l1 hmz12
    | succ k12 ih12 =>
      intro zg12_zg y12_l1 f_12 H locs ls hy12_l1 hP hD hS hT hfr hl hmz12
      refine lv_iload_n hx hb dX11_findsStarts_12 rfl (lv_at hl 1 rfl) ?_
      refine lv_iconst (v := 1) hx hb dX11_findsStarts_13 (by decide) ?_
      refine lv_aload_n hx hb dX11_findsStarts_14 rfl (lv_at hl 0 rfl) ?_
      refine M0e hT (fun v0_11 v2_11 v3_11 v4_11 v5_11 v6_11 v8_11 v9_11 v12_11 v13_11 v14_11 v15_11 v16_11 v17_11 v18_11 v19_11 v20_11 v21_11 v22_11 v23_11 v25_11 v36_11 v37_11 v38_11 v39_11 v40_11 v45_11 v46_11 v47_11 v48_11 v50_11 v51_11 v53_11 v55_11 hf12 hv0_11 hv2_11 hg2_11 hv3_11 hg3_11 hv4_11 hg4_11 hv5_11 hg5_11 hv6_11 hg6_11 hv8_11 hg8_11 hv9_11 hg9_11 hv12_11 hv13_11 hg13_11 hv14_11 hg14_11 hv15_11 hg15_11 hv17_11 hg17_11 hv20_11 hg20_11 hv23_11 hg23_11 hv25_11 hg25_11 hv36_11 hg36_11 hv47_11 hg47_11 hv48_11 hg48_11 hv53_11 hg53_11 hv55_11 hg55_11 hrel0_11 => ?_)
      have hg15_11 : v15_11.toInt = th 11 := hg15_11
      have hg17_11 : v17_11.toInt = th 12 := hg17_11
      have hg20_11 : v20_11.toInt = th 14 := hg20_11
      have hb13 : In v15_11 3 9 := ⟨by rw [hg15_11]; exact hn3, hv15_11.2⟩
      refine pl_get (v := .int v15_11) hx hb hts (fun w h => mT (inX11 w h)) hown hG.1 hP (hst.1 255 (by decide)) hf12 rfl 15 (by decide) (hts _ (mT wg_1351)) (fun _ h => h) rfl dX11_findsStarts_15 ?_
      refine lv_ishl hx hb dX11_findsStarts_18 ?_
      refine lv_topi (fun x14 ex14 => ?_)
      have hb15 : In x14 8 512 := ex14 ▸ In.shl (⟨by decide, by decide⟩ : In 1 1 1) hb13 (by decide) (by decide) (by decide) (by decide) (by decide) (by decide)
      refine lv_icmp_ge (tgt := 74) hx hb dX11_findsStarts_19 (by decide) (fun c16 => ?_) (fun c16 => ?_)
      ·
        have cc17 : x14.toInt ≤ y12_l1.toInt := i32_le.mp c16
        have hb18 : In y12_l1 8 2147483647 := In.ge1 hy12_l1 hb15 cc17 (by decide) (by decide)
        exact ret_v hx hb hr hlocks hP hD hS (Nat.le_of_ble_eq_true rfl) (Nat.le_of_ble_eq_true rfl) (⟨rfl, ⟨zg12_zg, trivial, TI.cast hT (by funext q; by_cases hq0 : q = 18; (subst hq0; rfl); simp only [gset, if_neg hq0])⟩, hfr⟩) dX11_findsStarts_74
      ·
        have cc19 : y12_l1.toInt < x14.toInt := i32_nle c16
        have hb20 : In y12_l1 0 511 := In.lt1 hy12_l1 hb15 cc19 (by decide) (by decide)
        refine lv_aload_n hx hb dX11_findsStarts_22 rfl (lv_at hl 0 rfl) ?_
        refine lv_iload_n hx hb dX11_findsStarts_23 rfl (lv_at hl 1 rfl) ?_
        refine pl_put (ty := .int) (v := .int y12_l1) (fs' := [.int v0_11, .ref (ad 256), .int v2_11, .int v3_11, .int v4_11, .int v5_11, .int v6_11, .ref (ad 257), .int v8_11, .int v9_11, .ref (ad 258), .ref (ad 259), .int v12_11, .int v13_11, .int v14_11, .int v15_11, .int v16_11, .int v17_11, .int v18_11, .int y12_l1, .int v20_11, .long v21_11, .long v22_11, .int v23_11, .ref (ad 260), .int v25_11, .ref (ad 261), .ref (ad 262), .ref (ad 263), .ref (ad 264), .ref (ad 265), .ref (ad 266), .ref (ad 267), .ref (ad 268), .ref (ad 269), .ref (ad 270), .int v36_11, .int v37_11, .int v38_11, .int v39_11, .int v40_11, .ref (ad 271), .ref (ad 272), .ref (ad 273), .ref (ad 274), .long v45_11, .long v46_11, .int v47_11, .int v48_11, .ref (ad 275), .int v50_11, .int v51_11, .ref (ad 276), .int v53_11, .ref (ad 277), .int v55_11]) hx hb hts (fun w h => mT (inX11 w h)) tyX11 tyX11_ok nmX11 hown hG.1 hP hD hS (hst.1 255 (by decide)) hf12 rfl 19 (by decide) (hts _ (mT wg_1355)) (fun _ h => h) rfl (by decide +kernel) (rfl) (rfl) (Nat.le_of_ble_eq_true rfl) rfl dX11_findsStarts_24 (fun H locs f21 hf22 ho23 hP hD hS => ?_)
        have hfr : (∀ b, b ≠ (ad 255) → b ≠ (ad 265) → b ≠ (ad 266) → b ≠ (ad 267) → b ≠ (ad 268) → b ≠ (ad 269) → b ≠ (ad 270) → b ≠ (ad 261) → b ≠ (ad 262) → b ≠ (ad 263) → b ≠ (ad 264) → f21 b = f b) := fun b z0_ z1_ z2_ z3_ z4_ z5_ z6_ z7_ z8_ z9_ z10_ => (ho23 b z0_).trans (hfr b z0_ z1_ z2_ z3_ z4_ z5_ z6_ z7_ z8_ z9_ z10_)
        refine lv_aload_n hx hb dX11_findsStarts_27 rfl (lv_at hl 0 rfl) ?_
        have hT := TI.updM hT hst (k := 0) (by decide) hf22 ho23 ⟨v0_11, v2_11, v3_11, v4_11, v5_11, v6_11, v8_11, v9_11, v12_11, v13_11, v14_11, v15_11, v16_11, v17_11, v18_11, y12_l1, v20_11, v21_11, v22_11, v23_11, v25_11, v36_11, v37_11, v38_11, v39_11, v40_11, v45_11, v46_11, v47_11, v48_11, v50_11, v51_11, v53_11, v55_11, rfl, hv0_11, hv2_11, hg2_11, hv3_11, hg3_11, hv4_11, hg4_11, hv5_11, hg5_11, hv6_11, hg6_11, hv8_11, hg8_11, hv9_11, hg9_11, hv12_11, hv13_11, hg13_11, hv14_11, hg14_11, (In.mono hb13 (by decide) (by decide)), hg15_11, hv17_11, hg17_11, hv20_11, hg20_11, hv23_11, hg23_11, hv25_11, hg25_11, hv36_11, hg36_11, hv47_11, hg47_11, hv48_11, hg48_11, hv53_11, hg53_11, hv55_11, hg55_11, hrel0_11⟩
        refine call_i (run_V (rm := rm_X11_leastBroken) hx hb hml hown hts (s_X11_leastBroken l g ad (gset th 18 zg12_zg) _ _ _  hst hT hn3) cV_X11_leastBroken wg_1838 ⟨Nat.le_of_ble_eq_true rfl, Nat.le_of_ble_eq_true rfl⟩ hG hE hA hP hD hS (hst.1 255 (by decide)) hf22 rfl rfl hl.1 (As := []) (rest := []) rfl (Nat.le_of_ble_eq_true rfl) dX11_findsStarts_28 ⟨Nat.le_of_ble_eq_true rfl, Nat.le_of_ble_eq_true rfl⟩) hA hD hS (fun r24 L25 f26 H locs hp27 hP hD hS => ?_)
        obtain ⟨eL28L, eL28T, eL28F⟩ := hp27
        have eL28L : L25 = L := eL28L
        rw [eL28L] at hP hD
        obtain ⟨zz29, hzz29, eL28T⟩ := eL28T
        have hzz29 : True := hzz29
        have hT : TI g ad (gset (gset th 18 zg12_zg) 18 zz29) f26 := eL28T
        have hT : TI g ad (gset th 18 zz29) f26 := TI.cast hT (by funext q; by_cases hq0 : q = 18; (subst hq0; rfl); simp only [gset, if_neg hq0])
        have eL28F : ∀ b, b ≠ (ad 255) → b ≠ (ad 265) → b ≠ (ad 266) → b ≠ (ad 267) → b ≠ (ad 268) → b ≠ (ad 269) → b ≠ (ad 270) → b ≠ (ad 261) → b ≠ (ad 262) → b ≠ (ad 263) → b ≠ (ad 264) → f26 b = f21 b := eL28F
        have hfr : (∀ b, b ≠ (ad 255) → b ≠ (ad 265) → b ≠ (ad 266) → b ≠ (ad 267) → b ≠ (ad 268) → b ≠ (ad 269) → b ≠ (ad 270) → b ≠ (ad 261) → b ≠ (ad 262) → b ≠ (ad 263) → b ≠ (ad 264) → f26 b = f b) := fun b z0_ z1_ z2_ z3_ z4_ z5_ z6_ z7_ z8_ z9_ z10_ => (eL28F b z0_ z1_ z2_ z3_ z4_ z5_ z6_ z7_ z8_ z9_ z10_).trans (hfr b z0_ z1_ z2_ z3_ z4_ z5_ z6_ z7_ z8_ z9_ z10_)
        refine lv_iconst (v := (-1)) hx hb dX11_findsStarts_31 (by decide) ?_
        have hJ68 : ∀ (zg68_zg : Int) (f_68 : HP) (H : Heap) (locs : List Loc) (ls : Array Slot), va_P g.1 vwCl (va_pl L f_68) H → va_D A (va_pl L f_68) → va_S A s.heap H locs → TI g ad (gset th 18 zg68_zg) f_68 → (∀ b, b ≠ (ad 255) → b ≠ (ad 265) → b ≠ (ad 266) → b ≠ (ad 267) → b ≠ (ad 268) → b ≠ (ad 269) → b ≠ (ad 270) → b ≠ (ad 261) → b ≠ (ad 262) → b ≠ (ad 263) → b ≠ (ad 264) → f_68 b = f b) → lv_has ls 2 [(0, .ref (ad 255)), (1, .int y12_l1)] → W p l e rm_X11_findsStarts s m [.ref (ad 255)].toArray below meth c H locs 0 0 (MQ below (va_Qv (po_X11_findsStarts g ad th L f ) (PstB g A) A) [.ref (ad 255)].toArray s rm_X11_findsStarts.cells rm_X11_findsStarts.slots A) (F0 m 68 ls []) := by
          intro zg68_zg f_68 H locs ls hP hD hS hT hfr hl
          obtain ⟨x30, ex30⟩ : ∃ y : Int32, y = y12_l1 + 1 := ⟨_, rfl⟩
          have hb31 : In x30 1 512 := ex30 ▸ In.add hb20 (⟨by decide, by decide⟩ : In 1 1 1) (by decide) (by decide) (by decide) (by decide)
          have et32 : x30.toInt = y12_l1.toInt + 1 := In.adde ex30 hb20 (k := 1) (by decide) (by decide) (by decide)
          refine lv_iinc (v := x30) (lv' := [(1, .int x30), (0, .ref (ad 255))]) hx hb dX11_findsStarts_68 hl (k := 1) rfl (by rw [ex30]; rfl) (by decide) rfl (fun ls hl => ?_)
          refine lv_goto (tgt := 12) hx hb dX11_findsStarts_71 (by decide) ?_
          exact ih12 zg68_zg x30 _ _ _ _ (In.mono hb31 (by decide) (by decide)) hP hD hS (TI.cast hT (by funext q; by_cases hq0 : q = 18; (subst hq0; rfl); simp only [gset, if_neg hq0])) hfr (lv_sub hl [1, 0] rfl) (msu et32 (by decide) hmz12)
        refine lv_icmp_ne (tgt := 38) hx hb dX11_findsStarts_32 (by decide) (fun c33 => ?_) (fun c33 => ?_)
        ·
          have ocm1 : ((-1) : Int32).toInt = (-1) := by decide
          have cc34 : r24.toInt ≠ ((-1) : Int32).toInt := i32_ne c33
          refine lv_aload_n hx hb dX11_findsStarts_38 rfl (lv_at hl 0 rfl) ?_
          refine lv_dup hx hb dX11_findsStarts_39 rfl ?_
          refine M0e hT (fun v0_35 v2_35 v3_35 v4_35 v5_35 v6_35 v8_35 v9_35 v12_35 v13_35 v14_35 v15_35 v16_35 v17_35 v18_35 v19_35 v20_35 v21_35 v22_35 v23_35 v25_35 v36_35 v37_35 v38_35 v39_35 v40_35 v45_35 v46_35 v47_35 v48_35 v50_35 v51_35 v53_35 v55_35 hf36 hv0_35 hv2_35 hg2_35 hv3_35 hg3_35 hv4_35 hg4_35 hv5_35 hg5_35 hv6_35 hg6_35 hv8_35 hg8_35 hv9_35 hg9_35 hv12_35 hv13_35 hg13_35 hv14_35 hg14_35 hv15_35 hg15_35 hv17_35 hg17_35 hv20_35 hg20_35 hv23_35 hg23_35 hv25_35 hg25_35 hv36_35 hg36_35 hv47_35 hg47_35 hv48_35 hg48_35 hv53_35 hg53_35 hv55_35 hg55_35 hrel0_35 => ?_)
          have hg15_35 : v15_35.toInt = th 11 := hg15_35
          have hg17_35 : v17_35.toInt = th 12 := hg17_35
          have hg20_35 : v20_35.toInt = th 14 := hg20_35
          have hb37 : In v15_35 3 9 := ⟨by rw [hg15_35]; exact hn3, hv15_35.2⟩
          refine pl_get (v := .int v51_35) hx hb hts (fun w h => mT (inX11 w h)) hown hG.1 hP (hst.1 255 (by decide)) hf36 rfl 51 (by decide) (hts _ (mT wg_1387)) (fun _ h => h) rfl dX11_findsStarts_40 ?_
          refine lv_iconst (v := 1) hx hb dX11_findsStarts_43 (by decide) ?_
          refine lv_iadd hx hb dX11_findsStarts_44 ?_
          refine lv_topi (fun x38 ex38 => ?_)
          refine pl_put (ty := .int) (v := .int x38) (fs' := [.int v0_35, .ref (ad 256), .int v2_35, .int v3_35, .int v4_35, .int v5_35, .int v6_35, .ref (ad 257), .int v8_35, .int v9_35, .ref (ad 258), .ref (ad 259), .int v12_35, .int v13_35, .int v14_35, .int v15_35, .int v16_35, .int v17_35, .int v18_35, .int v19_35, .int v20_35, .long v21_35, .long v22_35, .int v23_35, .ref (ad 260), .int v25_35, .ref (ad 261), .ref (ad 262), .ref (ad 263), .ref (ad 264), .ref (ad 265), .ref (ad 266), .ref (ad 267), .ref (ad 268), .ref (ad 269), .ref (ad 270), .int v36_35, .int v37_35, .int v38_35, .int v39_35, .int v40_35, .ref (ad 271), .ref (ad 272), .ref (ad 273), .ref (ad 274), .long v45_35, .long v46_35, .int v47_35, .int v48_35, .ref (ad 275), .int v50_35, .int x38, .ref (ad 276), .int v53_35, .ref (ad 277), .int v55_35]) hx hb hts (fun w h => mT (inX11 w h)) tyX11 tyX11_ok nmX11 hown hG.1 hP hD hS (hst.1 255 (by decide)) hf36 rfl 51 (by decide) (hts _ (mT wg_1387)) (fun _ h => h) rfl (by decide +kernel) (rfl) (rfl) (Nat.le_of_ble_eq_true rfl) rfl dX11_findsStarts_45 (fun H locs f39 hf40 ho41 hP hD hS => ?_)
          have hfr : (∀ b, b ≠ (ad 255) → b ≠ (ad 265) → b ≠ (ad 266) → b ≠ (ad 267) → b ≠ (ad 268) → b ≠ (ad 269) → b ≠ (ad 270) → b ≠ (ad 261) → b ≠ (ad 262) → b ≠ (ad 263) → b ≠ (ad 264) → f39 b = f b) := fun b z0_ z1_ z2_ z3_ z4_ z5_ z6_ z7_ z8_ z9_ z10_ => (ho41 b z0_).trans (hfr b z0_ z1_ z2_ z3_ z4_ z5_ z6_ z7_ z8_ z9_ z10_)
          refine lv_aload_n hx hb dX11_findsStarts_48 rfl (lv_at hl 0 rfl) ?_
          refine lv_aload_n hx hb dX11_findsStarts_49 rfl (lv_at hl 0 rfl) ?_
          refine pl_get (v := .int v50_35) hx hb hts (fun w h => mT (inX11 w h)) hown hG.1 hP (hst.1 255 (by decide)) hf40 rfl 50 (by decide) (hts _ (mT wg_1386)) (fun _ h => h) rfl dX11_findsStarts_50 ?_
          refine lv_iconst (v := (-1)) hx hb dX11_findsStarts_53 (by decide) ?_
          have hT := TI.updM hT hst (k := 0) (by decide) hf40 ho41 ⟨v0_35, v2_35, v3_35, v4_35, v5_35, v6_35, v8_35, v9_35, v12_35, v13_35, v14_35, v15_35, v16_35, v17_35, v18_35, v19_35, v20_35, v21_35, v22_35, v23_35, v25_35, v36_35, v37_35, v38_35, v39_35, v40_35, v45_35, v46_35, v47_35, v48_35, v50_35, x38, v53_35, v55_35, rfl, hv0_35, hv2_35, hg2_35, hv3_35, hg3_35, hv4_35, hg4_35, hv5_35, hg5_35, hv6_35, hg6_35, hv8_35, hg8_35, hv9_35, hg9_35, hv12_35, hv13_35, hg13_35, hv14_35, hg14_35, (In.mono hb37 (by decide) (by decide)), hg15_35, hv17_35, hg17_35, hv20_35, hg20_35, hv23_35, hg23_35, hv25_35, hg25_35, hv36_35, hg36_35, hv47_35, hg47_35, hv48_35, hg48_35, hv53_35, hg53_35, hv55_35, hg55_35, hrel0_35⟩
          have hJ65 : ∀ (y65_s0 : Int32) (H : Heap) (locs : List Loc) (ls : Array Slot), In y65_s0 (-2147483648) 2147483647 → va_P g.1 vwCl (va_pl L f39) H → va_D A (va_pl L f39) → va_S A s.heap H locs → lv_has ls 2 [(0, .ref (ad 255)), (1, .int y12_l1)] → W p l e rm_X11_findsStarts s m [.ref (ad 255)].toArray below meth c H locs 0 0 (MQ below (va_Qv (po_X11_findsStarts g ad th L f ) (PstB g A) A) [.ref (ad 255)].toArray s rm_X11_findsStarts.cells rm_X11_findsStarts.slots A) (F0 m 65 ls [.int y65_s0, .ref (ad 255)]) := by
            intro y65_s0 H locs ls hy65_s0 hP hD hS hl
            refine pl_put (ty := .int) (v := .int y65_s0) (fs' := [.int v0_35, .ref (ad 256), .int v2_35, .int v3_35, .int v4_35, .int v5_35, .int v6_35, .ref (ad 257), .int v8_35, .int v9_35, .ref (ad 258), .ref (ad 259), .int v12_35, .int v13_35, .int v14_35, .int v15_35, .int v16_35, .int v17_35, .int v18_35, .int v19_35, .int v20_35, .long v21_35, .long v22_35, .int v23_35, .ref (ad 260), .int v25_35, .ref (ad 261), .ref (ad 262), .ref (ad 263), .ref (ad 264), .ref (ad 265), .ref (ad 266), .ref (ad 267), .ref (ad 268), .ref (ad 269), .ref (ad 270), .int v36_35, .int v37_35, .int v38_35, .int v39_35, .int v40_35, .ref (ad 271), .ref (ad 272), .ref (ad 273), .ref (ad 274), .long v45_35, .long v46_35, .int v47_35, .int v48_35, .ref (ad 275), .int y65_s0, .int x38, .ref (ad 276), .int v53_35, .ref (ad 277), .int v55_35]) hx hb hts (fun w h => mT (inX11 w h)) tyX11 tyX11_ok nmX11 hown hG.1 hP hD hS (hst.1 255 (by decide)) hf40 rfl 50 (by decide) (hts _ (mT wg_1386)) (fun _ h => h) rfl (by decide +kernel) (rfl) (rfl) (Nat.le_of_ble_eq_true rfl) rfl dX11_findsStarts_65 (fun H locs f42 hf43 ho44 hP hD hS => ?_)
            have hfr : (∀ b, b ≠ (ad 255) → b ≠ (ad 265) → b ≠ (ad 266) → b ≠ (ad 267) → b ≠ (ad 268) → b ≠ (ad 269) → b ≠ (ad 270) → b ≠ (ad 261) → b ≠ (ad 262) → b ≠ (ad 263) → b ≠ (ad 264) → f42 b = f b) := fun b z0_ z1_ z2_ z3_ z4_ z5_ z6_ z7_ z8_ z9_ z10_ => (ho44 b z0_).trans (hfr b z0_ z1_ z2_ z3_ z4_ z5_ z6_ z7_ z8_ z9_ z10_)
            have hT := TI.updM hT hst (k := 0) (by decide) hf43 ho44 ⟨v0_35, v2_35, v3_35, v4_35, v5_35, v6_35, v8_35, v9_35, v12_35, v13_35, v14_35, v15_35, v16_35, v17_35, v18_35, v19_35, v20_35, v21_35, v22_35, v23_35, v25_35, v36_35, v37_35, v38_35, v39_35, v40_35, v45_35, v46_35, v47_35, v48_35, y65_s0, x38, v53_35, v55_35, rfl, hv0_35, hv2_35, hg2_35, hv3_35, hg3_35, hv4_35, hg4_35, hv5_35, hg5_35, hv6_35, hg6_35, hv8_35, hg8_35, hv9_35, hg9_35, hv12_35, hv13_35, hg13_35, hv14_35, hg14_35, (In.mono hb37 (by decide) (by decide)), hg15_35, hv17_35, hg17_35, hv20_35, hg20_35, hv23_35, hg23_35, hv25_35, hg25_35, hv36_35, hg36_35, hv47_35, hg47_35, hv48_35, hg48_35, hv53_35, hg53_35, hv55_35, hg55_35, hrel0_35⟩
            exact hJ68 zz29 _ _ _ _ hP hD hS (TI.cast hT (by funext q; by_cases hq0 : q = 18; (subst hq0; rfl); simp only [gset, if_neg hq0])) hfr (lv_sub hl [0, 1] rfl)
          refine lv_icmp_ne (tgt := 61) hx hb dX11_findsStarts_54 (by decide) (fun c45 => ?_) (fun c45 => ?_)
          ·
            have ocm1 : ((-1) : Int32).toInt = (-1) := by decide
            have cc46 : v50_35.toInt ≠ ((-1) : Int32).toInt := i32_ne c45
            refine lv_aload_n hx hb dX11_findsStarts_61 rfl (lv_at hl 0 rfl) ?_
            refine pl_get (v := .int v50_35) hx hb hts (fun w h => mT (inX11 w h)) hown hG.1 hP (hst.1 255 (by decide)) hf40 rfl 50 (by decide) (hts _ (mT wg_1386)) (fun _ h => h) rfl dX11_findsStarts_62 ?_
            exact hJ65 v50_35 _ _ _ (In.full v50_35) hP hD hS (lv_sub hl [0, 1] rfl)
          ·
            have ocm1 : ((-1) : Int32).toInt = (-1) := by decide
            have cc47 : v50_35.toInt = ((-1) : Int32).toInt := congrArg Int32.toInt c45
            have hb48 : In v50_35 (-1) (-1) := In.eq1 (In.full v50_35) (⟨by decide, by decide⟩ : In (-1) (-1) (-1)) cc47 (by decide) (by decide)
            refine lv_iload_n hx hb dX11_findsStarts_57 rfl (lv_at hl 1 rfl) ?_
            refine lv_goto (tgt := 65) hx hb dX11_findsStarts_58 (by decide) ?_
            exact hJ65 y12_l1 _ _ _ (In.mono hb20 (by decide) (by decide)) hP hD hS (lv_sub hl [0, 1] rfl)
        ·
          have ocm1 : ((-1) : Int32).toInt = (-1) := by decide
          have cc49 : r24.toInt = ((-1) : Int32).toInt := congrArg Int32.toInt c33
          have hb50 : In r24 (-1) (-1) := In.eq1 (In.full r24) (⟨by decide, by decide⟩ : In (-1) (-1) (-1)) cc49 (by decide) (by decide)
          refine lv_goto (tgt := 68) hx hb dX11_findsStarts_35 (by decide) ?_
          exact hJ68 zz29 _ _ _ _ hP hD hS (TI.cast hT (by funext q; by_cases hq0 : q = 18; (subst hq0; rfl); simp only [gset, if_neg hq0])) hfr (lv_sub hl [0, 1] rfl)
  exact hJ12 ((2147483647 - (0 : Int32).toInt).toNat + 1) (th 18) 0 _ _ _ _ (⟨by decide, by decide⟩ : In 0 0 2147483647) hP hD hS (TI.cast hT (by funext q; by_cases hq0 : q = 18; (subst hq0; rfl); simp only [gset, if_neg hq0])) hfr (lv_sub hl [1, 0] rfl) (msI _)

abbrev rm_X11_brokenStarts : Room := { frames := 8, cells := 0, slots := 0, locals := 191 }
abbrev po_X11_brokenStarts (g : GG) (ad : Nat → Nat) (th : Nat → Int) (L : List Nat) (f : HP) (z1 : Int32) : Int32 → (List Nat × HP) → Prop := fun r u => u.1 = L ∧ (∃ th' : Nat → Int, (MI th' ∧ SBM th th') ∧ TI g ad th' u.2) ∧ (∀ b, b ≠ (ad 255) → b ≠ (ad 265) → b ≠ (ad 266) → b ≠ (ad 267) → b ≠ (ad 268) → b ≠ (ad 269) → b ≠ (ad 270) → b ≠ (ad 260) → b ≠ (ad 261) → b ≠ (ad 262) → b ≠ (ad 263) → b ≠ (ad 264) → u.2 b = f b)
set_option maxHeartbeats 4000000 in
set_option maxRecDepth 100000 in
theorem s_X11_brokenStarts (l : Launch) (g : GG) (ad : Nat → Nat) (th : Nat → Int) (L : List Nat) (f : HP) (sz : Nat) (z1 : Int32) (hst : ST ad L) (hT : TI g ad th f) (hM : MI th) : MtI l g yX11_brokenStarts cX11_brokenStarts 2 (some .int) rm_X11_brokenStarts [.ref (ad 255), .int z1] L f sz (po_X11_brokenStarts g ad th L f z1) := by
  refine MtI.of (by decide +kernel) (Nat.le_of_ble_eq_true rfl) ?_
  intro p e s m below meth c A hEn hP hD hS ls hl
  obtain ⟨hx, hb, hr, hml, hown, hlocks, hts, hG, hA, hE, hnm⟩ := hEn
  have hown : s.vm.findClass "RulerWordModel" = some m.cls := hown
  have hl : lv_has ls 2 [(0, .ref (ad 255)), (1, .int z1)] := hl
  have hfr : (∀ b, b ≠ (ad 255) → b ≠ (ad 265) → b ≠ (ad 266) → b ≠ (ad 267) → b ≠ (ad 268) → b ≠ (ad 269) → b ≠ (ad 270) → b ≠ (ad 260) → b ≠ (ad 261) → b ≠ (ad 262) → b ≠ (ad 263) → b ≠ (ad 264) → f b = f b) := fun b z0_ z1_ z2_ z3_ z4_ z5_ z6_ z7_ z8_ z9_ z10_ z11_ => rfl
  have hM0 := hM
  obtain ⟨m1, m2, m3, m4, m5, m6, m7, m8, m9, m10⟩ := hM0
  have m20 := mi20 m2 m3
  refine lv_aload_n hx hb dX11_brokenStarts_0 rfl (lv_at hl 0 rfl) ?_
  refine lv_iconst (v := 0) hx hb dX11_brokenStarts_1 (by decide) ?_
  refine M0e hT (fun v0_1 v2_1 v3_1 v4_1 v5_1 v6_1 v8_1 v9_1 v12_1 v13_1 v14_1 v15_1 v16_1 v17_1 v18_1 v19_1 v20_1 v21_1 v22_1 v23_1 v25_1 v36_1 v37_1 v38_1 v39_1 v40_1 v45_1 v46_1 v47_1 v48_1 v50_1 v51_1 v53_1 v55_1 hf2 hv0_1 hv2_1 hg2_1 hv3_1 hg3_1 hv4_1 hg4_1 hv5_1 hg5_1 hv6_1 hg6_1 hv8_1 hg8_1 hv9_1 hg9_1 hv12_1 hv13_1 hg13_1 hv14_1 hg14_1 hv15_1 hg15_1 hv17_1 hg17_1 hv20_1 hg20_1 hv23_1 hg23_1 hv25_1 hg25_1 hv36_1 hg36_1 hv47_1 hg47_1 hv48_1 hg48_1 hv53_1 hg53_1 hv55_1 hg55_1 hrel0_1 => ?_)
  have hg15_1 : v15_1.toInt = th 11 := hg15_1
  have hg17_1 : v17_1.toInt = th 12 := hg17_1
  have hg20_1 : v20_1.toInt = th 14 := hg20_1
  refine pl_put (ty := .int) (v := .int 0) (fs' := [.int 0, .ref (ad 256), .int v2_1, .int v3_1, .int v4_1, .int v5_1, .int v6_1, .ref (ad 257), .int v8_1, .int v9_1, .ref (ad 258), .ref (ad 259), .int v12_1, .int v13_1, .int v14_1, .int v15_1, .int v16_1, .int v17_1, .int v18_1, .int v19_1, .int v20_1, .long v21_1, .long v22_1, .int v23_1, .ref (ad 260), .int v25_1, .ref (ad 261), .ref (ad 262), .ref (ad 263), .ref (ad 264), .ref (ad 265), .ref (ad 266), .ref (ad 267), .ref (ad 268), .ref (ad 269), .ref (ad 270), .int v36_1, .int v37_1, .int v38_1, .int v39_1, .int v40_1, .ref (ad 271), .ref (ad 272), .ref (ad 273), .ref (ad 274), .long v45_1, .long v46_1, .int v47_1, .int v48_1, .ref (ad 275), .int v50_1, .int v51_1, .ref (ad 276), .int v53_1, .ref (ad 277), .int v55_1]) hx hb hts (fun w h => mT (inX11 w h)) tyX11 tyX11_ok nmX11 hown hG.1 hP hD hS (hst.1 255 (by decide)) hf2 rfl 0 (by decide) (hts _ (mT wg_1336)) (fun _ h => h) rfl (by decide +kernel) (rfl) (rfl) (Nat.le_of_ble_eq_true rfl) rfl dX11_brokenStarts_2 (fun H locs f3 hf4 ho5 hP hD hS => ?_)
  have hfr : (∀ b, b ≠ (ad 255) → b ≠ (ad 265) → b ≠ (ad 266) → b ≠ (ad 267) → b ≠ (ad 268) → b ≠ (ad 269) → b ≠ (ad 270) → b ≠ (ad 260) → b ≠ (ad 261) → b ≠ (ad 262) → b ≠ (ad 263) → b ≠ (ad 264) → f3 b = f b) := fun b z0_ z1_ z2_ z3_ z4_ z5_ z6_ z7_ z8_ z9_ z10_ z11_ => (ho5 b z0_).trans (hfr b z0_ z1_ z2_ z3_ z4_ z5_ z6_ z7_ z8_ z9_ z10_ z11_)
  refine lv_iload_n hx hb dX11_brokenStarts_5 rfl (lv_at hl 1 rfl) ?_
  refine lv_i2l hx hb dX11_brokenStarts_6 rfl ?_
  refine lv_lconst (v := 0) hx hb dX11_brokenStarts_7 (by decide) ?_
  refine lv_lconst (v := 1) hx hb dX11_brokenStarts_8 (by decide) ?_
  have hT := TI.updM hT hst (k := 0) (by decide) hf4 ho5 ⟨0, v2_1, v3_1, v4_1, v5_1, v6_1, v8_1, v9_1, v12_1, v13_1, v14_1, v15_1, v16_1, v17_1, v18_1, v19_1, v20_1, v21_1, v22_1, v23_1, v25_1, v36_1, v37_1, v38_1, v39_1, v40_1, v45_1, v46_1, v47_1, v48_1, v50_1, v51_1, v53_1, v55_1, rfl, (⟨by decide, by decide⟩ : In 0 0 1), hv2_1, hg2_1, hv3_1, hg3_1, hv4_1, hg4_1, hv5_1, hg5_1, hv6_1, hg6_1, hv8_1, hg8_1, hv9_1, hg9_1, hv12_1, hv13_1, hg13_1, hv14_1, hg14_1, hv15_1, hg15_1, hv17_1, hg17_1, hv20_1, hg20_1, hv23_1, hg23_1, hv25_1, hg25_1, hv36_1, hg36_1, hv47_1, hg47_1, hv48_1, hg48_1, hv53_1, hg53_1, hv55_1, hg55_1, hrel0_1⟩
  refine call_i (run_S (rm := rm_X11_isIn) hx hb hml hown hts (s_X11_isIn l g ad th _ _ _ (z1.toInt64) 0 1 hst hT ) cS_X11_isIn wg_1581 ⟨Nat.le_of_ble_eq_true rfl, Nat.le_of_ble_eq_true rfl⟩ hG hE hA hP hD hS rfl hl.1 (As := [.long (z1.toInt64), .long 0, .long 1]) (rest := []) rfl (Nat.le_of_ble_eq_true rfl) dX11_brokenStarts_9 ⟨Nat.le_of_ble_eq_true rfl, Nat.le_of_ble_eq_true rfl⟩) hA hD hS (fun r6 L7 f8 H locs hp9 hP hD hS => ?_)
  obtain ⟨eL10L, eL10T, eL10R, eL10X0, eL10X1⟩ := hp9
  have eL10L : L7 = L := eL10L
  have eL10T : f8 = f3 := eL10T
  rw [eL10L, eL10T] at hP hD
  have eL10R : In r6 0 1 := eL10R
  have hii11 : r6.toInt = 0 ∨ (0 ≤ z1.toInt ∧ z1.toInt ≤ 1) := by have z := eL10X0; rw [i2l_t z1, (by decide : (0 : Int64).toInt = 0), (by decide : (1 : Int64).toInt = 1)] at z; exact z
  have hii11w : ¬ r6 = 0 → In z1 0 1 := fun c => by have c2 := i32_ne c; have e0 : (0 : Int32).toInt = 0 := (by decide); exact ⟨by omega, by omega⟩
  have hJ22 : ∀ (zg22_zl : Int) (zg22_zg : Int) (zg22_zs : Int) (f_22 : HP) (H : Heap) (locs : List Loc) (ls : Array Slot), va_P g.1 vwCl (va_pl L f_22) H → va_D A (va_pl L f_22) → va_S A s.heap H locs → TI g ad (gset (gset (gset th 14 zg22_zl) 18 zg22_zg) 44 zg22_zs) f_22 → (∀ b, b ≠ (ad 255) → b ≠ (ad 265) → b ≠ (ad 266) → b ≠ (ad 267) → b ≠ (ad 268) → b ≠ (ad 269) → b ≠ (ad 270) → b ≠ (ad 260) → b ≠ (ad 261) → b ≠ (ad 262) → b ≠ (ad 263) → b ≠ (ad 264) → f_22 b = f b) → lv_has ls 2 [(0, .ref (ad 255)), (1, .int z1)] → W p l e rm_X11_brokenStarts s m [.ref (ad 255), .int z1].toArray below meth c H locs 0 0 (MQ below (va_Qi (po_X11_brokenStarts g ad th L f z1) (PstB g A) A) [.ref (ad 255), .int z1].toArray s rm_X11_brokenStarts.cells rm_X11_brokenStarts.slots A) (F0 m 22 ls []) := by
    intro zg22_zl zg22_zg zg22_zs f_22 H locs ls hP hD hS hT hfr hl
    refine lv_bipush (v := (-2)) hx hb dX11_brokenStarts_22 (by decide) ?_
    exact ret_i (ty := .int) hx hb hr hlocks (rfl) hP hD hS (Nat.le_of_ble_eq_true rfl) (Nat.le_of_ble_eq_true rfl) (⟨rfl, ⟨(gset (gset (gset th 14 zg22_zl) 18 zg22_zg) 44 zg22_zs), ⟨(show MI (gset (gset (gset th 14 zg22_zl) 18 zg22_zg) 44 zg22_zs) from ⟨m1, m2, (show th 20 = (th 12) * rnd (th 10) from m3), m4, m5, m6, m7, m8, m9, m10⟩), (SBM.set (k := 44) (SBM.set (k := 18) (SBM.set (k := 14) (SBM.rf th) (by decide)) (by decide)) (by decide))⟩, hT⟩, hfr⟩) dX11_brokenStarts_24
  refine lv_if_eq (tgt := 22) hx hb dX11_brokenStarts_12 (by decide) (fun c12 => ?_) (fun c12 => ?_)
  ·
    have oc0 : (0 : Int32).toInt = 0 := by decide
    have cc13 : r6.toInt = (0 : Int32).toInt := congrArg Int32.toInt c12
    have hb14 : In r6 0 0 := In.eq1 eL10R (⟨by decide, by decide⟩ : In 0 0 0) cc13 (by decide) (by decide)
    exact hJ22 (th 14) (th 18) (th 44) _ _ _ _ hP hD hS (TI.cast hT (by funext q; by_cases hq0 : q = 14; (subst hq0; rfl); by_cases hq1 : q = 18; (subst hq1; rfl); by_cases hq2 : q = 44; (subst hq2; rfl); simp only [gset, if_neg hq0, if_neg hq1, if_neg hq2])) hfr (lv_sub hl [0, 1] rfl)
  ·
    have oc0 : (0 : Int32).toInt = 0 := by decide
    have cc15 : r6.toInt ≠ (0 : Int32).toInt := i32_ne c12
    have hb16 : In r6 1 1 := In.ne1 eL10R (⟨by decide, by decide⟩ : In 0 0 0) cc15 (by decide) (by decide)
    have hb17 : In z1 0 1 := In.both (hii11w c12) (In.full z1) (by decide) (by decide)
    refine lv_aload_n hx hb dX11_brokenStarts_15 rfl (lv_at hl 0 rfl) ?_
    refine call_i (run_V (rm := rm_X11_canSearch) hx hb hml hown hts (s_X11_canSearch l g ad th _ _ _  hst hT (show MI th from hM)) cV_X11_canSearch wg_1834 ⟨Nat.le_of_ble_eq_true rfl, Nat.le_of_ble_eq_true rfl⟩ hG hE hA hP hD hS (hst.1 255 (by decide)) hf4 rfl rfl hl.1 (As := []) (rest := []) rfl (Nat.le_of_ble_eq_true rfl) dX11_brokenStarts_16 ⟨Nat.le_of_ble_eq_true rfl, Nat.le_of_ble_eq_true rfl⟩) hA hD hS (fun r18 L19 f20 H locs hp21 hP hD hS => ?_)
    obtain ⟨eL22L, eL22T, eL22F, eL22R⟩ := hp21
    have eL22L : L19 = L := eL22L
    rw [eL22L] at hP hD
    obtain ⟨zz23, zz24, zz25, hzz23, eL22T⟩ := eL22T
    have hT : TI g ad (gset (gset (gset th 14 zz23) 18 zz24) 44 zz25) f20 := eL22T
    have eL22F : ∀ b, b ≠ (ad 255) → b ≠ (ad 265) → b ≠ (ad 266) → b ≠ (ad 267) → b ≠ (ad 269) → b ≠ (ad 260) → b ≠ (ad 261) → b ≠ (ad 262) → b ≠ (ad 263) → b ≠ (ad 264) → f20 b = f3 b := eL22F
    have hfr : (∀ b, b ≠ (ad 255) → b ≠ (ad 265) → b ≠ (ad 266) → b ≠ (ad 267) → b ≠ (ad 268) → b ≠ (ad 269) → b ≠ (ad 270) → b ≠ (ad 260) → b ≠ (ad 261) → b ≠ (ad 262) → b ≠ (ad 263) → b ≠ (ad 264) → f20 b = f b) := fun b z0_ z1_ z2_ z3_ z4_ z5_ z6_ z7_ z8_ z9_ z10_ z11_ => (eL22F b z0_ z1_ z2_ z3_ z5_ z7_ z8_ z9_ z10_ z11_).trans (hfr b z0_ z1_ z2_ z3_ z4_ z5_ z6_ z7_ z8_ z9_ z10_ z11_)
    have eL22R : In r18 0 1 := eL22R
    refine lv_if_ne (tgt := 25) hx hb dX11_brokenStarts_19 (by decide) (fun c26 => ?_) (fun c26 => ?_)
    ·
      have oc0 : (0 : Int32).toInt = 0 := by decide
      have cc27 : r18.toInt ≠ (0 : Int32).toInt := i32_ne c26
      have hb28 : In r18 1 1 := In.ne1 eL22R (⟨by decide, by decide⟩ : In 0 0 0) cc27 (by decide) (by decide)
      refine lv_aload_n hx hb dX11_brokenStarts_25 rfl (lv_at hl 0 rfl) ?_
      refine M0e hT (fun v0_29 v2_29 v3_29 v4_29 v5_29 v6_29 v8_29 v9_29 v12_29 v13_29 v14_29 v15_29 v16_29 v17_29 v18_29 v19_29 v20_29 v21_29 v22_29 v23_29 v25_29 v36_29 v37_29 v38_29 v39_29 v40_29 v45_29 v46_29 v47_29 v48_29 v50_29 v51_29 v53_29 v55_29 hf30 hv0_29 hv2_29 hg2_29 hv3_29 hg3_29 hv4_29 hg4_29 hv5_29 hg5_29 hv6_29 hg6_29 hv8_29 hg8_29 hv9_29 hg9_29 hv12_29 hv13_29 hg13_29 hv14_29 hg14_29 hv15_29 hg15_29 hv17_29 hg17_29 hv20_29 hg20_29 hv23_29 hg23_29 hv25_29 hg25_29 hv36_29 hg36_29 hv47_29 hg47_29 hv48_29 hg48_29 hv53_29 hg53_29 hv55_29 hg55_29 hrel0_29 => ?_)
      have hg15_29 : v15_29.toInt = th 11 := hg15_29
      have hg17_29 : v17_29.toInt = th 12 := hg17_29
      have hg20_29 : v20_29.toInt = zz23 := hg20_29
      refine call_v (run_V (rm := rm_X11_findsStarts) hx hb hml hown hts (s_X11_findsStarts l g ad (gset (gset (gset th 14 zz23) 18 zz24) 44 zz25) _ _ _  hst hT (show 3 ≤ th 11 by omega)) cV_X11_findsStarts wg_1854 ⟨Nat.le_of_ble_eq_true rfl, Nat.le_of_ble_eq_true rfl⟩ hG hE hA hP hD hS (hst.1 255 (by decide)) hf30 rfl rfl hl.1 (As := []) (rest := []) rfl (Nat.le_of_ble_eq_true rfl) dX11_brokenStarts_26 ⟨Nat.le_of_ble_eq_true rfl, Nat.le_of_ble_eq_true rfl⟩) hA hD hS (fun L32 f33 H locs hp34 hP hD hS => ?_)
      obtain ⟨eL35L, eL35T, eL35F⟩ := hp34
      have eL35L : L32 = L := eL35L
      rw [eL35L] at hP hD
      obtain ⟨zz36, hzz36, eL35T⟩ := eL35T
      have hzz36 : True := hzz36
      have hT : TI g ad (gset (gset (gset (gset th 14 zz23) 18 zz24) 44 zz25) 18 zz36) f33 := eL35T
      have hT : TI g ad (gset (gset (gset th 14 zz23) 44 zz25) 18 zz36) f33 := TI.cast hT (by funext q; by_cases hq0 : q = 18; (subst hq0; rfl); by_cases hq1 : q = 44; (subst hq1; rfl); by_cases hq2 : q = 14; (subst hq2; rfl); simp only [gset, if_neg hq0, if_neg hq1, if_neg hq2])
      have eL35F : ∀ b, b ≠ (ad 255) → b ≠ (ad 265) → b ≠ (ad 266) → b ≠ (ad 267) → b ≠ (ad 268) → b ≠ (ad 269) → b ≠ (ad 270) → b ≠ (ad 261) → b ≠ (ad 262) → b ≠ (ad 263) → b ≠ (ad 264) → f33 b = f20 b := eL35F
      have hfr : (∀ b, b ≠ (ad 255) → b ≠ (ad 265) → b ≠ (ad 266) → b ≠ (ad 267) → b ≠ (ad 268) → b ≠ (ad 269) → b ≠ (ad 270) → b ≠ (ad 260) → b ≠ (ad 261) → b ≠ (ad 262) → b ≠ (ad 263) → b ≠ (ad 264) → f33 b = f b) := fun b z0_ z1_ z2_ z3_ z4_ z5_ z6_ z7_ z8_ z9_ z10_ z11_ => (eL35F b z0_ z1_ z2_ z3_ z4_ z5_ z6_ z8_ z9_ z10_ z11_).trans (hfr b z0_ z1_ z2_ z3_ z4_ z5_ z6_ z7_ z8_ z9_ z10_ z11_)
      refine lv_iload_n hx hb dX11_brokenStarts_29 rfl (lv_at hl 1 rfl) ?_
      refine lv_if_ne (tgt := 40) hx hb dX11_brokenStarts_30 (by decide) (fun c37 => ?_) (fun c37 => ?_)
      ·
        have oc0 : (0 : Int32).toInt = 0 := by decide
        have cc38 : z1.toInt ≠ (0 : Int32).toInt := i32_ne c37
        have hb39 : In z1 1 1 := In.ne1 hb17 (⟨by decide, by decide⟩ : In 0 0 0) cc38 (by decide) (by decide)
        refine lv_aload_n hx hb dX11_brokenStarts_40 rfl (lv_at hl 0 rfl) ?_
        refine M0e hT (fun v0_40 v2_40 v3_40 v4_40 v5_40 v6_40 v8_40 v9_40 v12_40 v13_40 v14_40 v15_40 v16_40 v17_40 v18_40 v19_40 v20_40 v21_40 v22_40 v23_40 v25_40 v36_40 v37_40 v38_40 v39_40 v40_40 v45_40 v46_40 v47_40 v48_40 v50_40 v51_40 v53_40 v55_40 hf41 hv0_40 hv2_40 hg2_40 hv3_40 hg3_40 hv4_40 hg4_40 hv5_40 hg5_40 hv6_40 hg6_40 hv8_40 hg8_40 hv9_40 hg9_40 hv12_40 hv13_40 hg13_40 hv14_40 hg14_40 hv15_40 hg15_40 hv17_40 hg17_40 hv20_40 hg20_40 hv23_40 hg23_40 hv25_40 hg25_40 hv36_40 hg36_40 hv47_40 hg47_40 hv48_40 hg48_40 hv53_40 hg53_40 hv55_40 hg55_40 hrel0_40 => ?_)
        have hg15_40 : v15_40.toInt = th 11 := hg15_40
        have hg17_40 : v17_40.toInt = th 12 := hg17_40
        have hg20_40 : v20_40.toInt = zz23 := hg20_40
        refine pl_get (v := .int v50_40) hx hb hts (fun w h => mT (inX11 w h)) hown hG.1 hP (hst.1 255 (by decide)) hf41 rfl 50 (by decide) (hts _ (mT wg_1386)) (fun _ h => h) rfl dX11_brokenStarts_41 ?_
        exact ret_i (ty := .int) hx hb hr hlocks (rfl) hP hD hS (Nat.le_of_ble_eq_true rfl) (Nat.le_of_ble_eq_true rfl) (⟨rfl, ⟨(gset (gset (gset th 14 zz23) 44 zz25) 18 zz36), ⟨(show MI (gset (gset (gset th 14 zz23) 44 zz25) 18 zz36) from ⟨m1, m2, (show th 20 = (th 12) * rnd (th 10) from m3), m4, m5, m6, m7, m8, m9, m10⟩), (SBM.set (k := 18) (SBM.set (k := 44) (SBM.set (k := 14) (SBM.rf th) (by decide)) (by decide)) (by decide))⟩, hT⟩, hfr⟩) dX11_brokenStarts_44
      ·
        have oc0 : (0 : Int32).toInt = 0 := by decide
        have cc42 : z1.toInt = (0 : Int32).toInt := congrArg Int32.toInt c37
        have hb43 : In z1 0 0 := In.eq1 hb17 (⟨by decide, by decide⟩ : In 0 0 0) cc42 (by decide) (by decide)
        refine lv_aload_n hx hb dX11_brokenStarts_33 rfl (lv_at hl 0 rfl) ?_
        refine M0e hT (fun v0_44 v2_44 v3_44 v4_44 v5_44 v6_44 v8_44 v9_44 v12_44 v13_44 v14_44 v15_44 v16_44 v17_44 v18_44 v19_44 v20_44 v21_44 v22_44 v23_44 v25_44 v36_44 v37_44 v38_44 v39_44 v40_44 v45_44 v46_44 v47_44 v48_44 v50_44 v51_44 v53_44 v55_44 hf45 hv0_44 hv2_44 hg2_44 hv3_44 hg3_44 hv4_44 hg4_44 hv5_44 hg5_44 hv6_44 hg6_44 hv8_44 hg8_44 hv9_44 hg9_44 hv12_44 hv13_44 hg13_44 hv14_44 hg14_44 hv15_44 hg15_44 hv17_44 hg17_44 hv20_44 hg20_44 hv23_44 hg23_44 hv25_44 hg25_44 hv36_44 hg36_44 hv47_44 hg47_44 hv48_44 hg48_44 hv53_44 hg53_44 hv55_44 hg55_44 hrel0_44 => ?_)
        have hg15_44 : v15_44.toInt = th 11 := hg15_44
        have hg17_44 : v17_44.toInt = th 12 := hg17_44
        have hg20_44 : v20_44.toInt = zz23 := hg20_44
        refine pl_get (v := .int v51_44) hx hb hts (fun w h => mT (inX11 w h)) hown hG.1 hP (hst.1 255 (by decide)) hf45 rfl 51 (by decide) (hts _ (mT wg_1387)) (fun _ h => h) rfl dX11_brokenStarts_34 ?_
        refine lv_goto (tgt := 44) hx hb dX11_brokenStarts_37 (by decide) ?_
        exact ret_i (ty := .int) hx hb hr hlocks (rfl) hP hD hS (Nat.le_of_ble_eq_true rfl) (Nat.le_of_ble_eq_true rfl) (⟨rfl, ⟨(gset (gset (gset th 14 zz23) 44 zz25) 18 zz36), ⟨(show MI (gset (gset (gset th 14 zz23) 44 zz25) 18 zz36) from ⟨m1, m2, (show th 20 = (th 12) * rnd (th 10) from m3), m4, m5, m6, m7, m8, m9, m10⟩), (SBM.set (k := 18) (SBM.set (k := 44) (SBM.set (k := 14) (SBM.rf th) (by decide)) (by decide)) (by decide))⟩, hT⟩, hfr⟩) dX11_brokenStarts_44
    ·
      have oc0 : (0 : Int32).toInt = 0 := by decide
      have cc46 : r18.toInt = (0 : Int32).toInt := congrArg Int32.toInt c26
      have hb47 : In r18 0 0 := In.eq1 eL22R (⟨by decide, by decide⟩ : In 0 0 0) cc46 (by decide) (by decide)
      exact hJ22 zz23 zz24 zz25 _ _ _ _ hP hD hS (TI.cast hT (by funext q; by_cases hq0 : q = 44; (subst hq0; rfl); by_cases hq1 : q = 18; (subst hq1; rfl); by_cases hq2 : q = 14; (subst hq2; rfl); simp only [gset, if_neg hq0, if_neg hq1, if_neg hq2])) hfr (lv_sub hl [0, 1] rfl)

abbrev rm_X11_breaksSome : Room := { frames := 7, cells := 0, slots := 0, locals := 170 }
abbrev po_X11_breaksSome (g : GG) (ad : Nat → Nat) (th : Nat → Int) (L : List Nat) (f : HP)  : Int32 → (List Nat × HP) → Prop := fun r u => u.1 = L ∧ (∃ z18 : Int, (True) ∧ TI g ad (gset th 18 z18) u.2) ∧ (∀ b, b ≠ (ad 255) → b ≠ (ad 265) → b ≠ (ad 266) → b ≠ (ad 267) → b ≠ (ad 268) → b ≠ (ad 269) → b ≠ (ad 270) → b ≠ (ad 261) → b ≠ (ad 262) → b ≠ (ad 263) → b ≠ (ad 264) → u.2 b = f b) ∧ In r 0 1
set_option maxHeartbeats 4000000 in
set_option maxRecDepth 100000 in
theorem s_X11_breaksSome (l : Launch) (g : GG) (ad : Nat → Nat) (th : Nat → Int) (L : List Nat) (f : HP) (sz : Nat)  (hst : ST ad L) (hT : TI g ad th f) (hn3 : 3 ≤ th 11) : MtI l g yX11_breaksSome cX11_breaksSome 2 (some .boolean) rm_X11_breaksSome [.ref (ad 255)] L f sz (po_X11_breaksSome g ad th L f ) := by
  refine MtI.of (by decide +kernel) (Nat.le_of_ble_eq_true rfl) ?_
  intro p e s m below meth c A hEn hP hD hS ls hl
  obtain ⟨hx, hb, hr, hml, hown, hlocks, hts, hG, hA, hE, hnm⟩ := hEn
  have hown : s.vm.findClass "RulerWordModel" = some m.cls := hown
  have hl : lv_has ls 2 [(0, .ref (ad 255))] := hl
  have hfr : (∀ b, b ≠ (ad 255) → b ≠ (ad 265) → b ≠ (ad 266) → b ≠ (ad 267) → b ≠ (ad 268) → b ≠ (ad 269) → b ≠ (ad 270) → b ≠ (ad 261) → b ≠ (ad 262) → b ≠ (ad 263) → b ≠ (ad 264) → f b = f b) := fun b z0_ z1_ z2_ z3_ z4_ z5_ z6_ z7_ z8_ z9_ z10_ => rfl
  refine lv_iconst (v := 0) hx hb dX11_breaksSome_0 (by decide) ?_
  refine lv_istore_n (lv' := [(1, .int 0), (0, .ref (ad 255))]) hx hb dX11_breaksSome_1 rfl hl (by decide) rfl (fun ls hl => ?_)
  have hJ2 : ∀ (k2 : Nat) (zg2_zg : Int) (y2_l1 : Int32) (f_2 : HP) (H : Heap) (locs : List Loc) (ls : Array Slot), In y2_l1 0 2147483647 → va_P g.1 vwCl (va_pl L f_2) H → va_D A (va_pl L f_2) → va_S A s.heap H locs → TI g ad (gset th 18 zg2_zg) f_2 → (∀ b, b ≠ (ad 255) → b ≠ (ad 265) → b ≠ (ad 266) → b ≠ (ad 267) → b ≠ (ad 268) → b ≠ (ad 269) → b ≠ (ad 270) → b ≠ (ad 261) → b ≠ (ad 262) → b ≠ (ad 263) → b ≠ (ad 264) → f_2 b = f b) → lv_has ls 2 [(0, .ref (ad 255)), (1, .int y2_l1)] → 2147483647 - y2_l1.toInt < ((k2 : Nat) : Int) → W p l e rm_X11_breaksSome s m [.ref (ad 255)].toArray below meth c H locs 0 0 (MQ below (va_Qi (po_X11_breaksSome g ad th L f ) (PstB g A) A) [.ref (ad 255)].toArray s rm_X11_breaksSome.cells rm_X11_breaksSome.slots A) (F0 m 2 ls []) := by
    intro k2
    induction k2 with
    | zero =>
      intro zg2_zg y2_l1 f_2 H locs ls hy2_l1 hP hD hS hT hfr hl hmz2
      exact ms0 hy2_l1 hmz2
    | succ k2 ih2 =>
      intro zg2_zg y2_l1 f_2 H locs ls hy2_l1 hP hD hS hT hfr hl hmz2
      refine lv_iload_n hx hb dX11_breaksSome_2 rfl (lv_at hl 1 rfl) ?_
      refine lv_iconst (v := 1) hx hb dX11_breaksSome_3 (by decide) ?_
      refine lv_aload_n hx hb dX11_breaksSome_4 rfl (lv_at hl 0 rfl) ?_
      refine M0e hT (fun v0_1 v2_1 v3_1 v4_1 v5_1 v6_1 v8_1 v9_1 v12_1 v13_1 v14_1 v15_1 v16_1 v17_1 v18_1 v19_1 v20_1 v21_1 v22_1 v23_1 v25_1 v36_1 v37_1 v38_1 v39_1 v40_1 v45_1 v46_1 v47_1 v48_1 v50_1 v51_1 v53_1 v55_1 hf2 hv0_1 hv2_1 hg2_1 hv3_1 hg3_1 hv4_1 hg4_1 hv5_1 hg5_1 hv6_1 hg6_1 hv8_1 hg8_1 hv9_1 hg9_1 hv12_1 hv13_1 hg13_1 hv14_1 hg14_1 hv15_1 hg15_1 hv17_1 hg17_1 hv20_1 hg20_1 hv23_1 hg23_1 hv25_1 hg25_1 hv36_1 hg36_1 hv47_1 hg47_1 hv48_1 hg48_1 hv53_1 hg53_1 hv55_1 hg55_1 hrel0_1 => ?_)
      have hg15_1 : v15_1.toInt = th 11 := hg15_1
      have hg17_1 : v17_1.toInt = th 12 := hg17_1
      have hg20_1 : v20_1.toInt = th 14 := hg20_1
      have hb3 : In v15_1 3 9 := ⟨by rw [hg15_1]; exact hn3, hv15_1.2⟩
      refine pl_get (v := .int v15_1) hx hb hts (fun w h => mT (inX11 w h)) hown hG.1 hP (hst.1 255 (by decide)) hf2 rfl 15 (by decide) (hts _ (mT wg_1351)) (fun _ h => h) rfl dX11_breaksSome_5 ?_
      refine lv_ishl hx hb dX11_breaksSome_8 ?_
      refine lv_topi (fun x4 ex4 => ?_)
      have hb5 : In x4 8 512 := ex4 ▸ In.shl (⟨by decide, by decide⟩ : In 1 1 1) hb3 (by decide) (by decide) (by decide) (by decide) (by decide) (by decide)
      refine lv_icmp_ge (tgt := 33) hx hb dX11_breaksSome_9 (by decide) (fun c6 => ?_) (fun c6 => ?_)
      ·
        have cc7 : x4.toInt ≤ y2_l1.toInt := i32_le.mp c6
        have hb8 : In y2_l1 8 2147483647 := In.ge1 hy2_l1 hb5 cc7 (by decide) (by decide)
        refine lv_iconst (v := 0) hx hb dX11_breaksSome_33 (by decide) ?_
        exact ret_i (ty := .boolean) hx hb hr hlocks (rfl) hP hD hS (Nat.le_of_ble_eq_true rfl) (Nat.le_of_ble_eq_true rfl) (⟨rfl, ⟨zg2_zg, trivial, TI.cast hT (by funext q; by_cases hq0 : q = 18; (subst hq0; rfl); simp only [gset, if_neg hq0])⟩, hfr, (⟨by decide, by decide⟩ : In 0 0 1)⟩) dX11_breaksSome_34
      ·
        have cc9 : y2_l1.toInt < x4.toInt := i32_nle c6
        have hb10 : In y2_l1 0 511 := In.lt1 hy2_l1 hb5 cc9 (by decide) (by decide)
        refine lv_aload_n hx hb dX11_breaksSome_12 rfl (lv_at hl 0 rfl) ?_
        refine lv_iload_n hx hb dX11_breaksSome_13 rfl (lv_at hl 1 rfl) ?_
        refine pl_put (ty := .int) (v := .int y2_l1) (fs' := [.int v0_1, .ref (ad 256), .int v2_1, .int v3_1, .int v4_1, .int v5_1, .int v6_1, .ref (ad 257), .int v8_1, .int v9_1, .ref (ad 258), .ref (ad 259), .int v12_1, .int v13_1, .int v14_1, .int v15_1, .int v16_1, .int v17_1, .int v18_1, .int y2_l1, .int v20_1, .long v21_1, .long v22_1, .int v23_1, .ref (ad 260), .int v25_1, .ref (ad 261), .ref (ad 262), .ref (ad 263), .ref (ad 264), .ref (ad 265), .ref (ad 266), .ref (ad 267), .ref (ad 268), .ref (ad 269), .ref (ad 270), .int v36_1, .int v37_1, .int v38_1, .int v39_1, .int v40_1, .ref (ad 271), .ref (ad 272), .ref (ad 273), .ref (ad 274), .long v45_1, .long v46_1, .int v47_1, .int v48_1, .ref (ad 275), .int v50_1, .int v51_1, .ref (ad 276), .int v53_1, .ref (ad 277), .int v55_1]) hx hb hts (fun w h => mT (inX11 w h)) tyX11 tyX11_ok nmX11 hown hG.1 hP hD hS (hst.1 255 (by decide)) hf2 rfl 19 (by decide) (hts _ (mT wg_1355)) (fun _ h => h) rfl (by decide +kernel) (rfl) (rfl) (Nat.le_of_ble_eq_true rfl) rfl dX11_breaksSome_14 (fun H locs f11 hf12 ho13 hP hD hS => ?_)
        have hfr : (∀ b, b ≠ (ad 255) → b ≠ (ad 265) → b ≠ (ad 266) → b ≠ (ad 267) → b ≠ (ad 268) → b ≠ (ad 269) → b ≠ (ad 270) → b ≠ (ad 261) → b ≠ (ad 262) → b ≠ (ad 263) → b ≠ (ad 264) → f11 b = f b) := fun b z0_ z1_ z2_ z3_ z4_ z5_ z6_ z7_ z8_ z9_ z10_ => (ho13 b z0_).trans (hfr b z0_ z1_ z2_ z3_ z4_ z5_ z6_ z7_ z8_ z9_ z10_)
        refine lv_aload_n hx hb dX11_breaksSome_17 rfl (lv_at hl 0 rfl) ?_
        have hT := TI.updM hT hst (k := 0) (by decide) hf12 ho13 ⟨v0_1, v2_1, v3_1, v4_1, v5_1, v6_1, v8_1, v9_1, v12_1, v13_1, v14_1, v15_1, v16_1, v17_1, v18_1, y2_l1, v20_1, v21_1, v22_1, v23_1, v25_1, v36_1, v37_1, v38_1, v39_1, v40_1, v45_1, v46_1, v47_1, v48_1, v50_1, v51_1, v53_1, v55_1, rfl, hv0_1, hv2_1, hg2_1, hv3_1, hg3_1, hv4_1, hg4_1, hv5_1, hg5_1, hv6_1, hg6_1, hv8_1, hg8_1, hv9_1, hg9_1, hv12_1, hv13_1, hg13_1, hv14_1, hg14_1, (In.mono hb3 (by decide) (by decide)), hg15_1, hv17_1, hg17_1, hv20_1, hg20_1, hv23_1, hg23_1, hv25_1, hg25_1, hv36_1, hg36_1, hv47_1, hg47_1, hv48_1, hg48_1, hv53_1, hg53_1, hv55_1, hg55_1, hrel0_1⟩
        refine call_i (run_V (rm := rm_X11_leastBroken) hx hb hml hown hts (s_X11_leastBroken l g ad (gset th 18 zg2_zg) _ _ _  hst hT hn3) cV_X11_leastBroken wg_1838 ⟨Nat.le_of_ble_eq_true rfl, Nat.le_of_ble_eq_true rfl⟩ hG hE hA hP hD hS (hst.1 255 (by decide)) hf12 rfl rfl hl.1 (As := []) (rest := []) rfl (Nat.le_of_ble_eq_true rfl) dX11_breaksSome_18 ⟨Nat.le_of_ble_eq_true rfl, Nat.le_of_ble_eq_true rfl⟩) hA hD hS (fun r14 L15 f16 H locs hp17 hP hD hS => ?_)
        obtain ⟨eL18L, eL18T, eL18F⟩ := hp17
        have eL18L : L15 = L := eL18L
        rw [eL18L] at hP hD
        obtain ⟨zz19, hzz19, eL18T⟩ := eL18T
        have hzz19 : True := hzz19
        have hT : TI g ad (gset (gset th 18 zg2_zg) 18 zz19) f16 := eL18T
        have hT : TI g ad (gset th 18 zz19) f16 := TI.cast hT (by funext q; by_cases hq0 : q = 18; (subst hq0; rfl); simp only [gset, if_neg hq0])
        have eL18F : ∀ b, b ≠ (ad 255) → b ≠ (ad 265) → b ≠ (ad 266) → b ≠ (ad 267) → b ≠ (ad 268) → b ≠ (ad 269) → b ≠ (ad 270) → b ≠ (ad 261) → b ≠ (ad 262) → b ≠ (ad 263) → b ≠ (ad 264) → f16 b = f11 b := eL18F
        have hfr : (∀ b, b ≠ (ad 255) → b ≠ (ad 265) → b ≠ (ad 266) → b ≠ (ad 267) → b ≠ (ad 268) → b ≠ (ad 269) → b ≠ (ad 270) → b ≠ (ad 261) → b ≠ (ad 262) → b ≠ (ad 263) → b ≠ (ad 264) → f16 b = f b) := fun b z0_ z1_ z2_ z3_ z4_ z5_ z6_ z7_ z8_ z9_ z10_ => (eL18F b z0_ z1_ z2_ z3_ z4_ z5_ z6_ z7_ z8_ z9_ z10_).trans (hfr b z0_ z1_ z2_ z3_ z4_ z5_ z6_ z7_ z8_ z9_ z10_)
        refine lv_iconst (v := (-1)) hx hb dX11_breaksSome_21 (by decide) ?_
        refine lv_icmp_eq (tgt := 27) hx hb dX11_breaksSome_22 (by decide) (fun c20 => ?_) (fun c20 => ?_)
        ·
          have ocm1 : ((-1) : Int32).toInt = (-1) := by decide
          have cc21 : r14.toInt = ((-1) : Int32).toInt := congrArg Int32.toInt c20
          have hb22 : In r14 (-1) (-1) := In.eq1 (In.full r14) (⟨by decide, by decide⟩ : In (-1) (-1) (-1)) cc21 (by decide) (by decide)
          obtain ⟨x23, ex23⟩ : ∃ y : Int32, y = y2_l1 + 1 := ⟨_, rfl⟩
          have hb24 : In x23 1 512 := ex23 ▸ In.add hb10 (⟨by decide, by decide⟩ : In 1 1 1) (by decide) (by decide) (by decide) (by decide)
          have et25 : x23.toInt = y2_l1.toInt + 1 := In.adde ex23 hb10 (k := 1) (by decide) (by decide) (by decide)
          refine lv_iinc (v := x23) (lv' := [(1, .int x23), (0, .ref (ad 255))]) hx hb dX11_breaksSome_27 hl (k := 1) rfl (by rw [ex23]; rfl) (by decide) rfl (fun ls hl => ?_)
          refine lv_goto (tgt := 2) hx hb dX11_breaksSome_30 (by decide) ?_
          exact ih2 zz19 x23 _ _ _ _ (In.mono hb24 (by decide) (by decide)) hP hD hS (TI.cast hT (by funext q; by_cases hq0 : q = 18; (subst hq0; rfl); simp only [gset, if_neg hq0])) hfr (lv_sub hl [1, 0] rfl) (msu et25 (by decide) hmz2)
        ·
          have ocm1 : ((-1) : Int32).toInt = (-1) := by decide
          have cc26 : r14.toInt ≠ ((-1) : Int32).toInt := i32_ne c20
          refine lv_iconst (v := 1) hx hb dX11_breaksSome_25 (by decide) ?_
          exact ret_i (ty := .boolean) hx hb hr hlocks (rfl) hP hD hS (Nat.le_of_ble_eq_true rfl) (Nat.le_of_ble_eq_true rfl) (⟨rfl, ⟨zz19, trivial, TI.cast hT (by funext q; by_cases hq0 : q = 18; (subst hq0; rfl); simp only [gset, if_neg hq0])⟩, hfr, (⟨by decide, by decide⟩ : In 1 0 1)⟩) dX11_breaksSome_26
  exact hJ2 ((2147483647 - (0 : Int32).toInt).toNat + 1) (th 18) 0 _ _ _ _ (⟨by decide, by decide⟩ : In 0 0 2147483647) hP hD hS (TI.cast hT (by funext q; by_cases hq0 : q = 18; (subst hq0; rfl); simp only [gset, if_neg hq0])) hfr (lv_sub hl [1, 0] rfl) (msI _)

abbrev rm_X11_canBreak : Room := { frames := 8, cells := 0, slots := 0, locals := 191 }
abbrev po_X11_canBreak (g : GG) (ad : Nat → Nat) (th : Nat → Int) (L : List Nat) (f : HP) (z1 : Int32) : Int32 → (List Nat × HP) → Prop := fun r u => u.1 = L ∧ (∃ th' : Nat → Int, (MI th' ∧ SBM th th') ∧ TI g ad th' u.2) ∧ (∀ b, b ≠ (ad 255) → b ≠ (ad 265) → b ≠ (ad 266) → b ≠ (ad 267) → b ≠ (ad 268) → b ≠ (ad 269) → b ≠ (ad 270) → b ≠ (ad 260) → b ≠ (ad 261) → b ≠ (ad 262) → b ≠ (ad 263) → b ≠ (ad 264) → u.2 b = f b)
set_option maxHeartbeats 4000000 in
set_option maxRecDepth 100000 in
theorem s_X11_canBreak (l : Launch) (g : GG) (ad : Nat → Nat) (th : Nat → Int) (L : List Nat) (f : HP) (sz : Nat) (z1 : Int32) (hst : ST ad L) (hT : TI g ad th f) (hM : MI th) : MtI l g yX11_canBreak cX11_canBreak 6 (some .int) rm_X11_canBreak [.ref (ad 255), .int z1] L f sz (po_X11_canBreak g ad th L f z1) := by
  refine MtI.of (by decide +kernel) (Nat.le_of_ble_eq_true rfl) ?_
  intro p e s m below meth c A hEn hP hD hS ls hl
  obtain ⟨hx, hb, hr, hml, hown, hlocks, hts, hG, hA, hE, hnm⟩ := hEn
  have hown : s.vm.findClass "RulerWordModel" = some m.cls := hown
  have hl : lv_has ls 6 [(0, .ref (ad 255)), (1, .int z1)] := hl
  have hfr : (∀ b, b ≠ (ad 255) → b ≠ (ad 265) → b ≠ (ad 266) → b ≠ (ad 267) → b ≠ (ad 268) → b ≠ (ad 269) → b ≠ (ad 270) → b ≠ (ad 260) → b ≠ (ad 261) → b ≠ (ad 262) → b ≠ (ad 263) → b ≠ (ad 264) → f b = f b) := fun b z0_ z1_ z2_ z3_ z4_ z5_ z6_ z7_ z8_ z9_ z10_ z11_ => rfl
  have hM0 := hM
  obtain ⟨m1, m2, m3, m4, m5, m6, m7, m8, m9, m10⟩ := hM0
  have m20 := mi20 m2 m3
  refine lv_aload_n hx hb dX11_canBreak_0 rfl (lv_at hl 0 rfl) ?_
  refine lv_iconst (v := 0) hx hb dX11_canBreak_1 (by decide) ?_
  refine M0e hT (fun v0_1 v2_1 v3_1 v4_1 v5_1 v6_1 v8_1 v9_1 v12_1 v13_1 v14_1 v15_1 v16_1 v17_1 v18_1 v19_1 v20_1 v21_1 v22_1 v23_1 v25_1 v36_1 v37_1 v38_1 v39_1 v40_1 v45_1 v46_1 v47_1 v48_1 v50_1 v51_1 v53_1 v55_1 hf2 hv0_1 hv2_1 hg2_1 hv3_1 hg3_1 hv4_1 hg4_1 hv5_1 hg5_1 hv6_1 hg6_1 hv8_1 hg8_1 hv9_1 hg9_1 hv12_1 hv13_1 hg13_1 hv14_1 hg14_1 hv15_1 hg15_1 hv17_1 hg17_1 hv20_1 hg20_1 hv23_1 hg23_1 hv25_1 hg25_1 hv36_1 hg36_1 hv47_1 hg47_1 hv48_1 hg48_1 hv53_1 hg53_1 hv55_1 hg55_1 hrel0_1 => ?_)
  have hg15_1 : v15_1.toInt = th 11 := hg15_1
  have hg17_1 : v17_1.toInt = th 12 := hg17_1
  have hg20_1 : v20_1.toInt = th 14 := hg20_1
  refine pl_put (ty := .int) (v := .int 0) (fs' := [.int 0, .ref (ad 256), .int v2_1, .int v3_1, .int v4_1, .int v5_1, .int v6_1, .ref (ad 257), .int v8_1, .int v9_1, .ref (ad 258), .ref (ad 259), .int v12_1, .int v13_1, .int v14_1, .int v15_1, .int v16_1, .int v17_1, .int v18_1, .int v19_1, .int v20_1, .long v21_1, .long v22_1, .int v23_1, .ref (ad 260), .int v25_1, .ref (ad 261), .ref (ad 262), .ref (ad 263), .ref (ad 264), .ref (ad 265), .ref (ad 266), .ref (ad 267), .ref (ad 268), .ref (ad 269), .ref (ad 270), .int v36_1, .int v37_1, .int v38_1, .int v39_1, .int v40_1, .ref (ad 271), .ref (ad 272), .ref (ad 273), .ref (ad 274), .long v45_1, .long v46_1, .int v47_1, .int v48_1, .ref (ad 275), .int v50_1, .int v51_1, .ref (ad 276), .int v53_1, .ref (ad 277), .int v55_1]) hx hb hts (fun w h => mT (inX11 w h)) tyX11 tyX11_ok nmX11 hown hG.1 hP hD hS (hst.1 255 (by decide)) hf2 rfl 0 (by decide) (hts _ (mT wg_1336)) (fun _ h => h) rfl (by decide +kernel) (rfl) (rfl) (Nat.le_of_ble_eq_true rfl) rfl dX11_canBreak_2 (fun H locs f3 hf4 ho5 hP hD hS => ?_)
  have hfr : (∀ b, b ≠ (ad 255) → b ≠ (ad 265) → b ≠ (ad 266) → b ≠ (ad 267) → b ≠ (ad 268) → b ≠ (ad 269) → b ≠ (ad 270) → b ≠ (ad 260) → b ≠ (ad 261) → b ≠ (ad 262) → b ≠ (ad 263) → b ≠ (ad 264) → f3 b = f b) := fun b z0_ z1_ z2_ z3_ z4_ z5_ z6_ z7_ z8_ z9_ z10_ z11_ => (ho5 b z0_).trans (hfr b z0_ z1_ z2_ z3_ z4_ z5_ z6_ z7_ z8_ z9_ z10_ z11_)
  refine lv_iload_n hx hb dX11_canBreak_5 rfl (lv_at hl 1 rfl) ?_
  refine lv_i2l hx hb dX11_canBreak_6 rfl ?_
  refine lv_lconst (v := 0) hx hb dX11_canBreak_7 (by decide) ?_
  refine lv_lconst (v := 1) hx hb dX11_canBreak_8 (by decide) ?_
  have hT := TI.updM hT hst (k := 0) (by decide) hf4 ho5 ⟨0, v2_1, v3_1, v4_1, v5_1, v6_1, v8_1, v9_1, v12_1, v13_1, v14_1, v15_1, v16_1, v17_1, v18_1, v19_1, v20_1, v21_1, v22_1, v23_1, v25_1, v36_1, v37_1, v38_1, v39_1, v40_1, v45_1, v46_1, v47_1, v48_1, v50_1, v51_1, v53_1, v55_1, rfl, (⟨by decide, by decide⟩ : In 0 0 1), hv2_1, hg2_1, hv3_1, hg3_1, hv4_1, hg4_1, hv5_1, hg5_1, hv6_1, hg6_1, hv8_1, hg8_1, hv9_1, hg9_1, hv12_1, hv13_1, hg13_1, hv14_1, hg14_1, hv15_1, hg15_1, hv17_1, hg17_1, hv20_1, hg20_1, hv23_1, hg23_1, hv25_1, hg25_1, hv36_1, hg36_1, hv47_1, hg47_1, hv48_1, hg48_1, hv53_1, hg53_1, hv55_1, hg55_1, hrel0_1⟩
  refine call_i (run_S (rm := rm_X11_isIn) hx hb hml hown hts (s_X11_isIn l g ad th _ _ _ (z1.toInt64) 0 1 hst hT ) cS_X11_isIn wg_1581 ⟨Nat.le_of_ble_eq_true rfl, Nat.le_of_ble_eq_true rfl⟩ hG hE hA hP hD hS rfl hl.1 (As := [.long (z1.toInt64), .long 0, .long 1]) (rest := []) rfl (Nat.le_of_ble_eq_true rfl) dX11_canBreak_9 ⟨Nat.le_of_ble_eq_true rfl, Nat.le_of_ble_eq_true rfl⟩) hA hD hS (fun r6 L7 f8 H locs hp9 hP hD hS => ?_)
  obtain ⟨eL10L, eL10T, eL10R, eL10X0, eL10X1⟩ := hp9
  have eL10L : L7 = L := eL10L
  have eL10T : f8 = f3 := eL10T
  rw [eL10L, eL10T] at hP hD
  have eL10R : In r6 0 1 := eL10R
  have hii11 : r6.toInt = 0 ∨ (0 ≤ z1.toInt ∧ z1.toInt ≤ 1) := by have z := eL10X0; rw [i2l_t z1, (by decide : (0 : Int64).toInt = 0), (by decide : (1 : Int64).toInt = 1)] at z; exact z
  have hii11w : ¬ r6 = 0 → In z1 0 1 := fun c => by have c2 := i32_ne c; have e0 : (0 : Int32).toInt = 0 := (by decide); exact ⟨by omega, by omega⟩
  have hJ30 : ∀ (H : Heap) (locs : List Loc) (ls : Array Slot), va_P g.1 vwCl (va_pl L f3) H → va_D A (va_pl L f3) → va_S A s.heap H locs → lv_has ls 6 [(0, .ref (ad 255)), (1, .int z1)] → W p l e rm_X11_canBreak s m [.ref (ad 255), .int z1].toArray below meth c H locs 0 0 (MQ below (va_Qi (po_X11_canBreak g ad th L f z1) (PstB g A) A) [.ref (ad 255), .int z1].toArray s rm_X11_canBreak.cells rm_X11_canBreak.slots A) (F0 m 30 ls []) := by
    intro H locs ls hP hD hS hl
    refine lv_bipush (v := (-2)) hx hb dX11_canBreak_30 (by decide) ?_
    exact ret_i (ty := .int) hx hb hr hlocks (rfl) hP hD hS (Nat.le_of_ble_eq_true rfl) (Nat.le_of_ble_eq_true rfl) (⟨rfl, ⟨th, ⟨(show MI th from hM), (SBM.rf th)⟩, hT⟩, hfr⟩) dX11_canBreak_32
  refine lv_if_eq (tgt := 30) hx hb dX11_canBreak_12 (by decide) (fun c12 => ?_) (fun c12 => ?_)
  ·
    have oc0 : (0 : Int32).toInt = 0 := by decide
    have cc13 : r6.toInt = (0 : Int32).toInt := congrArg Int32.toInt c12
    have hb14 : In r6 0 0 := In.eq1 eL10R (⟨by decide, by decide⟩ : In 0 0 0) cc13 (by decide) (by decide)
    exact hJ30 _ _ _ hP hD hS (lv_sub hl [0, 1] rfl)
  ·
    have oc0 : (0 : Int32).toInt = 0 := by decide
    have cc15 : r6.toInt ≠ (0 : Int32).toInt := i32_ne c12
    have hb16 : In r6 1 1 := In.ne1 eL10R (⟨by decide, by decide⟩ : In 0 0 0) cc15 (by decide) (by decide)
    have hb17 : In z1 0 1 := In.both (hii11w c12) (In.full z1) (by decide) (by decide)
    refine lv_aload_n hx hb dX11_canBreak_15 rfl (lv_at hl 0 rfl) ?_
    refine pl_get (v := .int v23_1) hx hb hts (fun w h => mT (inX11 w h)) hown hG.1 hP (hst.1 255 (by decide)) hf4 rfl 23 (by decide) (hts _ (mT wg_1359)) (fun _ h => h) rfl dX11_canBreak_16 ?_
    have hg23_1 : v23_1.toInt = th 15 := hg23_1
    refine lv_if_eq (tgt := 30) hx hb dX11_canBreak_19 (by decide) (fun c18 => ?_) (fun c18 => ?_)
    ·
      have oc0 : (0 : Int32).toInt = 0 := by decide
      have cc19 : v23_1.toInt = (0 : Int32).toInt := congrArg Int32.toInt c18
      have hb20 : In v23_1 0 0 := In.eq1 hv23_1 (⟨by decide, by decide⟩ : In 0 0 0) cc19 (by decide) (by decide)
      exact hJ30 _ _ _ hP hD hS (lv_sub hl [0, 1] rfl)
    ·
      have oc0 : (0 : Int32).toInt = 0 := by decide
      have cc21 : v23_1.toInt ≠ (0 : Int32).toInt := i32_ne c18
      have hb22 : In v23_1 1 1 := In.ne1 hv23_1 (⟨by decide, by decide⟩ : In 0 0 0) cc21 (by decide) (by decide)
      refine lv_aload_n hx hb dX11_canBreak_22 rfl (lv_at hl 0 rfl) ?_
      refine pl_get (v := .int v15_1) hx hb hts (fun w h => mT (inX11 w h)) hown hG.1 hP (hst.1 255 (by decide)) hf4 rfl 15 (by decide) (hts _ (mT wg_1351)) (fun _ h => h) rfl dX11_canBreak_23 ?_
      refine lv_iconst (v := 5) hx hb dX11_canBreak_26 (by decide) ?_
      refine lv_icmp_le (tgt := 33) hx hb dX11_canBreak_27 (by decide) (fun c23 => ?_) (fun c23 => ?_)
      ·
        have oc5 : (5 : Int32).toInt = 5 := by decide
        have cc24 : v15_1.toInt ≤ (5 : Int32).toInt := i32_le.mp c23
        have hb25 : In v15_1 0 5 := In.le1 hv15_1 (⟨by decide, by decide⟩ : In 5 5 5) cc24 (by decide) (by decide)
        refine lv_aload_n hx hb dX11_canBreak_33 rfl (lv_at hl 0 rfl) ?_
        refine call_v (run_V (rm := rm_X11_takesUp) hx hb hml hown hts (s_X11_takesUp l g ad th _ _ _  hst hT (show (th 22) = 2126 from (by have ob10 : (0 : Int) ≤ (th 10) ∧ (th 10) ≤ 1 := (b0_10 hT :); have ob11 : (0 : Int) ≤ (th 11) ∧ (th 11) ≤ 9 := (b0_11 hT :); have ob12 : (0 : Int) ≤ (th 12) ∧ (th 12) ≤ 6 := (b0_12 hT :); have ob14 : (0 : Int) ≤ (th 14) ∧ (th 14) ≤ 511 := (b0_14 hT :); have ob15 : (0 : Int) ≤ (th 15) ∧ (th 15) ≤ 1 := (b0_15 hT :); have ob16 : (0 : Int) ≤ (th 16) ∧ (th 16) ≤ 20 := (b0_16 hT :); have ob17 : (0 : Int) ≤ (th 17) ∧ (th 17) ≤ 1 := (b0_17 hT :); have ob18 : (0 : Int) ≤ (th 18) ∧ (th 18) ≤ 18 := (b0_18 hT :); have ob38 : (0 : Int) ≤ (th 38) ∧ (th 38) ≤ 400 := (b0_38 hT :); have ob39 : (0 : Int) ≤ (th 39) ∧ (th 39) ≤ 200 := (b0_39 hT :); have ob44 : (0 : Int) ≤ (th 44) ∧ (th 44) ≤ 30 := (b0_44 hT :); have orn := rnd_b (th 10); obtain ⟨o0a, o0b⟩ := (hv14_1 : In _ _ _); obtain ⟨o1a, o1b⟩ := (hb25 : In _ _ _); obtain ⟨o2a, o2b⟩ := (hv17_1 : In _ _ _); obtain ⟨o3a, o3b⟩ := (hv20_1 : In _ _ _); obtain ⟨o4a, o4b⟩ := (hb22 : In _ _ _); obtain ⟨o5a, o5b⟩ := (hv25_1 : In _ _ _); obtain ⟨o6a, o6b⟩ := (hv36_1 : In _ _ _); obtain ⟨o7a, o7b⟩ := (hv47_1 : In _ _ _); obtain ⟨o8a, o8b⟩ := (hv48_1 : In _ _ _); obtain ⟨o9a, o9b⟩ := (hv53_1 : In _ _ _); obtain ⟨o10a, o10b⟩ := (hv55_1 : In _ _ _); omega)) (show (th 20) ≤ 18 from (by have ob10 : (0 : Int) ≤ (th 10) ∧ (th 10) ≤ 1 := (b0_10 hT :); have ob11 : (0 : Int) ≤ (th 11) ∧ (th 11) ≤ 9 := (b0_11 hT :); have ob12 : (0 : Int) ≤ (th 12) ∧ (th 12) ≤ 6 := (b0_12 hT :); have ob14 : (0 : Int) ≤ (th 14) ∧ (th 14) ≤ 511 := (b0_14 hT :); have ob15 : (0 : Int) ≤ (th 15) ∧ (th 15) ≤ 1 := (b0_15 hT :); have ob16 : (0 : Int) ≤ (th 16) ∧ (th 16) ≤ 20 := (b0_16 hT :); have ob17 : (0 : Int) ≤ (th 17) ∧ (th 17) ≤ 1 := (b0_17 hT :); have ob18 : (0 : Int) ≤ (th 18) ∧ (th 18) ≤ 18 := (b0_18 hT :); have ob38 : (0 : Int) ≤ (th 38) ∧ (th 38) ≤ 400 := (b0_38 hT :); have ob39 : (0 : Int) ≤ (th 39) ∧ (th 39) ≤ 200 := (b0_39 hT :); have ob44 : (0 : Int) ≤ (th 44) ∧ (th 44) ≤ 30 := (b0_44 hT :); have orn := rnd_b (th 10); obtain ⟨o0a, o0b⟩ := (hv14_1 : In _ _ _); obtain ⟨o1a, o1b⟩ := (hb25 : In _ _ _); obtain ⟨o2a, o2b⟩ := (hv17_1 : In _ _ _); obtain ⟨o3a, o3b⟩ := (hv20_1 : In _ _ _); obtain ⟨o4a, o4b⟩ := (hb22 : In _ _ _); obtain ⟨o5a, o5b⟩ := (hv25_1 : In _ _ _); obtain ⟨o6a, o6b⟩ := (hv36_1 : In _ _ _); obtain ⟨o7a, o7b⟩ := (hv47_1 : In _ _ _); obtain ⟨o8a, o8b⟩ := (hv48_1 : In _ _ _); obtain ⟨o9a, o9b⟩ := (hv53_1 : In _ _ _); obtain ⟨o10a, o10b⟩ := (hv55_1 : In _ _ _); omega)) (show (th 21) = (th 11) from (by have ob10 : (0 : Int) ≤ (th 10) ∧ (th 10) ≤ 1 := (b0_10 hT :); have ob11 : (0 : Int) ≤ (th 11) ∧ (th 11) ≤ 9 := (b0_11 hT :); have ob12 : (0 : Int) ≤ (th 12) ∧ (th 12) ≤ 6 := (b0_12 hT :); have ob14 : (0 : Int) ≤ (th 14) ∧ (th 14) ≤ 511 := (b0_14 hT :); have ob15 : (0 : Int) ≤ (th 15) ∧ (th 15) ≤ 1 := (b0_15 hT :); have ob16 : (0 : Int) ≤ (th 16) ∧ (th 16) ≤ 20 := (b0_16 hT :); have ob17 : (0 : Int) ≤ (th 17) ∧ (th 17) ≤ 1 := (b0_17 hT :); have ob18 : (0 : Int) ≤ (th 18) ∧ (th 18) ≤ 18 := (b0_18 hT :); have ob38 : (0 : Int) ≤ (th 38) ∧ (th 38) ≤ 400 := (b0_38 hT :); have ob39 : (0 : Int) ≤ (th 39) ∧ (th 39) ≤ 200 := (b0_39 hT :); have ob44 : (0 : Int) ≤ (th 44) ∧ (th 44) ≤ 30 := (b0_44 hT :); have orn := rnd_b (th 10); obtain ⟨o0a, o0b⟩ := (hv14_1 : In _ _ _); obtain ⟨o1a, o1b⟩ := (hb25 : In _ _ _); obtain ⟨o2a, o2b⟩ := (hv17_1 : In _ _ _); obtain ⟨o3a, o3b⟩ := (hv20_1 : In _ _ _); obtain ⟨o4a, o4b⟩ := (hb22 : In _ _ _); obtain ⟨o5a, o5b⟩ := (hv25_1 : In _ _ _); obtain ⟨o6a, o6b⟩ := (hv36_1 : In _ _ _); obtain ⟨o7a, o7b⟩ := (hv47_1 : In _ _ _); obtain ⟨o8a, o8b⟩ := (hv48_1 : In _ _ _); obtain ⟨o9a, o9b⟩ := (hv53_1 : In _ _ _); obtain ⟨o10a, o10b⟩ := (hv55_1 : In _ _ _); omega))) cV_X11_takesUp wg_1648 ⟨Nat.le_of_ble_eq_true rfl, Nat.le_of_ble_eq_true rfl⟩ hG hE hA hP hD hS (hst.1 255 (by decide)) hf4 rfl rfl hl.1 (As := []) (rest := []) rfl (Nat.le_of_ble_eq_true rfl) dX11_canBreak_34 ⟨Nat.le_of_ble_eq_true rfl, Nat.le_of_ble_eq_true rfl⟩) hA hD hS (fun L27 f28 H locs hp29 hP hD hS => ?_)
        obtain ⟨eL30L, eL30T, eL30F⟩ := hp29
        have eL30L : L27 = L := eL30L
        rw [eL30L] at hP hD
        obtain ⟨zz31, zz32, zz33, hzz31, eL30T⟩ := eL30T
        have hzz31 : ((zz31 = (th 19) ∧ 0 ≤ zz31 ∧ zz31 ≤ (th 20)) ∧ (0 ≤ zz32 ∧ zz32 ≤ 511)) ∧ capI zz32 ((th 11)) := hzz31
        have hT : TI g ad (gset (gset (gset th 18 zz31) 14 zz32) 44 zz33) f28 := eL30T
        have eL30F : ∀ b, b ≠ (ad 255) → b ≠ (ad 265) → b ≠ (ad 266) → b ≠ (ad 267) → b ≠ (ad 269) → b ≠ (ad 260) → b ≠ (ad 261) → b ≠ (ad 262) → b ≠ (ad 263) → b ≠ (ad 264) → f28 b = f3 b := eL30F
        have hfr : (∀ b, b ≠ (ad 255) → b ≠ (ad 265) → b ≠ (ad 266) → b ≠ (ad 267) → b ≠ (ad 268) → b ≠ (ad 269) → b ≠ (ad 270) → b ≠ (ad 260) → b ≠ (ad 261) → b ≠ (ad 262) → b ≠ (ad 263) → b ≠ (ad 264) → f28 b = f b) := fun b z0_ z1_ z2_ z3_ z4_ z5_ z6_ z7_ z8_ z9_ z10_ z11_ => (eL30F b z0_ z1_ z2_ z3_ z5_ z7_ z8_ z9_ z10_ z11_).trans (hfr b z0_ z1_ z2_ z3_ z4_ z5_ z6_ z7_ z8_ z9_ z10_ z11_)
        refine lv_aload_n hx hb dX11_canBreak_37 rfl (lv_at hl 0 rfl) ?_
        refine M0e hT (fun v0_34 v2_34 v3_34 v4_34 v5_34 v6_34 v8_34 v9_34 v12_34 v13_34 v14_34 v15_34 v16_34 v17_34 v18_34 v19_34 v20_34 v21_34 v22_34 v23_34 v25_34 v36_34 v37_34 v38_34 v39_34 v40_34 v45_34 v46_34 v47_34 v48_34 v50_34 v51_34 v53_34 v55_34 hf35 hv0_34 hv2_34 hg2_34 hv3_34 hg3_34 hv4_34 hg4_34 hv5_34 hg5_34 hv6_34 hg6_34 hv8_34 hg8_34 hv9_34 hg9_34 hv12_34 hv13_34 hg13_34 hv14_34 hg14_34 hv15_34 hg15_34 hv17_34 hg17_34 hv20_34 hg20_34 hv23_34 hg23_34 hv25_34 hg25_34 hv36_34 hg36_34 hv47_34 hg47_34 hv48_34 hg48_34 hv53_34 hg53_34 hv55_34 hg55_34 hrel0_34 => ?_)
        have hg15_34 : v15_34.toInt = th 11 := hg15_34
        have hg17_34 : v17_34.toInt = th 12 := hg17_34
        have hg20_34 : v20_34.toInt = zz32 := hg20_34
        refine pl_get (v := .int v20_34) hx hb hts (fun w h => mT (inX11 w h)) hown hG.1 hP (hst.1 255 (by decide)) hf35 rfl 20 (by decide) (hts _ (mT wg_1356)) (fun _ h => h) rfl dX11_canBreak_38 ?_
        refine call_i (run_S (rm := rm_X11_bitsIn) hx hb hml hown hts (s_X11_bitsIn l g ad (gset (gset (gset th 18 zz31) 14 zz32) 44 zz33) _ _ _ v20_34 hst hT ) cS_X11_bitsIn wg_1827 ⟨Nat.le_of_ble_eq_true rfl, Nat.le_of_ble_eq_true rfl⟩ hG hE hA hP hD hS rfl hl.1 (As := [.int v20_34]) (rest := []) rfl (Nat.le_of_ble_eq_true rfl) dX11_canBreak_41 ⟨Nat.le_of_ble_eq_true rfl, Nat.le_of_ble_eq_true rfl⟩) hA hD hS (fun r36 L37 f38 H locs hp39 hP hD hS => ?_)
        obtain ⟨eL40L, eL40T, eL40R, eL40X0⟩ := hp39
        have eL40L : L37 = L := eL40L
        have eL40T : f38 = f28 := eL40T
        rw [eL40L, eL40T] at hP hD
        have eL40R : In r36 0 9 := eL40R
        have hpc41 : r36.toInt = pcI (zz32) := (eL40X0 hv20_34).trans (by rw [hg20_34])
        refine lv_istore_n (lv' := [(2, .int r36), (0, .ref (ad 255)), (1, .int z1)]) hx hb dX11_canBreak_44 rfl hl (by decide) rfl (fun ls hl => ?_)
        refine lv_iconst (v := 0) hx hb dX11_canBreak_45 (by decide) ?_
        refine lv_istore_n (lv' := [(3, .int 0), (2, .int r36), (0, .ref (ad 255)), (1, .int z1)]) hx hb dX11_canBreak_46 rfl hl (by decide) rfl (fun ls hl => ?_)
        have hJ47 : ∀ (k47 : Nat) (zg47_zl : Int) (zg47_zg : Int) (y47_l3 : Int32) (f_47 : HP) (H : Heap) (locs : List Loc) (ls : Array Slot), In y47_l3 0 2147483647 → va_P g.1 vwCl (va_pl L f_47) H → va_D A (va_pl L f_47) → va_S A s.heap H locs → TI g ad (gset (gset (gset th 44 zz33) 14 zg47_zl) 18 zg47_zg) f_47 → (∀ b, b ≠ (ad 255) → b ≠ (ad 265) → b ≠ (ad 266) → b ≠ (ad 267) → b ≠ (ad 268) → b ≠ (ad 269) → b ≠ (ad 270) → b ≠ (ad 260) → b ≠ (ad 261) → b ≠ (ad 262) → b ≠ (ad 263) → b ≠ (ad 264) → f_47 b = f b) → lv_has ls 6 [(0, .ref (ad 255)), (1, .int z1), (2, .int r36), (3, .int y47_l3)] → 2147483647 - y47_l3.toInt < ((k47 : Nat) : Int) → W p l e rm_X11_canBreak s m [.ref (ad 255), .int z1].toArray below meth c H locs 0 0 (MQ below (va_Qi (po_X11_canBreak g ad th L f z1) (PstB g A) A) [.ref (ad 255), .int z1].toArray s rm_X11_canBreak.cells rm_X11_canBreak.slots A) (F0 m 47 ls []) := by
          intro k47
          induction k47 with
          | zero =>
            intro zg47_zl zg47_zg y47_l3 f_47 H locs ls hy47_l3 hP hD hS hT hfr hl hmz47
            exact ms0 hy47_l3 hmz47
          | succ k47 ih47 =>
            intro zg47_zl zg47_zg y47_l3 f_47 H locs ls hy47_l3 hP hD hS hT hfr hl hmz47
            refine lv_iload_n hx hb dX11_canBreak_47 rfl (lv_at hl 3 rfl) ?_
            refine lv_iconst (v := 1) hx hb dX11_canBreak_48 (by decide) ?_
            refine lv_aload_n hx hb dX11_canBreak_49 rfl (lv_at hl 0 rfl) ?_
            refine M0e hT (fun v0_42 v2_42 v3_42 v4_42 v5_42 v6_42 v8_42 v9_42 v12_42 v13_42 v14_42 v15_42 v16_42 v17_42 v18_42 v19_42 v20_42 v21_42 v22_42 v23_42 v25_42 v36_42 v37_42 v38_42 v39_42 v40_42 v45_42 v46_42 v47_42 v48_42 v50_42 v51_42 v53_42 v55_42 hf43 hv0_42 hv2_42 hg2_42 hv3_42 hg3_42 hv4_42 hg4_42 hv5_42 hg5_42 hv6_42 hg6_42 hv8_42 hg8_42 hv9_42 hg9_42 hv12_42 hv13_42 hg13_42 hv14_42 hg14_42 hv15_42 hg15_42 hv17_42 hg17_42 hv20_42 hg20_42 hv23_42 hg23_42 hv25_42 hg25_42 hv36_42 hg36_42 hv47_42 hg47_42 hv48_42 hg48_42 hv53_42 hg53_42 hv55_42 hg55_42 hrel0_42 => ?_)
            have hg15_42 : v15_42.toInt = th 11 := hg15_42
            have hg17_42 : v17_42.toInt = th 12 := hg17_42
            have hg20_42 : v20_42.toInt = zg47_zl := hg20_42
            refine pl_get (v := .int v15_42) hx hb hts (fun w h => mT (inX11 w h)) hown hG.1 hP (hst.1 255 (by decide)) hf43 rfl 15 (by decide) (hts _ (mT wg_1351)) (fun _ h => h) rfl dX11_canBreak_50 ?_
            refine lv_ishl hx hb dX11_canBreak_53 ?_
            refine lv_topi (fun x44 ex44 => ?_)
            have hb45 : In x44 1 512 := ex44 ▸ In.shl (⟨by decide, by decide⟩ : In 1 1 1) hv15_42 (by decide) (by decide) (by decide) (by decide) (by decide) (by decide)
            have hsh46 : x44.toInt = 2 ^ (th 11).toNat := by rw [(shl1 (d := 9) ex44 hv15_42 (by decide)).2, hg15_42]
            refine lv_iconst (v := 1) hx hb dX11_canBreak_54 (by decide) ?_
            refine lv_isub hx hb dX11_canBreak_55 ?_
            refine lv_topi (fun x47 ex47 => ?_)
            have hb48 : In x47 0 511 := ex47 ▸ In.sub hb45 (⟨by decide, by decide⟩ : In 1 1 1) (by decide) (by decide) (by decide) (by decide)
            have et49 : x47.toInt = x44.toInt + (-1) := In.sube ex47 hb45 (k := 1) (by decide) (by decide) (by decide)
            refine lv_icmp_ge (tgt := 94) hx hb dX11_canBreak_56 (by decide) (fun c50 => ?_) (fun c50 => ?_)
            ·
              have cc51 : x47.toInt ≤ y47_l3.toInt := i32_le.mp c50
              refine lv_iconst (v := 0) hx hb dX11_canBreak_94 (by decide) ?_
              refine lv_istore_n (lv' := [(3, .int 0), (0, .ref (ad 255)), (1, .int z1), (2, .int r36)]) hx hb dX11_canBreak_95 rfl hl (by decide) rfl (fun ls hl => ?_)
              refine lv_iconst (v := (-1)) hx hb dX11_canBreak_96 (by decide) ?_
              refine lv_istore (lv' := [(4, .int (-1)), (3, .int 0), (0, .ref (ad 255)), (1, .int z1), (2, .int r36)]) hx hb dX11_canBreak_97 hl (by decide) rfl (fun ls hl => ?_)
              refine lv_iconst (v := 0) hx hb dX11_canBreak_99 (by decide) ?_
              refine lv_istore (lv' := [(5, .int 0), (4, .int (-1)), (3, .int 0), (0, .ref (ad 255)), (1, .int z1), (2, .int r36)]) hx hb dX11_canBreak_100 hl (by decide) rfl (fun ls hl => ?_)
              have hJ102 : ∀ (k102 : Nat) (zg102_zl : Int) (zg102_zg : Int) (y102_l3 : Int32) (y102_l4 : Int32) (y102_l5 : Int32) (f_102 : HP) (H : Heap) (locs : List Loc) (ls : Array Slot), In y102_l3 (-2147483648) 2147483647 → In y102_l4 (-1) 2147483647 → In y102_l5 0 2147483647 → va_P g.1 vwCl (va_pl L f_102) H → va_D A (va_pl L f_102) → va_S A s.heap H locs → TI g ad (gset (gset (gset th 44 zz33) 14 zg102_zl) 18 zg102_zg) f_102 → (∀ b, b ≠ (ad 255) → b ≠ (ad 265) → b ≠ (ad 266) → b ≠ (ad 267) → b ≠ (ad 268) → b ≠ (ad 269) → b ≠ (ad 270) → b ≠ (ad 260) → b ≠ (ad 261) → b ≠ (ad 262) → b ≠ (ad 263) → b ≠ (ad 264) → f_102 b = f b) → lv_has ls 6 [(0, .ref (ad 255)), (1, .int z1), (2, .int r36), (3, .int y102_l3), (4, .int y102_l4), (5, .int y102_l5)] → 2147483647 - y102_l5.toInt < ((k102 : Nat) : Int) → W p l e rm_X11_canBreak s m [.ref (ad 255), .int z1].toArray below meth c H locs 0 0 (MQ below (va_Qi (po_X11_canBreak g ad th L f z1) (PstB g A) A) [.ref (ad 255), .int z1].toArray s rm_X11_canBreak.cells rm_X11_canBreak.slots A) (F0 m 102 ls []) := by
                intro k102
                induction k102 with
                | zero =>
                  intro zg102_zl zg102_zg y102_l3 y102_l4 y102_l5 f_102 H locs ls hy102_l3 hy102_l4 hy102_l5 hP hD hS hT hfr hl hmz102
                  exact ms0 hy102_l5 hmz102
                | succ k102 ih102 =>
                  intro zg102_zl zg102_zg y102_l3 y102_l4 y102_l5 f_102 H locs ls hy102_l3 hy102_l4 hy102_l5 hP hD hS hT hfr hl hmz102
                  refine lv_iload hx hb dX11_canBreak_102 (lv_at hl 5 rfl) ?_
                  refine lv_iconst (v := 1) hx hb dX11_canBreak_104 (by decide) ?_
                  refine lv_aload_n hx hb dX11_canBreak_105 rfl (lv_at hl 0 rfl) ?_
                  refine M0e hT (fun v0_52 v2_52 v3_52 v4_52 v5_52 v6_52 v8_52 v9_52 v12_52 v13_52 v14_52 v15_52 v16_52 v17_52 v18_52 v19_52 v20_52 v21_52 v22_52 v23_52 v25_52 v36_52 v37_52 v38_52 v39_52 v40_52 v45_52 v46_52 v47_52 v48_52 v50_52 v51_52 v53_52 v55_52 hf53 hv0_52 hv2_52 hg2_52 hv3_52 hg3_52 hv4_52 hg4_52 hv5_52 hg5_52 hv6_52 hg6_52 hv8_52 hg8_52 hv9_52 hg9_52 hv12_52 hv13_52 hg13_52 hv14_52 hg14_52 hv15_52 hg15_52 hv17_52 hg17_52 hv20_52 hg20_52 hv23_52 hg23_52 hv25_52 hg25_52 hv36_52 hg36_52 hv47_52 hg47_52 hv48_52 hg48_52 hv53_52 hg53_52 hv55_52 hg55_52 hrel0_52 => ?_)
                  have hg15_52 : v15_52.toInt = th 11 := hg15_52
                  have hg17_52 : v17_52.toInt = th 12 := hg17_52
                  have hg20_52 : v20_52.toInt = zg102_zl := hg20_52
                  refine pl_get (v := .int v15_52) hx hb hts (fun w h => mT (inX11 w h)) hown hG.1 hP (hst.1 255 (by decide)) hf53 rfl 15 (by decide) (hts _ (mT wg_1351)) (fun _ h => h) rfl dX11_canBreak_106 ?_
                  refine lv_ishl hx hb dX11_canBreak_109 ?_
                  refine lv_topi (fun x54 ex54 => ?_)
                  have hb55 : In x54 1 512 := ex54 ▸ In.shl (⟨by decide, by decide⟩ : In 1 1 1) hv15_52 (by decide) (by decide) (by decide) (by decide) (by decide) (by decide)
                  have hsh56 : x54.toInt = 2 ^ (th 11).toNat := by rw [(shl1 (d := 9) ex54 hv15_52 (by decide)).2, hg15_52]
                  refine lv_iconst (v := 1) hx hb dX11_canBreak_110 (by decide) ?_
                  refine lv_isub hx hb dX11_canBreak_111 ?_
                  refine lv_topi (fun x57 ex57 => ?_)
                  have hb58 : In x57 0 511 := ex57 ▸ In.sub hb55 (⟨by decide, by decide⟩ : In 1 1 1) (by decide) (by decide) (by decide) (by decide)
                  have et59 : x57.toInt = x54.toInt + (-1) := In.sube ex57 hb55 (k := 1) (by decide) (by decide) (by decide)
                  refine lv_icmp_ge (tgt := 167) hx hb dX11_canBreak_112 (by decide) (fun c60 => ?_) (fun c60 => ?_)
                  ·
                    have cc61 : x57.toInt ≤ y102_l5.toInt := i32_le.mp c60
                    refine lv_iload_n hx hb dX11_canBreak_167 rfl (lv_at hl 1 rfl) ?_
                    refine lv_if_ne (tgt := 175) hx hb dX11_canBreak_168 (by decide) (fun c62 => ?_) (fun c62 => ?_)
                    ·
                      have oc0 : (0 : Int32).toInt = 0 := by decide
                      have cc63 : z1.toInt ≠ (0 : Int32).toInt := i32_ne c62
                      have hb64 : In z1 1 1 := In.ne1 hb17 (⟨by decide, by decide⟩ : In 0 0 0) cc63 (by decide) (by decide)
                      refine lv_iload hx hb dX11_canBreak_175 (lv_at hl 4 rfl) ?_
                      exact ret_i (ty := .int) hx hb hr hlocks (rfl) hP hD hS (Nat.le_of_ble_eq_true rfl) (Nat.le_of_ble_eq_true rfl) (⟨rfl, ⟨(gset (gset (gset th 44 zz33) 14 zg102_zl) 18 zg102_zg), ⟨(show MI (gset (gset (gset th 44 zz33) 14 zg102_zl) 18 zg102_zg) from ⟨m1, m2, (show th 20 = (th 12) * rnd (th 10) from m3), m4, m5, m6, m7, m8, m9, m10⟩), (SBM.set (k := 18) (SBM.set (k := 14) (SBM.set (k := 44) (SBM.rf th) (by decide)) (by decide)) (by decide))⟩, hT⟩, hfr⟩) dX11_canBreak_177
                    ·
                      have oc0 : (0 : Int32).toInt = 0 := by decide
                      have cc65 : z1.toInt = (0 : Int32).toInt := congrArg Int32.toInt c62
                      have hb66 : In z1 0 0 := In.eq1 hb17 (⟨by decide, by decide⟩ : In 0 0 0) cc65 (by decide) (by decide)
                      refine lv_iload_n hx hb dX11_canBreak_171 rfl (lv_at hl 3 rfl) ?_
                      refine lv_goto (tgt := 177) hx hb dX11_canBreak_172 (by decide) ?_
                      exact ret_i (ty := .int) hx hb hr hlocks (rfl) hP hD hS (Nat.le_of_ble_eq_true rfl) (Nat.le_of_ble_eq_true rfl) (⟨rfl, ⟨(gset (gset (gset th 44 zz33) 14 zg102_zl) 18 zg102_zg), ⟨(show MI (gset (gset (gset th 44 zz33) 14 zg102_zl) 18 zg102_zg) from ⟨m1, m2, (show th 20 = (th 12) * rnd (th 10) from m3), m4, m5, m6, m7, m8, m9, m10⟩), (SBM.set (k := 18) (SBM.set (k := 14) (SBM.set (k := 44) (SBM.rf th) (by decide)) (by decide)) (by decide))⟩, hT⟩, hfr⟩) dX11_canBreak_177
                  ·
                    have cc67 : y102_l5.toInt < x57.toInt := i32_nle c60
                    have hb68 : In y102_l5 0 510 := In.lt1 hy102_l5 hb58 cc67 (by decide) (by decide)
                    have hb69 : In x57 1 511 := In.lt2 hy102_l5 hb58 cc67 (by decide) (by decide)
                    refine lv_iload hx hb dX11_canBreak_115 (lv_at hl 5 rfl) ?_
                    refine call_i (run_S (rm := rm_X11_bitsIn) hx hb hml hown hts (s_X11_bitsIn l g ad (gset (gset (gset th 44 zz33) 14 zg102_zl) 18 zg102_zg) _ _ _ y102_l5 hst hT ) cS_X11_bitsIn wg_1827 ⟨Nat.le_of_ble_eq_true rfl, Nat.le_of_ble_eq_true rfl⟩ hG hE hA hP hD hS rfl hl.1 (As := [.int y102_l5]) (rest := []) rfl (Nat.le_of_ble_eq_true rfl) dX11_canBreak_117 ⟨Nat.le_of_ble_eq_true rfl, Nat.le_of_ble_eq_true rfl⟩) hA hD hS (fun r70 L71 f72 H locs hp73 hP hD hS => ?_)
                    obtain ⟨eL74L, eL74T, eL74R, eL74X0⟩ := hp73
                    have eL74L : L71 = L := eL74L
                    have eL74T : f72 = f_102 := eL74T
                    rw [eL74L, eL74T] at hP hD
                    have eL74R : In r70 0 9 := eL74R
                    refine lv_iload_n hx hb dX11_canBreak_120 rfl (lv_at hl 2 rfl) ?_
                    have hJ161 : ∀ (zg161_zl : Int) (zg161_zg : Int) (y161_l3 : Int32) (y161_l4 : Int32) (f_161 : HP) (H : Heap) (locs : List Loc) (ls : Array Slot), In y161_l3 (-2147483648) 2147483647 → In y161_l4 (-1) 2147483647 → va_P g.1 vwCl (va_pl L f_161) H → va_D A (va_pl L f_161) → va_S A s.heap H locs → TI g ad (gset (gset (gset th 44 zz33) 14 zg161_zl) 18 zg161_zg) f_161 → (∀ b, b ≠ (ad 255) → b ≠ (ad 265) → b ≠ (ad 266) → b ≠ (ad 267) → b ≠ (ad 268) → b ≠ (ad 269) → b ≠ (ad 270) → b ≠ (ad 260) → b ≠ (ad 261) → b ≠ (ad 262) → b ≠ (ad 263) → b ≠ (ad 264) → f_161 b = f b) → lv_has ls 6 [(0, .ref (ad 255)), (1, .int z1), (2, .int r36), (3, .int y161_l3), (4, .int y161_l4), (5, .int y102_l5)] → W p l e rm_X11_canBreak s m [.ref (ad 255), .int z1].toArray below meth c H locs 0 0 (MQ below (va_Qi (po_X11_canBreak g ad th L f z1) (PstB g A) A) [.ref (ad 255), .int z1].toArray s rm_X11_canBreak.cells rm_X11_canBreak.slots A) (F0 m 161 ls []) := by
                      intro zg161_zl zg161_zg y161_l3 y161_l4 f_161 H locs ls hy161_l3 hy161_l4 hP hD hS hT hfr hl
                      obtain ⟨x75, ex75⟩ : ∃ y : Int32, y = y102_l5 + 1 := ⟨_, rfl⟩
                      have hb76 : In x75 1 511 := ex75 ▸ In.add hb68 (⟨by decide, by decide⟩ : In 1 1 1) (by decide) (by decide) (by decide) (by decide)
                      have et77 : x75.toInt = y102_l5.toInt + 1 := In.adde ex75 hb68 (k := 1) (by decide) (by decide) (by decide)
                      refine lv_iinc (v := x75) (lv' := [(5, .int x75), (0, .ref (ad 255)), (1, .int z1), (2, .int r36), (3, .int y161_l3), (4, .int y161_l4)]) hx hb dX11_canBreak_161 hl (k := 5) rfl (by rw [ex75]; rfl) (by decide) rfl (fun ls hl => ?_)
                      refine lv_goto (tgt := 102) hx hb dX11_canBreak_164 (by decide) ?_
                      exact ih102 zg161_zl zg161_zg y161_l3 y161_l4 x75 _ _ _ _ hy161_l3 hy161_l4 (In.mono hb76 (by decide) (by decide)) hP hD hS (TI.cast hT (by funext q; by_cases hq0 : q = 18; (subst hq0; rfl); by_cases hq1 : q = 14; (subst hq1; rfl); by_cases hq2 : q = 44; (subst hq2; rfl); simp only [gset, if_neg hq0, if_neg hq1, if_neg hq2])) hfr (lv_sub hl [1, 2, 3, 4, 5, 0] rfl) (msu et77 (by decide) hmz102)
                    refine lv_icmp_eq (tgt := 127) hx hb dX11_canBreak_121 (by decide) (fun c78 => ?_) (fun c78 => ?_)
                    ·
                      have cc79 : r70.toInt = r36.toInt := congrArg Int32.toInt c78
                      refine lv_aload_n hx hb dX11_canBreak_127 rfl (lv_at hl 0 rfl) ?_
                      refine lv_iload hx hb dX11_canBreak_128 (lv_at hl 5 rfl) ?_
                      refine pl_put (ty := .int) (v := .int y102_l5) (fs' := [.int v0_52, .ref (ad 256), .int v2_52, .int v3_52, .int v4_52, .int v5_52, .int v6_52, .ref (ad 257), .int v8_52, .int v9_52, .ref (ad 258), .ref (ad 259), .int v12_52, .int v13_52, .int v14_52, .int v15_52, .int v16_52, .int v17_52, .int v18_52, .int v19_52, .int y102_l5, .long v21_52, .long v22_52, .int v23_52, .ref (ad 260), .int v25_52, .ref (ad 261), .ref (ad 262), .ref (ad 263), .ref (ad 264), .ref (ad 265), .ref (ad 266), .ref (ad 267), .ref (ad 268), .ref (ad 269), .ref (ad 270), .int v36_52, .int v37_52, .int v38_52, .int v39_52, .int v40_52, .ref (ad 271), .ref (ad 272), .ref (ad 273), .ref (ad 274), .long v45_52, .long v46_52, .int v47_52, .int v48_52, .ref (ad 275), .int v50_52, .int v51_52, .ref (ad 276), .int v53_52, .ref (ad 277), .int v55_52]) hx hb hts (fun w h => mT (inX11 w h)) tyX11 tyX11_ok nmX11 hown hG.1 hP hD hS (hst.1 255 (by decide)) hf53 rfl 20 (by decide) (hts _ (mT wg_1356)) (fun _ h => h) rfl (by decide +kernel) (rfl) (rfl) (Nat.le_of_ble_eq_true rfl) rfl dX11_canBreak_130 (fun H locs f80 hf81 ho82 hP hD hS => ?_)
                      have hfr : (∀ b, b ≠ (ad 255) → b ≠ (ad 265) → b ≠ (ad 266) → b ≠ (ad 267) → b ≠ (ad 268) → b ≠ (ad 269) → b ≠ (ad 270) → b ≠ (ad 260) → b ≠ (ad 261) → b ≠ (ad 262) → b ≠ (ad 263) → b ≠ (ad 264) → f80 b = f b) := fun b z0_ z1_ z2_ z3_ z4_ z5_ z6_ z7_ z8_ z9_ z10_ z11_ => (ho82 b z0_).trans (hfr b z0_ z1_ z2_ z3_ z4_ z5_ z6_ z7_ z8_ z9_ z10_ z11_)
                      refine lv_aload_n hx hb dX11_canBreak_133 rfl (lv_at hl 0 rfl) ?_
                      have hT := TI.updMG (th' := (gset (gset (gset (gset th 44 zz33) 14 zg102_zl) 18 zg102_zg) 14 (y102_l5.toInt))) hT hst (k := 0) (by decide) hf81 ho82 ⟨v0_52, v2_52, v3_52, v4_52, v5_52, v6_52, v8_52, v9_52, v12_52, v13_52, v14_52, v15_52, v16_52, v17_52, v18_52, v19_52, y102_l5, v21_52, v22_52, v23_52, v25_52, v36_52, v37_52, v38_52, v39_52, v40_52, v45_52, v46_52, v47_52, v48_52, v50_52, v51_52, v53_52, v55_52, rfl, hv0_52, hv2_52, hg2_52, hv3_52, hg3_52, hv4_52, hg4_52, hv5_52, hg5_52, hv6_52, hg6_52, hv8_52, hg8_52, hv9_52, hg9_52, hv12_52, hv13_52, hg13_52, hv14_52, hg14_52, hv15_52, hg15_52, hv17_52, hg17_52, (In.mono hb68 (by decide) (by decide)), rfl, hv23_52, hg23_52, hv25_52, hg25_52, hv36_52, hg36_52, hv47_52, hg47_52, hv48_52, hg48_52, hv53_52, hg53_52, hv55_52, hg55_52, (by rw [hg15_52]; exact Or.inr (by have ob10 : (0 : Int) ≤ (th 10) ∧ (th 10) ≤ 1 := (b0_10 hT :); have ob11 : (0 : Int) ≤ (th 11) ∧ (th 11) ≤ 9 := (b0_11 hT :); have ob12 : (0 : Int) ≤ (th 12) ∧ (th 12) ≤ 6 := (b0_12 hT :); have ob14 : (0 : Int) ≤ zg102_zl ∧ zg102_zl ≤ 511 := (b0_14 hT :); have ob15 : (0 : Int) ≤ (th 15) ∧ (th 15) ≤ 1 := (b0_15 hT :); have ob16 : (0 : Int) ≤ (th 16) ∧ (th 16) ≤ 20 := (b0_16 hT :); have ob17 : (0 : Int) ≤ (th 17) ∧ (th 17) ≤ 1 := (b0_17 hT :); have ob18 : (0 : Int) ≤ zg102_zg ∧ zg102_zg ≤ 18 := (b0_18 hT :); have ob38 : (0 : Int) ≤ (th 38) ∧ (th 38) ≤ 400 := (b0_38 hT :); have ob39 : (0 : Int) ≤ (th 39) ∧ (th 39) ≤ 200 := (b0_39 hT :); have ob44 : (0 : Int) ≤ zz33 ∧ zz33 ≤ 30 := (b0_44 hT :); have orn := rnd_b (th 10); obtain ⟨o0a, o0b⟩ := (hb68 : In _ _ _); obtain ⟨o1a, o1b⟩ := (hv14_52 : In _ _ _); obtain ⟨o2a, o2b⟩ := (hv15_52 : In _ _ _); obtain ⟨o3a, o3b⟩ := (hv17_52 : In _ _ _); obtain ⟨o4a, o4b⟩ := (hv23_52 : In _ _ _); obtain ⟨o5a, o5b⟩ := (hv25_52 : In _ _ _); obtain ⟨o6a, o6b⟩ := (hv36_52 : In _ _ _); obtain ⟨o7a, o7b⟩ := (hv47_52 : In _ _ _); obtain ⟨o8a, o8b⟩ := (hv48_52 : In _ _ _); obtain ⟨o9a, o9b⟩ := (hv53_52 : In _ _ _); obtain ⟨o10a, o10b⟩ := (hv55_52 : In _ _ _); obtain ⟨o11a, o11b⟩ := (hb69 : In _ _ _); obtain ⟨o12a, o12b⟩ := (hb55 : In _ _ _); omega))⟩ (fun q hq => ((gset_ne (fun e => hq (by subst e; decide))).trans rfl))
                      have hT : TI g ad (gset (gset (gset th 44 zz33) 18 zg102_zg) 14 y102_l5.toInt) f80 := TI.cast hT (by funext q; by_cases hq0 : q = 14; (subst hq0; rfl); by_cases hq1 : q = 18; (subst hq1; rfl); by_cases hq2 : q = 44; (subst hq2; rfl); simp only [gset, if_neg hq0, if_neg hq1, if_neg hq2])
                      refine M0e hT (fun v0_83 v2_83 v3_83 v4_83 v5_83 v6_83 v8_83 v9_83 v12_83 v13_83 v14_83 v15_83 v16_83 v17_83 v18_83 v19_83 v20_83 v21_83 v22_83 v23_83 v25_83 v36_83 v37_83 v38_83 v39_83 v40_83 v45_83 v46_83 v47_83 v48_83 v50_83 v51_83 v53_83 v55_83 hf84 hv0_83 hv2_83 hg2_83 hv3_83 hg3_83 hv4_83 hg4_83 hv5_83 hg5_83 hv6_83 hg6_83 hv8_83 hg8_83 hv9_83 hg9_83 hv12_83 hv13_83 hg13_83 hv14_83 hg14_83 hv15_83 hg15_83 hv17_83 hg17_83 hv20_83 hg20_83 hv23_83 hg23_83 hv25_83 hg25_83 hv36_83 hg36_83 hv47_83 hg47_83 hv48_83 hg48_83 hv53_83 hg53_83 hv55_83 hg55_83 hrel0_83 => ?_)
                      have hg15_83 : v15_83.toInt = th 11 := hg15_83
                      have hg17_83 : v17_83.toInt = th 12 := hg17_83
                      have hg20_83 : v20_83.toInt = y102_l5.toInt := hg20_83
                      refine call_i (run_V (rm := rm_X11_breaksSome) hx hb hml hown hts (s_X11_breaksSome l g ad (gset (gset (gset th 44 zz33) 18 zg102_zg) 14 y102_l5.toInt) _ _ _  hst hT (show 3 ≤ th 11 by omega)) cV_X11_breaksSome wg_1862 ⟨Nat.le_of_ble_eq_true rfl, Nat.le_of_ble_eq_true rfl⟩ hG hE hA hP hD hS (hst.1 255 (by decide)) hf84 rfl rfl hl.1 (As := []) (rest := []) rfl (Nat.le_of_ble_eq_true rfl) dX11_canBreak_134 ⟨Nat.le_of_ble_eq_true rfl, Nat.le_of_ble_eq_true rfl⟩) hA hD hS (fun r85 L86 f87 H locs hp88 hP hD hS => ?_)
                      obtain ⟨eL89L, eL89T, eL89F, eL89R⟩ := hp88
                      have eL89L : L86 = L := eL89L
                      rw [eL89L] at hP hD
                      obtain ⟨zz90, hzz90, eL89T⟩ := eL89T
                      have hzz90 : True := hzz90
                      have hT : TI g ad (gset (gset (gset (gset th 44 zz33) 18 zg102_zg) 14 y102_l5.toInt) 18 zz90) f87 := eL89T
                      have hT : TI g ad (gset (gset (gset th 44 zz33) 14 y102_l5.toInt) 18 zz90) f87 := TI.cast hT (by funext q; by_cases hq0 : q = 18; (subst hq0; rfl); by_cases hq1 : q = 14; (subst hq1; rfl); by_cases hq2 : q = 44; (subst hq2; rfl); simp only [gset, if_neg hq0, if_neg hq1, if_neg hq2])
                      have eL89F : ∀ b, b ≠ (ad 255) → b ≠ (ad 265) → b ≠ (ad 266) → b ≠ (ad 267) → b ≠ (ad 268) → b ≠ (ad 269) → b ≠ (ad 270) → b ≠ (ad 261) → b ≠ (ad 262) → b ≠ (ad 263) → b ≠ (ad 264) → f87 b = f80 b := eL89F
                      have hfr : (∀ b, b ≠ (ad 255) → b ≠ (ad 265) → b ≠ (ad 266) → b ≠ (ad 267) → b ≠ (ad 268) → b ≠ (ad 269) → b ≠ (ad 270) → b ≠ (ad 260) → b ≠ (ad 261) → b ≠ (ad 262) → b ≠ (ad 263) → b ≠ (ad 264) → f87 b = f b) := fun b z0_ z1_ z2_ z3_ z4_ z5_ z6_ z7_ z8_ z9_ z10_ z11_ => (eL89F b z0_ z1_ z2_ z3_ z4_ z5_ z6_ z8_ z9_ z10_ z11_).trans (hfr b z0_ z1_ z2_ z3_ z4_ z5_ z6_ z7_ z8_ z9_ z10_ z11_)
                      have eL89R : In r85 0 1 := eL89R
                      refine lv_if_ne (tgt := 143) hx hb dX11_canBreak_137 (by decide) (fun c91 => ?_) (fun c91 => ?_)
                      ·
                        have oc0 : (0 : Int32).toInt = 0 := by decide
                        have cc92 : r85.toInt ≠ (0 : Int32).toInt := i32_ne c91
                        have hb93 : In r85 1 1 := In.ne1 eL89R (⟨by decide, by decide⟩ : In 0 0 0) cc92 (by decide) (by decide)
                        obtain ⟨x94, ex94⟩ : ∃ y : Int32, y = y102_l3 + 1 := ⟨_, rfl⟩
                        refine lv_iinc (v := x94) (lv' := [(3, .int x94), (0, .ref (ad 255)), (1, .int z1), (2, .int r36), (4, .int y102_l4), (5, .int y102_l5)]) hx hb dX11_canBreak_143 hl (k := 3) rfl (by rw [ex94]; rfl) (by decide) rfl (fun ls hl => ?_)
                        refine lv_iload hx hb dX11_canBreak_146 (lv_at hl 4 rfl) ?_
                        refine lv_iconst (v := (-1)) hx hb dX11_canBreak_148 (by decide) ?_
                        have hJ159 : ∀ (y159_s0 : Int32) (H : Heap) (locs : List Loc) (ls : Array Slot), In y159_s0 0 2147483647 → va_P g.1 vwCl (va_pl L f87) H → va_D A (va_pl L f87) → va_S A s.heap H locs → lv_has ls 6 [(0, .ref (ad 255)), (1, .int z1), (2, .int r36), (3, .int x94), (4, .int y102_l4), (5, .int y102_l5)] → W p l e rm_X11_canBreak s m [.ref (ad 255), .int z1].toArray below meth c H locs 0 0 (MQ below (va_Qi (po_X11_canBreak g ad th L f z1) (PstB g A) A) [.ref (ad 255), .int z1].toArray s rm_X11_canBreak.cells rm_X11_canBreak.slots A) (F0 m 159 ls [.int y159_s0]) := by
                          intro y159_s0 H locs ls hy159_s0 hP hD hS hl
                          refine lv_istore (lv' := [(4, .int y159_s0), (0, .ref (ad 255)), (1, .int z1), (2, .int r36), (3, .int x94), (5, .int y102_l5)]) hx hb dX11_canBreak_159 hl (by decide) rfl (fun ls hl => ?_)
                          exact hJ161 y102_l5.toInt zz90 x94 y159_s0 _ _ _ _ (In.full x94) (In.mono hy159_s0 (by decide) (by decide)) hP hD hS (TI.cast hT (by funext q; by_cases hq0 : q = 18; (subst hq0; rfl); by_cases hq1 : q = 14; (subst hq1; rfl); by_cases hq2 : q = 44; (subst hq2; rfl); simp only [gset, if_neg hq0, if_neg hq1, if_neg hq2])) hfr (lv_sub hl [1, 2, 3, 4, 0, 5] rfl)
                        refine lv_icmp_ne (tgt := 157) hx hb dX11_canBreak_149 (by decide) (fun c95 => ?_) (fun c95 => ?_)
                        ·
                          have ocm1 : ((-1) : Int32).toInt = (-1) := by decide
                          have cc96 : y102_l4.toInt ≠ ((-1) : Int32).toInt := i32_ne c95
                          have hb97 : In y102_l4 0 2147483647 := In.ne1 hy102_l4 (⟨by decide, by decide⟩ : In (-1) (-1) (-1)) cc96 (by decide) (by decide)
                          refine lv_iload hx hb dX11_canBreak_157 (lv_at hl 4 rfl) ?_
                          exact hJ159 y102_l4 _ _ _ hb97 hP hD hS (lv_sub hl [1, 2, 3, 0, 4, 5] rfl)
                        ·
                          have ocm1 : ((-1) : Int32).toInt = (-1) := by decide
                          have cc98 : y102_l4.toInt = ((-1) : Int32).toInt := congrArg Int32.toInt c95
                          have hb99 : In y102_l4 (-1) (-1) := In.eq1 hy102_l4 (⟨by decide, by decide⟩ : In (-1) (-1) (-1)) cc98 (by decide) (by decide)
                          refine lv_iload hx hb dX11_canBreak_152 (lv_at hl 5 rfl) ?_
                          refine lv_goto (tgt := 159) hx hb dX11_canBreak_154 (by decide) ?_
                          exact hJ159 y102_l5 _ _ _ (In.mono hb68 (by decide) (by decide)) hP hD hS (lv_sub hl [1, 2, 3, 0, 4, 5] rfl)
                      ·
                        have oc0 : (0 : Int32).toInt = 0 := by decide
                        have cc100 : r85.toInt = (0 : Int32).toInt := congrArg Int32.toInt c91
                        have hb101 : In r85 0 0 := In.eq1 eL89R (⟨by decide, by decide⟩ : In 0 0 0) cc100 (by decide) (by decide)
                        refine lv_goto (tgt := 161) hx hb dX11_canBreak_140 (by decide) ?_
                        exact hJ161 y102_l5.toInt zz90 y102_l3 y102_l4 _ _ _ _ hy102_l3 hy102_l4 hP hD hS (TI.cast hT (by funext q; by_cases hq0 : q = 18; (subst hq0; rfl); by_cases hq1 : q = 14; (subst hq1; rfl); by_cases hq2 : q = 44; (subst hq2; rfl); simp only [gset, if_neg hq0, if_neg hq1, if_neg hq2])) hfr (lv_sub hl [0, 1, 2, 3, 4, 5] rfl)
                    ·
                      have cc102 : r70.toInt ≠ r36.toInt := i32_ne c78
                      refine lv_goto (tgt := 161) hx hb dX11_canBreak_124 (by decide) ?_
                      exact hJ161 zg102_zl zg102_zg y102_l3 y102_l4 _ _ _ _ hy102_l3 hy102_l4 hP hD hS (TI.cast hT (by funext q; by_cases hq0 : q = 18; (subst hq0; rfl); by_cases hq1 : q = 14; (subst hq1; rfl); by_cases hq2 : q = 44; (subst hq2; rfl); simp only [gset, if_neg hq0, if_neg hq1, if_neg hq2])) hfr (lv_sub hl [0, 1, 2, 3, 4, 5] rfl)
              exact hJ102 ((2147483647 - (0 : Int32).toInt).toNat + 1) zg47_zl zg47_zg 0 (-1) 0 _ _ _ _ (⟨by decide, by decide⟩ : In 0 (-2147483648) 2147483647) (⟨by decide, by decide⟩ : In (-1) (-1) 2147483647) (⟨by decide, by decide⟩ : In 0 0 2147483647) hP hD hS (TI.cast hT (by funext q; by_cases hq0 : q = 18; (subst hq0; rfl); by_cases hq1 : q = 14; (subst hq1; rfl); by_cases hq2 : q = 44; (subst hq2; rfl); simp only [gset, if_neg hq0, if_neg hq1, if_neg hq2])) hfr (lv_sub hl [3, 4, 5, 2, 1, 0] rfl) (msI _)
            ·
              have cc103 : y47_l3.toInt < x47.toInt := i32_nle c50
              have hb104 : In y47_l3 0 510 := In.lt1 hy47_l3 hb48 cc103 (by decide) (by decide)
              have hb105 : In x47 1 511 := In.lt2 hy47_l3 hb48 cc103 (by decide) (by decide)
              refine lv_aload_n hx hb dX11_canBreak_59 rfl (lv_at hl 0 rfl) ?_
              refine lv_iload_n hx hb dX11_canBreak_60 rfl (lv_at hl 3 rfl) ?_
              refine pl_put (ty := .int) (v := .int y47_l3) (fs' := [.int v0_42, .ref (ad 256), .int v2_42, .int v3_42, .int v4_42, .int v5_42, .int v6_42, .ref (ad 257), .int v8_42, .int v9_42, .ref (ad 258), .ref (ad 259), .int v12_42, .int v13_42, .int v14_42, .int v15_42, .int v16_42, .int v17_42, .int v18_42, .int v19_42, .int y47_l3, .long v21_42, .long v22_42, .int v23_42, .ref (ad 260), .int v25_42, .ref (ad 261), .ref (ad 262), .ref (ad 263), .ref (ad 264), .ref (ad 265), .ref (ad 266), .ref (ad 267), .ref (ad 268), .ref (ad 269), .ref (ad 270), .int v36_42, .int v37_42, .int v38_42, .int v39_42, .int v40_42, .ref (ad 271), .ref (ad 272), .ref (ad 273), .ref (ad 274), .long v45_42, .long v46_42, .int v47_42, .int v48_42, .ref (ad 275), .int v50_42, .int v51_42, .ref (ad 276), .int v53_42, .ref (ad 277), .int v55_42]) hx hb hts (fun w h => mT (inX11 w h)) tyX11 tyX11_ok nmX11 hown hG.1 hP hD hS (hst.1 255 (by decide)) hf43 rfl 20 (by decide) (hts _ (mT wg_1356)) (fun _ h => h) rfl (by decide +kernel) (rfl) (rfl) (Nat.le_of_ble_eq_true rfl) rfl dX11_canBreak_61 (fun H locs f106 hf107 ho108 hP hD hS => ?_)
              have hfr : (∀ b, b ≠ (ad 255) → b ≠ (ad 265) → b ≠ (ad 266) → b ≠ (ad 267) → b ≠ (ad 268) → b ≠ (ad 269) → b ≠ (ad 270) → b ≠ (ad 260) → b ≠ (ad 261) → b ≠ (ad 262) → b ≠ (ad 263) → b ≠ (ad 264) → f106 b = f b) := fun b z0_ z1_ z2_ z3_ z4_ z5_ z6_ z7_ z8_ z9_ z10_ z11_ => (ho108 b z0_).trans (hfr b z0_ z1_ z2_ z3_ z4_ z5_ z6_ z7_ z8_ z9_ z10_ z11_)
              refine lv_iload_n hx hb dX11_canBreak_64 rfl (lv_at hl 3 rfl) ?_
              have hT := TI.updMG (th' := (gset (gset (gset (gset th 44 zz33) 14 zg47_zl) 18 zg47_zg) 14 (y47_l3.toInt))) hT hst (k := 0) (by decide) hf107 ho108 ⟨v0_42, v2_42, v3_42, v4_42, v5_42, v6_42, v8_42, v9_42, v12_42, v13_42, v14_42, v15_42, v16_42, v17_42, v18_42, v19_42, y47_l3, v21_42, v22_42, v23_42, v25_42, v36_42, v37_42, v38_42, v39_42, v40_42, v45_42, v46_42, v47_42, v48_42, v50_42, v51_42, v53_42, v55_42, rfl, hv0_42, hv2_42, hg2_42, hv3_42, hg3_42, hv4_42, hg4_42, hv5_42, hg5_42, hv6_42, hg6_42, hv8_42, hg8_42, hv9_42, hg9_42, hv12_42, hv13_42, hg13_42, hv14_42, hg14_42, hv15_42, hg15_42, hv17_42, hg17_42, (In.mono hb104 (by decide) (by decide)), rfl, hv23_42, hg23_42, hv25_42, hg25_42, hv36_42, hg36_42, hv47_42, hg47_42, hv48_42, hg48_42, hv53_42, hg53_42, hv55_42, hg55_42, (by rw [hg15_42]; exact Or.inr (by have ob10 : (0 : Int) ≤ (th 10) ∧ (th 10) ≤ 1 := (b0_10 hT :); have ob11 : (0 : Int) ≤ (th 11) ∧ (th 11) ≤ 9 := (b0_11 hT :); have ob12 : (0 : Int) ≤ (th 12) ∧ (th 12) ≤ 6 := (b0_12 hT :); have ob14 : (0 : Int) ≤ zg47_zl ∧ zg47_zl ≤ 511 := (b0_14 hT :); have ob15 : (0 : Int) ≤ (th 15) ∧ (th 15) ≤ 1 := (b0_15 hT :); have ob16 : (0 : Int) ≤ (th 16) ∧ (th 16) ≤ 20 := (b0_16 hT :); have ob17 : (0 : Int) ≤ (th 17) ∧ (th 17) ≤ 1 := (b0_17 hT :); have ob18 : (0 : Int) ≤ zg47_zg ∧ zg47_zg ≤ 18 := (b0_18 hT :); have ob38 : (0 : Int) ≤ (th 38) ∧ (th 38) ≤ 400 := (b0_38 hT :); have ob39 : (0 : Int) ≤ (th 39) ∧ (th 39) ≤ 200 := (b0_39 hT :); have ob44 : (0 : Int) ≤ zz33 ∧ zz33 ≤ 30 := (b0_44 hT :); have orn := rnd_b (th 10); obtain ⟨o0a, o0b⟩ := (hb104 : In _ _ _); obtain ⟨o1a, o1b⟩ := (hv14_42 : In _ _ _); obtain ⟨o2a, o2b⟩ := (hv15_42 : In _ _ _); obtain ⟨o3a, o3b⟩ := (hv17_42 : In _ _ _); obtain ⟨o4a, o4b⟩ := (hv23_42 : In _ _ _); obtain ⟨o5a, o5b⟩ := (hv25_42 : In _ _ _); obtain ⟨o6a, o6b⟩ := (hv36_42 : In _ _ _); obtain ⟨o7a, o7b⟩ := (hv47_42 : In _ _ _); obtain ⟨o8a, o8b⟩ := (hv48_42 : In _ _ _); obtain ⟨o9a, o9b⟩ := (hv53_42 : In _ _ _); obtain ⟨o10a, o10b⟩ := (hv55_42 : In _ _ _); obtain ⟨o11a, o11b⟩ := (hb105 : In _ _ _); obtain ⟨o12a, o12b⟩ := (hb45 : In _ _ _); omega))⟩ (fun q hq => ((gset_ne (fun e => hq (by subst e; decide))).trans rfl))
              have hT : TI g ad (gset (gset (gset th 44 zz33) 18 zg47_zg) 14 y47_l3.toInt) f106 := TI.cast hT (by funext q; by_cases hq0 : q = 14; (subst hq0; rfl); by_cases hq1 : q = 18; (subst hq1; rfl); by_cases hq2 : q = 44; (subst hq2; rfl); simp only [gset, if_neg hq0, if_neg hq1, if_neg hq2])
              refine call_i (run_S (rm := rm_X11_bitsIn) hx hb hml hown hts (s_X11_bitsIn l g ad (gset (gset (gset th 44 zz33) 18 zg47_zg) 14 y47_l3.toInt) _ _ _ y47_l3 hst hT ) cS_X11_bitsIn wg_1827 ⟨Nat.le_of_ble_eq_true rfl, Nat.le_of_ble_eq_true rfl⟩ hG hE hA hP hD hS rfl hl.1 (As := [.int y47_l3]) (rest := []) rfl (Nat.le_of_ble_eq_true rfl) dX11_canBreak_65 ⟨Nat.le_of_ble_eq_true rfl, Nat.le_of_ble_eq_true rfl⟩) hA hD hS (fun r109 L110 f111 H locs hp112 hP hD hS => ?_)
              obtain ⟨eL113L, eL113T, eL113R, eL113X0⟩ := hp112
              have eL113L : L110 = L := eL113L
              have eL113T : f111 = f106 := eL113T
              rw [eL113L, eL113T] at hP hD
              have eL113R : In r109 0 9 := eL113R
              refine lv_iload_n hx hb dX11_canBreak_68 rfl (lv_at hl 2 rfl) ?_
              have hJ88 : ∀ (H : Heap) (locs : List Loc) (ls : Array Slot), va_P g.1 vwCl (va_pl L f106) H → va_D A (va_pl L f106) → va_S A s.heap H locs → lv_has ls 6 [(0, .ref (ad 255)), (1, .int z1), (2, .int r36), (3, .int y47_l3)] → W p l e rm_X11_canBreak s m [.ref (ad 255), .int z1].toArray below meth c H locs 0 0 (MQ below (va_Qi (po_X11_canBreak g ad th L f z1) (PstB g A) A) [.ref (ad 255), .int z1].toArray s rm_X11_canBreak.cells rm_X11_canBreak.slots A) (F0 m 88 ls []) := by
                intro H locs ls hP hD hS hl
                obtain ⟨x114, ex114⟩ : ∃ y : Int32, y = y47_l3 + 1 := ⟨_, rfl⟩
                have hb115 : In x114 1 511 := ex114 ▸ In.add hb104 (⟨by decide, by decide⟩ : In 1 1 1) (by decide) (by decide) (by decide) (by decide)
                have et116 : x114.toInt = y47_l3.toInt + 1 := In.adde ex114 hb104 (k := 1) (by decide) (by decide) (by decide)
                refine lv_iinc (v := x114) (lv' := [(3, .int x114), (0, .ref (ad 255)), (1, .int z1), (2, .int r36)]) hx hb dX11_canBreak_88 hl (k := 3) rfl (by rw [ex114]; rfl) (by decide) rfl (fun ls hl => ?_)
                refine lv_goto (tgt := 47) hx hb dX11_canBreak_91 (by decide) ?_
                exact ih47 y47_l3.toInt zg47_zg x114 _ _ _ _ (In.mono hb115 (by decide) (by decide)) hP hD hS (TI.cast hT (by funext q; by_cases hq0 : q = 14; (subst hq0; rfl); by_cases hq1 : q = 18; (subst hq1; rfl); by_cases hq2 : q = 44; (subst hq2; rfl); simp only [gset, if_neg hq0, if_neg hq1, if_neg hq2])) hfr (lv_sub hl [1, 2, 3, 0] rfl) (msu et116 (by decide) hmz47)
              refine lv_icmp_ne (tgt := 88) hx hb dX11_canBreak_69 (by decide) (fun c117 => ?_) (fun c117 => ?_)
              ·
                have cc118 : r109.toInt ≠ r36.toInt := i32_ne c117
                exact hJ88 _ _ _ hP hD hS (lv_sub hl [0, 1, 2, 3] rfl)
              ·
                have cc119 : r109.toInt = r36.toInt := congrArg Int32.toInt c117
                refine lv_aload_n hx hb dX11_canBreak_72 rfl (lv_at hl 0 rfl) ?_
                refine lv_aload_n hx hb dX11_canBreak_73 rfl (lv_at hl 0 rfl) ?_
                refine M0e hT (fun v0_120 v2_120 v3_120 v4_120 v5_120 v6_120 v8_120 v9_120 v12_120 v13_120 v14_120 v15_120 v16_120 v17_120 v18_120 v19_120 v20_120 v21_120 v22_120 v23_120 v25_120 v36_120 v37_120 v38_120 v39_120 v40_120 v45_120 v46_120 v47_120 v48_120 v50_120 v51_120 v53_120 v55_120 hf121 hv0_120 hv2_120 hg2_120 hv3_120 hg3_120 hv4_120 hg4_120 hv5_120 hg5_120 hv6_120 hg6_120 hv8_120 hg8_120 hv9_120 hg9_120 hv12_120 hv13_120 hg13_120 hv14_120 hg14_120 hv15_120 hg15_120 hv17_120 hg17_120 hv20_120 hg20_120 hv23_120 hg23_120 hv25_120 hg25_120 hv36_120 hg36_120 hv47_120 hg47_120 hv48_120 hg48_120 hv53_120 hg53_120 hv55_120 hg55_120 hrel0_120 => ?_)
                have hg15_120 : v15_120.toInt = th 11 := hg15_120
                have hg17_120 : v17_120.toInt = th 12 := hg17_120
                have hg20_120 : v20_120.toInt = y47_l3.toInt := hg20_120
                refine pl_get (v := .int v17_120) hx hb hts (fun w h => mT (inX11 w h)) hown hG.1 hP (hst.1 255 (by decide)) hf121 rfl 17 (by decide) (hts _ (mT wg_1353)) (fun _ h => h) rfl dX11_canBreak_74 ?_
                refine call_i (run_V (rm := rm_X11_freeIn) hx hb hml hown hts (s_X11_freeIn l g ad (gset (gset (gset th 44 zz33) 18 zg47_zg) 14 y47_l3.toInt) _ _ _ v17_120 hst hT hv17_120 (show 3 ≤ th 11 by omega)) cV_X11_freeIn wg_1823 ⟨Nat.le_of_ble_eq_true rfl, Nat.le_of_ble_eq_true rfl⟩ hG hE hA hP hD hS (hst.1 255 (by decide)) hf121 rfl rfl hl.1 (As := [.int v17_120]) (rest := []) rfl (Nat.le_of_ble_eq_true rfl) dX11_canBreak_77 ⟨Nat.le_of_ble_eq_true rfl, Nat.le_of_ble_eq_true rfl⟩) hA hD hS (fun r122 L123 f124 H locs hp125 hP hD hS => ?_)
                obtain ⟨eL126L, eL126T, eL126X0⟩ := hp125
                have eL126L : L123 = L := eL126L
                have eL126T : f124 = f106 := eL126T
                rw [eL126L, eL126T] at hP hD
                have hfi127 : r122.toInt = frI (rnd (th 10)) (th 11) (y47_l3.toInt) v17_120.toInt := eL126X0
                refine lv_bipush (v := 12) hx hb dX11_canBreak_80 (by decide) ?_
                refine lv_icmp_le (tgt := 88) hx hb dX11_canBreak_82 (by decide) (fun c128 => ?_) (fun c128 => ?_)
                ·
                  have oc12 : (12 : Int32).toInt = 12 := by decide
                  have cc129 : r122.toInt ≤ (12 : Int32).toInt := i32_le.mp c128
                  have hb130 : In r122 (-2147483648) 12 := In.le1 (In.full r122) (⟨by decide, by decide⟩ : In 12 12 12) cc129 (by decide) (by decide)
                  exact hJ88 _ _ _ hP hD hS (lv_sub hl [0, 1, 2, 3] rfl)
                ·
                  have oc12 : (12 : Int32).toInt = 12 := by decide
                  have cc131 : (12 : Int32).toInt < r122.toInt := i32_nle c128
                  have hb132 : In r122 13 2147483647 := In.gt1 (In.full r122) (⟨by decide, by decide⟩ : In 12 12 12) cc131 (by decide) (by decide)
                  refine lv_bipush (v := (-2)) hx hb dX11_canBreak_85 (by decide) ?_
                  exact ret_i (ty := .int) hx hb hr hlocks (rfl) hP hD hS (Nat.le_of_ble_eq_true rfl) (Nat.le_of_ble_eq_true rfl) (⟨rfl, ⟨(gset (gset (gset th 44 zz33) 18 zg47_zg) 14 y47_l3.toInt), ⟨(show MI (gset (gset (gset th 44 zz33) 18 zg47_zg) 14 y47_l3.toInt) from ⟨m1, m2, (show th 20 = (th 12) * rnd (th 10) from m3), m4, m5, m6, m7, m8, m9, m10⟩), (SBM.set (k := 14) (SBM.set (k := 18) (SBM.set (k := 44) (SBM.rf th) (by decide)) (by decide)) (by decide))⟩, hT⟩, hfr⟩) dX11_canBreak_87
        exact hJ47 ((2147483647 - (0 : Int32).toInt).toNat + 1) zz32 zz31 0 _ _ _ _ (⟨by decide, by decide⟩ : In 0 0 2147483647) hP hD hS (TI.cast hT (by funext q; by_cases hq0 : q = 44; (subst hq0; rfl); by_cases hq1 : q = 14; (subst hq1; rfl); by_cases hq2 : q = 18; (subst hq2; rfl); simp only [gset, if_neg hq0, if_neg hq1, if_neg hq2])) hfr (lv_sub hl [2, 3, 1, 0] rfl) (msI _)
      ·
        have oc5 : (5 : Int32).toInt = 5 := by decide
        have cc133 : (5 : Int32).toInt < v15_1.toInt := i32_nle c23
        have hb134 : In v15_1 6 9 := In.gt1 hv15_1 (⟨by decide, by decide⟩ : In 5 5 5) cc133 (by decide) (by decide)
        exact hJ30 _ _ _ hP hD hS (lv_sub hl [0, 1] rfl)

abbrev rm_X11_weakest : Room := { frames := 7, cells := 0, slots := 0, locals := 170 }
abbrev po_X11_weakest (g : GG) (ad : Nat → Nat) (th : Nat → Int) (L : List Nat) (f : HP)  : Int32 → (List Nat × HP) → Prop := fun r u => u.1 = L ∧ (∃ th' : Nat → Int, (MI th' ∧ SBM th th') ∧ TI g ad th' u.2) ∧ (∀ b, b ≠ (ad 255) → b ≠ (ad 265) → b ≠ (ad 266) → b ≠ (ad 267) → b ≠ (ad 268) → b ≠ (ad 269) → b ≠ (ad 270) → b ≠ (ad 260) → b ≠ (ad 261) → b ≠ (ad 262) → b ≠ (ad 263) → b ≠ (ad 264) → u.2 b = f b)
set_option maxHeartbeats 4000000 in
set_option maxRecDepth 100000 in
theorem s_X11_weakest (l : Launch) (g : GG) (ad : Nat → Nat) (th : Nat → Int) (L : List Nat) (f : HP) (sz : Nat)  (hst : ST ad L) (hT : TI g ad th f) (hM : MI th) : MtI l g yX11_weakest cX11_weakest 3 (some .int) rm_X11_weakest [.ref (ad 255)] L f sz (po_X11_weakest g ad th L f ) := by
  refine MtI.of (by decide +kernel) (Nat.le_of_ble_eq_true rfl) ?_
  intro p e s m below meth c A hEn hP hD hS ls hl
  obtain ⟨hx, hb, hr, hml, hown, hlocks, hts, hG, hA, hE, hnm⟩ := hEn
  have hown : s.vm.findClass "RulerWordModel" = some m.cls := hown
  have hl : lv_has ls 3 [(0, .ref (ad 255))] := hl
  have hfr : (∀ b, b ≠ (ad 255) → b ≠ (ad 265) → b ≠ (ad 266) → b ≠ (ad 267) → b ≠ (ad 268) → b ≠ (ad 269) → b ≠ (ad 270) → b ≠ (ad 260) → b ≠ (ad 261) → b ≠ (ad 262) → b ≠ (ad 263) → b ≠ (ad 264) → f b = f b) := fun b z0_ z1_ z2_ z3_ z4_ z5_ z6_ z7_ z8_ z9_ z10_ z11_ => rfl
  have hM0 := hM
  obtain ⟨m1, m2, m3, m4, m5, m6, m7, m8, m9, m10⟩ := hM0
  have m20 := mi20 m2 m3
  refine lv_aload_n hx hb dX11_weakest_0 rfl (lv_at hl 0 rfl) ?_
  refine lv_iconst (v := 0) hx hb dX11_weakest_1 (by decide) ?_
  refine M0e hT (fun v0_1 v2_1 v3_1 v4_1 v5_1 v6_1 v8_1 v9_1 v12_1 v13_1 v14_1 v15_1 v16_1 v17_1 v18_1 v19_1 v20_1 v21_1 v22_1 v23_1 v25_1 v36_1 v37_1 v38_1 v39_1 v40_1 v45_1 v46_1 v47_1 v48_1 v50_1 v51_1 v53_1 v55_1 hf2 hv0_1 hv2_1 hg2_1 hv3_1 hg3_1 hv4_1 hg4_1 hv5_1 hg5_1 hv6_1 hg6_1 hv8_1 hg8_1 hv9_1 hg9_1 hv12_1 hv13_1 hg13_1 hv14_1 hg14_1 hv15_1 hg15_1 hv17_1 hg17_1 hv20_1 hg20_1 hv23_1 hg23_1 hv25_1 hg25_1 hv36_1 hg36_1 hv47_1 hg47_1 hv48_1 hg48_1 hv53_1 hg53_1 hv55_1 hg55_1 hrel0_1 => ?_)
  have hg15_1 : v15_1.toInt = th 11 := hg15_1
  have hg17_1 : v17_1.toInt = th 12 := hg17_1
  have hg20_1 : v20_1.toInt = th 14 := hg20_1
  refine pl_put (ty := .int) (v := .int 0) (fs' := [.int 0, .ref (ad 256), .int v2_1, .int v3_1, .int v4_1, .int v5_1, .int v6_1, .ref (ad 257), .int v8_1, .int v9_1, .ref (ad 258), .ref (ad 259), .int v12_1, .int v13_1, .int v14_1, .int v15_1, .int v16_1, .int v17_1, .int v18_1, .int v19_1, .int v20_1, .long v21_1, .long v22_1, .int v23_1, .ref (ad 260), .int v25_1, .ref (ad 261), .ref (ad 262), .ref (ad 263), .ref (ad 264), .ref (ad 265), .ref (ad 266), .ref (ad 267), .ref (ad 268), .ref (ad 269), .ref (ad 270), .int v36_1, .int v37_1, .int v38_1, .int v39_1, .int v40_1, .ref (ad 271), .ref (ad 272), .ref (ad 273), .ref (ad 274), .long v45_1, .long v46_1, .int v47_1, .int v48_1, .ref (ad 275), .int v50_1, .int v51_1, .ref (ad 276), .int v53_1, .ref (ad 277), .int v55_1]) hx hb hts (fun w h => mT (inX11 w h)) tyX11 tyX11_ok nmX11 hown hG.1 hP hD hS (hst.1 255 (by decide)) hf2 rfl 0 (by decide) (hts _ (mT wg_1336)) (fun _ h => h) rfl (by decide +kernel) (rfl) (rfl) (Nat.le_of_ble_eq_true rfl) rfl dX11_weakest_2 (fun H locs f3 hf4 ho5 hP hD hS => ?_)
  have hfr : (∀ b, b ≠ (ad 255) → b ≠ (ad 265) → b ≠ (ad 266) → b ≠ (ad 267) → b ≠ (ad 268) → b ≠ (ad 269) → b ≠ (ad 270) → b ≠ (ad 260) → b ≠ (ad 261) → b ≠ (ad 262) → b ≠ (ad 263) → b ≠ (ad 264) → f3 b = f b) := fun b z0_ z1_ z2_ z3_ z4_ z5_ z6_ z7_ z8_ z9_ z10_ z11_ => (ho5 b z0_).trans (hfr b z0_ z1_ z2_ z3_ z4_ z5_ z6_ z7_ z8_ z9_ z10_ z11_)
  refine lv_aload_n hx hb dX11_weakest_5 rfl (lv_at hl 0 rfl) ?_
  refine pl_get (v := .int v23_1) hx hb hts (fun w h => mT (inX11 w h)) hown hG.1 hP (hst.1 255 (by decide)) hf4 rfl 23 (by decide) (hts _ (mT wg_1359)) (fun _ h => h) rfl dX11_weakest_6 ?_
  have hg23_1 : v23_1.toInt = th 15 := hg23_1
  have hT := TI.updM hT hst (k := 0) (by decide) hf4 ho5 ⟨0, v2_1, v3_1, v4_1, v5_1, v6_1, v8_1, v9_1, v12_1, v13_1, v14_1, v15_1, v16_1, v17_1, v18_1, v19_1, v20_1, v21_1, v22_1, v23_1, v25_1, v36_1, v37_1, v38_1, v39_1, v40_1, v45_1, v46_1, v47_1, v48_1, v50_1, v51_1, v53_1, v55_1, rfl, (⟨by decide, by decide⟩ : In 0 0 1), hv2_1, hg2_1, hv3_1, hg3_1, hv4_1, hg4_1, hv5_1, hg5_1, hv6_1, hg6_1, hv8_1, hg8_1, hv9_1, hg9_1, hv12_1, hv13_1, hg13_1, hv14_1, hg14_1, hv15_1, hg15_1, hv17_1, hg17_1, hv20_1, hg20_1, hv23_1, hg23_1, hv25_1, hg25_1, hv36_1, hg36_1, hv47_1, hg47_1, hv48_1, hg48_1, hv53_1, hg53_1, hv55_1, hg55_1, hrel0_1⟩
  refine lv_if_ne (tgt := 15) hx hb dX11_weakest_9 (by decide) (fun c6 => ?_) (fun c6 => ?_)
  ·
    have oc0 : (0 : Int32).toInt = 0 := by decide
    have cc7 : v23_1.toInt ≠ (0 : Int32).toInt := i32_ne c6
    have hb8 : In v23_1 1 1 := In.ne1 hv23_1 (⟨by decide, by decide⟩ : In 0 0 0) cc7 (by decide) (by decide)
    refine lv_aload_n hx hb dX11_weakest_15 rfl (lv_at hl 0 rfl) ?_
    refine call_v (run_V (rm := rm_X11_takesUp) hx hb hml hown hts (s_X11_takesUp l g ad th _ _ _  hst hT (show (th 22) = 2126 from (by have ob10 : (0 : Int) ≤ (th 10) ∧ (th 10) ≤ 1 := (b0_10 hT :); have ob11 : (0 : Int) ≤ (th 11) ∧ (th 11) ≤ 9 := (b0_11 hT :); have ob12 : (0 : Int) ≤ (th 12) ∧ (th 12) ≤ 6 := (b0_12 hT :); have ob14 : (0 : Int) ≤ (th 14) ∧ (th 14) ≤ 511 := (b0_14 hT :); have ob15 : (0 : Int) ≤ (th 15) ∧ (th 15) ≤ 1 := (b0_15 hT :); have ob16 : (0 : Int) ≤ (th 16) ∧ (th 16) ≤ 20 := (b0_16 hT :); have ob17 : (0 : Int) ≤ (th 17) ∧ (th 17) ≤ 1 := (b0_17 hT :); have ob18 : (0 : Int) ≤ (th 18) ∧ (th 18) ≤ 18 := (b0_18 hT :); have ob38 : (0 : Int) ≤ (th 38) ∧ (th 38) ≤ 400 := (b0_38 hT :); have ob39 : (0 : Int) ≤ (th 39) ∧ (th 39) ≤ 200 := (b0_39 hT :); have ob44 : (0 : Int) ≤ (th 44) ∧ (th 44) ≤ 30 := (b0_44 hT :); have orn := rnd_b (th 10); obtain ⟨o0a, o0b⟩ := (hv14_1 : In _ _ _); obtain ⟨o1a, o1b⟩ := (hv15_1 : In _ _ _); obtain ⟨o2a, o2b⟩ := (hv17_1 : In _ _ _); obtain ⟨o3a, o3b⟩ := (hv20_1 : In _ _ _); obtain ⟨o4a, o4b⟩ := (hb8 : In _ _ _); obtain ⟨o5a, o5b⟩ := (hv25_1 : In _ _ _); obtain ⟨o6a, o6b⟩ := (hv36_1 : In _ _ _); obtain ⟨o7a, o7b⟩ := (hv47_1 : In _ _ _); obtain ⟨o8a, o8b⟩ := (hv48_1 : In _ _ _); obtain ⟨o9a, o9b⟩ := (hv53_1 : In _ _ _); obtain ⟨o10a, o10b⟩ := (hv55_1 : In _ _ _); omega)) (show (th 20) ≤ 18 from (by have ob10 : (0 : Int) ≤ (th 10) ∧ (th 10) ≤ 1 := (b0_10 hT :); have ob11 : (0 : Int) ≤ (th 11) ∧ (th 11) ≤ 9 := (b0_11 hT :); have ob12 : (0 : Int) ≤ (th 12) ∧ (th 12) ≤ 6 := (b0_12 hT :); have ob14 : (0 : Int) ≤ (th 14) ∧ (th 14) ≤ 511 := (b0_14 hT :); have ob15 : (0 : Int) ≤ (th 15) ∧ (th 15) ≤ 1 := (b0_15 hT :); have ob16 : (0 : Int) ≤ (th 16) ∧ (th 16) ≤ 20 := (b0_16 hT :); have ob17 : (0 : Int) ≤ (th 17) ∧ (th 17) ≤ 1 := (b0_17 hT :); have ob18 : (0 : Int) ≤ (th 18) ∧ (th 18) ≤ 18 := (b0_18 hT :); have ob38 : (0 : Int) ≤ (th 38) ∧ (th 38) ≤ 400 := (b0_38 hT :); have ob39 : (0 : Int) ≤ (th 39) ∧ (th 39) ≤ 200 := (b0_39 hT :); have ob44 : (0 : Int) ≤ (th 44) ∧ (th 44) ≤ 30 := (b0_44 hT :); have orn := rnd_b (th 10); obtain ⟨o0a, o0b⟩ := (hv14_1 : In _ _ _); obtain ⟨o1a, o1b⟩ := (hv15_1 : In _ _ _); obtain ⟨o2a, o2b⟩ := (hv17_1 : In _ _ _); obtain ⟨o3a, o3b⟩ := (hv20_1 : In _ _ _); obtain ⟨o4a, o4b⟩ := (hb8 : In _ _ _); obtain ⟨o5a, o5b⟩ := (hv25_1 : In _ _ _); obtain ⟨o6a, o6b⟩ := (hv36_1 : In _ _ _); obtain ⟨o7a, o7b⟩ := (hv47_1 : In _ _ _); obtain ⟨o8a, o8b⟩ := (hv48_1 : In _ _ _); obtain ⟨o9a, o9b⟩ := (hv53_1 : In _ _ _); obtain ⟨o10a, o10b⟩ := (hv55_1 : In _ _ _); omega)) (show (th 21) = (th 11) from (by have ob10 : (0 : Int) ≤ (th 10) ∧ (th 10) ≤ 1 := (b0_10 hT :); have ob11 : (0 : Int) ≤ (th 11) ∧ (th 11) ≤ 9 := (b0_11 hT :); have ob12 : (0 : Int) ≤ (th 12) ∧ (th 12) ≤ 6 := (b0_12 hT :); have ob14 : (0 : Int) ≤ (th 14) ∧ (th 14) ≤ 511 := (b0_14 hT :); have ob15 : (0 : Int) ≤ (th 15) ∧ (th 15) ≤ 1 := (b0_15 hT :); have ob16 : (0 : Int) ≤ (th 16) ∧ (th 16) ≤ 20 := (b0_16 hT :); have ob17 : (0 : Int) ≤ (th 17) ∧ (th 17) ≤ 1 := (b0_17 hT :); have ob18 : (0 : Int) ≤ (th 18) ∧ (th 18) ≤ 18 := (b0_18 hT :); have ob38 : (0 : Int) ≤ (th 38) ∧ (th 38) ≤ 400 := (b0_38 hT :); have ob39 : (0 : Int) ≤ (th 39) ∧ (th 39) ≤ 200 := (b0_39 hT :); have ob44 : (0 : Int) ≤ (th 44) ∧ (th 44) ≤ 30 := (b0_44 hT :); have orn := rnd_b (th 10); obtain ⟨o0a, o0b⟩ := (hv14_1 : In _ _ _); obtain ⟨o1a, o1b⟩ := (hv15_1 : In _ _ _); obtain ⟨o2a, o2b⟩ := (hv17_1 : In _ _ _); obtain ⟨o3a, o3b⟩ := (hv20_1 : In _ _ _); obtain ⟨o4a, o4b⟩ := (hb8 : In _ _ _); obtain ⟨o5a, o5b⟩ := (hv25_1 : In _ _ _); obtain ⟨o6a, o6b⟩ := (hv36_1 : In _ _ _); obtain ⟨o7a, o7b⟩ := (hv47_1 : In _ _ _); obtain ⟨o8a, o8b⟩ := (hv48_1 : In _ _ _); obtain ⟨o9a, o9b⟩ := (hv53_1 : In _ _ _); obtain ⟨o10a, o10b⟩ := (hv55_1 : In _ _ _); omega))) cV_X11_takesUp wg_1648 ⟨Nat.le_of_ble_eq_true rfl, Nat.le_of_ble_eq_true rfl⟩ hG hE hA hP hD hS (hst.1 255 (by decide)) hf4 rfl rfl hl.1 (As := []) (rest := []) rfl (Nat.le_of_ble_eq_true rfl) dX11_weakest_16 ⟨Nat.le_of_ble_eq_true rfl, Nat.le_of_ble_eq_true rfl⟩) hA hD hS (fun L10 f11 H locs hp12 hP hD hS => ?_)
    obtain ⟨eL13L, eL13T, eL13F⟩ := hp12
    have eL13L : L10 = L := eL13L
    rw [eL13L] at hP hD
    obtain ⟨zz14, zz15, zz16, hzz14, eL13T⟩ := eL13T
    have hzz14 : ((zz14 = (th 19) ∧ 0 ≤ zz14 ∧ zz14 ≤ (th 20)) ∧ (0 ≤ zz15 ∧ zz15 ≤ 511)) ∧ capI zz15 ((th 11)) := hzz14
    have hT : TI g ad (gset (gset (gset th 18 zz14) 14 zz15) 44 zz16) f11 := eL13T
    have eL13F : ∀ b, b ≠ (ad 255) → b ≠ (ad 265) → b ≠ (ad 266) → b ≠ (ad 267) → b ≠ (ad 269) → b ≠ (ad 260) → b ≠ (ad 261) → b ≠ (ad 262) → b ≠ (ad 263) → b ≠ (ad 264) → f11 b = f3 b := eL13F
    have hfr : (∀ b, b ≠ (ad 255) → b ≠ (ad 265) → b ≠ (ad 266) → b ≠ (ad 267) → b ≠ (ad 268) → b ≠ (ad 269) → b ≠ (ad 270) → b ≠ (ad 260) → b ≠ (ad 261) → b ≠ (ad 262) → b ≠ (ad 263) → b ≠ (ad 264) → f11 b = f b) := fun b z0_ z1_ z2_ z3_ z4_ z5_ z6_ z7_ z8_ z9_ z10_ z11_ => (eL13F b z0_ z1_ z2_ z3_ z5_ z7_ z8_ z9_ z10_ z11_).trans (hfr b z0_ z1_ z2_ z3_ z4_ z5_ z6_ z7_ z8_ z9_ z10_ z11_)
    have hcapw := hzz14.2
    have hcapz := hzz14.1
    refine lv_aload_n hx hb dX11_weakest_19 rfl (lv_at hl 0 rfl) ?_
    refine M0e hT (fun v0_17 v2_17 v3_17 v4_17 v5_17 v6_17 v8_17 v9_17 v12_17 v13_17 v14_17 v15_17 v16_17 v17_17 v18_17 v19_17 v20_17 v21_17 v22_17 v23_17 v25_17 v36_17 v37_17 v38_17 v39_17 v40_17 v45_17 v46_17 v47_17 v48_17 v50_17 v51_17 v53_17 v55_17 hf18 hv0_17 hv2_17 hg2_17 hv3_17 hg3_17 hv4_17 hg4_17 hv5_17 hg5_17 hv6_17 hg6_17 hv8_17 hg8_17 hv9_17 hg9_17 hv12_17 hv13_17 hg13_17 hv14_17 hg14_17 hv15_17 hg15_17 hv17_17 hg17_17 hv20_17 hg20_17 hv23_17 hg23_17 hv25_17 hg25_17 hv36_17 hg36_17 hv47_17 hg47_17 hv48_17 hg48_17 hv53_17 hg53_17 hv55_17 hg55_17 hrel0_17 => ?_)
    have hg15_17 : v15_17.toInt = th 11 := hg15_17
    have hg17_17 : v17_17.toInt = th 12 := hg17_17
    have hg20_17 : v20_17.toInt = zz15 := hg20_17
    refine pl_get (v := .int v20_17) hx hb hts (fun w h => mT (inX11 w h)) hown hG.1 hP (hst.1 255 (by decide)) hf18 rfl 20 (by decide) (hts _ (mT wg_1356)) (fun _ h => h) rfl dX11_weakest_20 ?_
    refine lv_istore_n (lv' := [(1, .int v20_17), (0, .ref (ad 255))]) hx hb dX11_weakest_23 rfl hl (by decide) rfl (fun ls hl => ?_)
    refine lv_iconst (v := 0) hx hb dX11_weakest_24 (by decide) ?_
    refine lv_istore_n (lv' := [(2, .int 0), (1, .int v20_17), (0, .ref (ad 255))]) hx hb dX11_weakest_25 rfl hl (by decide) rfl (fun ls hl => ?_)
    have hJ26 : ∀ (k26 : Nat) (zg26_zl : Int) (zg26_zg : Int) (y26_l2 : Int32) (f_26 : HP) (H : Heap) (locs : List Loc) (ls : Array Slot), In y26_l2 0 9 → va_P g.1 vwCl (va_pl L f_26) H → va_D A (va_pl L f_26) → va_S A s.heap H locs → TI g ad (gset (gset (gset th 44 zz16) 14 zg26_zl) 18 zg26_zg) f_26 → (∀ b, b ≠ (ad 255) → b ≠ (ad 265) → b ≠ (ad 266) → b ≠ (ad 267) → b ≠ (ad 268) → b ≠ (ad 269) → b ≠ (ad 270) → b ≠ (ad 260) → b ≠ (ad 261) → b ≠ (ad 262) → b ≠ (ad 263) → b ≠ (ad 264) → f_26 b = f b) → lv_has ls 3 [(0, .ref (ad 255)), (1, .int v20_17), (2, .int y26_l2)] → 9 - y26_l2.toInt < ((k26 : Nat) : Int) → W p l e rm_X11_weakest s m [.ref (ad 255)].toArray below meth c H locs 0 0 (MQ below (va_Qi (po_X11_weakest g ad th L f ) (PstB g A) A) [.ref (ad 255)].toArray s rm_X11_weakest.cells rm_X11_weakest.slots A) (F0 m 26 ls []) := by
      intro k26
      induction k26 with
      | zero =>
        intro zg26_zl zg26_zg y26_l2 f_26 H locs ls hy26_l2 hP hD hS hT hfr hl hmz26
        exact ms0 hy26_l2 hmz26
      | succ k26 ih26 =>
        intro zg26_zl zg26_zg y26_l2 f_26 H locs ls hy26_l2 hP hD hS hT hfr hl hmz26
        refine lv_iload_n hx hb dX11_weakest_26 rfl (lv_at hl 2 rfl) ?_
        refine lv_aload_n hx hb dX11_weakest_27 rfl (lv_at hl 0 rfl) ?_
        refine M0e hT (fun v0_19 v2_19 v3_19 v4_19 v5_19 v6_19 v8_19 v9_19 v12_19 v13_19 v14_19 v15_19 v16_19 v17_19 v18_19 v19_19 v20_19 v21_19 v22_19 v23_19 v25_19 v36_19 v37_19 v38_19 v39_19 v40_19 v45_19 v46_19 v47_19 v48_19 v50_19 v51_19 v53_19 v55_19 hf20 hv0_19 hv2_19 hg2_19 hv3_19 hg3_19 hv4_19 hg4_19 hv5_19 hg5_19 hv6_19 hg6_19 hv8_19 hg8_19 hv9_19 hg9_19 hv12_19 hv13_19 hg13_19 hv14_19 hg14_19 hv15_19 hg15_19 hv17_19 hg17_19 hv20_19 hg20_19 hv23_19 hg23_19 hv25_19 hg25_19 hv36_19 hg36_19 hv47_19 hg47_19 hv48_19 hg48_19 hv53_19 hg53_19 hv55_19 hg55_19 hrel0_19 => ?_)
        have hg15_19 : v15_19.toInt = th 11 := hg15_19
        have hg17_19 : v17_19.toInt = th 12 := hg17_19
        have hg20_19 : v20_19.toInt = zg26_zl := hg20_19
        refine pl_get (v := .int v15_19) hx hb hts (fun w h => mT (inX11 w h)) hown hG.1 hP (hst.1 255 (by decide)) hf20 rfl 15 (by decide) (hts _ (mT wg_1351)) (fun _ h => h) rfl dX11_weakest_28 ?_
        refine lv_icmp_ge (tgt := 92) hx hb dX11_weakest_31 (by decide) (fun c21 => ?_) (fun c21 => ?_)
        ·
          have cc22 : v15_19.toInt ≤ y26_l2.toInt := i32_le.mp c21
          refine lv_iconst (v := 0) hx hb dX11_weakest_92 (by decide) ?_
          refine lv_istore_n (lv' := [(2, .int 0), (0, .ref (ad 255)), (1, .int v20_17)]) hx hb dX11_weakest_93 rfl hl (by decide) rfl (fun ls hl => ?_)
          have hJ94 : ∀ (k94 : Nat) (zg94_zl : Int) (zg94_zg : Int) (y94_l2 : Int32) (f_94 : HP) (H : Heap) (locs : List Loc) (ls : Array Slot), In y94_l2 0 9 → va_P g.1 vwCl (va_pl L f_94) H → va_D A (va_pl L f_94) → va_S A s.heap H locs → TI g ad (gset (gset (gset th 44 zz16) 14 zg94_zl) 18 zg94_zg) f_94 → (∀ b, b ≠ (ad 255) → b ≠ (ad 265) → b ≠ (ad 266) → b ≠ (ad 267) → b ≠ (ad 268) → b ≠ (ad 269) → b ≠ (ad 270) → b ≠ (ad 260) → b ≠ (ad 261) → b ≠ (ad 262) → b ≠ (ad 263) → b ≠ (ad 264) → f_94 b = f b) → lv_has ls 3 [(0, .ref (ad 255)), (1, .int v20_17), (2, .int y94_l2)] → 9 - y94_l2.toInt < ((k94 : Nat) : Int) → W p l e rm_X11_weakest s m [.ref (ad 255)].toArray below meth c H locs 0 0 (MQ below (va_Qi (po_X11_weakest g ad th L f ) (PstB g A) A) [.ref (ad 255)].toArray s rm_X11_weakest.cells rm_X11_weakest.slots A) (F0 m 94 ls []) := by
            intro k94
            induction k94 with
            | zero =>
              intro zg94_zl zg94_zg y94_l2 f_94 H locs ls hy94_l2 hP hD hS hT hfr hl hmz94
              exact ms0 hy94_l2 hmz94
            | succ k94 ih94 =>
              intro zg94_zl zg94_zg y94_l2 f_94 H locs ls hy94_l2 hP hD hS hT hfr hl hmz94
              refine lv_iload_n hx hb dX11_weakest_94 rfl (lv_at hl 2 rfl) ?_
              refine lv_aload_n hx hb dX11_weakest_95 rfl (lv_at hl 0 rfl) ?_
              refine M0e hT (fun v0_23 v2_23 v3_23 v4_23 v5_23 v6_23 v8_23 v9_23 v12_23 v13_23 v14_23 v15_23 v16_23 v17_23 v18_23 v19_23 v20_23 v21_23 v22_23 v23_23 v25_23 v36_23 v37_23 v38_23 v39_23 v40_23 v45_23 v46_23 v47_23 v48_23 v50_23 v51_23 v53_23 v55_23 hf24 hv0_23 hv2_23 hg2_23 hv3_23 hg3_23 hv4_23 hg4_23 hv5_23 hg5_23 hv6_23 hg6_23 hv8_23 hg8_23 hv9_23 hg9_23 hv12_23 hv13_23 hg13_23 hv14_23 hg14_23 hv15_23 hg15_23 hv17_23 hg17_23 hv20_23 hg20_23 hv23_23 hg23_23 hv25_23 hg25_23 hv36_23 hg36_23 hv47_23 hg47_23 hv48_23 hg48_23 hv53_23 hg53_23 hv55_23 hg55_23 hrel0_23 => ?_)
              have hg15_23 : v15_23.toInt = th 11 := hg15_23
              have hg17_23 : v17_23.toInt = th 12 := hg17_23
              have hg20_23 : v20_23.toInt = zg94_zl := hg20_23
              refine pl_get (v := .int v15_23) hx hb hts (fun w h => mT (inX11 w h)) hown hG.1 hP (hst.1 255 (by decide)) hf24 rfl 15 (by decide) (hts _ (mT wg_1351)) (fun _ h => h) rfl dX11_weakest_96 ?_
              refine lv_icmp_ge (tgt := 154) hx hb dX11_weakest_99 (by decide) (fun c25 => ?_) (fun c25 => ?_)
              ·
                have cc26 : v15_23.toInt ≤ y94_l2.toInt := i32_le.mp c25
                refine lv_iconst (v := (-1)) hx hb dX11_weakest_154 (by decide) ?_
                exact ret_i (ty := .int) hx hb hr hlocks (rfl) hP hD hS (Nat.le_of_ble_eq_true rfl) (Nat.le_of_ble_eq_true rfl) (⟨rfl, ⟨(gset (gset (gset th 44 zz16) 14 zg94_zl) 18 zg94_zg), ⟨(show MI (gset (gset (gset th 44 zz16) 14 zg94_zl) 18 zg94_zg) from ⟨m1, m2, (show th 20 = (th 12) * rnd (th 10) from m3), m4, m5, m6, m7, m8, m9, m10⟩), (SBM.set (k := 18) (SBM.set (k := 14) (SBM.set (k := 44) (SBM.rf th) (by decide)) (by decide)) (by decide))⟩, hT⟩, hfr⟩) dX11_weakest_155
              ·
                have cc27 : y94_l2.toInt < v15_23.toInt := i32_nle c25
                have hb28 : In y94_l2 0 8 := In.lt1 hy94_l2 hv15_23 cc27 (by decide) (by decide)
                have hb29 : In v15_23 1 9 := In.lt2 hy94_l2 hv15_23 cc27 (by decide) (by decide)
                refine lv_iload_n hx hb dX11_weakest_102 rfl (lv_at hl 1 rfl) ?_
                refine lv_iload_n hx hb dX11_weakest_103 rfl (lv_at hl 2 rfl) ?_
                refine call_i (run_S (rm := rm_X11_has) hx hb hml hown hts (s_X11_has l g ad (gset (gset (gset th 44 zz16) 14 zg94_zl) 18 zg94_zg) _ _ _ v20_17 y94_l2 hst hT ) cS_X11_has wg_1563 ⟨Nat.le_of_ble_eq_true rfl, Nat.le_of_ble_eq_true rfl⟩ hG hE hA hP hD hS rfl hl.1 (As := [.int v20_17, .int y94_l2]) (rest := []) rfl (Nat.le_of_ble_eq_true rfl) dX11_weakest_104 ⟨Nat.le_of_ble_eq_true rfl, Nat.le_of_ble_eq_true rfl⟩) hA hD hS (fun r30 L31 f32 H locs hp33 hP hD hS => ?_)
                obtain ⟨eL34L, eL34T, eL34R, eL34X0⟩ := hp33
                have eL34L : L31 = L := eL34L
                have eL34T : f32 = f_94 := eL34T
                rw [eL34L, eL34T] at hP hD
                have eL34R : In r30 0 1 := eL34R
                have hbt35 : r30.toInt = bitI zz15 y94_l2.toInt := (eL34X0 (Int.le_trans (by decide) hv20_17.1) (In.mono hb28 (by decide) (by decide))).trans (by rw [hg20_17])
                have hJ148 : ∀ (zg148_zl : Int) (zg148_zg : Int) (f_148 : HP) (H : Heap) (locs : List Loc) (ls : Array Slot), va_P g.1 vwCl (va_pl L f_148) H → va_D A (va_pl L f_148) → va_S A s.heap H locs → TI g ad (gset (gset (gset th 44 zz16) 14 zg148_zl) 18 zg148_zg) f_148 → (∀ b, b ≠ (ad 255) → b ≠ (ad 265) → b ≠ (ad 266) → b ≠ (ad 267) → b ≠ (ad 268) → b ≠ (ad 269) → b ≠ (ad 270) → b ≠ (ad 260) → b ≠ (ad 261) → b ≠ (ad 262) → b ≠ (ad 263) → b ≠ (ad 264) → f_148 b = f b) → lv_has ls 3 [(0, .ref (ad 255)), (1, .int v20_17), (2, .int y94_l2)] → W p l e rm_X11_weakest s m [.ref (ad 255)].toArray below meth c H locs 0 0 (MQ below (va_Qi (po_X11_weakest g ad th L f ) (PstB g A) A) [.ref (ad 255)].toArray s rm_X11_weakest.cells rm_X11_weakest.slots A) (F0 m 148 ls []) := by
                  intro zg148_zl zg148_zg f_148 H locs ls hP hD hS hT hfr hl
                  obtain ⟨x36, ex36⟩ : ∃ y : Int32, y = y94_l2 + 1 := ⟨_, rfl⟩
                  have hb37 : In x36 1 9 := ex36 ▸ In.add hb28 (⟨by decide, by decide⟩ : In 1 1 1) (by decide) (by decide) (by decide) (by decide)
                  have et38 : x36.toInt = y94_l2.toInt + 1 := In.adde ex36 hb28 (k := 1) (by decide) (by decide) (by decide)
                  refine lv_iinc (v := x36) (lv' := [(2, .int x36), (0, .ref (ad 255)), (1, .int v20_17)]) hx hb dX11_weakest_148 hl (k := 2) rfl (by rw [ex36]; rfl) (by decide) rfl (fun ls hl => ?_)
                  refine lv_goto (tgt := 94) hx hb dX11_weakest_151 (by decide) ?_
                  exact ih94 zg148_zl zg148_zg x36 _ _ _ _ (In.mono hb37 (by decide) (by decide)) hP hD hS (TI.cast hT (by funext q; by_cases hq0 : q = 18; (subst hq0; rfl); by_cases hq1 : q = 14; (subst hq1; rfl); by_cases hq2 : q = 44; (subst hq2; rfl); simp only [gset, if_neg hq0, if_neg hq1, if_neg hq2])) hfr (lv_sub hl [1, 2, 0] rfl) (msu et38 (by decide) hmz94)
                refine lv_if_ne (tgt := 148) hx hb dX11_weakest_107 (by decide) (fun c39 => ?_) (fun c39 => ?_)
                ·
                  have oc0 : (0 : Int32).toInt = 0 := by decide
                  have cc40 : r30.toInt ≠ (0 : Int32).toInt := i32_ne c39
                  have hb41 : In r30 1 1 := In.ne1 eL34R (⟨by decide, by decide⟩ : In 0 0 0) cc40 (by decide) (by decide)
                  exact hJ148 zg94_zl zg94_zg _ _ _ _ hP hD hS (TI.cast hT (by funext q; by_cases hq0 : q = 18; (subst hq0; rfl); by_cases hq1 : q = 14; (subst hq1; rfl); by_cases hq2 : q = 44; (subst hq2; rfl); simp only [gset, if_neg hq0, if_neg hq1, if_neg hq2])) hfr (lv_sub hl [0, 1, 2] rfl)
                ·
                  have oc0 : (0 : Int32).toInt = 0 := by decide
                  have cc42 : r30.toInt = (0 : Int32).toInt := congrArg Int32.toInt c39
                  have hb43 : In r30 0 0 := In.eq1 eL34R (⟨by decide, by decide⟩ : In 0 0 0) cc42 (by decide) (by decide)
                  refine lv_iload_n hx hb dX11_weakest_110 rfl (lv_at hl 1 rfl) ?_
                  refine lv_iconst (v := 1) hx hb dX11_weakest_111 (by decide) ?_
                  refine lv_iload_n hx hb dX11_weakest_112 rfl (lv_at hl 2 rfl) ?_
                  refine lv_ishl hx hb dX11_weakest_113 ?_
                  refine lv_topi (fun x44 ex44 => ?_)
                  have hb45 : In x44 1 256 := ex44 ▸ In.shl (⟨by decide, by decide⟩ : In 1 1 1) hb28 (by decide) (by decide) (by decide) (by decide) (by decide) (by decide)
                  refine lv_ior hx hb dX11_weakest_114 ?_
                  refine lv_topi (fun x46 ex46 => ?_)
                  have hb47 : In x46 0 511 := ex46 ▸ In.or 9 hv20_17 hb45 (by decide) (by decide) (by decide) (by decide) (by decide)
                  refine lv_iconst (v := 1) hx hb dX11_weakest_115 (by decide) ?_
                  refine lv_aload_n hx hb dX11_weakest_116 rfl (lv_at hl 0 rfl) ?_
                  refine pl_get (v := .int v15_23) hx hb hts (fun w h => mT (inX11 w h)) hown hG.1 hP (hst.1 255 (by decide)) hf24 rfl 15 (by decide) (hts _ (mT wg_1351)) (fun _ h => h) rfl dX11_weakest_117 ?_
                  refine lv_ishl hx hb dX11_weakest_120 ?_
                  refine lv_topi (fun x48 ex48 => ?_)
                  have hb49 : In x48 2 512 := ex48 ▸ In.shl (⟨by decide, by decide⟩ : In 1 1 1) hb29 (by decide) (by decide) (by decide) (by decide) (by decide) (by decide)
                  have hsh50 : x48.toInt = 2 ^ (th 11).toNat := by rw [(shl1 (d := 9) ex48 (In.mono hb29 (by decide) (by decide)) (by decide)).2, hg15_23]
                  refine lv_iconst (v := 1) hx hb dX11_weakest_121 (by decide) ?_
                  refine lv_isub hx hb dX11_weakest_122 ?_
                  refine lv_topi (fun x51 ex51 => ?_)
                  have hb52 : In x51 1 511 := ex51 ▸ In.sub hb49 (⟨by decide, by decide⟩ : In 1 1 1) (by decide) (by decide) (by decide) (by decide)
                  have et53 : x51.toInt = x48.toInt + (-1) := In.sube ex51 hb49 (k := 1) (by decide) (by decide) (by decide)
                  refine lv_icmp_ne (tgt := 129) hx hb dX11_weakest_123 (by decide) (fun c54 => ?_) (fun c54 => ?_)
                  ·
                    have cc55 : x46.toInt ≠ x51.toInt := i32_ne c54
                    refine lv_aload_n hx hb dX11_weakest_129 rfl (lv_at hl 0 rfl) ?_
                    refine lv_iload_n hx hb dX11_weakest_130 rfl (lv_at hl 1 rfl) ?_
                    refine lv_iconst (v := 1) hx hb dX11_weakest_131 (by decide) ?_
                    refine lv_iload_n hx hb dX11_weakest_132 rfl (lv_at hl 2 rfl) ?_
                    refine lv_ishl hx hb dX11_weakest_133 ?_
                    refine lv_topi (fun x56 ex56 => ?_)
                    obtain rfl : x44 = x56 := ex44.trans ex56.symm
                    refine lv_ior hx hb dX11_weakest_134 ?_
                    refine lv_topi (fun x57 ex57 => ?_)
                    obtain rfl : x46 = x57 := ex46.trans ex57.symm
                    have hwk58 := wk_or (n := th 11) ex44 ex46 hb28 (by omega) (by have ob10 : (0 : Int) ≤ (th 10) ∧ (th 10) ≤ 1 := (b0_10 hT :); have ob11 : (0 : Int) ≤ (th 11) ∧ (th 11) ≤ 9 := (b0_11 hT :); have ob12 : (0 : Int) ≤ (th 12) ∧ (th 12) ≤ 6 := (b0_12 hT :); have ob14 : (0 : Int) ≤ zg94_zl ∧ zg94_zl ≤ 511 := (b0_14 hT :); have ob15 : (0 : Int) ≤ (th 15) ∧ (th 15) ≤ 1 := (b0_15 hT :); have ob16 : (0 : Int) ≤ (th 16) ∧ (th 16) ≤ 20 := (b0_16 hT :); have ob17 : (0 : Int) ≤ (th 17) ∧ (th 17) ≤ 1 := (b0_17 hT :); have ob18 : (0 : Int) ≤ zg94_zg ∧ zg94_zg ≤ 18 := (b0_18 hT :); have ob38 : (0 : Int) ≤ (th 38) ∧ (th 38) ≤ 400 := (b0_38 hT :); have ob39 : (0 : Int) ≤ (th 39) ∧ (th 39) ≤ 200 := (b0_39 hT :); have ob44 : (0 : Int) ≤ zz16 ∧ zz16 ≤ 30 := (b0_44 hT :); have orn := rnd_b (th 10); obtain ⟨o0a, o0b⟩ := (hb28 : In _ _ _); obtain ⟨o1a, o1b⟩ := (hv14_23 : In _ _ _); obtain ⟨o2a, o2b⟩ := (hb29 : In _ _ _); obtain ⟨o3a, o3b⟩ := (hv17_23 : In _ _ _); obtain ⟨o4a, o4b⟩ := (hv20_23 : In _ _ _); obtain ⟨o5a, o5b⟩ := (hv23_23 : In _ _ _); obtain ⟨o6a, o6b⟩ := (hv25_23 : In _ _ _); obtain ⟨o7a, o7b⟩ := (hv36_23 : In _ _ _); obtain ⟨o8a, o8b⟩ := (hv47_23 : In _ _ _); obtain ⟨o9a, o9b⟩ := (hv48_23 : In _ _ _); obtain ⟨o10a, o10b⟩ := (hv53_23 : In _ _ _); obtain ⟨o11a, o11b⟩ := (hv55_23 : In _ _ _); omega) ⟨(Int.le_trans (by decide) hv20_17.1), hv20_17.2, by rw [hg20_17]; exact hcapw⟩ (by have ob10 : (0 : Int) ≤ (th 10) ∧ (th 10) ≤ 1 := (b0_10 hT :); have ob11 : (0 : Int) ≤ (th 11) ∧ (th 11) ≤ 9 := (b0_11 hT :); have ob12 : (0 : Int) ≤ (th 12) ∧ (th 12) ≤ 6 := (b0_12 hT :); have ob14 : (0 : Int) ≤ zg94_zl ∧ zg94_zl ≤ 511 := (b0_14 hT :); have ob15 : (0 : Int) ≤ (th 15) ∧ (th 15) ≤ 1 := (b0_15 hT :); have ob16 : (0 : Int) ≤ (th 16) ∧ (th 16) ≤ 20 := (b0_16 hT :); have ob17 : (0 : Int) ≤ (th 17) ∧ (th 17) ≤ 1 := (b0_17 hT :); have ob18 : (0 : Int) ≤ zg94_zg ∧ zg94_zg ≤ 18 := (b0_18 hT :); have ob38 : (0 : Int) ≤ (th 38) ∧ (th 38) ≤ 400 := (b0_38 hT :); have ob39 : (0 : Int) ≤ (th 39) ∧ (th 39) ≤ 200 := (b0_39 hT :); have ob44 : (0 : Int) ≤ zz16 ∧ zz16 ≤ 30 := (b0_44 hT :); have orn := rnd_b (th 10); obtain ⟨o0a, o0b⟩ := (hb47 : In _ _ _); obtain ⟨o1a, o1b⟩ := (hv14_23 : In _ _ _); obtain ⟨o2a, o2b⟩ := (hb29 : In _ _ _); obtain ⟨o3a, o3b⟩ := (hv17_23 : In _ _ _); obtain ⟨o4a, o4b⟩ := (hv20_23 : In _ _ _); obtain ⟨o5a, o5b⟩ := (hv23_23 : In _ _ _); obtain ⟨o6a, o6b⟩ := (hv25_23 : In _ _ _); obtain ⟨o7a, o7b⟩ := (hv36_23 : In _ _ _); obtain ⟨o8a, o8b⟩ := (hv47_23 : In _ _ _); obtain ⟨o9a, o9b⟩ := (hv48_23 : In _ _ _); obtain ⟨o10a, o10b⟩ := (hv53_23 : In _ _ _); obtain ⟨o11a, o11b⟩ := (hv55_23 : In _ _ _); obtain ⟨o12a, o12b⟩ := (hb52 : In _ _ _); obtain ⟨o13a, o13b⟩ := (hb28 : In _ _ _); obtain ⟨o14a, o14b⟩ := (hb49 : In _ _ _); omega)
                    have hb59 : In x46 0 510 := hwk58.1
                    refine pl_put (ty := .int) (v := .int x46) (fs' := [.int v0_23, .ref (ad 256), .int v2_23, .int v3_23, .int v4_23, .int v5_23, .int v6_23, .ref (ad 257), .int v8_23, .int v9_23, .ref (ad 258), .ref (ad 259), .int v12_23, .int v13_23, .int v14_23, .int v15_23, .int v16_23, .int v17_23, .int v18_23, .int v19_23, .int x46, .long v21_23, .long v22_23, .int v23_23, .ref (ad 260), .int v25_23, .ref (ad 261), .ref (ad 262), .ref (ad 263), .ref (ad 264), .ref (ad 265), .ref (ad 266), .ref (ad 267), .ref (ad 268), .ref (ad 269), .ref (ad 270), .int v36_23, .int v37_23, .int v38_23, .int v39_23, .int v40_23, .ref (ad 271), .ref (ad 272), .ref (ad 273), .ref (ad 274), .long v45_23, .long v46_23, .int v47_23, .int v48_23, .ref (ad 275), .int v50_23, .int v51_23, .ref (ad 276), .int v53_23, .ref (ad 277), .int v55_23]) hx hb hts (fun w h => mT (inX11 w h)) tyX11 tyX11_ok nmX11 hown hG.1 hP hD hS (hst.1 255 (by decide)) hf24 rfl 20 (by decide) (hts _ (mT wg_1356)) (fun _ h => h) rfl (by decide +kernel) (rfl) (rfl) (Nat.le_of_ble_eq_true rfl) rfl dX11_weakest_135 (fun H locs f60 hf61 ho62 hP hD hS => ?_)
                    have hfr : (∀ b, b ≠ (ad 255) → b ≠ (ad 265) → b ≠ (ad 266) → b ≠ (ad 267) → b ≠ (ad 268) → b ≠ (ad 269) → b ≠ (ad 270) → b ≠ (ad 260) → b ≠ (ad 261) → b ≠ (ad 262) → b ≠ (ad 263) → b ≠ (ad 264) → f60 b = f b) := fun b z0_ z1_ z2_ z3_ z4_ z5_ z6_ z7_ z8_ z9_ z10_ z11_ => (ho62 b z0_).trans (hfr b z0_ z1_ z2_ z3_ z4_ z5_ z6_ z7_ z8_ z9_ z10_ z11_)
                    refine lv_aload_n hx hb dX11_weakest_138 rfl (lv_at hl 0 rfl) ?_
                    have hT := TI.updMG (th' := (gset (gset (gset (gset th 44 zz16) 14 zg94_zl) 18 zg94_zg) 14 (x46.toInt))) hT hst (k := 0) (by decide) hf61 ho62 ⟨v0_23, v2_23, v3_23, v4_23, v5_23, v6_23, v8_23, v9_23, v12_23, v13_23, v14_23, v15_23, v16_23, v17_23, v18_23, v19_23, x46, v21_23, v22_23, v23_23, v25_23, v36_23, v37_23, v38_23, v39_23, v40_23, v45_23, v46_23, v47_23, v48_23, v50_23, v51_23, v53_23, v55_23, rfl, hv0_23, hv2_23, hg2_23, hv3_23, hg3_23, hv4_23, hg4_23, hv5_23, hg5_23, hv6_23, hg6_23, hv8_23, hg8_23, hv9_23, hg9_23, hv12_23, hv13_23, hg13_23, hv14_23, hg14_23, (In.mono hb29 (by decide) (by decide)), hg15_23, hv17_23, hg17_23, (In.mono hb59 (by decide) (by decide)), rfl, hv23_23, hg23_23, hv25_23, hg25_23, hv36_23, hg36_23, hv47_23, hg47_23, hv48_23, hg48_23, hv53_23, hg53_23, hv55_23, hg55_23, (by rw [hg15_23]; exact Or.inr hwk58.2)⟩ (fun q hq => ((gset_ne (fun e => hq (by subst e; decide))).trans rfl))
                    have hT : TI g ad (gset (gset (gset th 44 zz16) 18 zg94_zg) 14 x46.toInt) f60 := TI.cast hT (by funext q; by_cases hq0 : q = 14; (subst hq0; rfl); by_cases hq1 : q = 18; (subst hq1; rfl); by_cases hq2 : q = 44; (subst hq2; rfl); simp only [gset, if_neg hq0, if_neg hq1, if_neg hq2])
                    refine M0e hT (fun v0_63 v2_63 v3_63 v4_63 v5_63 v6_63 v8_63 v9_63 v12_63 v13_63 v14_63 v15_63 v16_63 v17_63 v18_63 v19_63 v20_63 v21_63 v22_63 v23_63 v25_63 v36_63 v37_63 v38_63 v39_63 v40_63 v45_63 v46_63 v47_63 v48_63 v50_63 v51_63 v53_63 v55_63 hf64 hv0_63 hv2_63 hg2_63 hv3_63 hg3_63 hv4_63 hg4_63 hv5_63 hg5_63 hv6_63 hg6_63 hv8_63 hg8_63 hv9_63 hg9_63 hv12_63 hv13_63 hg13_63 hv14_63 hg14_63 hv15_63 hg15_63 hv17_63 hg17_63 hv20_63 hg20_63 hv23_63 hg23_63 hv25_63 hg25_63 hv36_63 hg36_63 hv47_63 hg47_63 hv48_63 hg48_63 hv53_63 hg53_63 hv55_63 hg55_63 hrel0_63 => ?_)
                    have hg15_63 : v15_63.toInt = th 11 := hg15_63
                    have hg17_63 : v17_63.toInt = th 12 := hg17_63
                    have hg20_63 : v20_63.toInt = x46.toInt := hg20_63
                    refine call_i (run_V (rm := rm_X11_leastBroken) hx hb hml hown hts (s_X11_leastBroken l g ad (gset (gset (gset th 44 zz16) 18 zg94_zg) 14 x46.toInt) _ _ _  hst hT (show 3 ≤ th 11 by omega)) cV_X11_leastBroken wg_1838 ⟨Nat.le_of_ble_eq_true rfl, Nat.le_of_ble_eq_true rfl⟩ hG hE hA hP hD hS (hst.1 255 (by decide)) hf64 rfl rfl hl.1 (As := []) (rest := []) rfl (Nat.le_of_ble_eq_true rfl) dX11_weakest_139 ⟨Nat.le_of_ble_eq_true rfl, Nat.le_of_ble_eq_true rfl⟩) hA hD hS (fun r65 L66 f67 H locs hp68 hP hD hS => ?_)
                    obtain ⟨eL69L, eL69T, eL69F⟩ := hp68
                    have eL69L : L66 = L := eL69L
                    rw [eL69L] at hP hD
                    obtain ⟨zz70, hzz70, eL69T⟩ := eL69T
                    have hzz70 : True := hzz70
                    have hT : TI g ad (gset (gset (gset (gset th 44 zz16) 18 zg94_zg) 14 x46.toInt) 18 zz70) f67 := eL69T
                    have hT : TI g ad (gset (gset (gset th 44 zz16) 14 x46.toInt) 18 zz70) f67 := TI.cast hT (by funext q; by_cases hq0 : q = 18; (subst hq0; rfl); by_cases hq1 : q = 14; (subst hq1; rfl); by_cases hq2 : q = 44; (subst hq2; rfl); simp only [gset, if_neg hq0, if_neg hq1, if_neg hq2])
                    have eL69F : ∀ b, b ≠ (ad 255) → b ≠ (ad 265) → b ≠ (ad 266) → b ≠ (ad 267) → b ≠ (ad 268) → b ≠ (ad 269) → b ≠ (ad 270) → b ≠ (ad 261) → b ≠ (ad 262) → b ≠ (ad 263) → b ≠ (ad 264) → f67 b = f60 b := eL69F
                    have hfr : (∀ b, b ≠ (ad 255) → b ≠ (ad 265) → b ≠ (ad 266) → b ≠ (ad 267) → b ≠ (ad 268) → b ≠ (ad 269) → b ≠ (ad 270) → b ≠ (ad 260) → b ≠ (ad 261) → b ≠ (ad 262) → b ≠ (ad 263) → b ≠ (ad 264) → f67 b = f b) := fun b z0_ z1_ z2_ z3_ z4_ z5_ z6_ z7_ z8_ z9_ z10_ z11_ => (eL69F b z0_ z1_ z2_ z3_ z4_ z5_ z6_ z8_ z9_ z10_ z11_).trans (hfr b z0_ z1_ z2_ z3_ z4_ z5_ z6_ z7_ z8_ z9_ z10_ z11_)
                    refine lv_iconst (v := (-1)) hx hb dX11_weakest_142 (by decide) ?_
                    refine lv_icmp_eq (tgt := 148) hx hb dX11_weakest_143 (by decide) (fun c71 => ?_) (fun c71 => ?_)
                    ·
                      have ocm1 : ((-1) : Int32).toInt = (-1) := by decide
                      have cc72 : r65.toInt = ((-1) : Int32).toInt := congrArg Int32.toInt c71
                      have hb73 : In r65 (-1) (-1) := In.eq1 (In.full r65) (⟨by decide, by decide⟩ : In (-1) (-1) (-1)) cc72 (by decide) (by decide)
                      exact hJ148 x46.toInt zz70 _ _ _ _ hP hD hS (TI.cast hT (by funext q; by_cases hq0 : q = 18; (subst hq0; rfl); by_cases hq1 : q = 14; (subst hq1; rfl); by_cases hq2 : q = 44; (subst hq2; rfl); simp only [gset, if_neg hq0, if_neg hq1, if_neg hq2])) hfr (lv_sub hl [0, 1, 2] rfl)
                    ·
                      have ocm1 : ((-1) : Int32).toInt = (-1) := by decide
                      have cc74 : r65.toInt ≠ ((-1) : Int32).toInt := i32_ne c71
                      refine lv_iload_n hx hb dX11_weakest_146 rfl (lv_at hl 2 rfl) ?_
                      exact ret_i (ty := .int) hx hb hr hlocks (rfl) hP hD hS (Nat.le_of_ble_eq_true rfl) (Nat.le_of_ble_eq_true rfl) (⟨rfl, ⟨(gset (gset (gset th 44 zz16) 14 x46.toInt) 18 zz70), ⟨(show MI (gset (gset (gset th 44 zz16) 14 x46.toInt) 18 zz70) from ⟨m1, m2, (show th 20 = (th 12) * rnd (th 10) from m3), m4, m5, m6, m7, m8, m9, m10⟩), (SBM.set (k := 18) (SBM.set (k := 14) (SBM.set (k := 44) (SBM.rf th) (by decide)) (by decide)) (by decide))⟩, hT⟩, hfr⟩) dX11_weakest_147
                  ·
                    have cc75 : x46.toInt = x51.toInt := congrArg Int32.toInt c54
                    have hb76 : In x46 1 511 := In.eq1 hb47 hb52 cc75 (by decide) (by decide)
                    refine lv_goto (tgt := 148) hx hb dX11_weakest_126 (by decide) ?_
                    exact hJ148 zg94_zl zg94_zg _ _ _ _ hP hD hS (TI.cast hT (by funext q; by_cases hq0 : q = 18; (subst hq0; rfl); by_cases hq1 : q = 14; (subst hq1; rfl); by_cases hq2 : q = 44; (subst hq2; rfl); simp only [gset, if_neg hq0, if_neg hq1, if_neg hq2])) hfr (lv_sub hl [0, 1, 2] rfl)
          exact hJ94 ((9 - (0 : Int32).toInt).toNat + 1) zg26_zl zg26_zg 0 _ _ _ _ (⟨by decide, by decide⟩ : In 0 0 9) hP hD hS (TI.cast hT (by funext q; by_cases hq0 : q = 18; (subst hq0; rfl); by_cases hq1 : q = 14; (subst hq1; rfl); by_cases hq2 : q = 44; (subst hq2; rfl); simp only [gset, if_neg hq0, if_neg hq1, if_neg hq2])) hfr (lv_sub hl [1, 2, 0] rfl) (msI _)
        ·
          have cc77 : y26_l2.toInt < v15_19.toInt := i32_nle c21
          have hb78 : In y26_l2 0 8 := In.lt1 hy26_l2 hv15_19 cc77 (by decide) (by decide)
          have hb79 : In v15_19 1 9 := In.lt2 hy26_l2 hv15_19 cc77 (by decide) (by decide)
          refine lv_iload_n hx hb dX11_weakest_34 rfl (lv_at hl 1 rfl) ?_
          refine lv_iload_n hx hb dX11_weakest_35 rfl (lv_at hl 2 rfl) ?_
          refine call_i (run_S (rm := rm_X11_has) hx hb hml hown hts (s_X11_has l g ad (gset (gset (gset th 44 zz16) 14 zg26_zl) 18 zg26_zg) _ _ _ v20_17 y26_l2 hst hT ) cS_X11_has wg_1563 ⟨Nat.le_of_ble_eq_true rfl, Nat.le_of_ble_eq_true rfl⟩ hG hE hA hP hD hS rfl hl.1 (As := [.int v20_17, .int y26_l2]) (rest := []) rfl (Nat.le_of_ble_eq_true rfl) dX11_weakest_36 ⟨Nat.le_of_ble_eq_true rfl, Nat.le_of_ble_eq_true rfl⟩) hA hD hS (fun r80 L81 f82 H locs hp83 hP hD hS => ?_)
          obtain ⟨eL84L, eL84T, eL84R, eL84X0⟩ := hp83
          have eL84L : L81 = L := eL84L
          have eL84T : f82 = f_26 := eL84T
          rw [eL84L, eL84T] at hP hD
          have eL84R : In r80 0 1 := eL84R
          have hbt85 : r80.toInt = bitI zz15 y26_l2.toInt := (eL84X0 (Int.le_trans (by decide) hv20_17.1) (In.mono hb78 (by decide) (by decide))).trans (by rw [hg20_17])
          have hJ86 : ∀ (zg86_zl : Int) (zg86_zg : Int) (f_86 : HP) (H : Heap) (locs : List Loc) (ls : Array Slot), va_P g.1 vwCl (va_pl L f_86) H → va_D A (va_pl L f_86) → va_S A s.heap H locs → TI g ad (gset (gset (gset th 44 zz16) 14 zg86_zl) 18 zg86_zg) f_86 → (∀ b, b ≠ (ad 255) → b ≠ (ad 265) → b ≠ (ad 266) → b ≠ (ad 267) → b ≠ (ad 268) → b ≠ (ad 269) → b ≠ (ad 270) → b ≠ (ad 260) → b ≠ (ad 261) → b ≠ (ad 262) → b ≠ (ad 263) → b ≠ (ad 264) → f_86 b = f b) → lv_has ls 3 [(0, .ref (ad 255)), (1, .int v20_17), (2, .int y26_l2)] → W p l e rm_X11_weakest s m [.ref (ad 255)].toArray below meth c H locs 0 0 (MQ below (va_Qi (po_X11_weakest g ad th L f ) (PstB g A) A) [.ref (ad 255)].toArray s rm_X11_weakest.cells rm_X11_weakest.slots A) (F0 m 86 ls []) := by
            intro zg86_zl zg86_zg f_86 H locs ls hP hD hS hT hfr hl
            obtain ⟨x86, ex86⟩ : ∃ y : Int32, y = y26_l2 + 1 := ⟨_, rfl⟩
            have hb87 : In x86 1 9 := ex86 ▸ In.add hb78 (⟨by decide, by decide⟩ : In 1 1 1) (by decide) (by decide) (by decide) (by decide)
            have et88 : x86.toInt = y26_l2.toInt + 1 := In.adde ex86 hb78 (k := 1) (by decide) (by decide) (by decide)
            refine lv_iinc (v := x86) (lv' := [(2, .int x86), (0, .ref (ad 255)), (1, .int v20_17)]) hx hb dX11_weakest_86 hl (k := 2) rfl (by rw [ex86]; rfl) (by decide) rfl (fun ls hl => ?_)
            refine lv_goto (tgt := 26) hx hb dX11_weakest_89 (by decide) ?_
            exact ih26 zg86_zl zg86_zg x86 _ _ _ _ (In.mono hb87 (by decide) (by decide)) hP hD hS (TI.cast hT (by funext q; by_cases hq0 : q = 18; (subst hq0; rfl); by_cases hq1 : q = 14; (subst hq1; rfl); by_cases hq2 : q = 44; (subst hq2; rfl); simp only [gset, if_neg hq0, if_neg hq1, if_neg hq2])) hfr (lv_sub hl [1, 2, 0] rfl) (msu et88 (by decide) hmz26)
          refine lv_if_ne (tgt := 86) hx hb dX11_weakest_39 (by decide) (fun c89 => ?_) (fun c89 => ?_)
          ·
            have oc0 : (0 : Int32).toInt = 0 := by decide
            have cc90 : r80.toInt ≠ (0 : Int32).toInt := i32_ne c89
            have hb91 : In r80 1 1 := In.ne1 eL84R (⟨by decide, by decide⟩ : In 0 0 0) cc90 (by decide) (by decide)
            exact hJ86 zg26_zl zg26_zg _ _ _ _ hP hD hS (TI.cast hT (by funext q; by_cases hq0 : q = 18; (subst hq0; rfl); by_cases hq1 : q = 14; (subst hq1; rfl); by_cases hq2 : q = 44; (subst hq2; rfl); simp only [gset, if_neg hq0, if_neg hq1, if_neg hq2])) hfr (lv_sub hl [0, 1, 2] rfl)
          ·
            have oc0 : (0 : Int32).toInt = 0 := by decide
            have cc92 : r80.toInt = (0 : Int32).toInt := congrArg Int32.toInt c89
            have hb93 : In r80 0 0 := In.eq1 eL84R (⟨by decide, by decide⟩ : In 0 0 0) cc92 (by decide) (by decide)
            refine lv_iload_n hx hb dX11_weakest_42 rfl (lv_at hl 1 rfl) ?_
            refine lv_iconst (v := 1) hx hb dX11_weakest_43 (by decide) ?_
            refine lv_iload_n hx hb dX11_weakest_44 rfl (lv_at hl 2 rfl) ?_
            refine lv_ishl hx hb dX11_weakest_45 ?_
            refine lv_topi (fun x94 ex94 => ?_)
            have hb95 : In x94 1 256 := ex94 ▸ In.shl (⟨by decide, by decide⟩ : In 1 1 1) hb78 (by decide) (by decide) (by decide) (by decide) (by decide) (by decide)
            refine lv_ior hx hb dX11_weakest_46 ?_
            refine lv_topi (fun x96 ex96 => ?_)
            have hb97 : In x96 0 511 := ex96 ▸ In.or 9 hv20_17 hb95 (by decide) (by decide) (by decide) (by decide) (by decide)
            refine lv_iconst (v := 1) hx hb dX11_weakest_47 (by decide) ?_
            refine lv_aload_n hx hb dX11_weakest_48 rfl (lv_at hl 0 rfl) ?_
            refine pl_get (v := .int v15_19) hx hb hts (fun w h => mT (inX11 w h)) hown hG.1 hP (hst.1 255 (by decide)) hf20 rfl 15 (by decide) (hts _ (mT wg_1351)) (fun _ h => h) rfl dX11_weakest_49 ?_
            refine lv_ishl hx hb dX11_weakest_52 ?_
            refine lv_topi (fun x98 ex98 => ?_)
            have hb99 : In x98 2 512 := ex98 ▸ In.shl (⟨by decide, by decide⟩ : In 1 1 1) hb79 (by decide) (by decide) (by decide) (by decide) (by decide) (by decide)
            have hsh100 : x98.toInt = 2 ^ (th 11).toNat := by rw [(shl1 (d := 9) ex98 (In.mono hb79 (by decide) (by decide)) (by decide)).2, hg15_19]
            refine lv_iconst (v := 1) hx hb dX11_weakest_53 (by decide) ?_
            refine lv_isub hx hb dX11_weakest_54 ?_
            refine lv_topi (fun x101 ex101 => ?_)
            have hb102 : In x101 1 511 := ex101 ▸ In.sub hb99 (⟨by decide, by decide⟩ : In 1 1 1) (by decide) (by decide) (by decide) (by decide)
            have et103 : x101.toInt = x98.toInt + (-1) := In.sube ex101 hb99 (k := 1) (by decide) (by decide) (by decide)
            refine lv_icmp_ne (tgt := 61) hx hb dX11_weakest_55 (by decide) (fun c104 => ?_) (fun c104 => ?_)
            ·
              have cc105 : x96.toInt ≠ x101.toInt := i32_ne c104
              refine lv_aload_n hx hb dX11_weakest_61 rfl (lv_at hl 0 rfl) ?_
              refine lv_iload_n hx hb dX11_weakest_62 rfl (lv_at hl 1 rfl) ?_
              refine lv_iconst (v := 1) hx hb dX11_weakest_63 (by decide) ?_
              refine lv_iload_n hx hb dX11_weakest_64 rfl (lv_at hl 2 rfl) ?_
              refine lv_ishl hx hb dX11_weakest_65 ?_
              refine lv_topi (fun x106 ex106 => ?_)
              obtain rfl : x94 = x106 := ex94.trans ex106.symm
              refine lv_ior hx hb dX11_weakest_66 ?_
              refine lv_topi (fun x107 ex107 => ?_)
              obtain rfl : x96 = x107 := ex96.trans ex107.symm
              have hwk108 := wk_or (n := th 11) ex94 ex96 hb78 (by omega) (by have ob10 : (0 : Int) ≤ (th 10) ∧ (th 10) ≤ 1 := (b0_10 hT :); have ob11 : (0 : Int) ≤ (th 11) ∧ (th 11) ≤ 9 := (b0_11 hT :); have ob12 : (0 : Int) ≤ (th 12) ∧ (th 12) ≤ 6 := (b0_12 hT :); have ob14 : (0 : Int) ≤ zg26_zl ∧ zg26_zl ≤ 511 := (b0_14 hT :); have ob15 : (0 : Int) ≤ (th 15) ∧ (th 15) ≤ 1 := (b0_15 hT :); have ob16 : (0 : Int) ≤ (th 16) ∧ (th 16) ≤ 20 := (b0_16 hT :); have ob17 : (0 : Int) ≤ (th 17) ∧ (th 17) ≤ 1 := (b0_17 hT :); have ob18 : (0 : Int) ≤ zg26_zg ∧ zg26_zg ≤ 18 := (b0_18 hT :); have ob38 : (0 : Int) ≤ (th 38) ∧ (th 38) ≤ 400 := (b0_38 hT :); have ob39 : (0 : Int) ≤ (th 39) ∧ (th 39) ≤ 200 := (b0_39 hT :); have ob44 : (0 : Int) ≤ zz16 ∧ zz16 ≤ 30 := (b0_44 hT :); have orn := rnd_b (th 10); obtain ⟨o0a, o0b⟩ := (hb78 : In _ _ _); obtain ⟨o1a, o1b⟩ := (hv14_19 : In _ _ _); obtain ⟨o2a, o2b⟩ := (hb79 : In _ _ _); obtain ⟨o3a, o3b⟩ := (hv17_19 : In _ _ _); obtain ⟨o4a, o4b⟩ := (hv20_19 : In _ _ _); obtain ⟨o5a, o5b⟩ := (hv23_19 : In _ _ _); obtain ⟨o6a, o6b⟩ := (hv25_19 : In _ _ _); obtain ⟨o7a, o7b⟩ := (hv36_19 : In _ _ _); obtain ⟨o8a, o8b⟩ := (hv47_19 : In _ _ _); obtain ⟨o9a, o9b⟩ := (hv48_19 : In _ _ _); obtain ⟨o10a, o10b⟩ := (hv53_19 : In _ _ _); obtain ⟨o11a, o11b⟩ := (hv55_19 : In _ _ _); omega) ⟨(Int.le_trans (by decide) hv20_17.1), hv20_17.2, by rw [hg20_17]; exact hcapw⟩ (by have ob10 : (0 : Int) ≤ (th 10) ∧ (th 10) ≤ 1 := (b0_10 hT :); have ob11 : (0 : Int) ≤ (th 11) ∧ (th 11) ≤ 9 := (b0_11 hT :); have ob12 : (0 : Int) ≤ (th 12) ∧ (th 12) ≤ 6 := (b0_12 hT :); have ob14 : (0 : Int) ≤ zg26_zl ∧ zg26_zl ≤ 511 := (b0_14 hT :); have ob15 : (0 : Int) ≤ (th 15) ∧ (th 15) ≤ 1 := (b0_15 hT :); have ob16 : (0 : Int) ≤ (th 16) ∧ (th 16) ≤ 20 := (b0_16 hT :); have ob17 : (0 : Int) ≤ (th 17) ∧ (th 17) ≤ 1 := (b0_17 hT :); have ob18 : (0 : Int) ≤ zg26_zg ∧ zg26_zg ≤ 18 := (b0_18 hT :); have ob38 : (0 : Int) ≤ (th 38) ∧ (th 38) ≤ 400 := (b0_38 hT :); have ob39 : (0 : Int) ≤ (th 39) ∧ (th 39) ≤ 200 := (b0_39 hT :); have ob44 : (0 : Int) ≤ zz16 ∧ zz16 ≤ 30 := (b0_44 hT :); have orn := rnd_b (th 10); obtain ⟨o0a, o0b⟩ := (hb97 : In _ _ _); obtain ⟨o1a, o1b⟩ := (hv14_19 : In _ _ _); obtain ⟨o2a, o2b⟩ := (hb79 : In _ _ _); obtain ⟨o3a, o3b⟩ := (hv17_19 : In _ _ _); obtain ⟨o4a, o4b⟩ := (hv20_19 : In _ _ _); obtain ⟨o5a, o5b⟩ := (hv23_19 : In _ _ _); obtain ⟨o6a, o6b⟩ := (hv25_19 : In _ _ _); obtain ⟨o7a, o7b⟩ := (hv36_19 : In _ _ _); obtain ⟨o8a, o8b⟩ := (hv47_19 : In _ _ _); obtain ⟨o9a, o9b⟩ := (hv48_19 : In _ _ _); obtain ⟨o10a, o10b⟩ := (hv53_19 : In _ _ _); obtain ⟨o11a, o11b⟩ := (hv55_19 : In _ _ _); obtain ⟨o12a, o12b⟩ := (hb102 : In _ _ _); obtain ⟨o13a, o13b⟩ := (hb78 : In _ _ _); obtain ⟨o14a, o14b⟩ := (hb99 : In _ _ _); omega)
              have hb109 : In x96 0 510 := hwk108.1
              refine pl_put (ty := .int) (v := .int x96) (fs' := [.int v0_19, .ref (ad 256), .int v2_19, .int v3_19, .int v4_19, .int v5_19, .int v6_19, .ref (ad 257), .int v8_19, .int v9_19, .ref (ad 258), .ref (ad 259), .int v12_19, .int v13_19, .int v14_19, .int v15_19, .int v16_19, .int v17_19, .int v18_19, .int v19_19, .int x96, .long v21_19, .long v22_19, .int v23_19, .ref (ad 260), .int v25_19, .ref (ad 261), .ref (ad 262), .ref (ad 263), .ref (ad 264), .ref (ad 265), .ref (ad 266), .ref (ad 267), .ref (ad 268), .ref (ad 269), .ref (ad 270), .int v36_19, .int v37_19, .int v38_19, .int v39_19, .int v40_19, .ref (ad 271), .ref (ad 272), .ref (ad 273), .ref (ad 274), .long v45_19, .long v46_19, .int v47_19, .int v48_19, .ref (ad 275), .int v50_19, .int v51_19, .ref (ad 276), .int v53_19, .ref (ad 277), .int v55_19]) hx hb hts (fun w h => mT (inX11 w h)) tyX11 tyX11_ok nmX11 hown hG.1 hP hD hS (hst.1 255 (by decide)) hf20 rfl 20 (by decide) (hts _ (mT wg_1356)) (fun _ h => h) rfl (by decide +kernel) (rfl) (rfl) (Nat.le_of_ble_eq_true rfl) rfl dX11_weakest_67 (fun H locs f110 hf111 ho112 hP hD hS => ?_)
              have hfr : (∀ b, b ≠ (ad 255) → b ≠ (ad 265) → b ≠ (ad 266) → b ≠ (ad 267) → b ≠ (ad 268) → b ≠ (ad 269) → b ≠ (ad 270) → b ≠ (ad 260) → b ≠ (ad 261) → b ≠ (ad 262) → b ≠ (ad 263) → b ≠ (ad 264) → f110 b = f b) := fun b z0_ z1_ z2_ z3_ z4_ z5_ z6_ z7_ z8_ z9_ z10_ z11_ => (ho112 b z0_).trans (hfr b z0_ z1_ z2_ z3_ z4_ z5_ z6_ z7_ z8_ z9_ z10_ z11_)
              refine lv_aload_n hx hb dX11_weakest_70 rfl (lv_at hl 0 rfl) ?_
              refine lv_aload_n hx hb dX11_weakest_71 rfl (lv_at hl 0 rfl) ?_
              refine pl_get (v := .int v17_19) hx hb hts (fun w h => mT (inX11 w h)) hown hG.1 hP (hst.1 255 (by decide)) hf111 rfl 17 (by decide) (hts _ (mT wg_1353)) (fun _ h => h) rfl dX11_weakest_72 ?_
              have hT := TI.updMG (th' := (gset (gset (gset (gset th 44 zz16) 14 zg26_zl) 18 zg26_zg) 14 (x96.toInt))) hT hst (k := 0) (by decide) hf111 ho112 ⟨v0_19, v2_19, v3_19, v4_19, v5_19, v6_19, v8_19, v9_19, v12_19, v13_19, v14_19, v15_19, v16_19, v17_19, v18_19, v19_19, x96, v21_19, v22_19, v23_19, v25_19, v36_19, v37_19, v38_19, v39_19, v40_19, v45_19, v46_19, v47_19, v48_19, v50_19, v51_19, v53_19, v55_19, rfl, hv0_19, hv2_19, hg2_19, hv3_19, hg3_19, hv4_19, hg4_19, hv5_19, hg5_19, hv6_19, hg6_19, hv8_19, hg8_19, hv9_19, hg9_19, hv12_19, hv13_19, hg13_19, hv14_19, hg14_19, (In.mono hb79 (by decide) (by decide)), hg15_19, hv17_19, hg17_19, (In.mono hb109 (by decide) (by decide)), rfl, hv23_19, hg23_19, hv25_19, hg25_19, hv36_19, hg36_19, hv47_19, hg47_19, hv48_19, hg48_19, hv53_19, hg53_19, hv55_19, hg55_19, (by rw [hg15_19]; exact Or.inr hwk108.2)⟩ (fun q hq => ((gset_ne (fun e => hq (by subst e; decide))).trans rfl))
              have hT : TI g ad (gset (gset (gset th 44 zz16) 18 zg26_zg) 14 x96.toInt) f110 := TI.cast hT (by funext q; by_cases hq0 : q = 14; (subst hq0; rfl); by_cases hq1 : q = 18; (subst hq1; rfl); by_cases hq2 : q = 44; (subst hq2; rfl); simp only [gset, if_neg hq0, if_neg hq1, if_neg hq2])
              refine M0e hT (fun v0_113 v2_113 v3_113 v4_113 v5_113 v6_113 v8_113 v9_113 v12_113 v13_113 v14_113 v15_113 v16_113 v17_113 v18_113 v19_113 v20_113 v21_113 v22_113 v23_113 v25_113 v36_113 v37_113 v38_113 v39_113 v40_113 v45_113 v46_113 v47_113 v48_113 v50_113 v51_113 v53_113 v55_113 hf114 hv0_113 hv2_113 hg2_113 hv3_113 hg3_113 hv4_113 hg4_113 hv5_113 hg5_113 hv6_113 hg6_113 hv8_113 hg8_113 hv9_113 hg9_113 hv12_113 hv13_113 hg13_113 hv14_113 hg14_113 hv15_113 hg15_113 hv17_113 hg17_113 hv20_113 hg20_113 hv23_113 hg23_113 hv25_113 hg25_113 hv36_113 hg36_113 hv47_113 hg47_113 hv48_113 hg48_113 hv53_113 hg53_113 hv55_113 hg55_113 hrel0_113 => ?_)
              have hg15_113 : v15_113.toInt = th 11 := hg15_113
              have hg17_113 : v17_113.toInt = th 12 := hg17_113
              have hg20_113 : v20_113.toInt = x96.toInt := hg20_113
              refine call_i (run_V (rm := rm_X11_freeIn) hx hb hml hown hts (s_X11_freeIn l g ad (gset (gset (gset th 44 zz16) 18 zg26_zg) 14 x96.toInt) _ _ _ v17_19 hst hT hv17_19 (show 3 ≤ th 11 by omega)) cV_X11_freeIn wg_1823 ⟨Nat.le_of_ble_eq_true rfl, Nat.le_of_ble_eq_true rfl⟩ hG hE hA hP hD hS (hst.1 255 (by decide)) hf114 rfl rfl hl.1 (As := [.int v17_19]) (rest := []) rfl (Nat.le_of_ble_eq_true rfl) dX11_weakest_75 ⟨Nat.le_of_ble_eq_true rfl, Nat.le_of_ble_eq_true rfl⟩) hA hD hS (fun r115 L116 f117 H locs hp118 hP hD hS => ?_)
              obtain ⟨eL119L, eL119T, eL119X0⟩ := hp118
              have eL119L : L116 = L := eL119L
              have eL119T : f117 = f110 := eL119T
              rw [eL119L, eL119T] at hP hD
              have hfi120 : r115.toInt = frI (rnd (th 10)) (th 11) (x96.toInt) v17_19.toInt := eL119X0
              refine lv_bipush (v := 12) hx hb dX11_weakest_78 (by decide) ?_
              refine lv_icmp_le (tgt := 86) hx hb dX11_weakest_80 (by decide) (fun c121 => ?_) (fun c121 => ?_)
              ·
                have oc12 : (12 : Int32).toInt = 12 := by decide
                have cc122 : r115.toInt ≤ (12 : Int32).toInt := i32_le.mp c121
                have hb123 : In r115 (-2147483648) 12 := In.le1 (In.full r115) (⟨by decide, by decide⟩ : In 12 12 12) cc122 (by decide) (by decide)
                exact hJ86 x96.toInt zg26_zg _ _ _ _ hP hD hS (TI.cast hT (by funext q; by_cases hq0 : q = 14; (subst hq0; rfl); by_cases hq1 : q = 18; (subst hq1; rfl); by_cases hq2 : q = 44; (subst hq2; rfl); simp only [gset, if_neg hq0, if_neg hq1, if_neg hq2])) hfr (lv_sub hl [0, 1, 2] rfl)
              ·
                have oc12 : (12 : Int32).toInt = 12 := by decide
                have cc124 : (12 : Int32).toInt < r115.toInt := i32_nle c121
                have hb125 : In r115 13 2147483647 := In.gt1 (In.full r115) (⟨by decide, by decide⟩ : In 12 12 12) cc124 (by decide) (by decide)
                refine lv_bipush (v := (-2)) hx hb dX11_weakest_83 (by decide) ?_
                exact ret_i (ty := .int) hx hb hr hlocks (rfl) hP hD hS (Nat.le_of_ble_eq_true rfl) (Nat.le_of_ble_eq_true rfl) (⟨rfl, ⟨(gset (gset (gset th 44 zz16) 18 zg26_zg) 14 x96.toInt), ⟨(show MI (gset (gset (gset th 44 zz16) 18 zg26_zg) 14 x96.toInt) from ⟨m1, m2, (show th 20 = (th 12) * rnd (th 10) from m3), m4, m5, m6, m7, m8, m9, m10⟩), (SBM.set (k := 14) (SBM.set (k := 18) (SBM.set (k := 44) (SBM.rf th) (by decide)) (by decide)) (by decide))⟩, hT⟩, hfr⟩) dX11_weakest_85
            ·
              have cc126 : x96.toInt = x101.toInt := congrArg Int32.toInt c104
              have hb127 : In x96 1 511 := In.eq1 hb97 hb102 cc126 (by decide) (by decide)
              refine lv_goto (tgt := 86) hx hb dX11_weakest_58 (by decide) ?_
              exact hJ86 zg26_zl zg26_zg _ _ _ _ hP hD hS (TI.cast hT (by funext q; by_cases hq0 : q = 18; (subst hq0; rfl); by_cases hq1 : q = 14; (subst hq1; rfl); by_cases hq2 : q = 44; (subst hq2; rfl); simp only [gset, if_neg hq0, if_neg hq1, if_neg hq2])) hfr (lv_sub hl [0, 1, 2] rfl)
    exact hJ26 ((9 - (0 : Int32).toInt).toNat + 1) zz15 zz14 0 _ _ _ _ (⟨by decide, by decide⟩ : In 0 0 9) hP hD hS (TI.cast hT (by funext q; by_cases hq0 : q = 44; (subst hq0; rfl); by_cases hq1 : q = 14; (subst hq1; rfl); by_cases hq2 : q = 18; (subst hq2; rfl); simp only [gset, if_neg hq0, if_neg hq1, if_neg hq2])) hfr (lv_sub hl [2, 1, 0] rfl) (msI _)
  ·
    have oc0 : (0 : Int32).toInt = 0 := by decide
    have cc128 : v23_1.toInt = (0 : Int32).toInt := congrArg Int32.toInt c6
    have hb129 : In v23_1 0 0 := In.eq1 hv23_1 (⟨by decide, by decide⟩ : In 0 0 0) cc128 (by decide) (by decide)
    refine lv_bipush (v := (-2)) hx hb dX11_weakest_12 (by decide) ?_
    exact ret_i (ty := .int) hx hb hr hlocks (rfl) hP hD hS (Nat.le_of_ble_eq_true rfl) (Nat.le_of_ble_eq_true rfl) (⟨rfl, ⟨th, ⟨(show MI th from hM), (SBM.rf th)⟩, hT⟩, hfr⟩) dX11_weakest_14

abbrev rm_X11_held : Room := { frames := 6, cells := 0, slots := 0, locals := 148 }
abbrev po_X11_held (g : GG) (ad : Nat → Nat) (th : Nat → Int) (L : List Nat) (f : HP) (z1 : Int32) (z2 : Int32) : Int32 → (List Nat × HP) → Prop := fun r u => u.1 = L ∧ (∃ th' : Nat → Int, (MI th' ∧ SBM th th') ∧ TI g ad th' u.2) ∧ (∀ b, b ≠ (ad 255) → b ≠ (ad 265) → b ≠ (ad 266) → b ≠ (ad 267) → b ≠ (ad 268) → b ≠ (ad 269) → b ≠ (ad 270) → b ≠ (ad 260) → b ≠ (ad 261) → b ≠ (ad 262) → b ≠ (ad 263) → b ≠ (ad 264) → u.2 b = f b)
set_option maxHeartbeats 4000000 in
set_option maxRecDepth 100000 in
theorem s_X11_held (l : Launch) (g : GG) (ad : Nat → Nat) (th : Nat → Int) (L : List Nat) (f : HP) (sz : Nat) (z1 : Int32) (z2 : Int32) (hst : ST ad L) (hT : TI g ad th f) (hM : MI th) : MtI l g yX11_held cX11_held 3 (some .int) rm_X11_held [.ref (ad 255), .int z1, .int z2] L f sz (po_X11_held g ad th L f z1 z2) := by
  refine MtI.of (by decide +kernel) (Nat.le_of_ble_eq_true rfl) ?_
  intro p e s m below meth c A hEn hP hD hS ls hl
  obtain ⟨hx, hb, hr, hml, hown, hlocks, hts, hG, hA, hE, hnm⟩ := hEn
  have hown : s.vm.findClass "RulerWordModel" = some m.cls := hown
  have hl : lv_has ls 3 [(0, .ref (ad 255)), (1, .int z1), (2, .int z2)] := hl
  have hfr : (∀ b, b ≠ (ad 255) → b ≠ (ad 265) → b ≠ (ad 266) → b ≠ (ad 267) → b ≠ (ad 268) → b ≠ (ad 269) → b ≠ (ad 270) → b ≠ (ad 260) → b ≠ (ad 261) → b ≠ (ad 262) → b ≠ (ad 263) → b ≠ (ad 264) → f b = f b) := fun b z0_ z1_ z2_ z3_ z4_ z5_ z6_ z7_ z8_ z9_ z10_ z11_ => rfl
  have hM0 := hM
  obtain ⟨m1, m2, m3, m4, m5, m6, m7, m8, m9, m10⟩ := hM0
  have m20 := mi20 m2 m3
  refine lv_aload_n hx hb dX11_held_0 rfl (lv_at hl 0 rfl) ?_
  refine lv_iconst (v := 0) hx hb dX11_held_1 (by decide) ?_
  refine M0e hT (fun v0_1 v2_1 v3_1 v4_1 v5_1 v6_1 v8_1 v9_1 v12_1 v13_1 v14_1 v15_1 v16_1 v17_1 v18_1 v19_1 v20_1 v21_1 v22_1 v23_1 v25_1 v36_1 v37_1 v38_1 v39_1 v40_1 v45_1 v46_1 v47_1 v48_1 v50_1 v51_1 v53_1 v55_1 hf2 hv0_1 hv2_1 hg2_1 hv3_1 hg3_1 hv4_1 hg4_1 hv5_1 hg5_1 hv6_1 hg6_1 hv8_1 hg8_1 hv9_1 hg9_1 hv12_1 hv13_1 hg13_1 hv14_1 hg14_1 hv15_1 hg15_1 hv17_1 hg17_1 hv20_1 hg20_1 hv23_1 hg23_1 hv25_1 hg25_1 hv36_1 hg36_1 hv47_1 hg47_1 hv48_1 hg48_1 hv53_1 hg53_1 hv55_1 hg55_1 hrel0_1 => ?_)
  have hg15_1 : v15_1.toInt = th 11 := hg15_1
  have hg17_1 : v17_1.toInt = th 12 := hg17_1
  have hg20_1 : v20_1.toInt = th 14 := hg20_1
  refine pl_put (ty := .int) (v := .int 0) (fs' := [.int 0, .ref (ad 256), .int v2_1, .int v3_1, .int v4_1, .int v5_1, .int v6_1, .ref (ad 257), .int v8_1, .int v9_1, .ref (ad 258), .ref (ad 259), .int v12_1, .int v13_1, .int v14_1, .int v15_1, .int v16_1, .int v17_1, .int v18_1, .int v19_1, .int v20_1, .long v21_1, .long v22_1, .int v23_1, .ref (ad 260), .int v25_1, .ref (ad 261), .ref (ad 262), .ref (ad 263), .ref (ad 264), .ref (ad 265), .ref (ad 266), .ref (ad 267), .ref (ad 268), .ref (ad 269), .ref (ad 270), .int v36_1, .int v37_1, .int v38_1, .int v39_1, .int v40_1, .ref (ad 271), .ref (ad 272), .ref (ad 273), .ref (ad 274), .long v45_1, .long v46_1, .int v47_1, .int v48_1, .ref (ad 275), .int v50_1, .int v51_1, .ref (ad 276), .int v53_1, .ref (ad 277), .int v55_1]) hx hb hts (fun w h => mT (inX11 w h)) tyX11 tyX11_ok nmX11 hown hG.1 hP hD hS (hst.1 255 (by decide)) hf2 rfl 0 (by decide) (hts _ (mT wg_1336)) (fun _ h => h) rfl (by decide +kernel) (rfl) (rfl) (Nat.le_of_ble_eq_true rfl) rfl dX11_held_2 (fun H locs f3 hf4 ho5 hP hD hS => ?_)
  have hfr : (∀ b, b ≠ (ad 255) → b ≠ (ad 265) → b ≠ (ad 266) → b ≠ (ad 267) → b ≠ (ad 268) → b ≠ (ad 269) → b ≠ (ad 270) → b ≠ (ad 260) → b ≠ (ad 261) → b ≠ (ad 262) → b ≠ (ad 263) → b ≠ (ad 264) → f3 b = f b) := fun b z0_ z1_ z2_ z3_ z4_ z5_ z6_ z7_ z8_ z9_ z10_ z11_ => (ho5 b z0_).trans (hfr b z0_ z1_ z2_ z3_ z4_ z5_ z6_ z7_ z8_ z9_ z10_ z11_)
  refine lv_aload_n hx hb dX11_held_5 rfl (lv_at hl 0 rfl) ?_
  have hT := TI.updM hT hst (k := 0) (by decide) hf4 ho5 ⟨0, v2_1, v3_1, v4_1, v5_1, v6_1, v8_1, v9_1, v12_1, v13_1, v14_1, v15_1, v16_1, v17_1, v18_1, v19_1, v20_1, v21_1, v22_1, v23_1, v25_1, v36_1, v37_1, v38_1, v39_1, v40_1, v45_1, v46_1, v47_1, v48_1, v50_1, v51_1, v53_1, v55_1, rfl, (⟨by decide, by decide⟩ : In 0 0 1), hv2_1, hg2_1, hv3_1, hg3_1, hv4_1, hg4_1, hv5_1, hg5_1, hv6_1, hg6_1, hv8_1, hg8_1, hv9_1, hg9_1, hv12_1, hv13_1, hg13_1, hv14_1, hg14_1, hv15_1, hg15_1, hv17_1, hg17_1, hv20_1, hg20_1, hv23_1, hg23_1, hv25_1, hg25_1, hv36_1, hg36_1, hv47_1, hg47_1, hv48_1, hg48_1, hv53_1, hg53_1, hv55_1, hg55_1, hrel0_1⟩
  refine call_i (run_V (rm := rm_X11_canSearch) hx hb hml hown hts (s_X11_canSearch l g ad th _ _ _  hst hT (show MI th from hM)) cV_X11_canSearch wg_1834 ⟨Nat.le_of_ble_eq_true rfl, Nat.le_of_ble_eq_true rfl⟩ hG hE hA hP hD hS (hst.1 255 (by decide)) hf4 rfl rfl hl.1 (As := []) (rest := []) rfl (Nat.le_of_ble_eq_true rfl) dX11_held_6 ⟨Nat.le_of_ble_eq_true rfl, Nat.le_of_ble_eq_true rfl⟩) hA hD hS (fun r6 L7 f8 H locs hp9 hP hD hS => ?_)
  obtain ⟨eL10L, eL10T, eL10F, eL10R⟩ := hp9
  have eL10L : L7 = L := eL10L
  rw [eL10L] at hP hD
  obtain ⟨zz11, zz12, zz13, hzz11, eL10T⟩ := eL10T
  have hT : TI g ad (gset (gset (gset th 14 zz11) 18 zz12) 44 zz13) f8 := eL10T
  have eL10F : ∀ b, b ≠ (ad 255) → b ≠ (ad 265) → b ≠ (ad 266) → b ≠ (ad 267) → b ≠ (ad 269) → b ≠ (ad 260) → b ≠ (ad 261) → b ≠ (ad 262) → b ≠ (ad 263) → b ≠ (ad 264) → f8 b = f3 b := eL10F
  have hfr : (∀ b, b ≠ (ad 255) → b ≠ (ad 265) → b ≠ (ad 266) → b ≠ (ad 267) → b ≠ (ad 268) → b ≠ (ad 269) → b ≠ (ad 270) → b ≠ (ad 260) → b ≠ (ad 261) → b ≠ (ad 262) → b ≠ (ad 263) → b ≠ (ad 264) → f8 b = f b) := fun b z0_ z1_ z2_ z3_ z4_ z5_ z6_ z7_ z8_ z9_ z10_ z11_ => (eL10F b z0_ z1_ z2_ z3_ z5_ z7_ z8_ z9_ z10_ z11_).trans (hfr b z0_ z1_ z2_ z3_ z4_ z5_ z6_ z7_ z8_ z9_ z10_ z11_)
  have eL10R : In r6 0 1 := eL10R
  refine lv_if_ne (tgt := 15) hx hb dX11_held_9 (by decide) (fun c14 => ?_) (fun c14 => ?_)
  ·
    have oc0 : (0 : Int32).toInt = 0 := by decide
    have cc15 : r6.toInt ≠ (0 : Int32).toInt := i32_ne c14
    have hb16 : In r6 1 1 := In.ne1 eL10R (⟨by decide, by decide⟩ : In 0 0 0) cc15 (by decide) (by decide)
    refine lv_aload_n hx hb dX11_held_15 rfl (lv_at hl 0 rfl) ?_
    refine lv_iload_n hx hb dX11_held_16 rfl (lv_at hl 2 rfl) ?_
    refine M0e hT (fun v0_17 v2_17 v3_17 v4_17 v5_17 v6_17 v8_17 v9_17 v12_17 v13_17 v14_17 v15_17 v16_17 v17_17 v18_17 v19_17 v20_17 v21_17 v22_17 v23_17 v25_17 v36_17 v37_17 v38_17 v39_17 v40_17 v45_17 v46_17 v47_17 v48_17 v50_17 v51_17 v53_17 v55_17 hf18 hv0_17 hv2_17 hg2_17 hv3_17 hg3_17 hv4_17 hg4_17 hv5_17 hg5_17 hv6_17 hg6_17 hv8_17 hg8_17 hv9_17 hg9_17 hv12_17 hv13_17 hg13_17 hv14_17 hg14_17 hv15_17 hg15_17 hv17_17 hg17_17 hv20_17 hg20_17 hv23_17 hg23_17 hv25_17 hg25_17 hv36_17 hg36_17 hv47_17 hg47_17 hv48_17 hg48_17 hv53_17 hg53_17 hv55_17 hg55_17 hrel0_17 => ?_)
    have hg15_17 : v15_17.toInt = th 11 := hg15_17
    have hg17_17 : v17_17.toInt = th 12 := hg17_17
    have hg20_17 : v20_17.toInt = zz11 := hg20_17
    refine call_i (run_V (rm := rm_X11_isPeer) hx hb hml hown hts (s_X11_isPeer l g ad (gset (gset (gset th 14 zz11) 18 zz12) 44 zz13) _ _ _ z2 hst hT ) cV_X11_isPeer wg_1718 ⟨Nat.le_of_ble_eq_true rfl, Nat.le_of_ble_eq_true rfl⟩ hG hE hA hP hD hS (hst.1 255 (by decide)) hf18 rfl rfl hl.1 (As := [.int z2]) (rest := []) rfl (Nat.le_of_ble_eq_true rfl) dX11_held_17 ⟨Nat.le_of_ble_eq_true rfl, Nat.le_of_ble_eq_true rfl⟩) hA hD hS (fun r19 L20 f21 H locs hp22 hP hD hS => ?_)
    obtain ⟨eL23L, eL23T, eL23R, eL23W0, eL23X0⟩ := hp22
    have eL23L : L20 = L := eL23L
    have eL23T : f21 = f8 := eL23T
    rw [eL23L, eL23T] at hP hD
    have eL23R : In r19 0 1 := eL23R
    have hcl24 : r19.toInt = 0 ∨ th 15 = 1 := eL23X0
    refine lv_if_eq (tgt := 45) hx hb dX11_held_20 (by decide) (fun c25 => ?_) (fun c25 => ?_)
    ·
      have oc0 : (0 : Int32).toInt = 0 := by decide
      have cc26 : r19.toInt = (0 : Int32).toInt := congrArg Int32.toInt c25
      have hb27 : In r19 0 0 := In.eq1 eL23R (⟨by decide, by decide⟩ : In 0 0 0) cc26 (by decide) (by decide)
      refine lv_iconst (v := (-1)) hx hb dX11_held_45 (by decide) ?_
      exact ret_i (ty := .int) hx hb hr hlocks (rfl) hP hD hS (Nat.le_of_ble_eq_true rfl) (Nat.le_of_ble_eq_true rfl) (⟨rfl, ⟨(gset (gset (gset th 14 zz11) 18 zz12) 44 zz13), ⟨(show MI (gset (gset (gset th 14 zz11) 18 zz12) 44 zz13) from ⟨m1, m2, (show th 20 = (th 12) * rnd (th 10) from m3), m4, m5, m6, m7, m8, m9, m10⟩), (SBM.set (k := 44) (SBM.set (k := 18) (SBM.set (k := 14) (SBM.rf th) (by decide)) (by decide)) (by decide))⟩, hT⟩, hfr⟩) dX11_held_46
    ·
      have oc0 : (0 : Int32).toInt = 0 := by decide
      have cc28 : r19.toInt ≠ (0 : Int32).toInt := i32_ne c25
      have hb29 : In r19 1 1 := In.ne1 eL23R (⟨by decide, by decide⟩ : In 0 0 0) cc28 (by decide) (by decide)
      have hb30 : In z2 0 8 := In.both (eL23W0 c25) (In.full z2) (by decide) (by decide)
      refine lv_iload_n hx hb dX11_held_23 rfl (lv_at hl 1 rfl) ?_
      refine lv_i2l hx hb dX11_held_24 rfl ?_
      refine lv_lconst (v := 0) hx hb dX11_held_25 (by decide) ?_
      refine lv_iconst (v := 1) hx hb dX11_held_26 (by decide) ?_
      refine lv_aload_n hx hb dX11_held_27 rfl (lv_at hl 0 rfl) ?_
      refine lv_aload_n hx hb dX11_held_28 rfl (lv_at hl 0 rfl) ?_
      refine pl_get (v := .int v17_17) hx hb hts (fun w h => mT (inX11 w h)) hown hG.1 hP (hst.1 255 (by decide)) hf18 rfl 17 (by decide) (hts _ (mT wg_1353)) (fun _ h => h) rfl dX11_held_29 ?_
      refine call_i (run_V (rm := rm_X11_freeIn) hx hb hml hown hts (s_X11_freeIn l g ad (gset (gset (gset th 14 zz11) 18 zz12) 44 zz13) _ _ _ v17_17 hst hT hv17_17 (show 3 ≤ th 11 by omega)) cV_X11_freeIn wg_1823 ⟨Nat.le_of_ble_eq_true rfl, Nat.le_of_ble_eq_true rfl⟩ hG hE hA hP hD hS (hst.1 255 (by decide)) hf18 rfl rfl hl.1 (As := [.int v17_17]) (rest := [.int 1, .long 0, .long (z1.toInt64)]) rfl (Nat.le_of_ble_eq_true rfl) dX11_held_32 ⟨Nat.le_of_ble_eq_true rfl, Nat.le_of_ble_eq_true rfl⟩) hA hD hS (fun r31 L32 f33 H locs hp34 hP hD hS => ?_)
      obtain ⟨eL35L, eL35T, eL35X0⟩ := hp34
      have eL35L : L32 = L := eL35L
      have eL35T : f33 = f8 := eL35T
      rw [eL35L, eL35T] at hP hD
      have hfi36 : r31.toInt = frI (rnd (th 10)) (th 11) (zz11) v17_17.toInt := eL35X0
      refine lv_ishl hx hb dX11_held_35 ?_
      refine lv_topi (fun x37 ex37 => ?_)
      refine lv_iconst (v := 1) hx hb dX11_held_36 (by decide) ?_
      refine lv_isub hx hb dX11_held_37 ?_
      refine lv_topi (fun x38 ex38 => ?_)
      refine lv_i2l hx hb dX11_held_38 rfl ?_
      refine call_i (run_S (rm := rm_X11_isIn) hx hb hml hown hts (s_X11_isIn l g ad (gset (gset (gset th 14 zz11) 18 zz12) 44 zz13) _ _ _ (z1.toInt64) 0 (x38.toInt64) hst hT ) cS_X11_isIn wg_1581 ⟨Nat.le_of_ble_eq_true rfl, Nat.le_of_ble_eq_true rfl⟩ hG hE hA hP hD hS rfl hl.1 (As := [.long (z1.toInt64), .long 0, .long (x38.toInt64)]) (rest := []) rfl (Nat.le_of_ble_eq_true rfl) dX11_held_39 ⟨Nat.le_of_ble_eq_true rfl, Nat.le_of_ble_eq_true rfl⟩) hA hD hS (fun r39 L40 f41 H locs hp42 hP hD hS => ?_)
      obtain ⟨eL43L, eL43T, eL43R, eL43X0, eL43X1⟩ := hp42
      have eL43L : L40 = L := eL43L
      have eL43T : f41 = f8 := eL43T
      rw [eL43L, eL43T] at hP hD
      have eL43R : In r39 0 1 := eL43R
      have hii44 : r39.toInt = 0 ∨ (0 ≤ z1.toInt ∧ z1.toInt ≤ x38.toInt) := by have z := eL43X0; rw [i2l_t z1, (by decide : (0 : Int64).toInt = 0), i2l_t x38] at z; exact z
      have hii44w : ¬ r39 = 0 → In z1 0 2147483647 := fun c => by have c2 := i32_ne c; have e0 : (0 : Int32).toInt = 0 := (by decide); obtain ⟨o1, p1⟩ := ((In.full x38) : In _ _ _); exact ⟨by omega, by omega⟩
      refine lv_if_ne (tgt := 47) hx hb dX11_held_42 (by decide) (fun c45 => ?_) (fun c45 => ?_)
      ·
        have oc0 : (0 : Int32).toInt = 0 := by decide
        have cc46 : r39.toInt ≠ (0 : Int32).toInt := i32_ne c45
        have hb47 : In r39 1 1 := In.ne1 eL43R (⟨by decide, by decide⟩ : In 0 0 0) cc46 (by decide) (by decide)
        have hb48 : In z1 0 2147483647 := In.both (hii44w c45) (In.full z1) (by decide) (by decide)
        refine lv_aload_n hx hb dX11_held_47 rfl (lv_at hl 0 rfl) ?_
        refine lv_iconst (v := 1) hx hb dX11_held_48 (by decide) ?_
        refine lv_iload_n hx hb dX11_held_49 rfl (lv_at hl 1 rfl) ?_
        refine call_v (run_V (rm := rm_X11_runsWhole) hx hb hml hown hts (s_X11_runsWhole l g ad (gset (gset (gset th 14 zz11) 18 zz12) 44 zz13) _ _ _ 1 z1 hst hT (show 3 ≤ th 11 by omega)) cV_X11_runsWhole wg_1842 ⟨Nat.le_of_ble_eq_true rfl, Nat.le_of_ble_eq_true rfl⟩ hG hE hA hP hD hS (hst.1 255 (by decide)) hf18 rfl rfl hl.1 (As := [.int 1, .int z1]) (rest := []) rfl (Nat.le_of_ble_eq_true rfl) dX11_held_50 ⟨Nat.le_of_ble_eq_true rfl, Nat.le_of_ble_eq_true rfl⟩) hA hD hS (fun L50 f51 H locs hp52 hP hD hS => ?_)
        obtain ⟨eL53L, eL53T, eL53F⟩ := hp52
        have eL53L : L50 = L := eL53L
        rw [eL53L] at hP hD
        obtain ⟨zz54, hzz54, eL53T⟩ := eL53T
        have hzz54 : True := hzz54
        have hT : TI g ad (gset (gset (gset (gset th 14 zz11) 18 zz12) 44 zz13) 18 zz54) f51 := eL53T
        have hT : TI g ad (gset (gset (gset th 14 zz11) 44 zz13) 18 zz54) f51 := TI.cast hT (by funext q; by_cases hq0 : q = 18; (subst hq0; rfl); by_cases hq1 : q = 44; (subst hq1; rfl); by_cases hq2 : q = 14; (subst hq2; rfl); simp only [gset, if_neg hq0, if_neg hq1, if_neg hq2])
        have eL53F : ∀ b, b ≠ (ad 255) → b ≠ (ad 265) → b ≠ (ad 266) → b ≠ (ad 267) → b ≠ (ad 268) → b ≠ (ad 269) → b ≠ (ad 270) → b ≠ (ad 261) → b ≠ (ad 262) → b ≠ (ad 263) → b ≠ (ad 264) → f51 b = f8 b := eL53F
        have hfr : (∀ b, b ≠ (ad 255) → b ≠ (ad 265) → b ≠ (ad 266) → b ≠ (ad 267) → b ≠ (ad 268) → b ≠ (ad 269) → b ≠ (ad 270) → b ≠ (ad 260) → b ≠ (ad 261) → b ≠ (ad 262) → b ≠ (ad 263) → b ≠ (ad 264) → f51 b = f b) := fun b z0_ z1_ z2_ z3_ z4_ z5_ z6_ z7_ z8_ z9_ z10_ z11_ => (eL53F b z0_ z1_ z2_ z3_ z4_ z5_ z6_ z8_ z9_ z10_ z11_).trans (hfr b z0_ z1_ z2_ z3_ z4_ z5_ z6_ z7_ z8_ z9_ z10_ z11_)
        refine lv_aload_n hx hb dX11_held_53 rfl (lv_at hl 0 rfl) ?_
        refine M0e hT (fun v0_55 v2_55 v3_55 v4_55 v5_55 v6_55 v8_55 v9_55 v12_55 v13_55 v14_55 v15_55 v16_55 v17_55 v18_55 v19_55 v20_55 v21_55 v22_55 v23_55 v25_55 v36_55 v37_55 v38_55 v39_55 v40_55 v45_55 v46_55 v47_55 v48_55 v50_55 v51_55 v53_55 v55_55 hf56 hv0_55 hv2_55 hg2_55 hv3_55 hg3_55 hv4_55 hg4_55 hv5_55 hg5_55 hv6_55 hg6_55 hv8_55 hg8_55 hv9_55 hg9_55 hv12_55 hv13_55 hg13_55 hv14_55 hg14_55 hv15_55 hg15_55 hv17_55 hg17_55 hv20_55 hg20_55 hv23_55 hg23_55 hv25_55 hg25_55 hv36_55 hg36_55 hv47_55 hg47_55 hv48_55 hg48_55 hv53_55 hg53_55 hv55_55 hg55_55 hrel0_55 => ?_)
        have hg15_55 : v15_55.toInt = th 11 := hg15_55
        have hg17_55 : v17_55.toInt = th 12 := hg17_55
        have hg20_55 : v20_55.toInt = zz11 := hg20_55
        refine pl_get (v := .ref (ad 261)) hx hb hts (fun w h => mT (inX11 w h)) hown hG.1 hP (hst.1 255 (by decide)) hf56 rfl 26 (by decide) (hts _ (mT wg_1362)) (fun _ h => h) rfl dX11_held_54 ?_
        refine lv_iload_n hx hb dX11_held_57 rfl (lv_at hl 2 rfl) ?_
        obtain ⟨rw57, hf58⟩ := hT.2.2 6 (by decide)
        have hin59 : vp_in z2 9 := In.inb hb30 (by decide) (by decide)
        refine pl_iald hx hb hG.1 hP (hst.1 261 (by decide)) 0 hf58 rfl hin59 dX11_held_58 ?_
        refine lv_topi (fun x60 ex60 => ?_)
        exact ret_i (ty := .int) hx hb hr hlocks (rfl) hP hD hS (Nat.le_of_ble_eq_true rfl) (Nat.le_of_ble_eq_true rfl) (⟨rfl, ⟨(gset (gset (gset th 14 zz11) 44 zz13) 18 zz54), ⟨(show MI (gset (gset (gset th 14 zz11) 44 zz13) 18 zz54) from ⟨m1, m2, (show th 20 = (th 12) * rnd (th 10) from m3), m4, m5, m6, m7, m8, m9, m10⟩), (SBM.set (k := 18) (SBM.set (k := 44) (SBM.set (k := 14) (SBM.rf th) (by decide)) (by decide)) (by decide))⟩, hT⟩, hfr⟩) dX11_held_59
      ·
        have oc0 : (0 : Int32).toInt = 0 := by decide
        have cc61 : r39.toInt = (0 : Int32).toInt := congrArg Int32.toInt c45
        have hb62 : In r39 0 0 := In.eq1 eL43R (⟨by decide, by decide⟩ : In 0 0 0) cc61 (by decide) (by decide)
        refine lv_iconst (v := (-1)) hx hb dX11_held_45 (by decide) ?_
        exact ret_i (ty := .int) hx hb hr hlocks (rfl) hP hD hS (Nat.le_of_ble_eq_true rfl) (Nat.le_of_ble_eq_true rfl) (⟨rfl, ⟨(gset (gset (gset th 14 zz11) 18 zz12) 44 zz13), ⟨(show MI (gset (gset (gset th 14 zz11) 18 zz12) 44 zz13) from ⟨m1, m2, (show th 20 = (th 12) * rnd (th 10) from m3), m4, m5, m6, m7, m8, m9, m10⟩), (SBM.set (k := 44) (SBM.set (k := 18) (SBM.set (k := 14) (SBM.rf th) (by decide)) (by decide)) (by decide))⟩, hT⟩, hfr⟩) dX11_held_46
  ·
    have oc0 : (0 : Int32).toInt = 0 := by decide
    have cc63 : r6.toInt = (0 : Int32).toInt := congrArg Int32.toInt c14
    have hb64 : In r6 0 0 := In.eq1 eL10R (⟨by decide, by decide⟩ : In 0 0 0) cc63 (by decide) (by decide)
    refine lv_bipush (v := (-2)) hx hb dX11_held_12 (by decide) ?_
    exact ret_i (ty := .int) hx hb hr hlocks (rfl) hP hD hS (Nat.le_of_ble_eq_true rfl) (Nat.le_of_ble_eq_true rfl) (⟨rfl, ⟨(gset (gset (gset th 14 zz11) 18 zz12) 44 zz13), ⟨(show MI (gset (gset (gset th 14 zz11) 18 zz12) 44 zz13) from ⟨m1, m2, (show th 20 = (th 12) * rnd (th 10) from m3), m4, m5, m6, m7, m8, m9, m10⟩), (SBM.set (k := 44) (SBM.set (k := 18) (SBM.set (k := 14) (SBM.rf th) (by decide)) (by decide)) (by decide))⟩, hT⟩, hfr⟩) dX11_held_14

abbrev rm_X11_needed : Room := { frames := 7, cells := 0, slots := 0, locals := 170 }
abbrev po_X11_needed (g : GG) (ad : Nat → Nat) (th : Nat → Int) (L : List Nat) (f : HP)  : Int32 → (List Nat × HP) → Prop := fun r u => u.1 = L ∧ (∃ th' : Nat → Int, (MI th' ∧ SBM th th') ∧ TI g ad th' u.2) ∧ (∀ b, b ≠ (ad 255) → b ≠ (ad 265) → b ≠ (ad 266) → b ≠ (ad 267) → b ≠ (ad 268) → b ≠ (ad 269) → b ≠ (ad 270) → b ≠ (ad 260) → b ≠ (ad 261) → b ≠ (ad 262) → b ≠ (ad 263) → b ≠ (ad 264) → u.2 b = f b)
set_option maxHeartbeats 4000000 in
set_option maxRecDepth 100000 in
theorem s_X11_needed (l : Launch) (g : GG) (ad : Nat → Nat) (th : Nat → Int) (L : List Nat) (f : HP) (sz : Nat)  (hst : ST ad L) (hT : TI g ad th f) (hM : MI th) : MtI l g yX11_needed cX11_needed 4 (some .int) rm_X11_needed [.ref (ad 255)] L f sz (po_X11_needed g ad th L f ) := by
  refine MtI.of (by decide +kernel) (Nat.le_of_ble_eq_true rfl) ?_
  intro p e s m below meth c A hEn hP hD hS ls hl
  obtain ⟨hx, hb, hr, hml, hown, hlocks, hts, hG, hA, hE, hnm⟩ := hEn
  have hown : s.vm.findClass "RulerWordModel" = some m.cls := hown
  have hl : lv_has ls 4 [(0, .ref (ad 255))] := hl
  have hfr : (∀ b, b ≠ (ad 255) → b ≠ (ad 265) → b ≠ (ad 266) → b ≠ (ad 267) → b ≠ (ad 268) → b ≠ (ad 269) → b ≠ (ad 270) → b ≠ (ad 260) → b ≠ (ad 261) → b ≠ (ad 262) → b ≠ (ad 263) → b ≠ (ad 264) → f b = f b) := fun b z0_ z1_ z2_ z3_ z4_ z5_ z6_ z7_ z8_ z9_ z10_ z11_ => rfl
  have hM0 := hM
  obtain ⟨m1, m2, m3, m4, m5, m6, m7, m8, m9, m10⟩ := hM0
  have m20 := mi20 m2 m3
  refine lv_aload_n hx hb dX11_needed_0 rfl (lv_at hl 0 rfl) ?_
  refine lv_iconst (v := 0) hx hb dX11_needed_1 (by decide) ?_
  refine M0e hT (fun v0_1 v2_1 v3_1 v4_1 v5_1 v6_1 v8_1 v9_1 v12_1 v13_1 v14_1 v15_1 v16_1 v17_1 v18_1 v19_1 v20_1 v21_1 v22_1 v23_1 v25_1 v36_1 v37_1 v38_1 v39_1 v40_1 v45_1 v46_1 v47_1 v48_1 v50_1 v51_1 v53_1 v55_1 hf2 hv0_1 hv2_1 hg2_1 hv3_1 hg3_1 hv4_1 hg4_1 hv5_1 hg5_1 hv6_1 hg6_1 hv8_1 hg8_1 hv9_1 hg9_1 hv12_1 hv13_1 hg13_1 hv14_1 hg14_1 hv15_1 hg15_1 hv17_1 hg17_1 hv20_1 hg20_1 hv23_1 hg23_1 hv25_1 hg25_1 hv36_1 hg36_1 hv47_1 hg47_1 hv48_1 hg48_1 hv53_1 hg53_1 hv55_1 hg55_1 hrel0_1 => ?_)
  have hg15_1 : v15_1.toInt = th 11 := hg15_1
  have hg17_1 : v17_1.toInt = th 12 := hg17_1
  have hg20_1 : v20_1.toInt = th 14 := hg20_1
  refine pl_put (ty := .int) (v := .int 0) (fs' := [.int 0, .ref (ad 256), .int v2_1, .int v3_1, .int v4_1, .int v5_1, .int v6_1, .ref (ad 257), .int v8_1, .int v9_1, .ref (ad 258), .ref (ad 259), .int v12_1, .int v13_1, .int v14_1, .int v15_1, .int v16_1, .int v17_1, .int v18_1, .int v19_1, .int v20_1, .long v21_1, .long v22_1, .int v23_1, .ref (ad 260), .int v25_1, .ref (ad 261), .ref (ad 262), .ref (ad 263), .ref (ad 264), .ref (ad 265), .ref (ad 266), .ref (ad 267), .ref (ad 268), .ref (ad 269), .ref (ad 270), .int v36_1, .int v37_1, .int v38_1, .int v39_1, .int v40_1, .ref (ad 271), .ref (ad 272), .ref (ad 273), .ref (ad 274), .long v45_1, .long v46_1, .int v47_1, .int v48_1, .ref (ad 275), .int v50_1, .int v51_1, .ref (ad 276), .int v53_1, .ref (ad 277), .int v55_1]) hx hb hts (fun w h => mT (inX11 w h)) tyX11 tyX11_ok nmX11 hown hG.1 hP hD hS (hst.1 255 (by decide)) hf2 rfl 0 (by decide) (hts _ (mT wg_1336)) (fun _ h => h) rfl (by decide +kernel) (rfl) (rfl) (Nat.le_of_ble_eq_true rfl) rfl dX11_needed_2 (fun H locs f3 hf4 ho5 hP hD hS => ?_)
  have hfr : (∀ b, b ≠ (ad 255) → b ≠ (ad 265) → b ≠ (ad 266) → b ≠ (ad 267) → b ≠ (ad 268) → b ≠ (ad 269) → b ≠ (ad 270) → b ≠ (ad 260) → b ≠ (ad 261) → b ≠ (ad 262) → b ≠ (ad 263) → b ≠ (ad 264) → f3 b = f b) := fun b z0_ z1_ z2_ z3_ z4_ z5_ z6_ z7_ z8_ z9_ z10_ z11_ => (ho5 b z0_).trans (hfr b z0_ z1_ z2_ z3_ z4_ z5_ z6_ z7_ z8_ z9_ z10_ z11_)
  refine lv_aload_n hx hb dX11_needed_5 rfl (lv_at hl 0 rfl) ?_
  refine pl_get (v := .int v23_1) hx hb hts (fun w h => mT (inX11 w h)) hown hG.1 hP (hst.1 255 (by decide)) hf4 rfl 23 (by decide) (hts _ (mT wg_1359)) (fun _ h => h) rfl dX11_needed_6 ?_
  have hg23_1 : v23_1.toInt = th 15 := hg23_1
  have hT := TI.updM hT hst (k := 0) (by decide) hf4 ho5 ⟨0, v2_1, v3_1, v4_1, v5_1, v6_1, v8_1, v9_1, v12_1, v13_1, v14_1, v15_1, v16_1, v17_1, v18_1, v19_1, v20_1, v21_1, v22_1, v23_1, v25_1, v36_1, v37_1, v38_1, v39_1, v40_1, v45_1, v46_1, v47_1, v48_1, v50_1, v51_1, v53_1, v55_1, rfl, (⟨by decide, by decide⟩ : In 0 0 1), hv2_1, hg2_1, hv3_1, hg3_1, hv4_1, hg4_1, hv5_1, hg5_1, hv6_1, hg6_1, hv8_1, hg8_1, hv9_1, hg9_1, hv12_1, hv13_1, hg13_1, hv14_1, hg14_1, hv15_1, hg15_1, hv17_1, hg17_1, hv20_1, hg20_1, hv23_1, hg23_1, hv25_1, hg25_1, hv36_1, hg36_1, hv47_1, hg47_1, hv48_1, hg48_1, hv53_1, hg53_1, hv55_1, hg55_1, hrel0_1⟩
  refine lv_if_ne (tgt := 14) hx hb dX11_needed_9 (by decide) (fun c6 => ?_) (fun c6 => ?_)
  ·
    have oc0 : (0 : Int32).toInt = 0 := by decide
    have cc7 : v23_1.toInt ≠ (0 : Int32).toInt := i32_ne c6
    have hb8 : In v23_1 1 1 := In.ne1 hv23_1 (⟨by decide, by decide⟩ : In 0 0 0) cc7 (by decide) (by decide)
    refine lv_aload_n hx hb dX11_needed_14 rfl (lv_at hl 0 rfl) ?_
    refine call_v (run_V (rm := rm_X11_takesUp) hx hb hml hown hts (s_X11_takesUp l g ad th _ _ _  hst hT (show (th 22) = 2126 from (by have ob10 : (0 : Int) ≤ (th 10) ∧ (th 10) ≤ 1 := (b0_10 hT :); have ob11 : (0 : Int) ≤ (th 11) ∧ (th 11) ≤ 9 := (b0_11 hT :); have ob12 : (0 : Int) ≤ (th 12) ∧ (th 12) ≤ 6 := (b0_12 hT :); have ob14 : (0 : Int) ≤ (th 14) ∧ (th 14) ≤ 511 := (b0_14 hT :); have ob15 : (0 : Int) ≤ (th 15) ∧ (th 15) ≤ 1 := (b0_15 hT :); have ob16 : (0 : Int) ≤ (th 16) ∧ (th 16) ≤ 20 := (b0_16 hT :); have ob17 : (0 : Int) ≤ (th 17) ∧ (th 17) ≤ 1 := (b0_17 hT :); have ob18 : (0 : Int) ≤ (th 18) ∧ (th 18) ≤ 18 := (b0_18 hT :); have ob38 : (0 : Int) ≤ (th 38) ∧ (th 38) ≤ 400 := (b0_38 hT :); have ob39 : (0 : Int) ≤ (th 39) ∧ (th 39) ≤ 200 := (b0_39 hT :); have ob44 : (0 : Int) ≤ (th 44) ∧ (th 44) ≤ 30 := (b0_44 hT :); have orn := rnd_b (th 10); obtain ⟨o0a, o0b⟩ := (hv14_1 : In _ _ _); obtain ⟨o1a, o1b⟩ := (hv15_1 : In _ _ _); obtain ⟨o2a, o2b⟩ := (hv17_1 : In _ _ _); obtain ⟨o3a, o3b⟩ := (hv20_1 : In _ _ _); obtain ⟨o4a, o4b⟩ := (hb8 : In _ _ _); obtain ⟨o5a, o5b⟩ := (hv25_1 : In _ _ _); obtain ⟨o6a, o6b⟩ := (hv36_1 : In _ _ _); obtain ⟨o7a, o7b⟩ := (hv47_1 : In _ _ _); obtain ⟨o8a, o8b⟩ := (hv48_1 : In _ _ _); obtain ⟨o9a, o9b⟩ := (hv53_1 : In _ _ _); obtain ⟨o10a, o10b⟩ := (hv55_1 : In _ _ _); omega)) (show (th 20) ≤ 18 from (by have ob10 : (0 : Int) ≤ (th 10) ∧ (th 10) ≤ 1 := (b0_10 hT :); have ob11 : (0 : Int) ≤ (th 11) ∧ (th 11) ≤ 9 := (b0_11 hT :); have ob12 : (0 : Int) ≤ (th 12) ∧ (th 12) ≤ 6 := (b0_12 hT :); have ob14 : (0 : Int) ≤ (th 14) ∧ (th 14) ≤ 511 := (b0_14 hT :); have ob15 : (0 : Int) ≤ (th 15) ∧ (th 15) ≤ 1 := (b0_15 hT :); have ob16 : (0 : Int) ≤ (th 16) ∧ (th 16) ≤ 20 := (b0_16 hT :); have ob17 : (0 : Int) ≤ (th 17) ∧ (th 17) ≤ 1 := (b0_17 hT :); have ob18 : (0 : Int) ≤ (th 18) ∧ (th 18) ≤ 18 := (b0_18 hT :); have ob38 : (0 : Int) ≤ (th 38) ∧ (th 38) ≤ 400 := (b0_38 hT :); have ob39 : (0 : Int) ≤ (th 39) ∧ (th 39) ≤ 200 := (b0_39 hT :); have ob44 : (0 : Int) ≤ (th 44) ∧ (th 44) ≤ 30 := (b0_44 hT :); have orn := rnd_b (th 10); obtain ⟨o0a, o0b⟩ := (hv14_1 : In _ _ _); obtain ⟨o1a, o1b⟩ := (hv15_1 : In _ _ _); obtain ⟨o2a, o2b⟩ := (hv17_1 : In _ _ _); obtain ⟨o3a, o3b⟩ := (hv20_1 : In _ _ _); obtain ⟨o4a, o4b⟩ := (hb8 : In _ _ _); obtain ⟨o5a, o5b⟩ := (hv25_1 : In _ _ _); obtain ⟨o6a, o6b⟩ := (hv36_1 : In _ _ _); obtain ⟨o7a, o7b⟩ := (hv47_1 : In _ _ _); obtain ⟨o8a, o8b⟩ := (hv48_1 : In _ _ _); obtain ⟨o9a, o9b⟩ := (hv53_1 : In _ _ _); obtain ⟨o10a, o10b⟩ := (hv55_1 : In _ _ _); omega)) (show (th 21) = (th 11) from (by have ob10 : (0 : Int) ≤ (th 10) ∧ (th 10) ≤ 1 := (b0_10 hT :); have ob11 : (0 : Int) ≤ (th 11) ∧ (th 11) ≤ 9 := (b0_11 hT :); have ob12 : (0 : Int) ≤ (th 12) ∧ (th 12) ≤ 6 := (b0_12 hT :); have ob14 : (0 : Int) ≤ (th 14) ∧ (th 14) ≤ 511 := (b0_14 hT :); have ob15 : (0 : Int) ≤ (th 15) ∧ (th 15) ≤ 1 := (b0_15 hT :); have ob16 : (0 : Int) ≤ (th 16) ∧ (th 16) ≤ 20 := (b0_16 hT :); have ob17 : (0 : Int) ≤ (th 17) ∧ (th 17) ≤ 1 := (b0_17 hT :); have ob18 : (0 : Int) ≤ (th 18) ∧ (th 18) ≤ 18 := (b0_18 hT :); have ob38 : (0 : Int) ≤ (th 38) ∧ (th 38) ≤ 400 := (b0_38 hT :); have ob39 : (0 : Int) ≤ (th 39) ∧ (th 39) ≤ 200 := (b0_39 hT :); have ob44 : (0 : Int) ≤ (th 44) ∧ (th 44) ≤ 30 := (b0_44 hT :); have orn := rnd_b (th 10); obtain ⟨o0a, o0b⟩ := (hv14_1 : In _ _ _); obtain ⟨o1a, o1b⟩ := (hv15_1 : In _ _ _); obtain ⟨o2a, o2b⟩ := (hv17_1 : In _ _ _); obtain ⟨o3a, o3b⟩ := (hv20_1 : In _ _ _); obtain ⟨o4a, o4b⟩ := (hb8 : In _ _ _); obtain ⟨o5a, o5b⟩ := (hv25_1 : In _ _ _); obtain ⟨o6a, o6b⟩ := (hv36_1 : In _ _ _); obtain ⟨o7a, o7b⟩ := (hv47_1 : In _ _ _); obtain ⟨o8a, o8b⟩ := (hv48_1 : In _ _ _); obtain ⟨o9a, o9b⟩ := (hv53_1 : In _ _ _); obtain ⟨o10a, o10b⟩ := (hv55_1 : In _ _ _); omega))) cV_X11_takesUp wg_1648 ⟨Nat.le_of_ble_eq_true rfl, Nat.le_of_ble_eq_true rfl⟩ hG hE hA hP hD hS (hst.1 255 (by decide)) hf4 rfl rfl hl.1 (As := []) (rest := []) rfl (Nat.le_of_ble_eq_true rfl) dX11_needed_15 ⟨Nat.le_of_ble_eq_true rfl, Nat.le_of_ble_eq_true rfl⟩) hA hD hS (fun L10 f11 H locs hp12 hP hD hS => ?_)
    obtain ⟨eL13L, eL13T, eL13F⟩ := hp12
    have eL13L : L10 = L := eL13L
    rw [eL13L] at hP hD
    obtain ⟨zz14, zz15, zz16, hzz14, eL13T⟩ := eL13T
    have hzz14 : ((zz14 = (th 19) ∧ 0 ≤ zz14 ∧ zz14 ≤ (th 20)) ∧ (0 ≤ zz15 ∧ zz15 ≤ 511)) ∧ capI zz15 ((th 11)) := hzz14
    have hT : TI g ad (gset (gset (gset th 18 zz14) 14 zz15) 44 zz16) f11 := eL13T
    have eL13F : ∀ b, b ≠ (ad 255) → b ≠ (ad 265) → b ≠ (ad 266) → b ≠ (ad 267) → b ≠ (ad 269) → b ≠ (ad 260) → b ≠ (ad 261) → b ≠ (ad 262) → b ≠ (ad 263) → b ≠ (ad 264) → f11 b = f3 b := eL13F
    have hfr : (∀ b, b ≠ (ad 255) → b ≠ (ad 265) → b ≠ (ad 266) → b ≠ (ad 267) → b ≠ (ad 268) → b ≠ (ad 269) → b ≠ (ad 270) → b ≠ (ad 260) → b ≠ (ad 261) → b ≠ (ad 262) → b ≠ (ad 263) → b ≠ (ad 264) → f11 b = f b) := fun b z0_ z1_ z2_ z3_ z4_ z5_ z6_ z7_ z8_ z9_ z10_ z11_ => (eL13F b z0_ z1_ z2_ z3_ z5_ z7_ z8_ z9_ z10_ z11_).trans (hfr b z0_ z1_ z2_ z3_ z4_ z5_ z6_ z7_ z8_ z9_ z10_ z11_)
    refine lv_aload_n hx hb dX11_needed_18 rfl (lv_at hl 0 rfl) ?_
    refine M0e hT (fun v0_17 v2_17 v3_17 v4_17 v5_17 v6_17 v8_17 v9_17 v12_17 v13_17 v14_17 v15_17 v16_17 v17_17 v18_17 v19_17 v20_17 v21_17 v22_17 v23_17 v25_17 v36_17 v37_17 v38_17 v39_17 v40_17 v45_17 v46_17 v47_17 v48_17 v50_17 v51_17 v53_17 v55_17 hf18 hv0_17 hv2_17 hg2_17 hv3_17 hg3_17 hv4_17 hg4_17 hv5_17 hg5_17 hv6_17 hg6_17 hv8_17 hg8_17 hv9_17 hg9_17 hv12_17 hv13_17 hg13_17 hv14_17 hg14_17 hv15_17 hg15_17 hv17_17 hg17_17 hv20_17 hg20_17 hv23_17 hg23_17 hv25_17 hg25_17 hv36_17 hg36_17 hv47_17 hg47_17 hv48_17 hg48_17 hv53_17 hg53_17 hv55_17 hg55_17 hrel0_17 => ?_)
    have hg15_17 : v15_17.toInt = th 11 := hg15_17
    have hg17_17 : v17_17.toInt = th 12 := hg17_17
    have hg20_17 : v20_17.toInt = zz15 := hg20_17
    refine pl_get (v := .int v17_17) hx hb hts (fun w h => mT (inX11 w h)) hown hG.1 hP (hst.1 255 (by decide)) hf18 rfl 17 (by decide) (hts _ (mT wg_1353)) (fun _ h => h) rfl dX11_needed_19 ?_
    refine lv_istore_n (lv' := [(1, .int v17_17), (0, .ref (ad 255))]) hx hb dX11_needed_22 rfl hl (by decide) rfl (fun ls hl => ?_)
    refine lv_iconst (v := (-1)) hx hb dX11_needed_23 (by decide) ?_
    refine lv_istore_n (lv' := [(2, .int (-1)), (1, .int v17_17), (0, .ref (ad 255))]) hx hb dX11_needed_24 rfl hl (by decide) rfl (fun ls hl => ?_)
    refine lv_iconst (v := 1) hx hb dX11_needed_25 (by decide) ?_
    refine lv_istore_n (lv' := [(3, .int 1), (2, .int (-1)), (1, .int v17_17), (0, .ref (ad 255))]) hx hb dX11_needed_26 rfl hl (by decide) rfl (fun ls hl => ?_)
    have hJ27 : ∀ (k27 : Nat) (zg27_zp : Int) (zg27_zl : Int) (zg27_zg : Int) (y27_l2 : Int32) (y27_l3 : Int32) (f_27 : HP) (H : Heap) (locs : List Loc) (ls : Array Slot), In y27_l2 (-1) 6 → In y27_l3 1 7 → va_P g.1 vwCl (va_pl L f_27) H → va_D A (va_pl L f_27) → va_S A s.heap H locs → TI g ad (gset (gset (gset (gset th 44 zz16) 12 zg27_zp) 14 zg27_zl) 18 zg27_zg) f_27 → (∀ b, b ≠ (ad 255) → b ≠ (ad 265) → b ≠ (ad 266) → b ≠ (ad 267) → b ≠ (ad 268) → b ≠ (ad 269) → b ≠ (ad 270) → b ≠ (ad 260) → b ≠ (ad 261) → b ≠ (ad 262) → b ≠ (ad 263) → b ≠ (ad 264) → f_27 b = f b) → lv_has ls 4 [(0, .ref (ad 255)), (1, .int v17_17), (2, .int y27_l2), (3, .int y27_l3)] → 7 - y27_l3.toInt < ((k27 : Nat) : Int) → W p l e rm_X11_needed s m [.ref (ad 255)].toArray below meth c H locs 0 0 (MQ below (va_Qi (po_X11_needed g ad th L f ) (PstB g A) A) [.ref (ad 255)].toArray s rm_X11_needed.cells rm_X11_needed.slots A) (F0 m 27 ls []) := by
      intro k27
      induction k27 with
      | zero =>
        intro zg27_zp zg27_zl zg27_zg y27_l2 y27_l3 f_27 H locs ls hy27_l2 hy27_l3 hP hD hS hT hfr hl hmz27
        exact ms0 hy27_l3 hmz27
      | succ k27 ih27 =>
        intro zg27_zp zg27_zl zg27_zg y27_l2 y27_l3 f_27 H locs ls hy27_l2 hy27_l3 hP hD hS hT hfr hl hmz27
        refine lv_iload_n hx hb dX11_needed_27 rfl (lv_at hl 3 rfl) ?_
        refine lv_bipush (v := 6) hx hb dX11_needed_28 (by decide) ?_
        have hJ69 : ∀ (H : Heap) (locs : List Loc) (ls : Array Slot), va_P g.1 vwCl (va_pl L f_27) H → va_D A (va_pl L f_27) → va_S A s.heap H locs → lv_has ls 4 [(0, .ref (ad 255)), (1, .int v17_17), (2, .int y27_l2), (3, .int y27_l3)] → W p l e rm_X11_needed s m [.ref (ad 255)].toArray below meth c H locs 0 0 (MQ below (va_Qi (po_X11_needed g ad th L f ) (PstB g A) A) [.ref (ad 255)].toArray s rm_X11_needed.cells rm_X11_needed.slots A) (F0 m 69 ls []) := by
          intro H locs ls hP hD hS hl
          refine lv_aload_n hx hb dX11_needed_69 rfl (lv_at hl 0 rfl) ?_
          refine lv_iload_n hx hb dX11_needed_70 rfl (lv_at hl 1 rfl) ?_
          refine M0e hT (fun v0_19 v2_19 v3_19 v4_19 v5_19 v6_19 v8_19 v9_19 v12_19 v13_19 v14_19 v15_19 v16_19 v17_19 v18_19 v19_19 v20_19 v21_19 v22_19 v23_19 v25_19 v36_19 v37_19 v38_19 v39_19 v40_19 v45_19 v46_19 v47_19 v48_19 v50_19 v51_19 v53_19 v55_19 hf20 hv0_19 hv2_19 hg2_19 hv3_19 hg3_19 hv4_19 hg4_19 hv5_19 hg5_19 hv6_19 hg6_19 hv8_19 hg8_19 hv9_19 hg9_19 hv12_19 hv13_19 hg13_19 hv14_19 hg14_19 hv15_19 hg15_19 hv17_19 hg17_19 hv20_19 hg20_19 hv23_19 hg23_19 hv25_19 hg25_19 hv36_19 hg36_19 hv47_19 hg47_19 hv48_19 hg48_19 hv53_19 hg53_19 hv55_19 hg55_19 hrel0_19 => ?_)
          have hg15_19 : v15_19.toInt = th 11 := hg15_19
          have hg17_19 : v17_19.toInt = zg27_zp := hg17_19
          have hg20_19 : v20_19.toInt = zg27_zl := hg20_19
          refine pl_put (ty := .int) (v := .int v17_17) (fs' := [.int v0_19, .ref (ad 256), .int v2_19, .int v3_19, .int v4_19, .int v5_19, .int v6_19, .ref (ad 257), .int v8_19, .int v9_19, .ref (ad 258), .ref (ad 259), .int v12_19, .int v13_19, .int v14_19, .int v15_19, .int v16_19, .int v17_17, .int v18_19, .int v19_19, .int v20_19, .long v21_19, .long v22_19, .int v23_19, .ref (ad 260), .int v25_19, .ref (ad 261), .ref (ad 262), .ref (ad 263), .ref (ad 264), .ref (ad 265), .ref (ad 266), .ref (ad 267), .ref (ad 268), .ref (ad 269), .ref (ad 270), .int v36_19, .int v37_19, .int v38_19, .int v39_19, .int v40_19, .ref (ad 271), .ref (ad 272), .ref (ad 273), .ref (ad 274), .long v45_19, .long v46_19, .int v47_19, .int v48_19, .ref (ad 275), .int v50_19, .int v51_19, .ref (ad 276), .int v53_19, .ref (ad 277), .int v55_19]) hx hb hts (fun w h => mT (inX11 w h)) tyX11 tyX11_ok nmX11 hown hG.1 hP hD hS (hst.1 255 (by decide)) hf20 rfl 17 (by decide) (hts _ (mT wg_1353)) (fun _ h => h) rfl (by decide +kernel) (rfl) (rfl) (Nat.le_of_ble_eq_true rfl) rfl dX11_needed_71 (fun H locs f21 hf22 ho23 hP hD hS => ?_)
          have hfr : (∀ b, b ≠ (ad 255) → b ≠ (ad 265) → b ≠ (ad 266) → b ≠ (ad 267) → b ≠ (ad 268) → b ≠ (ad 269) → b ≠ (ad 270) → b ≠ (ad 260) → b ≠ (ad 261) → b ≠ (ad 262) → b ≠ (ad 263) → b ≠ (ad 264) → f21 b = f b) := fun b z0_ z1_ z2_ z3_ z4_ z5_ z6_ z7_ z8_ z9_ z10_ z11_ => (ho23 b z0_).trans (hfr b z0_ z1_ z2_ z3_ z4_ z5_ z6_ z7_ z8_ z9_ z10_ z11_)
          refine lv_iload_n hx hb dX11_needed_74 rfl (lv_at hl 2 rfl) ?_
          have hT := TI.updMG (th' := (gset (gset (gset (gset (gset th 44 zz16) 12 zg27_zp) 14 zg27_zl) 18 zg27_zg) 12 (v17_17.toInt))) hT hst (k := 0) (by decide) hf22 ho23 ⟨v0_19, v2_19, v3_19, v4_19, v5_19, v6_19, v8_19, v9_19, v12_19, v13_19, v14_19, v15_19, v16_19, v17_17, v18_19, v19_19, v20_19, v21_19, v22_19, v23_19, v25_19, v36_19, v37_19, v38_19, v39_19, v40_19, v45_19, v46_19, v47_19, v48_19, v50_19, v51_19, v53_19, v55_19, rfl, hv0_19, hv2_19, hg2_19, hv3_19, hg3_19, hv4_19, hg4_19, hv5_19, hg5_19, hv6_19, hg6_19, hv8_19, hg8_19, hv9_19, hg9_19, hv12_19, hv13_19, hg13_19, hv14_19, hg14_19, hv15_19, hg15_19, hv17_17, rfl, hv20_19, hg20_19, hv23_19, hg23_19, hv25_19, hg25_19, hv36_19, hg36_19, hv47_19, hg47_19, hv48_19, hg48_19, hv53_19, hg53_19, hv55_19, hg55_19, hrel0_19⟩ (fun q hq => ((gset_ne (fun e => hq (by subst e; decide))).trans rfl))
          have hT : TI g ad (gset (gset (gset (gset th 44 zz16) 14 zg27_zl) 18 zg27_zg) 12 v17_17.toInt) f21 := TI.cast hT (by funext q; by_cases hq0 : q = 12; (subst hq0; rfl); by_cases hq1 : q = 18; (subst hq1; rfl); by_cases hq2 : q = 14; (subst hq2; rfl); by_cases hq3 : q = 44; (subst hq3; rfl); simp only [gset, if_neg hq0, if_neg hq1, if_neg hq2, if_neg hq3])
          exact ret_i (ty := .int) hx hb hr hlocks (rfl) hP hD hS (Nat.le_of_ble_eq_true rfl) (Nat.le_of_ble_eq_true rfl) (⟨rfl, ⟨(gset (gset (gset (gset th 44 zz16) 14 zg27_zl) 18 zg27_zg) 12 v17_17.toInt), ⟨(show MI (gset (gset (gset (gset th 44 zz16) 14 zg27_zl) 18 zg27_zg) 12 v17_17.toInt) from ⟨m1, (show 0 ≤ v17_17.toInt ∧ v17_17.toInt ≤ 6 from (by have ob10 : (0 : Int) ≤ (th 10) ∧ (th 10) ≤ 1 := (b0_10 hT :); have ob11 : (0 : Int) ≤ (th 11) ∧ (th 11) ≤ 9 := (b0_11 hT :); have ob12 : (0 : Int) ≤ v17_17.toInt ∧ v17_17.toInt ≤ 6 := (b0_12 hT :); have ob14 : (0 : Int) ≤ zg27_zl ∧ zg27_zl ≤ 511 := (b0_14 hT :); have ob15 : (0 : Int) ≤ (th 15) ∧ (th 15) ≤ 1 := (b0_15 hT :); have ob16 : (0 : Int) ≤ (th 16) ∧ (th 16) ≤ 20 := (b0_16 hT :); have ob17 : (0 : Int) ≤ (th 17) ∧ (th 17) ≤ 1 := (b0_17 hT :); have ob18 : (0 : Int) ≤ zg27_zg ∧ zg27_zg ≤ 18 := (b0_18 hT :); have ob38 : (0 : Int) ≤ (th 38) ∧ (th 38) ≤ 400 := (b0_38 hT :); have ob39 : (0 : Int) ≤ (th 39) ∧ (th 39) ≤ 200 := (b0_39 hT :); have ob44 : (0 : Int) ≤ zz16 ∧ zz16 ≤ 30 := (b0_44 hT :); have orn := rnd_b (th 10); obtain ⟨o0a, o0b⟩ := (hv17_17 : In _ _ _); obtain ⟨o1a, o1b⟩ := (hy27_l2 : In _ _ _); obtain ⟨o2a, o2b⟩ := (hy27_l3 : In _ _ _); omega)), (show th 20 = v17_17.toInt * rnd (th 10) by rw [hg17_17]; exact m3), m4, m5, m6, m7, m8, m9, m10⟩), (SBM.set (k := 12) (SBM.set (k := 18) (SBM.set (k := 14) (SBM.set (k := 44) (SBM.rf th) (by decide)) (by decide)) (by decide)) (by decide))⟩, hT⟩, hfr⟩) dX11_needed_75
        refine lv_icmp_gt (tgt := 69) hx hb dX11_needed_30 (by decide) (fun c24 => ?_) (fun c24 => ?_)
        ·
          have oc6 : (6 : Int32).toInt = 6 := by decide
          have cc25 : (6 : Int32).toInt < y27_l3.toInt := i32_lt.mp c24
          have hb26 : In y27_l3 7 7 := In.gt1 hy27_l3 (⟨by decide, by decide⟩ : In 6 6 6) cc25 (by decide) (by decide)
          exact hJ69 _ _ _ hP hD hS (lv_sub hl [0, 1, 2, 3] rfl)
        ·
          have oc6 : (6 : Int32).toInt = 6 := by decide
          have cc27 : y27_l3.toInt ≤ (6 : Int32).toInt := i32_nlt c24
          have hb28 : In y27_l3 1 6 := In.le1 hy27_l3 (⟨by decide, by decide⟩ : In 6 6 6) cc27 (by decide) (by decide)
          refine lv_iload_n hx hb dX11_needed_33 rfl (lv_at hl 2 rfl) ?_
          refine lv_iconst (v := (-1)) hx hb dX11_needed_34 (by decide) ?_
          refine lv_icmp_ne (tgt := 69) hx hb dX11_needed_35 (by decide) (fun c29 => ?_) (fun c29 => ?_)
          ·
            have ocm1 : ((-1) : Int32).toInt = (-1) := by decide
            have cc30 : y27_l2.toInt ≠ ((-1) : Int32).toInt := i32_ne c29
            have hb31 : In y27_l2 0 6 := In.ne1 hy27_l2 (⟨by decide, by decide⟩ : In (-1) (-1) (-1)) cc30 (by decide) (by decide)
            exact hJ69 _ _ _ hP hD hS (lv_sub hl [0, 1, 2, 3] rfl)
          ·
            have ocm1 : ((-1) : Int32).toInt = (-1) := by decide
            have cc32 : y27_l2.toInt = ((-1) : Int32).toInt := congrArg Int32.toInt c29
            have hb33 : In y27_l2 (-1) (-1) := In.eq1 hy27_l2 (⟨by decide, by decide⟩ : In (-1) (-1) (-1)) cc32 (by decide) (by decide)
            refine lv_aload_n hx hb dX11_needed_38 rfl (lv_at hl 0 rfl) ?_
            refine lv_iload_n hx hb dX11_needed_39 rfl (lv_at hl 3 rfl) ?_
            refine M0e hT (fun v0_34 v2_34 v3_34 v4_34 v5_34 v6_34 v8_34 v9_34 v12_34 v13_34 v14_34 v15_34 v16_34 v17_34 v18_34 v19_34 v20_34 v21_34 v22_34 v23_34 v25_34 v36_34 v37_34 v38_34 v39_34 v40_34 v45_34 v46_34 v47_34 v48_34 v50_34 v51_34 v53_34 v55_34 hf35 hv0_34 hv2_34 hg2_34 hv3_34 hg3_34 hv4_34 hg4_34 hv5_34 hg5_34 hv6_34 hg6_34 hv8_34 hg8_34 hv9_34 hg9_34 hv12_34 hv13_34 hg13_34 hv14_34 hg14_34 hv15_34 hg15_34 hv17_34 hg17_34 hv20_34 hg20_34 hv23_34 hg23_34 hv25_34 hg25_34 hv36_34 hg36_34 hv47_34 hg47_34 hv48_34 hg48_34 hv53_34 hg53_34 hv55_34 hg55_34 hrel0_34 => ?_)
            have hg15_34 : v15_34.toInt = th 11 := hg15_34
            have hg17_34 : v17_34.toInt = zg27_zp := hg17_34
            have hg20_34 : v20_34.toInt = zg27_zl := hg20_34
            refine call_i (run_V (rm := rm_X11_freeIn) hx hb hml hown hts (s_X11_freeIn l g ad (gset (gset (gset (gset th 44 zz16) 12 zg27_zp) 14 zg27_zl) 18 zg27_zg) _ _ _ y27_l3 hst hT (In.mono hb28 (by decide) (by decide)) (show 3 ≤ th 11 by omega)) cV_X11_freeIn wg_1823 ⟨Nat.le_of_ble_eq_true rfl, Nat.le_of_ble_eq_true rfl⟩ hG hE hA hP hD hS (hst.1 255 (by decide)) hf35 rfl rfl hl.1 (As := [.int y27_l3]) (rest := []) rfl (Nat.le_of_ble_eq_true rfl) dX11_needed_40 ⟨Nat.le_of_ble_eq_true rfl, Nat.le_of_ble_eq_true rfl⟩) hA hD hS (fun r36 L37 f38 H locs hp39 hP hD hS => ?_)
            obtain ⟨eL40L, eL40T, eL40X0⟩ := hp39
            have eL40L : L37 = L := eL40L
            have eL40T : f38 = f_27 := eL40T
            rw [eL40L, eL40T] at hP hD
            have hfi41 : r36.toInt = frI (rnd (th 10)) (th 11) (zg27_zl) y27_l3.toInt := eL40X0
            refine lv_bipush (v := 12) hx hb dX11_needed_43 (by decide) ?_
            refine lv_icmp_gt (tgt := 69) hx hb dX11_needed_45 (by decide) (fun c42 => ?_) (fun c42 => ?_)
            ·
              have oc12 : (12 : Int32).toInt = 12 := by decide
              have cc43 : (12 : Int32).toInt < r36.toInt := i32_lt.mp c42
              have hb44 : In r36 13 2147483647 := In.gt1 (In.full r36) (⟨by decide, by decide⟩ : In 12 12 12) cc43 (by decide) (by decide)
              exact hJ69 _ _ _ hP hD hS (lv_sub hl [0, 1, 2, 3] rfl)
            ·
              have oc12 : (12 : Int32).toInt = 12 := by decide
              have cc45 : r36.toInt ≤ (12 : Int32).toInt := i32_nlt c42
              have hb46 : In r36 (-2147483648) 12 := In.le1 (In.full r36) (⟨by decide, by decide⟩ : In 12 12 12) cc45 (by decide) (by decide)
              refine lv_aload_n hx hb dX11_needed_48 rfl (lv_at hl 0 rfl) ?_
              refine lv_iload_n hx hb dX11_needed_49 rfl (lv_at hl 3 rfl) ?_
              refine pl_put (ty := .int) (v := .int y27_l3) (fs' := [.int v0_34, .ref (ad 256), .int v2_34, .int v3_34, .int v4_34, .int v5_34, .int v6_34, .ref (ad 257), .int v8_34, .int v9_34, .ref (ad 258), .ref (ad 259), .int v12_34, .int v13_34, .int v14_34, .int v15_34, .int v16_34, .int y27_l3, .int v18_34, .int v19_34, .int v20_34, .long v21_34, .long v22_34, .int v23_34, .ref (ad 260), .int v25_34, .ref (ad 261), .ref (ad 262), .ref (ad 263), .ref (ad 264), .ref (ad 265), .ref (ad 266), .ref (ad 267), .ref (ad 268), .ref (ad 269), .ref (ad 270), .int v36_34, .int v37_34, .int v38_34, .int v39_34, .int v40_34, .ref (ad 271), .ref (ad 272), .ref (ad 273), .ref (ad 274), .long v45_34, .long v46_34, .int v47_34, .int v48_34, .ref (ad 275), .int v50_34, .int v51_34, .ref (ad 276), .int v53_34, .ref (ad 277), .int v55_34]) hx hb hts (fun w h => mT (inX11 w h)) tyX11 tyX11_ok nmX11 hown hG.1 hP hD hS (hst.1 255 (by decide)) hf35 rfl 17 (by decide) (hts _ (mT wg_1353)) (fun _ h => h) rfl (by decide +kernel) (rfl) (rfl) (Nat.le_of_ble_eq_true rfl) rfl dX11_needed_50 (fun H locs f47 hf48 ho49 hP hD hS => ?_)
              have hfr : (∀ b, b ≠ (ad 255) → b ≠ (ad 265) → b ≠ (ad 266) → b ≠ (ad 267) → b ≠ (ad 268) → b ≠ (ad 269) → b ≠ (ad 270) → b ≠ (ad 260) → b ≠ (ad 261) → b ≠ (ad 262) → b ≠ (ad 263) → b ≠ (ad 264) → f47 b = f b) := fun b z0_ z1_ z2_ z3_ z4_ z5_ z6_ z7_ z8_ z9_ z10_ z11_ => (ho49 b z0_).trans (hfr b z0_ z1_ z2_ z3_ z4_ z5_ z6_ z7_ z8_ z9_ z10_ z11_)
              refine lv_aload_n hx hb dX11_needed_53 rfl (lv_at hl 0 rfl) ?_
              have hT := TI.updMG (th' := (gset (gset (gset (gset (gset th 44 zz16) 12 zg27_zp) 14 zg27_zl) 18 zg27_zg) 12 (y27_l3.toInt))) hT hst (k := 0) (by decide) hf48 ho49 ⟨v0_34, v2_34, v3_34, v4_34, v5_34, v6_34, v8_34, v9_34, v12_34, v13_34, v14_34, v15_34, v16_34, y27_l3, v18_34, v19_34, v20_34, v21_34, v22_34, v23_34, v25_34, v36_34, v37_34, v38_34, v39_34, v40_34, v45_34, v46_34, v47_34, v48_34, v50_34, v51_34, v53_34, v55_34, rfl, hv0_34, hv2_34, hg2_34, hv3_34, hg3_34, hv4_34, hg4_34, hv5_34, hg5_34, hv6_34, hg6_34, hv8_34, hg8_34, hv9_34, hg9_34, hv12_34, hv13_34, hg13_34, hv14_34, hg14_34, hv15_34, hg15_34, (In.mono hb28 (by decide) (by decide)), rfl, hv20_34, hg20_34, hv23_34, hg23_34, hv25_34, hg25_34, hv36_34, hg36_34, hv47_34, hg47_34, hv48_34, hg48_34, hv53_34, hg53_34, hv55_34, hg55_34, hrel0_34⟩ (fun q hq => ((gset_ne (fun e => hq (by subst e; decide))).trans rfl))
              have hT : TI g ad (gset (gset (gset (gset th 44 zz16) 14 zg27_zl) 18 zg27_zg) 12 y27_l3.toInt) f47 := TI.cast hT (by funext q; by_cases hq0 : q = 12; (subst hq0; rfl); by_cases hq1 : q = 18; (subst hq1; rfl); by_cases hq2 : q = 14; (subst hq2; rfl); by_cases hq3 : q = 44; (subst hq3; rfl); simp only [gset, if_neg hq0, if_neg hq1, if_neg hq2, if_neg hq3])
              refine M0e hT (fun v0_50 v2_50 v3_50 v4_50 v5_50 v6_50 v8_50 v9_50 v12_50 v13_50 v14_50 v15_50 v16_50 v17_50 v18_50 v19_50 v20_50 v21_50 v22_50 v23_50 v25_50 v36_50 v37_50 v38_50 v39_50 v40_50 v45_50 v46_50 v47_50 v48_50 v50_50 v51_50 v53_50 v55_50 hf51 hv0_50 hv2_50 hg2_50 hv3_50 hg3_50 hv4_50 hg4_50 hv5_50 hg5_50 hv6_50 hg6_50 hv8_50 hg8_50 hv9_50 hg9_50 hv12_50 hv13_50 hg13_50 hv14_50 hg14_50 hv15_50 hg15_50 hv17_50 hg17_50 hv20_50 hg20_50 hv23_50 hg23_50 hv25_50 hg25_50 hv36_50 hg36_50 hv47_50 hg47_50 hv48_50 hg48_50 hv53_50 hg53_50 hv55_50 hg55_50 hrel0_50 => ?_)
              have hg15_50 : v15_50.toInt = th 11 := hg15_50
              have hg17_50 : v17_50.toInt = y27_l3.toInt := hg17_50
              have hg20_50 : v20_50.toInt = zg27_zl := hg20_50
              refine call_i (run_V (rm := rm_X11_leastBroken) hx hb hml hown hts (s_X11_leastBroken l g ad (gset (gset (gset (gset th 44 zz16) 14 zg27_zl) 18 zg27_zg) 12 y27_l3.toInt) _ _ _  hst hT (show 3 ≤ th 11 by omega)) cV_X11_leastBroken wg_1838 ⟨Nat.le_of_ble_eq_true rfl, Nat.le_of_ble_eq_true rfl⟩ hG hE hA hP hD hS (hst.1 255 (by decide)) hf51 rfl rfl hl.1 (As := []) (rest := []) rfl (Nat.le_of_ble_eq_true rfl) dX11_needed_54 ⟨Nat.le_of_ble_eq_true rfl, Nat.le_of_ble_eq_true rfl⟩) hA hD hS (fun r52 L53 f54 H locs hp55 hP hD hS => ?_)
              obtain ⟨eL56L, eL56T, eL56F⟩ := hp55
              have eL56L : L53 = L := eL56L
              rw [eL56L] at hP hD
              obtain ⟨zz57, hzz57, eL56T⟩ := eL56T
              have hzz57 : True := hzz57
              have hT : TI g ad (gset (gset (gset (gset (gset th 44 zz16) 14 zg27_zl) 18 zg27_zg) 12 y27_l3.toInt) 18 zz57) f54 := eL56T
              have hT : TI g ad (gset (gset (gset (gset th 44 zz16) 14 zg27_zl) 12 y27_l3.toInt) 18 zz57) f54 := TI.cast hT (by funext q; by_cases hq0 : q = 18; (subst hq0; rfl); by_cases hq1 : q = 12; (subst hq1; rfl); by_cases hq2 : q = 14; (subst hq2; rfl); by_cases hq3 : q = 44; (subst hq3; rfl); simp only [gset, if_neg hq0, if_neg hq1, if_neg hq2, if_neg hq3])
              have eL56F : ∀ b, b ≠ (ad 255) → b ≠ (ad 265) → b ≠ (ad 266) → b ≠ (ad 267) → b ≠ (ad 268) → b ≠ (ad 269) → b ≠ (ad 270) → b ≠ (ad 261) → b ≠ (ad 262) → b ≠ (ad 263) → b ≠ (ad 264) → f54 b = f47 b := eL56F
              have hfr : (∀ b, b ≠ (ad 255) → b ≠ (ad 265) → b ≠ (ad 266) → b ≠ (ad 267) → b ≠ (ad 268) → b ≠ (ad 269) → b ≠ (ad 270) → b ≠ (ad 260) → b ≠ (ad 261) → b ≠ (ad 262) → b ≠ (ad 263) → b ≠ (ad 264) → f54 b = f b) := fun b z0_ z1_ z2_ z3_ z4_ z5_ z6_ z7_ z8_ z9_ z10_ z11_ => (eL56F b z0_ z1_ z2_ z3_ z4_ z5_ z6_ z8_ z9_ z10_ z11_).trans (hfr b z0_ z1_ z2_ z3_ z4_ z5_ z6_ z7_ z8_ z9_ z10_ z11_)
              refine lv_iconst (v := (-1)) hx hb dX11_needed_57 (by decide) ?_
              have hJ63 : ∀ (y63_l2 : Int32) (H : Heap) (locs : List Loc) (ls : Array Slot), In y63_l2 (-1) 6 → va_P g.1 vwCl (va_pl L f54) H → va_D A (va_pl L f54) → va_S A s.heap H locs → lv_has ls 4 [(0, .ref (ad 255)), (1, .int v17_17), (2, .int y63_l2), (3, .int y27_l3)] → W p l e rm_X11_needed s m [.ref (ad 255)].toArray below meth c H locs 0 0 (MQ below (va_Qi (po_X11_needed g ad th L f ) (PstB g A) A) [.ref (ad 255)].toArray s rm_X11_needed.cells rm_X11_needed.slots A) (F0 m 63 ls []) := by
                intro y63_l2 H locs ls hy63_l2 hP hD hS hl
                obtain ⟨x58, ex58⟩ : ∃ y : Int32, y = y27_l3 + 1 := ⟨_, rfl⟩
                have hb59 : In x58 2 7 := ex58 ▸ In.add hb28 (⟨by decide, by decide⟩ : In 1 1 1) (by decide) (by decide) (by decide) (by decide)
                have et60 : x58.toInt = y27_l3.toInt + 1 := In.adde ex58 hb28 (k := 1) (by decide) (by decide) (by decide)
                refine lv_iinc (v := x58) (lv' := [(3, .int x58), (0, .ref (ad 255)), (1, .int v17_17), (2, .int y63_l2)]) hx hb dX11_needed_63 hl (k := 3) rfl (by rw [ex58]; rfl) (by decide) rfl (fun ls hl => ?_)
                refine lv_goto (tgt := 27) hx hb dX11_needed_66 (by decide) ?_
                exact ih27 y27_l3.toInt zg27_zl zz57 y63_l2 x58 _ _ _ _ hy63_l2 (In.mono hb59 (by decide) (by decide)) hP hD hS (TI.cast hT (by funext q; by_cases hq0 : q = 18; (subst hq0; rfl); by_cases hq1 : q = 12; (subst hq1; rfl); by_cases hq2 : q = 14; (subst hq2; rfl); by_cases hq3 : q = 44; (subst hq3; rfl); simp only [gset, if_neg hq0, if_neg hq1, if_neg hq2, if_neg hq3])) hfr (lv_sub hl [1, 2, 3, 0] rfl) (msu et60 (by decide) hmz27)
              refine lv_icmp_ne (tgt := 63) hx hb dX11_needed_58 (by decide) (fun c61 => ?_) (fun c61 => ?_)
              ·
                have ocm1 : ((-1) : Int32).toInt = (-1) := by decide
                have cc62 : r52.toInt ≠ ((-1) : Int32).toInt := i32_ne c61
                exact hJ63 y27_l2 _ _ _ (In.mono hb33 (by decide) (by decide)) hP hD hS (lv_sub hl [0, 1, 2, 3] rfl)
              ·
                have ocm1 : ((-1) : Int32).toInt = (-1) := by decide
                have cc63 : r52.toInt = ((-1) : Int32).toInt := congrArg Int32.toInt c61
                have hb64 : In r52 (-1) (-1) := In.eq1 (In.full r52) (⟨by decide, by decide⟩ : In (-1) (-1) (-1)) cc63 (by decide) (by decide)
                refine lv_iload_n hx hb dX11_needed_61 rfl (lv_at hl 3 rfl) ?_
                refine lv_istore_n (lv' := [(2, .int y27_l3), (0, .ref (ad 255)), (1, .int v17_17), (3, .int y27_l3)]) hx hb dX11_needed_62 rfl hl (by decide) rfl (fun ls hl => ?_)
                exact hJ63 y27_l3 _ _ _ (In.mono hb28 (by decide) (by decide)) hP hD hS (lv_sub hl [1, 2, 0, 3] rfl)
    exact hJ27 ((7 - (1 : Int32).toInt).toNat + 1) (th 12) zz15 zz14 (-1) 1 _ _ _ _ (⟨by decide, by decide⟩ : In (-1) (-1) 6) (⟨by decide, by decide⟩ : In 1 1 7) hP hD hS (TI.cast hT (by funext q; by_cases hq0 : q = 44; (subst hq0; rfl); by_cases hq1 : q = 14; (subst hq1; rfl); by_cases hq2 : q = 18; (subst hq2; rfl); by_cases hq3 : q = 12; (subst hq3; rfl); simp only [gset, if_neg hq0, if_neg hq1, if_neg hq2, if_neg hq3])) hfr (lv_sub hl [3, 2, 1, 0] rfl) (msI _)
  ·
    have oc0 : (0 : Int32).toInt = 0 := by decide
    have cc65 : v23_1.toInt = (0 : Int32).toInt := congrArg Int32.toInt c6
    have hb66 : In v23_1 0 0 := In.eq1 hv23_1 (⟨by decide, by decide⟩ : In 0 0 0) cc65 (by decide) (by decide)
    refine lv_iconst (v := (-1)) hx hb dX11_needed_12 (by decide) ?_
    exact ret_i (ty := .int) hx hb hr hlocks (rfl) hP hD hS (Nat.le_of_ble_eq_true rfl) (Nat.le_of_ble_eq_true rfl) (⟨rfl, ⟨th, ⟨(show MI th from hM), (SBM.rf th)⟩, hT⟩, hfr⟩) dX11_needed_13

abbrev rm_X11_asOthers : Room := { frames := 5, cells := 0, slots := 0, locals := 125 }
abbrev po_X11_asOthers (g : GG) (ad : Nat → Nat) (th : Nat → Int) (L : List Nat) (f : HP) (z1 : Int32) : Int32 → (List Nat × HP) → Prop := fun r u => u.1 = L ∧ (∃ th' : Nat → Int, (MI th' ∧ SBM th th') ∧ TI g ad th' u.2) ∧ (∀ b, b ≠ (ad 255) → b ≠ (ad 265) → b ≠ (ad 266) → b ≠ (ad 267) → b ≠ (ad 268) → b ≠ (ad 269) → b ≠ (ad 270) → b ≠ (ad 260) → b ≠ (ad 261) → b ≠ (ad 262) → b ≠ (ad 263) → b ≠ (ad 264) → u.2 b = f b)
set_option maxHeartbeats 4000000 in
set_option maxRecDepth 100000 in
theorem s_X11_asOthers (l : Launch) (g : GG) (ad : Nat → Nat) (th : Nat → Int) (L : List Nat) (f : HP) (sz : Nat) (z1 : Int32) (hst : ST ad L) (hT : TI g ad th f) (hM : MI th) : MtI l g yX11_asOthers cX11_asOthers 6 (some .int) rm_X11_asOthers [.ref (ad 255), .int z1] L f sz (po_X11_asOthers g ad th L f z1) := by
  refine MtI.of (by decide +kernel) (Nat.le_of_ble_eq_true rfl) ?_
  intro p e s m below meth c A hEn hP hD hS ls hl
  obtain ⟨hx, hb, hr, hml, hown, hlocks, hts, hG, hA, hE, hnm⟩ := hEn
  have hown : s.vm.findClass "RulerWordModel" = some m.cls := hown
  have hl : lv_has ls 6 [(0, .ref (ad 255)), (1, .int z1)] := hl
  have hfr : (∀ b, b ≠ (ad 255) → b ≠ (ad 265) → b ≠ (ad 266) → b ≠ (ad 267) → b ≠ (ad 268) → b ≠ (ad 269) → b ≠ (ad 270) → b ≠ (ad 260) → b ≠ (ad 261) → b ≠ (ad 262) → b ≠ (ad 263) → b ≠ (ad 264) → f b = f b) := fun b z0_ z1_ z2_ z3_ z4_ z5_ z6_ z7_ z8_ z9_ z10_ z11_ => rfl
  have hM0 := hM
  obtain ⟨m1, m2, m3, m4, m5, m6, m7, m8, m9, m10⟩ := hM0
  have m20 := mi20 m2 m3
  refine lv_aload_n hx hb dX11_asOthers_0 rfl (lv_at hl 0 rfl) ?_
  refine lv_iconst (v := 0) hx hb dX11_asOthers_1 (by decide) ?_
  refine M0e hT (fun v0_1 v2_1 v3_1 v4_1 v5_1 v6_1 v8_1 v9_1 v12_1 v13_1 v14_1 v15_1 v16_1 v17_1 v18_1 v19_1 v20_1 v21_1 v22_1 v23_1 v25_1 v36_1 v37_1 v38_1 v39_1 v40_1 v45_1 v46_1 v47_1 v48_1 v50_1 v51_1 v53_1 v55_1 hf2 hv0_1 hv2_1 hg2_1 hv3_1 hg3_1 hv4_1 hg4_1 hv5_1 hg5_1 hv6_1 hg6_1 hv8_1 hg8_1 hv9_1 hg9_1 hv12_1 hv13_1 hg13_1 hv14_1 hg14_1 hv15_1 hg15_1 hv17_1 hg17_1 hv20_1 hg20_1 hv23_1 hg23_1 hv25_1 hg25_1 hv36_1 hg36_1 hv47_1 hg47_1 hv48_1 hg48_1 hv53_1 hg53_1 hv55_1 hg55_1 hrel0_1 => ?_)
  have hg15_1 : v15_1.toInt = th 11 := hg15_1
  have hg17_1 : v17_1.toInt = th 12 := hg17_1
  have hg20_1 : v20_1.toInt = th 14 := hg20_1
  refine pl_put (ty := .int) (v := .int 0) (fs' := [.int 0, .ref (ad 256), .int v2_1, .int v3_1, .int v4_1, .int v5_1, .int v6_1, .ref (ad 257), .int v8_1, .int v9_1, .ref (ad 258), .ref (ad 259), .int v12_1, .int v13_1, .int v14_1, .int v15_1, .int v16_1, .int v17_1, .int v18_1, .int v19_1, .int v20_1, .long v21_1, .long v22_1, .int v23_1, .ref (ad 260), .int v25_1, .ref (ad 261), .ref (ad 262), .ref (ad 263), .ref (ad 264), .ref (ad 265), .ref (ad 266), .ref (ad 267), .ref (ad 268), .ref (ad 269), .ref (ad 270), .int v36_1, .int v37_1, .int v38_1, .int v39_1, .int v40_1, .ref (ad 271), .ref (ad 272), .ref (ad 273), .ref (ad 274), .long v45_1, .long v46_1, .int v47_1, .int v48_1, .ref (ad 275), .int v50_1, .int v51_1, .ref (ad 276), .int v53_1, .ref (ad 277), .int v55_1]) hx hb hts (fun w h => mT (inX11 w h)) tyX11 tyX11_ok nmX11 hown hG.1 hP hD hS (hst.1 255 (by decide)) hf2 rfl 0 (by decide) (hts _ (mT wg_1336)) (fun _ h => h) rfl (by decide +kernel) (rfl) (rfl) (Nat.le_of_ble_eq_true rfl) rfl dX11_asOthers_2 (fun H locs f3 hf4 ho5 hP hD hS => ?_)
  have hfr : (∀ b, b ≠ (ad 255) → b ≠ (ad 265) → b ≠ (ad 266) → b ≠ (ad 267) → b ≠ (ad 268) → b ≠ (ad 269) → b ≠ (ad 270) → b ≠ (ad 260) → b ≠ (ad 261) → b ≠ (ad 262) → b ≠ (ad 263) → b ≠ (ad 264) → f3 b = f b) := fun b z0_ z1_ z2_ z3_ z4_ z5_ z6_ z7_ z8_ z9_ z10_ z11_ => (ho5 b z0_).trans (hfr b z0_ z1_ z2_ z3_ z4_ z5_ z6_ z7_ z8_ z9_ z10_ z11_)
  refine lv_aload_n hx hb dX11_asOthers_5 rfl (lv_at hl 0 rfl) ?_
  refine pl_get (v := .int v23_1) hx hb hts (fun w h => mT (inX11 w h)) hown hG.1 hP (hst.1 255 (by decide)) hf4 rfl 23 (by decide) (hts _ (mT wg_1359)) (fun _ h => h) rfl dX11_asOthers_6 ?_
  have hg23_1 : v23_1.toInt = th 15 := hg23_1
  have hT := TI.updM hT hst (k := 0) (by decide) hf4 ho5 ⟨0, v2_1, v3_1, v4_1, v5_1, v6_1, v8_1, v9_1, v12_1, v13_1, v14_1, v15_1, v16_1, v17_1, v18_1, v19_1, v20_1, v21_1, v22_1, v23_1, v25_1, v36_1, v37_1, v38_1, v39_1, v40_1, v45_1, v46_1, v47_1, v48_1, v50_1, v51_1, v53_1, v55_1, rfl, (⟨by decide, by decide⟩ : In 0 0 1), hv2_1, hg2_1, hv3_1, hg3_1, hv4_1, hg4_1, hv5_1, hg5_1, hv6_1, hg6_1, hv8_1, hg8_1, hv9_1, hg9_1, hv12_1, hv13_1, hg13_1, hv14_1, hg14_1, hv15_1, hg15_1, hv17_1, hg17_1, hv20_1, hg20_1, hv23_1, hg23_1, hv25_1, hg25_1, hv36_1, hg36_1, hv47_1, hg47_1, hv48_1, hg48_1, hv53_1, hg53_1, hv55_1, hg55_1, hrel0_1⟩
  have hJ24 : ∀ (H : Heap) (locs : List Loc) (ls : Array Slot), va_P g.1 vwCl (va_pl L f3) H → va_D A (va_pl L f3) → va_S A s.heap H locs → lv_has ls 6 [(0, .ref (ad 255)), (1, .int z1)] → W p l e rm_X11_asOthers s m [.ref (ad 255), .int z1].toArray below meth c H locs 0 0 (MQ below (va_Qi (po_X11_asOthers g ad th L f z1) (PstB g A) A) [.ref (ad 255), .int z1].toArray s rm_X11_asOthers.cells rm_X11_asOthers.slots A) (F0 m 24 ls []) := by
    intro H locs ls hP hD hS hl
    refine lv_bipush (v := (-2)) hx hb dX11_asOthers_24 (by decide) ?_
    exact ret_i (ty := .int) hx hb hr hlocks (rfl) hP hD hS (Nat.le_of_ble_eq_true rfl) (Nat.le_of_ble_eq_true rfl) (⟨rfl, ⟨th, ⟨(show MI th from hM), (SBM.rf th)⟩, hT⟩, hfr⟩) dX11_asOthers_26
  refine lv_if_eq (tgt := 24) hx hb dX11_asOthers_9 (by decide) (fun c6 => ?_) (fun c6 => ?_)
  ·
    have oc0 : (0 : Int32).toInt = 0 := by decide
    have cc7 : v23_1.toInt = (0 : Int32).toInt := congrArg Int32.toInt c6
    have hb8 : In v23_1 0 0 := In.eq1 hv23_1 (⟨by decide, by decide⟩ : In 0 0 0) cc7 (by decide) (by decide)
    exact hJ24 _ _ _ hP hD hS (lv_sub hl [0, 1] rfl)
  ·
    have oc0 : (0 : Int32).toInt = 0 := by decide
    have cc9 : v23_1.toInt ≠ (0 : Int32).toInt := i32_ne c6
    have hb10 : In v23_1 1 1 := In.ne1 hv23_1 (⟨by decide, by decide⟩ : In 0 0 0) cc9 (by decide) (by decide)
    refine lv_iload_n hx hb dX11_asOthers_12 rfl (lv_at hl 1 rfl) ?_
    refine lv_i2l hx hb dX11_asOthers_13 rfl ?_
    refine lv_lconst (v := 0) hx hb dX11_asOthers_14 (by decide) ?_
    refine lv_ldc2 hx hb hown (hts _ (mT wg_1681)) dX11_asOthers_15 ?_
    refine call_i (run_S (rm := rm_X11_isIn) hx hb hml hown hts (s_X11_isIn l g ad th _ _ _ (z1.toInt64) 0 3 hst hT ) cS_X11_isIn wg_1581 ⟨Nat.le_of_ble_eq_true rfl, Nat.le_of_ble_eq_true rfl⟩ hG hE hA hP hD hS rfl hl.1 (As := [.long (z1.toInt64), .long 0, .long 3]) (rest := []) rfl (Nat.le_of_ble_eq_true rfl) dX11_asOthers_18 ⟨Nat.le_of_ble_eq_true rfl, Nat.le_of_ble_eq_true rfl⟩) hA hD hS (fun r11 L12 f13 H locs hp14 hP hD hS => ?_)
    obtain ⟨eL15L, eL15T, eL15R, eL15X0, eL15X1⟩ := hp14
    have eL15L : L12 = L := eL15L
    have eL15T : f13 = f3 := eL15T
    rw [eL15L, eL15T] at hP hD
    have eL15R : In r11 0 1 := eL15R
    have hii16 : r11.toInt = 0 ∨ (0 ≤ z1.toInt ∧ z1.toInt ≤ 3) := by have z := eL15X0; rw [i2l_t z1, (by decide : (0 : Int64).toInt = 0), (by decide : (3 : Int64).toInt = 3)] at z; exact z
    have hii16w : ¬ r11 = 0 → In z1 0 3 := fun c => by have c2 := i32_ne c; have e0 : (0 : Int32).toInt = 0 := (by decide); exact ⟨by omega, by omega⟩
    refine lv_if_ne (tgt := 27) hx hb dX11_asOthers_21 (by decide) (fun c17 => ?_) (fun c17 => ?_)
    ·
      have oc0 : (0 : Int32).toInt = 0 := by decide
      have cc18 : r11.toInt ≠ (0 : Int32).toInt := i32_ne c17
      have hb19 : In r11 1 1 := In.ne1 eL15R (⟨by decide, by decide⟩ : In 0 0 0) cc18 (by decide) (by decide)
      have hb20 : In z1 0 3 := In.both (hii16w c17) (In.full z1) (by decide) (by decide)
      refine lv_aload_n hx hb dX11_asOthers_27 rfl (lv_at hl 0 rfl) ?_
      refine call_v (run_V (rm := rm_X11_takesUp) hx hb hml hown hts (s_X11_takesUp l g ad th _ _ _  hst hT (show (th 22) = 2126 from (by have ob10 : (0 : Int) ≤ (th 10) ∧ (th 10) ≤ 1 := (b0_10 hT :); have ob11 : (0 : Int) ≤ (th 11) ∧ (th 11) ≤ 9 := (b0_11 hT :); have ob12 : (0 : Int) ≤ (th 12) ∧ (th 12) ≤ 6 := (b0_12 hT :); have ob14 : (0 : Int) ≤ (th 14) ∧ (th 14) ≤ 511 := (b0_14 hT :); have ob15 : (0 : Int) ≤ (th 15) ∧ (th 15) ≤ 1 := (b0_15 hT :); have ob16 : (0 : Int) ≤ (th 16) ∧ (th 16) ≤ 20 := (b0_16 hT :); have ob17 : (0 : Int) ≤ (th 17) ∧ (th 17) ≤ 1 := (b0_17 hT :); have ob18 : (0 : Int) ≤ (th 18) ∧ (th 18) ≤ 18 := (b0_18 hT :); have ob38 : (0 : Int) ≤ (th 38) ∧ (th 38) ≤ 400 := (b0_38 hT :); have ob39 : (0 : Int) ≤ (th 39) ∧ (th 39) ≤ 200 := (b0_39 hT :); have ob44 : (0 : Int) ≤ (th 44) ∧ (th 44) ≤ 30 := (b0_44 hT :); have orn := rnd_b (th 10); obtain ⟨o0a, o0b⟩ := (hv14_1 : In _ _ _); obtain ⟨o1a, o1b⟩ := (hv15_1 : In _ _ _); obtain ⟨o2a, o2b⟩ := (hv17_1 : In _ _ _); obtain ⟨o3a, o3b⟩ := (hv20_1 : In _ _ _); obtain ⟨o4a, o4b⟩ := (hb10 : In _ _ _); obtain ⟨o5a, o5b⟩ := (hv25_1 : In _ _ _); obtain ⟨o6a, o6b⟩ := (hv36_1 : In _ _ _); obtain ⟨o7a, o7b⟩ := (hv47_1 : In _ _ _); obtain ⟨o8a, o8b⟩ := (hv48_1 : In _ _ _); obtain ⟨o9a, o9b⟩ := (hv53_1 : In _ _ _); obtain ⟨o10a, o10b⟩ := (hv55_1 : In _ _ _); omega)) (show (th 20) ≤ 18 from (by have ob10 : (0 : Int) ≤ (th 10) ∧ (th 10) ≤ 1 := (b0_10 hT :); have ob11 : (0 : Int) ≤ (th 11) ∧ (th 11) ≤ 9 := (b0_11 hT :); have ob12 : (0 : Int) ≤ (th 12) ∧ (th 12) ≤ 6 := (b0_12 hT :); have ob14 : (0 : Int) ≤ (th 14) ∧ (th 14) ≤ 511 := (b0_14 hT :); have ob15 : (0 : Int) ≤ (th 15) ∧ (th 15) ≤ 1 := (b0_15 hT :); have ob16 : (0 : Int) ≤ (th 16) ∧ (th 16) ≤ 20 := (b0_16 hT :); have ob17 : (0 : Int) ≤ (th 17) ∧ (th 17) ≤ 1 := (b0_17 hT :); have ob18 : (0 : Int) ≤ (th 18) ∧ (th 18) ≤ 18 := (b0_18 hT :); have ob38 : (0 : Int) ≤ (th 38) ∧ (th 38) ≤ 400 := (b0_38 hT :); have ob39 : (0 : Int) ≤ (th 39) ∧ (th 39) ≤ 200 := (b0_39 hT :); have ob44 : (0 : Int) ≤ (th 44) ∧ (th 44) ≤ 30 := (b0_44 hT :); have orn := rnd_b (th 10); obtain ⟨o0a, o0b⟩ := (hv14_1 : In _ _ _); obtain ⟨o1a, o1b⟩ := (hv15_1 : In _ _ _); obtain ⟨o2a, o2b⟩ := (hv17_1 : In _ _ _); obtain ⟨o3a, o3b⟩ := (hv20_1 : In _ _ _); obtain ⟨o4a, o4b⟩ := (hb10 : In _ _ _); obtain ⟨o5a, o5b⟩ := (hv25_1 : In _ _ _); obtain ⟨o6a, o6b⟩ := (hv36_1 : In _ _ _); obtain ⟨o7a, o7b⟩ := (hv47_1 : In _ _ _); obtain ⟨o8a, o8b⟩ := (hv48_1 : In _ _ _); obtain ⟨o9a, o9b⟩ := (hv53_1 : In _ _ _); obtain ⟨o10a, o10b⟩ := (hv55_1 : In _ _ _); omega)) (show (th 21) = (th 11) from (by have ob10 : (0 : Int) ≤ (th 10) ∧ (th 10) ≤ 1 := (b0_10 hT :); have ob11 : (0 : Int) ≤ (th 11) ∧ (th 11) ≤ 9 := (b0_11 hT :); have ob12 : (0 : Int) ≤ (th 12) ∧ (th 12) ≤ 6 := (b0_12 hT :); have ob14 : (0 : Int) ≤ (th 14) ∧ (th 14) ≤ 511 := (b0_14 hT :); have ob15 : (0 : Int) ≤ (th 15) ∧ (th 15) ≤ 1 := (b0_15 hT :); have ob16 : (0 : Int) ≤ (th 16) ∧ (th 16) ≤ 20 := (b0_16 hT :); have ob17 : (0 : Int) ≤ (th 17) ∧ (th 17) ≤ 1 := (b0_17 hT :); have ob18 : (0 : Int) ≤ (th 18) ∧ (th 18) ≤ 18 := (b0_18 hT :); have ob38 : (0 : Int) ≤ (th 38) ∧ (th 38) ≤ 400 := (b0_38 hT :); have ob39 : (0 : Int) ≤ (th 39) ∧ (th 39) ≤ 200 := (b0_39 hT :); have ob44 : (0 : Int) ≤ (th 44) ∧ (th 44) ≤ 30 := (b0_44 hT :); have orn := rnd_b (th 10); obtain ⟨o0a, o0b⟩ := (hv14_1 : In _ _ _); obtain ⟨o1a, o1b⟩ := (hv15_1 : In _ _ _); obtain ⟨o2a, o2b⟩ := (hv17_1 : In _ _ _); obtain ⟨o3a, o3b⟩ := (hv20_1 : In _ _ _); obtain ⟨o4a, o4b⟩ := (hb10 : In _ _ _); obtain ⟨o5a, o5b⟩ := (hv25_1 : In _ _ _); obtain ⟨o6a, o6b⟩ := (hv36_1 : In _ _ _); obtain ⟨o7a, o7b⟩ := (hv47_1 : In _ _ _); obtain ⟨o8a, o8b⟩ := (hv48_1 : In _ _ _); obtain ⟨o9a, o9b⟩ := (hv53_1 : In _ _ _); obtain ⟨o10a, o10b⟩ := (hv55_1 : In _ _ _); omega))) cV_X11_takesUp wg_1648 ⟨Nat.le_of_ble_eq_true rfl, Nat.le_of_ble_eq_true rfl⟩ hG hE hA hP hD hS (hst.1 255 (by decide)) hf4 rfl rfl hl.1 (As := []) (rest := []) rfl (Nat.le_of_ble_eq_true rfl) dX11_asOthers_28 ⟨Nat.le_of_ble_eq_true rfl, Nat.le_of_ble_eq_true rfl⟩) hA hD hS (fun L22 f23 H locs hp24 hP hD hS => ?_)
      obtain ⟨eL25L, eL25T, eL25F⟩ := hp24
      have eL25L : L22 = L := eL25L
      rw [eL25L] at hP hD
      obtain ⟨zz26, zz27, zz28, hzz26, eL25T⟩ := eL25T
      have hzz26 : ((zz26 = (th 19) ∧ 0 ≤ zz26 ∧ zz26 ≤ (th 20)) ∧ (0 ≤ zz27 ∧ zz27 ≤ 511)) ∧ capI zz27 ((th 11)) := hzz26
      have hT : TI g ad (gset (gset (gset th 18 zz26) 14 zz27) 44 zz28) f23 := eL25T
      have eL25F : ∀ b, b ≠ (ad 255) → b ≠ (ad 265) → b ≠ (ad 266) → b ≠ (ad 267) → b ≠ (ad 269) → b ≠ (ad 260) → b ≠ (ad 261) → b ≠ (ad 262) → b ≠ (ad 263) → b ≠ (ad 264) → f23 b = f3 b := eL25F
      have hfr : (∀ b, b ≠ (ad 255) → b ≠ (ad 265) → b ≠ (ad 266) → b ≠ (ad 267) → b ≠ (ad 268) → b ≠ (ad 269) → b ≠ (ad 270) → b ≠ (ad 260) → b ≠ (ad 261) → b ≠ (ad 262) → b ≠ (ad 263) → b ≠ (ad 264) → f23 b = f b) := fun b z0_ z1_ z2_ z3_ z4_ z5_ z6_ z7_ z8_ z9_ z10_ z11_ => (eL25F b z0_ z1_ z2_ z3_ z5_ z7_ z8_ z9_ z10_ z11_).trans (hfr b z0_ z1_ z2_ z3_ z4_ z5_ z6_ z7_ z8_ z9_ z10_ z11_)
      refine lv_aload_n hx hb dX11_asOthers_31 rfl (lv_at hl 0 rfl) ?_
      refine M0e hT (fun v0_29 v2_29 v3_29 v4_29 v5_29 v6_29 v8_29 v9_29 v12_29 v13_29 v14_29 v15_29 v16_29 v17_29 v18_29 v19_29 v20_29 v21_29 v22_29 v23_29 v25_29 v36_29 v37_29 v38_29 v39_29 v40_29 v45_29 v46_29 v47_29 v48_29 v50_29 v51_29 v53_29 v55_29 hf30 hv0_29 hv2_29 hg2_29 hv3_29 hg3_29 hv4_29 hg4_29 hv5_29 hg5_29 hv6_29 hg6_29 hv8_29 hg8_29 hv9_29 hg9_29 hv12_29 hv13_29 hg13_29 hv14_29 hg14_29 hv15_29 hg15_29 hv17_29 hg17_29 hv20_29 hg20_29 hv23_29 hg23_29 hv25_29 hg25_29 hv36_29 hg36_29 hv47_29 hg47_29 hv48_29 hg48_29 hv53_29 hg53_29 hv55_29 hg55_29 hrel0_29 => ?_)
      have hg15_29 : v15_29.toInt = th 11 := hg15_29
      have hg17_29 : v17_29.toInt = th 12 := hg17_29
      have hg20_29 : v20_29.toInt = zz27 := hg20_29
      refine pl_get (v := .int v14_29) hx hb hts (fun w h => mT (inX11 w h)) hown hG.1 hP (hst.1 255 (by decide)) hf30 rfl 14 (by decide) (hts _ (mT wg_1350)) (fun _ h => h) rfl dX11_asOthers_32 ?_
      have hg14_29 : v14_29.toInt = th 10 := hg14_29
      refine lv_istore_n (lv' := [(2, .int v14_29), (0, .ref (ad 255)), (1, .int z1)]) hx hb dX11_asOthers_35 rfl hl (by decide) rfl (fun ls hl => ?_)
      refine lv_aload_n hx hb dX11_asOthers_36 rfl (lv_at hl 1 rfl) ?_
      refine lv_iconst (v := 1) hx hb dX11_asOthers_37 (by decide) ?_
      refine lv_aload_n hx hb dX11_asOthers_38 rfl (lv_at hl 1 rfl) ?_
      refine pl_get (v := .int v14_29) hx hb hts (fun w h => mT (inX11 w h)) hown hG.1 hP (hst.1 255 (by decide)) hf30 rfl 14 (by decide) (hts _ (mT wg_1350)) (fun _ h => h) rfl dX11_asOthers_39 ?_
      refine lv_isub hx hb dX11_asOthers_42 ?_
      refine lv_topi (fun x31 ex31 => ?_)
      have hb32 : In x31 0 1 := ex31 ▸ In.sub (⟨by decide, by decide⟩ : In 1 1 1) hv14_29 (by decide) (by decide) (by decide) (by decide)
      have et33 : x31.toInt = (1 : Int32).toInt - v14_29.toInt := In.sub2e ex31 (⟨by decide, by decide⟩ : In 1 1 1) hv14_29 (by decide) (by decide)
      refine pl_put (ty := .int) (v := .int x31) (fs' := [.int v0_29, .ref (ad 256), .int v2_29, .int v3_29, .int v4_29, .int v5_29, .int v6_29, .ref (ad 257), .int v8_29, .int v9_29, .ref (ad 258), .ref (ad 259), .int v12_29, .int v13_29, .int x31, .int v15_29, .int v16_29, .int v17_29, .int v18_29, .int v19_29, .int v20_29, .long v21_29, .long v22_29, .int v23_29, .ref (ad 260), .int v25_29, .ref (ad 261), .ref (ad 262), .ref (ad 263), .ref (ad 264), .ref (ad 265), .ref (ad 266), .ref (ad 267), .ref (ad 268), .ref (ad 269), .ref (ad 270), .int v36_29, .int v37_29, .int v38_29, .int v39_29, .int v40_29, .ref (ad 271), .ref (ad 272), .ref (ad 273), .ref (ad 274), .long v45_29, .long v46_29, .int v47_29, .int v48_29, .ref (ad 275), .int v50_29, .int v51_29, .ref (ad 276), .int v53_29, .ref (ad 277), .int v55_29]) hx hb hts (fun w h => mT (inX11 w h)) tyX11 tyX11_ok nmX11 hown hG.1 hP hD hS (hst.1 255 (by decide)) hf30 rfl 14 (by decide) (hts _ (mT wg_1350)) (fun _ h => h) rfl (by decide +kernel) (rfl) (rfl) (Nat.le_of_ble_eq_true rfl) rfl dX11_asOthers_43 (fun H locs f34 hf35 ho36 hP hD hS => ?_)
      have hfr : (∀ b, b ≠ (ad 255) → b ≠ (ad 265) → b ≠ (ad 266) → b ≠ (ad 267) → b ≠ (ad 268) → b ≠ (ad 269) → b ≠ (ad 270) → b ≠ (ad 260) → b ≠ (ad 261) → b ≠ (ad 262) → b ≠ (ad 263) → b ≠ (ad 264) → f34 b = f b) := fun b z0_ z1_ z2_ z3_ z4_ z5_ z6_ z7_ z8_ z9_ z10_ z11_ => (ho36 b z0_).trans (hfr b z0_ z1_ z2_ z3_ z4_ z5_ z6_ z7_ z8_ z9_ z10_ z11_)
      refine lv_aload_n hx hb dX11_asOthers_46 rfl (lv_at hl 1 rfl) ?_
      refine lv_iconst (v := 0) hx hb dX11_asOthers_47 (by decide) ?_
      refine pl_put (ty := .int) (v := .int 0) (fs' := [.int v0_29, .ref (ad 256), .int v2_29, .int v3_29, .int v4_29, .int v5_29, .int v6_29, .ref (ad 257), .int v8_29, .int v9_29, .ref (ad 258), .ref (ad 259), .int v12_29, .int v13_29, .int x31, .int v15_29, .int v16_29, .int v17_29, .int v18_29, .int v19_29, .int v20_29, .long v21_29, .long v22_29, .int v23_29, .ref (ad 260), .int 0, .ref (ad 261), .ref (ad 262), .ref (ad 263), .ref (ad 264), .ref (ad 265), .ref (ad 266), .ref (ad 267), .ref (ad 268), .ref (ad 269), .ref (ad 270), .int v36_29, .int v37_29, .int v38_29, .int v39_29, .int v40_29, .ref (ad 271), .ref (ad 272), .ref (ad 273), .ref (ad 274), .long v45_29, .long v46_29, .int v47_29, .int v48_29, .ref (ad 275), .int v50_29, .int v51_29, .ref (ad 276), .int v53_29, .ref (ad 277), .int v55_29]) hx hb hts (fun w h => mT (inX11 w h)) tyX11 tyX11_ok nmX11 hown hG.1 hP hD hS (hst.1 255 (by decide)) hf35 rfl 25 (by decide) (hts _ (mT wg_1361)) (fun _ h => h) rfl (by decide +kernel) (rfl) (rfl) (Nat.le_of_ble_eq_true rfl) rfl dX11_asOthers_48 (fun H locs f37 hf38 ho39 hP hD hS => ?_)
      have ho40 : ∀ b, b ≠ (ad 255) → f37 b = _ := fun b hb => (ho39 b hb).trans (ho36 b hb)
      have hfr : (∀ b, b ≠ (ad 255) → b ≠ (ad 265) → b ≠ (ad 266) → b ≠ (ad 267) → b ≠ (ad 268) → b ≠ (ad 269) → b ≠ (ad 270) → b ≠ (ad 260) → b ≠ (ad 261) → b ≠ (ad 262) → b ≠ (ad 263) → b ≠ (ad 264) → f37 b = f b) := fun b z0_ z1_ z2_ z3_ z4_ z5_ z6_ z7_ z8_ z9_ z10_ z11_ => (ho39 b z0_).trans (hfr b z0_ z1_ z2_ z3_ z4_ z5_ z6_ z7_ z8_ z9_ z10_ z11_)
      refine lv_aload_n hx hb dX11_asOthers_51 rfl (lv_at hl 1 rfl) ?_
      refine lv_iconst (v := 0) hx hb dX11_asOthers_52 (by decide) ?_
      refine pl_put (ty := .int) (v := .int 0) (fs' := [.int v0_29, .ref (ad 256), .int v2_29, .int v3_29, .int v4_29, .int v5_29, .int v6_29, .ref (ad 257), .int v8_29, .int v9_29, .ref (ad 258), .ref (ad 259), .int v12_29, .int v13_29, .int x31, .int v15_29, .int v16_29, .int v17_29, .int v18_29, .int v19_29, .int v20_29, .long v21_29, .long v22_29, .int v23_29, .ref (ad 260), .int 0, .ref (ad 261), .ref (ad 262), .ref (ad 263), .ref (ad 264), .ref (ad 265), .ref (ad 266), .ref (ad 267), .ref (ad 268), .ref (ad 269), .ref (ad 270), .int v36_29, .int v37_29, .int v38_29, .int 0, .int v40_29, .ref (ad 271), .ref (ad 272), .ref (ad 273), .ref (ad 274), .long v45_29, .long v46_29, .int v47_29, .int v48_29, .ref (ad 275), .int v50_29, .int v51_29, .ref (ad 276), .int v53_29, .ref (ad 277), .int v55_29]) hx hb hts (fun w h => mT (inX11 w h)) tyX11 tyX11_ok nmX11 hown hG.1 hP hD hS (hst.1 255 (by decide)) hf38 rfl 39 (by decide) (hts _ (mT wg_1375)) (fun _ h => h) rfl (by decide +kernel) (rfl) (rfl) (Nat.le_of_ble_eq_true rfl) rfl dX11_asOthers_53 (fun H locs f41 hf42 ho43 hP hD hS => ?_)
      have ho44 : ∀ b, b ≠ (ad 255) → f41 b = _ := fun b hb => (ho43 b hb).trans (ho40 b hb)
      have hfr : (∀ b, b ≠ (ad 255) → b ≠ (ad 265) → b ≠ (ad 266) → b ≠ (ad 267) → b ≠ (ad 268) → b ≠ (ad 269) → b ≠ (ad 270) → b ≠ (ad 260) → b ≠ (ad 261) → b ≠ (ad 262) → b ≠ (ad 263) → b ≠ (ad 264) → f41 b = f b) := fun b z0_ z1_ z2_ z3_ z4_ z5_ z6_ z7_ z8_ z9_ z10_ z11_ => (ho43 b z0_).trans (hfr b z0_ z1_ z2_ z3_ z4_ z5_ z6_ z7_ z8_ z9_ z10_ z11_)
      refine lv_aload_n hx hb dX11_asOthers_56 rfl (lv_at hl 1 rfl) ?_
      have hT := TI.updMG (th' := (gset (gset (gset (gset (gset th 18 zz26) 14 zz27) 44 zz28) 10 (x31.toInt)) 44 (0))) hT hst (k := 0) (by decide) hf42 ho44 ⟨v0_29, v2_29, v3_29, v4_29, v5_29, v6_29, v8_29, v9_29, v12_29, v13_29, x31, v15_29, v16_29, v17_29, v18_29, v19_29, v20_29, v21_29, v22_29, v23_29, 0, v36_29, v37_29, v38_29, 0, v40_29, v45_29, v46_29, v47_29, v48_29, v50_29, v51_29, v53_29, v55_29, rfl, hv0_29, hv2_29, hg2_29, hv3_29, hg3_29, hv4_29, hg4_29, hv5_29, hg5_29, hv6_29, hg6_29, hv8_29, hg8_29, hv9_29, hg9_29, hv12_29, hv13_29, hg13_29, hb32, rfl, hv15_29, hg15_29, hv17_29, hg17_29, hv20_29, hg20_29, hv23_29, hg23_29, (⟨by decide, by decide⟩ : In 0 0 30), (show (0 : Int32).toInt = 0 by decide), hv36_29, hg36_29, hv47_29, hg47_29, hv48_29, hg48_29, hv53_29, hg53_29, hv55_29, hg55_29, hrel0_29⟩ (fun q hq => ((gset_ne (fun e => hq (by subst e; decide))).trans ((gset_ne (fun e => hq (by subst e; decide))).trans rfl)))
      have hT : TI g ad (gset (gset (gset (gset th 18 zz26) 14 zz27) 10 x31.toInt) 44 0) f41 := TI.cast hT (by funext q; by_cases hq0 : q = 44; (subst hq0; rfl); by_cases hq1 : q = 10; (subst hq1; rfl); by_cases hq2 : q = 14; (subst hq2; rfl); by_cases hq3 : q = 18; (subst hq3; rfl); simp only [gset, if_neg hq0, if_neg hq1, if_neg hq2, if_neg hq3])
      refine M0e hT (fun v0_45 v2_45 v3_45 v4_45 v5_45 v6_45 v8_45 v9_45 v12_45 v13_45 v14_45 v15_45 v16_45 v17_45 v18_45 v19_45 v20_45 v21_45 v22_45 v23_45 v25_45 v36_45 v37_45 v38_45 v39_45 v40_45 v45_45 v46_45 v47_45 v48_45 v50_45 v51_45 v53_45 v55_45 hf46 hv0_45 hv2_45 hg2_45 hv3_45 hg3_45 hv4_45 hg4_45 hv5_45 hg5_45 hv6_45 hg6_45 hv8_45 hg8_45 hv9_45 hg9_45 hv12_45 hv13_45 hg13_45 hv14_45 hg14_45 hv15_45 hg15_45 hv17_45 hg17_45 hv20_45 hg20_45 hv23_45 hg23_45 hv25_45 hg25_45 hv36_45 hg36_45 hv47_45 hg47_45 hv48_45 hg48_45 hv53_45 hg53_45 hv55_45 hg55_45 hrel0_45 => ?_)
      have hg15_45 : v15_45.toInt = th 11 := hg15_45
      have hg17_45 : v17_45.toInt = th 12 := hg17_45
      have hg20_45 : v20_45.toInt = zz27 := hg20_45
      refine call_v (run_V (rm := rm_X11_startsAnew) hx hb hml hown hts (s_X11_startsAnew l g ad (gset (gset (gset (gset th 18 zz26) 14 zz27) 10 x31.toInt) 44 0) _ _ _  hst hT ) cV_X11_startsAnew wg_1616 ⟨Nat.le_of_ble_eq_true rfl, Nat.le_of_ble_eq_true rfl⟩ hG hE hA hP hD hS (hst.1 255 (by decide)) hf46 rfl rfl hl.1 (As := []) (rest := []) rfl (Nat.le_of_ble_eq_true rfl) dX11_asOthers_57 ⟨Nat.le_of_ble_eq_true rfl, Nat.le_of_ble_eq_true rfl⟩) hA hD hS (fun L48 f49 H locs hp50 hP hD hS => ?_)
      obtain ⟨eL51L, eL51T, eL51F⟩ := hp50
      have eL51L : L48 = L := eL51L
      rw [eL51L] at hP hD
      have hT : TI g ad (gset (gset (gset (gset (gset th 18 zz26) 14 zz27) 10 x31.toInt) 44 0) 18 0) f49 := eL51T
      have hT : TI g ad (gset (gset (gset (gset th 14 zz27) 10 x31.toInt) 44 0) 18 0) f49 := TI.cast hT (by funext q; by_cases hq0 : q = 18; (subst hq0; rfl); by_cases hq1 : q = 44; (subst hq1; rfl); by_cases hq2 : q = 10; (subst hq2; rfl); by_cases hq3 : q = 14; (subst hq3; rfl); simp only [gset, if_neg hq0, if_neg hq1, if_neg hq2, if_neg hq3])
      have eL51F : ∀ b, b ≠ (ad 255) → b ≠ (ad 261) → b ≠ (ad 262) → f49 b = f41 b := eL51F
      have hfr : (∀ b, b ≠ (ad 255) → b ≠ (ad 265) → b ≠ (ad 266) → b ≠ (ad 267) → b ≠ (ad 268) → b ≠ (ad 269) → b ≠ (ad 270) → b ≠ (ad 260) → b ≠ (ad 261) → b ≠ (ad 262) → b ≠ (ad 263) → b ≠ (ad 264) → f49 b = f b) := fun b z0_ z1_ z2_ z3_ z4_ z5_ z6_ z7_ z8_ z9_ z10_ z11_ => (eL51F b z0_ z8_ z9_).trans (hfr b z0_ z1_ z2_ z3_ z4_ z5_ z6_ z7_ z8_ z9_ z10_ z11_)
      refine lv_iconst (v := (-1)) hx hb dX11_asOthers_60 (by decide) ?_
      refine lv_istore_n (lv' := [(3, .int (-1)), (2, .int v14_29), (0, .ref (ad 255)), (1, .int z1)]) hx hb dX11_asOthers_61 rfl hl (by decide) rfl (fun ls hl => ?_)
      refine lv_iconst (v := 0) hx hb dX11_asOthers_62 (by decide) ?_
      refine lv_istore (lv' := [(4, .int 0), (3, .int (-1)), (2, .int v14_29), (0, .ref (ad 255)), (1, .int z1)]) hx hb dX11_asOthers_63 hl (by decide) rfl (fun ls hl => ?_)
      have hJ65 : ∀ (k65 : Nat) (zg65_zg : Int) (y65_l3 : Int32) (y65_l4 : Int32) (f_65 : HP) (H : Heap) (locs : List Loc) (ls : Array Slot), (0 ≤ zg65_zg ∧ zg65_zg ≤ 3 * y65_l4.toInt) → In y65_l3 (-1) 5 → In y65_l4 0 6 → va_P g.1 vwCl (va_pl L f_65) H → va_D A (va_pl L f_65) → va_S A s.heap H locs → TI g ad (gset (gset (gset (gset th 14 zz27) 10 x31.toInt) 44 0) 18 zg65_zg) f_65 → (∀ b, b ≠ (ad 255) → b ≠ (ad 265) → b ≠ (ad 266) → b ≠ (ad 267) → b ≠ (ad 268) → b ≠ (ad 269) → b ≠ (ad 270) → b ≠ (ad 260) → b ≠ (ad 261) → b ≠ (ad 262) → b ≠ (ad 263) → b ≠ (ad 264) → f_65 b = f b) → lv_has ls 6 [(0, .ref (ad 255)), (1, .int z1), (2, .int v14_29), (3, .int y65_l3), (4, .int y65_l4)] → 6 - y65_l4.toInt < ((k65 : Nat) : Int) → W p l e rm_X11_asOthers s m [.ref (ad 255), .int z1].toArray below meth c H locs 0 0 (MQ below (va_Qi (po_X11_asOthers g ad th L f z1) (PstB g A) A) [.ref (ad 255), .int z1].toArray s rm_X11_asOthers.cells rm_X11_asOthers.slots A) (F0 m 65 ls []) := by
        intro k65
        induction k65 with
        | zero =>
          intro zg65_zg y65_l3 y65_l4 f_65 H locs ls hzg65 hy65_l3 hy65_l4 hP hD hS hT hfr hl hmz65
          exact ms0 hy65_l4 hmz65
        | succ k65 ih65 =>
          intro zg65_zg y65_l3 y65_l4 f_65 H locs ls hzg65 hy65_l3 hy65_l4 hP hD hS hT hfr hl hmz65
          refine lv_iload hx hb dX11_asOthers_65 (lv_at hl 4 rfl) ?_
          refine lv_aload_n hx hb dX11_asOthers_67 rfl (lv_at hl 0 rfl) ?_
          refine M0e hT (fun v0_52 v2_52 v3_52 v4_52 v5_52 v6_52 v8_52 v9_52 v12_52 v13_52 v14_52 v15_52 v16_52 v17_52 v18_52 v19_52 v20_52 v21_52 v22_52 v23_52 v25_52 v36_52 v37_52 v38_52 v39_52 v40_52 v45_52 v46_52 v47_52 v48_52 v50_52 v51_52 v53_52 v55_52 hf53 hv0_52 hv2_52 hg2_52 hv3_52 hg3_52 hv4_52 hg4_52 hv5_52 hg5_52 hv6_52 hg6_52 hv8_52 hg8_52 hv9_52 hg9_52 hv12_52 hv13_52 hg13_52 hv14_52 hg14_52 hv15_52 hg15_52 hv17_52 hg17_52 hv20_52 hg20_52 hv23_52 hg23_52 hv25_52 hg25_52 hv36_52 hg36_52 hv47_52 hg47_52 hv48_52 hg48_52 hv53_52 hg53_52 hv55_52 hg55_52 hrel0_52 => ?_)
          have hg15_52 : v15_52.toInt = th 11 := hg15_52
          have hg17_52 : v17_52.toInt = th 12 := hg17_52
          have hg20_52 : v20_52.toInt = zz27 := hg20_52
          refine pl_get (v := .int v17_52) hx hb hts (fun w h => mT (inX11 w h)) hown hG.1 hP (hst.1 255 (by decide)) hf53 rfl 17 (by decide) (hts _ (mT wg_1353)) (fun _ h => h) rfl dX11_asOthers_68 ?_
          refine lv_icmp_ge (tgt := 125) hx hb dX11_asOthers_71 (by decide) (fun c54 => ?_) (fun c54 => ?_)
          ·
            have cc55 : v17_52.toInt ≤ y65_l4.toInt := i32_le.mp c54
            refine lv_aload_n hx hb dX11_asOthers_125 rfl (lv_at hl 0 rfl) ?_
            refine lv_aload_n hx hb dX11_asOthers_126 rfl (lv_at hl 0 rfl) ?_
            refine pl_get (v := .int v14_52) hx hb hts (fun w h => mT (inX11 w h)) hown hG.1 hP (hst.1 255 (by decide)) hf53 rfl 14 (by decide) (hts _ (mT wg_1350)) (fun _ h => h) rfl dX11_asOthers_127 ?_
            have hg14_52 : v14_52.toInt = x31.toInt := hg14_52
            refine call_i (run_V (rm := rm_X11_foretold) hx hb hml hown hts (s_X11_foretold l g ad (gset (gset (gset (gset th 14 zz27) 10 x31.toInt) 44 0) 18 zg65_zg) _ _ _ v14_52 hst hT ) cV_X11_foretold wg_1806 ⟨Nat.le_of_ble_eq_true rfl, Nat.le_of_ble_eq_true rfl⟩ hG hE hA hP hD hS (hst.1 255 (by decide)) hf53 rfl rfl hl.1 (As := [.int v14_52]) (rest := []) rfl (Nat.le_of_ble_eq_true rfl) dX11_asOthers_130 ⟨Nat.le_of_ble_eq_true rfl, Nat.le_of_ble_eq_true rfl⟩) hA hD hS (fun r56 L57 f58 H locs hp59 hP hD hS => ?_)
            obtain ⟨eL60L, eL60T⟩ := hp59
            have eL60L : L57 = L := eL60L
            have eL60T : f58 = f_65 := eL60T
            rw [eL60L, eL60T] at hP hD
            refine lv_istore (lv' := [(4, .int r56), (0, .ref (ad 255)), (1, .int z1), (2, .int v14_29), (3, .int y65_l3)]) hx hb dX11_asOthers_133 hl (by decide) rfl (fun ls hl => ?_)
            refine lv_aload_n hx hb dX11_asOthers_135 rfl (lv_at hl 1 rfl) ?_
            refine lv_iload_n hx hb dX11_asOthers_136 rfl (lv_at hl 3 rfl) ?_
            refine pl_put (ty := .int) (v := .int v14_29) (fs' := [.int v0_52, .ref (ad 256), .int v2_52, .int v3_52, .int v4_52, .int v5_52, .int v6_52, .ref (ad 257), .int v8_52, .int v9_52, .ref (ad 258), .ref (ad 259), .int v12_52, .int v13_52, .int v14_29, .int v15_52, .int v16_52, .int v17_52, .int v18_52, .int v19_52, .int v20_52, .long v21_52, .long v22_52, .int v23_52, .ref (ad 260), .int v25_52, .ref (ad 261), .ref (ad 262), .ref (ad 263), .ref (ad 264), .ref (ad 265), .ref (ad 266), .ref (ad 267), .ref (ad 268), .ref (ad 269), .ref (ad 270), .int v36_52, .int v37_52, .int v38_52, .int v39_52, .int v40_52, .ref (ad 271), .ref (ad 272), .ref (ad 273), .ref (ad 274), .long v45_52, .long v46_52, .int v47_52, .int v48_52, .ref (ad 275), .int v50_52, .int v51_52, .ref (ad 276), .int v53_52, .ref (ad 277), .int v55_52]) hx hb hts (fun w h => mT (inX11 w h)) tyX11 tyX11_ok nmX11 hown hG.1 hP hD hS (hst.1 255 (by decide)) hf53 rfl 14 (by decide) (hts _ (mT wg_1350)) (fun _ h => h) rfl (by decide +kernel) (rfl) (rfl) (Nat.le_of_ble_eq_true rfl) rfl dX11_asOthers_137 (fun H locs f61 hf62 ho63 hP hD hS => ?_)
            have hfr : (∀ b, b ≠ (ad 255) → b ≠ (ad 265) → b ≠ (ad 266) → b ≠ (ad 267) → b ≠ (ad 268) → b ≠ (ad 269) → b ≠ (ad 270) → b ≠ (ad 260) → b ≠ (ad 261) → b ≠ (ad 262) → b ≠ (ad 263) → b ≠ (ad 264) → f61 b = f b) := fun b z0_ z1_ z2_ z3_ z4_ z5_ z6_ z7_ z8_ z9_ z10_ z11_ => (ho63 b z0_).trans (hfr b z0_ z1_ z2_ z3_ z4_ z5_ z6_ z7_ z8_ z9_ z10_ z11_)
            refine lv_iload_n hx hb dX11_asOthers_140 rfl (lv_at hl 2 rfl) ?_
            have hT := TI.updMG (th' := (gset (gset (gset (gset (gset th 14 zz27) 10 x31.toInt) 44 0) 18 zg65_zg) 10 (v14_29.toInt))) hT hst (k := 0) (by decide) hf62 ho63 ⟨v0_52, v2_52, v3_52, v4_52, v5_52, v6_52, v8_52, v9_52, v12_52, v13_52, v14_29, v15_52, v16_52, v17_52, v18_52, v19_52, v20_52, v21_52, v22_52, v23_52, v25_52, v36_52, v37_52, v38_52, v39_52, v40_52, v45_52, v46_52, v47_52, v48_52, v50_52, v51_52, v53_52, v55_52, rfl, hv0_52, hv2_52, hg2_52, hv3_52, hg3_52, hv4_52, hg4_52, hv5_52, hg5_52, hv6_52, hg6_52, hv8_52, hg8_52, hv9_52, hg9_52, hv12_52, hv13_52, hg13_52, hv14_29, rfl, hv15_52, hg15_52, hv17_52, hg17_52, hv20_52, hg20_52, hv23_52, hg23_52, hv25_52, hg25_52, hv36_52, hg36_52, hv47_52, hg47_52, hv48_52, hg48_52, hv53_52, hg53_52, hv55_52, hg55_52, hrel0_52⟩ (fun q hq => ((gset_ne (fun e => hq (by subst e; decide))).trans rfl))
            have hT : TI g ad (gset (gset (gset (gset th 14 zz27) 44 0) 18 zg65_zg) 10 v14_29.toInt) f61 := TI.cast hT (by funext q; by_cases hq0 : q = 10; (subst hq0; rfl); by_cases hq1 : q = 18; (subst hq1; rfl); by_cases hq2 : q = 44; (subst hq2; rfl); by_cases hq3 : q = 14; (subst hq3; rfl); simp only [gset, if_neg hq0, if_neg hq1, if_neg hq2, if_neg hq3])
            refine lv_if_ne (tgt := 148) hx hb dX11_asOthers_141 (by decide) (fun c64 => ?_) (fun c64 => ?_)
            ·
              have oc0 : (0 : Int32).toInt = 0 := by decide
              have cc65 : z1.toInt ≠ (0 : Int32).toInt := i32_ne c64
              have hb66 : In z1 1 3 := In.ne1 hb20 (⟨by decide, by decide⟩ : In 0 0 0) cc65 (by decide) (by decide)
              refine lv_iload_n hx hb dX11_asOthers_148 rfl (lv_at hl 2 rfl) ?_
              refine lv_iconst (v := 1) hx hb dX11_asOthers_149 (by decide) ?_
              refine lv_icmp_ne (tgt := 160) hx hb dX11_asOthers_150 (by decide) (fun c67 => ?_) (fun c67 => ?_)
              ·
                have oc1 : (1 : Int32).toInt = 1 := by decide
                have cc68 : z1.toInt ≠ (1 : Int32).toInt := i32_ne c67
                have hb69 : In z1 2 3 := In.ne1 hb66 (⟨by decide, by decide⟩ : In 1 1 1) cc68 (by decide) (by decide)
                refine lv_iload_n hx hb dX11_asOthers_160 rfl (lv_at hl 2 rfl) ?_
                refine lv_iconst (v := 2) hx hb dX11_asOthers_161 (by decide) ?_
                refine lv_icmp_ne (tgt := 172) hx hb dX11_asOthers_162 (by decide) (fun c70 => ?_) (fun c70 => ?_)
                ·
                  have oc2 : (2 : Int32).toInt = 2 := by decide
                  have cc71 : z1.toInt ≠ (2 : Int32).toInt := i32_ne c70
                  have hb72 : In z1 3 3 := In.ne1 hb69 (⟨by decide, by decide⟩ : In 2 2 2) cc71 (by decide) (by decide)
                  refine lv_iload hx hb dX11_asOthers_172 (lv_at hl 0 rfl) ?_
                  exact ret_i (ty := .int) hx hb hr hlocks (rfl) hP hD hS (Nat.le_of_ble_eq_true rfl) (Nat.le_of_ble_eq_true rfl) (⟨rfl, ⟨(gset (gset (gset (gset th 14 zz27) 44 0) 18 zg65_zg) 10 v14_29.toInt), ⟨(show MI (gset (gset (gset (gset th 14 zz27) 44 0) 18 zg65_zg) 10 v14_29.toInt) from ⟨m1, m2, (show th 20 = (th 12) * rnd (v14_29.toInt) by rw [hg14_29]; exact m3), m4, m5, m6, m7, m8, m9, m10⟩), (SBM.set (k := 10) (SBM.set (k := 18) (SBM.set (k := 44) (SBM.set (k := 14) (SBM.rf th) (by decide)) (by decide)) (by decide)) (by decide))⟩, hT⟩, hfr⟩) dX11_asOthers_174
                ·
                  have oc2 : (2 : Int32).toInt = 2 := by decide
                  have cc73 : z1.toInt = (2 : Int32).toInt := congrArg Int32.toInt c70
                  have hb74 : In z1 2 2 := In.eq1 hb69 (⟨by decide, by decide⟩ : In 2 2 2) cc73 (by decide) (by decide)
                  refine lv_aload_n hx hb dX11_asOthers_165 rfl (lv_at hl 1 rfl) ?_
                  refine M0e hT (fun v0_75 v2_75 v3_75 v4_75 v5_75 v6_75 v8_75 v9_75 v12_75 v13_75 v14_75 v15_75 v16_75 v17_75 v18_75 v19_75 v20_75 v21_75 v22_75 v23_75 v25_75 v36_75 v37_75 v38_75 v39_75 v40_75 v45_75 v46_75 v47_75 v48_75 v50_75 v51_75 v53_75 v55_75 hf76 hv0_75 hv2_75 hg2_75 hv3_75 hg3_75 hv4_75 hg4_75 hv5_75 hg5_75 hv6_75 hg6_75 hv8_75 hg8_75 hv9_75 hg9_75 hv12_75 hv13_75 hg13_75 hv14_75 hg14_75 hv15_75 hg15_75 hv17_75 hg17_75 hv20_75 hg20_75 hv23_75 hg23_75 hv25_75 hg25_75 hv36_75 hg36_75 hv47_75 hg47_75 hv48_75 hg48_75 hv53_75 hg53_75 hv55_75 hg55_75 hrel0_75 => ?_)
                  have hg15_75 : v15_75.toInt = th 11 := hg15_75
                  have hg17_75 : v17_75.toInt = th 12 := hg17_75
                  have hg20_75 : v20_75.toInt = zz27 := hg20_75
                  refine call_i (run_V (rm := rm_X11_holders) hx hb hml hown hts (s_X11_holders l g ad (gset (gset (gset (gset th 14 zz27) 44 0) 18 zg65_zg) 10 v14_29.toInt) _ _ _  hst hT ) cV_X11_holders wg_1912 ⟨Nat.le_of_ble_eq_true rfl, Nat.le_of_ble_eq_true rfl⟩ hG hE hA hP hD hS (hst.1 255 (by decide)) hf76 rfl rfl hl.1 (As := []) (rest := []) rfl (Nat.le_of_ble_eq_true rfl) dX11_asOthers_166 ⟨Nat.le_of_ble_eq_true rfl, Nat.le_of_ble_eq_true rfl⟩) hA hD hS (fun r77 L78 f79 H locs hp80 hP hD hS => ?_)
                  obtain ⟨eL81L, eL81T⟩ := hp80
                  have eL81L : L78 = L := eL81L
                  have eL81T : f79 = f61 := eL81T
                  rw [eL81L, eL81T] at hP hD
                  refine lv_goto (tgt := 174) hx hb dX11_asOthers_169 (by decide) ?_
                  exact ret_i (ty := .int) hx hb hr hlocks (rfl) hP hD hS (Nat.le_of_ble_eq_true rfl) (Nat.le_of_ble_eq_true rfl) (⟨rfl, ⟨(gset (gset (gset (gset th 14 zz27) 44 0) 18 zg65_zg) 10 v14_29.toInt), ⟨(show MI (gset (gset (gset (gset th 14 zz27) 44 0) 18 zg65_zg) 10 v14_29.toInt) from ⟨m1, m2, (show th 20 = (th 12) * rnd (v14_29.toInt) by rw [hg14_29]; exact m3), m4, m5, m6, m7, m8, m9, m10⟩), (SBM.set (k := 10) (SBM.set (k := 18) (SBM.set (k := 44) (SBM.set (k := 14) (SBM.rf th) (by decide)) (by decide)) (by decide)) (by decide))⟩, hT⟩, hfr⟩) dX11_asOthers_174
              ·
                have oc1 : (1 : Int32).toInt = 1 := by decide
                have cc82 : z1.toInt = (1 : Int32).toInt := congrArg Int32.toInt c67
                have hb83 : In z1 1 1 := In.eq1 hb66 (⟨by decide, by decide⟩ : In 1 1 1) cc82 (by decide) (by decide)
                refine lv_aload_n hx hb dX11_asOthers_153 rfl (lv_at hl 1 rfl) ?_
                refine M0e hT (fun v0_84 v2_84 v3_84 v4_84 v5_84 v6_84 v8_84 v9_84 v12_84 v13_84 v14_84 v15_84 v16_84 v17_84 v18_84 v19_84 v20_84 v21_84 v22_84 v23_84 v25_84 v36_84 v37_84 v38_84 v39_84 v40_84 v45_84 v46_84 v47_84 v48_84 v50_84 v51_84 v53_84 v55_84 hf85 hv0_84 hv2_84 hg2_84 hv3_84 hg3_84 hv4_84 hg4_84 hv5_84 hg5_84 hv6_84 hg6_84 hv8_84 hg8_84 hv9_84 hg9_84 hv12_84 hv13_84 hg13_84 hv14_84 hg14_84 hv15_84 hg15_84 hv17_84 hg17_84 hv20_84 hg20_84 hv23_84 hg23_84 hv25_84 hg25_84 hv36_84 hg36_84 hv47_84 hg47_84 hv48_84 hg48_84 hv53_84 hg53_84 hv55_84 hg55_84 hrel0_84 => ?_)
                have hg15_84 : v15_84.toInt = th 11 := hg15_84
                have hg17_84 : v17_84.toInt = th 12 := hg17_84
                have hg20_84 : v20_84.toInt = zz27 := hg20_84
                refine pl_get (v := .int v37_84) hx hb hts (fun w h => mT (inX11 w h)) hown hG.1 hP (hst.1 255 (by decide)) hf85 rfl 37 (by decide) (hts _ (mT wg_1373)) (fun _ h => h) rfl dX11_asOthers_154 ?_
                refine lv_goto (tgt := 174) hx hb dX11_asOthers_157 (by decide) ?_
                exact ret_i (ty := .int) hx hb hr hlocks (rfl) hP hD hS (Nat.le_of_ble_eq_true rfl) (Nat.le_of_ble_eq_true rfl) (⟨rfl, ⟨(gset (gset (gset (gset th 14 zz27) 44 0) 18 zg65_zg) 10 v14_29.toInt), ⟨(show MI (gset (gset (gset (gset th 14 zz27) 44 0) 18 zg65_zg) 10 v14_29.toInt) from ⟨m1, m2, (show th 20 = (th 12) * rnd (v14_29.toInt) by rw [hg14_29]; exact m3), m4, m5, m6, m7, m8, m9, m10⟩), (SBM.set (k := 10) (SBM.set (k := 18) (SBM.set (k := 44) (SBM.set (k := 14) (SBM.rf th) (by decide)) (by decide)) (by decide)) (by decide))⟩, hT⟩, hfr⟩) dX11_asOthers_174
            ·
              have oc0 : (0 : Int32).toInt = 0 := by decide
              have cc86 : z1.toInt = (0 : Int32).toInt := congrArg Int32.toInt c64
              have hb87 : In z1 0 0 := In.eq1 hb20 (⟨by decide, by decide⟩ : In 0 0 0) cc86 (by decide) (by decide)
              refine lv_iload_n hx hb dX11_asOthers_144 rfl (lv_at hl 4 rfl) ?_
              refine lv_goto (tgt := 174) hx hb dX11_asOthers_145 (by decide) ?_
              exact ret_i (ty := .int) hx hb hr hlocks (rfl) hP hD hS (Nat.le_of_ble_eq_true rfl) (Nat.le_of_ble_eq_true rfl) (⟨rfl, ⟨(gset (gset (gset (gset th 14 zz27) 44 0) 18 zg65_zg) 10 v14_29.toInt), ⟨(show MI (gset (gset (gset (gset th 14 zz27) 44 0) 18 zg65_zg) 10 v14_29.toInt) from ⟨m1, m2, (show th 20 = (th 12) * rnd (v14_29.toInt) by rw [hg14_29]; exact m3), m4, m5, m6, m7, m8, m9, m10⟩), (SBM.set (k := 10) (SBM.set (k := 18) (SBM.set (k := 44) (SBM.set (k := 14) (SBM.rf th) (by decide)) (by decide)) (by decide)) (by decide))⟩, hT⟩, hfr⟩) dX11_asOthers_174
          ·
            have cc88 : y65_l4.toInt < v17_52.toInt := i32_nle c54
            have hb89 : In y65_l4 0 5 := In.lt1 hy65_l4 hv17_52 cc88 (by decide) (by decide)
            have hb90 : In v17_52 1 6 := In.lt2 hy65_l4 hv17_52 cc88 (by decide) (by decide)
            refine lv_iconst (v := 0) hx hb dX11_asOthers_74 (by decide) ?_
            refine lv_istore (lv' := [(5, .int 0), (0, .ref (ad 255)), (1, .int z1), (2, .int v14_29), (3, .int y65_l3), (4, .int y65_l4)]) hx hb dX11_asOthers_75 hl (by decide) rfl (fun ls hl => ?_)
            have hJ77 : ∀ (k77 : Nat) (zg77_zg : Int) (y77_l5 : Int32) (f_77 : HP) (H : Heap) (locs : List Loc) (ls : Array Slot), (0 ≤ zg77_zg ∧ zg77_zg ≤ 3 * y65_l4.toInt + y77_l5.toInt) → In y77_l5 0 3 → va_P g.1 vwCl (va_pl L f_77) H → va_D A (va_pl L f_77) → va_S A s.heap H locs → TI g ad (gset (gset (gset (gset th 14 zz27) 10 x31.toInt) 44 0) 18 zg77_zg) f_77 → (∀ b, b ≠ (ad 255) → b ≠ (ad 265) → b ≠ (ad 266) → b ≠ (ad 267) → b ≠ (ad 268) → b ≠ (ad 269) → b ≠ (ad 270) → b ≠ (ad 260) → b ≠ (ad 261) → b ≠ (ad 262) → b ≠ (ad 263) → b ≠ (ad 264) → f_77 b = f b) → lv_has ls 6 [(0, .ref (ad 255)), (1, .int z1), (2, .int v14_29), (3, .int y65_l3), (4, .int y65_l4), (5, .int y77_l5)] → 3 - y77_l5.toInt < ((k77 : Nat) : Int) → W p l e rm_X11_asOthers s m [.ref (ad 255), .int z1].toArray below meth c H locs 0 0 (MQ below (va_Qi (po_X11_asOthers g ad th L f z1) (PstB g A) A) [.ref (ad 255), .int z1].toArray s rm_X11_asOthers.cells rm_X11_asOthers.slots A) (F0 m 77 ls []) := by
              intro k77
              induction k77 with
              | zero =>
                intro zg77_zg y77_l5 f_77 H locs ls hzg77 hy77_l5 hP hD hS hT hfr hl hmz77
                exact ms0 hy77_l5 hmz77
              | succ k77 ih77 =>
                intro zg77_zg y77_l5 f_77 H locs ls hzg77 hy77_l5 hP hD hS hT hfr hl hmz77
                refine lv_iload hx hb dX11_asOthers_77 (lv_at hl 5 rfl) ?_
                refine lv_aload_n hx hb dX11_asOthers_79 rfl (lv_at hl 0 rfl) ?_
                refine M0e hT (fun v0_91 v2_91 v3_91 v4_91 v5_91 v6_91 v8_91 v9_91 v12_91 v13_91 v14_91 v15_91 v16_91 v17_91 v18_91 v19_91 v20_91 v21_91 v22_91 v23_91 v25_91 v36_91 v37_91 v38_91 v39_91 v40_91 v45_91 v46_91 v47_91 v48_91 v50_91 v51_91 v53_91 v55_91 hf92 hv0_91 hv2_91 hg2_91 hv3_91 hg3_91 hv4_91 hg4_91 hv5_91 hg5_91 hv6_91 hg6_91 hv8_91 hg8_91 hv9_91 hg9_91 hv12_91 hv13_91 hg13_91 hv14_91 hg14_91 hv15_91 hg15_91 hv17_91 hg17_91 hv20_91 hg20_91 hv23_91 hg23_91 hv25_91 hg25_91 hv36_91 hg36_91 hv47_91 hg47_91 hv48_91 hg48_91 hv53_91 hg53_91 hv55_91 hg55_91 hrel0_91 => ?_)
                have hg15_91 : v15_91.toInt = th 11 := hg15_91
                have hg17_91 : v17_91.toInt = th 12 := hg17_91
                have hg20_91 : v20_91.toInt = zz27 := hg20_91
                refine call_i (run_V (rm := rm_X11_each) hx hb hml hown hts (s_X11_each l g ad (gset (gset (gset (gset th 14 zz27) 10 x31.toInt) 44 0) 18 zg77_zg) _ _ _  hst hT ) cV_X11_each wg_1636 ⟨Nat.le_of_ble_eq_true rfl, Nat.le_of_ble_eq_true rfl⟩ hG hE hA hP hD hS (hst.1 255 (by decide)) hf92 rfl rfl hl.1 (As := []) (rest := [.int y77_l5]) rfl (Nat.le_of_ble_eq_true rfl) dX11_asOthers_80 ⟨Nat.le_of_ble_eq_true rfl, Nat.le_of_ble_eq_true rfl⟩) hA hD hS (fun r93 L94 f95 H locs hp96 hP hD hS => ?_)
                obtain ⟨eL97L, eL97T, eL97R, eL97X0⟩ := hp96
                have eL97L : L94 = L := eL97L
                have eL97T : f95 = f_77 := eL97T
                rw [eL97L, eL97T] at hP hD
                have eL97R : In r93 2 3 := eL97R
                have hrn98 : r93.toInt = rnd (x31.toInt) := eL97X0
                refine lv_icmp_ge (tgt := 96) hx hb dX11_asOthers_83 (by decide) (fun c99 => ?_) (fun c99 => ?_)
                ·
                  have cc100 : r93.toInt ≤ y77_l5.toInt := i32_le.mp c99
                  have hb101 : In y77_l5 2 3 := In.ge1 hy77_l5 eL97R cc100 (by decide) (by decide)
                  refine lv_aload_n hx hb dX11_asOthers_96 rfl (lv_at hl 0 rfl) ?_
                  refine call_i (run_V (rm := rm_X11_areAgreed) hx hb hml hown hts (s_X11_areAgreed l g ad (gset (gset (gset (gset th 14 zz27) 10 x31.toInt) 44 0) 18 zg77_zg) _ _ _  hst hT (show 3 ≤ th 11 by omega)) cV_X11_areAgreed wg_1846 ⟨Nat.le_of_ble_eq_true rfl, Nat.le_of_ble_eq_true rfl⟩ hG hE hA hP hD hS (hst.1 255 (by decide)) hf92 rfl rfl hl.1 (As := []) (rest := []) rfl (Nat.le_of_ble_eq_true rfl) dX11_asOthers_97 ⟨Nat.le_of_ble_eq_true rfl, Nat.le_of_ble_eq_true rfl⟩) hA hD hS (fun r102 L103 f104 H locs hp105 hP hD hS => ?_)
                  obtain ⟨eL106L, eL106T, eL106R⟩ := hp105
                  have eL106L : L103 = L := eL106L
                  have eL106T : f104 = f_77 := eL106T
                  rw [eL106L, eL106T] at hP hD
                  have eL106R : In r102 0 1 := eL106R
                  have hJ118 : ∀ (y118_s0 : Int32) (H : Heap) (locs : List Loc) (ls : Array Slot), In y118_s0 (-1) 5 → va_P g.1 vwCl (va_pl L f_77) H → va_D A (va_pl L f_77) → va_S A s.heap H locs → lv_has ls 6 [(0, .ref (ad 255)), (1, .int z1), (2, .int v14_29), (3, .int y65_l3), (4, .int y65_l4), (5, .int y77_l5)] → W p l e rm_X11_asOthers s m [.ref (ad 255), .int z1].toArray below meth c H locs 0 0 (MQ below (va_Qi (po_X11_asOthers g ad th L f z1) (PstB g A) A) [.ref (ad 255), .int z1].toArray s rm_X11_asOthers.cells rm_X11_asOthers.slots A) (F0 m 118 ls [.int y118_s0]) := by
                    intro y118_s0 H locs ls hy118_s0 hP hD hS hl
                    refine lv_istore_n (lv' := [(3, .int y118_s0), (0, .ref (ad 255)), (1, .int z1), (2, .int v14_29), (4, .int y65_l4), (5, .int y77_l5)]) hx hb dX11_asOthers_118 rfl hl (by decide) rfl (fun ls hl => ?_)
                    obtain ⟨x107, ex107⟩ : ∃ y : Int32, y = y65_l4 + 1 := ⟨_, rfl⟩
                    have hb108 : In x107 1 6 := ex107 ▸ In.add hb89 (⟨by decide, by decide⟩ : In 1 1 1) (by decide) (by decide) (by decide) (by decide)
                    have et109 : x107.toInt = y65_l4.toInt + 1 := In.adde ex107 hb89 (k := 1) (by decide) (by decide) (by decide)
                    refine lv_iinc (v := x107) (lv' := [(4, .int x107), (3, .int y118_s0), (0, .ref (ad 255)), (1, .int z1), (2, .int v14_29), (5, .int y77_l5)]) hx hb dX11_asOthers_119 hl (k := 4) rfl (by rw [ex107]; rfl) (by decide) rfl (fun ls hl => ?_)
                    refine lv_goto (tgt := 65) hx hb dX11_asOthers_122 (by decide) ?_
                    exact ih65 zg77_zg y118_s0 x107 _ _ _ _ (show (0 ≤ zg77_zg ∧ zg77_zg ≤ 3 * x107.toInt) from (by have ob10 : (0 : Int) ≤ x31.toInt ∧ x31.toInt ≤ 1 := (b0_10 hT :); have ob11 : (0 : Int) ≤ (th 11) ∧ (th 11) ≤ 9 := (b0_11 hT :); have ob12 : (0 : Int) ≤ (th 12) ∧ (th 12) ≤ 6 := (b0_12 hT :); have ob14 : (0 : Int) ≤ zz27 ∧ zz27 ≤ 511 := (b0_14 hT :); have ob15 : (0 : Int) ≤ (th 15) ∧ (th 15) ≤ 1 := (b0_15 hT :); have ob16 : (0 : Int) ≤ (th 16) ∧ (th 16) ≤ 20 := (b0_16 hT :); have ob17 : (0 : Int) ≤ (th 17) ∧ (th 17) ≤ 1 := (b0_17 hT :); have ob18 : (0 : Int) ≤ zg77_zg ∧ zg77_zg ≤ 18 := (b0_18 hT :); have ob38 : (0 : Int) ≤ (th 38) ∧ (th 38) ≤ 400 := (b0_38 hT :); have ob39 : (0 : Int) ≤ (th 39) ∧ (th 39) ≤ 200 := (b0_39 hT :); have ob44 : (0 : Int) ≤ (0 : Int) ∧ (0 : Int) ≤ 30 := (b0_44 hT :); have orn := rnd_b x31.toInt; obtain ⟨o0a, o0b⟩ := (hb108 : In _ _ _); obtain ⟨o1a, o1b⟩ := (hb20 : In _ _ _); obtain ⟨o2a, o2b⟩ := (hv14_29 : In _ _ _); obtain ⟨o3a, o3b⟩ := (hb101 : In _ _ _); obtain ⟨o4a, o4b⟩ := (hy118_s0 : In _ _ _); obtain ⟨o5a, o5b⟩ := (hv14_91 : In _ _ _); obtain ⟨o6a, o6b⟩ := (hv15_91 : In _ _ _); obtain ⟨o7a, o7b⟩ := (hv17_91 : In _ _ _); obtain ⟨o8a, o8b⟩ := (hv20_91 : In _ _ _); obtain ⟨o9a, o9b⟩ := (hv23_91 : In _ _ _); obtain ⟨o10a, o10b⟩ := (hv25_91 : In _ _ _); obtain ⟨o11a, o11b⟩ := (hv36_91 : In _ _ _); obtain ⟨o12a, o12b⟩ := (hv47_91 : In _ _ _); obtain ⟨o13a, o13b⟩ := (hv48_91 : In _ _ _); obtain ⟨o14a, o14b⟩ := (hv53_91 : In _ _ _); obtain ⟨o15a, o15b⟩ := (hv55_91 : In _ _ _); obtain ⟨o16a, o16b⟩ := (hb89 : In _ _ _); obtain ⟨o17a, o17b⟩ := (eL97R : In _ _ _); obtain ⟨o18a, o18b⟩ := (hb90 : In _ _ _); omega)) hy118_s0 (In.mono hb108 (by decide) (by decide)) hP hD hS (TI.cast hT (by funext q; by_cases hq0 : q = 18; (subst hq0; rfl); by_cases hq1 : q = 44; (subst hq1; rfl); by_cases hq2 : q = 10; (subst hq2; rfl); by_cases hq3 : q = 14; (subst hq3; rfl); simp only [gset, if_neg hq0, if_neg hq1, if_neg hq2, if_neg hq3])) hfr (lv_sub hl [2, 3, 4, 1, 0] rfl) (msu et109 (by decide) hmz65)
                  refine lv_if_ne (tgt := 107) hx hb dX11_asOthers_100 (by decide) (fun c110 => ?_) (fun c110 => ?_)
                  ·
                    have oc0 : (0 : Int32).toInt = 0 := by decide
                    have cc111 : r102.toInt ≠ (0 : Int32).toInt := i32_ne c110
                    have hb112 : In r102 1 1 := In.ne1 eL106R (⟨by decide, by decide⟩ : In 0 0 0) cc111 (by decide) (by decide)
                    refine lv_iload_n hx hb dX11_asOthers_107 rfl (lv_at hl 3 rfl) ?_
                    refine lv_iconst (v := (-1)) hx hb dX11_asOthers_108 (by decide) ?_
                    refine lv_icmp_ne (tgt := 117) hx hb dX11_asOthers_109 (by decide) (fun c113 => ?_) (fun c113 => ?_)
                    ·
                      have ocm1 : ((-1) : Int32).toInt = (-1) := by decide
                      have cc114 : y65_l3.toInt ≠ ((-1) : Int32).toInt := i32_ne c113
                      have hb115 : In y65_l3 0 5 := In.ne1 hy65_l3 (⟨by decide, by decide⟩ : In (-1) (-1) (-1)) cc114 (by decide) (by decide)
                      refine lv_iload_n hx hb dX11_asOthers_117 rfl (lv_at hl 3 rfl) ?_
                      exact hJ118 y65_l3 _ _ _ (In.mono hb115 (by decide) (by decide)) hP hD hS (lv_sub hl [0, 1, 2, 3, 4, 5] rfl)
                    ·
                      have ocm1 : ((-1) : Int32).toInt = (-1) := by decide
                      have cc116 : y65_l3.toInt = ((-1) : Int32).toInt := congrArg Int32.toInt c113
                      have hb117 : In y65_l3 (-1) (-1) := In.eq1 hy65_l3 (⟨by decide, by decide⟩ : In (-1) (-1) (-1)) cc116 (by decide) (by decide)
                      refine lv_iload hx hb dX11_asOthers_112 (lv_at hl 4 rfl) ?_
                      refine lv_goto (tgt := 118) hx hb dX11_asOthers_114 (by decide) ?_
                      exact hJ118 y65_l4 _ _ _ (In.mono hb89 (by decide) (by decide)) hP hD hS (lv_sub hl [0, 1, 2, 3, 4, 5] rfl)
                  ·
                    have oc0 : (0 : Int32).toInt = 0 := by decide
                    have cc118 : r102.toInt = (0 : Int32).toInt := congrArg Int32.toInt c110
                    have hb119 : In r102 0 0 := In.eq1 eL106R (⟨by decide, by decide⟩ : In 0 0 0) cc118 (by decide) (by decide)
                    refine lv_iconst (v := (-1)) hx hb dX11_asOthers_103 (by decide) ?_
                    refine lv_goto (tgt := 118) hx hb dX11_asOthers_104 (by decide) ?_
                    exact hJ118 (-1) _ _ _ (⟨by decide, by decide⟩ : In (-1) (-1) 5) hP hD hS (lv_sub hl [0, 1, 2, 3, 4, 5] rfl)
                ·
                  have cc120 : y77_l5.toInt < r93.toInt := i32_nle c99
                  have hb121 : In y77_l5 0 2 := In.lt1 hy77_l5 eL97R cc120 (by decide) (by decide)
                  refine lv_aload_n hx hb dX11_asOthers_86 rfl (lv_at hl 0 rfl) ?_
                  refine call_v (run_V (rm := rm_X11_rounds) hx hb hml hown hts (s_X11_rounds l g ad (gset (gset (gset (gset th 14 zz27) 10 x31.toInt) 44 0) 18 zg77_zg) _ _ _  hst hT (show 3 ≤ th 11 by omega) (show zg77_zg ≤ 17 from (by have ob10 : (0 : Int) ≤ x31.toInt ∧ x31.toInt ≤ 1 := (b0_10 hT :); have ob11 : (0 : Int) ≤ (th 11) ∧ (th 11) ≤ 9 := (b0_11 hT :); have ob12 : (0 : Int) ≤ (th 12) ∧ (th 12) ≤ 6 := (b0_12 hT :); have ob14 : (0 : Int) ≤ zz27 ∧ zz27 ≤ 511 := (b0_14 hT :); have ob15 : (0 : Int) ≤ (th 15) ∧ (th 15) ≤ 1 := (b0_15 hT :); have ob16 : (0 : Int) ≤ (th 16) ∧ (th 16) ≤ 20 := (b0_16 hT :); have ob17 : (0 : Int) ≤ (th 17) ∧ (th 17) ≤ 1 := (b0_17 hT :); have ob18 : (0 : Int) ≤ zg77_zg ∧ zg77_zg ≤ 18 := (b0_18 hT :); have ob38 : (0 : Int) ≤ (th 38) ∧ (th 38) ≤ 400 := (b0_38 hT :); have ob39 : (0 : Int) ≤ (th 39) ∧ (th 39) ≤ 200 := (b0_39 hT :); have ob44 : (0 : Int) ≤ (0 : Int) ∧ (0 : Int) ≤ 30 := (b0_44 hT :); have orn := rnd_b x31.toInt; obtain ⟨o0a, o0b⟩ := (hv14_91 : In _ _ _); obtain ⟨o1a, o1b⟩ := (hv15_91 : In _ _ _); obtain ⟨o2a, o2b⟩ := (hv17_91 : In _ _ _); obtain ⟨o3a, o3b⟩ := (hv20_91 : In _ _ _); obtain ⟨o4a, o4b⟩ := (hv23_91 : In _ _ _); obtain ⟨o5a, o5b⟩ := (hv25_91 : In _ _ _); obtain ⟨o6a, o6b⟩ := (hv36_91 : In _ _ _); obtain ⟨o7a, o7b⟩ := (hv47_91 : In _ _ _); obtain ⟨o8a, o8b⟩ := (hv48_91 : In _ _ _); obtain ⟨o9a, o9b⟩ := (hv53_91 : In _ _ _); obtain ⟨o10a, o10b⟩ := (hv55_91 : In _ _ _); omega))) cV_X11_rounds wg_1652 ⟨Nat.le_of_ble_eq_true rfl, Nat.le_of_ble_eq_true rfl⟩ hG hE hA hP hD hS (hst.1 255 (by decide)) hf92 rfl rfl hl.1 (As := []) (rest := []) rfl (Nat.le_of_ble_eq_true rfl) dX11_asOthers_87 ⟨Nat.le_of_ble_eq_true rfl, Nat.le_of_ble_eq_true rfl⟩) hA hD hS (fun L123 f124 H locs hp125 hP hD hS => ?_)
                  obtain ⟨eL126L, eL126T, eL126F⟩ := hp125
                  have eL126L : L123 = L := eL126L
                  rw [eL126L] at hP hD
                  obtain ⟨zz127, hzz127, eL126T⟩ := eL126T
                  have hzz127 : zz127 = zg77_zg + 1 := hzz127
                  have hT : TI g ad (gset (gset (gset (gset (gset th 14 zz27) 10 x31.toInt) 44 0) 18 zg77_zg) 18 zz127) f124 := eL126T
                  have hT : TI g ad (gset (gset (gset (gset th 14 zz27) 10 x31.toInt) 44 0) 18 zz127) f124 := TI.cast hT (by funext q; by_cases hq0 : q = 18; (subst hq0; rfl); by_cases hq1 : q = 44; (subst hq1; rfl); by_cases hq2 : q = 10; (subst hq2; rfl); by_cases hq3 : q = 14; (subst hq3; rfl); simp only [gset, if_neg hq0, if_neg hq1, if_neg hq2, if_neg hq3])
                  have eL126F : ∀ b, b ≠ (ad 255) → b ≠ (ad 265) → b ≠ (ad 266) → b ≠ (ad 267) → b ≠ (ad 268) → b ≠ (ad 269) → b ≠ (ad 270) → b ≠ (ad 261) → b ≠ (ad 262) → b ≠ (ad 263) → b ≠ (ad 264) → f124 b = f_77 b := eL126F
                  have hfr : (∀ b, b ≠ (ad 255) → b ≠ (ad 265) → b ≠ (ad 266) → b ≠ (ad 267) → b ≠ (ad 268) → b ≠ (ad 269) → b ≠ (ad 270) → b ≠ (ad 260) → b ≠ (ad 261) → b ≠ (ad 262) → b ≠ (ad 263) → b ≠ (ad 264) → f124 b = f b) := fun b z0_ z1_ z2_ z3_ z4_ z5_ z6_ z7_ z8_ z9_ z10_ z11_ => (eL126F b z0_ z1_ z2_ z3_ z4_ z5_ z6_ z8_ z9_ z10_ z11_).trans (hfr b z0_ z1_ z2_ z3_ z4_ z5_ z6_ z7_ z8_ z9_ z10_ z11_)
                  obtain ⟨x128, ex128⟩ : ∃ y : Int32, y = y77_l5 + 1 := ⟨_, rfl⟩
                  have hb129 : In x128 1 3 := ex128 ▸ In.add hb121 (⟨by decide, by decide⟩ : In 1 1 1) (by decide) (by decide) (by decide) (by decide)
                  have et130 : x128.toInt = y77_l5.toInt + 1 := In.adde ex128 hb121 (k := 1) (by decide) (by decide) (by decide)
                  refine lv_iinc (v := x128) (lv' := [(5, .int x128), (0, .ref (ad 255)), (1, .int z1), (2, .int v14_29), (3, .int y65_l3), (4, .int y65_l4)]) hx hb dX11_asOthers_90 hl (k := 5) rfl (by rw [ex128]; rfl) (by decide) rfl (fun ls hl => ?_)
                  refine lv_goto (tgt := 77) hx hb dX11_asOthers_93 (by decide) ?_
                  exact ih77 zz127 x128 _ _ _ _ (show (0 ≤ zz127 ∧ zz127 ≤ 3 * y65_l4.toInt + x128.toInt) from (by have ob10 : (0 : Int) ≤ x31.toInt ∧ x31.toInt ≤ 1 := (b0_10 hT :); have ob11 : (0 : Int) ≤ (th 11) ∧ (th 11) ≤ 9 := (b0_11 hT :); have ob12 : (0 : Int) ≤ (th 12) ∧ (th 12) ≤ 6 := (b0_12 hT :); have ob14 : (0 : Int) ≤ zz27 ∧ zz27 ≤ 511 := (b0_14 hT :); have ob15 : (0 : Int) ≤ (th 15) ∧ (th 15) ≤ 1 := (b0_15 hT :); have ob16 : (0 : Int) ≤ (th 16) ∧ (th 16) ≤ 20 := (b0_16 hT :); have ob17 : (0 : Int) ≤ (th 17) ∧ (th 17) ≤ 1 := (b0_17 hT :); have ob18 : (0 : Int) ≤ zz127 ∧ zz127 ≤ 18 := (b0_18 hT :); have ob38 : (0 : Int) ≤ (th 38) ∧ (th 38) ≤ 400 := (b0_38 hT :); have ob39 : (0 : Int) ≤ (th 39) ∧ (th 39) ≤ 200 := (b0_39 hT :); have ob44 : (0 : Int) ≤ (0 : Int) ∧ (0 : Int) ≤ 30 := (b0_44 hT :); have orn := rnd_b x31.toInt; obtain ⟨o0a, o0b⟩ := (hb89 : In _ _ _); obtain ⟨o1a, o1b⟩ := (hb129 : In _ _ _); obtain ⟨o2a, o2b⟩ := (hb20 : In _ _ _); obtain ⟨o3a, o3b⟩ := (hv14_29 : In _ _ _); obtain ⟨o4a, o4b⟩ := (hy65_l3 : In _ _ _); obtain ⟨o5a, o5b⟩ := (hb90 : In _ _ _); obtain ⟨o6a, o6b⟩ := (hb121 : In _ _ _); obtain ⟨o7a, o7b⟩ := (eL97R : In _ _ _); omega)) (In.mono hb129 (by decide) (by decide)) hP hD hS (TI.cast hT (by funext q; by_cases hq0 : q = 18; (subst hq0; rfl); by_cases hq1 : q = 44; (subst hq1; rfl); by_cases hq2 : q = 10; (subst hq2; rfl); by_cases hq3 : q = 14; (subst hq3; rfl); simp only [gset, if_neg hq0, if_neg hq1, if_neg hq2, if_neg hq3])) hfr (lv_sub hl [1, 2, 3, 4, 5, 0] rfl) (msu et130 (by decide) hmz77)
            exact hJ77 ((3 - (0 : Int32).toInt).toNat + 1) zg65_zg 0 _ _ _ _ (show (0 ≤ zg65_zg ∧ zg65_zg ≤ 3 * y65_l4.toInt + (0 : Int32).toInt) from (by have ob10 : (0 : Int) ≤ x31.toInt ∧ x31.toInt ≤ 1 := (b0_10 hT :); have ob11 : (0 : Int) ≤ (th 11) ∧ (th 11) ≤ 9 := (b0_11 hT :); have ob12 : (0 : Int) ≤ (th 12) ∧ (th 12) ≤ 6 := (b0_12 hT :); have ob14 : (0 : Int) ≤ zz27 ∧ zz27 ≤ 511 := (b0_14 hT :); have ob15 : (0 : Int) ≤ (th 15) ∧ (th 15) ≤ 1 := (b0_15 hT :); have ob16 : (0 : Int) ≤ (th 16) ∧ (th 16) ≤ 20 := (b0_16 hT :); have ob17 : (0 : Int) ≤ (th 17) ∧ (th 17) ≤ 1 := (b0_17 hT :); have ob18 : (0 : Int) ≤ zg65_zg ∧ zg65_zg ≤ 18 := (b0_18 hT :); have ob38 : (0 : Int) ≤ (th 38) ∧ (th 38) ≤ 400 := (b0_38 hT :); have ob39 : (0 : Int) ≤ (th 39) ∧ (th 39) ≤ 200 := (b0_39 hT :); have ob44 : (0 : Int) ≤ (0 : Int) ∧ (0 : Int) ≤ 30 := (b0_44 hT :); have orn := rnd_b x31.toInt; have oc0 : (0 : Int32).toInt = 0 := (by decide); obtain ⟨o0a, o0b⟩ := (hb89 : In _ _ _); obtain ⟨o1a, o1b⟩ := (hb20 : In _ _ _); obtain ⟨o2a, o2b⟩ := (hv14_29 : In _ _ _); obtain ⟨o3a, o3b⟩ := (hy65_l3 : In _ _ _); obtain ⟨o4a, o4b⟩ := (hv14_52 : In _ _ _); obtain ⟨o5a, o5b⟩ := (hv15_52 : In _ _ _); obtain ⟨o6a, o6b⟩ := (hb90 : In _ _ _); obtain ⟨o7a, o7b⟩ := (hv20_52 : In _ _ _); obtain ⟨o8a, o8b⟩ := (hv23_52 : In _ _ _); obtain ⟨o9a, o9b⟩ := (hv25_52 : In _ _ _); obtain ⟨o10a, o10b⟩ := (hv36_52 : In _ _ _); obtain ⟨o11a, o11b⟩ := (hv47_52 : In _ _ _); obtain ⟨o12a, o12b⟩ := (hv48_52 : In _ _ _); obtain ⟨o13a, o13b⟩ := (hv53_52 : In _ _ _); obtain ⟨o14a, o14b⟩ := (hv55_52 : In _ _ _); omega)) (⟨by decide, by decide⟩ : In 0 0 3) hP hD hS (TI.cast hT (by funext q; by_cases hq0 : q = 18; (subst hq0; rfl); by_cases hq1 : q = 44; (subst hq1; rfl); by_cases hq2 : q = 10; (subst hq2; rfl); by_cases hq3 : q = 14; (subst hq3; rfl); simp only [gset, if_neg hq0, if_neg hq1, if_neg hq2, if_neg hq3])) hfr (lv_sub hl [1, 2, 3, 4, 5, 0] rfl) (msI _)
      exact hJ65 ((6 - (0 : Int32).toInt).toNat + 1) (0 : Int) (-1) 0 _ _ _ _ (show (0 ≤ (0 : Int) ∧ (0 : Int) ≤ 3 * (0 : Int32).toInt) from (by have ob10 : (0 : Int) ≤ x31.toInt ∧ x31.toInt ≤ 1 := (b0_10 hT :); have ob11 : (0 : Int) ≤ (th 11) ∧ (th 11) ≤ 9 := (b0_11 hT :); have ob12 : (0 : Int) ≤ (th 12) ∧ (th 12) ≤ 6 := (b0_12 hT :); have ob14 : (0 : Int) ≤ zz27 ∧ zz27 ≤ 511 := (b0_14 hT :); have ob15 : (0 : Int) ≤ (th 15) ∧ (th 15) ≤ 1 := (b0_15 hT :); have ob16 : (0 : Int) ≤ (th 16) ∧ (th 16) ≤ 20 := (b0_16 hT :); have ob17 : (0 : Int) ≤ (th 17) ∧ (th 17) ≤ 1 := (b0_17 hT :); have ob18 : (0 : Int) ≤ (0 : Int) ∧ (0 : Int) ≤ 18 := (b0_18 hT :); have ob38 : (0 : Int) ≤ (th 38) ∧ (th 38) ≤ 400 := (b0_38 hT :); have ob39 : (0 : Int) ≤ (th 39) ∧ (th 39) ≤ 200 := (b0_39 hT :); have ob44 : (0 : Int) ≤ (0 : Int) ∧ (0 : Int) ≤ 30 := (b0_44 hT :); have orn := rnd_b x31.toInt; have oc0 : (0 : Int32).toInt = 0 := (by decide); obtain ⟨o0a, o0b⟩ := (hb20 : In _ _ _); obtain ⟨o1a, o1b⟩ := (hv14_29 : In _ _ _); omega)) (⟨by decide, by decide⟩ : In (-1) (-1) 5) (⟨by decide, by decide⟩ : In 0 0 6) hP hD hS (TI.cast hT (by funext q; by_cases hq0 : q = 18; (subst hq0; rfl); by_cases hq1 : q = 44; (subst hq1; rfl); by_cases hq2 : q = 10; (subst hq2; rfl); by_cases hq3 : q = 14; (subst hq3; rfl); simp only [gset, if_neg hq0, if_neg hq1, if_neg hq2, if_neg hq3])) hfr (lv_sub hl [3, 4, 2, 1, 0] rfl) (msI _)
    ·
      have oc0 : (0 : Int32).toInt = 0 := by decide
      have cc131 : r11.toInt = (0 : Int32).toInt := congrArg Int32.toInt c17
      have hb132 : In r11 0 0 := In.eq1 eL15R (⟨by decide, by decide⟩ : In 0 0 0) cc131 (by decide) (by decide)
      exact hJ24 _ _ _ hP hD hS (lv_sub hl [0, 1] rfl)

abbrev rm_X11_byChance : Room := { frames := 6, cells := 0, slots := 0, locals := 148 }
abbrev po_X11_byChance (g : GG) (ad : Nat → Nat) (th : Nat → Int) (L : List Nat) (f : HP) (z1 : Int32) (z2 : Int64) (z3 : Int32) : Int32 → (List Nat × HP) → Prop := fun r u => u.1 = L ∧ (∃ th' : Nat → Int, (MI th' ∧ SBM th th') ∧ TI g ad th' u.2) ∧ (∀ b, b ≠ (ad 255) → b ≠ (ad 265) → b ≠ (ad 266) → b ≠ (ad 267) → b ≠ (ad 268) → b ≠ (ad 269) → b ≠ (ad 270) → b ≠ (ad 260) → b ≠ (ad 261) → b ≠ (ad 262) → b ≠ (ad 263) → b ≠ (ad 264) → u.2 b = f b)
set_option maxHeartbeats 4000000 in
set_option maxRecDepth 100000 in
theorem s_X11_byChance (l : Launch) (g : GG) (ad : Nat → Nat) (th : Nat → Int) (L : List Nat) (f : HP) (sz : Nat) (z1 : Int32) (z2 : Int64) (z3 : Int32) (hst : ST ad L) (hT : TI g ad th f) (hM : MI th) : MtI l g yX11_byChance cX11_byChance 14 (some .int) rm_X11_byChance [.ref (ad 255), .int z1, .long z2, .int z3] L f sz (po_X11_byChance g ad th L f z1 z2 z3) := by
  refine MtI.of (by decide +kernel) (Nat.le_of_ble_eq_true rfl) ?_
  intro p e s m below meth c A hEn hP hD hS ls hl
  obtain ⟨hx, hb, hr, hml, hown, hlocks, hts, hG, hA, hE, hnm⟩ := hEn
  have hown : s.vm.findClass "RulerWordModel" = some m.cls := hown
  have hl : lv_has ls 14 [(0, .ref (ad 255)), (1, .int z1), (2, .long z2), (4, .int z3)] := hl
  have hfr : (∀ b, b ≠ (ad 255) → b ≠ (ad 265) → b ≠ (ad 266) → b ≠ (ad 267) → b ≠ (ad 268) → b ≠ (ad 269) → b ≠ (ad 270) → b ≠ (ad 260) → b ≠ (ad 261) → b ≠ (ad 262) → b ≠ (ad 263) → b ≠ (ad 264) → f b = f b) := fun b z0_ z1_ z2_ z3_ z4_ z5_ z6_ z7_ z8_ z9_ z10_ z11_ => rfl
  have hM0 := hM
  obtain ⟨m1, m2, m3, m4, m5, m6, m7, m8, m9, m10⟩ := hM0
  have m20 := mi20 m2 m3
  refine lv_aload_n hx hb dX11_byChance_0 rfl (lv_at hl 0 rfl) ?_
  refine lv_iconst (v := 0) hx hb dX11_byChance_1 (by decide) ?_
  refine M0e hT (fun v0_1 v2_1 v3_1 v4_1 v5_1 v6_1 v8_1 v9_1 v12_1 v13_1 v14_1 v15_1 v16_1 v17_1 v18_1 v19_1 v20_1 v21_1 v22_1 v23_1 v25_1 v36_1 v37_1 v38_1 v39_1 v40_1 v45_1 v46_1 v47_1 v48_1 v50_1 v51_1 v53_1 v55_1 hf2 hv0_1 hv2_1 hg2_1 hv3_1 hg3_1 hv4_1 hg4_1 hv5_1 hg5_1 hv6_1 hg6_1 hv8_1 hg8_1 hv9_1 hg9_1 hv12_1 hv13_1 hg13_1 hv14_1 hg14_1 hv15_1 hg15_1 hv17_1 hg17_1 hv20_1 hg20_1 hv23_1 hg23_1 hv25_1 hg25_1 hv36_1 hg36_1 hv47_1 hg47_1 hv48_1 hg48_1 hv53_1 hg53_1 hv55_1 hg55_1 hrel0_1 => ?_)
  have hg15_1 : v15_1.toInt = th 11 := hg15_1
  have hg17_1 : v17_1.toInt = th 12 := hg17_1
  have hg20_1 : v20_1.toInt = th 14 := hg20_1
  refine pl_put (ty := .int) (v := .int 0) (fs' := [.int 0, .ref (ad 256), .int v2_1, .int v3_1, .int v4_1, .int v5_1, .int v6_1, .ref (ad 257), .int v8_1, .int v9_1, .ref (ad 258), .ref (ad 259), .int v12_1, .int v13_1, .int v14_1, .int v15_1, .int v16_1, .int v17_1, .int v18_1, .int v19_1, .int v20_1, .long v21_1, .long v22_1, .int v23_1, .ref (ad 260), .int v25_1, .ref (ad 261), .ref (ad 262), .ref (ad 263), .ref (ad 264), .ref (ad 265), .ref (ad 266), .ref (ad 267), .ref (ad 268), .ref (ad 269), .ref (ad 270), .int v36_1, .int v37_1, .int v38_1, .int v39_1, .int v40_1, .ref (ad 271), .ref (ad 272), .ref (ad 273), .ref (ad 274), .long v45_1, .long v46_1, .int v47_1, .int v48_1, .ref (ad 275), .int v50_1, .int v51_1, .ref (ad 276), .int v53_1, .ref (ad 277), .int v55_1]) hx hb hts (fun w h => mT (inX11 w h)) tyX11 tyX11_ok nmX11 hown hG.1 hP hD hS (hst.1 255 (by decide)) hf2 rfl 0 (by decide) (hts _ (mT wg_1336)) (fun _ h => h) rfl (by decide +kernel) (rfl) (rfl) (Nat.le_of_ble_eq_true rfl) rfl dX11_byChance_2 (fun H locs f3 hf4 ho5 hP hD hS => ?_)
  have hfr : (∀ b, b ≠ (ad 255) → b ≠ (ad 265) → b ≠ (ad 266) → b ≠ (ad 267) → b ≠ (ad 268) → b ≠ (ad 269) → b ≠ (ad 270) → b ≠ (ad 260) → b ≠ (ad 261) → b ≠ (ad 262) → b ≠ (ad 263) → b ≠ (ad 264) → f3 b = f b) := fun b z0_ z1_ z2_ z3_ z4_ z5_ z6_ z7_ z8_ z9_ z10_ z11_ => (ho5 b z0_).trans (hfr b z0_ z1_ z2_ z3_ z4_ z5_ z6_ z7_ z8_ z9_ z10_ z11_)
  refine lv_aload_n hx hb dX11_byChance_5 rfl (lv_at hl 0 rfl) ?_
  refine pl_get (v := .int v23_1) hx hb hts (fun w h => mT (inX11 w h)) hown hG.1 hP (hst.1 255 (by decide)) hf4 rfl 23 (by decide) (hts _ (mT wg_1359)) (fun _ h => h) rfl dX11_byChance_6 ?_
  have hg23_1 : v23_1.toInt = th 15 := hg23_1
  have hT := TI.updM hT hst (k := 0) (by decide) hf4 ho5 ⟨0, v2_1, v3_1, v4_1, v5_1, v6_1, v8_1, v9_1, v12_1, v13_1, v14_1, v15_1, v16_1, v17_1, v18_1, v19_1, v20_1, v21_1, v22_1, v23_1, v25_1, v36_1, v37_1, v38_1, v39_1, v40_1, v45_1, v46_1, v47_1, v48_1, v50_1, v51_1, v53_1, v55_1, rfl, (⟨by decide, by decide⟩ : In 0 0 1), hv2_1, hg2_1, hv3_1, hg3_1, hv4_1, hg4_1, hv5_1, hg5_1, hv6_1, hg6_1, hv8_1, hg8_1, hv9_1, hg9_1, hv12_1, hv13_1, hg13_1, hv14_1, hg14_1, hv15_1, hg15_1, hv17_1, hg17_1, hv20_1, hg20_1, hv23_1, hg23_1, hv25_1, hg25_1, hv36_1, hg36_1, hv47_1, hg47_1, hv48_1, hg48_1, hv53_1, hg53_1, hv55_1, hg55_1, hrel0_1⟩
  have hJ37 : ∀ (H : Heap) (locs : List Loc) (ls : Array Slot), va_P g.1 vwCl (va_pl L f3) H → va_D A (va_pl L f3) → va_S A s.heap H locs → lv_has ls 14 [(0, .ref (ad 255)), (1, .int z1), (2, .long z2), (4, .int z3)] → W p l e rm_X11_byChance s m [.ref (ad 255), .int z1, .long z2, .int z3].toArray below meth c H locs 0 0 (MQ below (va_Qi (po_X11_byChance g ad th L f z1 z2 z3) (PstB g A) A) [.ref (ad 255), .int z1, .long z2, .int z3].toArray s rm_X11_byChance.cells rm_X11_byChance.slots A) (F0 m 37 ls []) := by
    intro H locs ls hP hD hS hl
    refine lv_bipush (v := (-2)) hx hb dX11_byChance_37 (by decide) ?_
    exact ret_i (ty := .int) hx hb hr hlocks (rfl) hP hD hS (Nat.le_of_ble_eq_true rfl) (Nat.le_of_ble_eq_true rfl) (⟨rfl, ⟨th, ⟨(show MI th from hM), (SBM.rf th)⟩, hT⟩, hfr⟩) dX11_byChance_39
  refine lv_if_eq (tgt := 37) hx hb dX11_byChance_9 (by decide) (fun c6 => ?_) (fun c6 => ?_)
  ·
    have oc0 : (0 : Int32).toInt = 0 := by decide
    have cc7 : v23_1.toInt = (0 : Int32).toInt := congrArg Int32.toInt c6
    have hb8 : In v23_1 0 0 := In.eq1 hv23_1 (⟨by decide, by decide⟩ : In 0 0 0) cc7 (by decide) (by decide)
    exact hJ37 _ _ _ hP hD hS (lv_sub hl [0, 1, 2, 3] rfl)
  ·
    have oc0 : (0 : Int32).toInt = 0 := by decide
    have cc9 : v23_1.toInt ≠ (0 : Int32).toInt := i32_ne c6
    have hb10 : In v23_1 1 1 := In.ne1 hv23_1 (⟨by decide, by decide⟩ : In 0 0 0) cc9 (by decide) (by decide)
    refine lv_iload_n hx hb dX11_byChance_12 rfl (lv_at hl 1 rfl) ?_
    refine lv_i2l hx hb dX11_byChance_13 rfl ?_
    refine lv_lconst (v := 1) hx hb dX11_byChance_14 (by decide) ?_
    refine lv_ldc2 hx hb hown (hts _ (mT wg_1920)) dX11_byChance_15 ?_
    refine call_i (run_S (rm := rm_X11_isIn) hx hb hml hown hts (s_X11_isIn l g ad th _ _ _ (z1.toInt64) 1 200 hst hT ) cS_X11_isIn wg_1581 ⟨Nat.le_of_ble_eq_true rfl, Nat.le_of_ble_eq_true rfl⟩ hG hE hA hP hD hS rfl hl.1 (As := [.long (z1.toInt64), .long 1, .long 200]) (rest := []) rfl (Nat.le_of_ble_eq_true rfl) dX11_byChance_18 ⟨Nat.le_of_ble_eq_true rfl, Nat.le_of_ble_eq_true rfl⟩) hA hD hS (fun r11 L12 f13 H locs hp14 hP hD hS => ?_)
    obtain ⟨eL15L, eL15T, eL15R, eL15X0, eL15X1⟩ := hp14
    have eL15L : L12 = L := eL15L
    have eL15T : f13 = f3 := eL15T
    rw [eL15L, eL15T] at hP hD
    have eL15R : In r11 0 1 := eL15R
    have hii16 : r11.toInt = 0 ∨ (1 ≤ z1.toInt ∧ z1.toInt ≤ 200) := by have z := eL15X0; rw [i2l_t z1, (by decide : (1 : Int64).toInt = 1), (by decide : (200 : Int64).toInt = 200)] at z; exact z
    have hii16w : ¬ r11 = 0 → In z1 1 200 := fun c => by have c2 := i32_ne c; have e0 : (0 : Int32).toInt = 0 := (by decide); exact ⟨by omega, by omega⟩
    refine lv_if_eq (tgt := 37) hx hb dX11_byChance_21 (by decide) (fun c17 => ?_) (fun c17 => ?_)
    ·
      have oc0 : (0 : Int32).toInt = 0 := by decide
      have cc18 : r11.toInt = (0 : Int32).toInt := congrArg Int32.toInt c17
      have hb19 : In r11 0 0 := In.eq1 eL15R (⟨by decide, by decide⟩ : In 0 0 0) cc18 (by decide) (by decide)
      exact hJ37 _ _ _ hP hD hS (lv_sub hl [0, 1, 2, 3] rfl)
    ·
      have oc0 : (0 : Int32).toInt = 0 := by decide
      have cc20 : r11.toInt ≠ (0 : Int32).toInt := i32_ne c17
      have hb21 : In r11 1 1 := In.ne1 eL15R (⟨by decide, by decide⟩ : In 0 0 0) cc20 (by decide) (by decide)
      have hb22 : In z1 1 200 := In.both (hii16w c17) (In.full z1) (by decide) (by decide)
      refine lv_iload hx hb dX11_byChance_24 (lv_at hl 3 rfl) ?_
      refine lv_i2l hx hb dX11_byChance_26 rfl ?_
      refine lv_lconst (v := 0) hx hb dX11_byChance_27 (by decide) ?_
      refine lv_ldc2 hx hb hown (hts _ (mT wg_1681)) dX11_byChance_28 ?_
      refine call_i (run_S (rm := rm_X11_isIn) hx hb hml hown hts (s_X11_isIn l g ad th _ _ _ (z3.toInt64) 0 3 hst hT ) cS_X11_isIn wg_1581 ⟨Nat.le_of_ble_eq_true rfl, Nat.le_of_ble_eq_true rfl⟩ hG hE hA hP hD hS rfl hl.1 (As := [.long (z3.toInt64), .long 0, .long 3]) (rest := []) rfl (Nat.le_of_ble_eq_true rfl) dX11_byChance_31 ⟨Nat.le_of_ble_eq_true rfl, Nat.le_of_ble_eq_true rfl⟩) hA hD hS (fun r23 L24 f25 H locs hp26 hP hD hS => ?_)
      obtain ⟨eL27L, eL27T, eL27R, eL27X0, eL27X1⟩ := hp26
      have eL27L : L24 = L := eL27L
      have eL27T : f25 = f3 := eL27T
      rw [eL27L, eL27T] at hP hD
      have eL27R : In r23 0 1 := eL27R
      have hii28 : r23.toInt = 0 ∨ (0 ≤ z3.toInt ∧ z3.toInt ≤ 3) := by have z := eL27X0; rw [i2l_t z3, (by decide : (0 : Int64).toInt = 0), (by decide : (3 : Int64).toInt = 3)] at z; exact z
      have hii28w : ¬ r23 = 0 → In z3 0 3 := fun c => by have c2 := i32_ne c; have e0 : (0 : Int32).toInt = 0 := (by decide); exact ⟨by omega, by omega⟩
      refine lv_if_ne (tgt := 40) hx hb dX11_byChance_34 (by decide) (fun c29 => ?_) (fun c29 => ?_)
      ·
        have oc0 : (0 : Int32).toInt = 0 := by decide
        have cc30 : r23.toInt ≠ (0 : Int32).toInt := i32_ne c29
        have hb31 : In r23 1 1 := In.ne1 eL27R (⟨by decide, by decide⟩ : In 0 0 0) cc30 (by decide) (by decide)
        have hb32 : In z3 0 3 := In.both (hii28w c29) (In.full z3) (by decide) (by decide)
        refine lv_aload_n hx hb dX11_byChance_40 rfl (lv_at hl 0 rfl) ?_
        refine call_v (run_V (rm := rm_X11_takesUp) hx hb hml hown hts (s_X11_takesUp l g ad th _ _ _  hst hT (show (th 22) = 2126 from (by have ob10 : (0 : Int) ≤ (th 10) ∧ (th 10) ≤ 1 := (b0_10 hT :); have ob11 : (0 : Int) ≤ (th 11) ∧ (th 11) ≤ 9 := (b0_11 hT :); have ob12 : (0 : Int) ≤ (th 12) ∧ (th 12) ≤ 6 := (b0_12 hT :); have ob14 : (0 : Int) ≤ (th 14) ∧ (th 14) ≤ 511 := (b0_14 hT :); have ob15 : (0 : Int) ≤ (th 15) ∧ (th 15) ≤ 1 := (b0_15 hT :); have ob16 : (0 : Int) ≤ (th 16) ∧ (th 16) ≤ 20 := (b0_16 hT :); have ob17 : (0 : Int) ≤ (th 17) ∧ (th 17) ≤ 1 := (b0_17 hT :); have ob18 : (0 : Int) ≤ (th 18) ∧ (th 18) ≤ 18 := (b0_18 hT :); have ob38 : (0 : Int) ≤ (th 38) ∧ (th 38) ≤ 400 := (b0_38 hT :); have ob39 : (0 : Int) ≤ (th 39) ∧ (th 39) ≤ 200 := (b0_39 hT :); have ob44 : (0 : Int) ≤ (th 44) ∧ (th 44) ≤ 30 := (b0_44 hT :); have orn := rnd_b (th 10); obtain ⟨o0a, o0b⟩ := (hv14_1 : In _ _ _); obtain ⟨o1a, o1b⟩ := (hv15_1 : In _ _ _); obtain ⟨o2a, o2b⟩ := (hv17_1 : In _ _ _); obtain ⟨o3a, o3b⟩ := (hv20_1 : In _ _ _); obtain ⟨o4a, o4b⟩ := (hb10 : In _ _ _); obtain ⟨o5a, o5b⟩ := (hv25_1 : In _ _ _); obtain ⟨o6a, o6b⟩ := (hv36_1 : In _ _ _); obtain ⟨o7a, o7b⟩ := (hv47_1 : In _ _ _); obtain ⟨o8a, o8b⟩ := (hv48_1 : In _ _ _); obtain ⟨o9a, o9b⟩ := (hv53_1 : In _ _ _); obtain ⟨o10a, o10b⟩ := (hv55_1 : In _ _ _); omega)) (show (th 20) ≤ 18 from (by have ob10 : (0 : Int) ≤ (th 10) ∧ (th 10) ≤ 1 := (b0_10 hT :); have ob11 : (0 : Int) ≤ (th 11) ∧ (th 11) ≤ 9 := (b0_11 hT :); have ob12 : (0 : Int) ≤ (th 12) ∧ (th 12) ≤ 6 := (b0_12 hT :); have ob14 : (0 : Int) ≤ (th 14) ∧ (th 14) ≤ 511 := (b0_14 hT :); have ob15 : (0 : Int) ≤ (th 15) ∧ (th 15) ≤ 1 := (b0_15 hT :); have ob16 : (0 : Int) ≤ (th 16) ∧ (th 16) ≤ 20 := (b0_16 hT :); have ob17 : (0 : Int) ≤ (th 17) ∧ (th 17) ≤ 1 := (b0_17 hT :); have ob18 : (0 : Int) ≤ (th 18) ∧ (th 18) ≤ 18 := (b0_18 hT :); have ob38 : (0 : Int) ≤ (th 38) ∧ (th 38) ≤ 400 := (b0_38 hT :); have ob39 : (0 : Int) ≤ (th 39) ∧ (th 39) ≤ 200 := (b0_39 hT :); have ob44 : (0 : Int) ≤ (th 44) ∧ (th 44) ≤ 30 := (b0_44 hT :); have orn := rnd_b (th 10); obtain ⟨o0a, o0b⟩ := (hv14_1 : In _ _ _); obtain ⟨o1a, o1b⟩ := (hv15_1 : In _ _ _); obtain ⟨o2a, o2b⟩ := (hv17_1 : In _ _ _); obtain ⟨o3a, o3b⟩ := (hv20_1 : In _ _ _); obtain ⟨o4a, o4b⟩ := (hb10 : In _ _ _); obtain ⟨o5a, o5b⟩ := (hv25_1 : In _ _ _); obtain ⟨o6a, o6b⟩ := (hv36_1 : In _ _ _); obtain ⟨o7a, o7b⟩ := (hv47_1 : In _ _ _); obtain ⟨o8a, o8b⟩ := (hv48_1 : In _ _ _); obtain ⟨o9a, o9b⟩ := (hv53_1 : In _ _ _); obtain ⟨o10a, o10b⟩ := (hv55_1 : In _ _ _); omega)) (show (th 21) = (th 11) from (by have ob10 : (0 : Int) ≤ (th 10) ∧ (th 10) ≤ 1 := (b0_10 hT :); have ob11 : (0 : Int) ≤ (th 11) ∧ (th 11) ≤ 9 := (b0_11 hT :); have ob12 : (0 : Int) ≤ (th 12) ∧ (th 12) ≤ 6 := (b0_12 hT :); have ob14 : (0 : Int) ≤ (th 14) ∧ (th 14) ≤ 511 := (b0_14 hT :); have ob15 : (0 : Int) ≤ (th 15) ∧ (th 15) ≤ 1 := (b0_15 hT :); have ob16 : (0 : Int) ≤ (th 16) ∧ (th 16) ≤ 20 := (b0_16 hT :); have ob17 : (0 : Int) ≤ (th 17) ∧ (th 17) ≤ 1 := (b0_17 hT :); have ob18 : (0 : Int) ≤ (th 18) ∧ (th 18) ≤ 18 := (b0_18 hT :); have ob38 : (0 : Int) ≤ (th 38) ∧ (th 38) ≤ 400 := (b0_38 hT :); have ob39 : (0 : Int) ≤ (th 39) ∧ (th 39) ≤ 200 := (b0_39 hT :); have ob44 : (0 : Int) ≤ (th 44) ∧ (th 44) ≤ 30 := (b0_44 hT :); have orn := rnd_b (th 10); obtain ⟨o0a, o0b⟩ := (hv14_1 : In _ _ _); obtain ⟨o1a, o1b⟩ := (hv15_1 : In _ _ _); obtain ⟨o2a, o2b⟩ := (hv17_1 : In _ _ _); obtain ⟨o3a, o3b⟩ := (hv20_1 : In _ _ _); obtain ⟨o4a, o4b⟩ := (hb10 : In _ _ _); obtain ⟨o5a, o5b⟩ := (hv25_1 : In _ _ _); obtain ⟨o6a, o6b⟩ := (hv36_1 : In _ _ _); obtain ⟨o7a, o7b⟩ := (hv47_1 : In _ _ _); obtain ⟨o8a, o8b⟩ := (hv48_1 : In _ _ _); obtain ⟨o9a, o9b⟩ := (hv53_1 : In _ _ _); obtain ⟨o10a, o10b⟩ := (hv55_1 : In _ _ _); omega))) cV_X11_takesUp wg_1648 ⟨Nat.le_of_ble_eq_true rfl, Nat.le_of_ble_eq_true rfl⟩ hG hE hA hP hD hS (hst.1 255 (by decide)) hf4 rfl rfl hl.1 (As := []) (rest := []) rfl (Nat.le_of_ble_eq_true rfl) dX11_byChance_41 ⟨Nat.le_of_ble_eq_true rfl, Nat.le_of_ble_eq_true rfl⟩) hA hD hS (fun L34 f35 H locs hp36 hP hD hS => ?_)
        obtain ⟨eL37L, eL37T, eL37F⟩ := hp36
        have eL37L : L34 = L := eL37L
        rw [eL37L] at hP hD
        obtain ⟨zz38, zz39, zz40, hzz38, eL37T⟩ := eL37T
        have hzz38 : ((zz38 = (th 19) ∧ 0 ≤ zz38 ∧ zz38 ≤ (th 20)) ∧ (0 ≤ zz39 ∧ zz39 ≤ 511)) ∧ capI zz39 ((th 11)) := hzz38
        have hT : TI g ad (gset (gset (gset th 18 zz38) 14 zz39) 44 zz40) f35 := eL37T
        have eL37F : ∀ b, b ≠ (ad 255) → b ≠ (ad 265) → b ≠ (ad 266) → b ≠ (ad 267) → b ≠ (ad 269) → b ≠ (ad 260) → b ≠ (ad 261) → b ≠ (ad 262) → b ≠ (ad 263) → b ≠ (ad 264) → f35 b = f3 b := eL37F
        have hfr : (∀ b, b ≠ (ad 255) → b ≠ (ad 265) → b ≠ (ad 266) → b ≠ (ad 267) → b ≠ (ad 268) → b ≠ (ad 269) → b ≠ (ad 270) → b ≠ (ad 260) → b ≠ (ad 261) → b ≠ (ad 262) → b ≠ (ad 263) → b ≠ (ad 264) → f35 b = f b) := fun b z0_ z1_ z2_ z3_ z4_ z5_ z6_ z7_ z8_ z9_ z10_ z11_ => (eL37F b z0_ z1_ z2_ z3_ z5_ z7_ z8_ z9_ z10_ z11_).trans (hfr b z0_ z1_ z2_ z3_ z4_ z5_ z6_ z7_ z8_ z9_ z10_ z11_)
        refine M0e hT (fun v0_41 v2_41 v3_41 v4_41 v5_41 v6_41 v8_41 v9_41 v12_41 v13_41 v14_41 v15_41 v16_41 v17_41 v18_41 v19_41 v20_41 v21_41 v22_41 v23_41 v25_41 v36_41 v37_41 v38_41 v39_41 v40_41 v45_41 v46_41 v47_41 v48_41 v50_41 v51_41 v53_41 v55_41 hf42 hv0_41 hv2_41 hg2_41 hv3_41 hg3_41 hv4_41 hg4_41 hv5_41 hg5_41 hv6_41 hg6_41 hv8_41 hg8_41 hv9_41 hg9_41 hv12_41 hv13_41 hg13_41 hv14_41 hg14_41 hv15_41 hg15_41 hv17_41 hg17_41 hv20_41 hg20_41 hv23_41 hg23_41 hv25_41 hg25_41 hv36_41 hg36_41 hv47_41 hg47_41 hv48_41 hg48_41 hv53_41 hg53_41 hv55_41 hg55_41 hrel0_41 => ?_)
        have hg15_41 : v15_41.toInt = th 11 := hg15_41
        have hg17_41 : v17_41.toInt = th 12 := hg17_41
        have hg20_41 : v20_41.toInt = zz39 := hg20_41
        have h14 : (0 ≤ zz39 ∧ zz39 ≤ 511) ∧ th 11 ≤ 9 := ⟨hzz38.1.2, by omega⟩
        have hfz : 0 ≤ fzI (zz39) ∧ fzI (zz39) < th 11 := fz_capI h14.1 (by omega) hzz38.2
        refine lv_aload_n hx hb dX11_byChance_44 rfl (lv_at hl 0 rfl) ?_
        refine pl_get (v := .long v21_41) hx hb hts (fun w h => mT (inX11 w h)) hown hG.1 hP (hst.1 255 (by decide)) hf42 rfl 21 (by decide) (hts _ (mT wg_1357)) (fun _ h => h) rfl dX11_byChance_45 ?_
        refine lv_lstore (lv' := [(5, .long v21_41), (0, .ref (ad 255)), (1, .int z1), (2, .long z2), (4, .int z3)]) hx hb dX11_byChance_48 hl (by decide) rfl (fun ls hl => ?_)
        refine lv_iconst (v := 0) hx hb dX11_byChance_50 (by decide) ?_
        refine lv_istore (lv' := [(7, .int 0), (5, .long v21_41), (0, .ref (ad 255)), (1, .int z1), (2, .long z2), (4, .int z3)]) hx hb dX11_byChance_51 hl (by decide) rfl (fun ls hl => ?_)
        refine lv_iconst (v := 0) hx hb dX11_byChance_53 (by decide) ?_
        refine lv_istore (lv' := [(8, .int 0), (7, .int 0), (5, .long v21_41), (0, .ref (ad 255)), (1, .int z1), (2, .long z2), (4, .int z3)]) hx hb dX11_byChance_54 hl (by decide) rfl (fun ls hl => ?_)
        refine lv_iconst (v := (-1)) hx hb dX11_byChance_56 (by decide) ?_
        refine lv_istore (lv' := [(9, .int (-1)), (8, .int 0), (7, .int 0), (5, .long v21_41), (0, .ref (ad 255)), (1, .int z1), (2, .long z2), (4, .int z3)]) hx hb dX11_byChance_57 hl (by decide) rfl (fun ls hl => ?_)
        refine lv_iconst (v := 0) hx hb dX11_byChance_59 (by decide) ?_
        refine lv_istore (lv' := [(10, .int 0), (9, .int (-1)), (8, .int 0), (7, .int 0), (5, .long v21_41), (0, .ref (ad 255)), (1, .int z1), (2, .long z2), (4, .int z3)]) hx hb dX11_byChance_60 hl (by decide) rfl (fun ls hl => ?_)
        refine lv_iconst (v := 0) hx hb dX11_byChance_62 (by decide) ?_
        refine lv_istore (lv' := [(11, .int 0), (10, .int 0), (9, .int (-1)), (8, .int 0), (7, .int 0), (5, .long v21_41), (0, .ref (ad 255)), (1, .int z1), (2, .long z2), (4, .int z3)]) hx hb dX11_byChance_63 hl (by decide) rfl (fun ls hl => ?_)
        have hJ65 : ∀ (k65 : Nat) (y65_l11 : Int32) (H : Heap) (locs : List Loc) (ls : Array Slot), In y65_l11 0 8 → va_P g.1 vwCl (va_pl L f35) H → va_D A (va_pl L f35) → va_S A s.heap H locs → (y65_l11.toInt ≤ fzI (zz39)) → lv_has ls 14 [(0, .ref (ad 255)), (1, .int z1), (2, .long z2), (4, .int z3), (5, .long v21_41), (7, .int 0), (8, .int 0), (9, .int (-1)), (10, .int 0), (11, .int y65_l11)] → 8 - y65_l11.toInt < ((k65 : Nat) : Int) → W p l e rm_X11_byChance s m [.ref (ad 255), .int z1, .long z2, .int z3].toArray below meth c H locs 0 0 (MQ below (va_Qi (po_X11_byChance g ad th L f z1 z2 z3) (PstB g A) A) [.ref (ad 255), .int z1, .long z2, .int z3].toArray s rm_X11_byChance.cells rm_X11_byChance.slots A) (F0 m 65 ls []) := by
          intro k65
          induction k65 with
          | zero =>
            intro y65_l11 H locs ls hy65_l11 hP hD hS hxi65_0 hl hmz65
            exact ms0 hy65_l11 hmz65
          | succ k65 ih65 =>
            intro y65_l11 H locs ls hy65_l11 hP hD hS hxi65_0 hl hmz65
            refine lv_aload_n hx hb dX11_byChance_65 rfl (lv_at hl 0 rfl) ?_
            refine lv_iload hx hb dX11_byChance_66 (lv_at hl 9 rfl) ?_
            refine call_i (run_V (rm := rm_X11_isLiar) hx hb hml hown hts (s_X11_isLiar l g ad (gset (gset (gset th 18 zz38) 14 zz39) 44 zz40) _ _ _ y65_l11 hst hT ) cV_X11_isLiar wg_1664 ⟨Nat.le_of_ble_eq_true rfl, Nat.le_of_ble_eq_true rfl⟩ hG hE hA hP hD hS (hst.1 255 (by decide)) hf42 rfl rfl hl.1 (As := [.int y65_l11]) (rest := []) rfl (Nat.le_of_ble_eq_true rfl) dX11_byChance_68 ⟨Nat.le_of_ble_eq_true rfl, Nat.le_of_ble_eq_true rfl⟩) hA hD hS (fun r43 L44 f45 H locs hp46 hP hD hS => ?_)
            obtain ⟨eL47L, eL47T, eL47R, eL47X0⟩ := hp46
            have eL47L : L44 = L := eL47L
            have eL47T : f45 = f35 := eL47T
            rw [eL47L, eL47T] at hP hD
            have eL47R : In r43 0 1 := eL47R
            have hbl48 : r43.toInt = bitI (zz39) y65_l11.toInt := eL47X0 (In.mono hy65_l11 (by decide) (by decide))
            refine lv_if_eq (tgt := 80) hx hb dX11_byChance_71 (by decide) (fun c49 => ?_) (fun c49 => ?_)
            ·
              have oc0 : (0 : Int32).toInt = 0 := by decide
              have cc50 : r43.toInt = (0 : Int32).toInt := congrArg Int32.toInt c49
              have hb51 : In r43 0 0 := In.eq1 eL47R (⟨by decide, by decide⟩ : In 0 0 0) cc50 (by decide) (by decide)
              refine lv_iconst (v := 0) hx hb dX11_byChance_80 (by decide) ?_
              refine lv_istore (lv' := [(12, .int 0), (0, .ref (ad 255)), (1, .int z1), (2, .long z2), (4, .int z3), (5, .long v21_41), (7, .int 0), (8, .int 0), (9, .int (-1)), (10, .int 0), (11, .int y65_l11)]) hx hb dX11_byChance_81 hl (by decide) rfl (fun ls hl => ?_)
              have hJ83 : ∀ (k83 : Nat) (zg83_zg : Int) (y83_l7 : Int32) (y83_l8 : Int32) (y83_l9 : Int32) (y83_l10 : Int32) (y83_l12 : Int32) (f_83 : HP) (H : Heap) (locs : List Loc) (ls : Array Slot), In y83_l7 (-2147483648) 2147483647 → In y83_l8 (-2147483648) 2147483647 → In y83_l9 (-1) 2147483647 → In y83_l10 (-2147483648) 2147483647 → In y83_l12 0 2147483647 → va_P g.1 vwCl (va_pl L f_83) H → va_D A (va_pl L f_83) → va_S A s.heap H locs → TI g ad (gset (gset (gset th 14 zz39) 44 zz40) 18 zg83_zg) f_83 → (∀ b, b ≠ (ad 255) → b ≠ (ad 265) → b ≠ (ad 266) → b ≠ (ad 267) → b ≠ (ad 268) → b ≠ (ad 269) → b ≠ (ad 270) → b ≠ (ad 260) → b ≠ (ad 261) → b ≠ (ad 262) → b ≠ (ad 263) → b ≠ (ad 264) → f_83 b = f b) → lv_has ls 14 [(0, .ref (ad 255)), (1, .int z1), (2, .long z2), (4, .int z3), (5, .long v21_41), (7, .int y83_l7), (8, .int y83_l8), (9, .int y83_l9), (10, .int y83_l10), (11, .int y65_l11), (12, .int y83_l12)] → 2147483647 - y83_l12.toInt < ((k83 : Nat) : Int) → W p l e rm_X11_byChance s m [.ref (ad 255), .int z1, .long z2, .int z3].toArray below meth c H locs 0 0 (MQ below (va_Qi (po_X11_byChance g ad th L f z1 z2 z3) (PstB g A) A) [.ref (ad 255), .int z1, .long z2, .int z3].toArray s rm_X11_byChance.cells rm_X11_byChance.slots A) (F0 m 83 ls []) := by
                intro k83
                induction k83 with
                | zero =>
                  intro zg83_zg y83_l7 y83_l8 y83_l9 y83_l10 y83_l12 f_83 H locs ls hy83_l7 hy83_l8 hy83_l9 hy83_l10 hy83_l12 hP hD hS hT hfr hl hmz83
                  exact ms0 hy83_l12 hmz83
                | succ k83 ih83 =>
                  intro zg83_zg y83_l7 y83_l8 y83_l9 y83_l10 y83_l12 f_83 H locs ls hy83_l7 hy83_l8 hy83_l9 hy83_l10 hy83_l12 hP hD hS hT hfr hl hmz83
                  refine lv_iload hx hb dX11_byChance_83 (lv_at hl 10 rfl) ?_
                  refine lv_iload_n hx hb dX11_byChance_85 rfl (lv_at hl 1 rfl) ?_
                  refine lv_icmp_ge (tgt := 186) hx hb dX11_byChance_86 (by decide) (fun c52 => ?_) (fun c52 => ?_)
                  ·
                    have cc53 : z1.toInt ≤ y83_l12.toInt := i32_le.mp c52
                    have hb54 : In y83_l12 1 2147483647 := In.ge1 hy83_l12 hb22 cc53 (by decide) (by decide)
                    refine lv_aload_n hx hb dX11_byChance_186 rfl (lv_at hl 0 rfl) ?_
                    refine lv_lload hx hb dX11_byChance_187 (lv_at hl 4 rfl) ?_
                    refine M0e hT (fun v0_55 v2_55 v3_55 v4_55 v5_55 v6_55 v8_55 v9_55 v12_55 v13_55 v14_55 v15_55 v16_55 v17_55 v18_55 v19_55 v20_55 v21_55 v22_55 v23_55 v25_55 v36_55 v37_55 v38_55 v39_55 v40_55 v45_55 v46_55 v47_55 v48_55 v50_55 v51_55 v53_55 v55_55 hf56 hv0_55 hv2_55 hg2_55 hv3_55 hg3_55 hv4_55 hg4_55 hv5_55 hg5_55 hv6_55 hg6_55 hv8_55 hg8_55 hv9_55 hg9_55 hv12_55 hv13_55 hg13_55 hv14_55 hg14_55 hv15_55 hg15_55 hv17_55 hg17_55 hv20_55 hg20_55 hv23_55 hg23_55 hv25_55 hg25_55 hv36_55 hg36_55 hv47_55 hg47_55 hv48_55 hg48_55 hv53_55 hg53_55 hv55_55 hg55_55 hrel0_55 => ?_)
                    have hg15_55 : v15_55.toInt = th 11 := hg15_55
                    have hg17_55 : v17_55.toInt = th 12 := hg17_55
                    have hg20_55 : v20_55.toInt = zz39 := hg20_55
                    refine pl_put (ty := .long) (v := .long v21_41) (fs' := [.int v0_55, .ref (ad 256), .int v2_55, .int v3_55, .int v4_55, .int v5_55, .int v6_55, .ref (ad 257), .int v8_55, .int v9_55, .ref (ad 258), .ref (ad 259), .int v12_55, .int v13_55, .int v14_55, .int v15_55, .int v16_55, .int v17_55, .int v18_55, .int v19_55, .int v20_55, .long v21_41, .long v22_55, .int v23_55, .ref (ad 260), .int v25_55, .ref (ad 261), .ref (ad 262), .ref (ad 263), .ref (ad 264), .ref (ad 265), .ref (ad 266), .ref (ad 267), .ref (ad 268), .ref (ad 269), .ref (ad 270), .int v36_55, .int v37_55, .int v38_55, .int v39_55, .int v40_55, .ref (ad 271), .ref (ad 272), .ref (ad 273), .ref (ad 274), .long v45_55, .long v46_55, .int v47_55, .int v48_55, .ref (ad 275), .int v50_55, .int v51_55, .ref (ad 276), .int v53_55, .ref (ad 277), .int v55_55]) hx hb hts (fun w h => mT (inX11 w h)) tyX11 tyX11_ok nmX11 hown hG.1 hP hD hS (hst.1 255 (by decide)) hf56 rfl 21 (by decide) (hts _ (mT wg_1357)) (fun _ h => h) rfl (by decide +kernel) (rfl) (rfl) (Nat.le_of_ble_eq_true rfl) rfl dX11_byChance_189 (fun H locs f57 hf58 ho59 hP hD hS => ?_)
                    have hfr : (∀ b, b ≠ (ad 255) → b ≠ (ad 265) → b ≠ (ad 266) → b ≠ (ad 267) → b ≠ (ad 268) → b ≠ (ad 269) → b ≠ (ad 270) → b ≠ (ad 260) → b ≠ (ad 261) → b ≠ (ad 262) → b ≠ (ad 263) → b ≠ (ad 264) → f57 b = f b) := fun b z0_ z1_ z2_ z3_ z4_ z5_ z6_ z7_ z8_ z9_ z10_ z11_ => (ho59 b z0_).trans (hfr b z0_ z1_ z2_ z3_ z4_ z5_ z6_ z7_ z8_ z9_ z10_ z11_)
                    refine lv_iload hx hb dX11_byChance_192 (lv_at hl 3 rfl) ?_
                    have hT := TI.updM hT hst (k := 0) (by decide) hf58 ho59 ⟨v0_55, v2_55, v3_55, v4_55, v5_55, v6_55, v8_55, v9_55, v12_55, v13_55, v14_55, v15_55, v16_55, v17_55, v18_55, v19_55, v20_55, v21_41, v22_55, v23_55, v25_55, v36_55, v37_55, v38_55, v39_55, v40_55, v45_55, v46_55, v47_55, v48_55, v50_55, v51_55, v53_55, v55_55, rfl, hv0_55, hv2_55, hg2_55, hv3_55, hg3_55, hv4_55, hg4_55, hv5_55, hg5_55, hv6_55, hg6_55, hv8_55, hg8_55, hv9_55, hg9_55, hv12_55, hv13_55, hg13_55, hv14_55, hg14_55, hv15_55, hg15_55, hv17_55, hg17_55, hv20_55, hg20_55, hv23_55, hg23_55, hv25_55, hg25_55, hv36_55, hg36_55, hv47_55, hg47_55, hv48_55, hg48_55, hv53_55, hg53_55, hv55_55, hg55_55, hrel0_55⟩
                    refine lv_if_ne (tgt := 202) hx hb dX11_byChance_194 (by decide) (fun c60 => ?_) (fun c60 => ?_)
                    ·
                      have oc0 : (0 : Int32).toInt = 0 := by decide
                      have cc61 : z3.toInt ≠ (0 : Int32).toInt := i32_ne c60
                      have hb62 : In z3 1 3 := In.ne1 hb32 (⟨by decide, by decide⟩ : In 0 0 0) cc61 (by decide) (by decide)
                      refine lv_iload hx hb dX11_byChance_202 (lv_at hl 3 rfl) ?_
                      refine lv_iconst (v := 1) hx hb dX11_byChance_204 (by decide) ?_
                      refine lv_icmp_ne (tgt := 213) hx hb dX11_byChance_205 (by decide) (fun c63 => ?_) (fun c63 => ?_)
                      ·
                        have oc1 : (1 : Int32).toInt = 1 := by decide
                        have cc64 : z3.toInt ≠ (1 : Int32).toInt := i32_ne c63
                        have hb65 : In z3 2 3 := In.ne1 hb62 (⟨by decide, by decide⟩ : In 1 1 1) cc64 (by decide) (by decide)
                        refine lv_iload hx hb dX11_byChance_213 (lv_at hl 3 rfl) ?_
                        refine lv_iconst (v := 2) hx hb dX11_byChance_215 (by decide) ?_
                        refine lv_icmp_ne (tgt := 224) hx hb dX11_byChance_216 (by decide) (fun c66 => ?_) (fun c66 => ?_)
                        ·
                          have oc2 : (2 : Int32).toInt = 2 := by decide
                          have cc67 : z3.toInt ≠ (2 : Int32).toInt := i32_ne c66
                          have hb68 : In z3 3 3 := In.ne1 hb65 (⟨by decide, by decide⟩ : In 2 2 2) cc67 (by decide) (by decide)
                          refine lv_iload hx hb dX11_byChance_224 (lv_at hl 8 rfl) ?_
                          exact ret_i (ty := .int) hx hb hr hlocks (rfl) hP hD hS (Nat.le_of_ble_eq_true rfl) (Nat.le_of_ble_eq_true rfl) (⟨rfl, ⟨(gset (gset (gset th 14 zz39) 44 zz40) 18 zg83_zg), ⟨(show MI (gset (gset (gset th 14 zz39) 44 zz40) 18 zg83_zg) from ⟨m1, m2, (show th 20 = (th 12) * rnd (th 10) from m3), m4, m5, m6, m7, m8, m9, m10⟩), (SBM.set (k := 18) (SBM.set (k := 44) (SBM.set (k := 14) (SBM.rf th) (by decide)) (by decide)) (by decide))⟩, hT⟩, hfr⟩) dX11_byChance_226
                        ·
                          have oc2 : (2 : Int32).toInt = 2 := by decide
                          have cc69 : z3.toInt = (2 : Int32).toInt := congrArg Int32.toInt c66
                          have hb70 : In z3 2 2 := In.eq1 hb65 (⟨by decide, by decide⟩ : In 2 2 2) cc69 (by decide) (by decide)
                          refine lv_iload hx hb dX11_byChance_219 (lv_at hl 7 rfl) ?_
                          refine lv_goto (tgt := 226) hx hb dX11_byChance_221 (by decide) ?_
                          exact ret_i (ty := .int) hx hb hr hlocks (rfl) hP hD hS (Nat.le_of_ble_eq_true rfl) (Nat.le_of_ble_eq_true rfl) (⟨rfl, ⟨(gset (gset (gset th 14 zz39) 44 zz40) 18 zg83_zg), ⟨(show MI (gset (gset (gset th 14 zz39) 44 zz40) 18 zg83_zg) from ⟨m1, m2, (show th 20 = (th 12) * rnd (th 10) from m3), m4, m5, m6, m7, m8, m9, m10⟩), (SBM.set (k := 18) (SBM.set (k := 44) (SBM.set (k := 14) (SBM.rf th) (by decide)) (by decide)) (by decide))⟩, hT⟩, hfr⟩) dX11_byChance_226
                      ·
                        have oc1 : (1 : Int32).toInt = 1 := by decide
                        have cc71 : z3.toInt = (1 : Int32).toInt := congrArg Int32.toInt c63
                        have hb72 : In z3 1 1 := In.eq1 hb62 (⟨by decide, by decide⟩ : In 1 1 1) cc71 (by decide) (by decide)
                        refine lv_iload hx hb dX11_byChance_208 (lv_at hl 6 rfl) ?_
                        refine lv_goto (tgt := 226) hx hb dX11_byChance_210 (by decide) ?_
                        exact ret_i (ty := .int) hx hb hr hlocks (rfl) hP hD hS (Nat.le_of_ble_eq_true rfl) (Nat.le_of_ble_eq_true rfl) (⟨rfl, ⟨(gset (gset (gset th 14 zz39) 44 zz40) 18 zg83_zg), ⟨(show MI (gset (gset (gset th 14 zz39) 44 zz40) 18 zg83_zg) from ⟨m1, m2, (show th 20 = (th 12) * rnd (th 10) from m3), m4, m5, m6, m7, m8, m9, m10⟩), (SBM.set (k := 18) (SBM.set (k := 44) (SBM.set (k := 14) (SBM.rf th) (by decide)) (by decide)) (by decide))⟩, hT⟩, hfr⟩) dX11_byChance_226
                    ·
                      have oc0 : (0 : Int32).toInt = 0 := by decide
                      have cc73 : z3.toInt = (0 : Int32).toInt := congrArg Int32.toInt c60
                      have hb74 : In z3 0 0 := In.eq1 hb32 (⟨by decide, by decide⟩ : In 0 0 0) cc73 (by decide) (by decide)
                      refine lv_iload hx hb dX11_byChance_197 (lv_at hl 5 rfl) ?_
                      refine lv_goto (tgt := 226) hx hb dX11_byChance_199 (by decide) ?_
                      exact ret_i (ty := .int) hx hb hr hlocks (rfl) hP hD hS (Nat.le_of_ble_eq_true rfl) (Nat.le_of_ble_eq_true rfl) (⟨rfl, ⟨(gset (gset (gset th 14 zz39) 44 zz40) 18 zg83_zg), ⟨(show MI (gset (gset (gset th 14 zz39) 44 zz40) 18 zg83_zg) from ⟨m1, m2, (show th 20 = (th 12) * rnd (th 10) from m3), m4, m5, m6, m7, m8, m9, m10⟩), (SBM.set (k := 18) (SBM.set (k := 44) (SBM.set (k := 14) (SBM.rf th) (by decide)) (by decide)) (by decide))⟩, hT⟩, hfr⟩) dX11_byChance_226
                  ·
                    have cc75 : y83_l12.toInt < z1.toInt := i32_nle c52
                    have hb76 : In y83_l12 0 199 := In.lt1 hy83_l12 hb22 cc75 (by decide) (by decide)
                    refine lv_aload_n hx hb dX11_byChance_89 rfl (lv_at hl 0 rfl) ?_
                    refine lv_lload_n hx hb dX11_byChance_90 rfl (lv_at hl 2 rfl) ?_
                    refine lv_iload hx hb dX11_byChance_91 (lv_at hl 10 rfl) ?_
                    refine lv_i2l hx hb dX11_byChance_93 rfl ?_
                    refine lv_ladd hx hb dX11_byChance_94 ?_
                    refine lv_topl (fun x77 ex77 => ?_)
                    refine M0e hT (fun v0_78 v2_78 v3_78 v4_78 v5_78 v6_78 v8_78 v9_78 v12_78 v13_78 v14_78 v15_78 v16_78 v17_78 v18_78 v19_78 v20_78 v21_78 v22_78 v23_78 v25_78 v36_78 v37_78 v38_78 v39_78 v40_78 v45_78 v46_78 v47_78 v48_78 v50_78 v51_78 v53_78 v55_78 hf79 hv0_78 hv2_78 hg2_78 hv3_78 hg3_78 hv4_78 hg4_78 hv5_78 hg5_78 hv6_78 hg6_78 hv8_78 hg8_78 hv9_78 hg9_78 hv12_78 hv13_78 hg13_78 hv14_78 hg14_78 hv15_78 hg15_78 hv17_78 hg17_78 hv20_78 hg20_78 hv23_78 hg23_78 hv25_78 hg25_78 hv36_78 hg36_78 hv47_78 hg47_78 hv48_78 hg48_78 hv53_78 hg53_78 hv55_78 hg55_78 hrel0_78 => ?_)
                    have hg15_78 : v15_78.toInt = th 11 := hg15_78
                    have hg17_78 : v17_78.toInt = th 12 := hg17_78
                    have hg20_78 : v20_78.toInt = zz39 := hg20_78
                    refine pl_put (ty := .long) (v := .long x77) (fs' := [.int v0_78, .ref (ad 256), .int v2_78, .int v3_78, .int v4_78, .int v5_78, .int v6_78, .ref (ad 257), .int v8_78, .int v9_78, .ref (ad 258), .ref (ad 259), .int v12_78, .int v13_78, .int v14_78, .int v15_78, .int v16_78, .int v17_78, .int v18_78, .int v19_78, .int v20_78, .long x77, .long v22_78, .int v23_78, .ref (ad 260), .int v25_78, .ref (ad 261), .ref (ad 262), .ref (ad 263), .ref (ad 264), .ref (ad 265), .ref (ad 266), .ref (ad 267), .ref (ad 268), .ref (ad 269), .ref (ad 270), .int v36_78, .int v37_78, .int v38_78, .int v39_78, .int v40_78, .ref (ad 271), .ref (ad 272), .ref (ad 273), .ref (ad 274), .long v45_78, .long v46_78, .int v47_78, .int v48_78, .ref (ad 275), .int v50_78, .int v51_78, .ref (ad 276), .int v53_78, .ref (ad 277), .int v55_78]) hx hb hts (fun w h => mT (inX11 w h)) tyX11 tyX11_ok nmX11 hown hG.1 hP hD hS (hst.1 255 (by decide)) hf79 rfl 21 (by decide) (hts _ (mT wg_1357)) (fun _ h => h) rfl (by decide +kernel) (rfl) (rfl) (Nat.le_of_ble_eq_true rfl) rfl dX11_byChance_95 (fun H locs f80 hf81 ho82 hP hD hS => ?_)
                    have hfr : (∀ b, b ≠ (ad 255) → b ≠ (ad 265) → b ≠ (ad 266) → b ≠ (ad 267) → b ≠ (ad 268) → b ≠ (ad 269) → b ≠ (ad 270) → b ≠ (ad 260) → b ≠ (ad 261) → b ≠ (ad 262) → b ≠ (ad 263) → b ≠ (ad 264) → f80 b = f b) := fun b z0_ z1_ z2_ z3_ z4_ z5_ z6_ z7_ z8_ z9_ z10_ z11_ => (ho82 b z0_).trans (hfr b z0_ z1_ z2_ z3_ z4_ z5_ z6_ z7_ z8_ z9_ z10_ z11_)
                    refine lv_aload_n hx hb dX11_byChance_98 rfl (lv_at hl 0 rfl) ?_
                    refine lv_iconst (v := 2) hx hb dX11_byChance_99 (by decide) ?_
                    refine lv_iconst (v := 0) hx hb dX11_byChance_100 (by decide) ?_
                    have hT := TI.updM hT hst (k := 0) (by decide) hf81 ho82 ⟨v0_78, v2_78, v3_78, v4_78, v5_78, v6_78, v8_78, v9_78, v12_78, v13_78, v14_78, v15_78, v16_78, v17_78, v18_78, v19_78, v20_78, x77, v22_78, v23_78, v25_78, v36_78, v37_78, v38_78, v39_78, v40_78, v45_78, v46_78, v47_78, v48_78, v50_78, v51_78, v53_78, v55_78, rfl, hv0_78, hv2_78, hg2_78, hv3_78, hg3_78, hv4_78, hg4_78, hv5_78, hg5_78, hv6_78, hg6_78, hv8_78, hg8_78, hv9_78, hg9_78, hv12_78, hv13_78, hg13_78, hv14_78, hg14_78, hv15_78, hg15_78, hv17_78, hg17_78, hv20_78, hg20_78, hv23_78, hg23_78, hv25_78, hg25_78, hv36_78, hg36_78, hv47_78, hg47_78, hv48_78, hg48_78, hv53_78, hg53_78, hv55_78, hg55_78, hrel0_78⟩
                    refine call_v (run_V (rm := rm_X11_runsWhole) hx hb hml hown hts (s_X11_runsWhole l g ad (gset (gset (gset th 14 zz39) 44 zz40) 18 zg83_zg) _ _ _ 2 0 hst hT (show 3 ≤ th 11 by omega)) cV_X11_runsWhole wg_1842 ⟨Nat.le_of_ble_eq_true rfl, Nat.le_of_ble_eq_true rfl⟩ hG hE hA hP hD hS (hst.1 255 (by decide)) hf81 rfl rfl hl.1 (As := [.int 2, .int 0]) (rest := []) rfl (Nat.le_of_ble_eq_true rfl) dX11_byChance_101 ⟨Nat.le_of_ble_eq_true rfl, Nat.le_of_ble_eq_true rfl⟩) hA hD hS (fun L84 f85 H locs hp86 hP hD hS => ?_)
                    obtain ⟨eL87L, eL87T, eL87F⟩ := hp86
                    have eL87L : L84 = L := eL87L
                    rw [eL87L] at hP hD
                    obtain ⟨zz88, hzz88, eL87T⟩ := eL87T
                    have hzz88 : True := hzz88
                    have hT : TI g ad (gset (gset (gset (gset th 14 zz39) 44 zz40) 18 zg83_zg) 18 zz88) f85 := eL87T
                    have hT : TI g ad (gset (gset (gset th 14 zz39) 44 zz40) 18 zz88) f85 := TI.cast hT (by funext q; by_cases hq0 : q = 18; (subst hq0; rfl); by_cases hq1 : q = 44; (subst hq1; rfl); by_cases hq2 : q = 14; (subst hq2; rfl); simp only [gset, if_neg hq0, if_neg hq1, if_neg hq2])
                    have eL87F : ∀ b, b ≠ (ad 255) → b ≠ (ad 265) → b ≠ (ad 266) → b ≠ (ad 267) → b ≠ (ad 268) → b ≠ (ad 269) → b ≠ (ad 270) → b ≠ (ad 261) → b ≠ (ad 262) → b ≠ (ad 263) → b ≠ (ad 264) → f85 b = f80 b := eL87F
                    have hfr : (∀ b, b ≠ (ad 255) → b ≠ (ad 265) → b ≠ (ad 266) → b ≠ (ad 267) → b ≠ (ad 268) → b ≠ (ad 269) → b ≠ (ad 270) → b ≠ (ad 260) → b ≠ (ad 261) → b ≠ (ad 262) → b ≠ (ad 263) → b ≠ (ad 264) → f85 b = f b) := fun b z0_ z1_ z2_ z3_ z4_ z5_ z6_ z7_ z8_ z9_ z10_ z11_ => (eL87F b z0_ z1_ z2_ z3_ z4_ z5_ z6_ z8_ z9_ z10_ z11_).trans (hfr b z0_ z1_ z2_ z3_ z4_ z5_ z6_ z7_ z8_ z9_ z10_ z11_)
                    refine lv_aload_n hx hb dX11_byChance_104 rfl (lv_at hl 0 rfl) ?_
                    refine M0e hT (fun v0_89 v2_89 v3_89 v4_89 v5_89 v6_89 v8_89 v9_89 v12_89 v13_89 v14_89 v15_89 v16_89 v17_89 v18_89 v19_89 v20_89 v21_89 v22_89 v23_89 v25_89 v36_89 v37_89 v38_89 v39_89 v40_89 v45_89 v46_89 v47_89 v48_89 v50_89 v51_89 v53_89 v55_89 hf90 hv0_89 hv2_89 hg2_89 hv3_89 hg3_89 hv4_89 hg4_89 hv5_89 hg5_89 hv6_89 hg6_89 hv8_89 hg8_89 hv9_89 hg9_89 hv12_89 hv13_89 hg13_89 hv14_89 hg14_89 hv15_89 hg15_89 hv17_89 hg17_89 hv20_89 hg20_89 hv23_89 hg23_89 hv25_89 hg25_89 hv36_89 hg36_89 hv47_89 hg47_89 hv48_89 hg48_89 hv53_89 hg53_89 hv55_89 hg55_89 hrel0_89 => ?_)
                    have hg15_89 : v15_89.toInt = th 11 := hg15_89
                    have hg17_89 : v17_89.toInt = th 12 := hg17_89
                    have hg20_89 : v20_89.toInt = zz39 := hg20_89
                    refine call_i (run_V (rm := rm_X11_areAgreed) hx hb hml hown hts (s_X11_areAgreed l g ad (gset (gset (gset th 14 zz39) 44 zz40) 18 zz88) _ _ _  hst hT (show 3 ≤ th 11 by omega)) cV_X11_areAgreed wg_1846 ⟨Nat.le_of_ble_eq_true rfl, Nat.le_of_ble_eq_true rfl⟩ hG hE hA hP hD hS (hst.1 255 (by decide)) hf90 rfl rfl hl.1 (As := []) (rest := []) rfl (Nat.le_of_ble_eq_true rfl) dX11_byChance_105 ⟨Nat.le_of_ble_eq_true rfl, Nat.le_of_ble_eq_true rfl⟩) hA hD hS (fun r91 L92 f93 H locs hp94 hP hD hS => ?_)
                    obtain ⟨eL95L, eL95T, eL95R⟩ := hp94
                    have eL95L : L92 = L := eL95L
                    have eL95T : f93 = f85 := eL95T
                    rw [eL95L, eL95T] at hP hD
                    have eL95R : In r91 0 1 := eL95R
                    refine lv_istore (lv' := [(13, .int r91), (0, .ref (ad 255)), (1, .int z1), (2, .long z2), (4, .int z3), (5, .long v21_41), (7, .int y83_l7), (8, .int y83_l8), (9, .int y83_l9), (10, .int y83_l10), (11, .int y65_l11), (12, .int y83_l12)]) hx hb dX11_byChance_108 hl (by decide) rfl (fun ls hl => ?_)
                    refine lv_iload hx hb dX11_byChance_110 (lv_at hl 6 rfl) ?_
                    refine lv_iload hx hb dX11_byChance_112 (lv_at hl 0 rfl) ?_
                    have hJ122 : ∀ (y122_s0 : Int32) (H : Heap) (locs : List Loc) (ls : Array Slot), In y122_s0 0 1 → va_P g.1 vwCl (va_pl L f85) H → va_D A (va_pl L f85) → va_S A s.heap H locs → lv_has ls 14 [(0, .ref (ad 255)), (1, .int z1), (2, .long z2), (4, .int z3), (5, .long v21_41), (7, .int y83_l7), (8, .int y83_l8), (9, .int y83_l9), (10, .int y83_l10), (11, .int y65_l11), (12, .int y83_l12), (13, .int r91)] → W p l e rm_X11_byChance s m [.ref (ad 255), .int z1, .long z2, .int z3].toArray below meth c H locs 0 0 (MQ below (va_Qi (po_X11_byChance g ad th L f z1 z2 z3) (PstB g A) A) [.ref (ad 255), .int z1, .long z2, .int z3].toArray s rm_X11_byChance.cells rm_X11_byChance.slots A) (F0 m 122 ls [.int y122_s0, .int y83_l7]) := by
                      intro y122_s0 H locs ls hy122_s0 hP hD hS hl
                      refine lv_iadd hx hb dX11_byChance_122 ?_
                      refine lv_topi (fun x96 ex96 => ?_)
                      refine lv_istore (lv' := [(7, .int x96), (0, .ref (ad 255)), (1, .int z1), (2, .long z2), (4, .int z3), (5, .long v21_41), (8, .int y83_l8), (9, .int y83_l9), (10, .int y83_l10), (11, .int y65_l11), (12, .int y83_l12), (13, .int r91)]) hx hb dX11_byChance_123 hl (by decide) rfl (fun ls hl => ?_)
                      refine lv_iload hx hb dX11_byChance_125 (lv_at hl 6 rfl) ?_
                      refine lv_aload_n hx hb dX11_byChance_127 rfl (lv_at hl 1 rfl) ?_
                      refine pl_get (v := .int v37_89) hx hb hts (fun w h => mT (inX11 w h)) hown hG.1 hP (hst.1 255 (by decide)) hf90 rfl 37 (by decide) (hts _ (mT wg_1373)) (fun _ h => h) rfl dX11_byChance_128 ?_
                      refine lv_iadd hx hb dX11_byChance_131 ?_
                      refine lv_topi (fun x97 ex97 => ?_)
                      refine lv_istore (lv' := [(8, .int x97), (7, .int x96), (0, .ref (ad 255)), (1, .int z1), (2, .long z2), (4, .int z3), (5, .long v21_41), (9, .int y83_l9), (10, .int y83_l10), (11, .int y65_l11), (12, .int y83_l12), (13, .int r91)]) hx hb dX11_byChance_132 hl (by decide) rfl (fun ls hl => ?_)
                      refine lv_iload hx hb dX11_byChance_134 (lv_at hl 11 rfl) ?_
                      have hJ152 : ∀ (y152_s0 : Int32) (H : Heap) (locs : List Loc) (ls : Array Slot), In y152_s0 (-1) 2147483647 → va_P g.1 vwCl (va_pl L f85) H → va_D A (va_pl L f85) → va_S A s.heap H locs → lv_has ls 14 [(0, .ref (ad 255)), (1, .int z1), (2, .long z2), (4, .int z3), (5, .long v21_41), (7, .int x96), (8, .int x97), (9, .int y83_l9), (10, .int y83_l10), (11, .int y65_l11), (12, .int y83_l12), (13, .int r91)] → W p l e rm_X11_byChance s m [.ref (ad 255), .int z1, .long z2, .int z3].toArray below meth c H locs 0 0 (MQ below (va_Qi (po_X11_byChance g ad th L f z1 z2 z3) (PstB g A) A) [.ref (ad 255), .int z1, .long z2, .int z3].toArray s rm_X11_byChance.cells rm_X11_byChance.slots A) (F0 m 152 ls [.int y152_s0]) := by
                        intro y152_s0 H locs ls hy152_s0 hP hD hS hl
                        refine lv_istore (lv' := [(9, .int y152_s0), (0, .ref (ad 255)), (1, .int z1), (2, .long z2), (4, .int z3), (5, .long v21_41), (7, .int x96), (8, .int x97), (10, .int y83_l10), (11, .int y65_l11), (12, .int y83_l12), (13, .int r91)]) hx hb dX11_byChance_152 hl (by decide) rfl (fun ls hl => ?_)
                        refine lv_iload hx hb dX11_byChance_154 (lv_at hl 8 rfl) ?_
                        refine lv_iload hx hb dX11_byChance_156 (lv_at hl 11 rfl) ?_
                        have hJ177 : ∀ (y177_s0 : Int32) (H : Heap) (locs : List Loc) (ls : Array Slot), In y177_s0 0 1 → va_P g.1 vwCl (va_pl L f85) H → va_D A (va_pl L f85) → va_S A s.heap H locs → lv_has ls 14 [(0, .ref (ad 255)), (1, .int z1), (2, .long z2), (4, .int z3), (5, .long v21_41), (7, .int x96), (8, .int x97), (9, .int y152_s0), (10, .int y83_l10), (11, .int y65_l11), (12, .int y83_l12), (13, .int r91)] → W p l e rm_X11_byChance s m [.ref (ad 255), .int z1, .long z2, .int z3].toArray below meth c H locs 0 0 (MQ below (va_Qi (po_X11_byChance g ad th L f z1 z2 z3) (PstB g A) A) [.ref (ad 255), .int z1, .long z2, .int z3].toArray s rm_X11_byChance.cells rm_X11_byChance.slots A) (F0 m 177 ls [.int y177_s0, .int y83_l10]) := by
                          intro y177_s0 H locs ls hy177_s0 hP hD hS hl
                          refine lv_iadd hx hb dX11_byChance_177 ?_
                          refine lv_topi (fun x98 ex98 => ?_)
                          refine lv_istore (lv' := [(10, .int x98), (0, .ref (ad 255)), (1, .int z1), (2, .long z2), (4, .int z3), (5, .long v21_41), (7, .int x96), (8, .int x97), (9, .int y152_s0), (11, .int y65_l11), (12, .int y83_l12), (13, .int r91)]) hx hb dX11_byChance_178 hl (by decide) rfl (fun ls hl => ?_)
                          obtain ⟨x99, ex99⟩ : ∃ y : Int32, y = y83_l12 + 1 := ⟨_, rfl⟩
                          have hb100 : In x99 1 200 := ex99 ▸ In.add hb76 (⟨by decide, by decide⟩ : In 1 1 1) (by decide) (by decide) (by decide) (by decide)
                          have et101 : x99.toInt = y83_l12.toInt + 1 := In.adde ex99 hb76 (k := 1) (by decide) (by decide) (by decide)
                          refine lv_iinc (v := x99) (lv' := [(12, .int x99), (10, .int x98), (0, .ref (ad 255)), (1, .int z1), (2, .long z2), (4, .int z3), (5, .long v21_41), (7, .int x96), (8, .int x97), (9, .int y152_s0), (11, .int y65_l11), (13, .int r91)]) hx hb dX11_byChance_180 hl (k := 10) rfl (by rw [ex99]; rfl) (by decide) rfl (fun ls hl => ?_)
                          refine lv_goto (tgt := 83) hx hb dX11_byChance_183 (by decide) ?_
                          exact ih83 zz88 x96 x97 y152_s0 x98 x99 _ _ _ _ (In.full x96) (In.full x97) hy152_s0 (In.full x98) (In.mono hb100 (by decide) (by decide)) hP hD hS (TI.cast hT (by funext q; by_cases hq0 : q = 18; (subst hq0; rfl); by_cases hq1 : q = 44; (subst hq1; rfl); by_cases hq2 : q = 14; (subst hq2; rfl); simp only [gset, if_neg hq0, if_neg hq1, if_neg hq2])) hfr (lv_sub hl [2, 3, 4, 5, 6, 7, 8, 9, 1, 10, 0] rfl) (msu et101 (by decide) hmz83)
                        have hJ176 : ∀ (H : Heap) (locs : List Loc) (ls : Array Slot), va_P g.1 vwCl (va_pl L f85) H → va_D A (va_pl L f85) → va_S A s.heap H locs → lv_has ls 14 [(0, .ref (ad 255)), (1, .int z1), (2, .long z2), (4, .int z3), (5, .long v21_41), (7, .int x96), (8, .int x97), (9, .int y152_s0), (10, .int y83_l10), (11, .int y65_l11), (12, .int y83_l12), (13, .int r91)] → W p l e rm_X11_byChance s m [.ref (ad 255), .int z1, .long z2, .int z3].toArray below meth c H locs 0 0 (MQ below (va_Qi (po_X11_byChance g ad th L f z1 z2 z3) (PstB g A) A) [.ref (ad 255), .int z1, .long z2, .int z3].toArray s rm_X11_byChance.cells rm_X11_byChance.slots A) (F0 m 176 ls [.int y83_l10]) := by
                          intro H locs ls hP hD hS hl
                          refine lv_iconst (v := 0) hx hb dX11_byChance_176 (by decide) ?_
                          exact hJ177 0 _ _ _ (⟨by decide, by decide⟩ : In 0 0 1) hP hD hS (lv_sub hl [0, 1, 2, 3, 4, 5, 6, 7, 8, 9, 10, 11] rfl)
                        refine lv_if_eq (tgt := 176) hx hb dX11_byChance_158 (by decide) (fun c102 => ?_) (fun c102 => ?_)
                        ·
                          have oc0 : (0 : Int32).toInt = 0 := by decide
                          have cc103 : r91.toInt = (0 : Int32).toInt := congrArg Int32.toInt c102
                          have hb104 : In r91 0 0 := In.eq1 eL95R (⟨by decide, by decide⟩ : In 0 0 0) cc103 (by decide) (by decide)
                          exact hJ176 _ _ _ hP hD hS (lv_sub hl [1, 2, 3, 4, 5, 6, 7, 0, 8, 9, 10, 11] rfl)
                        ·
                          have oc0 : (0 : Int32).toInt = 0 := by decide
                          have cc105 : r91.toInt ≠ (0 : Int32).toInt := i32_ne c102
                          have hb106 : In r91 1 1 := In.ne1 eL95R (⟨by decide, by decide⟩ : In 0 0 0) cc105 (by decide) (by decide)
                          refine lv_aload_n hx hb dX11_byChance_161 rfl (lv_at hl 1 rfl) ?_
                          refine pl_get (v := .ref (ad 261)) hx hb hts (fun w h => mT (inX11 w h)) hown hG.1 hP (hst.1 255 (by decide)) hf90 rfl 26 (by decide) (hts _ (mT wg_1362)) (fun _ h => h) rfl dX11_byChance_162 ?_
                          refine lv_iload hx hb dX11_byChance_165 (lv_at hl 9 rfl) ?_
                          obtain ⟨rw107, hf108⟩ := hT.2.2 6 (by decide)
                          have hin109 : vp_in y65_l11 9 := In.inb hy65_l11 (by decide) (by decide)
                          refine pl_iald hx hb hG.1 hP (hst.1 261 (by decide)) 0 hf108 rfl hin109 dX11_byChance_167 ?_
                          refine lv_topi (fun x110 ex110 => ?_)
                          refine lv_iconst (v := 1) hx hb dX11_byChance_168 (by decide) ?_
                          refine lv_icmp_ne (tgt := 176) hx hb dX11_byChance_169 (by decide) (fun c111 => ?_) (fun c111 => ?_)
                          ·
                            have oc1 : (1 : Int32).toInt = 1 := by decide
                            have cc112 : x110.toInt ≠ (1 : Int32).toInt := i32_ne c111
                            exact hJ176 _ _ _ hP hD hS (lv_sub hl [1, 2, 3, 4, 5, 6, 7, 0, 8, 9, 10, 11] rfl)
                          ·
                            have oc1 : (1 : Int32).toInt = 1 := by decide
                            have cc113 : x110.toInt = (1 : Int32).toInt := congrArg Int32.toInt c111
                            have hb114 : In x110 1 1 := In.eq1 (In.full x110) (⟨by decide, by decide⟩ : In 1 1 1) cc113 (by decide) (by decide)
                            refine lv_iconst (v := 1) hx hb dX11_byChance_172 (by decide) ?_
                            refine lv_goto (tgt := 177) hx hb dX11_byChance_173 (by decide) ?_
                            exact hJ177 1 _ _ _ (⟨by decide, by decide⟩ : In 1 0 1) hP hD hS (lv_sub hl [1, 2, 3, 4, 5, 6, 7, 0, 8, 9, 10, 11] rfl)
                      have hJ150 : ∀ (H : Heap) (locs : List Loc) (ls : Array Slot), va_P g.1 vwCl (va_pl L f85) H → va_D A (va_pl L f85) → va_S A s.heap H locs → lv_has ls 14 [(0, .ref (ad 255)), (1, .int z1), (2, .long z2), (4, .int z3), (5, .long v21_41), (7, .int x96), (8, .int x97), (9, .int y83_l9), (10, .int y83_l10), (11, .int y65_l11), (12, .int y83_l12), (13, .int r91)] → W p l e rm_X11_byChance s m [.ref (ad 255), .int z1, .long z2, .int z3].toArray below meth c H locs 0 0 (MQ below (va_Qi (po_X11_byChance g ad th L f z1 z2 z3) (PstB g A) A) [.ref (ad 255), .int z1, .long z2, .int z3].toArray s rm_X11_byChance.cells rm_X11_byChance.slots A) (F0 m 150 ls []) := by
                        intro H locs ls hP hD hS hl
                        refine lv_iload hx hb dX11_byChance_150 (lv_at hl 7 rfl) ?_
                        exact hJ152 y83_l9 _ _ _ hy83_l9 hP hD hS (lv_sub hl [0, 1, 2, 3, 4, 5, 6, 7, 8, 9, 10, 11] rfl)
                      refine lv_if_ne (tgt := 150) hx hb dX11_byChance_136 (by decide) (fun c115 => ?_) (fun c115 => ?_)
                      ·
                        have oc0 : (0 : Int32).toInt = 0 := by decide
                        have cc116 : r91.toInt ≠ (0 : Int32).toInt := i32_ne c115
                        have hb117 : In r91 1 1 := In.ne1 eL95R (⟨by decide, by decide⟩ : In 0 0 0) cc116 (by decide) (by decide)
                        exact hJ150 _ _ _ hP hD hS (lv_sub hl [2, 3, 4, 5, 6, 1, 0, 7, 8, 9, 10, 11] rfl)
                      ·
                        have oc0 : (0 : Int32).toInt = 0 := by decide
                        have cc118 : r91.toInt = (0 : Int32).toInt := congrArg Int32.toInt c115
                        have hb119 : In r91 0 0 := In.eq1 eL95R (⟨by decide, by decide⟩ : In 0 0 0) cc118 (by decide) (by decide)
                        refine lv_iload hx hb dX11_byChance_139 (lv_at hl 7 rfl) ?_
                        refine lv_iconst (v := (-1)) hx hb dX11_byChance_141 (by decide) ?_
                        refine lv_icmp_ne (tgt := 150) hx hb dX11_byChance_142 (by decide) (fun c120 => ?_) (fun c120 => ?_)
                        ·
                          have ocm1 : ((-1) : Int32).toInt = (-1) := by decide
                          have cc121 : y83_l9.toInt ≠ ((-1) : Int32).toInt := i32_ne c120
                          have hb122 : In y83_l9 0 2147483647 := In.ne1 hy83_l9 (⟨by decide, by decide⟩ : In (-1) (-1) (-1)) cc121 (by decide) (by decide)
                          exact hJ150 _ _ _ hP hD hS (lv_sub hl [2, 3, 4, 5, 6, 1, 0, 7, 8, 9, 10, 11] rfl)
                        ·
                          have ocm1 : ((-1) : Int32).toInt = (-1) := by decide
                          have cc123 : y83_l9.toInt = ((-1) : Int32).toInt := congrArg Int32.toInt c120
                          have hb124 : In y83_l9 (-1) (-1) := In.eq1 hy83_l9 (⟨by decide, by decide⟩ : In (-1) (-1) (-1)) cc123 (by decide) (by decide)
                          refine lv_iload hx hb dX11_byChance_145 (lv_at hl 10 rfl) ?_
                          refine lv_goto (tgt := 152) hx hb dX11_byChance_147 (by decide) ?_
                          exact hJ152 y83_l12 _ _ _ (In.mono hb76 (by decide) (by decide)) hP hD hS (lv_sub hl [2, 3, 4, 5, 6, 1, 0, 7, 8, 9, 10, 11] rfl)
                    refine lv_if_eq (tgt := 121) hx hb dX11_byChance_114 (by decide) (fun c125 => ?_) (fun c125 => ?_)
                    ·
                      have oc0 : (0 : Int32).toInt = 0 := by decide
                      have cc126 : r91.toInt = (0 : Int32).toInt := congrArg Int32.toInt c125
                      have hb127 : In r91 0 0 := In.eq1 eL95R (⟨by decide, by decide⟩ : In 0 0 0) cc126 (by decide) (by decide)
                      refine lv_iconst (v := 0) hx hb dX11_byChance_121 (by decide) ?_
                      exact hJ122 0 _ _ _ (⟨by decide, by decide⟩ : In 0 0 1) hP hD hS (lv_sub hl [1, 2, 3, 4, 5, 6, 7, 8, 9, 10, 11, 0] rfl)
                    ·
                      have oc0 : (0 : Int32).toInt = 0 := by decide
                      have cc128 : r91.toInt ≠ (0 : Int32).toInt := i32_ne c125
                      have hb129 : In r91 1 1 := In.ne1 eL95R (⟨by decide, by decide⟩ : In 0 0 0) cc128 (by decide) (by decide)
                      refine lv_iconst (v := 1) hx hb dX11_byChance_117 (by decide) ?_
                      refine lv_goto (tgt := 122) hx hb dX11_byChance_118 (by decide) ?_
                      exact hJ122 1 _ _ _ (⟨by decide, by decide⟩ : In 1 0 1) hP hD hS (lv_sub hl [1, 2, 3, 4, 5, 6, 7, 8, 9, 10, 11, 0] rfl)
              exact hJ83 ((2147483647 - (0 : Int32).toInt).toNat + 1) zz38 0 0 (-1) 0 0 _ _ _ _ (⟨by decide, by decide⟩ : In 0 (-2147483648) 2147483647) (⟨by decide, by decide⟩ : In 0 (-2147483648) 2147483647) (⟨by decide, by decide⟩ : In (-1) (-1) 2147483647) (⟨by decide, by decide⟩ : In 0 (-2147483648) 2147483647) (⟨by decide, by decide⟩ : In 0 0 2147483647) hP hD hS (TI.cast hT (by funext q; by_cases hq0 : q = 44; (subst hq0; rfl); by_cases hq1 : q = 14; (subst hq1; rfl); by_cases hq2 : q = 18; (subst hq2; rfl); simp only [gset, if_neg hq0, if_neg hq1, if_neg hq2])) hfr (lv_sub hl [1, 2, 3, 4, 5, 6, 7, 8, 9, 10, 0] rfl) (msI _)
            ·
              have oc0 : (0 : Int32).toInt = 0 := by decide
              have cc130 : r43.toInt ≠ (0 : Int32).toInt := i32_ne c49
              have hb131 : In r43 1 1 := In.ne1 eL47R (⟨by decide, by decide⟩ : In 0 0 0) cc130 (by decide) (by decide)
              have hfs := fz_step h14.1 (hy65_l11).1 hxi65_0 (by have ob10 : (0 : Int) ≤ (th 10) ∧ (th 10) ≤ 1 := (b0_10 hT :); have ob11 : (0 : Int) ≤ (th 11) ∧ (th 11) ≤ 9 := (b0_11 hT :); have ob12 : (0 : Int) ≤ (th 12) ∧ (th 12) ≤ 6 := (b0_12 hT :); have ob14 : (0 : Int) ≤ zz39 ∧ zz39 ≤ 511 := (b0_14 hT :); have ob15 : (0 : Int) ≤ (th 15) ∧ (th 15) ≤ 1 := (b0_15 hT :); have ob16 : (0 : Int) ≤ (th 16) ∧ (th 16) ≤ 20 := (b0_16 hT :); have ob17 : (0 : Int) ≤ (th 17) ∧ (th 17) ≤ 1 := (b0_17 hT :); have ob18 : (0 : Int) ≤ zz38 ∧ zz38 ≤ 18 := (b0_18 hT :); have ob38 : (0 : Int) ≤ (th 38) ∧ (th 38) ≤ 400 := (b0_38 hT :); have ob39 : (0 : Int) ≤ (th 39) ∧ (th 39) ≤ 200 := (b0_39 hT :); have ob44 : (0 : Int) ≤ zz40 ∧ zz40 ≤ 30 := (b0_44 hT :); have orn := rnd_b (th 10); obtain ⟨o0a, o0b⟩ := (hb131 : In _ _ _); obtain ⟨o1a, o1b⟩ := (hv14_41 : In _ _ _); obtain ⟨o2a, o2b⟩ := (hv15_41 : In _ _ _); obtain ⟨o3a, o3b⟩ := (hv17_41 : In _ _ _); obtain ⟨o4a, o4b⟩ := (hv20_41 : In _ _ _); obtain ⟨o5a, o5b⟩ := (hv23_41 : In _ _ _); obtain ⟨o6a, o6b⟩ := (hv25_41 : In _ _ _); obtain ⟨o7a, o7b⟩ := (hv36_41 : In _ _ _); obtain ⟨o8a, o8b⟩ := (hv47_41 : In _ _ _); obtain ⟨o9a, o9b⟩ := (hv48_41 : In _ _ _); obtain ⟨o10a, o10b⟩ := (hv53_41 : In _ _ _); obtain ⟨o11a, o11b⟩ := (hv55_41 : In _ _ _); omega)
              obtain ⟨x132, ex132⟩ : ∃ y : Int32, y = y65_l11 + 1 := ⟨_, rfl⟩
              have hb133 : In x132 1 9 := ex132 ▸ In.add hy65_l11 (⟨by decide, by decide⟩ : In 1 1 1) (by decide) (by decide) (by decide) (by decide)
              have et134 : x132.toInt = y65_l11.toInt + 1 := In.adde ex132 hy65_l11 (k := 1) (by decide) (by decide) (by decide)
              refine lv_iinc (v := x132) (lv' := [(11, .int x132), (0, .ref (ad 255)), (1, .int z1), (2, .long z2), (4, .int z3), (5, .long v21_41), (7, .int 0), (8, .int 0), (9, .int (-1)), (10, .int 0)]) hx hb dX11_byChance_74 hl (k := 9) rfl (by rw [ex132]; rfl) (by decide) rfl (fun ls hl => ?_)
              refine lv_goto (tgt := 65) hx hb dX11_byChance_77 (by decide) ?_
              exact ih65 x132 _ _ _ (In.mk (by have ob10 : (0 : Int) ≤ (th 10) ∧ (th 10) ≤ 1 := (b0_10 hT :); have ob11 : (0 : Int) ≤ (th 11) ∧ (th 11) ≤ 9 := (b0_11 hT :); have ob12 : (0 : Int) ≤ (th 12) ∧ (th 12) ≤ 6 := (b0_12 hT :); have ob14 : (0 : Int) ≤ zz39 ∧ zz39 ≤ 511 := (b0_14 hT :); have ob15 : (0 : Int) ≤ (th 15) ∧ (th 15) ≤ 1 := (b0_15 hT :); have ob16 : (0 : Int) ≤ (th 16) ∧ (th 16) ≤ 20 := (b0_16 hT :); have ob17 : (0 : Int) ≤ (th 17) ∧ (th 17) ≤ 1 := (b0_17 hT :); have ob18 : (0 : Int) ≤ zz38 ∧ zz38 ≤ 18 := (b0_18 hT :); have ob38 : (0 : Int) ≤ (th 38) ∧ (th 38) ≤ 400 := (b0_38 hT :); have ob39 : (0 : Int) ≤ (th 39) ∧ (th 39) ≤ 200 := (b0_39 hT :); have ob44 : (0 : Int) ≤ zz40 ∧ zz40 ≤ 30 := (b0_44 hT :); have orn := rnd_b (th 10); obtain ⟨o0a, o0b⟩ := (hb133 : In _ _ _); obtain ⟨o1a, o1b⟩ := (hv14_41 : In _ _ _); obtain ⟨o2a, o2b⟩ := (hv15_41 : In _ _ _); obtain ⟨o3a, o3b⟩ := (hv17_41 : In _ _ _); obtain ⟨o4a, o4b⟩ := (hv20_41 : In _ _ _); obtain ⟨o5a, o5b⟩ := (hv23_41 : In _ _ _); obtain ⟨o6a, o6b⟩ := (hv25_41 : In _ _ _); obtain ⟨o7a, o7b⟩ := (hv36_41 : In _ _ _); obtain ⟨o8a, o8b⟩ := (hv47_41 : In _ _ _); obtain ⟨o9a, o9b⟩ := (hv48_41 : In _ _ _); obtain ⟨o10a, o10b⟩ := (hv53_41 : In _ _ _); obtain ⟨o11a, o11b⟩ := (hv55_41 : In _ _ _); obtain ⟨o12a, o12b⟩ := (hy65_l11 : In _ _ _); omega) (by have ob10 : (0 : Int) ≤ (th 10) ∧ (th 10) ≤ 1 := (b0_10 hT :); have ob11 : (0 : Int) ≤ (th 11) ∧ (th 11) ≤ 9 := (b0_11 hT :); have ob12 : (0 : Int) ≤ (th 12) ∧ (th 12) ≤ 6 := (b0_12 hT :); have ob14 : (0 : Int) ≤ zz39 ∧ zz39 ≤ 511 := (b0_14 hT :); have ob15 : (0 : Int) ≤ (th 15) ∧ (th 15) ≤ 1 := (b0_15 hT :); have ob16 : (0 : Int) ≤ (th 16) ∧ (th 16) ≤ 20 := (b0_16 hT :); have ob17 : (0 : Int) ≤ (th 17) ∧ (th 17) ≤ 1 := (b0_17 hT :); have ob18 : (0 : Int) ≤ zz38 ∧ zz38 ≤ 18 := (b0_18 hT :); have ob38 : (0 : Int) ≤ (th 38) ∧ (th 38) ≤ 400 := (b0_38 hT :); have ob39 : (0 : Int) ≤ (th 39) ∧ (th 39) ≤ 200 := (b0_39 hT :); have ob44 : (0 : Int) ≤ zz40 ∧ zz40 ≤ 30 := (b0_44 hT :); have orn := rnd_b (th 10); obtain ⟨o0a, o0b⟩ := (hb133 : In _ _ _); obtain ⟨o1a, o1b⟩ := (hv14_41 : In _ _ _); obtain ⟨o2a, o2b⟩ := (hv15_41 : In _ _ _); obtain ⟨o3a, o3b⟩ := (hv17_41 : In _ _ _); obtain ⟨o4a, o4b⟩ := (hv20_41 : In _ _ _); obtain ⟨o5a, o5b⟩ := (hv23_41 : In _ _ _); obtain ⟨o6a, o6b⟩ := (hv25_41 : In _ _ _); obtain ⟨o7a, o7b⟩ := (hv36_41 : In _ _ _); obtain ⟨o8a, o8b⟩ := (hv47_41 : In _ _ _); obtain ⟨o9a, o9b⟩ := (hv48_41 : In _ _ _); obtain ⟨o10a, o10b⟩ := (hv53_41 : In _ _ _); obtain ⟨o11a, o11b⟩ := (hv55_41 : In _ _ _); obtain ⟨o12a, o12b⟩ := (hy65_l11 : In _ _ _); omega)) hP hD hS (by omega) (lv_sub hl [1, 2, 3, 4, 5, 6, 7, 8, 9, 0] rfl) (msu et134 (by decide) hmz65)
        exact hJ65 ((8 - (0 : Int32).toInt).toNat + 1) 0 _ _ _ (⟨by decide, by decide⟩ : In 0 0 8) hP hD hS hfz.1 (lv_sub hl [6, 7, 8, 9, 5, 4, 3, 2, 1, 0] rfl) (msI _)
      ·
        have oc0 : (0 : Int32).toInt = 0 := by decide
        have cc135 : r23.toInt = (0 : Int32).toInt := congrArg Int32.toInt c29
        have hb136 : In r23 0 0 := In.eq1 eL27R (⟨by decide, by decide⟩ : In 0 0 0) cc135 (by decide) (by decide)
        exact hJ37 _ _ _ hP hD hS (lv_sub hl [0, 1, 2, 3] rfl)

abbrev rm_X11_greatest : Room := { frames := 1, cells := 0, slots := 0, locals := 25 }
abbrev po_X11_greatest (g : GG) (ad : Nat → Nat) (th : Nat → Int) (L : List Nat) (f : HP) (z1 : Int32) (z2 : Int32) : Int32 → (List Nat × HP) → Prop := fun r u => u.1 = L ∧ TI g ad th u.2 ∧ (∀ b, b ≠ (ad 255) → u.2 b = f b) ∧ r = GB z1 z2
set_option maxHeartbeats 4000000 in
set_option maxRecDepth 100000 in
theorem s_X11_greatest (l : Launch) (g : GG) (ad : Nat → Nat) (th : Nat → Int) (L : List Nat) (f : HP) (sz : Nat) (z1 : Int32) (z2 : Int32) (hst : ST ad L) (hT : TI g ad th f)  : MtI l g yX11_greatest cX11_greatest 3 (some .int) rm_X11_greatest [.ref (ad 255), .int z1, .int z2] L f sz (po_X11_greatest g ad th L f z1 z2) := by
  refine MtI.of (by decide +kernel) (Nat.le_of_ble_eq_true rfl) ?_
  intro p e s m below meth c A hEn hP hD hS ls hl
  obtain ⟨hx, hb, hr, hml, hown, hlocks, hts, hG, hA, hE, hnm⟩ := hEn
  have hown : s.vm.findClass "RulerWordModel" = some m.cls := hown
  have hl : lv_has ls 3 [(0, .ref (ad 255)), (1, .int z1), (2, .int z2)] := hl
  have hfr : (∀ b, b ≠ (ad 255) → f b = f b) := fun b z0_ => rfl
  refine lv_aload_n hx hb dX11_greatest_0 rfl (lv_at hl 0 rfl) ?_
  refine lv_iconst (v := 0) hx hb dX11_greatest_1 (by decide) ?_
  refine M0e hT (fun v0_1 v2_1 v3_1 v4_1 v5_1 v6_1 v8_1 v9_1 v12_1 v13_1 v14_1 v15_1 v16_1 v17_1 v18_1 v19_1 v20_1 v21_1 v22_1 v23_1 v25_1 v36_1 v37_1 v38_1 v39_1 v40_1 v45_1 v46_1 v47_1 v48_1 v50_1 v51_1 v53_1 v55_1 hf2 hv0_1 hv2_1 hg2_1 hv3_1 hg3_1 hv4_1 hg4_1 hv5_1 hg5_1 hv6_1 hg6_1 hv8_1 hg8_1 hv9_1 hg9_1 hv12_1 hv13_1 hg13_1 hv14_1 hg14_1 hv15_1 hg15_1 hv17_1 hg17_1 hv20_1 hg20_1 hv23_1 hg23_1 hv25_1 hg25_1 hv36_1 hg36_1 hv47_1 hg47_1 hv48_1 hg48_1 hv53_1 hg53_1 hv55_1 hg55_1 hrel0_1 => ?_)
  have hg15_1 : v15_1.toInt = th 11 := hg15_1
  have hg17_1 : v17_1.toInt = th 12 := hg17_1
  have hg20_1 : v20_1.toInt = th 14 := hg20_1
  refine pl_put (ty := .int) (v := .int 0) (fs' := [.int 0, .ref (ad 256), .int v2_1, .int v3_1, .int v4_1, .int v5_1, .int v6_1, .ref (ad 257), .int v8_1, .int v9_1, .ref (ad 258), .ref (ad 259), .int v12_1, .int v13_1, .int v14_1, .int v15_1, .int v16_1, .int v17_1, .int v18_1, .int v19_1, .int v20_1, .long v21_1, .long v22_1, .int v23_1, .ref (ad 260), .int v25_1, .ref (ad 261), .ref (ad 262), .ref (ad 263), .ref (ad 264), .ref (ad 265), .ref (ad 266), .ref (ad 267), .ref (ad 268), .ref (ad 269), .ref (ad 270), .int v36_1, .int v37_1, .int v38_1, .int v39_1, .int v40_1, .ref (ad 271), .ref (ad 272), .ref (ad 273), .ref (ad 274), .long v45_1, .long v46_1, .int v47_1, .int v48_1, .ref (ad 275), .int v50_1, .int v51_1, .ref (ad 276), .int v53_1, .ref (ad 277), .int v55_1]) hx hb hts (fun w h => mT (inX11 w h)) tyX11 tyX11_ok nmX11 hown hG.1 hP hD hS (hst.1 255 (by decide)) hf2 rfl 0 (by decide) (hts _ (mT wg_1336)) (fun _ h => h) rfl (by decide +kernel) (rfl) (rfl) (Nat.le_of_ble_eq_true rfl) rfl dX11_greatest_2 (fun H locs f3 hf4 ho5 hP hD hS => ?_)
  have hfr : (∀ b, b ≠ (ad 255) → f3 b = f b) := fun b z0_ => (ho5 b z0_).trans (hfr b z0_)
  refine lv_iload_n hx hb dX11_greatest_5 rfl (lv_at hl 1 rfl) ?_
  refine lv_i2l hx hb dX11_greatest_6 rfl ?_
  refine lv_lconst (v := 0) hx hb dX11_greatest_7 (by decide) ?_
  refine lv_lconst (v := 1) hx hb dX11_greatest_8 (by decide) ?_
  have hT := TI.updM hT hst (k := 0) (by decide) hf4 ho5 ⟨0, v2_1, v3_1, v4_1, v5_1, v6_1, v8_1, v9_1, v12_1, v13_1, v14_1, v15_1, v16_1, v17_1, v18_1, v19_1, v20_1, v21_1, v22_1, v23_1, v25_1, v36_1, v37_1, v38_1, v39_1, v40_1, v45_1, v46_1, v47_1, v48_1, v50_1, v51_1, v53_1, v55_1, rfl, (⟨by decide, by decide⟩ : In 0 0 1), hv2_1, hg2_1, hv3_1, hg3_1, hv4_1, hg4_1, hv5_1, hg5_1, hv6_1, hg6_1, hv8_1, hg8_1, hv9_1, hg9_1, hv12_1, hv13_1, hg13_1, hv14_1, hg14_1, hv15_1, hg15_1, hv17_1, hg17_1, hv20_1, hg20_1, hv23_1, hg23_1, hv25_1, hg25_1, hv36_1, hg36_1, hv47_1, hg47_1, hv48_1, hg48_1, hv53_1, hg53_1, hv55_1, hg55_1, hrel0_1⟩
  refine call_i (run_S (rm := rm_X11_isIn) hx hb hml hown hts (s_X11_isIn l g ad th _ _ _ (z1.toInt64) 0 1 hst hT ) cS_X11_isIn wg_1581 ⟨Nat.le_of_ble_eq_true rfl, Nat.le_of_ble_eq_true rfl⟩ hG hE hA hP hD hS rfl hl.1 (As := [.long (z1.toInt64), .long 0, .long 1]) (rest := []) rfl (Nat.le_of_ble_eq_true rfl) dX11_greatest_9 ⟨Nat.le_of_ble_eq_true rfl, Nat.le_of_ble_eq_true rfl⟩) hA hD hS (fun r6 L7 f8 H locs hp9 hP hD hS => ?_)
  obtain ⟨eL10L, eL10T, eL10R, eL10X0, eL10X1⟩ := hp9
  have eL10L : L7 = L := eL10L
  have eL10T : f8 = f3 := eL10T
  rw [eL10L, eL10T] at hP hD
  have eL10R : In r6 0 1 := eL10R
  have hii11 : r6.toInt = 0 ∨ (0 ≤ z1.toInt ∧ z1.toInt ≤ 1) := by have z := eL10X0; rw [i2l_t z1, (by decide : (0 : Int64).toInt = 0), (by decide : (1 : Int64).toInt = 1)] at z; exact z
  have hii11w : ¬ r6 = 0 → In z1 0 1 := fun c => by have c2 := i32_ne c; have e0 : (0 : Int32).toInt = 0 := (by decide); exact ⟨by omega, by omega⟩
  have hi012 : r6.toInt = 0 → ¬ (0 ≤ z1.toInt ∧ z1.toInt ≤ 1) := by have z := eL10X1; rw [i2l_t z1, (by decide : (0 : Int64).toInt = 0), (by decide : (1 : Int64).toInt = 1)] at z; exact z
  refine lv_if_eq (tgt := 43) hx hb dX11_greatest_12 (by decide) (fun c13 => ?_) (fun c13 => ?_)
  ·
    have oc0 : (0 : Int32).toInt = 0 := by decide
    have cc14 : r6.toInt = (0 : Int32).toInt := congrArg Int32.toInt c13
    have hb15 : In r6 0 0 := In.eq1 eL10R (⟨by decide, by decide⟩ : In 0 0 0) cc14 (by decide) (by decide)
    refine lv_iconst (v := (-1)) hx hb dX11_greatest_43 (by decide) ?_
    exact ret_i (ty := .int) hx hb hr hlocks (rfl) hP hD hS (Nat.le_of_ble_eq_true rfl) (Nat.le_of_ble_eq_true rfl) (⟨rfl, hT, hfr, (by unfold GB; rw [if_neg (by have ob10 : (0 : Int) ≤ (th 10) ∧ (th 10) ≤ 1 := (b0_10 hT :); have ob11 : (0 : Int) ≤ (th 11) ∧ (th 11) ≤ 9 := (b0_11 hT :); have ob12 : (0 : Int) ≤ (th 12) ∧ (th 12) ≤ 6 := (b0_12 hT :); have ob14 : (0 : Int) ≤ (th 14) ∧ (th 14) ≤ 511 := (b0_14 hT :); have ob15 : (0 : Int) ≤ (th 15) ∧ (th 15) ≤ 1 := (b0_15 hT :); have ob16 : (0 : Int) ≤ (th 16) ∧ (th 16) ≤ 20 := (b0_16 hT :); have ob17 : (0 : Int) ≤ (th 17) ∧ (th 17) ≤ 1 := (b0_17 hT :); have ob18 : (0 : Int) ≤ (th 18) ∧ (th 18) ≤ 18 := (b0_18 hT :); have ob38 : (0 : Int) ≤ (th 38) ∧ (th 38) ≤ 400 := (b0_38 hT :); have ob39 : (0 : Int) ≤ (th 39) ∧ (th 39) ≤ 200 := (b0_39 hT :); have ob44 : (0 : Int) ≤ (th 44) ∧ (th 44) ≤ 30 := (b0_44 hT :); have orn := rnd_b (th 10); obtain ⟨o2a, o2b⟩ := (hv14_1 : In _ _ _); obtain ⟨o3a, o3b⟩ := (hv15_1 : In _ _ _); obtain ⟨o4a, o4b⟩ := (hv17_1 : In _ _ _); obtain ⟨o5a, o5b⟩ := (hv20_1 : In _ _ _); obtain ⟨o6a, o6b⟩ := (hv23_1 : In _ _ _); obtain ⟨o7a, o7b⟩ := (hv25_1 : In _ _ _); obtain ⟨o8a, o8b⟩ := (hv36_1 : In _ _ _); obtain ⟨o9a, o9b⟩ := (hv47_1 : In _ _ _); obtain ⟨o10a, o10b⟩ := (hv48_1 : In _ _ _); obtain ⟨o11a, o11b⟩ := (hv53_1 : In _ _ _); obtain ⟨o12a, o12b⟩ := (hv55_1 : In _ _ _); omega)])⟩) dX11_greatest_44
  ·
    have oc0 : (0 : Int32).toInt = 0 := by decide
    have cc16 : r6.toInt ≠ (0 : Int32).toInt := i32_ne c13
    have hb17 : In r6 1 1 := In.ne1 eL10R (⟨by decide, by decide⟩ : In 0 0 0) cc16 (by decide) (by decide)
    have hb18 : In z1 0 1 := In.both (hii11w c13) (In.full z1) (by decide) (by decide)
    refine lv_iload_n hx hb dX11_greatest_15 rfl (lv_at hl 2 rfl) ?_
    refine lv_i2l hx hb dX11_greatest_16 rfl ?_
    refine lv_lconst (v := 1) hx hb dX11_greatest_17 (by decide) ?_
    refine lv_ldc2 hx hb hown (hts _ (mT wg_1818)) dX11_greatest_18 ?_
    refine call_i (run_S (rm := rm_X11_isIn) hx hb hml hown hts (s_X11_isIn l g ad th _ _ _ (z2.toInt64) 1 100 hst hT ) cS_X11_isIn wg_1581 ⟨Nat.le_of_ble_eq_true rfl, Nat.le_of_ble_eq_true rfl⟩ hG hE hA hP hD hS rfl hl.1 (As := [.long (z2.toInt64), .long 1, .long 100]) (rest := []) rfl (Nat.le_of_ble_eq_true rfl) dX11_greatest_21 ⟨Nat.le_of_ble_eq_true rfl, Nat.le_of_ble_eq_true rfl⟩) hA hD hS (fun r19 L20 f21 H locs hp22 hP hD hS => ?_)
    obtain ⟨eL23L, eL23T, eL23R, eL23X0, eL23X1⟩ := hp22
    have eL23L : L20 = L := eL23L
    have eL23T : f21 = f3 := eL23T
    rw [eL23L, eL23T] at hP hD
    have eL23R : In r19 0 1 := eL23R
    have hii24 : r19.toInt = 0 ∨ (1 ≤ z2.toInt ∧ z2.toInt ≤ 100) := by have z := eL23X0; rw [i2l_t z2, (by decide : (1 : Int64).toInt = 1), (by decide : (100 : Int64).toInt = 100)] at z; exact z
    have hii24w : ¬ r19 = 0 → In z2 1 100 := fun c => by have c2 := i32_ne c; have e0 : (0 : Int32).toInt = 0 := (by decide); exact ⟨by omega, by omega⟩
    have hi025 : r19.toInt = 0 → ¬ (1 ≤ z2.toInt ∧ z2.toInt ≤ 100) := by have z := eL23X1; rw [i2l_t z2, (by decide : (1 : Int64).toInt = 1), (by decide : (100 : Int64).toInt = 100)] at z; exact z
    refine lv_if_eq (tgt := 43) hx hb dX11_greatest_24 (by decide) (fun c26 => ?_) (fun c26 => ?_)
    ·
      have oc0 : (0 : Int32).toInt = 0 := by decide
      have cc27 : r19.toInt = (0 : Int32).toInt := congrArg Int32.toInt c26
      have hb28 : In r19 0 0 := In.eq1 eL23R (⟨by decide, by decide⟩ : In 0 0 0) cc27 (by decide) (by decide)
      refine lv_iconst (v := (-1)) hx hb dX11_greatest_43 (by decide) ?_
      exact ret_i (ty := .int) hx hb hr hlocks (rfl) hP hD hS (Nat.le_of_ble_eq_true rfl) (Nat.le_of_ble_eq_true rfl) (⟨rfl, hT, hfr, (by unfold GB; rw [if_neg (by have ob10 : (0 : Int) ≤ (th 10) ∧ (th 10) ≤ 1 := (b0_10 hT :); have ob11 : (0 : Int) ≤ (th 11) ∧ (th 11) ≤ 9 := (b0_11 hT :); have ob12 : (0 : Int) ≤ (th 12) ∧ (th 12) ≤ 6 := (b0_12 hT :); have ob14 : (0 : Int) ≤ (th 14) ∧ (th 14) ≤ 511 := (b0_14 hT :); have ob15 : (0 : Int) ≤ (th 15) ∧ (th 15) ≤ 1 := (b0_15 hT :); have ob16 : (0 : Int) ≤ (th 16) ∧ (th 16) ≤ 20 := (b0_16 hT :); have ob17 : (0 : Int) ≤ (th 17) ∧ (th 17) ≤ 1 := (b0_17 hT :); have ob18 : (0 : Int) ≤ (th 18) ∧ (th 18) ≤ 18 := (b0_18 hT :); have ob38 : (0 : Int) ≤ (th 38) ∧ (th 38) ≤ 400 := (b0_38 hT :); have ob39 : (0 : Int) ≤ (th 39) ∧ (th 39) ≤ 200 := (b0_39 hT :); have ob44 : (0 : Int) ≤ (th 44) ∧ (th 44) ≤ 30 := (b0_44 hT :); have orn := rnd_b (th 10); obtain ⟨o0a, o0b⟩ := (hb18 : In _ _ _); obtain ⟨o2a, o2b⟩ := (hv14_1 : In _ _ _); obtain ⟨o3a, o3b⟩ := (hv15_1 : In _ _ _); obtain ⟨o4a, o4b⟩ := (hv17_1 : In _ _ _); obtain ⟨o5a, o5b⟩ := (hv20_1 : In _ _ _); obtain ⟨o6a, o6b⟩ := (hv23_1 : In _ _ _); obtain ⟨o7a, o7b⟩ := (hv25_1 : In _ _ _); obtain ⟨o8a, o8b⟩ := (hv36_1 : In _ _ _); obtain ⟨o9a, o9b⟩ := (hv47_1 : In _ _ _); obtain ⟨o10a, o10b⟩ := (hv48_1 : In _ _ _); obtain ⟨o11a, o11b⟩ := (hv53_1 : In _ _ _); obtain ⟨o12a, o12b⟩ := (hv55_1 : In _ _ _); omega)])⟩) dX11_greatest_44
    ·
      have oc0 : (0 : Int32).toInt = 0 := by decide
      have cc29 : r19.toInt ≠ (0 : Int32).toInt := i32_ne c26
      have hb30 : In r19 1 1 := In.ne1 eL23R (⟨by decide, by decide⟩ : In 0 0 0) cc29 (by decide) (by decide)
      have hb31 : In z2 1 100 := In.both (hii24w c26) (In.full z2) (by decide) (by decide)
      refine lv_iload_n hx hb dX11_greatest_27 rfl (lv_at hl 2 rfl) ?_
      refine lv_iconst (v := 1) hx hb dX11_greatest_28 (by decide) ?_
      refine lv_isub hx hb dX11_greatest_29 ?_
      refine lv_topi (fun x32 ex32 => ?_)
      have hb33 : In x32 0 99 := ex32 ▸ In.sub hb31 (⟨by decide, by decide⟩ : In 1 1 1) (by decide) (by decide) (by decide) (by decide)
      have et34 : x32.toInt = z2.toInt + (-1) := In.sube ex32 hb31 (k := 1) (by decide) (by decide) (by decide)
      refine lv_iload_n hx hb dX11_greatest_30 rfl (lv_at hl 1 rfl) ?_
      refine lv_if_ne (tgt := 38) hx hb dX11_greatest_31 (by decide) (fun c35 => ?_) (fun c35 => ?_)
      ·
        have oc0 : (0 : Int32).toInt = 0 := by decide
        have cc36 : z1.toInt ≠ (0 : Int32).toInt := i32_ne c35
        have hb37 : In z1 1 1 := In.ne1 hb18 (⟨by decide, by decide⟩ : In 0 0 0) cc36 (by decide) (by decide)
        refine lv_iconst (v := 4) hx hb dX11_greatest_38 (by decide) ?_
        refine lv_idiv hx hb dX11_greatest_39 (In.ne0 (⟨by decide, by decide⟩ : In 4 4 4) (by decide)) ?_
        refine lv_topi (fun x38 ex38 => ?_)
        have hb39 : In x38 0 24 := ex38 ▸ In.div hb33 (⟨by decide, by decide⟩ : In 4 4 4) (by decide) (by decide) (by decide) (by decide)
        refine lv_goto (tgt := 44) hx hb dX11_greatest_40 (by decide) ?_
        exact ret_i (ty := .int) hx hb hr hlocks (rfl) hP hD hS (Nat.le_of_ble_eq_true rfl) (Nat.le_of_ble_eq_true rfl) (⟨rfl, hT, hfr, (by unfold GB; rw [if_pos (by have ob10 : (0 : Int) ≤ (th 10) ∧ (th 10) ≤ 1 := (b0_10 hT :); have ob11 : (0 : Int) ≤ (th 11) ∧ (th 11) ≤ 9 := (b0_11 hT :); have ob12 : (0 : Int) ≤ (th 12) ∧ (th 12) ≤ 6 := (b0_12 hT :); have ob14 : (0 : Int) ≤ (th 14) ∧ (th 14) ≤ 511 := (b0_14 hT :); have ob15 : (0 : Int) ≤ (th 15) ∧ (th 15) ≤ 1 := (b0_15 hT :); have ob16 : (0 : Int) ≤ (th 16) ∧ (th 16) ≤ 20 := (b0_16 hT :); have ob17 : (0 : Int) ≤ (th 17) ∧ (th 17) ≤ 1 := (b0_17 hT :); have ob18 : (0 : Int) ≤ (th 18) ∧ (th 18) ≤ 18 := (b0_18 hT :); have ob38 : (0 : Int) ≤ (th 38) ∧ (th 38) ≤ 400 := (b0_38 hT :); have ob39 : (0 : Int) ≤ (th 39) ∧ (th 39) ≤ 200 := (b0_39 hT :); have ob44 : (0 : Int) ≤ (th 44) ∧ (th 44) ≤ 30 := (b0_44 hT :); have orn := rnd_b (th 10); obtain ⟨o0a, o0b⟩ := (hb37 : In _ _ _); obtain ⟨o1a, o1b⟩ := (hb31 : In _ _ _); obtain ⟨o2a, o2b⟩ := (hv14_1 : In _ _ _); obtain ⟨o3a, o3b⟩ := (hv15_1 : In _ _ _); obtain ⟨o4a, o4b⟩ := (hv17_1 : In _ _ _); obtain ⟨o5a, o5b⟩ := (hv20_1 : In _ _ _); obtain ⟨o6a, o6b⟩ := (hv23_1 : In _ _ _); obtain ⟨o7a, o7b⟩ := (hv25_1 : In _ _ _); obtain ⟨o8a, o8b⟩ := (hv36_1 : In _ _ _); obtain ⟨o9a, o9b⟩ := (hv47_1 : In _ _ _); obtain ⟨o10a, o10b⟩ := (hv48_1 : In _ _ _); obtain ⟨o11a, o11b⟩ := (hv53_1 : In _ _ _); obtain ⟨o12a, o12b⟩ := (hv55_1 : In _ _ _); omega), if_neg c35, ex38, ex32])⟩) dX11_greatest_44
      ·
        have oc0 : (0 : Int32).toInt = 0 := by decide
        have cc40 : z1.toInt = (0 : Int32).toInt := congrArg Int32.toInt c35
        have hb41 : In z1 0 0 := In.eq1 hb18 (⟨by decide, by decide⟩ : In 0 0 0) cc40 (by decide) (by decide)
        refine lv_iconst (v := 3) hx hb dX11_greatest_34 (by decide) ?_
        refine lv_goto (tgt := 39) hx hb dX11_greatest_35 (by decide) ?_
        refine lv_idiv hx hb dX11_greatest_39 (In.ne0 (⟨by decide, by decide⟩ : In 3 3 3) (by decide)) ?_
        refine lv_topi (fun x42 ex42 => ?_)
        have hb43 : In x42 0 33 := ex42 ▸ In.div hb33 (⟨by decide, by decide⟩ : In 3 3 3) (by decide) (by decide) (by decide) (by decide)
        refine lv_goto (tgt := 44) hx hb dX11_greatest_40 (by decide) ?_
        exact ret_i (ty := .int) hx hb hr hlocks (rfl) hP hD hS (Nat.le_of_ble_eq_true rfl) (Nat.le_of_ble_eq_true rfl) (⟨rfl, hT, hfr, (by unfold GB; rw [if_pos (by have ob10 : (0 : Int) ≤ (th 10) ∧ (th 10) ≤ 1 := (b0_10 hT :); have ob11 : (0 : Int) ≤ (th 11) ∧ (th 11) ≤ 9 := (b0_11 hT :); have ob12 : (0 : Int) ≤ (th 12) ∧ (th 12) ≤ 6 := (b0_12 hT :); have ob14 : (0 : Int) ≤ (th 14) ∧ (th 14) ≤ 511 := (b0_14 hT :); have ob15 : (0 : Int) ≤ (th 15) ∧ (th 15) ≤ 1 := (b0_15 hT :); have ob16 : (0 : Int) ≤ (th 16) ∧ (th 16) ≤ 20 := (b0_16 hT :); have ob17 : (0 : Int) ≤ (th 17) ∧ (th 17) ≤ 1 := (b0_17 hT :); have ob18 : (0 : Int) ≤ (th 18) ∧ (th 18) ≤ 18 := (b0_18 hT :); have ob38 : (0 : Int) ≤ (th 38) ∧ (th 38) ≤ 400 := (b0_38 hT :); have ob39 : (0 : Int) ≤ (th 39) ∧ (th 39) ≤ 200 := (b0_39 hT :); have ob44 : (0 : Int) ≤ (th 44) ∧ (th 44) ≤ 30 := (b0_44 hT :); have orn := rnd_b (th 10); obtain ⟨o0a, o0b⟩ := (hb41 : In _ _ _); obtain ⟨o1a, o1b⟩ := (hb31 : In _ _ _); obtain ⟨o2a, o2b⟩ := (hv14_1 : In _ _ _); obtain ⟨o3a, o3b⟩ := (hv15_1 : In _ _ _); obtain ⟨o4a, o4b⟩ := (hv17_1 : In _ _ _); obtain ⟨o5a, o5b⟩ := (hv20_1 : In _ _ _); obtain ⟨o6a, o6b⟩ := (hv23_1 : In _ _ _); obtain ⟨o7a, o7b⟩ := (hv25_1 : In _ _ _); obtain ⟨o8a, o8b⟩ := (hv36_1 : In _ _ _); obtain ⟨o9a, o9b⟩ := (hv47_1 : In _ _ _); obtain ⟨o10a, o10b⟩ := (hv48_1 : In _ _ _); obtain ⟨o11a, o11b⟩ := (hv53_1 : In _ _ _); obtain ⟨o12a, o12b⟩ := (hv55_1 : In _ _ _); omega), if_pos c35, ex42, ex32])⟩) dX11_greatest_44
