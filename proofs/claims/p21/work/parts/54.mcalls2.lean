abbrev rm_X11_freeIn : Room := { frames := 2, cells := 0, slots := 0, locals := 42 }
abbrev po_X11_freeIn (g : GG) (ad : Nat → Nat) (th : Nat → Int) (L : List Nat) (f : HP) (z1 : Int32) : Int32 → (List Nat × HP) → Prop := fun r u => u.1 = L ∧ u.2 = f ∧ r.toInt = frI (rnd (th 10)) (th 11) (th 14) z1.toInt
set_option maxHeartbeats 4000000 in
set_option maxRecDepth 100000 in
theorem s_X11_freeIn (l : Launch) (g : GG) (ad : Nat → Nat) (th : Nat → Int) (L : List Nat) (f : HP) (sz : Nat) (z1 : Int32) (hst : ST ad L) (hT : TI g ad th f) (hz1 : In z1 0 6) (hn3 : 3 ≤ th 11) : MtI l g yX11_freeIn cX11_freeIn 5 (some .int) rm_X11_freeIn [.ref (ad 255), .int z1] L f sz (po_X11_freeIn g ad th L f z1) := by
  refine MtI.of (by decide +kernel) (Nat.le_of_ble_eq_true rfl) ?_
  intro p e s m below meth c A hEn hP hD hS ls hl
  obtain ⟨hx, hb, hr, hml, hown, hlocks, hts, hG, hA, hE, hnm⟩ := hEn
  have hown : s.vm.findClass "RulerWordModel" = some m.cls := hown
  have hl : lv_has ls 5 [(0, .ref (ad 255)), (1, .int z1)] := hl
  refine M0e hT (fun v0_1 v2_1 v3_1 v4_1 v5_1 v6_1 v8_1 v9_1 v12_1 v13_1 v14_1 v15_1 v16_1 v17_1 v18_1 v19_1 v20_1 v21_1 v22_1 v23_1 v25_1 v36_1 v37_1 v38_1 v39_1 v40_1 v45_1 v46_1 v47_1 v48_1 v50_1 v51_1 v53_1 v55_1 hf2 hv0_1 hv2_1 hg2_1 hv3_1 hg3_1 hv4_1 hg4_1 hv5_1 hg5_1 hv6_1 hg6_1 hv8_1 hg8_1 hv9_1 hg9_1 hv12_1 hv13_1 hg13_1 hv14_1 hg14_1 hv15_1 hg15_1 hv17_1 hg17_1 hv20_1 hg20_1 hv23_1 hg23_1 hv25_1 hg25_1 hv36_1 hg36_1 hv47_1 hg47_1 hv48_1 hg48_1 hv53_1 hg53_1 hv55_1 hg55_1 hrel0_1 => ?_)
  have hb3 : In v15_1 3 9 := ⟨by rw [hg15_1]; exact hn3, hv15_1.2⟩
  have hcap : capI (th 14) (th 11) := by rw [← hg20_1, ← hg15_1]; exact hrel0_1
  have h14 : (0 ≤ th 14 ∧ th 14 ≤ 511) ∧ th 11 ≤ 9 := by obtain ⟨q1, q2⟩ := (hv20_1 : In _ _ _); obtain ⟨q3, q4⟩ := (hb3 : In _ _ _); exact ⟨⟨by omega, by omega⟩, by omega⟩
  have hpcl := pc_lt h14.1 ⟨by omega, h14.2⟩ hcap
  refine lv_aload_n hx hb dX11_freeIn_0 rfl (lv_at hl 0 rfl) ?_
  refine pl_get (v := .int v15_1) hx hb hts (fun w h => mT (inX11 w h)) hown hG.1 hP (hst.1 255 (by decide)) hf2 rfl 15 (by decide) (hts _ (mT wg_1351)) (fun _ h => h) rfl dX11_freeIn_1 ?_
  refine lv_aload_n hx hb dX11_freeIn_4 rfl (lv_at hl 0 rfl) ?_
  refine pl_get (v := .int v20_1) hx hb hts (fun w h => mT (inX11 w h)) hown hG.1 hP (hst.1 255 (by decide)) hf2 rfl 20 (by decide) (hts _ (mT wg_1356)) (fun _ h => h) rfl dX11_freeIn_5 ?_
  refine call_i (run_S (rm := rm_X11_bitsIn) hx hb hml hown hts (s_X11_bitsIn l g ad th _ _ _ v20_1 hst hT ) cS_X11_bitsIn wg_1827 ⟨Nat.le_of_ble_eq_true rfl, Nat.le_of_ble_eq_true rfl⟩ hG hE hA hP hD hS rfl hl.1 (As := [.int v20_1]) (rest := [.int v15_1]) rfl (Nat.le_of_ble_eq_true rfl) dX11_freeIn_8 ⟨Nat.le_of_ble_eq_true rfl, Nat.le_of_ble_eq_true rfl⟩) hA hD hS (fun r4 L5 f6 H locs hp7 hP hD hS => ?_)
  obtain ⟨eL8L, eL8T, eL8R, eL8X0⟩ := hp7
  have eL8L : L5 = L := eL8L
  have eL8T : f6 = f := eL8T
  rw [eL8L, eL8T] at hP hD
  have eL8R : In r4 0 9 := eL8R
  have hpc9 : r4.toInt = pcI (th 14) := (eL8X0 hv20_1).trans (by rw [hg20_1])
  refine lv_isub hx hb dX11_freeIn_11 ?_
  refine lv_topi (fun x10 ex10 => ?_)
  have hb11 : In x10 (-6) 9 := ex10 ▸ In.sub hb3 eL8R (by decide) (by decide) (by decide) (by decide)
  have et12 : x10.toInt = v15_1.toInt - r4.toInt := In.sub2e ex10 hb3 eL8R (by decide) (by decide)
  have hb13 : In x10 1 9 := In.mk (by have ob10 : (0 : Int) ≤ (th 10) ∧ (th 10) ≤ 1 := (b0_10 hT :); have ob11 : (0 : Int) ≤ (th 11) ∧ (th 11) ≤ 9 := (b0_11 hT :); have ob12 : (0 : Int) ≤ (th 12) ∧ (th 12) ≤ 6 := (b0_12 hT :); have ob14 : (0 : Int) ≤ (th 14) ∧ (th 14) ≤ 511 := (b0_14 hT :); have ob15 : (0 : Int) ≤ (th 15) ∧ (th 15) ≤ 1 := (b0_15 hT :); have ob16 : (0 : Int) ≤ (th 16) ∧ (th 16) ≤ 20 := (b0_16 hT :); have ob17 : (0 : Int) ≤ (th 17) ∧ (th 17) ≤ 1 := (b0_17 hT :); have ob18 : (0 : Int) ≤ (th 18) ∧ (th 18) ≤ 18 := (b0_18 hT :); have ob38 : (0 : Int) ≤ (th 38) ∧ (th 38) ≤ 400 := (b0_38 hT :); have ob39 : (0 : Int) ≤ (th 39) ∧ (th 39) ≤ 200 := (b0_39 hT :); have ob44 : (0 : Int) ≤ (th 44) ∧ (th 44) ≤ 30 := (b0_44 hT :); obtain ⟨o0a, o0b⟩ := (hb11 : In _ _ _); obtain ⟨o1a, o1b⟩ := (hv14_1 : In _ _ _); obtain ⟨o2a, o2b⟩ := (hb3 : In _ _ _); obtain ⟨o3a, o3b⟩ := (hv17_1 : In _ _ _); obtain ⟨o4a, o4b⟩ := (hv20_1 : In _ _ _); obtain ⟨o5a, o5b⟩ := (hv23_1 : In _ _ _); obtain ⟨o6a, o6b⟩ := (hv25_1 : In _ _ _); obtain ⟨o7a, o7b⟩ := (hv36_1 : In _ _ _); obtain ⟨o8a, o8b⟩ := (hv47_1 : In _ _ _); obtain ⟨o9a, o9b⟩ := (hv48_1 : In _ _ _); obtain ⟨o10a, o10b⟩ := (hv53_1 : In _ _ _); obtain ⟨o11a, o11b⟩ := (hv55_1 : In _ _ _); obtain ⟨o12a, o12b⟩ := (eL8R : In _ _ _); omega) (by have ob10 : (0 : Int) ≤ (th 10) ∧ (th 10) ≤ 1 := (b0_10 hT :); have ob11 : (0 : Int) ≤ (th 11) ∧ (th 11) ≤ 9 := (b0_11 hT :); have ob12 : (0 : Int) ≤ (th 12) ∧ (th 12) ≤ 6 := (b0_12 hT :); have ob14 : (0 : Int) ≤ (th 14) ∧ (th 14) ≤ 511 := (b0_14 hT :); have ob15 : (0 : Int) ≤ (th 15) ∧ (th 15) ≤ 1 := (b0_15 hT :); have ob16 : (0 : Int) ≤ (th 16) ∧ (th 16) ≤ 20 := (b0_16 hT :); have ob17 : (0 : Int) ≤ (th 17) ∧ (th 17) ≤ 1 := (b0_17 hT :); have ob18 : (0 : Int) ≤ (th 18) ∧ (th 18) ≤ 18 := (b0_18 hT :); have ob38 : (0 : Int) ≤ (th 38) ∧ (th 38) ≤ 400 := (b0_38 hT :); have ob39 : (0 : Int) ≤ (th 39) ∧ (th 39) ≤ 200 := (b0_39 hT :); have ob44 : (0 : Int) ≤ (th 44) ∧ (th 44) ≤ 30 := (b0_44 hT :); obtain ⟨o0a, o0b⟩ := (hb11 : In _ _ _); obtain ⟨o1a, o1b⟩ := (hv14_1 : In _ _ _); obtain ⟨o2a, o2b⟩ := (hb3 : In _ _ _); obtain ⟨o3a, o3b⟩ := (hv17_1 : In _ _ _); obtain ⟨o4a, o4b⟩ := (hv20_1 : In _ _ _); obtain ⟨o5a, o5b⟩ := (hv23_1 : In _ _ _); obtain ⟨o6a, o6b⟩ := (hv25_1 : In _ _ _); obtain ⟨o7a, o7b⟩ := (hv36_1 : In _ _ _); obtain ⟨o8a, o8b⟩ := (hv47_1 : In _ _ _); obtain ⟨o9a, o9b⟩ := (hv48_1 : In _ _ _); obtain ⟨o10a, o10b⟩ := (hv53_1 : In _ _ _); obtain ⟨o11a, o11b⟩ := (hv55_1 : In _ _ _); obtain ⟨o12a, o12b⟩ := (eL8R : In _ _ _); omega)
  refine lv_istore_n (lv' := [(2, .int x10), (0, .ref (ad 255)), (1, .int z1)]) hx hb dX11_freeIn_12 rfl hl (by decide) rfl (fun ls hl => ?_)
  refine lv_iload_n hx hb dX11_freeIn_13 rfl (lv_at hl 2 rfl) ?_
  refine lv_aload_n hx hb dX11_freeIn_14 rfl (lv_at hl 1 rfl) ?_
  refine call_i (run_V (rm := rm_X11_each) hx hb hml hown hts (s_X11_each l g ad th _ _ _  hst hT ) cV_X11_each wg_1636 ⟨Nat.le_of_ble_eq_true rfl, Nat.le_of_ble_eq_true rfl⟩ hG hE hA hP hD hS (hst.1 255 (by decide)) hf2 rfl rfl hl.1 (As := []) (rest := [.int z1]) rfl (Nat.le_of_ble_eq_true rfl) dX11_freeIn_15 ⟨Nat.le_of_ble_eq_true rfl, Nat.le_of_ble_eq_true rfl⟩) hA hD hS (fun r14 L15 f16 H locs hp17 hP hD hS => ?_)
  obtain ⟨eL18L, eL18T, eL18R, eL18X0⟩ := hp17
  have eL18L : L15 = L := eL18L
  have eL18T : f16 = f := eL18T
  rw [eL18L, eL18T] at hP hD
  have eL18R : In r14 2 3 := eL18R
  have hrn19 : r14.toInt = rnd (th 10) := eL18X0
  refine lv_iconst (v := 1) hx hb dX11_freeIn_18 (by decide) ?_
  refine lv_isub hx hb dX11_freeIn_19 ?_
  refine lv_topi (fun x20 ex20 => ?_)
  have hb21 : In x20 1 2 := ex20 ▸ In.sub eL18R (⟨by decide, by decide⟩ : In 1 1 1) (by decide) (by decide) (by decide) (by decide)
  have et22 : x20.toInt = r14.toInt + (-1) := In.sube ex20 eL18R (k := 1) (by decide) (by decide) (by decide)
  refine lv_imul hx hb dX11_freeIn_20 ?_
  refine lv_topi (fun x23 ex23 => ?_)
  have hb24 : In x23 0 12 := ex23 ▸ In.mul hz1 hb21 (by decide) (by decide) (by decide) (by decide) (by decide)
  refine lv_aload_n hx hb dX11_freeIn_21 rfl (lv_at hl 1 rfl) ?_
  refine pl_get (v := .int v20_1) hx hb hts (fun w h => mT (inX11 w h)) hown hG.1 hP (hst.1 255 (by decide)) hf2 rfl 20 (by decide) (hts _ (mT wg_1356)) (fun _ h => h) rfl dX11_freeIn_22 ?_
  refine call_i (run_S (rm := rm_X11_bitsIn) hx hb hml hown hts (s_X11_bitsIn l g ad th _ _ _ v20_1 hst hT ) cS_X11_bitsIn wg_1827 ⟨Nat.le_of_ble_eq_true rfl, Nat.le_of_ble_eq_true rfl⟩ hG hE hA hP hD hS rfl hl.1 (As := [.int v20_1]) (rest := [.int x23]) rfl (Nat.le_of_ble_eq_true rfl) dX11_freeIn_25 ⟨Nat.le_of_ble_eq_true rfl, Nat.le_of_ble_eq_true rfl⟩) hA hD hS (fun r25 L26 f27 H locs hp28 hP hD hS => ?_)
  obtain ⟨eL29L, eL29T, eL29R, eL29X0⟩ := hp28
  have eL29L : L26 = L := eL29L
  have eL29T : f27 = f := eL29T
  rw [eL29L, eL29T] at hP hD
  have eL29R : In r25 0 9 := eL29R
  have hpc30 : r25.toInt = pcI (th 14) := (eL29X0 hv20_1).trans (by rw [hg20_1])
  refine lv_imul hx hb dX11_freeIn_28 ?_
  refine lv_topi (fun x31 ex31 => ?_)
  have hb32 : In x31 0 108 := ex31 ▸ In.mul hb24 eL29R (by decide) (by decide) (by decide) (by decide) (by decide)
  refine lv_iload_n hx hb dX11_freeIn_29 rfl (lv_at hl 0 rfl) ?_
  refine lv_imul hx hb dX11_freeIn_30 ?_
  refine lv_topi (fun x33 ex33 => ?_)
  have hb34 : In x33 0 972 := ex33 ▸ In.mul hb32 hb13 (by decide) (by decide) (by decide) (by decide) (by decide)
  have hm1 : x23.toInt = z1.toInt * x20.toInt := by rw [ex23]; exact mulB (a := 6) (b := 2) hz1 (In.mono hb21 (by decide) (by decide)) (A := 6) (B := 2) (by decide) (by decide) (by decide) (by decide)
  have hm2 : x31.toInt = x23.toInt * r25.toInt := by rw [ex31]; exact mulB (a := 12) (b := 9) hb24 eL29R (A := 12) (B := 9) (by decide) (by decide) (by decide) (by decide)
  have hm3 : x33.toInt = x31.toInt * x10.toInt := by rw [ex33]; exact mulB (a := 108) (b := 9) hb32 (In.mono hb13 (by decide) (by decide)) (A := 108) (B := 9) (by decide) (by decide) (by decide) (by decide)
  have hem : x20.toInt = rnd (th 10) - 1 := by omega
  have hft : x10.toInt = th 11 - pcI (th 14) := by omega
  have hrp : r25.toInt = pcI (th 14) := by omega
  have hx3 : x33.toInt = z1.toInt * (rnd (th 10) - 1) * pcI (th 14) * (th 11 - pcI (th 14)) := by rw [hm3, hm2, hm1, hem, hrp, hft]
  refine lv_istore_n (lv' := [(3, .int x33), (2, .int x10), (0, .ref (ad 255)), (1, .int z1)]) hx hb dX11_freeIn_31 rfl hl (by decide) rfl (fun ls hl => ?_)
  refine lv_iconst (v := 0) hx hb dX11_freeIn_32 (by decide) ?_
  refine lv_istore (lv' := [(4, .int 0), (3, .int x33), (2, .int x10), (0, .ref (ad 255)), (1, .int z1)]) hx hb dX11_freeIn_33 hl (by decide) rfl (fun ls hl => ?_)
  have hJ35 : ∀ (k35 : Nat) (y35_l3 : Int32) (y35_l4 : Int32) (H : Heap) (locs : List Loc) (ls : Array Slot), In y35_l3 0 1026 → In y35_l4 0 6 → va_P g.1 vwCl (va_pl L f) H → va_D A (va_pl L f) → va_S A s.heap H locs → (y35_l3.toInt ≤ 972 + 9 * y35_l4.toInt ∧ 0 ≤ y35_l3.toInt) → (y35_l4.toInt ≤ z1.toInt ∧ 0 ≤ y35_l4.toInt) → (y35_l3.toInt = x33.toInt + frL (th 11) (th 14) (x10.toInt) (y35_l4.toInt).toNat) → lv_has ls 5 [(0, .ref (ad 255)), (1, .int z1), (2, .int x10), (3, .int y35_l3), (4, .int y35_l4)] → 6 - y35_l4.toInt < ((k35 : Nat) : Int) → W p l e rm_X11_freeIn s m [.ref (ad 255), .int z1].toArray below meth c H locs 0 0 (MQ below (va_Qi (po_X11_freeIn g ad th L f z1) (PstB g A) A) [.ref (ad 255), .int z1].toArray s rm_X11_freeIn.cells rm_X11_freeIn.slots A) (F0 m 35 ls []) := by
    intro k35
    induction k35 with
    | zero =>
      intro y35_l3 y35_l4 H locs ls hy35_l3 hy35_l4 hP hD hS hinv35_0 hinv35_1 hxi35_0 hl hmz35
      exact ms0 hy35_l4 hmz35
    | succ k35 ih35 =>
      intro y35_l3 y35_l4 H locs ls hy35_l3 hy35_l4 hP hD hS hinv35_0 hinv35_1 hxi35_0 hl hmz35
      refine lv_iload hx hb dX11_freeIn_35 (lv_at hl 4 rfl) ?_
      refine lv_iload_n hx hb dX11_freeIn_37 rfl (lv_at hl 1 rfl) ?_
      refine lv_icmp_ge (tgt := 69) hx hb dX11_freeIn_38 (by decide) (fun c35 => ?_) (fun c35 => ?_)
      ·
        have cc36 : z1.toInt ≤ y35_l4.toInt := i32_le.mp c35
        refine lv_iload_n hx hb dX11_freeIn_69 rfl (lv_at hl 3 rfl) ?_
        exact ret_i (ty := .int) hx hb hr hlocks (rfl) hP hD hS (Nat.le_of_ble_eq_true rfl) (Nat.le_of_ble_eq_true rfl) (⟨rfl, rfl, (by have hkz : y35_l4.toInt = z1.toInt := (by have ob10 : (0 : Int) ≤ (th 10) ∧ (th 10) ≤ 1 := (b0_10 hT :); have ob11 : (0 : Int) ≤ (th 11) ∧ (th 11) ≤ 9 := (b0_11 hT :); have ob12 : (0 : Int) ≤ (th 12) ∧ (th 12) ≤ 6 := (b0_12 hT :); have ob14 : (0 : Int) ≤ (th 14) ∧ (th 14) ≤ 511 := (b0_14 hT :); have ob15 : (0 : Int) ≤ (th 15) ∧ (th 15) ≤ 1 := (b0_15 hT :); have ob16 : (0 : Int) ≤ (th 16) ∧ (th 16) ≤ 20 := (b0_16 hT :); have ob17 : (0 : Int) ≤ (th 17) ∧ (th 17) ≤ 1 := (b0_17 hT :); have ob18 : (0 : Int) ≤ (th 18) ∧ (th 18) ≤ 18 := (b0_18 hT :); have ob38 : (0 : Int) ≤ (th 38) ∧ (th 38) ≤ 400 := (b0_38 hT :); have ob39 : (0 : Int) ≤ (th 39) ∧ (th 39) ≤ 200 := (b0_39 hT :); have ob44 : (0 : Int) ≤ (th 44) ∧ (th 44) ≤ 30 := (b0_44 hT :); obtain ⟨o0a, o0b⟩ := (hy35_l4 : In _ _ _); obtain ⟨o1a, o1b⟩ := (hz1 : In _ _ _); obtain ⟨o2a, o2b⟩ := (hv14_1 : In _ _ _); obtain ⟨o3a, o3b⟩ := (hb3 : In _ _ _); obtain ⟨o4a, o4b⟩ := (hv17_1 : In _ _ _); obtain ⟨o5a, o5b⟩ := (hv20_1 : In _ _ _); obtain ⟨o6a, o6b⟩ := (hv23_1 : In _ _ _); obtain ⟨o7a, o7b⟩ := (hv25_1 : In _ _ _); obtain ⟨o8a, o8b⟩ := (hv36_1 : In _ _ _); obtain ⟨o9a, o9b⟩ := (hv47_1 : In _ _ _); obtain ⟨o10a, o10b⟩ := (hv48_1 : In _ _ _); obtain ⟨o11a, o11b⟩ := (hv53_1 : In _ _ _); obtain ⟨o12a, o12b⟩ := (hv55_1 : In _ _ _); obtain ⟨o13a, o13b⟩ := (hy35_l3 : In _ _ _); omega); unfold frI; rw [hxi35_0, hx3, hft, hkz])⟩) dX11_freeIn_70
      ·
        have cc37 : y35_l4.toInt < z1.toInt := i32_nle c35
        have hb38 : In y35_l4 0 5 := In.lt1 hy35_l4 hz1 cc37 (by omega) (by omega)
        have hb39 : In z1 1 6 := In.lt2 hy35_l4 hz1 cc37 (by omega) (by omega)
        refine lv_iload_n hx hb dX11_freeIn_41 rfl (lv_at hl 3 rfl) ?_
        refine lv_aload_n hx hb dX11_freeIn_42 rfl (lv_at hl 0 rfl) ?_
        refine lv_iload hx hb dX11_freeIn_43 (lv_at hl 4 rfl) ?_
        refine lv_aload_n hx hb dX11_freeIn_45 rfl (lv_at hl 0 rfl) ?_
        refine pl_get (v := .int v15_1) hx hb hts (fun w h => mT (inX11 w h)) hown hG.1 hP (hst.1 255 (by decide)) hf2 rfl 15 (by decide) (hts _ (mT wg_1351)) (fun _ h => h) rfl dX11_freeIn_46 ?_
        refine lv_irem hx hb dX11_freeIn_49 (In.ne0 hb3 (by decide)) ?_
        refine lv_topi (fun x40 ex40 => ?_)
        have hb41 : In x40 0 5 := ex40 ▸ In.rem hb38 hb3 (by decide) (by decide) (by decide)
        refine call_i (run_V (rm := rm_X11_isLiar) hx hb hml hown hts (s_X11_isLiar l g ad th _ _ _ x40 hst hT ) cV_X11_isLiar wg_1664 ⟨Nat.le_of_ble_eq_true rfl, Nat.le_of_ble_eq_true rfl⟩ hG hE hA hP hD hS (hst.1 255 (by decide)) hf2 rfl rfl hl.1 (As := [.int x40]) (rest := [.int y35_l3]) rfl (Nat.le_of_ble_eq_true rfl) dX11_freeIn_50 ⟨Nat.le_of_ble_eq_true rfl, Nat.le_of_ble_eq_true rfl⟩) hA hD hS (fun r42 L43 f44 H locs hp45 hP hD hS => ?_)
        obtain ⟨eL46L, eL46T, eL46R, eL46X0⟩ := hp45
        have eL46L : L43 = L := eL46L
        have eL46T : f44 = f := eL46T
        rw [eL46L, eL46T] at hP hD
        have eL46R : In r42 0 1 := eL46R
        have hbl47 : r42.toInt = bitI (th 14) x40.toInt := eL46X0 (In.mono hb41 (by decide) (by decide))
        refine lv_if_eq (tgt := 60) hx hb dX11_freeIn_53 (by decide) (fun c48 => ?_) (fun c48 => ?_)
        ·
          have oc0 : (0 : Int32).toInt = 0 := by decide
          have cc49 : r42.toInt = (0 : Int32).toInt := congrArg Int32.toInt c48
          have hb50 : In r42 0 0 := In.eq1 eL46R (⟨by decide, by decide⟩ : In 0 0 0) cc49 (by omega) (by omega)
          refine lv_iconst (v := 0) hx hb dX11_freeIn_60 (by decide) ?_
          refine lv_iadd hx hb dX11_freeIn_61 ?_
          refine lv_topi (fun x51 ex51 => ?_)
          have hb52 : In x51 0 1026 := ex51 ▸ In.add hy35_l3 (⟨by decide, by decide⟩ : In 0 0 0) (by decide) (by decide) (by decide) (by decide)
          have et53 : x51.toInt = y35_l3.toInt + 0 := In.adde ex51 hy35_l3 (k := 0) (by decide) (by decide) (by decide)
          refine lv_istore_n (lv' := [(3, .int x51), (0, .ref (ad 255)), (1, .int z1), (2, .int x10), (4, .int y35_l4)]) hx hb dX11_freeIn_62 rfl hl (by decide) rfl (fun ls hl => ?_)
          obtain ⟨x54, ex54⟩ : ∃ y : Int32, y = y35_l4 + 1 := ⟨_, rfl⟩
          have hb55 : In x54 1 6 := ex54 ▸ In.add hb38 (⟨by decide, by decide⟩ : In 1 1 1) (by decide) (by decide) (by decide) (by decide)
          have et56 : x54.toInt = y35_l4.toInt + 1 := In.adde ex54 hb38 (k := 1) (by decide) (by decide) (by decide)
          refine lv_iinc (v := x54) (lv' := [(4, .int x54), (3, .int x51), (0, .ref (ad 255)), (1, .int z1), (2, .int x10)]) hx hb dX11_freeIn_63 hl (k := 4) rfl (by rw [ex54]; rfl) (by decide) rfl (fun ls hl => ?_)
          refine lv_goto (tgt := 35) hx hb dX11_freeIn_66 (by decide) ?_
          exact ih35 x51 x54 _ _ _ hb52 (In.mono hb55 (by decide) (by decide)) hP hD hS (by have ob10 : (0 : Int) ≤ (th 10) ∧ (th 10) ≤ 1 := (b0_10 hT :); have ob11 : (0 : Int) ≤ (th 11) ∧ (th 11) ≤ 9 := (b0_11 hT :); have ob12 : (0 : Int) ≤ (th 12) ∧ (th 12) ≤ 6 := (b0_12 hT :); have ob14 : (0 : Int) ≤ (th 14) ∧ (th 14) ≤ 511 := (b0_14 hT :); have ob15 : (0 : Int) ≤ (th 15) ∧ (th 15) ≤ 1 := (b0_15 hT :); have ob16 : (0 : Int) ≤ (th 16) ∧ (th 16) ≤ 20 := (b0_16 hT :); have ob17 : (0 : Int) ≤ (th 17) ∧ (th 17) ≤ 1 := (b0_17 hT :); have ob18 : (0 : Int) ≤ (th 18) ∧ (th 18) ≤ 18 := (b0_18 hT :); have ob38 : (0 : Int) ≤ (th 38) ∧ (th 38) ≤ 400 := (b0_38 hT :); have ob39 : (0 : Int) ≤ (th 39) ∧ (th 39) ≤ 200 := (b0_39 hT :); have ob44 : (0 : Int) ≤ (th 44) ∧ (th 44) ≤ 30 := (b0_44 hT :); obtain ⟨o0a, o0b⟩ := (hb52 : In _ _ _); obtain ⟨o1a, o1b⟩ := (hb55 : In _ _ _); obtain ⟨o2a, o2b⟩ := (hv14_1 : In _ _ _); obtain ⟨o3a, o3b⟩ := (hb3 : In _ _ _); obtain ⟨o4a, o4b⟩ := (hv17_1 : In _ _ _); obtain ⟨o5a, o5b⟩ := (hv20_1 : In _ _ _); obtain ⟨o6a, o6b⟩ := (hv23_1 : In _ _ _); obtain ⟨o7a, o7b⟩ := (hv25_1 : In _ _ _); obtain ⟨o8a, o8b⟩ := (hv36_1 : In _ _ _); obtain ⟨o9a, o9b⟩ := (hv47_1 : In _ _ _); obtain ⟨o10a, o10b⟩ := (hv48_1 : In _ _ _); obtain ⟨o11a, o11b⟩ := (hv53_1 : In _ _ _); obtain ⟨o12a, o12b⟩ := (hv55_1 : In _ _ _); obtain ⟨o13a, o13b⟩ := (hy35_l3 : In _ _ _); obtain ⟨o14a, o14b⟩ := (hb38 : In _ _ _); obtain ⟨o15a, o15b⟩ := (hb39 : In _ _ _); omega) (by have ob10 : (0 : Int) ≤ (th 10) ∧ (th 10) ≤ 1 := (b0_10 hT :); have ob11 : (0 : Int) ≤ (th 11) ∧ (th 11) ≤ 9 := (b0_11 hT :); have ob12 : (0 : Int) ≤ (th 12) ∧ (th 12) ≤ 6 := (b0_12 hT :); have ob14 : (0 : Int) ≤ (th 14) ∧ (th 14) ≤ 511 := (b0_14 hT :); have ob15 : (0 : Int) ≤ (th 15) ∧ (th 15) ≤ 1 := (b0_15 hT :); have ob16 : (0 : Int) ≤ (th 16) ∧ (th 16) ≤ 20 := (b0_16 hT :); have ob17 : (0 : Int) ≤ (th 17) ∧ (th 17) ≤ 1 := (b0_17 hT :); have ob18 : (0 : Int) ≤ (th 18) ∧ (th 18) ≤ 18 := (b0_18 hT :); have ob38 : (0 : Int) ≤ (th 38) ∧ (th 38) ≤ 400 := (b0_38 hT :); have ob39 : (0 : Int) ≤ (th 39) ∧ (th 39) ≤ 200 := (b0_39 hT :); have ob44 : (0 : Int) ≤ (th 44) ∧ (th 44) ≤ 30 := (b0_44 hT :); obtain ⟨o0a, o0b⟩ := (hb55 : In _ _ _); obtain ⟨o1a, o1b⟩ := (hb39 : In _ _ _); obtain ⟨o2a, o2b⟩ := (hv14_1 : In _ _ _); obtain ⟨o3a, o3b⟩ := (hb3 : In _ _ _); obtain ⟨o4a, o4b⟩ := (hv17_1 : In _ _ _); obtain ⟨o5a, o5b⟩ := (hv20_1 : In _ _ _); obtain ⟨o6a, o6b⟩ := (hv23_1 : In _ _ _); obtain ⟨o7a, o7b⟩ := (hv25_1 : In _ _ _); obtain ⟨o8a, o8b⟩ := (hv36_1 : In _ _ _); obtain ⟨o9a, o9b⟩ := (hv47_1 : In _ _ _); obtain ⟨o10a, o10b⟩ := (hv48_1 : In _ _ _); obtain ⟨o11a, o11b⟩ := (hv53_1 : In _ _ _); obtain ⟨o12a, o12b⟩ := (hv55_1 : In _ _ _); obtain ⟨o13a, o13b⟩ := (hb38 : In _ _ _); obtain ⟨o14a, o14b⟩ := (hy35_l3 : In _ _ _); omega) (by have hrm : x40.toInt = y35_l4.toInt % th 11 := rem_e (n := th 11) ex40 hg15_1 (by omega) (Int.le_trans (by decide) hb38.1); rw [et56, show (y35_l4.toInt + 1).toNat = (y35_l4.toInt).toNat + 1 by omega]; show _ = _ + (frL (th 11) (th 14) _ (y35_l4.toInt).toNat + _); rw [if_neg (show ¬ bitI (th 14) ((((y35_l4.toInt).toNat : Nat) : Int) % th 11) = 1 by rw [show (((y35_l4.toInt).toNat : Nat) : Int) = y35_l4.toInt by omega, ← hrm]; have ob10 : (0 : Int) ≤ (th 10) ∧ (th 10) ≤ 1 := (b0_10 hT :); have ob11 : (0 : Int) ≤ (th 11) ∧ (th 11) ≤ 9 := (b0_11 hT :); have ob12 : (0 : Int) ≤ (th 12) ∧ (th 12) ≤ 6 := (b0_12 hT :); have ob14 : (0 : Int) ≤ (th 14) ∧ (th 14) ≤ 511 := (b0_14 hT :); have ob15 : (0 : Int) ≤ (th 15) ∧ (th 15) ≤ 1 := (b0_15 hT :); have ob16 : (0 : Int) ≤ (th 16) ∧ (th 16) ≤ 20 := (b0_16 hT :); have ob17 : (0 : Int) ≤ (th 17) ∧ (th 17) ≤ 1 := (b0_17 hT :); have ob18 : (0 : Int) ≤ (th 18) ∧ (th 18) ≤ 18 := (b0_18 hT :); have ob38 : (0 : Int) ≤ (th 38) ∧ (th 38) ≤ 400 := (b0_38 hT :); have ob39 : (0 : Int) ≤ (th 39) ∧ (th 39) ≤ 200 := (b0_39 hT :); have ob44 : (0 : Int) ≤ (th 44) ∧ (th 44) ≤ 30 := (b0_44 hT :); obtain ⟨o0a, o0b⟩ := (hb50 : In _ _ _); obtain ⟨o1a, o1b⟩ := (hv14_1 : In _ _ _); obtain ⟨o2a, o2b⟩ := (hb3 : In _ _ _); obtain ⟨o3a, o3b⟩ := (hv17_1 : In _ _ _); obtain ⟨o4a, o4b⟩ := (hv20_1 : In _ _ _); obtain ⟨o5a, o5b⟩ := (hv23_1 : In _ _ _); obtain ⟨o6a, o6b⟩ := (hv25_1 : In _ _ _); obtain ⟨o7a, o7b⟩ := (hv36_1 : In _ _ _); obtain ⟨o8a, o8b⟩ := (hv47_1 : In _ _ _); obtain ⟨o9a, o9b⟩ := (hv48_1 : In _ _ _); obtain ⟨o10a, o10b⟩ := (hv53_1 : In _ _ _); obtain ⟨o11a, o11b⟩ := (hv55_1 : In _ _ _); omega)]; omega) (lv_sub hl [2, 3, 4, 1, 0] rfl) (msu et56 (by decide) hmz35)
        ·
          have oc0 : (0 : Int32).toInt = 0 := by decide
          have cc57 : r42.toInt ≠ (0 : Int32).toInt := i32_ne c48
          have hb58 : In r42 1 1 := In.ne1 eL46R (⟨by decide, by decide⟩ : In 0 0 0) cc57 (by omega) (by omega)
          refine lv_iload_n hx hb dX11_freeIn_56 rfl (lv_at hl 2 rfl) ?_
          refine lv_goto (tgt := 61) hx hb dX11_freeIn_57 (by decide) ?_
          refine lv_iadd hx hb dX11_freeIn_61 ?_
          refine lv_topi (fun x59 ex59 => ?_)
          have hb60 : In x59 1 1035 := ex59 ▸ In.add hy35_l3 hb13 (by decide) (by decide) (by decide) (by decide)
          have et61 : x59.toInt = y35_l3.toInt + x10.toInt := In.add2e ex59 hy35_l3 hb13 (by decide) (by decide)
          refine lv_istore_n (lv' := [(3, .int x59), (0, .ref (ad 255)), (1, .int z1), (2, .int x10), (4, .int y35_l4)]) hx hb dX11_freeIn_62 rfl hl (by decide) rfl (fun ls hl => ?_)
          obtain ⟨x62, ex62⟩ : ∃ y : Int32, y = y35_l4 + 1 := ⟨_, rfl⟩
          have hb63 : In x62 1 6 := ex62 ▸ In.add hb38 (⟨by decide, by decide⟩ : In 1 1 1) (by decide) (by decide) (by decide) (by decide)
          have et64 : x62.toInt = y35_l4.toInt + 1 := In.adde ex62 hb38 (k := 1) (by decide) (by decide) (by decide)
          refine lv_iinc (v := x62) (lv' := [(4, .int x62), (3, .int x59), (0, .ref (ad 255)), (1, .int z1), (2, .int x10)]) hx hb dX11_freeIn_63 hl (k := 4) rfl (by rw [ex62]; rfl) (by decide) rfl (fun ls hl => ?_)
          refine lv_goto (tgt := 35) hx hb dX11_freeIn_66 (by decide) ?_
          exact ih35 x59 x62 _ _ _ (In.mk (by have ob10 : (0 : Int) ≤ (th 10) ∧ (th 10) ≤ 1 := (b0_10 hT :); have ob11 : (0 : Int) ≤ (th 11) ∧ (th 11) ≤ 9 := (b0_11 hT :); have ob12 : (0 : Int) ≤ (th 12) ∧ (th 12) ≤ 6 := (b0_12 hT :); have ob14 : (0 : Int) ≤ (th 14) ∧ (th 14) ≤ 511 := (b0_14 hT :); have ob15 : (0 : Int) ≤ (th 15) ∧ (th 15) ≤ 1 := (b0_15 hT :); have ob16 : (0 : Int) ≤ (th 16) ∧ (th 16) ≤ 20 := (b0_16 hT :); have ob17 : (0 : Int) ≤ (th 17) ∧ (th 17) ≤ 1 := (b0_17 hT :); have ob18 : (0 : Int) ≤ (th 18) ∧ (th 18) ≤ 18 := (b0_18 hT :); have ob38 : (0 : Int) ≤ (th 38) ∧ (th 38) ≤ 400 := (b0_38 hT :); have ob39 : (0 : Int) ≤ (th 39) ∧ (th 39) ≤ 200 := (b0_39 hT :); have ob44 : (0 : Int) ≤ (th 44) ∧ (th 44) ≤ 30 := (b0_44 hT :); obtain ⟨o0a, o0b⟩ := (hb60 : In _ _ _); obtain ⟨o1a, o1b⟩ := (hv14_1 : In _ _ _); obtain ⟨o2a, o2b⟩ := (hb3 : In _ _ _); obtain ⟨o3a, o3b⟩ := (hv17_1 : In _ _ _); obtain ⟨o4a, o4b⟩ := (hv20_1 : In _ _ _); obtain ⟨o5a, o5b⟩ := (hv23_1 : In _ _ _); obtain ⟨o6a, o6b⟩ := (hv25_1 : In _ _ _); obtain ⟨o7a, o7b⟩ := (hv36_1 : In _ _ _); obtain ⟨o8a, o8b⟩ := (hv47_1 : In _ _ _); obtain ⟨o9a, o9b⟩ := (hv48_1 : In _ _ _); obtain ⟨o10a, o10b⟩ := (hv53_1 : In _ _ _); obtain ⟨o11a, o11b⟩ := (hv55_1 : In _ _ _); obtain ⟨o12a, o12b⟩ := (hy35_l3 : In _ _ _); obtain ⟨o13a, o13b⟩ := (hb13 : In _ _ _); obtain ⟨o14a, o14b⟩ := (hb38 : In _ _ _); obtain ⟨o15a, o15b⟩ := (eL8R : In _ _ _); obtain ⟨o16a, o16b⟩ := (hb39 : In _ _ _); omega) (by have ob10 : (0 : Int) ≤ (th 10) ∧ (th 10) ≤ 1 := (b0_10 hT :); have ob11 : (0 : Int) ≤ (th 11) ∧ (th 11) ≤ 9 := (b0_11 hT :); have ob12 : (0 : Int) ≤ (th 12) ∧ (th 12) ≤ 6 := (b0_12 hT :); have ob14 : (0 : Int) ≤ (th 14) ∧ (th 14) ≤ 511 := (b0_14 hT :); have ob15 : (0 : Int) ≤ (th 15) ∧ (th 15) ≤ 1 := (b0_15 hT :); have ob16 : (0 : Int) ≤ (th 16) ∧ (th 16) ≤ 20 := (b0_16 hT :); have ob17 : (0 : Int) ≤ (th 17) ∧ (th 17) ≤ 1 := (b0_17 hT :); have ob18 : (0 : Int) ≤ (th 18) ∧ (th 18) ≤ 18 := (b0_18 hT :); have ob38 : (0 : Int) ≤ (th 38) ∧ (th 38) ≤ 400 := (b0_38 hT :); have ob39 : (0 : Int) ≤ (th 39) ∧ (th 39) ≤ 200 := (b0_39 hT :); have ob44 : (0 : Int) ≤ (th 44) ∧ (th 44) ≤ 30 := (b0_44 hT :); obtain ⟨o0a, o0b⟩ := (hb60 : In _ _ _); obtain ⟨o1a, o1b⟩ := (hv14_1 : In _ _ _); obtain ⟨o2a, o2b⟩ := (hb3 : In _ _ _); obtain ⟨o3a, o3b⟩ := (hv17_1 : In _ _ _); obtain ⟨o4a, o4b⟩ := (hv20_1 : In _ _ _); obtain ⟨o5a, o5b⟩ := (hv23_1 : In _ _ _); obtain ⟨o6a, o6b⟩ := (hv25_1 : In _ _ _); obtain ⟨o7a, o7b⟩ := (hv36_1 : In _ _ _); obtain ⟨o8a, o8b⟩ := (hv47_1 : In _ _ _); obtain ⟨o9a, o9b⟩ := (hv48_1 : In _ _ _); obtain ⟨o10a, o10b⟩ := (hv53_1 : In _ _ _); obtain ⟨o11a, o11b⟩ := (hv55_1 : In _ _ _); obtain ⟨o12a, o12b⟩ := (hy35_l3 : In _ _ _); obtain ⟨o13a, o13b⟩ := (hb13 : In _ _ _); obtain ⟨o14a, o14b⟩ := (hb38 : In _ _ _); obtain ⟨o15a, o15b⟩ := (eL8R : In _ _ _); obtain ⟨o16a, o16b⟩ := (hb39 : In _ _ _); omega)) (In.mono hb63 (by decide) (by decide)) hP hD hS (by have ob10 : (0 : Int) ≤ (th 10) ∧ (th 10) ≤ 1 := (b0_10 hT :); have ob11 : (0 : Int) ≤ (th 11) ∧ (th 11) ≤ 9 := (b0_11 hT :); have ob12 : (0 : Int) ≤ (th 12) ∧ (th 12) ≤ 6 := (b0_12 hT :); have ob14 : (0 : Int) ≤ (th 14) ∧ (th 14) ≤ 511 := (b0_14 hT :); have ob15 : (0 : Int) ≤ (th 15) ∧ (th 15) ≤ 1 := (b0_15 hT :); have ob16 : (0 : Int) ≤ (th 16) ∧ (th 16) ≤ 20 := (b0_16 hT :); have ob17 : (0 : Int) ≤ (th 17) ∧ (th 17) ≤ 1 := (b0_17 hT :); have ob18 : (0 : Int) ≤ (th 18) ∧ (th 18) ≤ 18 := (b0_18 hT :); have ob38 : (0 : Int) ≤ (th 38) ∧ (th 38) ≤ 400 := (b0_38 hT :); have ob39 : (0 : Int) ≤ (th 39) ∧ (th 39) ≤ 200 := (b0_39 hT :); have ob44 : (0 : Int) ≤ (th 44) ∧ (th 44) ≤ 30 := (b0_44 hT :); obtain ⟨o0a, o0b⟩ := (hb60 : In _ _ _); obtain ⟨o1a, o1b⟩ := (hb63 : In _ _ _); obtain ⟨o2a, o2b⟩ := (hv14_1 : In _ _ _); obtain ⟨o3a, o3b⟩ := (hb3 : In _ _ _); obtain ⟨o4a, o4b⟩ := (hv17_1 : In _ _ _); obtain ⟨o5a, o5b⟩ := (hv20_1 : In _ _ _); obtain ⟨o6a, o6b⟩ := (hv23_1 : In _ _ _); obtain ⟨o7a, o7b⟩ := (hv25_1 : In _ _ _); obtain ⟨o8a, o8b⟩ := (hv36_1 : In _ _ _); obtain ⟨o9a, o9b⟩ := (hv47_1 : In _ _ _); obtain ⟨o10a, o10b⟩ := (hv48_1 : In _ _ _); obtain ⟨o11a, o11b⟩ := (hv53_1 : In _ _ _); obtain ⟨o12a, o12b⟩ := (hv55_1 : In _ _ _); obtain ⟨o13a, o13b⟩ := (hy35_l3 : In _ _ _); obtain ⟨o14a, o14b⟩ := (hb13 : In _ _ _); obtain ⟨o15a, o15b⟩ := (hb38 : In _ _ _); obtain ⟨o16a, o16b⟩ := (eL8R : In _ _ _); obtain ⟨o17a, o17b⟩ := (hb39 : In _ _ _); omega) (by have ob10 : (0 : Int) ≤ (th 10) ∧ (th 10) ≤ 1 := (b0_10 hT :); have ob11 : (0 : Int) ≤ (th 11) ∧ (th 11) ≤ 9 := (b0_11 hT :); have ob12 : (0 : Int) ≤ (th 12) ∧ (th 12) ≤ 6 := (b0_12 hT :); have ob14 : (0 : Int) ≤ (th 14) ∧ (th 14) ≤ 511 := (b0_14 hT :); have ob15 : (0 : Int) ≤ (th 15) ∧ (th 15) ≤ 1 := (b0_15 hT :); have ob16 : (0 : Int) ≤ (th 16) ∧ (th 16) ≤ 20 := (b0_16 hT :); have ob17 : (0 : Int) ≤ (th 17) ∧ (th 17) ≤ 1 := (b0_17 hT :); have ob18 : (0 : Int) ≤ (th 18) ∧ (th 18) ≤ 18 := (b0_18 hT :); have ob38 : (0 : Int) ≤ (th 38) ∧ (th 38) ≤ 400 := (b0_38 hT :); have ob39 : (0 : Int) ≤ (th 39) ∧ (th 39) ≤ 200 := (b0_39 hT :); have ob44 : (0 : Int) ≤ (th 44) ∧ (th 44) ≤ 30 := (b0_44 hT :); obtain ⟨o0a, o0b⟩ := (hb63 : In _ _ _); obtain ⟨o1a, o1b⟩ := (hb39 : In _ _ _); obtain ⟨o2a, o2b⟩ := (hv14_1 : In _ _ _); obtain ⟨o3a, o3b⟩ := (hb3 : In _ _ _); obtain ⟨o4a, o4b⟩ := (hv17_1 : In _ _ _); obtain ⟨o5a, o5b⟩ := (hv20_1 : In _ _ _); obtain ⟨o6a, o6b⟩ := (hv23_1 : In _ _ _); obtain ⟨o7a, o7b⟩ := (hv25_1 : In _ _ _); obtain ⟨o8a, o8b⟩ := (hv36_1 : In _ _ _); obtain ⟨o9a, o9b⟩ := (hv47_1 : In _ _ _); obtain ⟨o10a, o10b⟩ := (hv48_1 : In _ _ _); obtain ⟨o11a, o11b⟩ := (hv53_1 : In _ _ _); obtain ⟨o12a, o12b⟩ := (hv55_1 : In _ _ _); obtain ⟨o13a, o13b⟩ := (hb38 : In _ _ _); obtain ⟨o14a, o14b⟩ := (hy35_l3 : In _ _ _); omega) (by have hrm : x40.toInt = y35_l4.toInt % th 11 := rem_e (n := th 11) ex40 hg15_1 (by omega) (Int.le_trans (by decide) hb38.1); rw [et64, show (y35_l4.toInt + 1).toNat = (y35_l4.toInt).toNat + 1 by omega]; show _ = _ + (frL (th 11) (th 14) _ (y35_l4.toInt).toNat + _); rw [if_pos (show bitI (th 14) ((((y35_l4.toInt).toNat : Nat) : Int) % th 11) = 1 by rw [show (((y35_l4.toInt).toNat : Nat) : Int) = y35_l4.toInt by omega, ← hrm]; have ob10 : (0 : Int) ≤ (th 10) ∧ (th 10) ≤ 1 := (b0_10 hT :); have ob11 : (0 : Int) ≤ (th 11) ∧ (th 11) ≤ 9 := (b0_11 hT :); have ob12 : (0 : Int) ≤ (th 12) ∧ (th 12) ≤ 6 := (b0_12 hT :); have ob14 : (0 : Int) ≤ (th 14) ∧ (th 14) ≤ 511 := (b0_14 hT :); have ob15 : (0 : Int) ≤ (th 15) ∧ (th 15) ≤ 1 := (b0_15 hT :); have ob16 : (0 : Int) ≤ (th 16) ∧ (th 16) ≤ 20 := (b0_16 hT :); have ob17 : (0 : Int) ≤ (th 17) ∧ (th 17) ≤ 1 := (b0_17 hT :); have ob18 : (0 : Int) ≤ (th 18) ∧ (th 18) ≤ 18 := (b0_18 hT :); have ob38 : (0 : Int) ≤ (th 38) ∧ (th 38) ≤ 400 := (b0_38 hT :); have ob39 : (0 : Int) ≤ (th 39) ∧ (th 39) ≤ 200 := (b0_39 hT :); have ob44 : (0 : Int) ≤ (th 44) ∧ (th 44) ≤ 30 := (b0_44 hT :); obtain ⟨o0a, o0b⟩ := (hb58 : In _ _ _); obtain ⟨o1a, o1b⟩ := (hv14_1 : In _ _ _); obtain ⟨o2a, o2b⟩ := (hb3 : In _ _ _); obtain ⟨o3a, o3b⟩ := (hv17_1 : In _ _ _); obtain ⟨o4a, o4b⟩ := (hv20_1 : In _ _ _); obtain ⟨o5a, o5b⟩ := (hv23_1 : In _ _ _); obtain ⟨o6a, o6b⟩ := (hv25_1 : In _ _ _); obtain ⟨o7a, o7b⟩ := (hv36_1 : In _ _ _); obtain ⟨o8a, o8b⟩ := (hv47_1 : In _ _ _); obtain ⟨o9a, o9b⟩ := (hv48_1 : In _ _ _); obtain ⟨o10a, o10b⟩ := (hv53_1 : In _ _ _); obtain ⟨o11a, o11b⟩ := (hv55_1 : In _ _ _); omega)]; omega) (lv_sub hl [2, 3, 4, 1, 0] rfl) (msu et64 (by decide) hmz35)
  exact hJ35 ((6 - (0 : Int32).toInt).toNat + 1) x33 0 _ _ _ (In.mono hb34 (by decide) (by decide)) (⟨by decide, by decide⟩ : In 0 0 6) hP hD hS (by have ob10 : (0 : Int) ≤ (th 10) ∧ (th 10) ≤ 1 := (b0_10 hT :); have ob11 : (0 : Int) ≤ (th 11) ∧ (th 11) ≤ 9 := (b0_11 hT :); have ob12 : (0 : Int) ≤ (th 12) ∧ (th 12) ≤ 6 := (b0_12 hT :); have ob14 : (0 : Int) ≤ (th 14) ∧ (th 14) ≤ 511 := (b0_14 hT :); have ob15 : (0 : Int) ≤ (th 15) ∧ (th 15) ≤ 1 := (b0_15 hT :); have ob16 : (0 : Int) ≤ (th 16) ∧ (th 16) ≤ 20 := (b0_16 hT :); have ob17 : (0 : Int) ≤ (th 17) ∧ (th 17) ≤ 1 := (b0_17 hT :); have ob18 : (0 : Int) ≤ (th 18) ∧ (th 18) ≤ 18 := (b0_18 hT :); have ob38 : (0 : Int) ≤ (th 38) ∧ (th 38) ≤ 400 := (b0_38 hT :); have ob39 : (0 : Int) ≤ (th 39) ∧ (th 39) ≤ 200 := (b0_39 hT :); have ob44 : (0 : Int) ≤ (th 44) ∧ (th 44) ≤ 30 := (b0_44 hT :); have oc0 : (0 : Int32).toInt = 0 := (by decide); obtain ⟨o0a, o0b⟩ := (hb34 : In _ _ _); obtain ⟨o2a, o2b⟩ := (hv14_1 : In _ _ _); obtain ⟨o3a, o3b⟩ := (hb3 : In _ _ _); obtain ⟨o4a, o4b⟩ := (hv17_1 : In _ _ _); obtain ⟨o5a, o5b⟩ := (hv20_1 : In _ _ _); obtain ⟨o6a, o6b⟩ := (hv23_1 : In _ _ _); obtain ⟨o7a, o7b⟩ := (hv25_1 : In _ _ _); obtain ⟨o8a, o8b⟩ := (hv36_1 : In _ _ _); obtain ⟨o9a, o9b⟩ := (hv47_1 : In _ _ _); obtain ⟨o10a, o10b⟩ := (hv48_1 : In _ _ _); obtain ⟨o11a, o11b⟩ := (hv53_1 : In _ _ _); obtain ⟨o12a, o12b⟩ := (hv55_1 : In _ _ _); omega) (by have ob10 : (0 : Int) ≤ (th 10) ∧ (th 10) ≤ 1 := (b0_10 hT :); have ob11 : (0 : Int) ≤ (th 11) ∧ (th 11) ≤ 9 := (b0_11 hT :); have ob12 : (0 : Int) ≤ (th 12) ∧ (th 12) ≤ 6 := (b0_12 hT :); have ob14 : (0 : Int) ≤ (th 14) ∧ (th 14) ≤ 511 := (b0_14 hT :); have ob15 : (0 : Int) ≤ (th 15) ∧ (th 15) ≤ 1 := (b0_15 hT :); have ob16 : (0 : Int) ≤ (th 16) ∧ (th 16) ≤ 20 := (b0_16 hT :); have ob17 : (0 : Int) ≤ (th 17) ∧ (th 17) ≤ 1 := (b0_17 hT :); have ob18 : (0 : Int) ≤ (th 18) ∧ (th 18) ≤ 18 := (b0_18 hT :); have ob38 : (0 : Int) ≤ (th 38) ∧ (th 38) ≤ 400 := (b0_38 hT :); have ob39 : (0 : Int) ≤ (th 39) ∧ (th 39) ≤ 200 := (b0_39 hT :); have ob44 : (0 : Int) ≤ (th 44) ∧ (th 44) ≤ 30 := (b0_44 hT :); have oc0 : (0 : Int32).toInt = 0 := (by decide); obtain ⟨o1a, o1b⟩ := (hz1 : In _ _ _); obtain ⟨o2a, o2b⟩ := (hv14_1 : In _ _ _); obtain ⟨o3a, o3b⟩ := (hb3 : In _ _ _); obtain ⟨o4a, o4b⟩ := (hv17_1 : In _ _ _); obtain ⟨o5a, o5b⟩ := (hv20_1 : In _ _ _); obtain ⟨o6a, o6b⟩ := (hv23_1 : In _ _ _); obtain ⟨o7a, o7b⟩ := (hv25_1 : In _ _ _); obtain ⟨o8a, o8b⟩ := (hv36_1 : In _ _ _); obtain ⟨o9a, o9b⟩ := (hv47_1 : In _ _ _); obtain ⟨o10a, o10b⟩ := (hv48_1 : In _ _ _); obtain ⟨o11a, o11b⟩ := (hv53_1 : In _ _ _); obtain ⟨o12a, o12b⟩ := (hv55_1 : In _ _ _); omega) (by rw [show ((0 : Int32).toInt).toNat = 0 by decide]; show _ = _ + (0 : Int); omega) (lv_sub hl [3, 4, 2, 1, 0] rfl) (msI _)

abbrev rm_X11_free : Room := { frames := 3, cells := 0, slots := 0, locals := 66 }
abbrev po_X11_free (g : GG) (ad : Nat → Nat) (th : Nat → Int) (L : List Nat) (f : HP)  : Int32 → (List Nat × HP) → Prop := fun r u => u.1 = L ∧ (∃ th' : Nat → Int, (MI th' ∧ SBM th th') ∧ TI g ad th' u.2) ∧ (∀ b, b ≠ (ad 255) → b ≠ (ad 265) → b ≠ (ad 266) → b ≠ (ad 267) → b ≠ (ad 269) → b ≠ (ad 260) → b ≠ (ad 261) → b ≠ (ad 262) → b ≠ (ad 263) → b ≠ (ad 264) → u.2 b = f b)
set_option maxHeartbeats 4000000 in
set_option maxRecDepth 100000 in
theorem s_X11_free (l : Launch) (g : GG) (ad : Nat → Nat) (th : Nat → Int) (L : List Nat) (f : HP) (sz : Nat)  (hst : ST ad L) (hT : TI g ad th f) (hM : MI th) : MtI l g yX11_free cX11_free 1 (some .int) rm_X11_free [.ref (ad 255)] L f sz (po_X11_free g ad th L f ) := by
  refine MtI.of (by decide +kernel) (Nat.le_of_ble_eq_true rfl) ?_
  intro p e s m below meth c A hEn hP hD hS ls hl
  obtain ⟨hx, hb, hr, hml, hown, hlocks, hts, hG, hA, hE, hnm⟩ := hEn
  have hown : s.vm.findClass "RulerWordModel" = some m.cls := hown
  have hl : lv_has ls 1 [(0, .ref (ad 255))] := hl
  have hfr : (∀ b, b ≠ (ad 255) → b ≠ (ad 265) → b ≠ (ad 266) → b ≠ (ad 267) → b ≠ (ad 269) → b ≠ (ad 260) → b ≠ (ad 261) → b ≠ (ad 262) → b ≠ (ad 263) → b ≠ (ad 264) → f b = f b) := fun b z0_ z1_ z2_ z3_ z4_ z5_ z6_ z7_ z8_ z9_ => rfl
  have hM0 := hM
  obtain ⟨m1, m2, m3, m4, m5, m6, m7, m8, m9, m10⟩ := hM0
  have m20 := mi20 m2 m3
  refine lv_aload_n hx hb dX11_free_0 rfl (lv_at hl 0 rfl) ?_
  refine lv_iconst (v := 0) hx hb dX11_free_1 (by decide) ?_
  refine M0e hT (fun v0_1 v2_1 v3_1 v4_1 v5_1 v6_1 v8_1 v9_1 v12_1 v13_1 v14_1 v15_1 v16_1 v17_1 v18_1 v19_1 v20_1 v21_1 v22_1 v23_1 v25_1 v36_1 v37_1 v38_1 v39_1 v40_1 v45_1 v46_1 v47_1 v48_1 v50_1 v51_1 v53_1 v55_1 hf2 hv0_1 hv2_1 hg2_1 hv3_1 hg3_1 hv4_1 hg4_1 hv5_1 hg5_1 hv6_1 hg6_1 hv8_1 hg8_1 hv9_1 hg9_1 hv12_1 hv13_1 hg13_1 hv14_1 hg14_1 hv15_1 hg15_1 hv17_1 hg17_1 hv20_1 hg20_1 hv23_1 hg23_1 hv25_1 hg25_1 hv36_1 hg36_1 hv47_1 hg47_1 hv48_1 hg48_1 hv53_1 hg53_1 hv55_1 hg55_1 hrel0_1 => ?_)
  refine pl_put (ty := .int) (v := .int 0) (fs' := [.int 0, .ref (ad 256), .int v2_1, .int v3_1, .int v4_1, .int v5_1, .int v6_1, .ref (ad 257), .int v8_1, .int v9_1, .ref (ad 258), .ref (ad 259), .int v12_1, .int v13_1, .int v14_1, .int v15_1, .int v16_1, .int v17_1, .int v18_1, .int v19_1, .int v20_1, .long v21_1, .long v22_1, .int v23_1, .ref (ad 260), .int v25_1, .ref (ad 261), .ref (ad 262), .ref (ad 263), .ref (ad 264), .ref (ad 265), .ref (ad 266), .ref (ad 267), .ref (ad 268), .ref (ad 269), .ref (ad 270), .int v36_1, .int v37_1, .int v38_1, .int v39_1, .int v40_1, .ref (ad 271), .ref (ad 272), .ref (ad 273), .ref (ad 274), .long v45_1, .long v46_1, .int v47_1, .int v48_1, .ref (ad 275), .int v50_1, .int v51_1, .ref (ad 276), .int v53_1, .ref (ad 277), .int v55_1]) hx hb hts (fun w h => mT (inX11 w h)) tyX11 tyX11_ok nmX11 hown hG.1 hP hD hS (hst.1 255 (by decide)) hf2 rfl 0 (by decide) (hts _ (mT wg_1336)) (fun _ h => h) rfl (by decide +kernel) (rfl) (rfl) (Nat.le_of_ble_eq_true rfl) rfl dX11_free_2 (fun H locs f3 hf4 ho5 hP hD hS => ?_)
  have hfr : (∀ b, b ≠ (ad 255) → b ≠ (ad 265) → b ≠ (ad 266) → b ≠ (ad 267) → b ≠ (ad 269) → b ≠ (ad 260) → b ≠ (ad 261) → b ≠ (ad 262) → b ≠ (ad 263) → b ≠ (ad 264) → f3 b = f b) := fun b z0_ z1_ z2_ z3_ z4_ z5_ z6_ z7_ z8_ z9_ => (ho5 b z0_).trans (hfr b z0_ z1_ z2_ z3_ z4_ z5_ z6_ z7_ z8_ z9_)
  refine lv_aload_n hx hb dX11_free_5 rfl (lv_at hl 0 rfl) ?_
  refine pl_get (v := .int v23_1) hx hb hts (fun w h => mT (inX11 w h)) hown hG.1 hP (hst.1 255 (by decide)) hf4 rfl 23 (by decide) (hts _ (mT wg_1359)) (fun _ h => h) rfl dX11_free_6 ?_
  have hT := TI.updM hT hst (k := 0) (by decide) hf4 ho5 ⟨0, v2_1, v3_1, v4_1, v5_1, v6_1, v8_1, v9_1, v12_1, v13_1, v14_1, v15_1, v16_1, v17_1, v18_1, v19_1, v20_1, v21_1, v22_1, v23_1, v25_1, v36_1, v37_1, v38_1, v39_1, v40_1, v45_1, v46_1, v47_1, v48_1, v50_1, v51_1, v53_1, v55_1, rfl, (⟨by decide, by decide⟩ : In 0 0 1), hv2_1, hg2_1, hv3_1, hg3_1, hv4_1, hg4_1, hv5_1, hg5_1, hv6_1, hg6_1, hv8_1, hg8_1, hv9_1, hg9_1, hv12_1, hv13_1, hg13_1, hv14_1, hg14_1, hv15_1, hg15_1, hv17_1, hg17_1, hv20_1, hg20_1, hv23_1, hg23_1, hv25_1, hg25_1, hv36_1, hg36_1, hv47_1, hg47_1, hv48_1, hg48_1, hv53_1, hg53_1, hv55_1, hg55_1, hrel0_1⟩
  refine lv_if_ne (tgt := 14) hx hb dX11_free_9 (by decide) (fun c6 => ?_) (fun c6 => ?_)
  ·
    have oc0 : (0 : Int32).toInt = 0 := by decide
    have cc7 : v23_1.toInt ≠ (0 : Int32).toInt := i32_ne c6
    have hb8 : In v23_1 1 1 := In.ne1 hv23_1 (⟨by decide, by decide⟩ : In 0 0 0) cc7 (by omega) (by omega)
    refine lv_aload_n hx hb dX11_free_14 rfl (lv_at hl 0 rfl) ?_
    refine call_v (run_V (rm := rm_X11_takesUp) hx hb hml hown hts (s_X11_takesUp l g ad th _ _ _  hst hT (show (th 22) = 2126 from (by have ob10 : (0 : Int) ≤ (th 10) ∧ (th 10) ≤ 1 := (b0_10 hT :); have ob11 : (0 : Int) ≤ (th 11) ∧ (th 11) ≤ 9 := (b0_11 hT :); have ob12 : (0 : Int) ≤ (th 12) ∧ (th 12) ≤ 6 := (b0_12 hT :); have ob14 : (0 : Int) ≤ (th 14) ∧ (th 14) ≤ 511 := (b0_14 hT :); have ob15 : (0 : Int) ≤ (th 15) ∧ (th 15) ≤ 1 := (b0_15 hT :); have ob16 : (0 : Int) ≤ (th 16) ∧ (th 16) ≤ 20 := (b0_16 hT :); have ob17 : (0 : Int) ≤ (th 17) ∧ (th 17) ≤ 1 := (b0_17 hT :); have ob18 : (0 : Int) ≤ (th 18) ∧ (th 18) ≤ 18 := (b0_18 hT :); have ob38 : (0 : Int) ≤ (th 38) ∧ (th 38) ≤ 400 := (b0_38 hT :); have ob39 : (0 : Int) ≤ (th 39) ∧ (th 39) ≤ 200 := (b0_39 hT :); have ob44 : (0 : Int) ≤ (th 44) ∧ (th 44) ≤ 30 := (b0_44 hT :); obtain ⟨o0a, o0b⟩ := (hv14_1 : In _ _ _); obtain ⟨o1a, o1b⟩ := (hv15_1 : In _ _ _); obtain ⟨o2a, o2b⟩ := (hv17_1 : In _ _ _); obtain ⟨o3a, o3b⟩ := (hv20_1 : In _ _ _); obtain ⟨o4a, o4b⟩ := (hb8 : In _ _ _); obtain ⟨o5a, o5b⟩ := (hv25_1 : In _ _ _); obtain ⟨o6a, o6b⟩ := (hv36_1 : In _ _ _); obtain ⟨o7a, o7b⟩ := (hv47_1 : In _ _ _); obtain ⟨o8a, o8b⟩ := (hv48_1 : In _ _ _); obtain ⟨o9a, o9b⟩ := (hv53_1 : In _ _ _); obtain ⟨o10a, o10b⟩ := (hv55_1 : In _ _ _); omega)) (show (th 20) ≤ 18 from (by have ob10 : (0 : Int) ≤ (th 10) ∧ (th 10) ≤ 1 := (b0_10 hT :); have ob11 : (0 : Int) ≤ (th 11) ∧ (th 11) ≤ 9 := (b0_11 hT :); have ob12 : (0 : Int) ≤ (th 12) ∧ (th 12) ≤ 6 := (b0_12 hT :); have ob14 : (0 : Int) ≤ (th 14) ∧ (th 14) ≤ 511 := (b0_14 hT :); have ob15 : (0 : Int) ≤ (th 15) ∧ (th 15) ≤ 1 := (b0_15 hT :); have ob16 : (0 : Int) ≤ (th 16) ∧ (th 16) ≤ 20 := (b0_16 hT :); have ob17 : (0 : Int) ≤ (th 17) ∧ (th 17) ≤ 1 := (b0_17 hT :); have ob18 : (0 : Int) ≤ (th 18) ∧ (th 18) ≤ 18 := (b0_18 hT :); have ob38 : (0 : Int) ≤ (th 38) ∧ (th 38) ≤ 400 := (b0_38 hT :); have ob39 : (0 : Int) ≤ (th 39) ∧ (th 39) ≤ 200 := (b0_39 hT :); have ob44 : (0 : Int) ≤ (th 44) ∧ (th 44) ≤ 30 := (b0_44 hT :); obtain ⟨o0a, o0b⟩ := (hv14_1 : In _ _ _); obtain ⟨o1a, o1b⟩ := (hv15_1 : In _ _ _); obtain ⟨o2a, o2b⟩ := (hv17_1 : In _ _ _); obtain ⟨o3a, o3b⟩ := (hv20_1 : In _ _ _); obtain ⟨o4a, o4b⟩ := (hb8 : In _ _ _); obtain ⟨o5a, o5b⟩ := (hv25_1 : In _ _ _); obtain ⟨o6a, o6b⟩ := (hv36_1 : In _ _ _); obtain ⟨o7a, o7b⟩ := (hv47_1 : In _ _ _); obtain ⟨o8a, o8b⟩ := (hv48_1 : In _ _ _); obtain ⟨o9a, o9b⟩ := (hv53_1 : In _ _ _); obtain ⟨o10a, o10b⟩ := (hv55_1 : In _ _ _); omega)) (show (th 21) = (th 11) from (by have ob10 : (0 : Int) ≤ (th 10) ∧ (th 10) ≤ 1 := (b0_10 hT :); have ob11 : (0 : Int) ≤ (th 11) ∧ (th 11) ≤ 9 := (b0_11 hT :); have ob12 : (0 : Int) ≤ (th 12) ∧ (th 12) ≤ 6 := (b0_12 hT :); have ob14 : (0 : Int) ≤ (th 14) ∧ (th 14) ≤ 511 := (b0_14 hT :); have ob15 : (0 : Int) ≤ (th 15) ∧ (th 15) ≤ 1 := (b0_15 hT :); have ob16 : (0 : Int) ≤ (th 16) ∧ (th 16) ≤ 20 := (b0_16 hT :); have ob17 : (0 : Int) ≤ (th 17) ∧ (th 17) ≤ 1 := (b0_17 hT :); have ob18 : (0 : Int) ≤ (th 18) ∧ (th 18) ≤ 18 := (b0_18 hT :); have ob38 : (0 : Int) ≤ (th 38) ∧ (th 38) ≤ 400 := (b0_38 hT :); have ob39 : (0 : Int) ≤ (th 39) ∧ (th 39) ≤ 200 := (b0_39 hT :); have ob44 : (0 : Int) ≤ (th 44) ∧ (th 44) ≤ 30 := (b0_44 hT :); obtain ⟨o0a, o0b⟩ := (hv14_1 : In _ _ _); obtain ⟨o1a, o1b⟩ := (hv15_1 : In _ _ _); obtain ⟨o2a, o2b⟩ := (hv17_1 : In _ _ _); obtain ⟨o3a, o3b⟩ := (hv20_1 : In _ _ _); obtain ⟨o4a, o4b⟩ := (hb8 : In _ _ _); obtain ⟨o5a, o5b⟩ := (hv25_1 : In _ _ _); obtain ⟨o6a, o6b⟩ := (hv36_1 : In _ _ _); obtain ⟨o7a, o7b⟩ := (hv47_1 : In _ _ _); obtain ⟨o8a, o8b⟩ := (hv48_1 : In _ _ _); obtain ⟨o9a, o9b⟩ := (hv53_1 : In _ _ _); obtain ⟨o10a, o10b⟩ := (hv55_1 : In _ _ _); omega))) cV_X11_takesUp wg_1648 ⟨Nat.le_of_ble_eq_true rfl, Nat.le_of_ble_eq_true rfl⟩ hG hE hA hP hD hS (hst.1 255 (by decide)) hf4 rfl rfl hl.1 (As := []) (rest := []) rfl (Nat.le_of_ble_eq_true rfl) dX11_free_15 ⟨Nat.le_of_ble_eq_true rfl, Nat.le_of_ble_eq_true rfl⟩) hA hD hS (fun L10 f11 H locs hp12 hP hD hS => ?_)
    obtain ⟨eL13L, eL13T, eL13F⟩ := hp12
    have eL13L : L10 = L := eL13L
    rw [eL13L] at hP hD
    obtain ⟨zz14, zz15, hzz14, eL13T⟩ := eL13T
    have hzz14 : ((zz14 = (th 19) ∧ 0 ≤ zz14 ∧ zz14 ≤ (th 20)) ∧ (0 ≤ zz15 ∧ zz15 ≤ 511)) ∧ capI zz15 ((th 11)) := hzz14
    have hT : TI g ad (gset (gset th 18 zz14) 14 zz15) f11 := eL13T
    have eL13F : ∀ b, b ≠ (ad 255) → b ≠ (ad 265) → b ≠ (ad 266) → b ≠ (ad 267) → b ≠ (ad 269) → b ≠ (ad 260) → b ≠ (ad 261) → b ≠ (ad 262) → b ≠ (ad 263) → b ≠ (ad 264) → f11 b = f3 b := eL13F
    have hfr : (∀ b, b ≠ (ad 255) → b ≠ (ad 265) → b ≠ (ad 266) → b ≠ (ad 267) → b ≠ (ad 269) → b ≠ (ad 260) → b ≠ (ad 261) → b ≠ (ad 262) → b ≠ (ad 263) → b ≠ (ad 264) → f11 b = f b) := fun b z0_ z1_ z2_ z3_ z4_ z5_ z6_ z7_ z8_ z9_ => (eL13F b z0_ z1_ z2_ z3_ z4_ z5_ z6_ z7_ z8_ z9_).trans (hfr b z0_ z1_ z2_ z3_ z4_ z5_ z6_ z7_ z8_ z9_)
    refine lv_aload_n hx hb dX11_free_18 rfl (lv_at hl 0 rfl) ?_
    refine lv_aload_n hx hb dX11_free_19 rfl (lv_at hl 0 rfl) ?_
    refine M0e hT (fun v0_16 v2_16 v3_16 v4_16 v5_16 v6_16 v8_16 v9_16 v12_16 v13_16 v14_16 v15_16 v16_16 v17_16 v18_16 v19_16 v20_16 v21_16 v22_16 v23_16 v25_16 v36_16 v37_16 v38_16 v39_16 v40_16 v45_16 v46_16 v47_16 v48_16 v50_16 v51_16 v53_16 v55_16 hf17 hv0_16 hv2_16 hg2_16 hv3_16 hg3_16 hv4_16 hg4_16 hv5_16 hg5_16 hv6_16 hg6_16 hv8_16 hg8_16 hv9_16 hg9_16 hv12_16 hv13_16 hg13_16 hv14_16 hg14_16 hv15_16 hg15_16 hv17_16 hg17_16 hv20_16 hg20_16 hv23_16 hg23_16 hv25_16 hg25_16 hv36_16 hg36_16 hv47_16 hg47_16 hv48_16 hg48_16 hv53_16 hg53_16 hv55_16 hg55_16 hrel0_16 => ?_)
    have hg2_16 : v2_16.toInt = th 13 := hg2_16
    have hg3_16 : v3_16.toInt = th 37 := hg3_16
    have hg4_16 : v4_16.toInt = th 42 := hg4_16
    have hg5_16 : v5_16.toInt = th 40 := hg5_16
    have hg6_16 : v6_16.toInt = th 41 := hg6_16
    have hg8_16 : v8_16.toInt = th 43 := hg8_16
    have hg9_16 : v9_16.toInt = th 35 := hg9_16
    have hg13_16 : v13_16.toInt = th 36 := hg13_16
    have hg14_16 : v14_16.toInt = th 10 := hg14_16
    have hg15_16 : v15_16.toInt = th 11 := hg15_16
    have hg17_16 : v17_16.toInt = th 12 := hg17_16
    have hg20_16 : v20_16.toInt = zz15 := hg20_16
    have hg23_16 : v23_16.toInt = th 15 := hg23_16
    have hg25_16 : v25_16.toInt = th 44 := hg25_16
    have hg36_16 : v36_16.toInt = zz14 := hg36_16
    have hg47_16 : v47_16.toInt = th 16 := hg47_16
    have hg48_16 : v48_16.toInt = th 17 := hg48_16
    have hg53_16 : v53_16.toInt = th 38 := hg53_16
    have hg55_16 : v55_16.toInt = th 39 := hg55_16
    refine pl_get (v := .int v17_16) hx hb hts (fun w h => mT (inX11 w h)) hown hG.1 hP (hst.1 255 (by decide)) hf17 rfl 17 (by decide) (hts _ (mT wg_1353)) (fun _ h => h) rfl dX11_free_20 ?_
    refine call_i (run_V (rm := rm_X11_freeIn) hx hb hml hown hts (s_X11_freeIn l g ad (gset (gset th 18 zz14) 14 zz15) _ _ _ v17_16 hst hT hv17_16 (show 3 ≤ th 11 by omega)) cV_X11_freeIn wg_1823 ⟨Nat.le_of_ble_eq_true rfl, Nat.le_of_ble_eq_true rfl⟩ hG hE hA hP hD hS (hst.1 255 (by decide)) hf17 rfl rfl hl.1 (As := [.int v17_16]) (rest := []) rfl (Nat.le_of_ble_eq_true rfl) dX11_free_23 ⟨Nat.le_of_ble_eq_true rfl, Nat.le_of_ble_eq_true rfl⟩) hA hD hS (fun r18 L19 f20 H locs hp21 hP hD hS => ?_)
    obtain ⟨eL22L, eL22T, eL22X0⟩ := hp21
    have eL22L : L19 = L := eL22L
    have eL22T : f20 = f11 := eL22T
    rw [eL22L, eL22T] at hP hD
    have hfi23 : r18.toInt = frI (rnd (th 10)) (th 11) (zz15) v17_16.toInt := eL22X0
    exact ret_i (ty := .int) hx hb hr hlocks (rfl) hP hD hS (Nat.le_of_ble_eq_true rfl) (Nat.le_of_ble_eq_true rfl) (⟨rfl, ⟨(gset (gset th 18 zz14) 14 zz15), ⟨(show MI (gset (gset th 18 zz14) 14 zz15) from ⟨m1, m2, (show th 20 = (th 12) * rnd (th 10) from m3), m4, m5, m6, m7, m8, m9, m10⟩), (SBM.set (k := 14) (SBM.set (k := 18) (SBM.rf th) (by decide)) (by decide))⟩, hT⟩, hfr⟩) dX11_free_26
  ·
    have oc0 : (0 : Int32).toInt = 0 := by decide
    have cc24 : v23_1.toInt = (0 : Int32).toInt := congrArg Int32.toInt c6
    have hb25 : In v23_1 0 0 := In.eq1 hv23_1 (⟨by decide, by decide⟩ : In 0 0 0) cc24 (by omega) (by omega)
    refine lv_iconst (v := (-1)) hx hb dX11_free_12 (by decide) ?_
    exact ret_i (ty := .int) hx hb hr hlocks (rfl) hP hD hS (Nat.le_of_ble_eq_true rfl) (Nat.le_of_ble_eq_true rfl) (⟨rfl, ⟨th, ⟨(show MI th from hM), (SBM.rf th)⟩, hT⟩, hfr⟩) dX11_free_13

abbrev rm_X11_leastBroken : Room := { frames := 6, cells := 0, slots := 0, locals := 148 }
abbrev po_X11_leastBroken (g : GG) (ad : Nat → Nat) (th : Nat → Int) (L : List Nat) (f : HP)  : Int32 → (List Nat × HP) → Prop := fun r u => u.1 = L ∧ (∃ z18 : Int, (True) ∧ TI g ad (gset th 18 z18) u.2) ∧ (∀ b, b ≠ (ad 255) → b ≠ (ad 265) → b ≠ (ad 266) → b ≠ (ad 267) → b ≠ (ad 268) → b ≠ (ad 269) → b ≠ (ad 270) → b ≠ (ad 261) → b ≠ (ad 262) → b ≠ (ad 263) → b ≠ (ad 264) → u.2 b = f b)
set_option maxHeartbeats 4000000 in
set_option maxRecDepth 100000 in
theorem s_X11_leastBroken (l : Launch) (g : GG) (ad : Nat → Nat) (th : Nat → Int) (L : List Nat) (f : HP) (sz : Nat)  (hst : ST ad L) (hT : TI g ad th f) (hn3 : 3 ≤ th 11) : MtI l g yX11_leastBroken cX11_leastBroken 3 (some .int) rm_X11_leastBroken [.ref (ad 255)] L f sz (po_X11_leastBroken g ad th L f ) := by
  refine MtI.of (by decide +kernel) (Nat.le_of_ble_eq_true rfl) ?_
  intro p e s m below meth c A hEn hP hD hS ls hl
  obtain ⟨hx, hb, hr, hml, hown, hlocks, hts, hG, hA, hE, hnm⟩ := hEn
  have hown : s.vm.findClass "RulerWordModel" = some m.cls := hown
  have hl : lv_has ls 3 [(0, .ref (ad 255))] := hl
  have hfr : (∀ b, b ≠ (ad 255) → b ≠ (ad 265) → b ≠ (ad 266) → b ≠ (ad 267) → b ≠ (ad 268) → b ≠ (ad 269) → b ≠ (ad 270) → b ≠ (ad 261) → b ≠ (ad 262) → b ≠ (ad 263) → b ≠ (ad 264) → f b = f b) := fun b z0_ z1_ z2_ z3_ z4_ z5_ z6_ z7_ z8_ z9_ z10_ => rfl
  refine lv_iconst (v := 1) hx hb dX11_leastBroken_0 (by decide) ?_
  refine lv_aload_n hx hb dX11_leastBroken_1 rfl (lv_at hl 0 rfl) ?_
  refine lv_aload_n hx hb dX11_leastBroken_2 rfl (lv_at hl 0 rfl) ?_
  refine M0e hT (fun v0_1 v2_1 v3_1 v4_1 v5_1 v6_1 v8_1 v9_1 v12_1 v13_1 v14_1 v15_1 v16_1 v17_1 v18_1 v19_1 v20_1 v21_1 v22_1 v23_1 v25_1 v36_1 v37_1 v38_1 v39_1 v40_1 v45_1 v46_1 v47_1 v48_1 v50_1 v51_1 v53_1 v55_1 hf2 hv0_1 hv2_1 hg2_1 hv3_1 hg3_1 hv4_1 hg4_1 hv5_1 hg5_1 hv6_1 hg6_1 hv8_1 hg8_1 hv9_1 hg9_1 hv12_1 hv13_1 hg13_1 hv14_1 hg14_1 hv15_1 hg15_1 hv17_1 hg17_1 hv20_1 hg20_1 hv23_1 hg23_1 hv25_1 hg25_1 hv36_1 hg36_1 hv47_1 hg47_1 hv48_1 hg48_1 hv53_1 hg53_1 hv55_1 hg55_1 hrel0_1 => ?_)
  have hb3 : In v15_1 3 9 := ⟨by rw [hg15_1]; exact hn3, hv15_1.2⟩
  refine pl_get (v := .int v17_1) hx hb hts (fun w h => mT (inX11 w h)) hown hG.1 hP (hst.1 255 (by decide)) hf2 rfl 17 (by decide) (hts _ (mT wg_1353)) (fun _ h => h) rfl dX11_leastBroken_3 ?_
  refine call_i (run_V (rm := rm_X11_freeIn) hx hb hml hown hts (s_X11_freeIn l g ad th _ _ _ v17_1 hst hT hv17_1 hn3) cV_X11_freeIn wg_1823 ⟨Nat.le_of_ble_eq_true rfl, Nat.le_of_ble_eq_true rfl⟩ hG hE hA hP hD hS (hst.1 255 (by decide)) hf2 rfl rfl hl.1 (As := [.int v17_1]) (rest := [.int 1]) rfl (Nat.le_of_ble_eq_true rfl) dX11_leastBroken_6 ⟨Nat.le_of_ble_eq_true rfl, Nat.le_of_ble_eq_true rfl⟩) hA hD hS (fun r4 L5 f6 H locs hp7 hP hD hS => ?_)
  obtain ⟨eL8L, eL8T, eL8X0⟩ := hp7
  have eL8L : L5 = L := eL8L
  have eL8T : f6 = f := eL8T
  rw [eL8L, eL8T] at hP hD
  have hfi9 : r4.toInt = frI (rnd (th 10)) (th 11) (th 14) v17_1.toInt := eL8X0
  refine lv_ishl hx hb dX11_leastBroken_9 ?_
  refine lv_topi (fun x10 ex10 => ?_)
  refine lv_istore_n (lv' := [(1, .int x10), (0, .ref (ad 255))]) hx hb dX11_leastBroken_10 rfl hl (by decide) rfl (fun ls hl => ?_)
  refine lv_iconst (v := 0) hx hb dX11_leastBroken_11 (by decide) ?_
  refine lv_istore_n (lv' := [(2, .int 0), (1, .int x10), (0, .ref (ad 255))]) hx hb dX11_leastBroken_12 rfl hl (by decide) rfl (fun ls hl => ?_)
  have hJ13 : ∀ (k13 : Nat) (zg13_zg : Int) (y13_l2 : Int32) (f_13 : HP) (H : Heap) (locs : List Loc) (ls : Array Slot), In y13_l2 0 2147483647 → va_P g.1 vwCl (va_pl L f_13) H → va_D A (va_pl L f_13) → va_S A s.heap H locs → TI g ad (gset th 18 zg13_zg) f_13 → (∀ b, b ≠ (ad 255) → b ≠ (ad 265) → b ≠ (ad 266) → b ≠ (ad 267) → b ≠ (ad 268) → b ≠ (ad 269) → b ≠ (ad 270) → b ≠ (ad 261) → b ≠ (ad 262) → b ≠ (ad 263) → b ≠ (ad 264) → f_13 b = f b) → lv_has ls 3 [(0, .ref (ad 255)), (1, .int x10), (2, .int y13_l2)] → 2147483647 - y13_l2.toInt < ((k13 : Nat) : Int) → W p l e rm_X11_leastBroken s m [.ref (ad 255)].toArray below meth c H locs 0 0 (MQ below (va_Qi (po_X11_leastBroken g ad th L f ) (PstB g A) A) [.ref (ad 255)].toArray s rm_X11_leastBroken.cells rm_X11_leastBroken.slots A) (F0 m 13 ls []) := by
    intro k13
    induction k13 with
    | zero =>
      intro zg13_zg y13_l2 f_13 H locs ls hy13_l2 hP hD hS hT hfr hl hmz13
      exact ms0 hy13_l2 hmz13
    | succ k13 ih13 =>
      intro zg13_zg y13_l2 f_13 H locs ls hy13_l2 hP hD hS hT hfr hl hmz13
      refine lv_iload_n hx hb dX11_leastBroken_13 rfl (lv_at hl 2 rfl) ?_
      refine lv_iload_n hx hb dX11_leastBroken_14 rfl (lv_at hl 1 rfl) ?_
      refine lv_icmp_ge (tgt := 39) hx hb dX11_leastBroken_15 (by decide) (fun c11 => ?_) (fun c11 => ?_)
      ·
        have cc12 : x10.toInt ≤ y13_l2.toInt := i32_le.mp c11
        refine lv_iconst (v := (-1)) hx hb dX11_leastBroken_39 (by decide) ?_
        exact ret_i (ty := .int) hx hb hr hlocks (rfl) hP hD hS (Nat.le_of_ble_eq_true rfl) (Nat.le_of_ble_eq_true rfl) (⟨rfl, ⟨zg13_zg, trivial, TI.cast hT (by funext q; by_cases hq0 : q = 18; (subst hq0; rfl); simp only [gset, if_neg hq0])⟩, hfr⟩) dX11_leastBroken_40
      ·
        have cc13 : y13_l2.toInt < x10.toInt := i32_nle c11
        have hb14 : In y13_l2 0 2147483646 := In.lt1 hy13_l2 (In.full x10) cc13 (by omega) (by omega)
        have hb15 : In x10 1 2147483647 := In.lt2 hy13_l2 (In.full x10) cc13 (by omega) (by omega)
        refine lv_aload_n hx hb dX11_leastBroken_18 rfl (lv_at hl 0 rfl) ?_
        refine lv_iconst (v := 1) hx hb dX11_leastBroken_19 (by decide) ?_
        refine lv_iload_n hx hb dX11_leastBroken_20 rfl (lv_at hl 2 rfl) ?_
        refine M0e hT (fun v0_16 v2_16 v3_16 v4_16 v5_16 v6_16 v8_16 v9_16 v12_16 v13_16 v14_16 v15_16 v16_16 v17_16 v18_16 v19_16 v20_16 v21_16 v22_16 v23_16 v25_16 v36_16 v37_16 v38_16 v39_16 v40_16 v45_16 v46_16 v47_16 v48_16 v50_16 v51_16 v53_16 v55_16 hf17 hv0_16 hv2_16 hg2_16 hv3_16 hg3_16 hv4_16 hg4_16 hv5_16 hg5_16 hv6_16 hg6_16 hv8_16 hg8_16 hv9_16 hg9_16 hv12_16 hv13_16 hg13_16 hv14_16 hg14_16 hv15_16 hg15_16 hv17_16 hg17_16 hv20_16 hg20_16 hv23_16 hg23_16 hv25_16 hg25_16 hv36_16 hg36_16 hv47_16 hg47_16 hv48_16 hg48_16 hv53_16 hg53_16 hv55_16 hg55_16 hrel0_16 => ?_)
        have hg2_16 : v2_16.toInt = th 13 := hg2_16
        have hg3_16 : v3_16.toInt = th 37 := hg3_16
        have hg4_16 : v4_16.toInt = th 42 := hg4_16
        have hg5_16 : v5_16.toInt = th 40 := hg5_16
        have hg6_16 : v6_16.toInt = th 41 := hg6_16
        have hg8_16 : v8_16.toInt = th 43 := hg8_16
        have hg9_16 : v9_16.toInt = th 35 := hg9_16
        have hg13_16 : v13_16.toInt = th 36 := hg13_16
        have hg14_16 : v14_16.toInt = th 10 := hg14_16
        have hg15_16 : v15_16.toInt = th 11 := hg15_16
        have hg17_16 : v17_16.toInt = th 12 := hg17_16
        have hg20_16 : v20_16.toInt = th 14 := hg20_16
        have hg23_16 : v23_16.toInt = th 15 := hg23_16
        have hg25_16 : v25_16.toInt = th 44 := hg25_16
        have hg36_16 : v36_16.toInt = zg13_zg := hg36_16
        have hg47_16 : v47_16.toInt = th 16 := hg47_16
        have hg48_16 : v48_16.toInt = th 17 := hg48_16
        have hg53_16 : v53_16.toInt = th 38 := hg53_16
        have hg55_16 : v55_16.toInt = th 39 := hg55_16
        have hb18 : In v15_16 3 9 := ⟨by rw [hg15_16]; exact hn3, hv15_16.2⟩
        refine call_v (run_V (rm := rm_X11_runsWhole) hx hb hml hown hts (s_X11_runsWhole l g ad (gset th 18 zg13_zg) _ _ _ 1 y13_l2 hst hT hn3) cV_X11_runsWhole wg_1842 ⟨Nat.le_of_ble_eq_true rfl, Nat.le_of_ble_eq_true rfl⟩ hG hE hA hP hD hS (hst.1 255 (by decide)) hf17 rfl rfl hl.1 (As := [.int 1, .int y13_l2]) (rest := []) rfl (Nat.le_of_ble_eq_true rfl) dX11_leastBroken_21 ⟨Nat.le_of_ble_eq_true rfl, Nat.le_of_ble_eq_true rfl⟩) hA hD hS (fun L20 f21 H locs hp22 hP hD hS => ?_)
        obtain ⟨eL23L, eL23T, eL23F⟩ := hp22
        have eL23L : L20 = L := eL23L
        rw [eL23L] at hP hD
        obtain ⟨zz24, hzz24, eL23T⟩ := eL23T
        have hzz24 : True := hzz24
        have hT : TI g ad (gset (gset th 18 zg13_zg) 18 zz24) f21 := eL23T
        have hT : TI g ad (gset th 18 zz24) f21 := TI.cast hT (by funext q; by_cases hq0 : q = 18; (subst hq0; rfl); simp only [gset, if_neg hq0])
        have eL23F : ∀ b, b ≠ (ad 255) → b ≠ (ad 265) → b ≠ (ad 266) → b ≠ (ad 267) → b ≠ (ad 268) → b ≠ (ad 269) → b ≠ (ad 270) → b ≠ (ad 261) → b ≠ (ad 262) → b ≠ (ad 263) → b ≠ (ad 264) → f21 b = f_13 b := eL23F
        have hfr : (∀ b, b ≠ (ad 255) → b ≠ (ad 265) → b ≠ (ad 266) → b ≠ (ad 267) → b ≠ (ad 268) → b ≠ (ad 269) → b ≠ (ad 270) → b ≠ (ad 261) → b ≠ (ad 262) → b ≠ (ad 263) → b ≠ (ad 264) → f21 b = f b) := fun b z0_ z1_ z2_ z3_ z4_ z5_ z6_ z7_ z8_ z9_ z10_ => (eL23F b z0_ z1_ z2_ z3_ z4_ z5_ z6_ z7_ z8_ z9_ z10_).trans (hfr b z0_ z1_ z2_ z3_ z4_ z5_ z6_ z7_ z8_ z9_ z10_)
        refine lv_aload_n hx hb dX11_leastBroken_24 rfl (lv_at hl 0 rfl) ?_
        refine M0e hT (fun v0_25 v2_25 v3_25 v4_25 v5_25 v6_25 v8_25 v9_25 v12_25 v13_25 v14_25 v15_25 v16_25 v17_25 v18_25 v19_25 v20_25 v21_25 v22_25 v23_25 v25_25 v36_25 v37_25 v38_25 v39_25 v40_25 v45_25 v46_25 v47_25 v48_25 v50_25 v51_25 v53_25 v55_25 hf26 hv0_25 hv2_25 hg2_25 hv3_25 hg3_25 hv4_25 hg4_25 hv5_25 hg5_25 hv6_25 hg6_25 hv8_25 hg8_25 hv9_25 hg9_25 hv12_25 hv13_25 hg13_25 hv14_25 hg14_25 hv15_25 hg15_25 hv17_25 hg17_25 hv20_25 hg20_25 hv23_25 hg23_25 hv25_25 hg25_25 hv36_25 hg36_25 hv47_25 hg47_25 hv48_25 hg48_25 hv53_25 hg53_25 hv55_25 hg55_25 hrel0_25 => ?_)
        have hg2_25 : v2_25.toInt = th 13 := hg2_25
        have hg3_25 : v3_25.toInt = th 37 := hg3_25
        have hg4_25 : v4_25.toInt = th 42 := hg4_25
        have hg5_25 : v5_25.toInt = th 40 := hg5_25
        have hg6_25 : v6_25.toInt = th 41 := hg6_25
        have hg8_25 : v8_25.toInt = th 43 := hg8_25
        have hg9_25 : v9_25.toInt = th 35 := hg9_25
        have hg13_25 : v13_25.toInt = th 36 := hg13_25
        have hg14_25 : v14_25.toInt = th 10 := hg14_25
        have hg15_25 : v15_25.toInt = th 11 := hg15_25
        have hg17_25 : v17_25.toInt = th 12 := hg17_25
        have hg20_25 : v20_25.toInt = th 14 := hg20_25
        have hg23_25 : v23_25.toInt = th 15 := hg23_25
        have hg25_25 : v25_25.toInt = th 44 := hg25_25
        have hg36_25 : v36_25.toInt = zz24 := hg36_25
        have hg47_25 : v47_25.toInt = th 16 := hg47_25
        have hg48_25 : v48_25.toInt = th 17 := hg48_25
        have hg53_25 : v53_25.toInt = th 38 := hg53_25
        have hg55_25 : v55_25.toInt = th 39 := hg55_25
        have hb27 : In v15_25 3 9 := ⟨by rw [hg15_25]; exact hn3, hv15_25.2⟩
        refine call_i (run_V (rm := rm_X11_areAgreed) hx hb hml hown hts (s_X11_areAgreed l g ad (gset th 18 zz24) _ _ _  hst hT hn3) cV_X11_areAgreed wg_1846 ⟨Nat.le_of_ble_eq_true rfl, Nat.le_of_ble_eq_true rfl⟩ hG hE hA hP hD hS (hst.1 255 (by decide)) hf26 rfl rfl hl.1 (As := []) (rest := []) rfl (Nat.le_of_ble_eq_true rfl) dX11_leastBroken_25 ⟨Nat.le_of_ble_eq_true rfl, Nat.le_of_ble_eq_true rfl⟩) hA hD hS (fun r28 L29 f30 H locs hp31 hP hD hS => ?_)
        obtain ⟨eL32L, eL32T, eL32R⟩ := hp31
        have eL32L : L29 = L := eL32L
        have eL32T : f30 = f21 := eL32T
        rw [eL32L, eL32T] at hP hD
        have eL32R : In r28 0 1 := eL32R
        refine lv_if_ne (tgt := 33) hx hb dX11_leastBroken_28 (by decide) (fun c33 => ?_) (fun c33 => ?_)
        ·
          have oc0 : (0 : Int32).toInt = 0 := by decide
          have cc34 : r28.toInt ≠ (0 : Int32).toInt := i32_ne c33
          have hb35 : In r28 1 1 := In.ne1 eL32R (⟨by decide, by decide⟩ : In 0 0 0) cc34 (by omega) (by omega)
          obtain ⟨x36, ex36⟩ : ∃ y : Int32, y = y13_l2 + 1 := ⟨_, rfl⟩
          have hb37 : In x36 1 2147483647 := ex36 ▸ In.add hb14 (⟨by decide, by decide⟩ : In 1 1 1) (by decide) (by decide) (by decide) (by decide)
          have et38 : x36.toInt = y13_l2.toInt + 1 := In.adde ex36 hb14 (k := 1) (by decide) (by decide) (by decide)
          refine lv_iinc (v := x36) (lv' := [(2, .int x36), (0, .ref (ad 255)), (1, .int x10)]) hx hb dX11_leastBroken_33 hl (k := 2) rfl (by rw [ex36]; rfl) (by decide) rfl (fun ls hl => ?_)
          refine lv_goto (tgt := 13) hx hb dX11_leastBroken_36 (by decide) ?_
          exact ih13 zz24 x36 _ _ _ _ (In.mono hb37 (by decide) (by decide)) hP hD hS (TI.cast hT (by funext q; by_cases hq0 : q = 18; (subst hq0; rfl); simp only [gset, if_neg hq0])) hfr (lv_sub hl [1, 2, 0] rfl) (msu et38 (by decide) hmz13)
        ·
          have oc0 : (0 : Int32).toInt = 0 := by decide
          have cc39 : r28.toInt = (0 : Int32).toInt := congrArg Int32.toInt c33
          have hb40 : In r28 0 0 := In.eq1 eL32R (⟨by decide, by decide⟩ : In 0 0 0) cc39 (by omega) (by omega)
          refine lv_iload_n hx hb dX11_leastBroken_31 rfl (lv_at hl 2 rfl) ?_
          exact ret_i (ty := .int) hx hb hr hlocks (rfl) hP hD hS (Nat.le_of_ble_eq_true rfl) (Nat.le_of_ble_eq_true rfl) (⟨rfl, ⟨zz24, trivial, TI.cast hT (by funext q; by_cases hq0 : q = 18; (subst hq0; rfl); simp only [gset, if_neg hq0])⟩, hfr⟩) dX11_leastBroken_32
  exact hJ13 ((2147483647 - (0 : Int32).toInt).toNat + 1) (th 18) 0 _ _ _ _ (⟨by decide, by decide⟩ : In 0 0 2147483647) hP hD hS (TI.cast hT (by funext q; by_cases hq0 : q = 18; (subst hq0; rfl); simp only [gset, if_neg hq0])) hfr (lv_sub hl [2, 1, 0] rfl) (msI _)

abbrev rm_X11_canSearch : Room := { frames := 3, cells := 0, slots := 0, locals := 66 }
abbrev po_X11_canSearch (g : GG) (ad : Nat → Nat) (th : Nat → Int) (L : List Nat) (f : HP)  : Int32 → (List Nat × HP) → Prop := fun r u => u.1 = L ∧ (∃ zl zg : Int, (r.toInt = 0 ∨ (th 15 = 1 ∧ frI (rnd (th 10)) (th 11) zl (th 12) ≤ 12)) ∧ TI g ad (gset (gset th 14 zl) 18 zg) u.2) ∧ (∀ b, b ≠ (ad 255) → b ≠ (ad 265) → b ≠ (ad 266) → b ≠ (ad 267) → b ≠ (ad 269) → b ≠ (ad 260) → b ≠ (ad 261) → b ≠ (ad 262) → b ≠ (ad 263) → b ≠ (ad 264) → u.2 b = f b) ∧ In r 0 1
set_option maxHeartbeats 4000000 in
set_option maxRecDepth 100000 in
theorem s_X11_canSearch (l : Launch) (g : GG) (ad : Nat → Nat) (th : Nat → Int) (L : List Nat) (f : HP) (sz : Nat)  (hst : ST ad L) (hT : TI g ad th f) (hM : MI th) : MtI l g yX11_canSearch cX11_canSearch 1 (some .boolean) rm_X11_canSearch [.ref (ad 255)] L f sz (po_X11_canSearch g ad th L f ) := by
  refine MtI.of (by decide +kernel) (Nat.le_of_ble_eq_true rfl) ?_
  intro p e s m below meth c A hEn hP hD hS ls hl
  obtain ⟨hx, hb, hr, hml, hown, hlocks, hts, hG, hA, hE, hnm⟩ := hEn
  have hown : s.vm.findClass "RulerWordModel" = some m.cls := hown
  have hl : lv_has ls 1 [(0, .ref (ad 255))] := hl
  have hfr : (∀ b, b ≠ (ad 255) → b ≠ (ad 265) → b ≠ (ad 266) → b ≠ (ad 267) → b ≠ (ad 269) → b ≠ (ad 260) → b ≠ (ad 261) → b ≠ (ad 262) → b ≠ (ad 263) → b ≠ (ad 264) → f b = f b) := fun b z0_ z1_ z2_ z3_ z4_ z5_ z6_ z7_ z8_ z9_ => rfl
  have hM0 := hM
  obtain ⟨m1, m2, m3, m4, m5, m6, m7, m8, m9, m10⟩ := hM0
  have m20 := mi20 m2 m3
  refine lv_aload_n hx hb dX11_canSearch_0 rfl (lv_at hl 0 rfl) ?_
  refine M0e hT (fun v0_1 v2_1 v3_1 v4_1 v5_1 v6_1 v8_1 v9_1 v12_1 v13_1 v14_1 v15_1 v16_1 v17_1 v18_1 v19_1 v20_1 v21_1 v22_1 v23_1 v25_1 v36_1 v37_1 v38_1 v39_1 v40_1 v45_1 v46_1 v47_1 v48_1 v50_1 v51_1 v53_1 v55_1 hf2 hv0_1 hv2_1 hg2_1 hv3_1 hg3_1 hv4_1 hg4_1 hv5_1 hg5_1 hv6_1 hg6_1 hv8_1 hg8_1 hv9_1 hg9_1 hv12_1 hv13_1 hg13_1 hv14_1 hg14_1 hv15_1 hg15_1 hv17_1 hg17_1 hv20_1 hg20_1 hv23_1 hg23_1 hv25_1 hg25_1 hv36_1 hg36_1 hv47_1 hg47_1 hv48_1 hg48_1 hv53_1 hg53_1 hv55_1 hg55_1 hrel0_1 => ?_)
  refine pl_get (v := .int v23_1) hx hb hts (fun w h => mT (inX11 w h)) hown hG.1 hP (hst.1 255 (by decide)) hf2 rfl 23 (by decide) (hts _ (mT wg_1359)) (fun _ h => h) rfl dX11_canSearch_1 ?_
  refine lv_if_ne (tgt := 9) hx hb dX11_canSearch_4 (by decide) (fun c3 => ?_) (fun c3 => ?_)
  ·
    have oc0 : (0 : Int32).toInt = 0 := by decide
    have cc4 : v23_1.toInt ≠ (0 : Int32).toInt := i32_ne c3
    have hb5 : In v23_1 1 1 := In.ne1 hv23_1 (⟨by decide, by decide⟩ : In 0 0 0) cc4 (by omega) (by omega)
    refine lv_aload_n hx hb dX11_canSearch_9 rfl (lv_at hl 0 rfl) ?_
    refine call_v (run_V (rm := rm_X11_takesUp) hx hb hml hown hts (s_X11_takesUp l g ad th _ _ _  hst hT (show (th 22) = 2126 from (by have ob10 : (0 : Int) ≤ (th 10) ∧ (th 10) ≤ 1 := (b0_10 hT :); have ob11 : (0 : Int) ≤ (th 11) ∧ (th 11) ≤ 9 := (b0_11 hT :); have ob12 : (0 : Int) ≤ (th 12) ∧ (th 12) ≤ 6 := (b0_12 hT :); have ob14 : (0 : Int) ≤ (th 14) ∧ (th 14) ≤ 511 := (b0_14 hT :); have ob15 : (0 : Int) ≤ (th 15) ∧ (th 15) ≤ 1 := (b0_15 hT :); have ob16 : (0 : Int) ≤ (th 16) ∧ (th 16) ≤ 20 := (b0_16 hT :); have ob17 : (0 : Int) ≤ (th 17) ∧ (th 17) ≤ 1 := (b0_17 hT :); have ob18 : (0 : Int) ≤ (th 18) ∧ (th 18) ≤ 18 := (b0_18 hT :); have ob38 : (0 : Int) ≤ (th 38) ∧ (th 38) ≤ 400 := (b0_38 hT :); have ob39 : (0 : Int) ≤ (th 39) ∧ (th 39) ≤ 200 := (b0_39 hT :); have ob44 : (0 : Int) ≤ (th 44) ∧ (th 44) ≤ 30 := (b0_44 hT :); obtain ⟨o0a, o0b⟩ := (hv14_1 : In _ _ _); obtain ⟨o1a, o1b⟩ := (hv15_1 : In _ _ _); obtain ⟨o2a, o2b⟩ := (hv17_1 : In _ _ _); obtain ⟨o3a, o3b⟩ := (hv20_1 : In _ _ _); obtain ⟨o4a, o4b⟩ := (hb5 : In _ _ _); obtain ⟨o5a, o5b⟩ := (hv25_1 : In _ _ _); obtain ⟨o6a, o6b⟩ := (hv36_1 : In _ _ _); obtain ⟨o7a, o7b⟩ := (hv47_1 : In _ _ _); obtain ⟨o8a, o8b⟩ := (hv48_1 : In _ _ _); obtain ⟨o9a, o9b⟩ := (hv53_1 : In _ _ _); obtain ⟨o10a, o10b⟩ := (hv55_1 : In _ _ _); omega)) (show (th 20) ≤ 18 from (by have ob10 : (0 : Int) ≤ (th 10) ∧ (th 10) ≤ 1 := (b0_10 hT :); have ob11 : (0 : Int) ≤ (th 11) ∧ (th 11) ≤ 9 := (b0_11 hT :); have ob12 : (0 : Int) ≤ (th 12) ∧ (th 12) ≤ 6 := (b0_12 hT :); have ob14 : (0 : Int) ≤ (th 14) ∧ (th 14) ≤ 511 := (b0_14 hT :); have ob15 : (0 : Int) ≤ (th 15) ∧ (th 15) ≤ 1 := (b0_15 hT :); have ob16 : (0 : Int) ≤ (th 16) ∧ (th 16) ≤ 20 := (b0_16 hT :); have ob17 : (0 : Int) ≤ (th 17) ∧ (th 17) ≤ 1 := (b0_17 hT :); have ob18 : (0 : Int) ≤ (th 18) ∧ (th 18) ≤ 18 := (b0_18 hT :); have ob38 : (0 : Int) ≤ (th 38) ∧ (th 38) ≤ 400 := (b0_38 hT :); have ob39 : (0 : Int) ≤ (th 39) ∧ (th 39) ≤ 200 := (b0_39 hT :); have ob44 : (0 : Int) ≤ (th 44) ∧ (th 44) ≤ 30 := (b0_44 hT :); obtain ⟨o0a, o0b⟩ := (hv14_1 : In _ _ _); obtain ⟨o1a, o1b⟩ := (hv15_1 : In _ _ _); obtain ⟨o2a, o2b⟩ := (hv17_1 : In _ _ _); obtain ⟨o3a, o3b⟩ := (hv20_1 : In _ _ _); obtain ⟨o4a, o4b⟩ := (hb5 : In _ _ _); obtain ⟨o5a, o5b⟩ := (hv25_1 : In _ _ _); obtain ⟨o6a, o6b⟩ := (hv36_1 : In _ _ _); obtain ⟨o7a, o7b⟩ := (hv47_1 : In _ _ _); obtain ⟨o8a, o8b⟩ := (hv48_1 : In _ _ _); obtain ⟨o9a, o9b⟩ := (hv53_1 : In _ _ _); obtain ⟨o10a, o10b⟩ := (hv55_1 : In _ _ _); omega)) (show (th 21) = (th 11) from (by have ob10 : (0 : Int) ≤ (th 10) ∧ (th 10) ≤ 1 := (b0_10 hT :); have ob11 : (0 : Int) ≤ (th 11) ∧ (th 11) ≤ 9 := (b0_11 hT :); have ob12 : (0 : Int) ≤ (th 12) ∧ (th 12) ≤ 6 := (b0_12 hT :); have ob14 : (0 : Int) ≤ (th 14) ∧ (th 14) ≤ 511 := (b0_14 hT :); have ob15 : (0 : Int) ≤ (th 15) ∧ (th 15) ≤ 1 := (b0_15 hT :); have ob16 : (0 : Int) ≤ (th 16) ∧ (th 16) ≤ 20 := (b0_16 hT :); have ob17 : (0 : Int) ≤ (th 17) ∧ (th 17) ≤ 1 := (b0_17 hT :); have ob18 : (0 : Int) ≤ (th 18) ∧ (th 18) ≤ 18 := (b0_18 hT :); have ob38 : (0 : Int) ≤ (th 38) ∧ (th 38) ≤ 400 := (b0_38 hT :); have ob39 : (0 : Int) ≤ (th 39) ∧ (th 39) ≤ 200 := (b0_39 hT :); have ob44 : (0 : Int) ≤ (th 44) ∧ (th 44) ≤ 30 := (b0_44 hT :); obtain ⟨o0a, o0b⟩ := (hv14_1 : In _ _ _); obtain ⟨o1a, o1b⟩ := (hv15_1 : In _ _ _); obtain ⟨o2a, o2b⟩ := (hv17_1 : In _ _ _); obtain ⟨o3a, o3b⟩ := (hv20_1 : In _ _ _); obtain ⟨o4a, o4b⟩ := (hb5 : In _ _ _); obtain ⟨o5a, o5b⟩ := (hv25_1 : In _ _ _); obtain ⟨o6a, o6b⟩ := (hv36_1 : In _ _ _); obtain ⟨o7a, o7b⟩ := (hv47_1 : In _ _ _); obtain ⟨o8a, o8b⟩ := (hv48_1 : In _ _ _); obtain ⟨o9a, o9b⟩ := (hv53_1 : In _ _ _); obtain ⟨o10a, o10b⟩ := (hv55_1 : In _ _ _); omega))) cV_X11_takesUp wg_1648 ⟨Nat.le_of_ble_eq_true rfl, Nat.le_of_ble_eq_true rfl⟩ hG hE hA hP hD hS (hst.1 255 (by decide)) hf2 rfl rfl hl.1 (As := []) (rest := []) rfl (Nat.le_of_ble_eq_true rfl) dX11_canSearch_10 ⟨Nat.le_of_ble_eq_true rfl, Nat.le_of_ble_eq_true rfl⟩) hA hD hS (fun L7 f8 H locs hp9 hP hD hS => ?_)
    obtain ⟨eL10L, eL10T, eL10F⟩ := hp9
    have eL10L : L7 = L := eL10L
    rw [eL10L] at hP hD
    obtain ⟨zz11, zz12, hzz11, eL10T⟩ := eL10T
    have hzz11 : ((zz11 = (th 19) ∧ 0 ≤ zz11 ∧ zz11 ≤ (th 20)) ∧ (0 ≤ zz12 ∧ zz12 ≤ 511)) ∧ capI zz12 ((th 11)) := hzz11
    have hT : TI g ad (gset (gset th 18 zz11) 14 zz12) f8 := eL10T
    have eL10F : ∀ b, b ≠ (ad 255) → b ≠ (ad 265) → b ≠ (ad 266) → b ≠ (ad 267) → b ≠ (ad 269) → b ≠ (ad 260) → b ≠ (ad 261) → b ≠ (ad 262) → b ≠ (ad 263) → b ≠ (ad 264) → f8 b = f b := eL10F
    have hfr : (∀ b, b ≠ (ad 255) → b ≠ (ad 265) → b ≠ (ad 266) → b ≠ (ad 267) → b ≠ (ad 269) → b ≠ (ad 260) → b ≠ (ad 261) → b ≠ (ad 262) → b ≠ (ad 263) → b ≠ (ad 264) → f8 b = f b) := fun b z0_ z1_ z2_ z3_ z4_ z5_ z6_ z7_ z8_ z9_ => (eL10F b z0_ z1_ z2_ z3_ z4_ z5_ z6_ z7_ z8_ z9_).trans (hfr b z0_ z1_ z2_ z3_ z4_ z5_ z6_ z7_ z8_ z9_)
    refine lv_aload_n hx hb dX11_canSearch_13 rfl (lv_at hl 0 rfl) ?_
    refine lv_aload_n hx hb dX11_canSearch_14 rfl (lv_at hl 0 rfl) ?_
    refine M0e hT (fun v0_13 v2_13 v3_13 v4_13 v5_13 v6_13 v8_13 v9_13 v12_13 v13_13 v14_13 v15_13 v16_13 v17_13 v18_13 v19_13 v20_13 v21_13 v22_13 v23_13 v25_13 v36_13 v37_13 v38_13 v39_13 v40_13 v45_13 v46_13 v47_13 v48_13 v50_13 v51_13 v53_13 v55_13 hf14 hv0_13 hv2_13 hg2_13 hv3_13 hg3_13 hv4_13 hg4_13 hv5_13 hg5_13 hv6_13 hg6_13 hv8_13 hg8_13 hv9_13 hg9_13 hv12_13 hv13_13 hg13_13 hv14_13 hg14_13 hv15_13 hg15_13 hv17_13 hg17_13 hv20_13 hg20_13 hv23_13 hg23_13 hv25_13 hg25_13 hv36_13 hg36_13 hv47_13 hg47_13 hv48_13 hg48_13 hv53_13 hg53_13 hv55_13 hg55_13 hrel0_13 => ?_)
    have hg2_13 : v2_13.toInt = th 13 := hg2_13
    have hg3_13 : v3_13.toInt = th 37 := hg3_13
    have hg4_13 : v4_13.toInt = th 42 := hg4_13
    have hg5_13 : v5_13.toInt = th 40 := hg5_13
    have hg6_13 : v6_13.toInt = th 41 := hg6_13
    have hg8_13 : v8_13.toInt = th 43 := hg8_13
    have hg9_13 : v9_13.toInt = th 35 := hg9_13
    have hg13_13 : v13_13.toInt = th 36 := hg13_13
    have hg14_13 : v14_13.toInt = th 10 := hg14_13
    have hg15_13 : v15_13.toInt = th 11 := hg15_13
    have hg17_13 : v17_13.toInt = th 12 := hg17_13
    have hg20_13 : v20_13.toInt = zz12 := hg20_13
    have hg23_13 : v23_13.toInt = th 15 := hg23_13
    have hg25_13 : v25_13.toInt = th 44 := hg25_13
    have hg36_13 : v36_13.toInt = zz11 := hg36_13
    have hg47_13 : v47_13.toInt = th 16 := hg47_13
    have hg48_13 : v48_13.toInt = th 17 := hg48_13
    have hg53_13 : v53_13.toInt = th 38 := hg53_13
    have hg55_13 : v55_13.toInt = th 39 := hg55_13
    refine pl_get (v := .int v17_13) hx hb hts (fun w h => mT (inX11 w h)) hown hG.1 hP (hst.1 255 (by decide)) hf14 rfl 17 (by decide) (hts _ (mT wg_1353)) (fun _ h => h) rfl dX11_canSearch_15 ?_
    refine call_i (run_V (rm := rm_X11_freeIn) hx hb hml hown hts (s_X11_freeIn l g ad (gset (gset th 18 zz11) 14 zz12) _ _ _ v17_13 hst hT hv17_13 (show 3 ≤ th 11 by omega)) cV_X11_freeIn wg_1823 ⟨Nat.le_of_ble_eq_true rfl, Nat.le_of_ble_eq_true rfl⟩ hG hE hA hP hD hS (hst.1 255 (by decide)) hf14 rfl rfl hl.1 (As := [.int v17_13]) (rest := []) rfl (Nat.le_of_ble_eq_true rfl) dX11_canSearch_18 ⟨Nat.le_of_ble_eq_true rfl, Nat.le_of_ble_eq_true rfl⟩) hA hD hS (fun r15 L16 f17 H locs hp18 hP hD hS => ?_)
    obtain ⟨eL19L, eL19T, eL19X0⟩ := hp18
    have eL19L : L16 = L := eL19L
    have eL19T : f17 = f8 := eL19T
    rw [eL19L, eL19T] at hP hD
    have hfi20 : r15.toInt = frI (rnd (th 10)) (th 11) (zz12) v17_13.toInt := eL19X0
    refine lv_bipush (v := 12) hx hb dX11_canSearch_21 (by decide) ?_
    refine lv_icmp_gt (tgt := 30) hx hb dX11_canSearch_23 (by decide) (fun c21 => ?_) (fun c21 => ?_)
    ·
      have oc12 : (12 : Int32).toInt = 12 := by decide
      have cc22 : (12 : Int32).toInt < r15.toInt := i32_lt.mp c21
      have hb23 : In r15 13 2147483647 := In.gt1 (In.full r15) (⟨by decide, by decide⟩ : In 12 12 12) cc22 (by omega) (by omega)
      refine lv_iconst (v := 0) hx hb dX11_canSearch_30 (by decide) ?_
      exact ret_i (ty := .boolean) hx hb hr hlocks (rfl) hP hD hS (Nat.le_of_ble_eq_true rfl) (Nat.le_of_ble_eq_true rfl) (⟨rfl, ⟨zz12, zz11, Or.inl (by decide), TI.cast hT (by funext q; by_cases hq0 : q = 14; (subst hq0; rfl); by_cases hq1 : q = 18; (subst hq1; rfl); simp only [gset, if_neg hq0, if_neg hq1])⟩, hfr, (⟨by decide, by decide⟩ : In 0 0 1)⟩) dX11_canSearch_31
    ·
      have oc12 : (12 : Int32).toInt = 12 := by decide
      have cc24 : r15.toInt ≤ (12 : Int32).toInt := i32_nlt c21
      have hb25 : In r15 (-2147483648) 12 := In.le1 (In.full r15) (⟨by decide, by decide⟩ : In 12 12 12) cc24 (by omega) (by omega)
      refine lv_iconst (v := 1) hx hb dX11_canSearch_26 (by decide) ?_
      refine lv_goto (tgt := 31) hx hb dX11_canSearch_27 (by decide) ?_
      exact ret_i (ty := .boolean) hx hb hr hlocks (rfl) hP hD hS (Nat.le_of_ble_eq_true rfl) (Nat.le_of_ble_eq_true rfl) (⟨rfl, ⟨zz12, zz11, (show _ ∨ (th 15 = 1 ∧ frI (rnd (th 10)) (th 11) (zz12) (th 12) ≤ 12) from Or.inr ⟨(by have ob10 : (0 : Int) ≤ (th 10) ∧ (th 10) ≤ 1 := (b0_10 hT :); have ob11 : (0 : Int) ≤ (th 11) ∧ (th 11) ≤ 9 := (b0_11 hT :); have ob12 : (0 : Int) ≤ (th 12) ∧ (th 12) ≤ 6 := (b0_12 hT :); have ob14 : (0 : Int) ≤ zz12 ∧ zz12 ≤ 511 := (b0_14 hT :); have ob15 : (0 : Int) ≤ (th 15) ∧ (th 15) ≤ 1 := (b0_15 hT :); have ob16 : (0 : Int) ≤ (th 16) ∧ (th 16) ≤ 20 := (b0_16 hT :); have ob17 : (0 : Int) ≤ (th 17) ∧ (th 17) ≤ 1 := (b0_17 hT :); have ob18 : (0 : Int) ≤ zz11 ∧ zz11 ≤ 18 := (b0_18 hT :); have ob38 : (0 : Int) ≤ (th 38) ∧ (th 38) ≤ 400 := (b0_38 hT :); have ob39 : (0 : Int) ≤ (th 39) ∧ (th 39) ≤ 200 := (b0_39 hT :); have ob44 : (0 : Int) ≤ (th 44) ∧ (th 44) ≤ 30 := (b0_44 hT :); obtain ⟨o0a, o0b⟩ := (hv14_13 : In _ _ _); obtain ⟨o1a, o1b⟩ := (hv15_13 : In _ _ _); obtain ⟨o2a, o2b⟩ := (hv17_13 : In _ _ _); obtain ⟨o3a, o3b⟩ := (hv20_13 : In _ _ _); obtain ⟨o4a, o4b⟩ := (hv23_13 : In _ _ _); obtain ⟨o5a, o5b⟩ := (hv25_13 : In _ _ _); obtain ⟨o6a, o6b⟩ := (hv36_13 : In _ _ _); obtain ⟨o7a, o7b⟩ := (hv47_13 : In _ _ _); obtain ⟨o8a, o8b⟩ := (hv48_13 : In _ _ _); obtain ⟨o9a, o9b⟩ := (hv53_13 : In _ _ _); obtain ⟨o10a, o10b⟩ := (hv55_13 : In _ _ _); omega), by rw [← hg17_13]; exact (by have ob10 : (0 : Int) ≤ (th 10) ∧ (th 10) ≤ 1 := (b0_10 hT :); have ob11 : (0 : Int) ≤ (th 11) ∧ (th 11) ≤ 9 := (b0_11 hT :); have ob12 : (0 : Int) ≤ (th 12) ∧ (th 12) ≤ 6 := (b0_12 hT :); have ob14 : (0 : Int) ≤ zz12 ∧ zz12 ≤ 511 := (b0_14 hT :); have ob15 : (0 : Int) ≤ (th 15) ∧ (th 15) ≤ 1 := (b0_15 hT :); have ob16 : (0 : Int) ≤ (th 16) ∧ (th 16) ≤ 20 := (b0_16 hT :); have ob17 : (0 : Int) ≤ (th 17) ∧ (th 17) ≤ 1 := (b0_17 hT :); have ob18 : (0 : Int) ≤ zz11 ∧ zz11 ≤ 18 := (b0_18 hT :); have ob38 : (0 : Int) ≤ (th 38) ∧ (th 38) ≤ 400 := (b0_38 hT :); have ob39 : (0 : Int) ≤ (th 39) ∧ (th 39) ≤ 200 := (b0_39 hT :); have ob44 : (0 : Int) ≤ (th 44) ∧ (th 44) ≤ 30 := (b0_44 hT :); obtain ⟨o0a, o0b⟩ := (hv14_13 : In _ _ _); obtain ⟨o1a, o1b⟩ := (hv15_13 : In _ _ _); obtain ⟨o2a, o2b⟩ := (hv17_13 : In _ _ _); obtain ⟨o3a, o3b⟩ := (hv20_13 : In _ _ _); obtain ⟨o4a, o4b⟩ := (hv23_13 : In _ _ _); obtain ⟨o5a, o5b⟩ := (hv25_13 : In _ _ _); obtain ⟨o6a, o6b⟩ := (hv36_13 : In _ _ _); obtain ⟨o7a, o7b⟩ := (hv47_13 : In _ _ _); obtain ⟨o8a, o8b⟩ := (hv48_13 : In _ _ _); obtain ⟨o9a, o9b⟩ := (hv53_13 : In _ _ _); obtain ⟨o10a, o10b⟩ := (hv55_13 : In _ _ _); omega)⟩), TI.cast hT (by funext q; by_cases hq0 : q = 14; (subst hq0; rfl); by_cases hq1 : q = 18; (subst hq1; rfl); simp only [gset, if_neg hq0, if_neg hq1])⟩, hfr, (⟨by decide, by decide⟩ : In 1 0 1)⟩) dX11_canSearch_31
  ·
    have oc0 : (0 : Int32).toInt = 0 := by decide
    have cc26 : v23_1.toInt = (0 : Int32).toInt := congrArg Int32.toInt c3
    have hb27 : In v23_1 0 0 := In.eq1 hv23_1 (⟨by decide, by decide⟩ : In 0 0 0) cc26 (by omega) (by omega)
    refine lv_iconst (v := 0) hx hb dX11_canSearch_7 (by decide) ?_
    exact ret_i (ty := .boolean) hx hb hr hlocks (rfl) hP hD hS (Nat.le_of_ble_eq_true rfl) (Nat.le_of_ble_eq_true rfl) (⟨rfl, ⟨(th 14), (th 18), Or.inl (by decide), TI.cast hT (by funext q; by_cases hq0 : q = 14; (subst hq0; rfl); by_cases hq1 : q = 18; (subst hq1; rfl); simp only [gset, if_neg hq0, if_neg hq1])⟩, hfr, (⟨by decide, by decide⟩ : In 0 0 1)⟩) dX11_canSearch_8

abbrev rm_X11_broken : Room := { frames := 7, cells := 0, slots := 0, locals := 170 }
abbrev po_X11_broken (g : GG) (ad : Nat → Nat) (th : Nat → Int) (L : List Nat) (f : HP)  : Int32 → (List Nat × HP) → Prop := fun r u => u.1 = L ∧ (∃ th' : Nat → Int, (MI th' ∧ SBM th th') ∧ TI g ad th' u.2) ∧ (∀ b, b ≠ (ad 255) → b ≠ (ad 265) → b ≠ (ad 266) → b ≠ (ad 267) → b ≠ (ad 268) → b ≠ (ad 269) → b ≠ (ad 270) → b ≠ (ad 260) → b ≠ (ad 261) → b ≠ (ad 262) → b ≠ (ad 263) → b ≠ (ad 264) → u.2 b = f b)
set_option maxHeartbeats 4000000 in
set_option maxRecDepth 100000 in
theorem s_X11_broken (l : Launch) (g : GG) (ad : Nat → Nat) (th : Nat → Int) (L : List Nat) (f : HP) (sz : Nat)  (hst : ST ad L) (hT : TI g ad th f) (hM : MI th) : MtI l g yX11_broken cX11_broken 1 (some .int) rm_X11_broken [.ref (ad 255)] L f sz (po_X11_broken g ad th L f ) := by
  refine MtI.of (by decide +kernel) (Nat.le_of_ble_eq_true rfl) ?_
  intro p e s m below meth c A hEn hP hD hS ls hl
  obtain ⟨hx, hb, hr, hml, hown, hlocks, hts, hG, hA, hE, hnm⟩ := hEn
  have hown : s.vm.findClass "RulerWordModel" = some m.cls := hown
  have hl : lv_has ls 1 [(0, .ref (ad 255))] := hl
  have hfr : (∀ b, b ≠ (ad 255) → b ≠ (ad 265) → b ≠ (ad 266) → b ≠ (ad 267) → b ≠ (ad 268) → b ≠ (ad 269) → b ≠ (ad 270) → b ≠ (ad 260) → b ≠ (ad 261) → b ≠ (ad 262) → b ≠ (ad 263) → b ≠ (ad 264) → f b = f b) := fun b z0_ z1_ z2_ z3_ z4_ z5_ z6_ z7_ z8_ z9_ z10_ z11_ => rfl
  have hM0 := hM
  obtain ⟨m1, m2, m3, m4, m5, m6, m7, m8, m9, m10⟩ := hM0
  have m20 := mi20 m2 m3
  refine lv_aload_n hx hb dX11_broken_0 rfl (lv_at hl 0 rfl) ?_
  refine lv_iconst (v := 0) hx hb dX11_broken_1 (by decide) ?_
  refine M0e hT (fun v0_1 v2_1 v3_1 v4_1 v5_1 v6_1 v8_1 v9_1 v12_1 v13_1 v14_1 v15_1 v16_1 v17_1 v18_1 v19_1 v20_1 v21_1 v22_1 v23_1 v25_1 v36_1 v37_1 v38_1 v39_1 v40_1 v45_1 v46_1 v47_1 v48_1 v50_1 v51_1 v53_1 v55_1 hf2 hv0_1 hv2_1 hg2_1 hv3_1 hg3_1 hv4_1 hg4_1 hv5_1 hg5_1 hv6_1 hg6_1 hv8_1 hg8_1 hv9_1 hg9_1 hv12_1 hv13_1 hg13_1 hv14_1 hg14_1 hv15_1 hg15_1 hv17_1 hg17_1 hv20_1 hg20_1 hv23_1 hg23_1 hv25_1 hg25_1 hv36_1 hg36_1 hv47_1 hg47_1 hv48_1 hg48_1 hv53_1 hg53_1 hv55_1 hg55_1 hrel0_1 => ?_)
  refine pl_put (ty := .int) (v := .int 0) (fs' := [.int 0, .ref (ad 256), .int v2_1, .int v3_1, .int v4_1, .int v5_1, .int v6_1, .ref (ad 257), .int v8_1, .int v9_1, .ref (ad 258), .ref (ad 259), .int v12_1, .int v13_1, .int v14_1, .int v15_1, .int v16_1, .int v17_1, .int v18_1, .int v19_1, .int v20_1, .long v21_1, .long v22_1, .int v23_1, .ref (ad 260), .int v25_1, .ref (ad 261), .ref (ad 262), .ref (ad 263), .ref (ad 264), .ref (ad 265), .ref (ad 266), .ref (ad 267), .ref (ad 268), .ref (ad 269), .ref (ad 270), .int v36_1, .int v37_1, .int v38_1, .int v39_1, .int v40_1, .ref (ad 271), .ref (ad 272), .ref (ad 273), .ref (ad 274), .long v45_1, .long v46_1, .int v47_1, .int v48_1, .ref (ad 275), .int v50_1, .int v51_1, .ref (ad 276), .int v53_1, .ref (ad 277), .int v55_1]) hx hb hts (fun w h => mT (inX11 w h)) tyX11 tyX11_ok nmX11 hown hG.1 hP hD hS (hst.1 255 (by decide)) hf2 rfl 0 (by decide) (hts _ (mT wg_1336)) (fun _ h => h) rfl (by decide +kernel) (rfl) (rfl) (Nat.le_of_ble_eq_true rfl) rfl dX11_broken_2 (fun H locs f3 hf4 ho5 hP hD hS => ?_)
  have hfr : (∀ b, b ≠ (ad 255) → b ≠ (ad 265) → b ≠ (ad 266) → b ≠ (ad 267) → b ≠ (ad 268) → b ≠ (ad 269) → b ≠ (ad 270) → b ≠ (ad 260) → b ≠ (ad 261) → b ≠ (ad 262) → b ≠ (ad 263) → b ≠ (ad 264) → f3 b = f b) := fun b z0_ z1_ z2_ z3_ z4_ z5_ z6_ z7_ z8_ z9_ z10_ z11_ => (ho5 b z0_).trans (hfr b z0_ z1_ z2_ z3_ z4_ z5_ z6_ z7_ z8_ z9_ z10_ z11_)
  refine lv_aload_n hx hb dX11_broken_5 rfl (lv_at hl 0 rfl) ?_
  have hT := TI.updM hT hst (k := 0) (by decide) hf4 ho5 ⟨0, v2_1, v3_1, v4_1, v5_1, v6_1, v8_1, v9_1, v12_1, v13_1, v14_1, v15_1, v16_1, v17_1, v18_1, v19_1, v20_1, v21_1, v22_1, v23_1, v25_1, v36_1, v37_1, v38_1, v39_1, v40_1, v45_1, v46_1, v47_1, v48_1, v50_1, v51_1, v53_1, v55_1, rfl, (⟨by decide, by decide⟩ : In 0 0 1), hv2_1, hg2_1, hv3_1, hg3_1, hv4_1, hg4_1, hv5_1, hg5_1, hv6_1, hg6_1, hv8_1, hg8_1, hv9_1, hg9_1, hv12_1, hv13_1, hg13_1, hv14_1, hg14_1, hv15_1, hg15_1, hv17_1, hg17_1, hv20_1, hg20_1, hv23_1, hg23_1, hv25_1, hg25_1, hv36_1, hg36_1, hv47_1, hg47_1, hv48_1, hg48_1, hv53_1, hg53_1, hv55_1, hg55_1, hrel0_1⟩
  refine call_i (run_V (rm := rm_X11_canSearch) hx hb hml hown hts (s_X11_canSearch l g ad th _ _ _  hst hT (show MI th from hM)) cV_X11_canSearch wg_1834 ⟨Nat.le_of_ble_eq_true rfl, Nat.le_of_ble_eq_true rfl⟩ hG hE hA hP hD hS (hst.1 255 (by decide)) hf4 rfl rfl hl.1 (As := []) (rest := []) rfl (Nat.le_of_ble_eq_true rfl) dX11_broken_6 ⟨Nat.le_of_ble_eq_true rfl, Nat.le_of_ble_eq_true rfl⟩) hA hD hS (fun r6 L7 f8 H locs hp9 hP hD hS => ?_)
  obtain ⟨eL10L, eL10T, eL10F, eL10R⟩ := hp9
  have eL10L : L7 = L := eL10L
  rw [eL10L] at hP hD
  obtain ⟨zz11, zz12, hzz11, eL10T⟩ := eL10T
  have hT : TI g ad (gset (gset th 14 zz11) 18 zz12) f8 := eL10T
  have eL10F : ∀ b, b ≠ (ad 255) → b ≠ (ad 265) → b ≠ (ad 266) → b ≠ (ad 267) → b ≠ (ad 269) → b ≠ (ad 260) → b ≠ (ad 261) → b ≠ (ad 262) → b ≠ (ad 263) → b ≠ (ad 264) → f8 b = f3 b := eL10F
  have hfr : (∀ b, b ≠ (ad 255) → b ≠ (ad 265) → b ≠ (ad 266) → b ≠ (ad 267) → b ≠ (ad 268) → b ≠ (ad 269) → b ≠ (ad 270) → b ≠ (ad 260) → b ≠ (ad 261) → b ≠ (ad 262) → b ≠ (ad 263) → b ≠ (ad 264) → f8 b = f b) := fun b z0_ z1_ z2_ z3_ z4_ z5_ z6_ z7_ z8_ z9_ z10_ z11_ => (eL10F b z0_ z1_ z2_ z3_ z5_ z7_ z8_ z9_ z10_ z11_).trans (hfr b z0_ z1_ z2_ z3_ z4_ z5_ z6_ z7_ z8_ z9_ z10_ z11_)
  have eL10R : In r6 0 1 := eL10R
  refine lv_if_eq (tgt := 19) hx hb dX11_broken_9 (by decide) (fun c13 => ?_) (fun c13 => ?_)
  ·
    have oc0 : (0 : Int32).toInt = 0 := by decide
    have cc14 : r6.toInt = (0 : Int32).toInt := congrArg Int32.toInt c13
    have hb15 : In r6 0 0 := In.eq1 eL10R (⟨by decide, by decide⟩ : In 0 0 0) cc14 (by omega) (by omega)
    refine lv_bipush (v := (-2)) hx hb dX11_broken_19 (by decide) ?_
    exact ret_i (ty := .int) hx hb hr hlocks (rfl) hP hD hS (Nat.le_of_ble_eq_true rfl) (Nat.le_of_ble_eq_true rfl) (⟨rfl, ⟨(gset (gset th 14 zz11) 18 zz12), ⟨(show MI (gset (gset th 14 zz11) 18 zz12) from ⟨m1, m2, (show th 20 = (th 12) * rnd (th 10) from m3), m4, m5, m6, m7, m8, m9, m10⟩), (SBM.set (k := 18) (SBM.set (k := 14) (SBM.rf th) (by decide)) (by decide))⟩, hT⟩, hfr⟩) dX11_broken_21
  ·
    have oc0 : (0 : Int32).toInt = 0 := by decide
    have cc16 : r6.toInt ≠ (0 : Int32).toInt := i32_ne c13
    have hb17 : In r6 1 1 := In.ne1 eL10R (⟨by decide, by decide⟩ : In 0 0 0) cc16 (by omega) (by omega)
    refine lv_aload_n hx hb dX11_broken_12 rfl (lv_at hl 0 rfl) ?_
    refine M0e hT (fun v0_18 v2_18 v3_18 v4_18 v5_18 v6_18 v8_18 v9_18 v12_18 v13_18 v14_18 v15_18 v16_18 v17_18 v18_18 v19_18 v20_18 v21_18 v22_18 v23_18 v25_18 v36_18 v37_18 v38_18 v39_18 v40_18 v45_18 v46_18 v47_18 v48_18 v50_18 v51_18 v53_18 v55_18 hf19 hv0_18 hv2_18 hg2_18 hv3_18 hg3_18 hv4_18 hg4_18 hv5_18 hg5_18 hv6_18 hg6_18 hv8_18 hg8_18 hv9_18 hg9_18 hv12_18 hv13_18 hg13_18 hv14_18 hg14_18 hv15_18 hg15_18 hv17_18 hg17_18 hv20_18 hg20_18 hv23_18 hg23_18 hv25_18 hg25_18 hv36_18 hg36_18 hv47_18 hg47_18 hv48_18 hg48_18 hv53_18 hg53_18 hv55_18 hg55_18 hrel0_18 => ?_)
    have hg2_18 : v2_18.toInt = th 13 := hg2_18
    have hg3_18 : v3_18.toInt = th 37 := hg3_18
    have hg4_18 : v4_18.toInt = th 42 := hg4_18
    have hg5_18 : v5_18.toInt = th 40 := hg5_18
    have hg6_18 : v6_18.toInt = th 41 := hg6_18
    have hg8_18 : v8_18.toInt = th 43 := hg8_18
    have hg9_18 : v9_18.toInt = th 35 := hg9_18
    have hg13_18 : v13_18.toInt = th 36 := hg13_18
    have hg14_18 : v14_18.toInt = th 10 := hg14_18
    have hg15_18 : v15_18.toInt = th 11 := hg15_18
    have hg17_18 : v17_18.toInt = th 12 := hg17_18
    have hg20_18 : v20_18.toInt = zz11 := hg20_18
    have hg23_18 : v23_18.toInt = th 15 := hg23_18
    have hg25_18 : v25_18.toInt = th 44 := hg25_18
    have hg36_18 : v36_18.toInt = zz12 := hg36_18
    have hg47_18 : v47_18.toInt = th 16 := hg47_18
    have hg48_18 : v48_18.toInt = th 17 := hg48_18
    have hg53_18 : v53_18.toInt = th 38 := hg53_18
    have hg55_18 : v55_18.toInt = th 39 := hg55_18
    refine call_i (run_V (rm := rm_X11_leastBroken) hx hb hml hown hts (s_X11_leastBroken l g ad (gset (gset th 14 zz11) 18 zz12) _ _ _  hst hT (show 3 ≤ th 11 by omega)) cV_X11_leastBroken wg_1838 ⟨Nat.le_of_ble_eq_true rfl, Nat.le_of_ble_eq_true rfl⟩ hG hE hA hP hD hS (hst.1 255 (by decide)) hf19 rfl rfl hl.1 (As := []) (rest := []) rfl (Nat.le_of_ble_eq_true rfl) dX11_broken_13 ⟨Nat.le_of_ble_eq_true rfl, Nat.le_of_ble_eq_true rfl⟩) hA hD hS (fun r20 L21 f22 H locs hp23 hP hD hS => ?_)
    obtain ⟨eL24L, eL24T, eL24F⟩ := hp23
    have eL24L : L21 = L := eL24L
    rw [eL24L] at hP hD
    obtain ⟨zz25, hzz25, eL24T⟩ := eL24T
    have hzz25 : True := hzz25
    have hT : TI g ad (gset (gset (gset th 14 zz11) 18 zz12) 18 zz25) f22 := eL24T
    have hT : TI g ad (gset (gset th 14 zz11) 18 zz25) f22 := TI.cast hT (by funext q; by_cases hq0 : q = 18; (subst hq0; rfl); by_cases hq1 : q = 14; (subst hq1; rfl); simp only [gset, if_neg hq0, if_neg hq1])
    have eL24F : ∀ b, b ≠ (ad 255) → b ≠ (ad 265) → b ≠ (ad 266) → b ≠ (ad 267) → b ≠ (ad 268) → b ≠ (ad 269) → b ≠ (ad 270) → b ≠ (ad 261) → b ≠ (ad 262) → b ≠ (ad 263) → b ≠ (ad 264) → f22 b = f8 b := eL24F
    have hfr : (∀ b, b ≠ (ad 255) → b ≠ (ad 265) → b ≠ (ad 266) → b ≠ (ad 267) → b ≠ (ad 268) → b ≠ (ad 269) → b ≠ (ad 270) → b ≠ (ad 260) → b ≠ (ad 261) → b ≠ (ad 262) → b ≠ (ad 263) → b ≠ (ad 264) → f22 b = f b) := fun b z0_ z1_ z2_ z3_ z4_ z5_ z6_ z7_ z8_ z9_ z10_ z11_ => (eL24F b z0_ z1_ z2_ z3_ z4_ z5_ z6_ z8_ z9_ z10_ z11_).trans (hfr b z0_ z1_ z2_ z3_ z4_ z5_ z6_ z7_ z8_ z9_ z10_ z11_)
    refine lv_goto (tgt := 21) hx hb dX11_broken_16 (by decide) ?_
    exact ret_i (ty := .int) hx hb hr hlocks (rfl) hP hD hS (Nat.le_of_ble_eq_true rfl) (Nat.le_of_ble_eq_true rfl) (⟨rfl, ⟨(gset (gset th 14 zz11) 18 zz25), ⟨(show MI (gset (gset th 14 zz11) 18 zz25) from ⟨m1, m2, (show th 20 = (th 12) * rnd (th 10) from m3), m4, m5, m6, m7, m8, m9, m10⟩), (SBM.set (k := 18) (SBM.set (k := 14) (SBM.rf th) (by decide)) (by decide))⟩, hT⟩, hfr⟩) dX11_broken_21

abbrev rm_X11_findsStarts : Room := { frames := 7, cells := 0, slots := 0, locals := 170 }
abbrev po_X11_findsStarts (g : GG) (ad : Nat → Nat) (th : Nat → Int) (L : List Nat) (f : HP)  : (List Nat × HP) → Prop := fun u => u.1 = L ∧ (∃ z18 : Int, (True) ∧ TI g ad (gset th 18 z18) u.2) ∧ (∀ b, b ≠ (ad 255) → b ≠ (ad 265) → b ≠ (ad 266) → b ≠ (ad 267) → b ≠ (ad 268) → b ≠ (ad 269) → b ≠ (ad 270) → b ≠ (ad 261) → b ≠ (ad 262) → b ≠ (ad 263) → b ≠ (ad 264) → u.2 b = f b)
set_option maxHeartbeats 4000000 in
set_option maxRecDepth 100000 in
theorem s_X11_findsStarts (l : Launch) (g : GG) (ad : Nat → Nat) (th : Nat → Int) (L : List Nat) (f : HP) (sz : Nat)  (hst : ST ad L) (hT : TI g ad th f) (hn3 : 3 ≤ th 11) : MtV l g yX11_findsStarts cX11_findsStarts 2 rm_X11_findsStarts [.ref (ad 255)] L f sz (po_X11_findsStarts g ad th L f ) := by
  refine MtV.of (by decide +kernel) (Nat.le_of_ble_eq_true rfl) ?_
  intro p e s m below meth c A hEn hP hD hS ls hl
  obtain ⟨hx, hb, hr, hml, hown, hlocks, hts, hG, hA, hE, hnm⟩ := hEn
  have hown : s.vm.findClass "RulerWordModel" = some m.cls := hown
  have hl : lv_has ls 2 [(0, .ref (ad 255))] := hl
  have hfr : (∀ b, b ≠ (ad 255) → b ≠ (ad 265) → b ≠ (ad 266) → b ≠ (ad 267) → b ≠ (ad 268) → b ≠ (ad 269) → b ≠ (ad 270) → b ≠ (ad 261) → b ≠ (ad 262) → b ≠ (ad 263) → b ≠ (ad 264) → f b = f b) := fun b z0_ z1_ z2_ z3_ z4_ z5_ z6_ z7_ z8_ z9_ z10_ => rfl
  refine lv_aload_n hx hb dX11_findsStarts_0 rfl (lv_at hl 0 rfl) ?_
  refine lv_iconst (v := 0) hx hb dX11_findsStarts_1 (by decide) ?_
  refine M0e hT (fun v0_1 v2_1 v3_1 v4_1 v5_1 v6_1 v8_1 v9_1 v12_1 v13_1 v14_1 v15_1 v16_1 v17_1 v18_1 v19_1 v20_1 v21_1 v22_1 v23_1 v25_1 v36_1 v37_1 v38_1 v39_1 v40_1 v45_1 v46_1 v47_1 v48_1 v50_1 v51_1 v53_1 v55_1 hf2 hv0_1 hv2_1 hg2_1 hv3_1 hg3_1 hv4_1 hg4_1 hv5_1 hg5_1 hv6_1 hg6_1 hv8_1 hg8_1 hv9_1 hg9_1 hv12_1 hv13_1 hg13_1 hv14_1 hg14_1 hv15_1 hg15_1 hv17_1 hg17_1 hv20_1 hg20_1 hv23_1 hg23_1 hv25_1 hg25_1 hv36_1 hg36_1 hv47_1 hg47_1 hv48_1 hg48_1 hv53_1 hg53_1 hv55_1 hg55_1 hrel0_1 => ?_)
  have hb3 : In v15_1 3 9 := ⟨by rw [hg15_1]; exact hn3, hv15_1.2⟩
  refine pl_put (ty := .int) (v := .int 0) (fs' := [.int v0_1, .ref (ad 256), .int v2_1, .int v3_1, .int v4_1, .int v5_1, .int v6_1, .ref (ad 257), .int v8_1, .int v9_1, .ref (ad 258), .ref (ad 259), .int v12_1, .int v13_1, .int v14_1, .int v15_1, .int v16_1, .int v17_1, .int v18_1, .int v19_1, .int v20_1, .long v21_1, .long v22_1, .int v23_1, .ref (ad 260), .int v25_1, .ref (ad 261), .ref (ad 262), .ref (ad 263), .ref (ad 264), .ref (ad 265), .ref (ad 266), .ref (ad 267), .ref (ad 268), .ref (ad 269), .ref (ad 270), .int v36_1, .int v37_1, .int v38_1, .int v39_1, .int v40_1, .ref (ad 271), .ref (ad 272), .ref (ad 273), .ref (ad 274), .long v45_1, .long v46_1, .int v47_1, .int v48_1, .ref (ad 275), .int v50_1, .int 0, .ref (ad 276), .int v53_1, .ref (ad 277), .int v55_1]) hx hb hts (fun w h => mT (inX11 w h)) tyX11 tyX11_ok nmX11 hown hG.1 hP hD hS (hst.1 255 (by decide)) hf2 rfl 51 (by decide) (hts _ (mT wg_1387)) (fun _ h => h) rfl (by decide +kernel) (rfl) (rfl) (Nat.le_of_ble_eq_true rfl) rfl dX11_findsStarts_2 (fun H locs f4 hf5 ho6 hP hD hS => ?_)
  have hfr : (∀ b, b ≠ (ad 255) → b ≠ (ad 265) → b ≠ (ad 266) → b ≠ (ad 267) → b ≠ (ad 268) → b ≠ (ad 269) → b ≠ (ad 270) → b ≠ (ad 261) → b ≠ (ad 262) → b ≠ (ad 263) → b ≠ (ad 264) → f4 b = f b) := fun b z0_ z1_ z2_ z3_ z4_ z5_ z6_ z7_ z8_ z9_ z10_ => (ho6 b z0_).trans (hfr b z0_ z1_ z2_ z3_ z4_ z5_ z6_ z7_ z8_ z9_ z10_)
  refine lv_aload_n hx hb dX11_findsStarts_5 rfl (lv_at hl 0 rfl) ?_
  refine lv_iconst (v := (-1)) hx hb dX11_findsStarts_6 (by decide) ?_
  refine pl_put (ty := .int) (v := .int (-1)) (fs' := [.int v0_1, .ref (ad 256), .int v2_1, .int v3_1, .int v4_1, .int v5_1, .int v6_1, .ref (ad 257), .int v8_1, .int v9_1, .ref (ad 258), .ref (ad 259), .int v12_1, .int v13_1, .int v14_1, .int v15_1, .int v16_1, .int v17_1, .int v18_1, .int v19_1, .int v20_1, .long v21_1, .long v22_1, .int v23_1, .ref (ad 260), .int v25_1, .ref (ad 261), .ref (ad 262), .ref (ad 263), .ref (ad 264), .ref (ad 265), .ref (ad 266), .ref (ad 267), .ref (ad 268), .ref (ad 269), .ref (ad 270), .int v36_1, .int v37_1, .int v38_1, .int v39_1, .int v40_1, .ref (ad 271), .ref (ad 272), .ref (ad 273), .ref (ad 274), .long v45_1, .long v46_1, .int v47_1, .int v48_1, .ref (ad 275), .int (-1), .int 0, .ref (ad 276), .int v53_1, .ref (ad 277), .int v55_1]) hx hb hts (fun w h => mT (inX11 w h)) tyX11 tyX11_ok nmX11 hown hG.1 hP hD hS (hst.1 255 (by decide)) hf5 rfl 50 (by decide) (hts _ (mT wg_1386)) (fun _ h => h) rfl (by decide +kernel) (rfl) (rfl) (Nat.le_of_ble_eq_true rfl) rfl dX11_findsStarts_7 (fun H locs f7 hf8 ho9 hP hD hS => ?_)
  have ho10 : ∀ b, b ≠ (ad 255) → f7 b = _ := fun b hb => (ho9 b hb).trans (ho6 b hb)
  have hfr : (∀ b, b ≠ (ad 255) → b ≠ (ad 265) → b ≠ (ad 266) → b ≠ (ad 267) → b ≠ (ad 268) → b ≠ (ad 269) → b ≠ (ad 270) → b ≠ (ad 261) → b ≠ (ad 262) → b ≠ (ad 263) → b ≠ (ad 264) → f7 b = f b) := fun b z0_ z1_ z2_ z3_ z4_ z5_ z6_ z7_ z8_ z9_ z10_ => (ho9 b z0_).trans (hfr b z0_ z1_ z2_ z3_ z4_ z5_ z6_ z7_ z8_ z9_ z10_)
  refine lv_iconst (v := 0) hx hb dX11_findsStarts_10 (by decide) ?_
  refine lv_istore_n (lv' := [(1, .int 0), (0, .ref (ad 255))]) hx hb dX11_findsStarts_11 rfl hl (by decide) rfl (fun ls hl => ?_)
  have hT := TI.updM hT hst (k := 0) (by decide) hf8 ho10 ⟨v0_1, v2_1, v3_1, v4_1, v5_1, v6_1, v8_1, v9_1, v12_1, v13_1, v14_1, v15_1, v16_1, v17_1, v18_1, v19_1, v20_1, v21_1, v22_1, v23_1, v25_1, v36_1, v37_1, v38_1, v39_1, v40_1, v45_1, v46_1, v47_1, v48_1, (-1), 0, v53_1, v55_1, rfl, hv0_1, hv2_1, hg2_1, hv3_1, hg3_1, hv4_1, hg4_1, hv5_1, hg5_1, hv6_1, hg6_1, hv8_1, hg8_1, hv9_1, hg9_1, hv12_1, hv13_1, hg13_1, hv14_1, hg14_1, (In.mono hb3 (by decide) (by decide)), hg15_1, hv17_1, hg17_1, hv20_1, hg20_1, hv23_1, hg23_1, hv25_1, hg25_1, hv36_1, hg36_1, hv47_1, hg47_1, hv48_1, hg48_1, hv53_1, hg53_1, hv55_1, hg55_1, hrel0_1⟩
  have hJ12 : ∀ (k12 : Nat) (zg12_zg : Int) (y12_l1 : Int32) (f_12 : HP) (H : Heap) (locs : List Loc) (ls : Array Slot), In y12_l1 0 2147483647 → va_P g.1 vwCl (va_pl L f_12) H → va_D A (va_pl L f_12) → va_S A s.heap H locs → TI g ad (gset th 18 zg12_zg) f_12 → (∀ b, b ≠ (ad 255) → b ≠ (ad 265) → b ≠ (ad 266) → b ≠ (ad 267) → b ≠ (ad 268) → b ≠ (ad 269) → b ≠ (ad 270) → b ≠ (ad 261) → b ≠ (ad 262) → b ≠ (ad 263) → b ≠ (ad 264) → f_12 b = f b) → lv_has ls 2 [(0, .ref (ad 255)), (1, .int y12_l1)] → 2147483647 - y12_l1.toInt < ((k12 : Nat) : Int) → W p l e rm_X11_findsStarts s m [.ref (ad 255)].toArray below meth c H locs 0 0 (MQ below (va_Qv (po_X11_findsStarts g ad th L f ) (PstB g A) A) [.ref (ad 255)].toArray s rm_X11_findsStarts.cells rm_X11_findsStarts.slots A) (F0 m 12 ls []) := by
    intro k12
    induction k12 with
    | zero =>
      intro zg12_zg y12_l1 f_12 H locs ls hy12_l1 hP hD hS hT hfr hl hmz12
      exact ms0 hy12_l1 hmz12
    | succ k12 ih12 =>
      intro zg12_zg y12_l1 f_12 H locs ls hy12_l1 hP hD hS hT hfr hl hmz12
      refine lv_iload_n hx hb dX11_findsStarts_12 rfl (lv_at hl 1 rfl) ?_
      refine lv_iconst (v := 1) hx hb dX11_findsStarts_13 (by decide) ?_
      refine lv_aload_n hx hb dX11_findsStarts_14 rfl (lv_at hl 0 rfl) ?_
      refine M0e hT (fun v0_11 v2_11 v3_11 v4_11 v5_11 v6_11 v8_11 v9_11 v12_11 v13_11 v14_11 v15_11 v16_11 v17_11 v18_11 v19_11 v20_11 v21_11 v22_11 v23_11 v25_11 v36_11 v37_11 v38_11 v39_11 v40_11 v45_11 v46_11 v47_11 v48_11 v50_11 v51_11 v53_11 v55_11 hf12 hv0_11 hv2_11 hg2_11 hv3_11 hg3_11 hv4_11 hg4_11 hv5_11 hg5_11 hv6_11 hg6_11 hv8_11 hg8_11 hv9_11 hg9_11 hv12_11 hv13_11 hg13_11 hv14_11 hg14_11 hv15_11 hg15_11 hv17_11 hg17_11 hv20_11 hg20_11 hv23_11 hg23_11 hv25_11 hg25_11 hv36_11 hg36_11 hv47_11 hg47_11 hv48_11 hg48_11 hv53_11 hg53_11 hv55_11 hg55_11 hrel0_11 => ?_)
      have hg2_11 : v2_11.toInt = th 13 := hg2_11
      have hg3_11 : v3_11.toInt = th 37 := hg3_11
      have hg4_11 : v4_11.toInt = th 42 := hg4_11
      have hg5_11 : v5_11.toInt = th 40 := hg5_11
      have hg6_11 : v6_11.toInt = th 41 := hg6_11
      have hg8_11 : v8_11.toInt = th 43 := hg8_11
      have hg9_11 : v9_11.toInt = th 35 := hg9_11
      have hg13_11 : v13_11.toInt = th 36 := hg13_11
      have hg14_11 : v14_11.toInt = th 10 := hg14_11
      have hg15_11 : v15_11.toInt = th 11 := hg15_11
      have hg17_11 : v17_11.toInt = th 12 := hg17_11
      have hg20_11 : v20_11.toInt = th 14 := hg20_11
      have hg23_11 : v23_11.toInt = th 15 := hg23_11
      have hg25_11 : v25_11.toInt = th 44 := hg25_11
      have hg36_11 : v36_11.toInt = zg12_zg := hg36_11
      have hg47_11 : v47_11.toInt = th 16 := hg47_11
      have hg48_11 : v48_11.toInt = th 17 := hg48_11
      have hg53_11 : v53_11.toInt = th 38 := hg53_11
      have hg55_11 : v55_11.toInt = th 39 := hg55_11
      have hb13 : In v15_11 3 9 := ⟨by rw [hg15_11]; exact hn3, hv15_11.2⟩
      refine pl_get (v := .int v15_11) hx hb hts (fun w h => mT (inX11 w h)) hown hG.1 hP (hst.1 255 (by decide)) hf12 rfl 15 (by decide) (hts _ (mT wg_1351)) (fun _ h => h) rfl dX11_findsStarts_15 ?_
      refine lv_ishl hx hb dX11_findsStarts_18 ?_
      refine lv_topi (fun x14 ex14 => ?_)
      have hb15 : In x14 8 512 := ex14 ▸ In.shl (⟨by decide, by decide⟩ : In 1 1 1) hb13 (by decide) (by decide) (by decide) (by decide) (by decide) (by decide)
      refine lv_icmp_ge (tgt := 74) hx hb dX11_findsStarts_19 (by decide) (fun c16 => ?_) (fun c16 => ?_)
      ·
        have cc17 : x14.toInt ≤ y12_l1.toInt := i32_le.mp c16
        have hb18 : In y12_l1 8 2147483647 := In.ge1 hy12_l1 hb15 cc17 (by omega) (by omega)
        exact ret_v hx hb hr hlocks hP hD hS (Nat.le_of_ble_eq_true rfl) (Nat.le_of_ble_eq_true rfl) (⟨rfl, ⟨zg12_zg, trivial, TI.cast hT (by funext q; by_cases hq0 : q = 18; (subst hq0; rfl); simp only [gset, if_neg hq0])⟩, hfr⟩) dX11_findsStarts_74
      ·
        have cc19 : y12_l1.toInt < x14.toInt := i32_nle c16
        have hb20 : In y12_l1 0 511 := In.lt1 hy12_l1 hb15 cc19 (by omega) (by omega)
        refine lv_aload_n hx hb dX11_findsStarts_22 rfl (lv_at hl 0 rfl) ?_
        refine lv_iload_n hx hb dX11_findsStarts_23 rfl (lv_at hl 1 rfl) ?_
        refine pl_put (ty := .int) (v := .int y12_l1) (fs' := [.int v0_11, .ref (ad 256), .int v2_11, .int v3_11, .int v4_11, .int v5_11, .int v6_11, .ref (ad 257), .int v8_11, .int v9_11, .ref (ad 258), .ref (ad 259), .int v12_11, .int v13_11, .int v14_11, .int v15_11, .int v16_11, .int v17_11, .int v18_11, .int y12_l1, .int v20_11, .long v21_11, .long v22_11, .int v23_11, .ref (ad 260), .int v25_11, .ref (ad 261), .ref (ad 262), .ref (ad 263), .ref (ad 264), .ref (ad 265), .ref (ad 266), .ref (ad 267), .ref (ad 268), .ref (ad 269), .ref (ad 270), .int v36_11, .int v37_11, .int v38_11, .int v39_11, .int v40_11, .ref (ad 271), .ref (ad 272), .ref (ad 273), .ref (ad 274), .long v45_11, .long v46_11, .int v47_11, .int v48_11, .ref (ad 275), .int v50_11, .int v51_11, .ref (ad 276), .int v53_11, .ref (ad 277), .int v55_11]) hx hb hts (fun w h => mT (inX11 w h)) tyX11 tyX11_ok nmX11 hown hG.1 hP hD hS (hst.1 255 (by decide)) hf12 rfl 19 (by decide) (hts _ (mT wg_1355)) (fun _ h => h) rfl (by decide +kernel) (rfl) (rfl) (Nat.le_of_ble_eq_true rfl) rfl dX11_findsStarts_24 (fun H locs f21 hf22 ho23 hP hD hS => ?_)
        have hfr : (∀ b, b ≠ (ad 255) → b ≠ (ad 265) → b ≠ (ad 266) → b ≠ (ad 267) → b ≠ (ad 268) → b ≠ (ad 269) → b ≠ (ad 270) → b ≠ (ad 261) → b ≠ (ad 262) → b ≠ (ad 263) → b ≠ (ad 264) → f21 b = f b) := fun b z0_ z1_ z2_ z3_ z4_ z5_ z6_ z7_ z8_ z9_ z10_ => (ho23 b z0_).trans (hfr b z0_ z1_ z2_ z3_ z4_ z5_ z6_ z7_ z8_ z9_ z10_)
        refine lv_aload_n hx hb dX11_findsStarts_27 rfl (lv_at hl 0 rfl) ?_
        have hT := TI.updM hT hst (k := 0) (by decide) hf22 ho23 ⟨v0_11, v2_11, v3_11, v4_11, v5_11, v6_11, v8_11, v9_11, v12_11, v13_11, v14_11, v15_11, v16_11, v17_11, v18_11, y12_l1, v20_11, v21_11, v22_11, v23_11, v25_11, v36_11, v37_11, v38_11, v39_11, v40_11, v45_11, v46_11, v47_11, v48_11, v50_11, v51_11, v53_11, v55_11, rfl, hv0_11, hv2_11, hg2_11, hv3_11, hg3_11, hv4_11, hg4_11, hv5_11, hg5_11, hv6_11, hg6_11, hv8_11, hg8_11, hv9_11, hg9_11, hv12_11, hv13_11, hg13_11, hv14_11, hg14_11, (In.mono hb13 (by decide) (by decide)), hg15_11, hv17_11, hg17_11, hv20_11, hg20_11, hv23_11, hg23_11, hv25_11, hg25_11, hv36_11, hg36_11, hv47_11, hg47_11, hv48_11, hg48_11, hv53_11, hg53_11, hv55_11, hg55_11, hrel0_11⟩
        refine call_i (run_V (rm := rm_X11_leastBroken) hx hb hml hown hts (s_X11_leastBroken l g ad (gset th 18 zg12_zg) _ _ _  hst hT hn3) cV_X11_leastBroken wg_1838 ⟨Nat.le_of_ble_eq_true rfl, Nat.le_of_ble_eq_true rfl⟩ hG hE hA hP hD hS (hst.1 255 (by decide)) hf22 rfl rfl hl.1 (As := []) (rest := []) rfl (Nat.le_of_ble_eq_true rfl) dX11_findsStarts_28 ⟨Nat.le_of_ble_eq_true rfl, Nat.le_of_ble_eq_true rfl⟩) hA hD hS (fun r24 L25 f26 H locs hp27 hP hD hS => ?_)
        obtain ⟨eL28L, eL28T, eL28F⟩ := hp27
        have eL28L : L25 = L := eL28L
        rw [eL28L] at hP hD
        obtain ⟨zz29, hzz29, eL28T⟩ := eL28T
        have hzz29 : True := hzz29
        have hT : TI g ad (gset (gset th 18 zg12_zg) 18 zz29) f26 := eL28T
        have hT : TI g ad (gset th 18 zz29) f26 := TI.cast hT (by funext q; by_cases hq0 : q = 18; (subst hq0; rfl); simp only [gset, if_neg hq0])
        have eL28F : ∀ b, b ≠ (ad 255) → b ≠ (ad 265) → b ≠ (ad 266) → b ≠ (ad 267) → b ≠ (ad 268) → b ≠ (ad 269) → b ≠ (ad 270) → b ≠ (ad 261) → b ≠ (ad 262) → b ≠ (ad 263) → b ≠ (ad 264) → f26 b = f21 b := eL28F
        have hfr : (∀ b, b ≠ (ad 255) → b ≠ (ad 265) → b ≠ (ad 266) → b ≠ (ad 267) → b ≠ (ad 268) → b ≠ (ad 269) → b ≠ (ad 270) → b ≠ (ad 261) → b ≠ (ad 262) → b ≠ (ad 263) → b ≠ (ad 264) → f26 b = f b) := fun b z0_ z1_ z2_ z3_ z4_ z5_ z6_ z7_ z8_ z9_ z10_ => (eL28F b z0_ z1_ z2_ z3_ z4_ z5_ z6_ z7_ z8_ z9_ z10_).trans (hfr b z0_ z1_ z2_ z3_ z4_ z5_ z6_ z7_ z8_ z9_ z10_)
        refine lv_iconst (v := (-1)) hx hb dX11_findsStarts_31 (by decide) ?_
        have hJ68 : ∀ (zg68_zg : Int) (f_68 : HP) (H : Heap) (locs : List Loc) (ls : Array Slot), va_P g.1 vwCl (va_pl L f_68) H → va_D A (va_pl L f_68) → va_S A s.heap H locs → TI g ad (gset th 18 zg68_zg) f_68 → (∀ b, b ≠ (ad 255) → b ≠ (ad 265) → b ≠ (ad 266) → b ≠ (ad 267) → b ≠ (ad 268) → b ≠ (ad 269) → b ≠ (ad 270) → b ≠ (ad 261) → b ≠ (ad 262) → b ≠ (ad 263) → b ≠ (ad 264) → f_68 b = f b) → lv_has ls 2 [(0, .ref (ad 255)), (1, .int y12_l1)] → W p l e rm_X11_findsStarts s m [.ref (ad 255)].toArray below meth c H locs 0 0 (MQ below (va_Qv (po_X11_findsStarts g ad th L f ) (PstB g A) A) [.ref (ad 255)].toArray s rm_X11_findsStarts.cells rm_X11_findsStarts.slots A) (F0 m 68 ls []) := by
          intro zg68_zg f_68 H locs ls hP hD hS hT hfr hl
          obtain ⟨x30, ex30⟩ : ∃ y : Int32, y = y12_l1 + 1 := ⟨_, rfl⟩
          have hb31 : In x30 1 512 := ex30 ▸ In.add hb20 (⟨by decide, by decide⟩ : In 1 1 1) (by decide) (by decide) (by decide) (by decide)
          have et32 : x30.toInt = y12_l1.toInt + 1 := In.adde ex30 hb20 (k := 1) (by decide) (by decide) (by decide)
          refine lv_iinc (v := x30) (lv' := [(1, .int x30), (0, .ref (ad 255))]) hx hb dX11_findsStarts_68 hl (k := 1) rfl (by rw [ex30]; rfl) (by decide) rfl (fun ls hl => ?_)
          refine lv_goto (tgt := 12) hx hb dX11_findsStarts_71 (by decide) ?_
          exact ih12 zg68_zg x30 _ _ _ _ (In.mono hb31 (by decide) (by decide)) hP hD hS (TI.cast hT (by funext q; by_cases hq0 : q = 18; (subst hq0; rfl); simp only [gset, if_neg hq0])) hfr (lv_sub hl [1, 0] rfl) (msu et32 (by decide) hmz12)
        refine lv_icmp_ne (tgt := 38) hx hb dX11_findsStarts_32 (by decide) (fun c33 => ?_) (fun c33 => ?_)
        ·
          have ocm1 : ((-1) : Int32).toInt = (-1) := by decide
          have cc34 : r24.toInt ≠ ((-1) : Int32).toInt := i32_ne c33
          refine lv_aload_n hx hb dX11_findsStarts_38 rfl (lv_at hl 0 rfl) ?_
          refine lv_dup hx hb dX11_findsStarts_39 rfl ?_
          refine M0e hT (fun v0_35 v2_35 v3_35 v4_35 v5_35 v6_35 v8_35 v9_35 v12_35 v13_35 v14_35 v15_35 v16_35 v17_35 v18_35 v19_35 v20_35 v21_35 v22_35 v23_35 v25_35 v36_35 v37_35 v38_35 v39_35 v40_35 v45_35 v46_35 v47_35 v48_35 v50_35 v51_35 v53_35 v55_35 hf36 hv0_35 hv2_35 hg2_35 hv3_35 hg3_35 hv4_35 hg4_35 hv5_35 hg5_35 hv6_35 hg6_35 hv8_35 hg8_35 hv9_35 hg9_35 hv12_35 hv13_35 hg13_35 hv14_35 hg14_35 hv15_35 hg15_35 hv17_35 hg17_35 hv20_35 hg20_35 hv23_35 hg23_35 hv25_35 hg25_35 hv36_35 hg36_35 hv47_35 hg47_35 hv48_35 hg48_35 hv53_35 hg53_35 hv55_35 hg55_35 hrel0_35 => ?_)
          have hg2_35 : v2_35.toInt = th 13 := hg2_35
          have hg3_35 : v3_35.toInt = th 37 := hg3_35
          have hg4_35 : v4_35.toInt = th 42 := hg4_35
          have hg5_35 : v5_35.toInt = th 40 := hg5_35
          have hg6_35 : v6_35.toInt = th 41 := hg6_35
          have hg8_35 : v8_35.toInt = th 43 := hg8_35
          have hg9_35 : v9_35.toInt = th 35 := hg9_35
          have hg13_35 : v13_35.toInt = th 36 := hg13_35
          have hg14_35 : v14_35.toInt = th 10 := hg14_35
          have hg15_35 : v15_35.toInt = th 11 := hg15_35
          have hg17_35 : v17_35.toInt = th 12 := hg17_35
          have hg20_35 : v20_35.toInt = th 14 := hg20_35
          have hg23_35 : v23_35.toInt = th 15 := hg23_35
          have hg25_35 : v25_35.toInt = th 44 := hg25_35
          have hg36_35 : v36_35.toInt = zz29 := hg36_35
          have hg47_35 : v47_35.toInt = th 16 := hg47_35
          have hg48_35 : v48_35.toInt = th 17 := hg48_35
          have hg53_35 : v53_35.toInt = th 38 := hg53_35
          have hg55_35 : v55_35.toInt = th 39 := hg55_35
          have hb37 : In v15_35 3 9 := ⟨by rw [hg15_35]; exact hn3, hv15_35.2⟩
          refine pl_get (v := .int v51_35) hx hb hts (fun w h => mT (inX11 w h)) hown hG.1 hP (hst.1 255 (by decide)) hf36 rfl 51 (by decide) (hts _ (mT wg_1387)) (fun _ h => h) rfl dX11_findsStarts_40 ?_
          refine lv_iconst (v := 1) hx hb dX11_findsStarts_43 (by decide) ?_
          refine lv_iadd hx hb dX11_findsStarts_44 ?_
          refine lv_topi (fun x38 ex38 => ?_)
          refine pl_put (ty := .int) (v := .int x38) (fs' := [.int v0_35, .ref (ad 256), .int v2_35, .int v3_35, .int v4_35, .int v5_35, .int v6_35, .ref (ad 257), .int v8_35, .int v9_35, .ref (ad 258), .ref (ad 259), .int v12_35, .int v13_35, .int v14_35, .int v15_35, .int v16_35, .int v17_35, .int v18_35, .int v19_35, .int v20_35, .long v21_35, .long v22_35, .int v23_35, .ref (ad 260), .int v25_35, .ref (ad 261), .ref (ad 262), .ref (ad 263), .ref (ad 264), .ref (ad 265), .ref (ad 266), .ref (ad 267), .ref (ad 268), .ref (ad 269), .ref (ad 270), .int v36_35, .int v37_35, .int v38_35, .int v39_35, .int v40_35, .ref (ad 271), .ref (ad 272), .ref (ad 273), .ref (ad 274), .long v45_35, .long v46_35, .int v47_35, .int v48_35, .ref (ad 275), .int v50_35, .int x38, .ref (ad 276), .int v53_35, .ref (ad 277), .int v55_35]) hx hb hts (fun w h => mT (inX11 w h)) tyX11 tyX11_ok nmX11 hown hG.1 hP hD hS (hst.1 255 (by decide)) hf36 rfl 51 (by decide) (hts _ (mT wg_1387)) (fun _ h => h) rfl (by decide +kernel) (rfl) (rfl) (Nat.le_of_ble_eq_true rfl) rfl dX11_findsStarts_45 (fun H locs f39 hf40 ho41 hP hD hS => ?_)
          have hfr : (∀ b, b ≠ (ad 255) → b ≠ (ad 265) → b ≠ (ad 266) → b ≠ (ad 267) → b ≠ (ad 268) → b ≠ (ad 269) → b ≠ (ad 270) → b ≠ (ad 261) → b ≠ (ad 262) → b ≠ (ad 263) → b ≠ (ad 264) → f39 b = f b) := fun b z0_ z1_ z2_ z3_ z4_ z5_ z6_ z7_ z8_ z9_ z10_ => (ho41 b z0_).trans (hfr b z0_ z1_ z2_ z3_ z4_ z5_ z6_ z7_ z8_ z9_ z10_)
          refine lv_aload_n hx hb dX11_findsStarts_48 rfl (lv_at hl 0 rfl) ?_
          refine lv_aload_n hx hb dX11_findsStarts_49 rfl (lv_at hl 0 rfl) ?_
          refine pl_get (v := .int v50_35) hx hb hts (fun w h => mT (inX11 w h)) hown hG.1 hP (hst.1 255 (by decide)) hf40 rfl 50 (by decide) (hts _ (mT wg_1386)) (fun _ h => h) rfl dX11_findsStarts_50 ?_
          refine lv_iconst (v := (-1)) hx hb dX11_findsStarts_53 (by decide) ?_
          have hT := TI.updM hT hst (k := 0) (by decide) hf40 ho41 ⟨v0_35, v2_35, v3_35, v4_35, v5_35, v6_35, v8_35, v9_35, v12_35, v13_35, v14_35, v15_35, v16_35, v17_35, v18_35, v19_35, v20_35, v21_35, v22_35, v23_35, v25_35, v36_35, v37_35, v38_35, v39_35, v40_35, v45_35, v46_35, v47_35, v48_35, v50_35, x38, v53_35, v55_35, rfl, hv0_35, hv2_35, hg2_35, hv3_35, hg3_35, hv4_35, hg4_35, hv5_35, hg5_35, hv6_35, hg6_35, hv8_35, hg8_35, hv9_35, hg9_35, hv12_35, hv13_35, hg13_35, hv14_35, hg14_35, (In.mono hb37 (by decide) (by decide)), hg15_35, hv17_35, hg17_35, hv20_35, hg20_35, hv23_35, hg23_35, hv25_35, hg25_35, hv36_35, hg36_35, hv47_35, hg47_35, hv48_35, hg48_35, hv53_35, hg53_35, hv55_35, hg55_35, hrel0_35⟩
          have hJ65 : ∀ (y65_s0 : Int32) (H : Heap) (locs : List Loc) (ls : Array Slot), In y65_s0 (-2147483648) 2147483647 → va_P g.1 vwCl (va_pl L f39) H → va_D A (va_pl L f39) → va_S A s.heap H locs → lv_has ls 2 [(0, .ref (ad 255)), (1, .int y12_l1)] → W p l e rm_X11_findsStarts s m [.ref (ad 255)].toArray below meth c H locs 0 0 (MQ below (va_Qv (po_X11_findsStarts g ad th L f ) (PstB g A) A) [.ref (ad 255)].toArray s rm_X11_findsStarts.cells rm_X11_findsStarts.slots A) (F0 m 65 ls [.int y65_s0, .ref (ad 255)]) := by
            intro y65_s0 H locs ls hy65_s0 hP hD hS hl
            refine pl_put (ty := .int) (v := .int y65_s0) (fs' := [.int v0_35, .ref (ad 256), .int v2_35, .int v3_35, .int v4_35, .int v5_35, .int v6_35, .ref (ad 257), .int v8_35, .int v9_35, .ref (ad 258), .ref (ad 259), .int v12_35, .int v13_35, .int v14_35, .int v15_35, .int v16_35, .int v17_35, .int v18_35, .int v19_35, .int v20_35, .long v21_35, .long v22_35, .int v23_35, .ref (ad 260), .int v25_35, .ref (ad 261), .ref (ad 262), .ref (ad 263), .ref (ad 264), .ref (ad 265), .ref (ad 266), .ref (ad 267), .ref (ad 268), .ref (ad 269), .ref (ad 270), .int v36_35, .int v37_35, .int v38_35, .int v39_35, .int v40_35, .ref (ad 271), .ref (ad 272), .ref (ad 273), .ref (ad 274), .long v45_35, .long v46_35, .int v47_35, .int v48_35, .ref (ad 275), .int y65_s0, .int x38, .ref (ad 276), .int v53_35, .ref (ad 277), .int v55_35]) hx hb hts (fun w h => mT (inX11 w h)) tyX11 tyX11_ok nmX11 hown hG.1 hP hD hS (hst.1 255 (by decide)) hf40 rfl 50 (by decide) (hts _ (mT wg_1386)) (fun _ h => h) rfl (by decide +kernel) (rfl) (rfl) (Nat.le_of_ble_eq_true rfl) rfl dX11_findsStarts_65 (fun H locs f42 hf43 ho44 hP hD hS => ?_)
            have hfr : (∀ b, b ≠ (ad 255) → b ≠ (ad 265) → b ≠ (ad 266) → b ≠ (ad 267) → b ≠ (ad 268) → b ≠ (ad 269) → b ≠ (ad 270) → b ≠ (ad 261) → b ≠ (ad 262) → b ≠ (ad 263) → b ≠ (ad 264) → f42 b = f b) := fun b z0_ z1_ z2_ z3_ z4_ z5_ z6_ z7_ z8_ z9_ z10_ => (ho44 b z0_).trans (hfr b z0_ z1_ z2_ z3_ z4_ z5_ z6_ z7_ z8_ z9_ z10_)
            have hT := TI.updM hT hst (k := 0) (by decide) hf43 ho44 ⟨v0_35, v2_35, v3_35, v4_35, v5_35, v6_35, v8_35, v9_35, v12_35, v13_35, v14_35, v15_35, v16_35, v17_35, v18_35, v19_35, v20_35, v21_35, v22_35, v23_35, v25_35, v36_35, v37_35, v38_35, v39_35, v40_35, v45_35, v46_35, v47_35, v48_35, y65_s0, x38, v53_35, v55_35, rfl, hv0_35, hv2_35, hg2_35, hv3_35, hg3_35, hv4_35, hg4_35, hv5_35, hg5_35, hv6_35, hg6_35, hv8_35, hg8_35, hv9_35, hg9_35, hv12_35, hv13_35, hg13_35, hv14_35, hg14_35, (In.mono hb37 (by decide) (by decide)), hg15_35, hv17_35, hg17_35, hv20_35, hg20_35, hv23_35, hg23_35, hv25_35, hg25_35, hv36_35, hg36_35, hv47_35, hg47_35, hv48_35, hg48_35, hv53_35, hg53_35, hv55_35, hg55_35, hrel0_35⟩
            exact hJ68 zz29 _ _ _ _ hP hD hS (TI.cast hT (by funext q; by_cases hq0 : q = 18; (subst hq0; rfl); simp only [gset, if_neg hq0])) hfr (lv_sub hl [0, 1] rfl)
          refine lv_icmp_ne (tgt := 61) hx hb dX11_findsStarts_54 (by decide) (fun c45 => ?_) (fun c45 => ?_)
          ·
            have ocm1 : ((-1) : Int32).toInt = (-1) := by decide
            have cc46 : v50_35.toInt ≠ ((-1) : Int32).toInt := i32_ne c45
            refine lv_aload_n hx hb dX11_findsStarts_61 rfl (lv_at hl 0 rfl) ?_
            refine pl_get (v := .int v50_35) hx hb hts (fun w h => mT (inX11 w h)) hown hG.1 hP (hst.1 255 (by decide)) hf40 rfl 50 (by decide) (hts _ (mT wg_1386)) (fun _ h => h) rfl dX11_findsStarts_62 ?_
            exact hJ65 v50_35 _ _ _ (In.full v50_35) hP hD hS (lv_sub hl [0, 1] rfl)
          ·
            have ocm1 : ((-1) : Int32).toInt = (-1) := by decide
            have cc47 : v50_35.toInt = ((-1) : Int32).toInt := congrArg Int32.toInt c45
            have hb48 : In v50_35 (-1) (-1) := In.eq1 (In.full v50_35) (⟨by decide, by decide⟩ : In (-1) (-1) (-1)) cc47 (by omega) (by omega)
            refine lv_iload_n hx hb dX11_findsStarts_57 rfl (lv_at hl 1 rfl) ?_
            refine lv_goto (tgt := 65) hx hb dX11_findsStarts_58 (by decide) ?_
            exact hJ65 y12_l1 _ _ _ (In.mono hb20 (by decide) (by decide)) hP hD hS (lv_sub hl [0, 1] rfl)
        ·
          have ocm1 : ((-1) : Int32).toInt = (-1) := by decide
          have cc49 : r24.toInt = ((-1) : Int32).toInt := congrArg Int32.toInt c33
          have hb50 : In r24 (-1) (-1) := In.eq1 (In.full r24) (⟨by decide, by decide⟩ : In (-1) (-1) (-1)) cc49 (by omega) (by omega)
          refine lv_goto (tgt := 68) hx hb dX11_findsStarts_35 (by decide) ?_
          exact hJ68 zz29 _ _ _ _ hP hD hS (TI.cast hT (by funext q; by_cases hq0 : q = 18; (subst hq0; rfl); simp only [gset, if_neg hq0])) hfr (lv_sub hl [0, 1] rfl)
  exact hJ12 ((2147483647 - (0 : Int32).toInt).toNat + 1) (th 18) 0 _ _ _ _ (⟨by decide, by decide⟩ : In 0 0 2147483647) hP hD hS (TI.cast hT (by funext q; by_cases hq0 : q = 18; (subst hq0; rfl); simp only [gset, if_neg hq0])) hfr (lv_sub hl [1, 0] rfl) (msI _)

abbrev rm_X11_brokenStarts : Room := { frames := 8, cells := 0, slots := 0, locals := 191 }
abbrev po_X11_brokenStarts (g : GG) (ad : Nat → Nat) (th : Nat → Int) (L : List Nat) (f : HP) (z1 : Int32) : Int32 → (List Nat × HP) → Prop := fun r u => u.1 = L ∧ (∃ th' : Nat → Int, (MI th' ∧ SBM th th') ∧ TI g ad th' u.2) ∧ (∀ b, b ≠ (ad 255) → b ≠ (ad 265) → b ≠ (ad 266) → b ≠ (ad 267) → b ≠ (ad 268) → b ≠ (ad 269) → b ≠ (ad 270) → b ≠ (ad 260) → b ≠ (ad 261) → b ≠ (ad 262) → b ≠ (ad 263) → b ≠ (ad 264) → u.2 b = f b)
set_option maxHeartbeats 4000000 in
set_option maxRecDepth 100000 in
theorem s_X11_brokenStarts (l : Launch) (g : GG) (ad : Nat → Nat) (th : Nat → Int) (L : List Nat) (f : HP) (sz : Nat) (z1 : Int32) (hst : ST ad L) (hT : TI g ad th f) (hM : MI th) : MtI l g yX11_brokenStarts cX11_brokenStarts 2 (some .int) rm_X11_brokenStarts [.ref (ad 255), .int z1] L f sz (po_X11_brokenStarts g ad th L f z1) := by
  refine MtI.of (by decide +kernel) (Nat.le_of_ble_eq_true rfl) ?_
  intro p e s m below meth c A hEn hP hD hS ls hl
  obtain ⟨hx, hb, hr, hml, hown, hlocks, hts, hG, hA, hE, hnm⟩ := hEn
  have hown : s.vm.findClass "RulerWordModel" = some m.cls := hown
  have hl : lv_has ls 2 [(0, .ref (ad 255)), (1, .int z1)] := hl
  have hfr : (∀ b, b ≠ (ad 255) → b ≠ (ad 265) → b ≠ (ad 266) → b ≠ (ad 267) → b ≠ (ad 268) → b ≠ (ad 269) → b ≠ (ad 270) → b ≠ (ad 260) → b ≠ (ad 261) → b ≠ (ad 262) → b ≠ (ad 263) → b ≠ (ad 264) → f b = f b) := fun b z0_ z1_ z2_ z3_ z4_ z5_ z6_ z7_ z8_ z9_ z10_ z11_ => rfl
  have hM0 := hM
  obtain ⟨m1, m2, m3, m4, m5, m6, m7, m8, m9, m10⟩ := hM0
  have m20 := mi20 m2 m3
  refine lv_aload_n hx hb dX11_brokenStarts_0 rfl (lv_at hl 0 rfl) ?_
  refine lv_iconst (v := 0) hx hb dX11_brokenStarts_1 (by decide) ?_
  refine M0e hT (fun v0_1 v2_1 v3_1 v4_1 v5_1 v6_1 v8_1 v9_1 v12_1 v13_1 v14_1 v15_1 v16_1 v17_1 v18_1 v19_1 v20_1 v21_1 v22_1 v23_1 v25_1 v36_1 v37_1 v38_1 v39_1 v40_1 v45_1 v46_1 v47_1 v48_1 v50_1 v51_1 v53_1 v55_1 hf2 hv0_1 hv2_1 hg2_1 hv3_1 hg3_1 hv4_1 hg4_1 hv5_1 hg5_1 hv6_1 hg6_1 hv8_1 hg8_1 hv9_1 hg9_1 hv12_1 hv13_1 hg13_1 hv14_1 hg14_1 hv15_1 hg15_1 hv17_1 hg17_1 hv20_1 hg20_1 hv23_1 hg23_1 hv25_1 hg25_1 hv36_1 hg36_1 hv47_1 hg47_1 hv48_1 hg48_1 hv53_1 hg53_1 hv55_1 hg55_1 hrel0_1 => ?_)
  refine pl_put (ty := .int) (v := .int 0) (fs' := [.int 0, .ref (ad 256), .int v2_1, .int v3_1, .int v4_1, .int v5_1, .int v6_1, .ref (ad 257), .int v8_1, .int v9_1, .ref (ad 258), .ref (ad 259), .int v12_1, .int v13_1, .int v14_1, .int v15_1, .int v16_1, .int v17_1, .int v18_1, .int v19_1, .int v20_1, .long v21_1, .long v22_1, .int v23_1, .ref (ad 260), .int v25_1, .ref (ad 261), .ref (ad 262), .ref (ad 263), .ref (ad 264), .ref (ad 265), .ref (ad 266), .ref (ad 267), .ref (ad 268), .ref (ad 269), .ref (ad 270), .int v36_1, .int v37_1, .int v38_1, .int v39_1, .int v40_1, .ref (ad 271), .ref (ad 272), .ref (ad 273), .ref (ad 274), .long v45_1, .long v46_1, .int v47_1, .int v48_1, .ref (ad 275), .int v50_1, .int v51_1, .ref (ad 276), .int v53_1, .ref (ad 277), .int v55_1]) hx hb hts (fun w h => mT (inX11 w h)) tyX11 tyX11_ok nmX11 hown hG.1 hP hD hS (hst.1 255 (by decide)) hf2 rfl 0 (by decide) (hts _ (mT wg_1336)) (fun _ h => h) rfl (by decide +kernel) (rfl) (rfl) (Nat.le_of_ble_eq_true rfl) rfl dX11_brokenStarts_2 (fun H locs f3 hf4 ho5 hP hD hS => ?_)
  have hfr : (∀ b, b ≠ (ad 255) → b ≠ (ad 265) → b ≠ (ad 266) → b ≠ (ad 267) → b ≠ (ad 268) → b ≠ (ad 269) → b ≠ (ad 270) → b ≠ (ad 260) → b ≠ (ad 261) → b ≠ (ad 262) → b ≠ (ad 263) → b ≠ (ad 264) → f3 b = f b) := fun b z0_ z1_ z2_ z3_ z4_ z5_ z6_ z7_ z8_ z9_ z10_ z11_ => (ho5 b z0_).trans (hfr b z0_ z1_ z2_ z3_ z4_ z5_ z6_ z7_ z8_ z9_ z10_ z11_)
  refine lv_iload_n hx hb dX11_brokenStarts_5 rfl (lv_at hl 1 rfl) ?_
  refine lv_i2l hx hb dX11_brokenStarts_6 rfl ?_
  refine lv_lconst (v := 0) hx hb dX11_brokenStarts_7 (by decide) ?_
  refine lv_lconst (v := 1) hx hb dX11_brokenStarts_8 (by decide) ?_
  have hT := TI.updM hT hst (k := 0) (by decide) hf4 ho5 ⟨0, v2_1, v3_1, v4_1, v5_1, v6_1, v8_1, v9_1, v12_1, v13_1, v14_1, v15_1, v16_1, v17_1, v18_1, v19_1, v20_1, v21_1, v22_1, v23_1, v25_1, v36_1, v37_1, v38_1, v39_1, v40_1, v45_1, v46_1, v47_1, v48_1, v50_1, v51_1, v53_1, v55_1, rfl, (⟨by decide, by decide⟩ : In 0 0 1), hv2_1, hg2_1, hv3_1, hg3_1, hv4_1, hg4_1, hv5_1, hg5_1, hv6_1, hg6_1, hv8_1, hg8_1, hv9_1, hg9_1, hv12_1, hv13_1, hg13_1, hv14_1, hg14_1, hv15_1, hg15_1, hv17_1, hg17_1, hv20_1, hg20_1, hv23_1, hg23_1, hv25_1, hg25_1, hv36_1, hg36_1, hv47_1, hg47_1, hv48_1, hg48_1, hv53_1, hg53_1, hv55_1, hg55_1, hrel0_1⟩
  refine call_i (run_S (rm := rm_X11_isIn) hx hb hml hown hts (s_X11_isIn l g ad th _ _ _ (z1.toInt64) 0 1 hst hT ) cS_X11_isIn wg_1581 ⟨Nat.le_of_ble_eq_true rfl, Nat.le_of_ble_eq_true rfl⟩ hG hE hA hP hD hS rfl hl.1 (As := [.long (z1.toInt64), .long 0, .long 1]) (rest := []) rfl (Nat.le_of_ble_eq_true rfl) dX11_brokenStarts_9 ⟨Nat.le_of_ble_eq_true rfl, Nat.le_of_ble_eq_true rfl⟩) hA hD hS (fun r6 L7 f8 H locs hp9 hP hD hS => ?_)
  obtain ⟨eL10L, eL10T, eL10R, eL10X0, eL10X1⟩ := hp9
  have eL10L : L7 = L := eL10L
  have eL10T : f8 = f3 := eL10T
  rw [eL10L, eL10T] at hP hD
  have eL10R : In r6 0 1 := eL10R
  have hii11 : r6.toInt = 0 ∨ (0 ≤ z1.toInt ∧ z1.toInt ≤ 1) := by have z := eL10X0; rw [i2l_t z1, (by decide : (0 : Int64).toInt = 0), (by decide : (1 : Int64).toInt = 1)] at z; exact z
  have hii11w : ¬ r6 = 0 → In z1 0 1 := fun c => by have c2 := i32_ne c; have e0 : (0 : Int32).toInt = 0 := (by decide); exact ⟨by omega, by omega⟩
  have hJ22 : ∀ (zg22_zl : Int) (zg22_zg : Int) (f_22 : HP) (H : Heap) (locs : List Loc) (ls : Array Slot), va_P g.1 vwCl (va_pl L f_22) H → va_D A (va_pl L f_22) → va_S A s.heap H locs → TI g ad (gset (gset th 14 zg22_zl) 18 zg22_zg) f_22 → (∀ b, b ≠ (ad 255) → b ≠ (ad 265) → b ≠ (ad 266) → b ≠ (ad 267) → b ≠ (ad 268) → b ≠ (ad 269) → b ≠ (ad 270) → b ≠ (ad 260) → b ≠ (ad 261) → b ≠ (ad 262) → b ≠ (ad 263) → b ≠ (ad 264) → f_22 b = f b) → lv_has ls 2 [(0, .ref (ad 255)), (1, .int z1)] → W p l e rm_X11_brokenStarts s m [.ref (ad 255), .int z1].toArray below meth c H locs 0 0 (MQ below (va_Qi (po_X11_brokenStarts g ad th L f z1) (PstB g A) A) [.ref (ad 255), .int z1].toArray s rm_X11_brokenStarts.cells rm_X11_brokenStarts.slots A) (F0 m 22 ls []) := by
    intro zg22_zl zg22_zg f_22 H locs ls hP hD hS hT hfr hl
    refine lv_bipush (v := (-2)) hx hb dX11_brokenStarts_22 (by decide) ?_
    exact ret_i (ty := .int) hx hb hr hlocks (rfl) hP hD hS (Nat.le_of_ble_eq_true rfl) (Nat.le_of_ble_eq_true rfl) (⟨rfl, ⟨(gset (gset th 14 zg22_zl) 18 zg22_zg), ⟨(show MI (gset (gset th 14 zg22_zl) 18 zg22_zg) from ⟨m1, m2, (show th 20 = (th 12) * rnd (th 10) from m3), m4, m5, m6, m7, m8, m9, m10⟩), (SBM.set (k := 18) (SBM.set (k := 14) (SBM.rf th) (by decide)) (by decide))⟩, hT⟩, hfr⟩) dX11_brokenStarts_24
  refine lv_if_eq (tgt := 22) hx hb dX11_brokenStarts_12 (by decide) (fun c12 => ?_) (fun c12 => ?_)
  ·
    have oc0 : (0 : Int32).toInt = 0 := by decide
    have cc13 : r6.toInt = (0 : Int32).toInt := congrArg Int32.toInt c12
    have hb14 : In r6 0 0 := In.eq1 eL10R (⟨by decide, by decide⟩ : In 0 0 0) cc13 (by omega) (by omega)
    exact hJ22 (th 14) (th 18) _ _ _ _ hP hD hS (TI.cast hT (by funext q; by_cases hq0 : q = 14; (subst hq0; rfl); by_cases hq1 : q = 18; (subst hq1; rfl); simp only [gset, if_neg hq0, if_neg hq1])) hfr (lv_sub hl [0, 1] rfl)
  ·
    have oc0 : (0 : Int32).toInt = 0 := by decide
    have cc15 : r6.toInt ≠ (0 : Int32).toInt := i32_ne c12
    have hb16 : In r6 1 1 := In.ne1 eL10R (⟨by decide, by decide⟩ : In 0 0 0) cc15 (by omega) (by omega)
    have hb17 : In z1 0 1 := In.both (hii11w c12) (In.full z1) (by decide) (by decide)
    refine lv_aload_n hx hb dX11_brokenStarts_15 rfl (lv_at hl 0 rfl) ?_
    refine call_i (run_V (rm := rm_X11_canSearch) hx hb hml hown hts (s_X11_canSearch l g ad th _ _ _  hst hT (show MI th from hM)) cV_X11_canSearch wg_1834 ⟨Nat.le_of_ble_eq_true rfl, Nat.le_of_ble_eq_true rfl⟩ hG hE hA hP hD hS (hst.1 255 (by decide)) hf4 rfl rfl hl.1 (As := []) (rest := []) rfl (Nat.le_of_ble_eq_true rfl) dX11_brokenStarts_16 ⟨Nat.le_of_ble_eq_true rfl, Nat.le_of_ble_eq_true rfl⟩) hA hD hS (fun r18 L19 f20 H locs hp21 hP hD hS => ?_)
    obtain ⟨eL22L, eL22T, eL22F, eL22R⟩ := hp21
    have eL22L : L19 = L := eL22L
    rw [eL22L] at hP hD
    obtain ⟨zz23, zz24, hzz23, eL22T⟩ := eL22T
    have hT : TI g ad (gset (gset th 14 zz23) 18 zz24) f20 := eL22T
    have eL22F : ∀ b, b ≠ (ad 255) → b ≠ (ad 265) → b ≠ (ad 266) → b ≠ (ad 267) → b ≠ (ad 269) → b ≠ (ad 260) → b ≠ (ad 261) → b ≠ (ad 262) → b ≠ (ad 263) → b ≠ (ad 264) → f20 b = f3 b := eL22F
    have hfr : (∀ b, b ≠ (ad 255) → b ≠ (ad 265) → b ≠ (ad 266) → b ≠ (ad 267) → b ≠ (ad 268) → b ≠ (ad 269) → b ≠ (ad 270) → b ≠ (ad 260) → b ≠ (ad 261) → b ≠ (ad 262) → b ≠ (ad 263) → b ≠ (ad 264) → f20 b = f b) := fun b z0_ z1_ z2_ z3_ z4_ z5_ z6_ z7_ z8_ z9_ z10_ z11_ => (eL22F b z0_ z1_ z2_ z3_ z5_ z7_ z8_ z9_ z10_ z11_).trans (hfr b z0_ z1_ z2_ z3_ z4_ z5_ z6_ z7_ z8_ z9_ z10_ z11_)
    have eL22R : In r18 0 1 := eL22R
    refine lv_if_ne (tgt := 25) hx hb dX11_brokenStarts_19 (by decide) (fun c25 => ?_) (fun c25 => ?_)
    ·
      have oc0 : (0 : Int32).toInt = 0 := by decide
      have cc26 : r18.toInt ≠ (0 : Int32).toInt := i32_ne c25
      have hb27 : In r18 1 1 := In.ne1 eL22R (⟨by decide, by decide⟩ : In 0 0 0) cc26 (by omega) (by omega)
      refine lv_aload_n hx hb dX11_brokenStarts_25 rfl (lv_at hl 0 rfl) ?_
      refine M0e hT (fun v0_28 v2_28 v3_28 v4_28 v5_28 v6_28 v8_28 v9_28 v12_28 v13_28 v14_28 v15_28 v16_28 v17_28 v18_28 v19_28 v20_28 v21_28 v22_28 v23_28 v25_28 v36_28 v37_28 v38_28 v39_28 v40_28 v45_28 v46_28 v47_28 v48_28 v50_28 v51_28 v53_28 v55_28 hf29 hv0_28 hv2_28 hg2_28 hv3_28 hg3_28 hv4_28 hg4_28 hv5_28 hg5_28 hv6_28 hg6_28 hv8_28 hg8_28 hv9_28 hg9_28 hv12_28 hv13_28 hg13_28 hv14_28 hg14_28 hv15_28 hg15_28 hv17_28 hg17_28 hv20_28 hg20_28 hv23_28 hg23_28 hv25_28 hg25_28 hv36_28 hg36_28 hv47_28 hg47_28 hv48_28 hg48_28 hv53_28 hg53_28 hv55_28 hg55_28 hrel0_28 => ?_)
      have hg2_28 : v2_28.toInt = th 13 := hg2_28
      have hg3_28 : v3_28.toInt = th 37 := hg3_28
      have hg4_28 : v4_28.toInt = th 42 := hg4_28
      have hg5_28 : v5_28.toInt = th 40 := hg5_28
      have hg6_28 : v6_28.toInt = th 41 := hg6_28
      have hg8_28 : v8_28.toInt = th 43 := hg8_28
      have hg9_28 : v9_28.toInt = th 35 := hg9_28
      have hg13_28 : v13_28.toInt = th 36 := hg13_28
      have hg14_28 : v14_28.toInt = th 10 := hg14_28
      have hg15_28 : v15_28.toInt = th 11 := hg15_28
      have hg17_28 : v17_28.toInt = th 12 := hg17_28
      have hg20_28 : v20_28.toInt = zz23 := hg20_28
      have hg23_28 : v23_28.toInt = th 15 := hg23_28
      have hg25_28 : v25_28.toInt = th 44 := hg25_28
      have hg36_28 : v36_28.toInt = zz24 := hg36_28
      have hg47_28 : v47_28.toInt = th 16 := hg47_28
      have hg48_28 : v48_28.toInt = th 17 := hg48_28
      have hg53_28 : v53_28.toInt = th 38 := hg53_28
      have hg55_28 : v55_28.toInt = th 39 := hg55_28
      refine call_v (run_V (rm := rm_X11_findsStarts) hx hb hml hown hts (s_X11_findsStarts l g ad (gset (gset th 14 zz23) 18 zz24) _ _ _  hst hT (show 3 ≤ th 11 by omega)) cV_X11_findsStarts wg_1854 ⟨Nat.le_of_ble_eq_true rfl, Nat.le_of_ble_eq_true rfl⟩ hG hE hA hP hD hS (hst.1 255 (by decide)) hf29 rfl rfl hl.1 (As := []) (rest := []) rfl (Nat.le_of_ble_eq_true rfl) dX11_brokenStarts_26 ⟨Nat.le_of_ble_eq_true rfl, Nat.le_of_ble_eq_true rfl⟩) hA hD hS (fun L31 f32 H locs hp33 hP hD hS => ?_)
      obtain ⟨eL34L, eL34T, eL34F⟩ := hp33
      have eL34L : L31 = L := eL34L
      rw [eL34L] at hP hD
      obtain ⟨zz35, hzz35, eL34T⟩ := eL34T
      have hzz35 : True := hzz35
      have hT : TI g ad (gset (gset (gset th 14 zz23) 18 zz24) 18 zz35) f32 := eL34T
      have hT : TI g ad (gset (gset th 14 zz23) 18 zz35) f32 := TI.cast hT (by funext q; by_cases hq0 : q = 18; (subst hq0; rfl); by_cases hq1 : q = 14; (subst hq1; rfl); simp only [gset, if_neg hq0, if_neg hq1])
      have eL34F : ∀ b, b ≠ (ad 255) → b ≠ (ad 265) → b ≠ (ad 266) → b ≠ (ad 267) → b ≠ (ad 268) → b ≠ (ad 269) → b ≠ (ad 270) → b ≠ (ad 261) → b ≠ (ad 262) → b ≠ (ad 263) → b ≠ (ad 264) → f32 b = f20 b := eL34F
      have hfr : (∀ b, b ≠ (ad 255) → b ≠ (ad 265) → b ≠ (ad 266) → b ≠ (ad 267) → b ≠ (ad 268) → b ≠ (ad 269) → b ≠ (ad 270) → b ≠ (ad 260) → b ≠ (ad 261) → b ≠ (ad 262) → b ≠ (ad 263) → b ≠ (ad 264) → f32 b = f b) := fun b z0_ z1_ z2_ z3_ z4_ z5_ z6_ z7_ z8_ z9_ z10_ z11_ => (eL34F b z0_ z1_ z2_ z3_ z4_ z5_ z6_ z8_ z9_ z10_ z11_).trans (hfr b z0_ z1_ z2_ z3_ z4_ z5_ z6_ z7_ z8_ z9_ z10_ z11_)
      refine lv_iload_n hx hb dX11_brokenStarts_29 rfl (lv_at hl 1 rfl) ?_
      refine lv_if_ne (tgt := 40) hx hb dX11_brokenStarts_30 (by decide) (fun c36 => ?_) (fun c36 => ?_)
      ·
        have oc0 : (0 : Int32).toInt = 0 := by decide
        have cc37 : z1.toInt ≠ (0 : Int32).toInt := i32_ne c36
        have hb38 : In z1 1 1 := In.ne1 hb17 (⟨by decide, by decide⟩ : In 0 0 0) cc37 (by omega) (by omega)
        refine lv_aload_n hx hb dX11_brokenStarts_40 rfl (lv_at hl 0 rfl) ?_
        refine M0e hT (fun v0_39 v2_39 v3_39 v4_39 v5_39 v6_39 v8_39 v9_39 v12_39 v13_39 v14_39 v15_39 v16_39 v17_39 v18_39 v19_39 v20_39 v21_39 v22_39 v23_39 v25_39 v36_39 v37_39 v38_39 v39_39 v40_39 v45_39 v46_39 v47_39 v48_39 v50_39 v51_39 v53_39 v55_39 hf40 hv0_39 hv2_39 hg2_39 hv3_39 hg3_39 hv4_39 hg4_39 hv5_39 hg5_39 hv6_39 hg6_39 hv8_39 hg8_39 hv9_39 hg9_39 hv12_39 hv13_39 hg13_39 hv14_39 hg14_39 hv15_39 hg15_39 hv17_39 hg17_39 hv20_39 hg20_39 hv23_39 hg23_39 hv25_39 hg25_39 hv36_39 hg36_39 hv47_39 hg47_39 hv48_39 hg48_39 hv53_39 hg53_39 hv55_39 hg55_39 hrel0_39 => ?_)
        have hg2_39 : v2_39.toInt = th 13 := hg2_39
        have hg3_39 : v3_39.toInt = th 37 := hg3_39
        have hg4_39 : v4_39.toInt = th 42 := hg4_39
        have hg5_39 : v5_39.toInt = th 40 := hg5_39
        have hg6_39 : v6_39.toInt = th 41 := hg6_39
        have hg8_39 : v8_39.toInt = th 43 := hg8_39
        have hg9_39 : v9_39.toInt = th 35 := hg9_39
        have hg13_39 : v13_39.toInt = th 36 := hg13_39
        have hg14_39 : v14_39.toInt = th 10 := hg14_39
        have hg15_39 : v15_39.toInt = th 11 := hg15_39
        have hg17_39 : v17_39.toInt = th 12 := hg17_39
        have hg20_39 : v20_39.toInt = zz23 := hg20_39
        have hg23_39 : v23_39.toInt = th 15 := hg23_39
        have hg25_39 : v25_39.toInt = th 44 := hg25_39
        have hg36_39 : v36_39.toInt = zz35 := hg36_39
        have hg47_39 : v47_39.toInt = th 16 := hg47_39
        have hg48_39 : v48_39.toInt = th 17 := hg48_39
        have hg53_39 : v53_39.toInt = th 38 := hg53_39
        have hg55_39 : v55_39.toInt = th 39 := hg55_39
        refine pl_get (v := .int v50_39) hx hb hts (fun w h => mT (inX11 w h)) hown hG.1 hP (hst.1 255 (by decide)) hf40 rfl 50 (by decide) (hts _ (mT wg_1386)) (fun _ h => h) rfl dX11_brokenStarts_41 ?_
        exact ret_i (ty := .int) hx hb hr hlocks (rfl) hP hD hS (Nat.le_of_ble_eq_true rfl) (Nat.le_of_ble_eq_true rfl) (⟨rfl, ⟨(gset (gset th 14 zz23) 18 zz35), ⟨(show MI (gset (gset th 14 zz23) 18 zz35) from ⟨m1, m2, (show th 20 = (th 12) * rnd (th 10) from m3), m4, m5, m6, m7, m8, m9, m10⟩), (SBM.set (k := 18) (SBM.set (k := 14) (SBM.rf th) (by decide)) (by decide))⟩, hT⟩, hfr⟩) dX11_brokenStarts_44
      ·
        have oc0 : (0 : Int32).toInt = 0 := by decide
        have cc41 : z1.toInt = (0 : Int32).toInt := congrArg Int32.toInt c36
        have hb42 : In z1 0 0 := In.eq1 hb17 (⟨by decide, by decide⟩ : In 0 0 0) cc41 (by omega) (by omega)
        refine lv_aload_n hx hb dX11_brokenStarts_33 rfl (lv_at hl 0 rfl) ?_
        refine M0e hT (fun v0_43 v2_43 v3_43 v4_43 v5_43 v6_43 v8_43 v9_43 v12_43 v13_43 v14_43 v15_43 v16_43 v17_43 v18_43 v19_43 v20_43 v21_43 v22_43 v23_43 v25_43 v36_43 v37_43 v38_43 v39_43 v40_43 v45_43 v46_43 v47_43 v48_43 v50_43 v51_43 v53_43 v55_43 hf44 hv0_43 hv2_43 hg2_43 hv3_43 hg3_43 hv4_43 hg4_43 hv5_43 hg5_43 hv6_43 hg6_43 hv8_43 hg8_43 hv9_43 hg9_43 hv12_43 hv13_43 hg13_43 hv14_43 hg14_43 hv15_43 hg15_43 hv17_43 hg17_43 hv20_43 hg20_43 hv23_43 hg23_43 hv25_43 hg25_43 hv36_43 hg36_43 hv47_43 hg47_43 hv48_43 hg48_43 hv53_43 hg53_43 hv55_43 hg55_43 hrel0_43 => ?_)
        have hg2_43 : v2_43.toInt = th 13 := hg2_43
        have hg3_43 : v3_43.toInt = th 37 := hg3_43
        have hg4_43 : v4_43.toInt = th 42 := hg4_43
        have hg5_43 : v5_43.toInt = th 40 := hg5_43
        have hg6_43 : v6_43.toInt = th 41 := hg6_43
        have hg8_43 : v8_43.toInt = th 43 := hg8_43
        have hg9_43 : v9_43.toInt = th 35 := hg9_43
        have hg13_43 : v13_43.toInt = th 36 := hg13_43
        have hg14_43 : v14_43.toInt = th 10 := hg14_43
        have hg15_43 : v15_43.toInt = th 11 := hg15_43
        have hg17_43 : v17_43.toInt = th 12 := hg17_43
        have hg20_43 : v20_43.toInt = zz23 := hg20_43
        have hg23_43 : v23_43.toInt = th 15 := hg23_43
        have hg25_43 : v25_43.toInt = th 44 := hg25_43
        have hg36_43 : v36_43.toInt = zz35 := hg36_43
        have hg47_43 : v47_43.toInt = th 16 := hg47_43
        have hg48_43 : v48_43.toInt = th 17 := hg48_43
        have hg53_43 : v53_43.toInt = th 38 := hg53_43
        have hg55_43 : v55_43.toInt = th 39 := hg55_43
        refine pl_get (v := .int v51_43) hx hb hts (fun w h => mT (inX11 w h)) hown hG.1 hP (hst.1 255 (by decide)) hf44 rfl 51 (by decide) (hts _ (mT wg_1387)) (fun _ h => h) rfl dX11_brokenStarts_34 ?_
        refine lv_goto (tgt := 44) hx hb dX11_brokenStarts_37 (by decide) ?_
        exact ret_i (ty := .int) hx hb hr hlocks (rfl) hP hD hS (Nat.le_of_ble_eq_true rfl) (Nat.le_of_ble_eq_true rfl) (⟨rfl, ⟨(gset (gset th 14 zz23) 18 zz35), ⟨(show MI (gset (gset th 14 zz23) 18 zz35) from ⟨m1, m2, (show th 20 = (th 12) * rnd (th 10) from m3), m4, m5, m6, m7, m8, m9, m10⟩), (SBM.set (k := 18) (SBM.set (k := 14) (SBM.rf th) (by decide)) (by decide))⟩, hT⟩, hfr⟩) dX11_brokenStarts_44
    ·
      have oc0 : (0 : Int32).toInt = 0 := by decide
      have cc45 : r18.toInt = (0 : Int32).toInt := congrArg Int32.toInt c25
      have hb46 : In r18 0 0 := In.eq1 eL22R (⟨by decide, by decide⟩ : In 0 0 0) cc45 (by omega) (by omega)
      exact hJ22 zz23 zz24 _ _ _ _ hP hD hS (TI.cast hT (by funext q; by_cases hq0 : q = 18; (subst hq0; rfl); by_cases hq1 : q = 14; (subst hq1; rfl); simp only [gset, if_neg hq0, if_neg hq1])) hfr (lv_sub hl [0, 1] rfl)

abbrev rm_X11_breaksSome : Room := { frames := 7, cells := 0, slots := 0, locals := 170 }
abbrev po_X11_breaksSome (g : GG) (ad : Nat → Nat) (th : Nat → Int) (L : List Nat) (f : HP)  : Int32 → (List Nat × HP) → Prop := fun r u => u.1 = L ∧ (∃ z18 : Int, (True) ∧ TI g ad (gset th 18 z18) u.2) ∧ (∀ b, b ≠ (ad 255) → b ≠ (ad 265) → b ≠ (ad 266) → b ≠ (ad 267) → b ≠ (ad 268) → b ≠ (ad 269) → b ≠ (ad 270) → b ≠ (ad 261) → b ≠ (ad 262) → b ≠ (ad 263) → b ≠ (ad 264) → u.2 b = f b) ∧ In r 0 1
set_option maxHeartbeats 4000000 in
set_option maxRecDepth 100000 in
theorem s_X11_breaksSome (l : Launch) (g : GG) (ad : Nat → Nat) (th : Nat → Int) (L : List Nat) (f : HP) (sz : Nat)  (hst : ST ad L) (hT : TI g ad th f) (hn3 : 3 ≤ th 11) : MtI l g yX11_breaksSome cX11_breaksSome 2 (some .boolean) rm_X11_breaksSome [.ref (ad 255)] L f sz (po_X11_breaksSome g ad th L f ) := by
  refine MtI.of (by decide +kernel) (Nat.le_of_ble_eq_true rfl) ?_
  intro p e s m below meth c A hEn hP hD hS ls hl
  obtain ⟨hx, hb, hr, hml, hown, hlocks, hts, hG, hA, hE, hnm⟩ := hEn
  have hown : s.vm.findClass "RulerWordModel" = some m.cls := hown
  have hl : lv_has ls 2 [(0, .ref (ad 255))] := hl
  have hfr : (∀ b, b ≠ (ad 255) → b ≠ (ad 265) → b ≠ (ad 266) → b ≠ (ad 267) → b ≠ (ad 268) → b ≠ (ad 269) → b ≠ (ad 270) → b ≠ (ad 261) → b ≠ (ad 262) → b ≠ (ad 263) → b ≠ (ad 264) → f b = f b) := fun b z0_ z1_ z2_ z3_ z4_ z5_ z6_ z7_ z8_ z9_ z10_ => rfl
  refine lv_iconst (v := 0) hx hb dX11_breaksSome_0 (by decide) ?_
  refine lv_istore_n (lv' := [(1, .int 0), (0, .ref (ad 255))]) hx hb dX11_breaksSome_1 rfl hl (by decide) rfl (fun ls hl => ?_)
  have hJ2 : ∀ (k2 : Nat) (zg2_zg : Int) (y2_l1 : Int32) (f_2 : HP) (H : Heap) (locs : List Loc) (ls : Array Slot), In y2_l1 0 2147483647 → va_P g.1 vwCl (va_pl L f_2) H → va_D A (va_pl L f_2) → va_S A s.heap H locs → TI g ad (gset th 18 zg2_zg) f_2 → (∀ b, b ≠ (ad 255) → b ≠ (ad 265) → b ≠ (ad 266) → b ≠ (ad 267) → b ≠ (ad 268) → b ≠ (ad 269) → b ≠ (ad 270) → b ≠ (ad 261) → b ≠ (ad 262) → b ≠ (ad 263) → b ≠ (ad 264) → f_2 b = f b) → lv_has ls 2 [(0, .ref (ad 255)), (1, .int y2_l1)] → 2147483647 - y2_l1.toInt < ((k2 : Nat) : Int) → W p l e rm_X11_breaksSome s m [.ref (ad 255)].toArray below meth c H locs 0 0 (MQ below (va_Qi (po_X11_breaksSome g ad th L f ) (PstB g A) A) [.ref (ad 255)].toArray s rm_X11_breaksSome.cells rm_X11_breaksSome.slots A) (F0 m 2 ls []) := by
    intro k2
    induction k2 with
    | zero =>
      intro zg2_zg y2_l1 f_2 H locs ls hy2_l1 hP hD hS hT hfr hl hmz2
      exact ms0 hy2_l1 hmz2
    | succ k2 ih2 =>
      intro zg2_zg y2_l1 f_2 H locs ls hy2_l1 hP hD hS hT hfr hl hmz2
      refine lv_iload_n hx hb dX11_breaksSome_2 rfl (lv_at hl 1 rfl) ?_
      refine lv_iconst (v := 1) hx hb dX11_breaksSome_3 (by decide) ?_
      refine lv_aload_n hx hb dX11_breaksSome_4 rfl (lv_at hl 0 rfl) ?_
      refine M0e hT (fun v0_1 v2_1 v3_1 v4_1 v5_1 v6_1 v8_1 v9_1 v12_1 v13_1 v14_1 v15_1 v16_1 v17_1 v18_1 v19_1 v20_1 v21_1 v22_1 v23_1 v25_1 v36_1 v37_1 v38_1 v39_1 v40_1 v45_1 v46_1 v47_1 v48_1 v50_1 v51_1 v53_1 v55_1 hf2 hv0_1 hv2_1 hg2_1 hv3_1 hg3_1 hv4_1 hg4_1 hv5_1 hg5_1 hv6_1 hg6_1 hv8_1 hg8_1 hv9_1 hg9_1 hv12_1 hv13_1 hg13_1 hv14_1 hg14_1 hv15_1 hg15_1 hv17_1 hg17_1 hv20_1 hg20_1 hv23_1 hg23_1 hv25_1 hg25_1 hv36_1 hg36_1 hv47_1 hg47_1 hv48_1 hg48_1 hv53_1 hg53_1 hv55_1 hg55_1 hrel0_1 => ?_)
      have hg2_1 : v2_1.toInt = th 13 := hg2_1
      have hg3_1 : v3_1.toInt = th 37 := hg3_1
      have hg4_1 : v4_1.toInt = th 42 := hg4_1
      have hg5_1 : v5_1.toInt = th 40 := hg5_1
      have hg6_1 : v6_1.toInt = th 41 := hg6_1
      have hg8_1 : v8_1.toInt = th 43 := hg8_1
      have hg9_1 : v9_1.toInt = th 35 := hg9_1
      have hg13_1 : v13_1.toInt = th 36 := hg13_1
      have hg14_1 : v14_1.toInt = th 10 := hg14_1
      have hg15_1 : v15_1.toInt = th 11 := hg15_1
      have hg17_1 : v17_1.toInt = th 12 := hg17_1
      have hg20_1 : v20_1.toInt = th 14 := hg20_1
      have hg23_1 : v23_1.toInt = th 15 := hg23_1
      have hg25_1 : v25_1.toInt = th 44 := hg25_1
      have hg36_1 : v36_1.toInt = zg2_zg := hg36_1
      have hg47_1 : v47_1.toInt = th 16 := hg47_1
      have hg48_1 : v48_1.toInt = th 17 := hg48_1
      have hg53_1 : v53_1.toInt = th 38 := hg53_1
      have hg55_1 : v55_1.toInt = th 39 := hg55_1
      have hb3 : In v15_1 3 9 := ⟨by rw [hg15_1]; exact hn3, hv15_1.2⟩
      refine pl_get (v := .int v15_1) hx hb hts (fun w h => mT (inX11 w h)) hown hG.1 hP (hst.1 255 (by decide)) hf2 rfl 15 (by decide) (hts _ (mT wg_1351)) (fun _ h => h) rfl dX11_breaksSome_5 ?_
      refine lv_ishl hx hb dX11_breaksSome_8 ?_
      refine lv_topi (fun x4 ex4 => ?_)
      have hb5 : In x4 8 512 := ex4 ▸ In.shl (⟨by decide, by decide⟩ : In 1 1 1) hb3 (by decide) (by decide) (by decide) (by decide) (by decide) (by decide)
      refine lv_icmp_ge (tgt := 33) hx hb dX11_breaksSome_9 (by decide) (fun c6 => ?_) (fun c6 => ?_)
      ·
        have cc7 : x4.toInt ≤ y2_l1.toInt := i32_le.mp c6
        have hb8 : In y2_l1 8 2147483647 := In.ge1 hy2_l1 hb5 cc7 (by omega) (by omega)
        refine lv_iconst (v := 0) hx hb dX11_breaksSome_33 (by decide) ?_
        exact ret_i (ty := .boolean) hx hb hr hlocks (rfl) hP hD hS (Nat.le_of_ble_eq_true rfl) (Nat.le_of_ble_eq_true rfl) (⟨rfl, ⟨zg2_zg, trivial, TI.cast hT (by funext q; by_cases hq0 : q = 18; (subst hq0; rfl); simp only [gset, if_neg hq0])⟩, hfr, (⟨by decide, by decide⟩ : In 0 0 1)⟩) dX11_breaksSome_34
      ·
        have cc9 : y2_l1.toInt < x4.toInt := i32_nle c6
        have hb10 : In y2_l1 0 511 := In.lt1 hy2_l1 hb5 cc9 (by omega) (by omega)
        refine lv_aload_n hx hb dX11_breaksSome_12 rfl (lv_at hl 0 rfl) ?_
        refine lv_iload_n hx hb dX11_breaksSome_13 rfl (lv_at hl 1 rfl) ?_
        refine pl_put (ty := .int) (v := .int y2_l1) (fs' := [.int v0_1, .ref (ad 256), .int v2_1, .int v3_1, .int v4_1, .int v5_1, .int v6_1, .ref (ad 257), .int v8_1, .int v9_1, .ref (ad 258), .ref (ad 259), .int v12_1, .int v13_1, .int v14_1, .int v15_1, .int v16_1, .int v17_1, .int v18_1, .int y2_l1, .int v20_1, .long v21_1, .long v22_1, .int v23_1, .ref (ad 260), .int v25_1, .ref (ad 261), .ref (ad 262), .ref (ad 263), .ref (ad 264), .ref (ad 265), .ref (ad 266), .ref (ad 267), .ref (ad 268), .ref (ad 269), .ref (ad 270), .int v36_1, .int v37_1, .int v38_1, .int v39_1, .int v40_1, .ref (ad 271), .ref (ad 272), .ref (ad 273), .ref (ad 274), .long v45_1, .long v46_1, .int v47_1, .int v48_1, .ref (ad 275), .int v50_1, .int v51_1, .ref (ad 276), .int v53_1, .ref (ad 277), .int v55_1]) hx hb hts (fun w h => mT (inX11 w h)) tyX11 tyX11_ok nmX11 hown hG.1 hP hD hS (hst.1 255 (by decide)) hf2 rfl 19 (by decide) (hts _ (mT wg_1355)) (fun _ h => h) rfl (by decide +kernel) (rfl) (rfl) (Nat.le_of_ble_eq_true rfl) rfl dX11_breaksSome_14 (fun H locs f11 hf12 ho13 hP hD hS => ?_)
        have hfr : (∀ b, b ≠ (ad 255) → b ≠ (ad 265) → b ≠ (ad 266) → b ≠ (ad 267) → b ≠ (ad 268) → b ≠ (ad 269) → b ≠ (ad 270) → b ≠ (ad 261) → b ≠ (ad 262) → b ≠ (ad 263) → b ≠ (ad 264) → f11 b = f b) := fun b z0_ z1_ z2_ z3_ z4_ z5_ z6_ z7_ z8_ z9_ z10_ => (ho13 b z0_).trans (hfr b z0_ z1_ z2_ z3_ z4_ z5_ z6_ z7_ z8_ z9_ z10_)
        refine lv_aload_n hx hb dX11_breaksSome_17 rfl (lv_at hl 0 rfl) ?_
        have hT := TI.updM hT hst (k := 0) (by decide) hf12 ho13 ⟨v0_1, v2_1, v3_1, v4_1, v5_1, v6_1, v8_1, v9_1, v12_1, v13_1, v14_1, v15_1, v16_1, v17_1, v18_1, y2_l1, v20_1, v21_1, v22_1, v23_1, v25_1, v36_1, v37_1, v38_1, v39_1, v40_1, v45_1, v46_1, v47_1, v48_1, v50_1, v51_1, v53_1, v55_1, rfl, hv0_1, hv2_1, hg2_1, hv3_1, hg3_1, hv4_1, hg4_1, hv5_1, hg5_1, hv6_1, hg6_1, hv8_1, hg8_1, hv9_1, hg9_1, hv12_1, hv13_1, hg13_1, hv14_1, hg14_1, (In.mono hb3 (by decide) (by decide)), hg15_1, hv17_1, hg17_1, hv20_1, hg20_1, hv23_1, hg23_1, hv25_1, hg25_1, hv36_1, hg36_1, hv47_1, hg47_1, hv48_1, hg48_1, hv53_1, hg53_1, hv55_1, hg55_1, hrel0_1⟩
        refine call_i (run_V (rm := rm_X11_leastBroken) hx hb hml hown hts (s_X11_leastBroken l g ad (gset th 18 zg2_zg) _ _ _  hst hT hn3) cV_X11_leastBroken wg_1838 ⟨Nat.le_of_ble_eq_true rfl, Nat.le_of_ble_eq_true rfl⟩ hG hE hA hP hD hS (hst.1 255 (by decide)) hf12 rfl rfl hl.1 (As := []) (rest := []) rfl (Nat.le_of_ble_eq_true rfl) dX11_breaksSome_18 ⟨Nat.le_of_ble_eq_true rfl, Nat.le_of_ble_eq_true rfl⟩) hA hD hS (fun r14 L15 f16 H locs hp17 hP hD hS => ?_)
        obtain ⟨eL18L, eL18T, eL18F⟩ := hp17
        have eL18L : L15 = L := eL18L
        rw [eL18L] at hP hD
        obtain ⟨zz19, hzz19, eL18T⟩ := eL18T
        have hzz19 : True := hzz19
        have hT : TI g ad (gset (gset th 18 zg2_zg) 18 zz19) f16 := eL18T
        have hT : TI g ad (gset th 18 zz19) f16 := TI.cast hT (by funext q; by_cases hq0 : q = 18; (subst hq0; rfl); simp only [gset, if_neg hq0])
        have eL18F : ∀ b, b ≠ (ad 255) → b ≠ (ad 265) → b ≠ (ad 266) → b ≠ (ad 267) → b ≠ (ad 268) → b ≠ (ad 269) → b ≠ (ad 270) → b ≠ (ad 261) → b ≠ (ad 262) → b ≠ (ad 263) → b ≠ (ad 264) → f16 b = f11 b := eL18F
        have hfr : (∀ b, b ≠ (ad 255) → b ≠ (ad 265) → b ≠ (ad 266) → b ≠ (ad 267) → b ≠ (ad 268) → b ≠ (ad 269) → b ≠ (ad 270) → b ≠ (ad 261) → b ≠ (ad 262) → b ≠ (ad 263) → b ≠ (ad 264) → f16 b = f b) := fun b z0_ z1_ z2_ z3_ z4_ z5_ z6_ z7_ z8_ z9_ z10_ => (eL18F b z0_ z1_ z2_ z3_ z4_ z5_ z6_ z7_ z8_ z9_ z10_).trans (hfr b z0_ z1_ z2_ z3_ z4_ z5_ z6_ z7_ z8_ z9_ z10_)
        refine lv_iconst (v := (-1)) hx hb dX11_breaksSome_21 (by decide) ?_
        refine lv_icmp_eq (tgt := 27) hx hb dX11_breaksSome_22 (by decide) (fun c20 => ?_) (fun c20 => ?_)
        ·
          have ocm1 : ((-1) : Int32).toInt = (-1) := by decide
          have cc21 : r14.toInt = ((-1) : Int32).toInt := congrArg Int32.toInt c20
          have hb22 : In r14 (-1) (-1) := In.eq1 (In.full r14) (⟨by decide, by decide⟩ : In (-1) (-1) (-1)) cc21 (by omega) (by omega)
          obtain ⟨x23, ex23⟩ : ∃ y : Int32, y = y2_l1 + 1 := ⟨_, rfl⟩
          have hb24 : In x23 1 512 := ex23 ▸ In.add hb10 (⟨by decide, by decide⟩ : In 1 1 1) (by decide) (by decide) (by decide) (by decide)
          have et25 : x23.toInt = y2_l1.toInt + 1 := In.adde ex23 hb10 (k := 1) (by decide) (by decide) (by decide)
          refine lv_iinc (v := x23) (lv' := [(1, .int x23), (0, .ref (ad 255))]) hx hb dX11_breaksSome_27 hl (k := 1) rfl (by rw [ex23]; rfl) (by decide) rfl (fun ls hl => ?_)
          refine lv_goto (tgt := 2) hx hb dX11_breaksSome_30 (by decide) ?_
          exact ih2 zz19 x23 _ _ _ _ (In.mono hb24 (by decide) (by decide)) hP hD hS (TI.cast hT (by funext q; by_cases hq0 : q = 18; (subst hq0; rfl); simp only [gset, if_neg hq0])) hfr (lv_sub hl [1, 0] rfl) (msu et25 (by decide) hmz2)
        ·
          have ocm1 : ((-1) : Int32).toInt = (-1) := by decide
          have cc26 : r14.toInt ≠ ((-1) : Int32).toInt := i32_ne c20
          refine lv_iconst (v := 1) hx hb dX11_breaksSome_25 (by decide) ?_
          exact ret_i (ty := .boolean) hx hb hr hlocks (rfl) hP hD hS (Nat.le_of_ble_eq_true rfl) (Nat.le_of_ble_eq_true rfl) (⟨rfl, ⟨zz19, trivial, TI.cast hT (by funext q; by_cases hq0 : q = 18; (subst hq0; rfl); simp only [gset, if_neg hq0])⟩, hfr, (⟨by decide, by decide⟩ : In 1 0 1)⟩) dX11_breaksSome_26
  exact hJ2 ((2147483647 - (0 : Int32).toInt).toNat + 1) (th 18) 0 _ _ _ _ (⟨by decide, by decide⟩ : In 0 0 2147483647) hP hD hS (TI.cast hT (by funext q; by_cases hq0 : q = 18; (subst hq0; rfl); simp only [gset, if_neg hq0])) hfr (lv_sub hl [1, 0] rfl) (msI _)

abbrev rm_X11_canBreak : Room := { frames := 8, cells := 0, slots := 0, locals := 191 }
abbrev po_X11_canBreak (g : GG) (ad : Nat → Nat) (th : Nat → Int) (L : List Nat) (f : HP) (z1 : Int32) : Int32 → (List Nat × HP) → Prop := fun r u => u.1 = L ∧ (∃ th' : Nat → Int, (MI th' ∧ SBM th th') ∧ TI g ad th' u.2) ∧ (∀ b, b ≠ (ad 255) → b ≠ (ad 265) → b ≠ (ad 266) → b ≠ (ad 267) → b ≠ (ad 268) → b ≠ (ad 269) → b ≠ (ad 270) → b ≠ (ad 260) → b ≠ (ad 261) → b ≠ (ad 262) → b ≠ (ad 263) → b ≠ (ad 264) → u.2 b = f b)
set_option maxHeartbeats 4000000 in
set_option maxRecDepth 100000 in
theorem s_X11_canBreak (l : Launch) (g : GG) (ad : Nat → Nat) (th : Nat → Int) (L : List Nat) (f : HP) (sz : Nat) (z1 : Int32) (hst : ST ad L) (hT : TI g ad th f) (hM : MI th) : MtI l g yX11_canBreak cX11_canBreak 6 (some .int) rm_X11_canBreak [.ref (ad 255), .int z1] L f sz (po_X11_canBreak g ad th L f z1) := by
  refine MtI.of (by decide +kernel) (Nat.le_of_ble_eq_true rfl) ?_
  intro p e s m below meth c A hEn hP hD hS ls hl
  obtain ⟨hx, hb, hr, hml, hown, hlocks, hts, hG, hA, hE, hnm⟩ := hEn
  have hown : s.vm.findClass "RulerWordModel" = some m.cls := hown
  have hl : lv_has ls 6 [(0, .ref (ad 255)), (1, .int z1)] := hl
  have hfr : (∀ b, b ≠ (ad 255) → b ≠ (ad 265) → b ≠ (ad 266) → b ≠ (ad 267) → b ≠ (ad 268) → b ≠ (ad 269) → b ≠ (ad 270) → b ≠ (ad 260) → b ≠ (ad 261) → b ≠ (ad 262) → b ≠ (ad 263) → b ≠ (ad 264) → f b = f b) := fun b z0_ z1_ z2_ z3_ z4_ z5_ z6_ z7_ z8_ z9_ z10_ z11_ => rfl
  have hM0 := hM
  obtain ⟨m1, m2, m3, m4, m5, m6, m7, m8, m9, m10⟩ := hM0
  have m20 := mi20 m2 m3
  refine lv_aload_n hx hb dX11_canBreak_0 rfl (lv_at hl 0 rfl) ?_
  refine lv_iconst (v := 0) hx hb dX11_canBreak_1 (by decide) ?_
  refine M0e hT (fun v0_1 v2_1 v3_1 v4_1 v5_1 v6_1 v8_1 v9_1 v12_1 v13_1 v14_1 v15_1 v16_1 v17_1 v18_1 v19_1 v20_1 v21_1 v22_1 v23_1 v25_1 v36_1 v37_1 v38_1 v39_1 v40_1 v45_1 v46_1 v47_1 v48_1 v50_1 v51_1 v53_1 v55_1 hf2 hv0_1 hv2_1 hg2_1 hv3_1 hg3_1 hv4_1 hg4_1 hv5_1 hg5_1 hv6_1 hg6_1 hv8_1 hg8_1 hv9_1 hg9_1 hv12_1 hv13_1 hg13_1 hv14_1 hg14_1 hv15_1 hg15_1 hv17_1 hg17_1 hv20_1 hg20_1 hv23_1 hg23_1 hv25_1 hg25_1 hv36_1 hg36_1 hv47_1 hg47_1 hv48_1 hg48_1 hv53_1 hg53_1 hv55_1 hg55_1 hrel0_1 => ?_)
  refine pl_put (ty := .int) (v := .int 0) (fs' := [.int 0, .ref (ad 256), .int v2_1, .int v3_1, .int v4_1, .int v5_1, .int v6_1, .ref (ad 257), .int v8_1, .int v9_1, .ref (ad 258), .ref (ad 259), .int v12_1, .int v13_1, .int v14_1, .int v15_1, .int v16_1, .int v17_1, .int v18_1, .int v19_1, .int v20_1, .long v21_1, .long v22_1, .int v23_1, .ref (ad 260), .int v25_1, .ref (ad 261), .ref (ad 262), .ref (ad 263), .ref (ad 264), .ref (ad 265), .ref (ad 266), .ref (ad 267), .ref (ad 268), .ref (ad 269), .ref (ad 270), .int v36_1, .int v37_1, .int v38_1, .int v39_1, .int v40_1, .ref (ad 271), .ref (ad 272), .ref (ad 273), .ref (ad 274), .long v45_1, .long v46_1, .int v47_1, .int v48_1, .ref (ad 275), .int v50_1, .int v51_1, .ref (ad 276), .int v53_1, .ref (ad 277), .int v55_1]) hx hb hts (fun w h => mT (inX11 w h)) tyX11 tyX11_ok nmX11 hown hG.1 hP hD hS (hst.1 255 (by decide)) hf2 rfl 0 (by decide) (hts _ (mT wg_1336)) (fun _ h => h) rfl (by decide +kernel) (rfl) (rfl) (Nat.le_of_ble_eq_true rfl) rfl dX11_canBreak_2 (fun H locs f3 hf4 ho5 hP hD hS => ?_)
  have hfr : (∀ b, b ≠ (ad 255) → b ≠ (ad 265) → b ≠ (ad 266) → b ≠ (ad 267) → b ≠ (ad 268) → b ≠ (ad 269) → b ≠ (ad 270) → b ≠ (ad 260) → b ≠ (ad 261) → b ≠ (ad 262) → b ≠ (ad 263) → b ≠ (ad 264) → f3 b = f b) := fun b z0_ z1_ z2_ z3_ z4_ z5_ z6_ z7_ z8_ z9_ z10_ z11_ => (ho5 b z0_).trans (hfr b z0_ z1_ z2_ z3_ z4_ z5_ z6_ z7_ z8_ z9_ z10_ z11_)
  refine lv_iload_n hx hb dX11_canBreak_5 rfl (lv_at hl 1 rfl) ?_
  refine lv_i2l hx hb dX11_canBreak_6 rfl ?_
  refine lv_lconst (v := 0) hx hb dX11_canBreak_7 (by decide) ?_
  refine lv_lconst (v := 1) hx hb dX11_canBreak_8 (by decide) ?_
  have hT := TI.updM hT hst (k := 0) (by decide) hf4 ho5 ⟨0, v2_1, v3_1, v4_1, v5_1, v6_1, v8_1, v9_1, v12_1, v13_1, v14_1, v15_1, v16_1, v17_1, v18_1, v19_1, v20_1, v21_1, v22_1, v23_1, v25_1, v36_1, v37_1, v38_1, v39_1, v40_1, v45_1, v46_1, v47_1, v48_1, v50_1, v51_1, v53_1, v55_1, rfl, (⟨by decide, by decide⟩ : In 0 0 1), hv2_1, hg2_1, hv3_1, hg3_1, hv4_1, hg4_1, hv5_1, hg5_1, hv6_1, hg6_1, hv8_1, hg8_1, hv9_1, hg9_1, hv12_1, hv13_1, hg13_1, hv14_1, hg14_1, hv15_1, hg15_1, hv17_1, hg17_1, hv20_1, hg20_1, hv23_1, hg23_1, hv25_1, hg25_1, hv36_1, hg36_1, hv47_1, hg47_1, hv48_1, hg48_1, hv53_1, hg53_1, hv55_1, hg55_1, hrel0_1⟩
  refine call_i (run_S (rm := rm_X11_isIn) hx hb hml hown hts (s_X11_isIn l g ad th _ _ _ (z1.toInt64) 0 1 hst hT ) cS_X11_isIn wg_1581 ⟨Nat.le_of_ble_eq_true rfl, Nat.le_of_ble_eq_true rfl⟩ hG hE hA hP hD hS rfl hl.1 (As := [.long (z1.toInt64), .long 0, .long 1]) (rest := []) rfl (Nat.le_of_ble_eq_true rfl) dX11_canBreak_9 ⟨Nat.le_of_ble_eq_true rfl, Nat.le_of_ble_eq_true rfl⟩) hA hD hS (fun r6 L7 f8 H locs hp9 hP hD hS => ?_)
  obtain ⟨eL10L, eL10T, eL10R, eL10X0, eL10X1⟩ := hp9
  have eL10L : L7 = L := eL10L
  have eL10T : f8 = f3 := eL10T
  rw [eL10L, eL10T] at hP hD
  have eL10R : In r6 0 1 := eL10R
  have hii11 : r6.toInt = 0 ∨ (0 ≤ z1.toInt ∧ z1.toInt ≤ 1) := by have z := eL10X0; rw [i2l_t z1, (by decide : (0 : Int64).toInt = 0), (by decide : (1 : Int64).toInt = 1)] at z; exact z
  have hii11w : ¬ r6 = 0 → In z1 0 1 := fun c => by have c2 := i32_ne c; have e0 : (0 : Int32).toInt = 0 := (by decide); exact ⟨by omega, by omega⟩
  have hJ30 : ∀ (H : Heap) (locs : List Loc) (ls : Array Slot), va_P g.1 vwCl (va_pl L f3) H → va_D A (va_pl L f3) → va_S A s.heap H locs → lv_has ls 6 [(0, .ref (ad 255)), (1, .int z1)] → W p l e rm_X11_canBreak s m [.ref (ad 255), .int z1].toArray below meth c H locs 0 0 (MQ below (va_Qi (po_X11_canBreak g ad th L f z1) (PstB g A) A) [.ref (ad 255), .int z1].toArray s rm_X11_canBreak.cells rm_X11_canBreak.slots A) (F0 m 30 ls []) := by
    intro H locs ls hP hD hS hl
    refine lv_bipush (v := (-2)) hx hb dX11_canBreak_30 (by decide) ?_
    exact ret_i (ty := .int) hx hb hr hlocks (rfl) hP hD hS (Nat.le_of_ble_eq_true rfl) (Nat.le_of_ble_eq_true rfl) (⟨rfl, ⟨th, ⟨(show MI th from hM), (SBM.rf th)⟩, hT⟩, hfr⟩) dX11_canBreak_32
  refine lv_if_eq (tgt := 30) hx hb dX11_canBreak_12 (by decide) (fun c12 => ?_) (fun c12 => ?_)
  ·
    have oc0 : (0 : Int32).toInt = 0 := by decide
    have cc13 : r6.toInt = (0 : Int32).toInt := congrArg Int32.toInt c12
    have hb14 : In r6 0 0 := In.eq1 eL10R (⟨by decide, by decide⟩ : In 0 0 0) cc13 (by omega) (by omega)
    exact hJ30 _ _ _ hP hD hS (lv_sub hl [0, 1] rfl)
  ·
    have oc0 : (0 : Int32).toInt = 0 := by decide
    have cc15 : r6.toInt ≠ (0 : Int32).toInt := i32_ne c12
    have hb16 : In r6 1 1 := In.ne1 eL10R (⟨by decide, by decide⟩ : In 0 0 0) cc15 (by omega) (by omega)
    have hb17 : In z1 0 1 := In.both (hii11w c12) (In.full z1) (by decide) (by decide)
    refine lv_aload_n hx hb dX11_canBreak_15 rfl (lv_at hl 0 rfl) ?_
    refine pl_get (v := .int v23_1) hx hb hts (fun w h => mT (inX11 w h)) hown hG.1 hP (hst.1 255 (by decide)) hf4 rfl 23 (by decide) (hts _ (mT wg_1359)) (fun _ h => h) rfl dX11_canBreak_16 ?_
    refine lv_if_eq (tgt := 30) hx hb dX11_canBreak_19 (by decide) (fun c18 => ?_) (fun c18 => ?_)
    ·
      have oc0 : (0 : Int32).toInt = 0 := by decide
      have cc19 : v23_1.toInt = (0 : Int32).toInt := congrArg Int32.toInt c18
      have hb20 : In v23_1 0 0 := In.eq1 hv23_1 (⟨by decide, by decide⟩ : In 0 0 0) cc19 (by omega) (by omega)
      exact hJ30 _ _ _ hP hD hS (lv_sub hl [0, 1] rfl)
    ·
      have oc0 : (0 : Int32).toInt = 0 := by decide
      have cc21 : v23_1.toInt ≠ (0 : Int32).toInt := i32_ne c18
      have hb22 : In v23_1 1 1 := In.ne1 hv23_1 (⟨by decide, by decide⟩ : In 0 0 0) cc21 (by omega) (by omega)
      refine lv_aload_n hx hb dX11_canBreak_22 rfl (lv_at hl 0 rfl) ?_
      refine pl_get (v := .int v15_1) hx hb hts (fun w h => mT (inX11 w h)) hown hG.1 hP (hst.1 255 (by decide)) hf4 rfl 15 (by decide) (hts _ (mT wg_1351)) (fun _ h => h) rfl dX11_canBreak_23 ?_
      refine lv_iconst (v := 5) hx hb dX11_canBreak_26 (by decide) ?_
      refine lv_icmp_le (tgt := 33) hx hb dX11_canBreak_27 (by decide) (fun c23 => ?_) (fun c23 => ?_)
      ·
        have oc5 : (5 : Int32).toInt = 5 := by decide
        have cc24 : v15_1.toInt ≤ (5 : Int32).toInt := i32_le.mp c23
        have hb25 : In v15_1 0 5 := In.le1 hv15_1 (⟨by decide, by decide⟩ : In 5 5 5) cc24 (by omega) (by omega)
        refine lv_aload_n hx hb dX11_canBreak_33 rfl (lv_at hl 0 rfl) ?_
        refine call_v (run_V (rm := rm_X11_takesUp) hx hb hml hown hts (s_X11_takesUp l g ad th _ _ _  hst hT (show (th 22) = 2126 from (by have ob10 : (0 : Int) ≤ (th 10) ∧ (th 10) ≤ 1 := (b0_10 hT :); have ob11 : (0 : Int) ≤ (th 11) ∧ (th 11) ≤ 9 := (b0_11 hT :); have ob12 : (0 : Int) ≤ (th 12) ∧ (th 12) ≤ 6 := (b0_12 hT :); have ob14 : (0 : Int) ≤ (th 14) ∧ (th 14) ≤ 511 := (b0_14 hT :); have ob15 : (0 : Int) ≤ (th 15) ∧ (th 15) ≤ 1 := (b0_15 hT :); have ob16 : (0 : Int) ≤ (th 16) ∧ (th 16) ≤ 20 := (b0_16 hT :); have ob17 : (0 : Int) ≤ (th 17) ∧ (th 17) ≤ 1 := (b0_17 hT :); have ob18 : (0 : Int) ≤ (th 18) ∧ (th 18) ≤ 18 := (b0_18 hT :); have ob38 : (0 : Int) ≤ (th 38) ∧ (th 38) ≤ 400 := (b0_38 hT :); have ob39 : (0 : Int) ≤ (th 39) ∧ (th 39) ≤ 200 := (b0_39 hT :); have ob44 : (0 : Int) ≤ (th 44) ∧ (th 44) ≤ 30 := (b0_44 hT :); obtain ⟨o0a, o0b⟩ := (hv14_1 : In _ _ _); obtain ⟨o1a, o1b⟩ := (hb25 : In _ _ _); obtain ⟨o2a, o2b⟩ := (hv17_1 : In _ _ _); obtain ⟨o3a, o3b⟩ := (hv20_1 : In _ _ _); obtain ⟨o4a, o4b⟩ := (hb22 : In _ _ _); obtain ⟨o5a, o5b⟩ := (hv25_1 : In _ _ _); obtain ⟨o6a, o6b⟩ := (hv36_1 : In _ _ _); obtain ⟨o7a, o7b⟩ := (hv47_1 : In _ _ _); obtain ⟨o8a, o8b⟩ := (hv48_1 : In _ _ _); obtain ⟨o9a, o9b⟩ := (hv53_1 : In _ _ _); obtain ⟨o10a, o10b⟩ := (hv55_1 : In _ _ _); omega)) (show (th 20) ≤ 18 from (by have ob10 : (0 : Int) ≤ (th 10) ∧ (th 10) ≤ 1 := (b0_10 hT :); have ob11 : (0 : Int) ≤ (th 11) ∧ (th 11) ≤ 9 := (b0_11 hT :); have ob12 : (0 : Int) ≤ (th 12) ∧ (th 12) ≤ 6 := (b0_12 hT :); have ob14 : (0 : Int) ≤ (th 14) ∧ (th 14) ≤ 511 := (b0_14 hT :); have ob15 : (0 : Int) ≤ (th 15) ∧ (th 15) ≤ 1 := (b0_15 hT :); have ob16 : (0 : Int) ≤ (th 16) ∧ (th 16) ≤ 20 := (b0_16 hT :); have ob17 : (0 : Int) ≤ (th 17) ∧ (th 17) ≤ 1 := (b0_17 hT :); have ob18 : (0 : Int) ≤ (th 18) ∧ (th 18) ≤ 18 := (b0_18 hT :); have ob38 : (0 : Int) ≤ (th 38) ∧ (th 38) ≤ 400 := (b0_38 hT :); have ob39 : (0 : Int) ≤ (th 39) ∧ (th 39) ≤ 200 := (b0_39 hT :); have ob44 : (0 : Int) ≤ (th 44) ∧ (th 44) ≤ 30 := (b0_44 hT :); obtain ⟨o0a, o0b⟩ := (hv14_1 : In _ _ _); obtain ⟨o1a, o1b⟩ := (hb25 : In _ _ _); obtain ⟨o2a, o2b⟩ := (hv17_1 : In _ _ _); obtain ⟨o3a, o3b⟩ := (hv20_1 : In _ _ _); obtain ⟨o4a, o4b⟩ := (hb22 : In _ _ _); obtain ⟨o5a, o5b⟩ := (hv25_1 : In _ _ _); obtain ⟨o6a, o6b⟩ := (hv36_1 : In _ _ _); obtain ⟨o7a, o7b⟩ := (hv47_1 : In _ _ _); obtain ⟨o8a, o8b⟩ := (hv48_1 : In _ _ _); obtain ⟨o9a, o9b⟩ := (hv53_1 : In _ _ _); obtain ⟨o10a, o10b⟩ := (hv55_1 : In _ _ _); omega)) (show (th 21) = (th 11) from (by have ob10 : (0 : Int) ≤ (th 10) ∧ (th 10) ≤ 1 := (b0_10 hT :); have ob11 : (0 : Int) ≤ (th 11) ∧ (th 11) ≤ 9 := (b0_11 hT :); have ob12 : (0 : Int) ≤ (th 12) ∧ (th 12) ≤ 6 := (b0_12 hT :); have ob14 : (0 : Int) ≤ (th 14) ∧ (th 14) ≤ 511 := (b0_14 hT :); have ob15 : (0 : Int) ≤ (th 15) ∧ (th 15) ≤ 1 := (b0_15 hT :); have ob16 : (0 : Int) ≤ (th 16) ∧ (th 16) ≤ 20 := (b0_16 hT :); have ob17 : (0 : Int) ≤ (th 17) ∧ (th 17) ≤ 1 := (b0_17 hT :); have ob18 : (0 : Int) ≤ (th 18) ∧ (th 18) ≤ 18 := (b0_18 hT :); have ob38 : (0 : Int) ≤ (th 38) ∧ (th 38) ≤ 400 := (b0_38 hT :); have ob39 : (0 : Int) ≤ (th 39) ∧ (th 39) ≤ 200 := (b0_39 hT :); have ob44 : (0 : Int) ≤ (th 44) ∧ (th 44) ≤ 30 := (b0_44 hT :); obtain ⟨o0a, o0b⟩ := (hv14_1 : In _ _ _); obtain ⟨o1a, o1b⟩ := (hb25 : In _ _ _); obtain ⟨o2a, o2b⟩ := (hv17_1 : In _ _ _); obtain ⟨o3a, o3b⟩ := (hv20_1 : In _ _ _); obtain ⟨o4a, o4b⟩ := (hb22 : In _ _ _); obtain ⟨o5a, o5b⟩ := (hv25_1 : In _ _ _); obtain ⟨o6a, o6b⟩ := (hv36_1 : In _ _ _); obtain ⟨o7a, o7b⟩ := (hv47_1 : In _ _ _); obtain ⟨o8a, o8b⟩ := (hv48_1 : In _ _ _); obtain ⟨o9a, o9b⟩ := (hv53_1 : In _ _ _); obtain ⟨o10a, o10b⟩ := (hv55_1 : In _ _ _); omega))) cV_X11_takesUp wg_1648 ⟨Nat.le_of_ble_eq_true rfl, Nat.le_of_ble_eq_true rfl⟩ hG hE hA hP hD hS (hst.1 255 (by decide)) hf4 rfl rfl hl.1 (As := []) (rest := []) rfl (Nat.le_of_ble_eq_true rfl) dX11_canBreak_34 ⟨Nat.le_of_ble_eq_true rfl, Nat.le_of_ble_eq_true rfl⟩) hA hD hS (fun L27 f28 H locs hp29 hP hD hS => ?_)
        obtain ⟨eL30L, eL30T, eL30F⟩ := hp29
        have eL30L : L27 = L := eL30L
        rw [eL30L] at hP hD
        obtain ⟨zz31, zz32, hzz31, eL30T⟩ := eL30T
        have hzz31 : ((zz31 = (th 19) ∧ 0 ≤ zz31 ∧ zz31 ≤ (th 20)) ∧ (0 ≤ zz32 ∧ zz32 ≤ 511)) ∧ capI zz32 ((th 11)) := hzz31
        have hT : TI g ad (gset (gset th 18 zz31) 14 zz32) f28 := eL30T
        have eL30F : ∀ b, b ≠ (ad 255) → b ≠ (ad 265) → b ≠ (ad 266) → b ≠ (ad 267) → b ≠ (ad 269) → b ≠ (ad 260) → b ≠ (ad 261) → b ≠ (ad 262) → b ≠ (ad 263) → b ≠ (ad 264) → f28 b = f3 b := eL30F
        have hfr : (∀ b, b ≠ (ad 255) → b ≠ (ad 265) → b ≠ (ad 266) → b ≠ (ad 267) → b ≠ (ad 268) → b ≠ (ad 269) → b ≠ (ad 270) → b ≠ (ad 260) → b ≠ (ad 261) → b ≠ (ad 262) → b ≠ (ad 263) → b ≠ (ad 264) → f28 b = f b) := fun b z0_ z1_ z2_ z3_ z4_ z5_ z6_ z7_ z8_ z9_ z10_ z11_ => (eL30F b z0_ z1_ z2_ z3_ z5_ z7_ z8_ z9_ z10_ z11_).trans (hfr b z0_ z1_ z2_ z3_ z4_ z5_ z6_ z7_ z8_ z9_ z10_ z11_)
        refine lv_aload_n hx hb dX11_canBreak_37 rfl (lv_at hl 0 rfl) ?_
        refine M0e hT (fun v0_33 v2_33 v3_33 v4_33 v5_33 v6_33 v8_33 v9_33 v12_33 v13_33 v14_33 v15_33 v16_33 v17_33 v18_33 v19_33 v20_33 v21_33 v22_33 v23_33 v25_33 v36_33 v37_33 v38_33 v39_33 v40_33 v45_33 v46_33 v47_33 v48_33 v50_33 v51_33 v53_33 v55_33 hf34 hv0_33 hv2_33 hg2_33 hv3_33 hg3_33 hv4_33 hg4_33 hv5_33 hg5_33 hv6_33 hg6_33 hv8_33 hg8_33 hv9_33 hg9_33 hv12_33 hv13_33 hg13_33 hv14_33 hg14_33 hv15_33 hg15_33 hv17_33 hg17_33 hv20_33 hg20_33 hv23_33 hg23_33 hv25_33 hg25_33 hv36_33 hg36_33 hv47_33 hg47_33 hv48_33 hg48_33 hv53_33 hg53_33 hv55_33 hg55_33 hrel0_33 => ?_)
        have hg2_33 : v2_33.toInt = th 13 := hg2_33
        have hg3_33 : v3_33.toInt = th 37 := hg3_33
        have hg4_33 : v4_33.toInt = th 42 := hg4_33
        have hg5_33 : v5_33.toInt = th 40 := hg5_33
        have hg6_33 : v6_33.toInt = th 41 := hg6_33
        have hg8_33 : v8_33.toInt = th 43 := hg8_33
        have hg9_33 : v9_33.toInt = th 35 := hg9_33
        have hg13_33 : v13_33.toInt = th 36 := hg13_33
        have hg14_33 : v14_33.toInt = th 10 := hg14_33
        have hg15_33 : v15_33.toInt = th 11 := hg15_33
        have hg17_33 : v17_33.toInt = th 12 := hg17_33
        have hg20_33 : v20_33.toInt = zz32 := hg20_33
        have hg23_33 : v23_33.toInt = th 15 := hg23_33
        have hg25_33 : v25_33.toInt = th 44 := hg25_33
        have hg36_33 : v36_33.toInt = zz31 := hg36_33
        have hg47_33 : v47_33.toInt = th 16 := hg47_33
        have hg48_33 : v48_33.toInt = th 17 := hg48_33
        have hg53_33 : v53_33.toInt = th 38 := hg53_33
        have hg55_33 : v55_33.toInt = th 39 := hg55_33
        refine pl_get (v := .int v20_33) hx hb hts (fun w h => mT (inX11 w h)) hown hG.1 hP (hst.1 255 (by decide)) hf34 rfl 20 (by decide) (hts _ (mT wg_1356)) (fun _ h => h) rfl dX11_canBreak_38 ?_
        refine call_i (run_S (rm := rm_X11_bitsIn) hx hb hml hown hts (s_X11_bitsIn l g ad (gset (gset th 18 zz31) 14 zz32) _ _ _ v20_33 hst hT ) cS_X11_bitsIn wg_1827 ⟨Nat.le_of_ble_eq_true rfl, Nat.le_of_ble_eq_true rfl⟩ hG hE hA hP hD hS rfl hl.1 (As := [.int v20_33]) (rest := []) rfl (Nat.le_of_ble_eq_true rfl) dX11_canBreak_41 ⟨Nat.le_of_ble_eq_true rfl, Nat.le_of_ble_eq_true rfl⟩) hA hD hS (fun r35 L36 f37 H locs hp38 hP hD hS => ?_)
        obtain ⟨eL39L, eL39T, eL39R, eL39X0⟩ := hp38
        have eL39L : L36 = L := eL39L
        have eL39T : f37 = f28 := eL39T
        rw [eL39L, eL39T] at hP hD
        have eL39R : In r35 0 9 := eL39R
        have hpc40 : r35.toInt = pcI (zz32) := (eL39X0 hv20_33).trans (by rw [hg20_33])
        refine lv_istore_n (lv' := [(2, .int r35), (0, .ref (ad 255)), (1, .int z1)]) hx hb dX11_canBreak_44 rfl hl (by decide) rfl (fun ls hl => ?_)
        refine lv_iconst (v := 0) hx hb dX11_canBreak_45 (by decide) ?_
        refine lv_istore_n (lv' := [(3, .int 0), (2, .int r35), (0, .ref (ad 255)), (1, .int z1)]) hx hb dX11_canBreak_46 rfl hl (by decide) rfl (fun ls hl => ?_)
        have hJ47 : ∀ (k47 : Nat) (zg47_zl : Int) (zg47_zg : Int) (y47_l3 : Int32) (f_47 : HP) (H : Heap) (locs : List Loc) (ls : Array Slot), In y47_l3 0 2147483647 → va_P g.1 vwCl (va_pl L f_47) H → va_D A (va_pl L f_47) → va_S A s.heap H locs → TI g ad (gset (gset th 14 zg47_zl) 18 zg47_zg) f_47 → (∀ b, b ≠ (ad 255) → b ≠ (ad 265) → b ≠ (ad 266) → b ≠ (ad 267) → b ≠ (ad 268) → b ≠ (ad 269) → b ≠ (ad 270) → b ≠ (ad 260) → b ≠ (ad 261) → b ≠ (ad 262) → b ≠ (ad 263) → b ≠ (ad 264) → f_47 b = f b) → lv_has ls 6 [(0, .ref (ad 255)), (1, .int z1), (2, .int r35), (3, .int y47_l3)] → 2147483647 - y47_l3.toInt < ((k47 : Nat) : Int) → W p l e rm_X11_canBreak s m [.ref (ad 255), .int z1].toArray below meth c H locs 0 0 (MQ below (va_Qi (po_X11_canBreak g ad th L f z1) (PstB g A) A) [.ref (ad 255), .int z1].toArray s rm_X11_canBreak.cells rm_X11_canBreak.slots A) (F0 m 47 ls []) := by
          intro k47
          induction k47 with
          | zero =>
            intro zg47_zl zg47_zg y47_l3 f_47 H locs ls hy47_l3 hP hD hS hT hfr hl hmz47
            exact ms0 hy47_l3 hmz47
          | succ k47 ih47 =>
            intro zg47_zl zg47_zg y47_l3 f_47 H locs ls hy47_l3 hP hD hS hT hfr hl hmz47
            refine lv_iload_n hx hb dX11_canBreak_47 rfl (lv_at hl 3 rfl) ?_
            refine lv_iconst (v := 1) hx hb dX11_canBreak_48 (by decide) ?_
            refine lv_aload_n hx hb dX11_canBreak_49 rfl (lv_at hl 0 rfl) ?_
            refine M0e hT (fun v0_41 v2_41 v3_41 v4_41 v5_41 v6_41 v8_41 v9_41 v12_41 v13_41 v14_41 v15_41 v16_41 v17_41 v18_41 v19_41 v20_41 v21_41 v22_41 v23_41 v25_41 v36_41 v37_41 v38_41 v39_41 v40_41 v45_41 v46_41 v47_41 v48_41 v50_41 v51_41 v53_41 v55_41 hf42 hv0_41 hv2_41 hg2_41 hv3_41 hg3_41 hv4_41 hg4_41 hv5_41 hg5_41 hv6_41 hg6_41 hv8_41 hg8_41 hv9_41 hg9_41 hv12_41 hv13_41 hg13_41 hv14_41 hg14_41 hv15_41 hg15_41 hv17_41 hg17_41 hv20_41 hg20_41 hv23_41 hg23_41 hv25_41 hg25_41 hv36_41 hg36_41 hv47_41 hg47_41 hv48_41 hg48_41 hv53_41 hg53_41 hv55_41 hg55_41 hrel0_41 => ?_)
            have hg2_41 : v2_41.toInt = th 13 := hg2_41
            have hg3_41 : v3_41.toInt = th 37 := hg3_41
            have hg4_41 : v4_41.toInt = th 42 := hg4_41
            have hg5_41 : v5_41.toInt = th 40 := hg5_41
            have hg6_41 : v6_41.toInt = th 41 := hg6_41
            have hg8_41 : v8_41.toInt = th 43 := hg8_41
            have hg9_41 : v9_41.toInt = th 35 := hg9_41
            have hg13_41 : v13_41.toInt = th 36 := hg13_41
            have hg14_41 : v14_41.toInt = th 10 := hg14_41
            have hg15_41 : v15_41.toInt = th 11 := hg15_41
            have hg17_41 : v17_41.toInt = th 12 := hg17_41
            have hg20_41 : v20_41.toInt = zg47_zl := hg20_41
            have hg23_41 : v23_41.toInt = th 15 := hg23_41
            have hg25_41 : v25_41.toInt = th 44 := hg25_41
            have hg36_41 : v36_41.toInt = zg47_zg := hg36_41
            have hg47_41 : v47_41.toInt = th 16 := hg47_41
            have hg48_41 : v48_41.toInt = th 17 := hg48_41
            have hg53_41 : v53_41.toInt = th 38 := hg53_41
            have hg55_41 : v55_41.toInt = th 39 := hg55_41
            refine pl_get (v := .int v15_41) hx hb hts (fun w h => mT (inX11 w h)) hown hG.1 hP (hst.1 255 (by decide)) hf42 rfl 15 (by decide) (hts _ (mT wg_1351)) (fun _ h => h) rfl dX11_canBreak_50 ?_
            refine lv_ishl hx hb dX11_canBreak_53 ?_
            refine lv_topi (fun x43 ex43 => ?_)
            have hb44 : In x43 1 512 := ex43 ▸ In.shl (⟨by decide, by decide⟩ : In 1 1 1) hv15_41 (by decide) (by decide) (by decide) (by decide) (by decide) (by decide)
            have hsh45 : x43.toInt = 2 ^ (th 11).toNat := by rw [(shl1 (d := 9) ex43 hv15_41 (by decide)).2, hg15_41]
            refine lv_iconst (v := 1) hx hb dX11_canBreak_54 (by decide) ?_
            refine lv_isub hx hb dX11_canBreak_55 ?_
            refine lv_topi (fun x46 ex46 => ?_)
            have hb47 : In x46 0 511 := ex46 ▸ In.sub hb44 (⟨by decide, by decide⟩ : In 1 1 1) (by decide) (by decide) (by decide) (by decide)
            have et48 : x46.toInt = x43.toInt + (-1) := In.sube ex46 hb44 (k := 1) (by decide) (by decide) (by decide)
            refine lv_icmp_ge (tgt := 94) hx hb dX11_canBreak_56 (by decide) (fun c49 => ?_) (fun c49 => ?_)
            ·
              have cc50 : x46.toInt ≤ y47_l3.toInt := i32_le.mp c49
              refine lv_iconst (v := 0) hx hb dX11_canBreak_94 (by decide) ?_
              refine lv_istore_n (lv' := [(3, .int 0), (0, .ref (ad 255)), (1, .int z1), (2, .int r35)]) hx hb dX11_canBreak_95 rfl hl (by decide) rfl (fun ls hl => ?_)
              refine lv_iconst (v := (-1)) hx hb dX11_canBreak_96 (by decide) ?_
              refine lv_istore (lv' := [(4, .int (-1)), (3, .int 0), (0, .ref (ad 255)), (1, .int z1), (2, .int r35)]) hx hb dX11_canBreak_97 hl (by decide) rfl (fun ls hl => ?_)
              refine lv_iconst (v := 0) hx hb dX11_canBreak_99 (by decide) ?_
              refine lv_istore (lv' := [(5, .int 0), (4, .int (-1)), (3, .int 0), (0, .ref (ad 255)), (1, .int z1), (2, .int r35)]) hx hb dX11_canBreak_100 hl (by decide) rfl (fun ls hl => ?_)
              have hJ102 : ∀ (k102 : Nat) (zg102_zl : Int) (zg102_zg : Int) (y102_l3 : Int32) (y102_l4 : Int32) (y102_l5 : Int32) (f_102 : HP) (H : Heap) (locs : List Loc) (ls : Array Slot), In y102_l3 (-2147483648) 2147483647 → In y102_l4 (-1) 2147483647 → In y102_l5 0 2147483647 → va_P g.1 vwCl (va_pl L f_102) H → va_D A (va_pl L f_102) → va_S A s.heap H locs → TI g ad (gset (gset th 14 zg102_zl) 18 zg102_zg) f_102 → (∀ b, b ≠ (ad 255) → b ≠ (ad 265) → b ≠ (ad 266) → b ≠ (ad 267) → b ≠ (ad 268) → b ≠ (ad 269) → b ≠ (ad 270) → b ≠ (ad 260) → b ≠ (ad 261) → b ≠ (ad 262) → b ≠ (ad 263) → b ≠ (ad 264) → f_102 b = f b) → lv_has ls 6 [(0, .ref (ad 255)), (1, .int z1), (2, .int r35), (3, .int y102_l3), (4, .int y102_l4), (5, .int y102_l5)] → 2147483647 - y102_l5.toInt < ((k102 : Nat) : Int) → W p l e rm_X11_canBreak s m [.ref (ad 255), .int z1].toArray below meth c H locs 0 0 (MQ below (va_Qi (po_X11_canBreak g ad th L f z1) (PstB g A) A) [.ref (ad 255), .int z1].toArray s rm_X11_canBreak.cells rm_X11_canBreak.slots A) (F0 m 102 ls []) := by
                intro k102
                induction k102 with
                | zero =>
                  intro zg102_zl zg102_zg y102_l3 y102_l4 y102_l5 f_102 H locs ls hy102_l3 hy102_l4 hy102_l5 hP hD hS hT hfr hl hmz102
                  exact ms0 hy102_l5 hmz102
                | succ k102 ih102 =>
                  intro zg102_zl zg102_zg y102_l3 y102_l4 y102_l5 f_102 H locs ls hy102_l3 hy102_l4 hy102_l5 hP hD hS hT hfr hl hmz102
                  refine lv_iload hx hb dX11_canBreak_102 (lv_at hl 5 rfl) ?_
                  refine lv_iconst (v := 1) hx hb dX11_canBreak_104 (by decide) ?_
                  refine lv_aload_n hx hb dX11_canBreak_105 rfl (lv_at hl 0 rfl) ?_
                  refine M0e hT (fun v0_51 v2_51 v3_51 v4_51 v5_51 v6_51 v8_51 v9_51 v12_51 v13_51 v14_51 v15_51 v16_51 v17_51 v18_51 v19_51 v20_51 v21_51 v22_51 v23_51 v25_51 v36_51 v37_51 v38_51 v39_51 v40_51 v45_51 v46_51 v47_51 v48_51 v50_51 v51_51 v53_51 v55_51 hf52 hv0_51 hv2_51 hg2_51 hv3_51 hg3_51 hv4_51 hg4_51 hv5_51 hg5_51 hv6_51 hg6_51 hv8_51 hg8_51 hv9_51 hg9_51 hv12_51 hv13_51 hg13_51 hv14_51 hg14_51 hv15_51 hg15_51 hv17_51 hg17_51 hv20_51 hg20_51 hv23_51 hg23_51 hv25_51 hg25_51 hv36_51 hg36_51 hv47_51 hg47_51 hv48_51 hg48_51 hv53_51 hg53_51 hv55_51 hg55_51 hrel0_51 => ?_)
                  have hg2_51 : v2_51.toInt = th 13 := hg2_51
                  have hg3_51 : v3_51.toInt = th 37 := hg3_51
                  have hg4_51 : v4_51.toInt = th 42 := hg4_51
                  have hg5_51 : v5_51.toInt = th 40 := hg5_51
                  have hg6_51 : v6_51.toInt = th 41 := hg6_51
                  have hg8_51 : v8_51.toInt = th 43 := hg8_51
                  have hg9_51 : v9_51.toInt = th 35 := hg9_51
                  have hg13_51 : v13_51.toInt = th 36 := hg13_51
                  have hg14_51 : v14_51.toInt = th 10 := hg14_51
                  have hg15_51 : v15_51.toInt = th 11 := hg15_51
                  have hg17_51 : v17_51.toInt = th 12 := hg17_51
                  have hg20_51 : v20_51.toInt = zg102_zl := hg20_51
                  have hg23_51 : v23_51.toInt = th 15 := hg23_51
                  have hg25_51 : v25_51.toInt = th 44 := hg25_51
                  have hg36_51 : v36_51.toInt = zg102_zg := hg36_51
                  have hg47_51 : v47_51.toInt = th 16 := hg47_51
                  have hg48_51 : v48_51.toInt = th 17 := hg48_51
                  have hg53_51 : v53_51.toInt = th 38 := hg53_51
                  have hg55_51 : v55_51.toInt = th 39 := hg55_51
                  refine pl_get (v := .int v15_51) hx hb hts (fun w h => mT (inX11 w h)) hown hG.1 hP (hst.1 255 (by decide)) hf52 rfl 15 (by decide) (hts _ (mT wg_1351)) (fun _ h => h) rfl dX11_canBreak_106 ?_
                  refine lv_ishl hx hb dX11_canBreak_109 ?_
                  refine lv_topi (fun x53 ex53 => ?_)
                  have hb54 : In x53 1 512 := ex53 ▸ In.shl (⟨by decide, by decide⟩ : In 1 1 1) hv15_51 (by decide) (by decide) (by decide) (by decide) (by decide) (by decide)
                  have hsh55 : x53.toInt = 2 ^ (th 11).toNat := by rw [(shl1 (d := 9) ex53 hv15_51 (by decide)).2, hg15_51]
                  refine lv_iconst (v := 1) hx hb dX11_canBreak_110 (by decide) ?_
                  refine lv_isub hx hb dX11_canBreak_111 ?_
                  refine lv_topi (fun x56 ex56 => ?_)
                  have hb57 : In x56 0 511 := ex56 ▸ In.sub hb54 (⟨by decide, by decide⟩ : In 1 1 1) (by decide) (by decide) (by decide) (by decide)
                  have et58 : x56.toInt = x53.toInt + (-1) := In.sube ex56 hb54 (k := 1) (by decide) (by decide) (by decide)
                  refine lv_icmp_ge (tgt := 167) hx hb dX11_canBreak_112 (by decide) (fun c59 => ?_) (fun c59 => ?_)
                  ·
                    have cc60 : x56.toInt ≤ y102_l5.toInt := i32_le.mp c59
                    refine lv_iload_n hx hb dX11_canBreak_167 rfl (lv_at hl 1 rfl) ?_
                    refine lv_if_ne (tgt := 175) hx hb dX11_canBreak_168 (by decide) (fun c61 => ?_) (fun c61 => ?_)
                    ·
                      have oc0 : (0 : Int32).toInt = 0 := by decide
                      have cc62 : z1.toInt ≠ (0 : Int32).toInt := i32_ne c61
                      have hb63 : In z1 1 1 := In.ne1 hb17 (⟨by decide, by decide⟩ : In 0 0 0) cc62 (by omega) (by omega)
                      refine lv_iload hx hb dX11_canBreak_175 (lv_at hl 4 rfl) ?_
                      exact ret_i (ty := .int) hx hb hr hlocks (rfl) hP hD hS (Nat.le_of_ble_eq_true rfl) (Nat.le_of_ble_eq_true rfl) (⟨rfl, ⟨(gset (gset th 14 zg102_zl) 18 zg102_zg), ⟨(show MI (gset (gset th 14 zg102_zl) 18 zg102_zg) from ⟨m1, m2, (show th 20 = (th 12) * rnd (th 10) from m3), m4, m5, m6, m7, m8, m9, m10⟩), (SBM.set (k := 18) (SBM.set (k := 14) (SBM.rf th) (by decide)) (by decide))⟩, hT⟩, hfr⟩) dX11_canBreak_177
                    ·
                      have oc0 : (0 : Int32).toInt = 0 := by decide
                      have cc64 : z1.toInt = (0 : Int32).toInt := congrArg Int32.toInt c61
                      have hb65 : In z1 0 0 := In.eq1 hb17 (⟨by decide, by decide⟩ : In 0 0 0) cc64 (by omega) (by omega)
                      refine lv_iload_n hx hb dX11_canBreak_171 rfl (lv_at hl 3 rfl) ?_
                      refine lv_goto (tgt := 177) hx hb dX11_canBreak_172 (by decide) ?_
                      exact ret_i (ty := .int) hx hb hr hlocks (rfl) hP hD hS (Nat.le_of_ble_eq_true rfl) (Nat.le_of_ble_eq_true rfl) (⟨rfl, ⟨(gset (gset th 14 zg102_zl) 18 zg102_zg), ⟨(show MI (gset (gset th 14 zg102_zl) 18 zg102_zg) from ⟨m1, m2, (show th 20 = (th 12) * rnd (th 10) from m3), m4, m5, m6, m7, m8, m9, m10⟩), (SBM.set (k := 18) (SBM.set (k := 14) (SBM.rf th) (by decide)) (by decide))⟩, hT⟩, hfr⟩) dX11_canBreak_177
                  ·
                    have cc66 : y102_l5.toInt < x56.toInt := i32_nle c59
                    have hb67 : In y102_l5 0 510 := In.lt1 hy102_l5 hb57 cc66 (by omega) (by omega)
                    have hb68 : In x56 1 511 := In.lt2 hy102_l5 hb57 cc66 (by omega) (by omega)
                    refine lv_iload hx hb dX11_canBreak_115 (lv_at hl 5 rfl) ?_
                    refine call_i (run_S (rm := rm_X11_bitsIn) hx hb hml hown hts (s_X11_bitsIn l g ad (gset (gset th 14 zg102_zl) 18 zg102_zg) _ _ _ y102_l5 hst hT ) cS_X11_bitsIn wg_1827 ⟨Nat.le_of_ble_eq_true rfl, Nat.le_of_ble_eq_true rfl⟩ hG hE hA hP hD hS rfl hl.1 (As := [.int y102_l5]) (rest := []) rfl (Nat.le_of_ble_eq_true rfl) dX11_canBreak_117 ⟨Nat.le_of_ble_eq_true rfl, Nat.le_of_ble_eq_true rfl⟩) hA hD hS (fun r69 L70 f71 H locs hp72 hP hD hS => ?_)
                    obtain ⟨eL73L, eL73T, eL73R, eL73X0⟩ := hp72
                    have eL73L : L70 = L := eL73L
                    have eL73T : f71 = f_102 := eL73T
                    rw [eL73L, eL73T] at hP hD
                    have eL73R : In r69 0 9 := eL73R
                    refine lv_iload_n hx hb dX11_canBreak_120 rfl (lv_at hl 2 rfl) ?_
                    have hJ161 : ∀ (zg161_zl : Int) (zg161_zg : Int) (y161_l3 : Int32) (y161_l4 : Int32) (f_161 : HP) (H : Heap) (locs : List Loc) (ls : Array Slot), In y161_l3 (-2147483648) 2147483647 → In y161_l4 (-1) 2147483647 → va_P g.1 vwCl (va_pl L f_161) H → va_D A (va_pl L f_161) → va_S A s.heap H locs → TI g ad (gset (gset th 14 zg161_zl) 18 zg161_zg) f_161 → (∀ b, b ≠ (ad 255) → b ≠ (ad 265) → b ≠ (ad 266) → b ≠ (ad 267) → b ≠ (ad 268) → b ≠ (ad 269) → b ≠ (ad 270) → b ≠ (ad 260) → b ≠ (ad 261) → b ≠ (ad 262) → b ≠ (ad 263) → b ≠ (ad 264) → f_161 b = f b) → lv_has ls 6 [(0, .ref (ad 255)), (1, .int z1), (2, .int r35), (3, .int y161_l3), (4, .int y161_l4), (5, .int y102_l5)] → W p l e rm_X11_canBreak s m [.ref (ad 255), .int z1].toArray below meth c H locs 0 0 (MQ below (va_Qi (po_X11_canBreak g ad th L f z1) (PstB g A) A) [.ref (ad 255), .int z1].toArray s rm_X11_canBreak.cells rm_X11_canBreak.slots A) (F0 m 161 ls []) := by
                      intro zg161_zl zg161_zg y161_l3 y161_l4 f_161 H locs ls hy161_l3 hy161_l4 hP hD hS hT hfr hl
                      obtain ⟨x74, ex74⟩ : ∃ y : Int32, y = y102_l5 + 1 := ⟨_, rfl⟩
                      have hb75 : In x74 1 511 := ex74 ▸ In.add hb67 (⟨by decide, by decide⟩ : In 1 1 1) (by decide) (by decide) (by decide) (by decide)
                      have et76 : x74.toInt = y102_l5.toInt + 1 := In.adde ex74 hb67 (k := 1) (by decide) (by decide) (by decide)
                      refine lv_iinc (v := x74) (lv' := [(5, .int x74), (0, .ref (ad 255)), (1, .int z1), (2, .int r35), (3, .int y161_l3), (4, .int y161_l4)]) hx hb dX11_canBreak_161 hl (k := 5) rfl (by rw [ex74]; rfl) (by decide) rfl (fun ls hl => ?_)
                      refine lv_goto (tgt := 102) hx hb dX11_canBreak_164 (by decide) ?_
                      exact ih102 zg161_zl zg161_zg y161_l3 y161_l4 x74 _ _ _ _ hy161_l3 hy161_l4 (In.mono hb75 (by decide) (by decide)) hP hD hS (TI.cast hT (by funext q; by_cases hq0 : q = 18; (subst hq0; rfl); by_cases hq1 : q = 14; (subst hq1; rfl); simp only [gset, if_neg hq0, if_neg hq1])) hfr (lv_sub hl [1, 2, 3, 4, 5, 0] rfl) (msu et76 (by decide) hmz102)
                    refine lv_icmp_eq (tgt := 127) hx hb dX11_canBreak_121 (by decide) (fun c77 => ?_) (fun c77 => ?_)
                    ·
                      have cc78 : r69.toInt = r35.toInt := congrArg Int32.toInt c77
                      refine lv_aload_n hx hb dX11_canBreak_127 rfl (lv_at hl 0 rfl) ?_
                      refine lv_iload hx hb dX11_canBreak_128 (lv_at hl 5 rfl) ?_
                      refine pl_put (ty := .int) (v := .int y102_l5) (fs' := [.int v0_51, .ref (ad 256), .int v2_51, .int v3_51, .int v4_51, .int v5_51, .int v6_51, .ref (ad 257), .int v8_51, .int v9_51, .ref (ad 258), .ref (ad 259), .int v12_51, .int v13_51, .int v14_51, .int v15_51, .int v16_51, .int v17_51, .int v18_51, .int v19_51, .int y102_l5, .long v21_51, .long v22_51, .int v23_51, .ref (ad 260), .int v25_51, .ref (ad 261), .ref (ad 262), .ref (ad 263), .ref (ad 264), .ref (ad 265), .ref (ad 266), .ref (ad 267), .ref (ad 268), .ref (ad 269), .ref (ad 270), .int v36_51, .int v37_51, .int v38_51, .int v39_51, .int v40_51, .ref (ad 271), .ref (ad 272), .ref (ad 273), .ref (ad 274), .long v45_51, .long v46_51, .int v47_51, .int v48_51, .ref (ad 275), .int v50_51, .int v51_51, .ref (ad 276), .int v53_51, .ref (ad 277), .int v55_51]) hx hb hts (fun w h => mT (inX11 w h)) tyX11 tyX11_ok nmX11 hown hG.1 hP hD hS (hst.1 255 (by decide)) hf52 rfl 20 (by decide) (hts _ (mT wg_1356)) (fun _ h => h) rfl (by decide +kernel) (rfl) (rfl) (Nat.le_of_ble_eq_true rfl) rfl dX11_canBreak_130 (fun H locs f79 hf80 ho81 hP hD hS => ?_)
                      have hfr : (∀ b, b ≠ (ad 255) → b ≠ (ad 265) → b ≠ (ad 266) → b ≠ (ad 267) → b ≠ (ad 268) → b ≠ (ad 269) → b ≠ (ad 270) → b ≠ (ad 260) → b ≠ (ad 261) → b ≠ (ad 262) → b ≠ (ad 263) → b ≠ (ad 264) → f79 b = f b) := fun b z0_ z1_ z2_ z3_ z4_ z5_ z6_ z7_ z8_ z9_ z10_ z11_ => (ho81 b z0_).trans (hfr b z0_ z1_ z2_ z3_ z4_ z5_ z6_ z7_ z8_ z9_ z10_ z11_)
                      refine lv_aload_n hx hb dX11_canBreak_133 rfl (lv_at hl 0 rfl) ?_
                      have hT := TI.updMG (th' := (gset (gset (gset th 14 zg102_zl) 18 zg102_zg) 14 (y102_l5.toInt))) hT hst (k := 0) (by decide) hf80 ho81 ⟨v0_51, v2_51, v3_51, v4_51, v5_51, v6_51, v8_51, v9_51, v12_51, v13_51, v14_51, v15_51, v16_51, v17_51, v18_51, v19_51, y102_l5, v21_51, v22_51, v23_51, v25_51, v36_51, v37_51, v38_51, v39_51, v40_51, v45_51, v46_51, v47_51, v48_51, v50_51, v51_51, v53_51, v55_51, rfl, hv0_51, hv2_51, hg2_51, hv3_51, hg3_51, hv4_51, hg4_51, hv5_51, hg5_51, hv6_51, hg6_51, hv8_51, hg8_51, hv9_51, hg9_51, hv12_51, hv13_51, hg13_51, hv14_51, hg14_51, hv15_51, hg15_51, hv17_51, hg17_51, (In.mono hb67 (by decide) (by decide)), rfl, hv23_51, hg23_51, hv25_51, hg25_51, hv36_51, hg36_51, hv47_51, hg47_51, hv48_51, hg48_51, hv53_51, hg53_51, hv55_51, hg55_51, (by rw [hg15_51]; exact Or.inr (by have ob10 : (0 : Int) ≤ (th 10) ∧ (th 10) ≤ 1 := (b0_10 hT :); have ob11 : (0 : Int) ≤ (th 11) ∧ (th 11) ≤ 9 := (b0_11 hT :); have ob12 : (0 : Int) ≤ (th 12) ∧ (th 12) ≤ 6 := (b0_12 hT :); have ob14 : (0 : Int) ≤ zg102_zl ∧ zg102_zl ≤ 511 := (b0_14 hT :); have ob15 : (0 : Int) ≤ (th 15) ∧ (th 15) ≤ 1 := (b0_15 hT :); have ob16 : (0 : Int) ≤ (th 16) ∧ (th 16) ≤ 20 := (b0_16 hT :); have ob17 : (0 : Int) ≤ (th 17) ∧ (th 17) ≤ 1 := (b0_17 hT :); have ob18 : (0 : Int) ≤ zg102_zg ∧ zg102_zg ≤ 18 := (b0_18 hT :); have ob38 : (0 : Int) ≤ (th 38) ∧ (th 38) ≤ 400 := (b0_38 hT :); have ob39 : (0 : Int) ≤ (th 39) ∧ (th 39) ≤ 200 := (b0_39 hT :); have ob44 : (0 : Int) ≤ (th 44) ∧ (th 44) ≤ 30 := (b0_44 hT :); obtain ⟨o0a, o0b⟩ := (hb67 : In _ _ _); obtain ⟨o1a, o1b⟩ := (hv14_51 : In _ _ _); obtain ⟨o2a, o2b⟩ := (hv15_51 : In _ _ _); obtain ⟨o3a, o3b⟩ := (hv17_51 : In _ _ _); obtain ⟨o4a, o4b⟩ := (hv23_51 : In _ _ _); obtain ⟨o5a, o5b⟩ := (hv25_51 : In _ _ _); obtain ⟨o6a, o6b⟩ := (hv36_51 : In _ _ _); obtain ⟨o7a, o7b⟩ := (hv47_51 : In _ _ _); obtain ⟨o8a, o8b⟩ := (hv48_51 : In _ _ _); obtain ⟨o9a, o9b⟩ := (hv53_51 : In _ _ _); obtain ⟨o10a, o10b⟩ := (hv55_51 : In _ _ _); obtain ⟨o11a, o11b⟩ := (hb68 : In _ _ _); obtain ⟨o12a, o12b⟩ := (hb54 : In _ _ _); omega))⟩ (fun q hq => ((gset_ne (fun e => hq (by subst e; decide))).trans rfl))
                      have hT : TI g ad (gset (gset th 18 zg102_zg) 14 y102_l5.toInt) f79 := TI.cast hT (by funext q; by_cases hq0 : q = 14; (subst hq0; rfl); by_cases hq1 : q = 18; (subst hq1; rfl); simp only [gset, if_neg hq0, if_neg hq1])
                      refine M0e hT (fun v0_82 v2_82 v3_82 v4_82 v5_82 v6_82 v8_82 v9_82 v12_82 v13_82 v14_82 v15_82 v16_82 v17_82 v18_82 v19_82 v20_82 v21_82 v22_82 v23_82 v25_82 v36_82 v37_82 v38_82 v39_82 v40_82 v45_82 v46_82 v47_82 v48_82 v50_82 v51_82 v53_82 v55_82 hf83 hv0_82 hv2_82 hg2_82 hv3_82 hg3_82 hv4_82 hg4_82 hv5_82 hg5_82 hv6_82 hg6_82 hv8_82 hg8_82 hv9_82 hg9_82 hv12_82 hv13_82 hg13_82 hv14_82 hg14_82 hv15_82 hg15_82 hv17_82 hg17_82 hv20_82 hg20_82 hv23_82 hg23_82 hv25_82 hg25_82 hv36_82 hg36_82 hv47_82 hg47_82 hv48_82 hg48_82 hv53_82 hg53_82 hv55_82 hg55_82 hrel0_82 => ?_)
                      have hg2_82 : v2_82.toInt = th 13 := hg2_82
                      have hg3_82 : v3_82.toInt = th 37 := hg3_82
                      have hg4_82 : v4_82.toInt = th 42 := hg4_82
                      have hg5_82 : v5_82.toInt = th 40 := hg5_82
                      have hg6_82 : v6_82.toInt = th 41 := hg6_82
                      have hg8_82 : v8_82.toInt = th 43 := hg8_82
                      have hg9_82 : v9_82.toInt = th 35 := hg9_82
                      have hg13_82 : v13_82.toInt = th 36 := hg13_82
                      have hg14_82 : v14_82.toInt = th 10 := hg14_82
                      have hg15_82 : v15_82.toInt = th 11 := hg15_82
                      have hg17_82 : v17_82.toInt = th 12 := hg17_82
                      have hg20_82 : v20_82.toInt = y102_l5.toInt := hg20_82
                      have hg23_82 : v23_82.toInt = th 15 := hg23_82
                      have hg25_82 : v25_82.toInt = th 44 := hg25_82
                      have hg36_82 : v36_82.toInt = zg102_zg := hg36_82
                      have hg47_82 : v47_82.toInt = th 16 := hg47_82
                      have hg48_82 : v48_82.toInt = th 17 := hg48_82
                      have hg53_82 : v53_82.toInt = th 38 := hg53_82
                      have hg55_82 : v55_82.toInt = th 39 := hg55_82
                      refine call_i (run_V (rm := rm_X11_breaksSome) hx hb hml hown hts (s_X11_breaksSome l g ad (gset (gset th 18 zg102_zg) 14 y102_l5.toInt) _ _ _  hst hT (show 3 ≤ th 11 by omega)) cV_X11_breaksSome wg_1862 ⟨Nat.le_of_ble_eq_true rfl, Nat.le_of_ble_eq_true rfl⟩ hG hE hA hP hD hS (hst.1 255 (by decide)) hf83 rfl rfl hl.1 (As := []) (rest := []) rfl (Nat.le_of_ble_eq_true rfl) dX11_canBreak_134 ⟨Nat.le_of_ble_eq_true rfl, Nat.le_of_ble_eq_true rfl⟩) hA hD hS (fun r84 L85 f86 H locs hp87 hP hD hS => ?_)
                      obtain ⟨eL88L, eL88T, eL88F, eL88R⟩ := hp87
                      have eL88L : L85 = L := eL88L
                      rw [eL88L] at hP hD
                      obtain ⟨zz89, hzz89, eL88T⟩ := eL88T
                      have hzz89 : True := hzz89
                      have hT : TI g ad (gset (gset (gset th 18 zg102_zg) 14 y102_l5.toInt) 18 zz89) f86 := eL88T
                      have hT : TI g ad (gset (gset th 14 y102_l5.toInt) 18 zz89) f86 := TI.cast hT (by funext q; by_cases hq0 : q = 18; (subst hq0; rfl); by_cases hq1 : q = 14; (subst hq1; rfl); simp only [gset, if_neg hq0, if_neg hq1])
                      have eL88F : ∀ b, b ≠ (ad 255) → b ≠ (ad 265) → b ≠ (ad 266) → b ≠ (ad 267) → b ≠ (ad 268) → b ≠ (ad 269) → b ≠ (ad 270) → b ≠ (ad 261) → b ≠ (ad 262) → b ≠ (ad 263) → b ≠ (ad 264) → f86 b = f79 b := eL88F
                      have hfr : (∀ b, b ≠ (ad 255) → b ≠ (ad 265) → b ≠ (ad 266) → b ≠ (ad 267) → b ≠ (ad 268) → b ≠ (ad 269) → b ≠ (ad 270) → b ≠ (ad 260) → b ≠ (ad 261) → b ≠ (ad 262) → b ≠ (ad 263) → b ≠ (ad 264) → f86 b = f b) := fun b z0_ z1_ z2_ z3_ z4_ z5_ z6_ z7_ z8_ z9_ z10_ z11_ => (eL88F b z0_ z1_ z2_ z3_ z4_ z5_ z6_ z8_ z9_ z10_ z11_).trans (hfr b z0_ z1_ z2_ z3_ z4_ z5_ z6_ z7_ z8_ z9_ z10_ z11_)
                      have eL88R : In r84 0 1 := eL88R
                      refine lv_if_ne (tgt := 143) hx hb dX11_canBreak_137 (by decide) (fun c90 => ?_) (fun c90 => ?_)
                      ·
                        have oc0 : (0 : Int32).toInt = 0 := by decide
                        have cc91 : r84.toInt ≠ (0 : Int32).toInt := i32_ne c90
                        have hb92 : In r84 1 1 := In.ne1 eL88R (⟨by decide, by decide⟩ : In 0 0 0) cc91 (by omega) (by omega)
                        obtain ⟨x93, ex93⟩ : ∃ y : Int32, y = y102_l3 + 1 := ⟨_, rfl⟩
                        refine lv_iinc (v := x93) (lv' := [(3, .int x93), (0, .ref (ad 255)), (1, .int z1), (2, .int r35), (4, .int y102_l4), (5, .int y102_l5)]) hx hb dX11_canBreak_143 hl (k := 3) rfl (by rw [ex93]; rfl) (by decide) rfl (fun ls hl => ?_)
                        refine lv_iload hx hb dX11_canBreak_146 (lv_at hl 4 rfl) ?_
                        refine lv_iconst (v := (-1)) hx hb dX11_canBreak_148 (by decide) ?_
                        have hJ159 : ∀ (y159_s0 : Int32) (H : Heap) (locs : List Loc) (ls : Array Slot), In y159_s0 0 2147483647 → va_P g.1 vwCl (va_pl L f86) H → va_D A (va_pl L f86) → va_S A s.heap H locs → lv_has ls 6 [(0, .ref (ad 255)), (1, .int z1), (2, .int r35), (3, .int x93), (4, .int y102_l4), (5, .int y102_l5)] → W p l e rm_X11_canBreak s m [.ref (ad 255), .int z1].toArray below meth c H locs 0 0 (MQ below (va_Qi (po_X11_canBreak g ad th L f z1) (PstB g A) A) [.ref (ad 255), .int z1].toArray s rm_X11_canBreak.cells rm_X11_canBreak.slots A) (F0 m 159 ls [.int y159_s0]) := by
                          intro y159_s0 H locs ls hy159_s0 hP hD hS hl
                          refine lv_istore (lv' := [(4, .int y159_s0), (0, .ref (ad 255)), (1, .int z1), (2, .int r35), (3, .int x93), (5, .int y102_l5)]) hx hb dX11_canBreak_159 hl (by decide) rfl (fun ls hl => ?_)
                          exact hJ161 y102_l5.toInt zz89 x93 y159_s0 _ _ _ _ (In.full x93) (In.mono hy159_s0 (by decide) (by decide)) hP hD hS (TI.cast hT (by funext q; by_cases hq0 : q = 18; (subst hq0; rfl); by_cases hq1 : q = 14; (subst hq1; rfl); simp only [gset, if_neg hq0, if_neg hq1])) hfr (lv_sub hl [1, 2, 3, 4, 0, 5] rfl)
                        refine lv_icmp_ne (tgt := 157) hx hb dX11_canBreak_149 (by decide) (fun c94 => ?_) (fun c94 => ?_)
                        ·
                          have ocm1 : ((-1) : Int32).toInt = (-1) := by decide
                          have cc95 : y102_l4.toInt ≠ ((-1) : Int32).toInt := i32_ne c94
                          have hb96 : In y102_l4 0 2147483647 := In.ne1 hy102_l4 (⟨by decide, by decide⟩ : In (-1) (-1) (-1)) cc95 (by omega) (by omega)
                          refine lv_iload hx hb dX11_canBreak_157 (lv_at hl 4 rfl) ?_
                          exact hJ159 y102_l4 _ _ _ hb96 hP hD hS (lv_sub hl [1, 2, 3, 0, 4, 5] rfl)
                        ·
                          have ocm1 : ((-1) : Int32).toInt = (-1) := by decide
                          have cc97 : y102_l4.toInt = ((-1) : Int32).toInt := congrArg Int32.toInt c94
                          have hb98 : In y102_l4 (-1) (-1) := In.eq1 hy102_l4 (⟨by decide, by decide⟩ : In (-1) (-1) (-1)) cc97 (by omega) (by omega)
                          refine lv_iload hx hb dX11_canBreak_152 (lv_at hl 5 rfl) ?_
                          refine lv_goto (tgt := 159) hx hb dX11_canBreak_154 (by decide) ?_
                          exact hJ159 y102_l5 _ _ _ (In.mono hb67 (by decide) (by decide)) hP hD hS (lv_sub hl [1, 2, 3, 0, 4, 5] rfl)
                      ·
                        have oc0 : (0 : Int32).toInt = 0 := by decide
                        have cc99 : r84.toInt = (0 : Int32).toInt := congrArg Int32.toInt c90
                        have hb100 : In r84 0 0 := In.eq1 eL88R (⟨by decide, by decide⟩ : In 0 0 0) cc99 (by omega) (by omega)
                        refine lv_goto (tgt := 161) hx hb dX11_canBreak_140 (by decide) ?_
                        exact hJ161 y102_l5.toInt zz89 y102_l3 y102_l4 _ _ _ _ hy102_l3 hy102_l4 hP hD hS (TI.cast hT (by funext q; by_cases hq0 : q = 18; (subst hq0; rfl); by_cases hq1 : q = 14; (subst hq1; rfl); simp only [gset, if_neg hq0, if_neg hq1])) hfr (lv_sub hl [0, 1, 2, 3, 4, 5] rfl)
                    ·
                      have cc101 : r69.toInt ≠ r35.toInt := i32_ne c77
                      refine lv_goto (tgt := 161) hx hb dX11_canBreak_124 (by decide) ?_
                      exact hJ161 zg102_zl zg102_zg y102_l3 y102_l4 _ _ _ _ hy102_l3 hy102_l4 hP hD hS (TI.cast hT (by funext q; by_cases hq0 : q = 18; (subst hq0; rfl); by_cases hq1 : q = 14; (subst hq1; rfl); simp only [gset, if_neg hq0, if_neg hq1])) hfr (lv_sub hl [0, 1, 2, 3, 4, 5] rfl)
              exact hJ102 ((2147483647 - (0 : Int32).toInt).toNat + 1) zg47_zl zg47_zg 0 (-1) 0 _ _ _ _ (⟨by decide, by decide⟩ : In 0 (-2147483648) 2147483647) (⟨by decide, by decide⟩ : In (-1) (-1) 2147483647) (⟨by decide, by decide⟩ : In 0 0 2147483647) hP hD hS (TI.cast hT (by funext q; by_cases hq0 : q = 18; (subst hq0; rfl); by_cases hq1 : q = 14; (subst hq1; rfl); simp only [gset, if_neg hq0, if_neg hq1])) hfr (lv_sub hl [3, 4, 5, 2, 1, 0] rfl) (msI _)
            ·
              have cc102 : y47_l3.toInt < x46.toInt := i32_nle c49
              have hb103 : In y47_l3 0 510 := In.lt1 hy47_l3 hb47 cc102 (by omega) (by omega)
              have hb104 : In x46 1 511 := In.lt2 hy47_l3 hb47 cc102 (by omega) (by omega)
              refine lv_aload_n hx hb dX11_canBreak_59 rfl (lv_at hl 0 rfl) ?_
              refine lv_iload_n hx hb dX11_canBreak_60 rfl (lv_at hl 3 rfl) ?_
              refine pl_put (ty := .int) (v := .int y47_l3) (fs' := [.int v0_41, .ref (ad 256), .int v2_41, .int v3_41, .int v4_41, .int v5_41, .int v6_41, .ref (ad 257), .int v8_41, .int v9_41, .ref (ad 258), .ref (ad 259), .int v12_41, .int v13_41, .int v14_41, .int v15_41, .int v16_41, .int v17_41, .int v18_41, .int v19_41, .int y47_l3, .long v21_41, .long v22_41, .int v23_41, .ref (ad 260), .int v25_41, .ref (ad 261), .ref (ad 262), .ref (ad 263), .ref (ad 264), .ref (ad 265), .ref (ad 266), .ref (ad 267), .ref (ad 268), .ref (ad 269), .ref (ad 270), .int v36_41, .int v37_41, .int v38_41, .int v39_41, .int v40_41, .ref (ad 271), .ref (ad 272), .ref (ad 273), .ref (ad 274), .long v45_41, .long v46_41, .int v47_41, .int v48_41, .ref (ad 275), .int v50_41, .int v51_41, .ref (ad 276), .int v53_41, .ref (ad 277), .int v55_41]) hx hb hts (fun w h => mT (inX11 w h)) tyX11 tyX11_ok nmX11 hown hG.1 hP hD hS (hst.1 255 (by decide)) hf42 rfl 20 (by decide) (hts _ (mT wg_1356)) (fun _ h => h) rfl (by decide +kernel) (rfl) (rfl) (Nat.le_of_ble_eq_true rfl) rfl dX11_canBreak_61 (fun H locs f105 hf106 ho107 hP hD hS => ?_)
              have hfr : (∀ b, b ≠ (ad 255) → b ≠ (ad 265) → b ≠ (ad 266) → b ≠ (ad 267) → b ≠ (ad 268) → b ≠ (ad 269) → b ≠ (ad 270) → b ≠ (ad 260) → b ≠ (ad 261) → b ≠ (ad 262) → b ≠ (ad 263) → b ≠ (ad 264) → f105 b = f b) := fun b z0_ z1_ z2_ z3_ z4_ z5_ z6_ z7_ z8_ z9_ z10_ z11_ => (ho107 b z0_).trans (hfr b z0_ z1_ z2_ z3_ z4_ z5_ z6_ z7_ z8_ z9_ z10_ z11_)
              refine lv_iload_n hx hb dX11_canBreak_64 rfl (lv_at hl 3 rfl) ?_
              have hT := TI.updMG (th' := (gset (gset (gset th 14 zg47_zl) 18 zg47_zg) 14 (y47_l3.toInt))) hT hst (k := 0) (by decide) hf106 ho107 ⟨v0_41, v2_41, v3_41, v4_41, v5_41, v6_41, v8_41, v9_41, v12_41, v13_41, v14_41, v15_41, v16_41, v17_41, v18_41, v19_41, y47_l3, v21_41, v22_41, v23_41, v25_41, v36_41, v37_41, v38_41, v39_41, v40_41, v45_41, v46_41, v47_41, v48_41, v50_41, v51_41, v53_41, v55_41, rfl, hv0_41, hv2_41, hg2_41, hv3_41, hg3_41, hv4_41, hg4_41, hv5_41, hg5_41, hv6_41, hg6_41, hv8_41, hg8_41, hv9_41, hg9_41, hv12_41, hv13_41, hg13_41, hv14_41, hg14_41, hv15_41, hg15_41, hv17_41, hg17_41, (In.mono hb103 (by decide) (by decide)), rfl, hv23_41, hg23_41, hv25_41, hg25_41, hv36_41, hg36_41, hv47_41, hg47_41, hv48_41, hg48_41, hv53_41, hg53_41, hv55_41, hg55_41, (by rw [hg15_41]; exact Or.inr (by have ob10 : (0 : Int) ≤ (th 10) ∧ (th 10) ≤ 1 := (b0_10 hT :); have ob11 : (0 : Int) ≤ (th 11) ∧ (th 11) ≤ 9 := (b0_11 hT :); have ob12 : (0 : Int) ≤ (th 12) ∧ (th 12) ≤ 6 := (b0_12 hT :); have ob14 : (0 : Int) ≤ zg47_zl ∧ zg47_zl ≤ 511 := (b0_14 hT :); have ob15 : (0 : Int) ≤ (th 15) ∧ (th 15) ≤ 1 := (b0_15 hT :); have ob16 : (0 : Int) ≤ (th 16) ∧ (th 16) ≤ 20 := (b0_16 hT :); have ob17 : (0 : Int) ≤ (th 17) ∧ (th 17) ≤ 1 := (b0_17 hT :); have ob18 : (0 : Int) ≤ zg47_zg ∧ zg47_zg ≤ 18 := (b0_18 hT :); have ob38 : (0 : Int) ≤ (th 38) ∧ (th 38) ≤ 400 := (b0_38 hT :); have ob39 : (0 : Int) ≤ (th 39) ∧ (th 39) ≤ 200 := (b0_39 hT :); have ob44 : (0 : Int) ≤ (th 44) ∧ (th 44) ≤ 30 := (b0_44 hT :); obtain ⟨o0a, o0b⟩ := (hb103 : In _ _ _); obtain ⟨o1a, o1b⟩ := (hv14_41 : In _ _ _); obtain ⟨o2a, o2b⟩ := (hv15_41 : In _ _ _); obtain ⟨o3a, o3b⟩ := (hv17_41 : In _ _ _); obtain ⟨o4a, o4b⟩ := (hv23_41 : In _ _ _); obtain ⟨o5a, o5b⟩ := (hv25_41 : In _ _ _); obtain ⟨o6a, o6b⟩ := (hv36_41 : In _ _ _); obtain ⟨o7a, o7b⟩ := (hv47_41 : In _ _ _); obtain ⟨o8a, o8b⟩ := (hv48_41 : In _ _ _); obtain ⟨o9a, o9b⟩ := (hv53_41 : In _ _ _); obtain ⟨o10a, o10b⟩ := (hv55_41 : In _ _ _); obtain ⟨o11a, o11b⟩ := (hb104 : In _ _ _); obtain ⟨o12a, o12b⟩ := (hb44 : In _ _ _); omega))⟩ (fun q hq => ((gset_ne (fun e => hq (by subst e; decide))).trans rfl))
              have hT : TI g ad (gset (gset th 18 zg47_zg) 14 y47_l3.toInt) f105 := TI.cast hT (by funext q; by_cases hq0 : q = 14; (subst hq0; rfl); by_cases hq1 : q = 18; (subst hq1; rfl); simp only [gset, if_neg hq0, if_neg hq1])
              refine call_i (run_S (rm := rm_X11_bitsIn) hx hb hml hown hts (s_X11_bitsIn l g ad (gset (gset th 18 zg47_zg) 14 y47_l3.toInt) _ _ _ y47_l3 hst hT ) cS_X11_bitsIn wg_1827 ⟨Nat.le_of_ble_eq_true rfl, Nat.le_of_ble_eq_true rfl⟩ hG hE hA hP hD hS rfl hl.1 (As := [.int y47_l3]) (rest := []) rfl (Nat.le_of_ble_eq_true rfl) dX11_canBreak_65 ⟨Nat.le_of_ble_eq_true rfl, Nat.le_of_ble_eq_true rfl⟩) hA hD hS (fun r108 L109 f110 H locs hp111 hP hD hS => ?_)
              obtain ⟨eL112L, eL112T, eL112R, eL112X0⟩ := hp111
              have eL112L : L109 = L := eL112L
              have eL112T : f110 = f105 := eL112T
              rw [eL112L, eL112T] at hP hD
              have eL112R : In r108 0 9 := eL112R
              refine lv_iload_n hx hb dX11_canBreak_68 rfl (lv_at hl 2 rfl) ?_
              have hJ88 : ∀ (H : Heap) (locs : List Loc) (ls : Array Slot), va_P g.1 vwCl (va_pl L f105) H → va_D A (va_pl L f105) → va_S A s.heap H locs → lv_has ls 6 [(0, .ref (ad 255)), (1, .int z1), (2, .int r35), (3, .int y47_l3)] → W p l e rm_X11_canBreak s m [.ref (ad 255), .int z1].toArray below meth c H locs 0 0 (MQ below (va_Qi (po_X11_canBreak g ad th L f z1) (PstB g A) A) [.ref (ad 255), .int z1].toArray s rm_X11_canBreak.cells rm_X11_canBreak.slots A) (F0 m 88 ls []) := by
                intro H locs ls hP hD hS hl
                obtain ⟨x113, ex113⟩ : ∃ y : Int32, y = y47_l3 + 1 := ⟨_, rfl⟩
                have hb114 : In x113 1 511 := ex113 ▸ In.add hb103 (⟨by decide, by decide⟩ : In 1 1 1) (by decide) (by decide) (by decide) (by decide)
                have et115 : x113.toInt = y47_l3.toInt + 1 := In.adde ex113 hb103 (k := 1) (by decide) (by decide) (by decide)
                refine lv_iinc (v := x113) (lv' := [(3, .int x113), (0, .ref (ad 255)), (1, .int z1), (2, .int r35)]) hx hb dX11_canBreak_88 hl (k := 3) rfl (by rw [ex113]; rfl) (by decide) rfl (fun ls hl => ?_)
                refine lv_goto (tgt := 47) hx hb dX11_canBreak_91 (by decide) ?_
                exact ih47 y47_l3.toInt zg47_zg x113 _ _ _ _ (In.mono hb114 (by decide) (by decide)) hP hD hS (TI.cast hT (by funext q; by_cases hq0 : q = 14; (subst hq0; rfl); by_cases hq1 : q = 18; (subst hq1; rfl); simp only [gset, if_neg hq0, if_neg hq1])) hfr (lv_sub hl [1, 2, 3, 0] rfl) (msu et115 (by decide) hmz47)
              refine lv_icmp_ne (tgt := 88) hx hb dX11_canBreak_69 (by decide) (fun c116 => ?_) (fun c116 => ?_)
              ·
                have cc117 : r108.toInt ≠ r35.toInt := i32_ne c116
                exact hJ88 _ _ _ hP hD hS (lv_sub hl [0, 1, 2, 3] rfl)
              ·
                have cc118 : r108.toInt = r35.toInt := congrArg Int32.toInt c116
                refine lv_aload_n hx hb dX11_canBreak_72 rfl (lv_at hl 0 rfl) ?_
                refine lv_aload_n hx hb dX11_canBreak_73 rfl (lv_at hl 0 rfl) ?_
                refine M0e hT (fun v0_119 v2_119 v3_119 v4_119 v5_119 v6_119 v8_119 v9_119 v12_119 v13_119 v14_119 v15_119 v16_119 v17_119 v18_119 v19_119 v20_119 v21_119 v22_119 v23_119 v25_119 v36_119 v37_119 v38_119 v39_119 v40_119 v45_119 v46_119 v47_119 v48_119 v50_119 v51_119 v53_119 v55_119 hf120 hv0_119 hv2_119 hg2_119 hv3_119 hg3_119 hv4_119 hg4_119 hv5_119 hg5_119 hv6_119 hg6_119 hv8_119 hg8_119 hv9_119 hg9_119 hv12_119 hv13_119 hg13_119 hv14_119 hg14_119 hv15_119 hg15_119 hv17_119 hg17_119 hv20_119 hg20_119 hv23_119 hg23_119 hv25_119 hg25_119 hv36_119 hg36_119 hv47_119 hg47_119 hv48_119 hg48_119 hv53_119 hg53_119 hv55_119 hg55_119 hrel0_119 => ?_)
                have hg2_119 : v2_119.toInt = th 13 := hg2_119
                have hg3_119 : v3_119.toInt = th 37 := hg3_119
                have hg4_119 : v4_119.toInt = th 42 := hg4_119
                have hg5_119 : v5_119.toInt = th 40 := hg5_119
                have hg6_119 : v6_119.toInt = th 41 := hg6_119
                have hg8_119 : v8_119.toInt = th 43 := hg8_119
                have hg9_119 : v9_119.toInt = th 35 := hg9_119
                have hg13_119 : v13_119.toInt = th 36 := hg13_119
                have hg14_119 : v14_119.toInt = th 10 := hg14_119
                have hg15_119 : v15_119.toInt = th 11 := hg15_119
                have hg17_119 : v17_119.toInt = th 12 := hg17_119
                have hg20_119 : v20_119.toInt = y47_l3.toInt := hg20_119
                have hg23_119 : v23_119.toInt = th 15 := hg23_119
                have hg25_119 : v25_119.toInt = th 44 := hg25_119
                have hg36_119 : v36_119.toInt = zg47_zg := hg36_119
                have hg47_119 : v47_119.toInt = th 16 := hg47_119
                have hg48_119 : v48_119.toInt = th 17 := hg48_119
                have hg53_119 : v53_119.toInt = th 38 := hg53_119
                have hg55_119 : v55_119.toInt = th 39 := hg55_119
                refine pl_get (v := .int v17_119) hx hb hts (fun w h => mT (inX11 w h)) hown hG.1 hP (hst.1 255 (by decide)) hf120 rfl 17 (by decide) (hts _ (mT wg_1353)) (fun _ h => h) rfl dX11_canBreak_74 ?_
                refine call_i (run_V (rm := rm_X11_freeIn) hx hb hml hown hts (s_X11_freeIn l g ad (gset (gset th 18 zg47_zg) 14 y47_l3.toInt) _ _ _ v17_119 hst hT hv17_119 (show 3 ≤ th 11 by omega)) cV_X11_freeIn wg_1823 ⟨Nat.le_of_ble_eq_true rfl, Nat.le_of_ble_eq_true rfl⟩ hG hE hA hP hD hS (hst.1 255 (by decide)) hf120 rfl rfl hl.1 (As := [.int v17_119]) (rest := []) rfl (Nat.le_of_ble_eq_true rfl) dX11_canBreak_77 ⟨Nat.le_of_ble_eq_true rfl, Nat.le_of_ble_eq_true rfl⟩) hA hD hS (fun r121 L122 f123 H locs hp124 hP hD hS => ?_)
                obtain ⟨eL125L, eL125T, eL125X0⟩ := hp124
                have eL125L : L122 = L := eL125L
                have eL125T : f123 = f105 := eL125T
                rw [eL125L, eL125T] at hP hD
                have hfi126 : r121.toInt = frI (rnd (th 10)) (th 11) (y47_l3.toInt) v17_119.toInt := eL125X0
                refine lv_bipush (v := 12) hx hb dX11_canBreak_80 (by decide) ?_
                refine lv_icmp_le (tgt := 88) hx hb dX11_canBreak_82 (by decide) (fun c127 => ?_) (fun c127 => ?_)
                ·
                  have oc12 : (12 : Int32).toInt = 12 := by decide
                  have cc128 : r121.toInt ≤ (12 : Int32).toInt := i32_le.mp c127
                  have hb129 : In r121 (-2147483648) 12 := In.le1 (In.full r121) (⟨by decide, by decide⟩ : In 12 12 12) cc128 (by omega) (by omega)
                  exact hJ88 _ _ _ hP hD hS (lv_sub hl [0, 1, 2, 3] rfl)
                ·
                  have oc12 : (12 : Int32).toInt = 12 := by decide
                  have cc130 : (12 : Int32).toInt < r121.toInt := i32_nle c127
                  have hb131 : In r121 13 2147483647 := In.gt1 (In.full r121) (⟨by decide, by decide⟩ : In 12 12 12) cc130 (by omega) (by omega)
                  refine lv_bipush (v := (-2)) hx hb dX11_canBreak_85 (by decide) ?_
                  exact ret_i (ty := .int) hx hb hr hlocks (rfl) hP hD hS (Nat.le_of_ble_eq_true rfl) (Nat.le_of_ble_eq_true rfl) (⟨rfl, ⟨(gset (gset th 18 zg47_zg) 14 y47_l3.toInt), ⟨(show MI (gset (gset th 18 zg47_zg) 14 y47_l3.toInt) from ⟨m1, m2, (show th 20 = (th 12) * rnd (th 10) from m3), m4, m5, m6, m7, m8, m9, m10⟩), (SBM.set (k := 14) (SBM.set (k := 18) (SBM.rf th) (by decide)) (by decide))⟩, hT⟩, hfr⟩) dX11_canBreak_87
        exact hJ47 ((2147483647 - (0 : Int32).toInt).toNat + 1) zz32 zz31 0 _ _ _ _ (⟨by decide, by decide⟩ : In 0 0 2147483647) hP hD hS (TI.cast hT (by funext q; by_cases hq0 : q = 14; (subst hq0; rfl); by_cases hq1 : q = 18; (subst hq1; rfl); simp only [gset, if_neg hq0, if_neg hq1])) hfr (lv_sub hl [2, 3, 1, 0] rfl) (msI _)
      ·
        have oc5 : (5 : Int32).toInt = 5 := by decide
        have cc132 : (5 : Int32).toInt < v15_1.toInt := i32_nle c23
        have hb133 : In v15_1 6 9 := In.gt1 hv15_1 (⟨by decide, by decide⟩ : In 5 5 5) cc132 (by omega) (by omega)
        exact hJ30 _ _ _ hP hD hS (lv_sub hl [0, 1] rfl)

abbrev rm_X11_weakest : Room := { frames := 7, cells := 0, slots := 0, locals := 170 }
abbrev po_X11_weakest (g : GG) (ad : Nat → Nat) (th : Nat → Int) (L : List Nat) (f : HP)  : Int32 → (List Nat × HP) → Prop := fun r u => u.1 = L ∧ (∃ th' : Nat → Int, (MI th' ∧ SBM th th') ∧ TI g ad th' u.2) ∧ (∀ b, b ≠ (ad 255) → b ≠ (ad 265) → b ≠ (ad 266) → b ≠ (ad 267) → b ≠ (ad 268) → b ≠ (ad 269) → b ≠ (ad 270) → b ≠ (ad 260) → b ≠ (ad 261) → b ≠ (ad 262) → b ≠ (ad 263) → b ≠ (ad 264) → u.2 b = f b)
set_option maxHeartbeats 4000000 in
set_option maxRecDepth 100000 in
theorem s_X11_weakest (l : Launch) (g : GG) (ad : Nat → Nat) (th : Nat → Int) (L : List Nat) (f : HP) (sz : Nat)  (hst : ST ad L) (hT : TI g ad th f) (hM : MI th) : MtI l g yX11_weakest cX11_weakest 3 (some .int) rm_X11_weakest [.ref (ad 255)] L f sz (po_X11_weakest g ad th L f ) := by
  refine MtI.of (by decide +kernel) (Nat.le_of_ble_eq_true rfl) ?_
  intro p e s m below meth c A hEn hP hD hS ls hl
  obtain ⟨hx, hb, hr, hml, hown, hlocks, hts, hG, hA, hE, hnm⟩ := hEn
  have hown : s.vm.findClass "RulerWordModel" = some m.cls := hown
  have hl : lv_has ls 3 [(0, .ref (ad 255))] := hl
  have hfr : (∀ b, b ≠ (ad 255) → b ≠ (ad 265) → b ≠ (ad 266) → b ≠ (ad 267) → b ≠ (ad 268) → b ≠ (ad 269) → b ≠ (ad 270) → b ≠ (ad 260) → b ≠ (ad 261) → b ≠ (ad 262) → b ≠ (ad 263) → b ≠ (ad 264) → f b = f b) := fun b z0_ z1_ z2_ z3_ z4_ z5_ z6_ z7_ z8_ z9_ z10_ z11_ => rfl
  have hM0 := hM
  obtain ⟨m1, m2, m3, m4, m5, m6, m7, m8, m9, m10⟩ := hM0
  have m20 := mi20 m2 m3
  refine lv_aload_n hx hb dX11_weakest_0 rfl (lv_at hl 0 rfl) ?_
  refine lv_iconst (v := 0) hx hb dX11_weakest_1 (by decide) ?_
  refine M0e hT (fun v0_1 v2_1 v3_1 v4_1 v5_1 v6_1 v8_1 v9_1 v12_1 v13_1 v14_1 v15_1 v16_1 v17_1 v18_1 v19_1 v20_1 v21_1 v22_1 v23_1 v25_1 v36_1 v37_1 v38_1 v39_1 v40_1 v45_1 v46_1 v47_1 v48_1 v50_1 v51_1 v53_1 v55_1 hf2 hv0_1 hv2_1 hg2_1 hv3_1 hg3_1 hv4_1 hg4_1 hv5_1 hg5_1 hv6_1 hg6_1 hv8_1 hg8_1 hv9_1 hg9_1 hv12_1 hv13_1 hg13_1 hv14_1 hg14_1 hv15_1 hg15_1 hv17_1 hg17_1 hv20_1 hg20_1 hv23_1 hg23_1 hv25_1 hg25_1 hv36_1 hg36_1 hv47_1 hg47_1 hv48_1 hg48_1 hv53_1 hg53_1 hv55_1 hg55_1 hrel0_1 => ?_)
  refine pl_put (ty := .int) (v := .int 0) (fs' := [.int 0, .ref (ad 256), .int v2_1, .int v3_1, .int v4_1, .int v5_1, .int v6_1, .ref (ad 257), .int v8_1, .int v9_1, .ref (ad 258), .ref (ad 259), .int v12_1, .int v13_1, .int v14_1, .int v15_1, .int v16_1, .int v17_1, .int v18_1, .int v19_1, .int v20_1, .long v21_1, .long v22_1, .int v23_1, .ref (ad 260), .int v25_1, .ref (ad 261), .ref (ad 262), .ref (ad 263), .ref (ad 264), .ref (ad 265), .ref (ad 266), .ref (ad 267), .ref (ad 268), .ref (ad 269), .ref (ad 270), .int v36_1, .int v37_1, .int v38_1, .int v39_1, .int v40_1, .ref (ad 271), .ref (ad 272), .ref (ad 273), .ref (ad 274), .long v45_1, .long v46_1, .int v47_1, .int v48_1, .ref (ad 275), .int v50_1, .int v51_1, .ref (ad 276), .int v53_1, .ref (ad 277), .int v55_1]) hx hb hts (fun w h => mT (inX11 w h)) tyX11 tyX11_ok nmX11 hown hG.1 hP hD hS (hst.1 255 (by decide)) hf2 rfl 0 (by decide) (hts _ (mT wg_1336)) (fun _ h => h) rfl (by decide +kernel) (rfl) (rfl) (Nat.le_of_ble_eq_true rfl) rfl dX11_weakest_2 (fun H locs f3 hf4 ho5 hP hD hS => ?_)
  have hfr : (∀ b, b ≠ (ad 255) → b ≠ (ad 265) → b ≠ (ad 266) → b ≠ (ad 267) → b ≠ (ad 268) → b ≠ (ad 269) → b ≠ (ad 270) → b ≠ (ad 260) → b ≠ (ad 261) → b ≠ (ad 262) → b ≠ (ad 263) → b ≠ (ad 264) → f3 b = f b) := fun b z0_ z1_ z2_ z3_ z4_ z5_ z6_ z7_ z8_ z9_ z10_ z11_ => (ho5 b z0_).trans (hfr b z0_ z1_ z2_ z3_ z4_ z5_ z6_ z7_ z8_ z9_ z10_ z11_)
  refine lv_aload_n hx hb dX11_weakest_5 rfl (lv_at hl 0 rfl) ?_
  refine pl_get (v := .int v23_1) hx hb hts (fun w h => mT (inX11 w h)) hown hG.1 hP (hst.1 255 (by decide)) hf4 rfl 23 (by decide) (hts _ (mT wg_1359)) (fun _ h => h) rfl dX11_weakest_6 ?_
  have hT := TI.updM hT hst (k := 0) (by decide) hf4 ho5 ⟨0, v2_1, v3_1, v4_1, v5_1, v6_1, v8_1, v9_1, v12_1, v13_1, v14_1, v15_1, v16_1, v17_1, v18_1, v19_1, v20_1, v21_1, v22_1, v23_1, v25_1, v36_1, v37_1, v38_1, v39_1, v40_1, v45_1, v46_1, v47_1, v48_1, v50_1, v51_1, v53_1, v55_1, rfl, (⟨by decide, by decide⟩ : In 0 0 1), hv2_1, hg2_1, hv3_1, hg3_1, hv4_1, hg4_1, hv5_1, hg5_1, hv6_1, hg6_1, hv8_1, hg8_1, hv9_1, hg9_1, hv12_1, hv13_1, hg13_1, hv14_1, hg14_1, hv15_1, hg15_1, hv17_1, hg17_1, hv20_1, hg20_1, hv23_1, hg23_1, hv25_1, hg25_1, hv36_1, hg36_1, hv47_1, hg47_1, hv48_1, hg48_1, hv53_1, hg53_1, hv55_1, hg55_1, hrel0_1⟩
  refine lv_if_ne (tgt := 15) hx hb dX11_weakest_9 (by decide) (fun c6 => ?_) (fun c6 => ?_)
  ·
    have oc0 : (0 : Int32).toInt = 0 := by decide
    have cc7 : v23_1.toInt ≠ (0 : Int32).toInt := i32_ne c6
    have hb8 : In v23_1 1 1 := In.ne1 hv23_1 (⟨by decide, by decide⟩ : In 0 0 0) cc7 (by omega) (by omega)
    refine lv_aload_n hx hb dX11_weakest_15 rfl (lv_at hl 0 rfl) ?_
    refine call_v (run_V (rm := rm_X11_takesUp) hx hb hml hown hts (s_X11_takesUp l g ad th _ _ _  hst hT (show (th 22) = 2126 from (by have ob10 : (0 : Int) ≤ (th 10) ∧ (th 10) ≤ 1 := (b0_10 hT :); have ob11 : (0 : Int) ≤ (th 11) ∧ (th 11) ≤ 9 := (b0_11 hT :); have ob12 : (0 : Int) ≤ (th 12) ∧ (th 12) ≤ 6 := (b0_12 hT :); have ob14 : (0 : Int) ≤ (th 14) ∧ (th 14) ≤ 511 := (b0_14 hT :); have ob15 : (0 : Int) ≤ (th 15) ∧ (th 15) ≤ 1 := (b0_15 hT :); have ob16 : (0 : Int) ≤ (th 16) ∧ (th 16) ≤ 20 := (b0_16 hT :); have ob17 : (0 : Int) ≤ (th 17) ∧ (th 17) ≤ 1 := (b0_17 hT :); have ob18 : (0 : Int) ≤ (th 18) ∧ (th 18) ≤ 18 := (b0_18 hT :); have ob38 : (0 : Int) ≤ (th 38) ∧ (th 38) ≤ 400 := (b0_38 hT :); have ob39 : (0 : Int) ≤ (th 39) ∧ (th 39) ≤ 200 := (b0_39 hT :); have ob44 : (0 : Int) ≤ (th 44) ∧ (th 44) ≤ 30 := (b0_44 hT :); obtain ⟨o0a, o0b⟩ := (hv14_1 : In _ _ _); obtain ⟨o1a, o1b⟩ := (hv15_1 : In _ _ _); obtain ⟨o2a, o2b⟩ := (hv17_1 : In _ _ _); obtain ⟨o3a, o3b⟩ := (hv20_1 : In _ _ _); obtain ⟨o4a, o4b⟩ := (hb8 : In _ _ _); obtain ⟨o5a, o5b⟩ := (hv25_1 : In _ _ _); obtain ⟨o6a, o6b⟩ := (hv36_1 : In _ _ _); obtain ⟨o7a, o7b⟩ := (hv47_1 : In _ _ _); obtain ⟨o8a, o8b⟩ := (hv48_1 : In _ _ _); obtain ⟨o9a, o9b⟩ := (hv53_1 : In _ _ _); obtain ⟨o10a, o10b⟩ := (hv55_1 : In _ _ _); omega)) (show (th 20) ≤ 18 from (by have ob10 : (0 : Int) ≤ (th 10) ∧ (th 10) ≤ 1 := (b0_10 hT :); have ob11 : (0 : Int) ≤ (th 11) ∧ (th 11) ≤ 9 := (b0_11 hT :); have ob12 : (0 : Int) ≤ (th 12) ∧ (th 12) ≤ 6 := (b0_12 hT :); have ob14 : (0 : Int) ≤ (th 14) ∧ (th 14) ≤ 511 := (b0_14 hT :); have ob15 : (0 : Int) ≤ (th 15) ∧ (th 15) ≤ 1 := (b0_15 hT :); have ob16 : (0 : Int) ≤ (th 16) ∧ (th 16) ≤ 20 := (b0_16 hT :); have ob17 : (0 : Int) ≤ (th 17) ∧ (th 17) ≤ 1 := (b0_17 hT :); have ob18 : (0 : Int) ≤ (th 18) ∧ (th 18) ≤ 18 := (b0_18 hT :); have ob38 : (0 : Int) ≤ (th 38) ∧ (th 38) ≤ 400 := (b0_38 hT :); have ob39 : (0 : Int) ≤ (th 39) ∧ (th 39) ≤ 200 := (b0_39 hT :); have ob44 : (0 : Int) ≤ (th 44) ∧ (th 44) ≤ 30 := (b0_44 hT :); obtain ⟨o0a, o0b⟩ := (hv14_1 : In _ _ _); obtain ⟨o1a, o1b⟩ := (hv15_1 : In _ _ _); obtain ⟨o2a, o2b⟩ := (hv17_1 : In _ _ _); obtain ⟨o3a, o3b⟩ := (hv20_1 : In _ _ _); obtain ⟨o4a, o4b⟩ := (hb8 : In _ _ _); obtain ⟨o5a, o5b⟩ := (hv25_1 : In _ _ _); obtain ⟨o6a, o6b⟩ := (hv36_1 : In _ _ _); obtain ⟨o7a, o7b⟩ := (hv47_1 : In _ _ _); obtain ⟨o8a, o8b⟩ := (hv48_1 : In _ _ _); obtain ⟨o9a, o9b⟩ := (hv53_1 : In _ _ _); obtain ⟨o10a, o10b⟩ := (hv55_1 : In _ _ _); omega)) (show (th 21) = (th 11) from (by have ob10 : (0 : Int) ≤ (th 10) ∧ (th 10) ≤ 1 := (b0_10 hT :); have ob11 : (0 : Int) ≤ (th 11) ∧ (th 11) ≤ 9 := (b0_11 hT :); have ob12 : (0 : Int) ≤ (th 12) ∧ (th 12) ≤ 6 := (b0_12 hT :); have ob14 : (0 : Int) ≤ (th 14) ∧ (th 14) ≤ 511 := (b0_14 hT :); have ob15 : (0 : Int) ≤ (th 15) ∧ (th 15) ≤ 1 := (b0_15 hT :); have ob16 : (0 : Int) ≤ (th 16) ∧ (th 16) ≤ 20 := (b0_16 hT :); have ob17 : (0 : Int) ≤ (th 17) ∧ (th 17) ≤ 1 := (b0_17 hT :); have ob18 : (0 : Int) ≤ (th 18) ∧ (th 18) ≤ 18 := (b0_18 hT :); have ob38 : (0 : Int) ≤ (th 38) ∧ (th 38) ≤ 400 := (b0_38 hT :); have ob39 : (0 : Int) ≤ (th 39) ∧ (th 39) ≤ 200 := (b0_39 hT :); have ob44 : (0 : Int) ≤ (th 44) ∧ (th 44) ≤ 30 := (b0_44 hT :); obtain ⟨o0a, o0b⟩ := (hv14_1 : In _ _ _); obtain ⟨o1a, o1b⟩ := (hv15_1 : In _ _ _); obtain ⟨o2a, o2b⟩ := (hv17_1 : In _ _ _); obtain ⟨o3a, o3b⟩ := (hv20_1 : In _ _ _); obtain ⟨o4a, o4b⟩ := (hb8 : In _ _ _); obtain ⟨o5a, o5b⟩ := (hv25_1 : In _ _ _); obtain ⟨o6a, o6b⟩ := (hv36_1 : In _ _ _); obtain ⟨o7a, o7b⟩ := (hv47_1 : In _ _ _); obtain ⟨o8a, o8b⟩ := (hv48_1 : In _ _ _); obtain ⟨o9a, o9b⟩ := (hv53_1 : In _ _ _); obtain ⟨o10a, o10b⟩ := (hv55_1 : In _ _ _); omega))) cV_X11_takesUp wg_1648 ⟨Nat.le_of_ble_eq_true rfl, Nat.le_of_ble_eq_true rfl⟩ hG hE hA hP hD hS (hst.1 255 (by decide)) hf4 rfl rfl hl.1 (As := []) (rest := []) rfl (Nat.le_of_ble_eq_true rfl) dX11_weakest_16 ⟨Nat.le_of_ble_eq_true rfl, Nat.le_of_ble_eq_true rfl⟩) hA hD hS (fun L10 f11 H locs hp12 hP hD hS => ?_)
    obtain ⟨eL13L, eL13T, eL13F⟩ := hp12
    have eL13L : L10 = L := eL13L
    rw [eL13L] at hP hD
    obtain ⟨zz14, zz15, hzz14, eL13T⟩ := eL13T
    have hzz14 : ((zz14 = (th 19) ∧ 0 ≤ zz14 ∧ zz14 ≤ (th 20)) ∧ (0 ≤ zz15 ∧ zz15 ≤ 511)) ∧ capI zz15 ((th 11)) := hzz14
    have hT : TI g ad (gset (gset th 18 zz14) 14 zz15) f11 := eL13T
    have eL13F : ∀ b, b ≠ (ad 255) → b ≠ (ad 265) → b ≠ (ad 266) → b ≠ (ad 267) → b ≠ (ad 269) → b ≠ (ad 260) → b ≠ (ad 261) → b ≠ (ad 262) → b ≠ (ad 263) → b ≠ (ad 264) → f11 b = f3 b := eL13F
    have hfr : (∀ b, b ≠ (ad 255) → b ≠ (ad 265) → b ≠ (ad 266) → b ≠ (ad 267) → b ≠ (ad 268) → b ≠ (ad 269) → b ≠ (ad 270) → b ≠ (ad 260) → b ≠ (ad 261) → b ≠ (ad 262) → b ≠ (ad 263) → b ≠ (ad 264) → f11 b = f b) := fun b z0_ z1_ z2_ z3_ z4_ z5_ z6_ z7_ z8_ z9_ z10_ z11_ => (eL13F b z0_ z1_ z2_ z3_ z5_ z7_ z8_ z9_ z10_ z11_).trans (hfr b z0_ z1_ z2_ z3_ z4_ z5_ z6_ z7_ z8_ z9_ z10_ z11_)
    have hcapw := hzz14.2
    have hcapz := hzz14.1
    refine lv_aload_n hx hb dX11_weakest_19 rfl (lv_at hl 0 rfl) ?_
    refine M0e hT (fun v0_16 v2_16 v3_16 v4_16 v5_16 v6_16 v8_16 v9_16 v12_16 v13_16 v14_16 v15_16 v16_16 v17_16 v18_16 v19_16 v20_16 v21_16 v22_16 v23_16 v25_16 v36_16 v37_16 v38_16 v39_16 v40_16 v45_16 v46_16 v47_16 v48_16 v50_16 v51_16 v53_16 v55_16 hf17 hv0_16 hv2_16 hg2_16 hv3_16 hg3_16 hv4_16 hg4_16 hv5_16 hg5_16 hv6_16 hg6_16 hv8_16 hg8_16 hv9_16 hg9_16 hv12_16 hv13_16 hg13_16 hv14_16 hg14_16 hv15_16 hg15_16 hv17_16 hg17_16 hv20_16 hg20_16 hv23_16 hg23_16 hv25_16 hg25_16 hv36_16 hg36_16 hv47_16 hg47_16 hv48_16 hg48_16 hv53_16 hg53_16 hv55_16 hg55_16 hrel0_16 => ?_)
    have hg2_16 : v2_16.toInt = th 13 := hg2_16
    have hg3_16 : v3_16.toInt = th 37 := hg3_16
    have hg4_16 : v4_16.toInt = th 42 := hg4_16
    have hg5_16 : v5_16.toInt = th 40 := hg5_16
    have hg6_16 : v6_16.toInt = th 41 := hg6_16
    have hg8_16 : v8_16.toInt = th 43 := hg8_16
    have hg9_16 : v9_16.toInt = th 35 := hg9_16
    have hg13_16 : v13_16.toInt = th 36 := hg13_16
    have hg14_16 : v14_16.toInt = th 10 := hg14_16
    have hg15_16 : v15_16.toInt = th 11 := hg15_16
    have hg17_16 : v17_16.toInt = th 12 := hg17_16
    have hg20_16 : v20_16.toInt = zz15 := hg20_16
    have hg23_16 : v23_16.toInt = th 15 := hg23_16
    have hg25_16 : v25_16.toInt = th 44 := hg25_16
    have hg36_16 : v36_16.toInt = zz14 := hg36_16
    have hg47_16 : v47_16.toInt = th 16 := hg47_16
    have hg48_16 : v48_16.toInt = th 17 := hg48_16
    have hg53_16 : v53_16.toInt = th 38 := hg53_16
    have hg55_16 : v55_16.toInt = th 39 := hg55_16
    refine pl_get (v := .int v20_16) hx hb hts (fun w h => mT (inX11 w h)) hown hG.1 hP (hst.1 255 (by decide)) hf17 rfl 20 (by decide) (hts _ (mT wg_1356)) (fun _ h => h) rfl dX11_weakest_20 ?_
    refine lv_istore_n (lv' := [(1, .int v20_16), (0, .ref (ad 255))]) hx hb dX11_weakest_23 rfl hl (by decide) rfl (fun ls hl => ?_)
    refine lv_iconst (v := 0) hx hb dX11_weakest_24 (by decide) ?_
    refine lv_istore_n (lv' := [(2, .int 0), (1, .int v20_16), (0, .ref (ad 255))]) hx hb dX11_weakest_25 rfl hl (by decide) rfl (fun ls hl => ?_)
    have hJ26 : ∀ (k26 : Nat) (zg26_zl : Int) (zg26_zg : Int) (y26_l2 : Int32) (f_26 : HP) (H : Heap) (locs : List Loc) (ls : Array Slot), In y26_l2 0 9 → va_P g.1 vwCl (va_pl L f_26) H → va_D A (va_pl L f_26) → va_S A s.heap H locs → TI g ad (gset (gset th 14 zg26_zl) 18 zg26_zg) f_26 → (∀ b, b ≠ (ad 255) → b ≠ (ad 265) → b ≠ (ad 266) → b ≠ (ad 267) → b ≠ (ad 268) → b ≠ (ad 269) → b ≠ (ad 270) → b ≠ (ad 260) → b ≠ (ad 261) → b ≠ (ad 262) → b ≠ (ad 263) → b ≠ (ad 264) → f_26 b = f b) → lv_has ls 3 [(0, .ref (ad 255)), (1, .int v20_16), (2, .int y26_l2)] → 9 - y26_l2.toInt < ((k26 : Nat) : Int) → W p l e rm_X11_weakest s m [.ref (ad 255)].toArray below meth c H locs 0 0 (MQ below (va_Qi (po_X11_weakest g ad th L f ) (PstB g A) A) [.ref (ad 255)].toArray s rm_X11_weakest.cells rm_X11_weakest.slots A) (F0 m 26 ls []) := by
      intro k26
      induction k26 with
      | zero =>
        intro zg26_zl zg26_zg y26_l2 f_26 H locs ls hy26_l2 hP hD hS hT hfr hl hmz26
        exact ms0 hy26_l2 hmz26
      | succ k26 ih26 =>
        intro zg26_zl zg26_zg y26_l2 f_26 H locs ls hy26_l2 hP hD hS hT hfr hl hmz26
        refine lv_iload_n hx hb dX11_weakest_26 rfl (lv_at hl 2 rfl) ?_
        refine lv_aload_n hx hb dX11_weakest_27 rfl (lv_at hl 0 rfl) ?_
        refine M0e hT (fun v0_18 v2_18 v3_18 v4_18 v5_18 v6_18 v8_18 v9_18 v12_18 v13_18 v14_18 v15_18 v16_18 v17_18 v18_18 v19_18 v20_18 v21_18 v22_18 v23_18 v25_18 v36_18 v37_18 v38_18 v39_18 v40_18 v45_18 v46_18 v47_18 v48_18 v50_18 v51_18 v53_18 v55_18 hf19 hv0_18 hv2_18 hg2_18 hv3_18 hg3_18 hv4_18 hg4_18 hv5_18 hg5_18 hv6_18 hg6_18 hv8_18 hg8_18 hv9_18 hg9_18 hv12_18 hv13_18 hg13_18 hv14_18 hg14_18 hv15_18 hg15_18 hv17_18 hg17_18 hv20_18 hg20_18 hv23_18 hg23_18 hv25_18 hg25_18 hv36_18 hg36_18 hv47_18 hg47_18 hv48_18 hg48_18 hv53_18 hg53_18 hv55_18 hg55_18 hrel0_18 => ?_)
        have hg2_18 : v2_18.toInt = th 13 := hg2_18
        have hg3_18 : v3_18.toInt = th 37 := hg3_18
        have hg4_18 : v4_18.toInt = th 42 := hg4_18
        have hg5_18 : v5_18.toInt = th 40 := hg5_18
        have hg6_18 : v6_18.toInt = th 41 := hg6_18
        have hg8_18 : v8_18.toInt = th 43 := hg8_18
        have hg9_18 : v9_18.toInt = th 35 := hg9_18
        have hg13_18 : v13_18.toInt = th 36 := hg13_18
        have hg14_18 : v14_18.toInt = th 10 := hg14_18
        have hg15_18 : v15_18.toInt = th 11 := hg15_18
        have hg17_18 : v17_18.toInt = th 12 := hg17_18
        have hg20_18 : v20_18.toInt = zg26_zl := hg20_18
        have hg23_18 : v23_18.toInt = th 15 := hg23_18
        have hg25_18 : v25_18.toInt = th 44 := hg25_18
        have hg36_18 : v36_18.toInt = zg26_zg := hg36_18
        have hg47_18 : v47_18.toInt = th 16 := hg47_18
        have hg48_18 : v48_18.toInt = th 17 := hg48_18
        have hg53_18 : v53_18.toInt = th 38 := hg53_18
        have hg55_18 : v55_18.toInt = th 39 := hg55_18
        refine pl_get (v := .int v15_18) hx hb hts (fun w h => mT (inX11 w h)) hown hG.1 hP (hst.1 255 (by decide)) hf19 rfl 15 (by decide) (hts _ (mT wg_1351)) (fun _ h => h) rfl dX11_weakest_28 ?_
        refine lv_icmp_ge (tgt := 92) hx hb dX11_weakest_31 (by decide) (fun c20 => ?_) (fun c20 => ?_)
        ·
          have cc21 : v15_18.toInt ≤ y26_l2.toInt := i32_le.mp c20
          refine lv_iconst (v := 0) hx hb dX11_weakest_92 (by decide) ?_
          refine lv_istore_n (lv' := [(2, .int 0), (0, .ref (ad 255)), (1, .int v20_16)]) hx hb dX11_weakest_93 rfl hl (by decide) rfl (fun ls hl => ?_)
          have hJ94 : ∀ (k94 : Nat) (zg94_zl : Int) (zg94_zg : Int) (y94_l2 : Int32) (f_94 : HP) (H : Heap) (locs : List Loc) (ls : Array Slot), In y94_l2 0 9 → va_P g.1 vwCl (va_pl L f_94) H → va_D A (va_pl L f_94) → va_S A s.heap H locs → TI g ad (gset (gset th 14 zg94_zl) 18 zg94_zg) f_94 → (∀ b, b ≠ (ad 255) → b ≠ (ad 265) → b ≠ (ad 266) → b ≠ (ad 267) → b ≠ (ad 268) → b ≠ (ad 269) → b ≠ (ad 270) → b ≠ (ad 260) → b ≠ (ad 261) → b ≠ (ad 262) → b ≠ (ad 263) → b ≠ (ad 264) → f_94 b = f b) → lv_has ls 3 [(0, .ref (ad 255)), (1, .int v20_16), (2, .int y94_l2)] → 9 - y94_l2.toInt < ((k94 : Nat) : Int) → W p l e rm_X11_weakest s m [.ref (ad 255)].toArray below meth c H locs 0 0 (MQ below (va_Qi (po_X11_weakest g ad th L f ) (PstB g A) A) [.ref (ad 255)].toArray s rm_X11_weakest.cells rm_X11_weakest.slots A) (F0 m 94 ls []) := by
            intro k94
            induction k94 with
            | zero =>
              intro zg94_zl zg94_zg y94_l2 f_94 H locs ls hy94_l2 hP hD hS hT hfr hl hmz94
              exact ms0 hy94_l2 hmz94
            | succ k94 ih94 =>
              intro zg94_zl zg94_zg y94_l2 f_94 H locs ls hy94_l2 hP hD hS hT hfr hl hmz94
              refine lv_iload_n hx hb dX11_weakest_94 rfl (lv_at hl 2 rfl) ?_
              refine lv_aload_n hx hb dX11_weakest_95 rfl (lv_at hl 0 rfl) ?_
              refine M0e hT (fun v0_22 v2_22 v3_22 v4_22 v5_22 v6_22 v8_22 v9_22 v12_22 v13_22 v14_22 v15_22 v16_22 v17_22 v18_22 v19_22 v20_22 v21_22 v22_22 v23_22 v25_22 v36_22 v37_22 v38_22 v39_22 v40_22 v45_22 v46_22 v47_22 v48_22 v50_22 v51_22 v53_22 v55_22 hf23 hv0_22 hv2_22 hg2_22 hv3_22 hg3_22 hv4_22 hg4_22 hv5_22 hg5_22 hv6_22 hg6_22 hv8_22 hg8_22 hv9_22 hg9_22 hv12_22 hv13_22 hg13_22 hv14_22 hg14_22 hv15_22 hg15_22 hv17_22 hg17_22 hv20_22 hg20_22 hv23_22 hg23_22 hv25_22 hg25_22 hv36_22 hg36_22 hv47_22 hg47_22 hv48_22 hg48_22 hv53_22 hg53_22 hv55_22 hg55_22 hrel0_22 => ?_)
              have hg2_22 : v2_22.toInt = th 13 := hg2_22
              have hg3_22 : v3_22.toInt = th 37 := hg3_22
              have hg4_22 : v4_22.toInt = th 42 := hg4_22
              have hg5_22 : v5_22.toInt = th 40 := hg5_22
              have hg6_22 : v6_22.toInt = th 41 := hg6_22
              have hg8_22 : v8_22.toInt = th 43 := hg8_22
              have hg9_22 : v9_22.toInt = th 35 := hg9_22
              have hg13_22 : v13_22.toInt = th 36 := hg13_22
              have hg14_22 : v14_22.toInt = th 10 := hg14_22
              have hg15_22 : v15_22.toInt = th 11 := hg15_22
              have hg17_22 : v17_22.toInt = th 12 := hg17_22
              have hg20_22 : v20_22.toInt = zg94_zl := hg20_22
              have hg23_22 : v23_22.toInt = th 15 := hg23_22
              have hg25_22 : v25_22.toInt = th 44 := hg25_22
              have hg36_22 : v36_22.toInt = zg94_zg := hg36_22
              have hg47_22 : v47_22.toInt = th 16 := hg47_22
              have hg48_22 : v48_22.toInt = th 17 := hg48_22
              have hg53_22 : v53_22.toInt = th 38 := hg53_22
              have hg55_22 : v55_22.toInt = th 39 := hg55_22
              refine pl_get (v := .int v15_22) hx hb hts (fun w h => mT (inX11 w h)) hown hG.1 hP (hst.1 255 (by decide)) hf23 rfl 15 (by decide) (hts _ (mT wg_1351)) (fun _ h => h) rfl dX11_weakest_96 ?_
              refine lv_icmp_ge (tgt := 154) hx hb dX11_weakest_99 (by decide) (fun c24 => ?_) (fun c24 => ?_)
              ·
                have cc25 : v15_22.toInt ≤ y94_l2.toInt := i32_le.mp c24
                refine lv_iconst (v := (-1)) hx hb dX11_weakest_154 (by decide) ?_
                exact ret_i (ty := .int) hx hb hr hlocks (rfl) hP hD hS (Nat.le_of_ble_eq_true rfl) (Nat.le_of_ble_eq_true rfl) (⟨rfl, ⟨(gset (gset th 14 zg94_zl) 18 zg94_zg), ⟨(show MI (gset (gset th 14 zg94_zl) 18 zg94_zg) from ⟨m1, m2, (show th 20 = (th 12) * rnd (th 10) from m3), m4, m5, m6, m7, m8, m9, m10⟩), (SBM.set (k := 18) (SBM.set (k := 14) (SBM.rf th) (by decide)) (by decide))⟩, hT⟩, hfr⟩) dX11_weakest_155
              ·
                have cc26 : y94_l2.toInt < v15_22.toInt := i32_nle c24
                have hb27 : In y94_l2 0 8 := In.lt1 hy94_l2 hv15_22 cc26 (by omega) (by omega)
                have hb28 : In v15_22 1 9 := In.lt2 hy94_l2 hv15_22 cc26 (by omega) (by omega)
                refine lv_iload_n hx hb dX11_weakest_102 rfl (lv_at hl 1 rfl) ?_
                refine lv_iload_n hx hb dX11_weakest_103 rfl (lv_at hl 2 rfl) ?_
                refine call_i (run_S (rm := rm_X11_has) hx hb hml hown hts (s_X11_has l g ad (gset (gset th 14 zg94_zl) 18 zg94_zg) _ _ _ v20_16 y94_l2 hst hT ) cS_X11_has wg_1563 ⟨Nat.le_of_ble_eq_true rfl, Nat.le_of_ble_eq_true rfl⟩ hG hE hA hP hD hS rfl hl.1 (As := [.int v20_16, .int y94_l2]) (rest := []) rfl (Nat.le_of_ble_eq_true rfl) dX11_weakest_104 ⟨Nat.le_of_ble_eq_true rfl, Nat.le_of_ble_eq_true rfl⟩) hA hD hS (fun r29 L30 f31 H locs hp32 hP hD hS => ?_)
                obtain ⟨eL33L, eL33T, eL33R, eL33X0⟩ := hp32
                have eL33L : L30 = L := eL33L
                have eL33T : f31 = f_94 := eL33T
                rw [eL33L, eL33T] at hP hD
                have eL33R : In r29 0 1 := eL33R
                have hbt34 : r29.toInt = bitI zz15 y94_l2.toInt := (eL33X0 (Int.le_trans (by decide) hv20_16.1) (In.mono hb27 (by decide) (by decide))).trans (by rw [hg20_16])
                have hJ148 : ∀ (zg148_zl : Int) (zg148_zg : Int) (f_148 : HP) (H : Heap) (locs : List Loc) (ls : Array Slot), va_P g.1 vwCl (va_pl L f_148) H → va_D A (va_pl L f_148) → va_S A s.heap H locs → TI g ad (gset (gset th 14 zg148_zl) 18 zg148_zg) f_148 → (∀ b, b ≠ (ad 255) → b ≠ (ad 265) → b ≠ (ad 266) → b ≠ (ad 267) → b ≠ (ad 268) → b ≠ (ad 269) → b ≠ (ad 270) → b ≠ (ad 260) → b ≠ (ad 261) → b ≠ (ad 262) → b ≠ (ad 263) → b ≠ (ad 264) → f_148 b = f b) → lv_has ls 3 [(0, .ref (ad 255)), (1, .int v20_16), (2, .int y94_l2)] → W p l e rm_X11_weakest s m [.ref (ad 255)].toArray below meth c H locs 0 0 (MQ below (va_Qi (po_X11_weakest g ad th L f ) (PstB g A) A) [.ref (ad 255)].toArray s rm_X11_weakest.cells rm_X11_weakest.slots A) (F0 m 148 ls []) := by
                  intro zg148_zl zg148_zg f_148 H locs ls hP hD hS hT hfr hl
                  obtain ⟨x35, ex35⟩ : ∃ y : Int32, y = y94_l2 + 1 := ⟨_, rfl⟩
                  have hb36 : In x35 1 9 := ex35 ▸ In.add hb27 (⟨by decide, by decide⟩ : In 1 1 1) (by decide) (by decide) (by decide) (by decide)
                  have et37 : x35.toInt = y94_l2.toInt + 1 := In.adde ex35 hb27 (k := 1) (by decide) (by decide) (by decide)
                  refine lv_iinc (v := x35) (lv' := [(2, .int x35), (0, .ref (ad 255)), (1, .int v20_16)]) hx hb dX11_weakest_148 hl (k := 2) rfl (by rw [ex35]; rfl) (by decide) rfl (fun ls hl => ?_)
                  refine lv_goto (tgt := 94) hx hb dX11_weakest_151 (by decide) ?_
                  exact ih94 zg148_zl zg148_zg x35 _ _ _ _ (In.mono hb36 (by decide) (by decide)) hP hD hS (TI.cast hT (by funext q; by_cases hq0 : q = 18; (subst hq0; rfl); by_cases hq1 : q = 14; (subst hq1; rfl); simp only [gset, if_neg hq0, if_neg hq1])) hfr (lv_sub hl [1, 2, 0] rfl) (msu et37 (by decide) hmz94)
                refine lv_if_ne (tgt := 148) hx hb dX11_weakest_107 (by decide) (fun c38 => ?_) (fun c38 => ?_)
                ·
                  have oc0 : (0 : Int32).toInt = 0 := by decide
                  have cc39 : r29.toInt ≠ (0 : Int32).toInt := i32_ne c38
                  have hb40 : In r29 1 1 := In.ne1 eL33R (⟨by decide, by decide⟩ : In 0 0 0) cc39 (by omega) (by omega)
                  exact hJ148 zg94_zl zg94_zg _ _ _ _ hP hD hS (TI.cast hT (by funext q; by_cases hq0 : q = 18; (subst hq0; rfl); by_cases hq1 : q = 14; (subst hq1; rfl); simp only [gset, if_neg hq0, if_neg hq1])) hfr (lv_sub hl [0, 1, 2] rfl)
                ·
                  have oc0 : (0 : Int32).toInt = 0 := by decide
                  have cc41 : r29.toInt = (0 : Int32).toInt := congrArg Int32.toInt c38
                  have hb42 : In r29 0 0 := In.eq1 eL33R (⟨by decide, by decide⟩ : In 0 0 0) cc41 (by omega) (by omega)
                  refine lv_iload_n hx hb dX11_weakest_110 rfl (lv_at hl 1 rfl) ?_
                  refine lv_iconst (v := 1) hx hb dX11_weakest_111 (by decide) ?_
                  refine lv_iload_n hx hb dX11_weakest_112 rfl (lv_at hl 2 rfl) ?_
                  refine lv_ishl hx hb dX11_weakest_113 ?_
                  refine lv_topi (fun x43 ex43 => ?_)
                  have hb44 : In x43 1 256 := ex43 ▸ In.shl (⟨by decide, by decide⟩ : In 1 1 1) hb27 (by decide) (by decide) (by decide) (by decide) (by decide) (by decide)
                  refine lv_ior hx hb dX11_weakest_114 ?_
                  refine lv_topi (fun x45 ex45 => ?_)
                  have hb46 : In x45 0 511 := ex45 ▸ In.or 9 hv20_16 hb44 (by decide) (by decide) (by decide) (by decide) (by decide)
                  refine lv_iconst (v := 1) hx hb dX11_weakest_115 (by decide) ?_
                  refine lv_aload_n hx hb dX11_weakest_116 rfl (lv_at hl 0 rfl) ?_
                  refine pl_get (v := .int v15_22) hx hb hts (fun w h => mT (inX11 w h)) hown hG.1 hP (hst.1 255 (by decide)) hf23 rfl 15 (by decide) (hts _ (mT wg_1351)) (fun _ h => h) rfl dX11_weakest_117 ?_
                  refine lv_ishl hx hb dX11_weakest_120 ?_
                  refine lv_topi (fun x47 ex47 => ?_)
                  have hb48 : In x47 2 512 := ex47 ▸ In.shl (⟨by decide, by decide⟩ : In 1 1 1) hb28 (by decide) (by decide) (by decide) (by decide) (by decide) (by decide)
                  have hsh49 : x47.toInt = 2 ^ (th 11).toNat := by rw [(shl1 (d := 9) ex47 (In.mono hb28 (by decide) (by decide)) (by decide)).2, hg15_22]
                  refine lv_iconst (v := 1) hx hb dX11_weakest_121 (by decide) ?_
                  refine lv_isub hx hb dX11_weakest_122 ?_
                  refine lv_topi (fun x50 ex50 => ?_)
                  have hb51 : In x50 1 511 := ex50 ▸ In.sub hb48 (⟨by decide, by decide⟩ : In 1 1 1) (by decide) (by decide) (by decide) (by decide)
                  have et52 : x50.toInt = x47.toInt + (-1) := In.sube ex50 hb48 (k := 1) (by decide) (by decide) (by decide)
                  refine lv_icmp_ne (tgt := 129) hx hb dX11_weakest_123 (by decide) (fun c53 => ?_) (fun c53 => ?_)
                  ·
                    have cc54 : x45.toInt ≠ x50.toInt := i32_ne c53
                    refine lv_aload_n hx hb dX11_weakest_129 rfl (lv_at hl 0 rfl) ?_
                    refine lv_iload_n hx hb dX11_weakest_130 rfl (lv_at hl 1 rfl) ?_
                    refine lv_iconst (v := 1) hx hb dX11_weakest_131 (by decide) ?_
                    refine lv_iload_n hx hb dX11_weakest_132 rfl (lv_at hl 2 rfl) ?_
                    refine lv_ishl hx hb dX11_weakest_133 ?_
                    refine lv_topi (fun x55 ex55 => ?_)
                    obtain rfl : x43 = x55 := ex43.trans ex55.symm
                    refine lv_ior hx hb dX11_weakest_134 ?_
                    refine lv_topi (fun x56 ex56 => ?_)
                    obtain rfl : x45 = x56 := ex45.trans ex56.symm
                    have hwk57 := wk_or (n := th 11) ex43 ex45 hb27 (by omega) (by have ob10 : (0 : Int) ≤ (th 10) ∧ (th 10) ≤ 1 := (b0_10 hT :); have ob11 : (0 : Int) ≤ (th 11) ∧ (th 11) ≤ 9 := (b0_11 hT :); have ob12 : (0 : Int) ≤ (th 12) ∧ (th 12) ≤ 6 := (b0_12 hT :); have ob14 : (0 : Int) ≤ zg94_zl ∧ zg94_zl ≤ 511 := (b0_14 hT :); have ob15 : (0 : Int) ≤ (th 15) ∧ (th 15) ≤ 1 := (b0_15 hT :); have ob16 : (0 : Int) ≤ (th 16) ∧ (th 16) ≤ 20 := (b0_16 hT :); have ob17 : (0 : Int) ≤ (th 17) ∧ (th 17) ≤ 1 := (b0_17 hT :); have ob18 : (0 : Int) ≤ zg94_zg ∧ zg94_zg ≤ 18 := (b0_18 hT :); have ob38 : (0 : Int) ≤ (th 38) ∧ (th 38) ≤ 400 := (b0_38 hT :); have ob39 : (0 : Int) ≤ (th 39) ∧ (th 39) ≤ 200 := (b0_39 hT :); have ob44 : (0 : Int) ≤ (th 44) ∧ (th 44) ≤ 30 := (b0_44 hT :); obtain ⟨o0a, o0b⟩ := (hb27 : In _ _ _); obtain ⟨o1a, o1b⟩ := (hv14_22 : In _ _ _); obtain ⟨o2a, o2b⟩ := (hb28 : In _ _ _); obtain ⟨o3a, o3b⟩ := (hv17_22 : In _ _ _); obtain ⟨o4a, o4b⟩ := (hv20_22 : In _ _ _); obtain ⟨o5a, o5b⟩ := (hv23_22 : In _ _ _); obtain ⟨o6a, o6b⟩ := (hv25_22 : In _ _ _); obtain ⟨o7a, o7b⟩ := (hv36_22 : In _ _ _); obtain ⟨o8a, o8b⟩ := (hv47_22 : In _ _ _); obtain ⟨o9a, o9b⟩ := (hv48_22 : In _ _ _); obtain ⟨o10a, o10b⟩ := (hv53_22 : In _ _ _); obtain ⟨o11a, o11b⟩ := (hv55_22 : In _ _ _); omega) ⟨(Int.le_trans (by decide) hv20_16.1), hv20_16.2, by rw [hg20_16]; exact hcapw⟩ (by have ob10 : (0 : Int) ≤ (th 10) ∧ (th 10) ≤ 1 := (b0_10 hT :); have ob11 : (0 : Int) ≤ (th 11) ∧ (th 11) ≤ 9 := (b0_11 hT :); have ob12 : (0 : Int) ≤ (th 12) ∧ (th 12) ≤ 6 := (b0_12 hT :); have ob14 : (0 : Int) ≤ zg94_zl ∧ zg94_zl ≤ 511 := (b0_14 hT :); have ob15 : (0 : Int) ≤ (th 15) ∧ (th 15) ≤ 1 := (b0_15 hT :); have ob16 : (0 : Int) ≤ (th 16) ∧ (th 16) ≤ 20 := (b0_16 hT :); have ob17 : (0 : Int) ≤ (th 17) ∧ (th 17) ≤ 1 := (b0_17 hT :); have ob18 : (0 : Int) ≤ zg94_zg ∧ zg94_zg ≤ 18 := (b0_18 hT :); have ob38 : (0 : Int) ≤ (th 38) ∧ (th 38) ≤ 400 := (b0_38 hT :); have ob39 : (0 : Int) ≤ (th 39) ∧ (th 39) ≤ 200 := (b0_39 hT :); have ob44 : (0 : Int) ≤ (th 44) ∧ (th 44) ≤ 30 := (b0_44 hT :); obtain ⟨o0a, o0b⟩ := (hb46 : In _ _ _); obtain ⟨o1a, o1b⟩ := (hv14_22 : In _ _ _); obtain ⟨o2a, o2b⟩ := (hb28 : In _ _ _); obtain ⟨o3a, o3b⟩ := (hv17_22 : In _ _ _); obtain ⟨o4a, o4b⟩ := (hv20_22 : In _ _ _); obtain ⟨o5a, o5b⟩ := (hv23_22 : In _ _ _); obtain ⟨o6a, o6b⟩ := (hv25_22 : In _ _ _); obtain ⟨o7a, o7b⟩ := (hv36_22 : In _ _ _); obtain ⟨o8a, o8b⟩ := (hv47_22 : In _ _ _); obtain ⟨o9a, o9b⟩ := (hv48_22 : In _ _ _); obtain ⟨o10a, o10b⟩ := (hv53_22 : In _ _ _); obtain ⟨o11a, o11b⟩ := (hv55_22 : In _ _ _); obtain ⟨o12a, o12b⟩ := (hb51 : In _ _ _); obtain ⟨o13a, o13b⟩ := (hb27 : In _ _ _); obtain ⟨o14a, o14b⟩ := (hb48 : In _ _ _); omega)
                    have hb58 : In x45 0 510 := hwk57.1
                    refine pl_put (ty := .int) (v := .int x45) (fs' := [.int v0_22, .ref (ad 256), .int v2_22, .int v3_22, .int v4_22, .int v5_22, .int v6_22, .ref (ad 257), .int v8_22, .int v9_22, .ref (ad 258), .ref (ad 259), .int v12_22, .int v13_22, .int v14_22, .int v15_22, .int v16_22, .int v17_22, .int v18_22, .int v19_22, .int x45, .long v21_22, .long v22_22, .int v23_22, .ref (ad 260), .int v25_22, .ref (ad 261), .ref (ad 262), .ref (ad 263), .ref (ad 264), .ref (ad 265), .ref (ad 266), .ref (ad 267), .ref (ad 268), .ref (ad 269), .ref (ad 270), .int v36_22, .int v37_22, .int v38_22, .int v39_22, .int v40_22, .ref (ad 271), .ref (ad 272), .ref (ad 273), .ref (ad 274), .long v45_22, .long v46_22, .int v47_22, .int v48_22, .ref (ad 275), .int v50_22, .int v51_22, .ref (ad 276), .int v53_22, .ref (ad 277), .int v55_22]) hx hb hts (fun w h => mT (inX11 w h)) tyX11 tyX11_ok nmX11 hown hG.1 hP hD hS (hst.1 255 (by decide)) hf23 rfl 20 (by decide) (hts _ (mT wg_1356)) (fun _ h => h) rfl (by decide +kernel) (rfl) (rfl) (Nat.le_of_ble_eq_true rfl) rfl dX11_weakest_135 (fun H locs f59 hf60 ho61 hP hD hS => ?_)
                    have hfr : (∀ b, b ≠ (ad 255) → b ≠ (ad 265) → b ≠ (ad 266) → b ≠ (ad 267) → b ≠ (ad 268) → b ≠ (ad 269) → b ≠ (ad 270) → b ≠ (ad 260) → b ≠ (ad 261) → b ≠ (ad 262) → b ≠ (ad 263) → b ≠ (ad 264) → f59 b = f b) := fun b z0_ z1_ z2_ z3_ z4_ z5_ z6_ z7_ z8_ z9_ z10_ z11_ => (ho61 b z0_).trans (hfr b z0_ z1_ z2_ z3_ z4_ z5_ z6_ z7_ z8_ z9_ z10_ z11_)
                    refine lv_aload_n hx hb dX11_weakest_138 rfl (lv_at hl 0 rfl) ?_
                    have hT := TI.updMG (th' := (gset (gset (gset th 14 zg94_zl) 18 zg94_zg) 14 (x45.toInt))) hT hst (k := 0) (by decide) hf60 ho61 ⟨v0_22, v2_22, v3_22, v4_22, v5_22, v6_22, v8_22, v9_22, v12_22, v13_22, v14_22, v15_22, v16_22, v17_22, v18_22, v19_22, x45, v21_22, v22_22, v23_22, v25_22, v36_22, v37_22, v38_22, v39_22, v40_22, v45_22, v46_22, v47_22, v48_22, v50_22, v51_22, v53_22, v55_22, rfl, hv0_22, hv2_22, hg2_22, hv3_22, hg3_22, hv4_22, hg4_22, hv5_22, hg5_22, hv6_22, hg6_22, hv8_22, hg8_22, hv9_22, hg9_22, hv12_22, hv13_22, hg13_22, hv14_22, hg14_22, (In.mono hb28 (by decide) (by decide)), hg15_22, hv17_22, hg17_22, (In.mono hb58 (by decide) (by decide)), rfl, hv23_22, hg23_22, hv25_22, hg25_22, hv36_22, hg36_22, hv47_22, hg47_22, hv48_22, hg48_22, hv53_22, hg53_22, hv55_22, hg55_22, (by rw [hg15_22]; exact Or.inr hwk57.2)⟩ (fun q hq => ((gset_ne (fun e => hq (by subst e; decide))).trans rfl))
                    have hT : TI g ad (gset (gset th 18 zg94_zg) 14 x45.toInt) f59 := TI.cast hT (by funext q; by_cases hq0 : q = 14; (subst hq0; rfl); by_cases hq1 : q = 18; (subst hq1; rfl); simp only [gset, if_neg hq0, if_neg hq1])
                    refine M0e hT (fun v0_62 v2_62 v3_62 v4_62 v5_62 v6_62 v8_62 v9_62 v12_62 v13_62 v14_62 v15_62 v16_62 v17_62 v18_62 v19_62 v20_62 v21_62 v22_62 v23_62 v25_62 v36_62 v37_62 v38_62 v39_62 v40_62 v45_62 v46_62 v47_62 v48_62 v50_62 v51_62 v53_62 v55_62 hf63 hv0_62 hv2_62 hg2_62 hv3_62 hg3_62 hv4_62 hg4_62 hv5_62 hg5_62 hv6_62 hg6_62 hv8_62 hg8_62 hv9_62 hg9_62 hv12_62 hv13_62 hg13_62 hv14_62 hg14_62 hv15_62 hg15_62 hv17_62 hg17_62 hv20_62 hg20_62 hv23_62 hg23_62 hv25_62 hg25_62 hv36_62 hg36_62 hv47_62 hg47_62 hv48_62 hg48_62 hv53_62 hg53_62 hv55_62 hg55_62 hrel0_62 => ?_)
                    have hg2_62 : v2_62.toInt = th 13 := hg2_62
                    have hg3_62 : v3_62.toInt = th 37 := hg3_62
                    have hg4_62 : v4_62.toInt = th 42 := hg4_62
                    have hg5_62 : v5_62.toInt = th 40 := hg5_62
                    have hg6_62 : v6_62.toInt = th 41 := hg6_62
                    have hg8_62 : v8_62.toInt = th 43 := hg8_62
                    have hg9_62 : v9_62.toInt = th 35 := hg9_62
                    have hg13_62 : v13_62.toInt = th 36 := hg13_62
                    have hg14_62 : v14_62.toInt = th 10 := hg14_62
                    have hg15_62 : v15_62.toInt = th 11 := hg15_62
                    have hg17_62 : v17_62.toInt = th 12 := hg17_62
                    have hg20_62 : v20_62.toInt = x45.toInt := hg20_62
                    have hg23_62 : v23_62.toInt = th 15 := hg23_62
                    have hg25_62 : v25_62.toInt = th 44 := hg25_62
                    have hg36_62 : v36_62.toInt = zg94_zg := hg36_62
                    have hg47_62 : v47_62.toInt = th 16 := hg47_62
                    have hg48_62 : v48_62.toInt = th 17 := hg48_62
                    have hg53_62 : v53_62.toInt = th 38 := hg53_62
                    have hg55_62 : v55_62.toInt = th 39 := hg55_62
                    refine call_i (run_V (rm := rm_X11_leastBroken) hx hb hml hown hts (s_X11_leastBroken l g ad (gset (gset th 18 zg94_zg) 14 x45.toInt) _ _ _  hst hT (show 3 ≤ th 11 by omega)) cV_X11_leastBroken wg_1838 ⟨Nat.le_of_ble_eq_true rfl, Nat.le_of_ble_eq_true rfl⟩ hG hE hA hP hD hS (hst.1 255 (by decide)) hf63 rfl rfl hl.1 (As := []) (rest := []) rfl (Nat.le_of_ble_eq_true rfl) dX11_weakest_139 ⟨Nat.le_of_ble_eq_true rfl, Nat.le_of_ble_eq_true rfl⟩) hA hD hS (fun r64 L65 f66 H locs hp67 hP hD hS => ?_)
                    obtain ⟨eL68L, eL68T, eL68F⟩ := hp67
                    have eL68L : L65 = L := eL68L
                    rw [eL68L] at hP hD
                    obtain ⟨zz69, hzz69, eL68T⟩ := eL68T
                    have hzz69 : True := hzz69
                    have hT : TI g ad (gset (gset (gset th 18 zg94_zg) 14 x45.toInt) 18 zz69) f66 := eL68T
                    have hT : TI g ad (gset (gset th 14 x45.toInt) 18 zz69) f66 := TI.cast hT (by funext q; by_cases hq0 : q = 18; (subst hq0; rfl); by_cases hq1 : q = 14; (subst hq1; rfl); simp only [gset, if_neg hq0, if_neg hq1])
                    have eL68F : ∀ b, b ≠ (ad 255) → b ≠ (ad 265) → b ≠ (ad 266) → b ≠ (ad 267) → b ≠ (ad 268) → b ≠ (ad 269) → b ≠ (ad 270) → b ≠ (ad 261) → b ≠ (ad 262) → b ≠ (ad 263) → b ≠ (ad 264) → f66 b = f59 b := eL68F
                    have hfr : (∀ b, b ≠ (ad 255) → b ≠ (ad 265) → b ≠ (ad 266) → b ≠ (ad 267) → b ≠ (ad 268) → b ≠ (ad 269) → b ≠ (ad 270) → b ≠ (ad 260) → b ≠ (ad 261) → b ≠ (ad 262) → b ≠ (ad 263) → b ≠ (ad 264) → f66 b = f b) := fun b z0_ z1_ z2_ z3_ z4_ z5_ z6_ z7_ z8_ z9_ z10_ z11_ => (eL68F b z0_ z1_ z2_ z3_ z4_ z5_ z6_ z8_ z9_ z10_ z11_).trans (hfr b z0_ z1_ z2_ z3_ z4_ z5_ z6_ z7_ z8_ z9_ z10_ z11_)
                    refine lv_iconst (v := (-1)) hx hb dX11_weakest_142 (by decide) ?_
                    refine lv_icmp_eq (tgt := 148) hx hb dX11_weakest_143 (by decide) (fun c70 => ?_) (fun c70 => ?_)
                    ·
                      have ocm1 : ((-1) : Int32).toInt = (-1) := by decide
                      have cc71 : r64.toInt = ((-1) : Int32).toInt := congrArg Int32.toInt c70
                      have hb72 : In r64 (-1) (-1) := In.eq1 (In.full r64) (⟨by decide, by decide⟩ : In (-1) (-1) (-1)) cc71 (by omega) (by omega)
                      exact hJ148 x45.toInt zz69 _ _ _ _ hP hD hS (TI.cast hT (by funext q; by_cases hq0 : q = 18; (subst hq0; rfl); by_cases hq1 : q = 14; (subst hq1; rfl); simp only [gset, if_neg hq0, if_neg hq1])) hfr (lv_sub hl [0, 1, 2] rfl)
                    ·
                      have ocm1 : ((-1) : Int32).toInt = (-1) := by decide
                      have cc73 : r64.toInt ≠ ((-1) : Int32).toInt := i32_ne c70
                      refine lv_iload_n hx hb dX11_weakest_146 rfl (lv_at hl 2 rfl) ?_
                      exact ret_i (ty := .int) hx hb hr hlocks (rfl) hP hD hS (Nat.le_of_ble_eq_true rfl) (Nat.le_of_ble_eq_true rfl) (⟨rfl, ⟨(gset (gset th 14 x45.toInt) 18 zz69), ⟨(show MI (gset (gset th 14 x45.toInt) 18 zz69) from ⟨m1, m2, (show th 20 = (th 12) * rnd (th 10) from m3), m4, m5, m6, m7, m8, m9, m10⟩), (SBM.set (k := 18) (SBM.set (k := 14) (SBM.rf th) (by decide)) (by decide))⟩, hT⟩, hfr⟩) dX11_weakest_147
                  ·
                    have cc74 : x45.toInt = x50.toInt := congrArg Int32.toInt c53
                    have hb75 : In x45 1 511 := In.eq1 hb46 hb51 cc74 (by omega) (by omega)
                    refine lv_goto (tgt := 148) hx hb dX11_weakest_126 (by decide) ?_
                    exact hJ148 zg94_zl zg94_zg _ _ _ _ hP hD hS (TI.cast hT (by funext q; by_cases hq0 : q = 18; (subst hq0; rfl); by_cases hq1 : q = 14; (subst hq1; rfl); simp only [gset, if_neg hq0, if_neg hq1])) hfr (lv_sub hl [0, 1, 2] rfl)
          exact hJ94 ((9 - (0 : Int32).toInt).toNat + 1) zg26_zl zg26_zg 0 _ _ _ _ (⟨by decide, by decide⟩ : In 0 0 9) hP hD hS (TI.cast hT (by funext q; by_cases hq0 : q = 18; (subst hq0; rfl); by_cases hq1 : q = 14; (subst hq1; rfl); simp only [gset, if_neg hq0, if_neg hq1])) hfr (lv_sub hl [1, 2, 0] rfl) (msI _)
        ·
          have cc76 : y26_l2.toInt < v15_18.toInt := i32_nle c20
          have hb77 : In y26_l2 0 8 := In.lt1 hy26_l2 hv15_18 cc76 (by omega) (by omega)
          have hb78 : In v15_18 1 9 := In.lt2 hy26_l2 hv15_18 cc76 (by omega) (by omega)
          refine lv_iload_n hx hb dX11_weakest_34 rfl (lv_at hl 1 rfl) ?_
          refine lv_iload_n hx hb dX11_weakest_35 rfl (lv_at hl 2 rfl) ?_
          refine call_i (run_S (rm := rm_X11_has) hx hb hml hown hts (s_X11_has l g ad (gset (gset th 14 zg26_zl) 18 zg26_zg) _ _ _ v20_16 y26_l2 hst hT ) cS_X11_has wg_1563 ⟨Nat.le_of_ble_eq_true rfl, Nat.le_of_ble_eq_true rfl⟩ hG hE hA hP hD hS rfl hl.1 (As := [.int v20_16, .int y26_l2]) (rest := []) rfl (Nat.le_of_ble_eq_true rfl) dX11_weakest_36 ⟨Nat.le_of_ble_eq_true rfl, Nat.le_of_ble_eq_true rfl⟩) hA hD hS (fun r79 L80 f81 H locs hp82 hP hD hS => ?_)
          obtain ⟨eL83L, eL83T, eL83R, eL83X0⟩ := hp82
          have eL83L : L80 = L := eL83L
          have eL83T : f81 = f_26 := eL83T
          rw [eL83L, eL83T] at hP hD
          have eL83R : In r79 0 1 := eL83R
          have hbt84 : r79.toInt = bitI zz15 y26_l2.toInt := (eL83X0 (Int.le_trans (by decide) hv20_16.1) (In.mono hb77 (by decide) (by decide))).trans (by rw [hg20_16])
          have hJ86 : ∀ (zg86_zl : Int) (zg86_zg : Int) (f_86 : HP) (H : Heap) (locs : List Loc) (ls : Array Slot), va_P g.1 vwCl (va_pl L f_86) H → va_D A (va_pl L f_86) → va_S A s.heap H locs → TI g ad (gset (gset th 14 zg86_zl) 18 zg86_zg) f_86 → (∀ b, b ≠ (ad 255) → b ≠ (ad 265) → b ≠ (ad 266) → b ≠ (ad 267) → b ≠ (ad 268) → b ≠ (ad 269) → b ≠ (ad 270) → b ≠ (ad 260) → b ≠ (ad 261) → b ≠ (ad 262) → b ≠ (ad 263) → b ≠ (ad 264) → f_86 b = f b) → lv_has ls 3 [(0, .ref (ad 255)), (1, .int v20_16), (2, .int y26_l2)] → W p l e rm_X11_weakest s m [.ref (ad 255)].toArray below meth c H locs 0 0 (MQ below (va_Qi (po_X11_weakest g ad th L f ) (PstB g A) A) [.ref (ad 255)].toArray s rm_X11_weakest.cells rm_X11_weakest.slots A) (F0 m 86 ls []) := by
            intro zg86_zl zg86_zg f_86 H locs ls hP hD hS hT hfr hl
            obtain ⟨x85, ex85⟩ : ∃ y : Int32, y = y26_l2 + 1 := ⟨_, rfl⟩
            have hb86 : In x85 1 9 := ex85 ▸ In.add hb77 (⟨by decide, by decide⟩ : In 1 1 1) (by decide) (by decide) (by decide) (by decide)
            have et87 : x85.toInt = y26_l2.toInt + 1 := In.adde ex85 hb77 (k := 1) (by decide) (by decide) (by decide)
            refine lv_iinc (v := x85) (lv' := [(2, .int x85), (0, .ref (ad 255)), (1, .int v20_16)]) hx hb dX11_weakest_86 hl (k := 2) rfl (by rw [ex85]; rfl) (by decide) rfl (fun ls hl => ?_)
            refine lv_goto (tgt := 26) hx hb dX11_weakest_89 (by decide) ?_
            exact ih26 zg86_zl zg86_zg x85 _ _ _ _ (In.mono hb86 (by decide) (by decide)) hP hD hS (TI.cast hT (by funext q; by_cases hq0 : q = 18; (subst hq0; rfl); by_cases hq1 : q = 14; (subst hq1; rfl); simp only [gset, if_neg hq0, if_neg hq1])) hfr (lv_sub hl [1, 2, 0] rfl) (msu et87 (by decide) hmz26)
          refine lv_if_ne (tgt := 86) hx hb dX11_weakest_39 (by decide) (fun c88 => ?_) (fun c88 => ?_)
          ·
            have oc0 : (0 : Int32).toInt = 0 := by decide
            have cc89 : r79.toInt ≠ (0 : Int32).toInt := i32_ne c88
            have hb90 : In r79 1 1 := In.ne1 eL83R (⟨by decide, by decide⟩ : In 0 0 0) cc89 (by omega) (by omega)
            exact hJ86 zg26_zl zg26_zg _ _ _ _ hP hD hS (TI.cast hT (by funext q; by_cases hq0 : q = 18; (subst hq0; rfl); by_cases hq1 : q = 14; (subst hq1; rfl); simp only [gset, if_neg hq0, if_neg hq1])) hfr (lv_sub hl [0, 1, 2] rfl)
          ·
            have oc0 : (0 : Int32).toInt = 0 := by decide
            have cc91 : r79.toInt = (0 : Int32).toInt := congrArg Int32.toInt c88
            have hb92 : In r79 0 0 := In.eq1 eL83R (⟨by decide, by decide⟩ : In 0 0 0) cc91 (by omega) (by omega)
            refine lv_iload_n hx hb dX11_weakest_42 rfl (lv_at hl 1 rfl) ?_
            refine lv_iconst (v := 1) hx hb dX11_weakest_43 (by decide) ?_
            refine lv_iload_n hx hb dX11_weakest_44 rfl (lv_at hl 2 rfl) ?_
            refine lv_ishl hx hb dX11_weakest_45 ?_
            refine lv_topi (fun x93 ex93 => ?_)
            have hb94 : In x93 1 256 := ex93 ▸ In.shl (⟨by decide, by decide⟩ : In 1 1 1) hb77 (by decide) (by decide) (by decide) (by decide) (by decide) (by decide)
            refine lv_ior hx hb dX11_weakest_46 ?_
            refine lv_topi (fun x95 ex95 => ?_)
            have hb96 : In x95 0 511 := ex95 ▸ In.or 9 hv20_16 hb94 (by decide) (by decide) (by decide) (by decide) (by decide)
            refine lv_iconst (v := 1) hx hb dX11_weakest_47 (by decide) ?_
            refine lv_aload_n hx hb dX11_weakest_48 rfl (lv_at hl 0 rfl) ?_
            refine pl_get (v := .int v15_18) hx hb hts (fun w h => mT (inX11 w h)) hown hG.1 hP (hst.1 255 (by decide)) hf19 rfl 15 (by decide) (hts _ (mT wg_1351)) (fun _ h => h) rfl dX11_weakest_49 ?_
            refine lv_ishl hx hb dX11_weakest_52 ?_
            refine lv_topi (fun x97 ex97 => ?_)
            have hb98 : In x97 2 512 := ex97 ▸ In.shl (⟨by decide, by decide⟩ : In 1 1 1) hb78 (by decide) (by decide) (by decide) (by decide) (by decide) (by decide)
            have hsh99 : x97.toInt = 2 ^ (th 11).toNat := by rw [(shl1 (d := 9) ex97 (In.mono hb78 (by decide) (by decide)) (by decide)).2, hg15_18]
            refine lv_iconst (v := 1) hx hb dX11_weakest_53 (by decide) ?_
            refine lv_isub hx hb dX11_weakest_54 ?_
            refine lv_topi (fun x100 ex100 => ?_)
            have hb101 : In x100 1 511 := ex100 ▸ In.sub hb98 (⟨by decide, by decide⟩ : In 1 1 1) (by decide) (by decide) (by decide) (by decide)
            have et102 : x100.toInt = x97.toInt + (-1) := In.sube ex100 hb98 (k := 1) (by decide) (by decide) (by decide)
            refine lv_icmp_ne (tgt := 61) hx hb dX11_weakest_55 (by decide) (fun c103 => ?_) (fun c103 => ?_)
            ·
              have cc104 : x95.toInt ≠ x100.toInt := i32_ne c103
              refine lv_aload_n hx hb dX11_weakest_61 rfl (lv_at hl 0 rfl) ?_
              refine lv_iload_n hx hb dX11_weakest_62 rfl (lv_at hl 1 rfl) ?_
              refine lv_iconst (v := 1) hx hb dX11_weakest_63 (by decide) ?_
              refine lv_iload_n hx hb dX11_weakest_64 rfl (lv_at hl 2 rfl) ?_
              refine lv_ishl hx hb dX11_weakest_65 ?_
              refine lv_topi (fun x105 ex105 => ?_)
              obtain rfl : x93 = x105 := ex93.trans ex105.symm
              refine lv_ior hx hb dX11_weakest_66 ?_
              refine lv_topi (fun x106 ex106 => ?_)
              obtain rfl : x95 = x106 := ex95.trans ex106.symm
              have hwk107 := wk_or (n := th 11) ex93 ex95 hb77 (by omega) (by have ob10 : (0 : Int) ≤ (th 10) ∧ (th 10) ≤ 1 := (b0_10 hT :); have ob11 : (0 : Int) ≤ (th 11) ∧ (th 11) ≤ 9 := (b0_11 hT :); have ob12 : (0 : Int) ≤ (th 12) ∧ (th 12) ≤ 6 := (b0_12 hT :); have ob14 : (0 : Int) ≤ zg26_zl ∧ zg26_zl ≤ 511 := (b0_14 hT :); have ob15 : (0 : Int) ≤ (th 15) ∧ (th 15) ≤ 1 := (b0_15 hT :); have ob16 : (0 : Int) ≤ (th 16) ∧ (th 16) ≤ 20 := (b0_16 hT :); have ob17 : (0 : Int) ≤ (th 17) ∧ (th 17) ≤ 1 := (b0_17 hT :); have ob18 : (0 : Int) ≤ zg26_zg ∧ zg26_zg ≤ 18 := (b0_18 hT :); have ob38 : (0 : Int) ≤ (th 38) ∧ (th 38) ≤ 400 := (b0_38 hT :); have ob39 : (0 : Int) ≤ (th 39) ∧ (th 39) ≤ 200 := (b0_39 hT :); have ob44 : (0 : Int) ≤ (th 44) ∧ (th 44) ≤ 30 := (b0_44 hT :); obtain ⟨o0a, o0b⟩ := (hb77 : In _ _ _); obtain ⟨o1a, o1b⟩ := (hv14_18 : In _ _ _); obtain ⟨o2a, o2b⟩ := (hb78 : In _ _ _); obtain ⟨o3a, o3b⟩ := (hv17_18 : In _ _ _); obtain ⟨o4a, o4b⟩ := (hv20_18 : In _ _ _); obtain ⟨o5a, o5b⟩ := (hv23_18 : In _ _ _); obtain ⟨o6a, o6b⟩ := (hv25_18 : In _ _ _); obtain ⟨o7a, o7b⟩ := (hv36_18 : In _ _ _); obtain ⟨o8a, o8b⟩ := (hv47_18 : In _ _ _); obtain ⟨o9a, o9b⟩ := (hv48_18 : In _ _ _); obtain ⟨o10a, o10b⟩ := (hv53_18 : In _ _ _); obtain ⟨o11a, o11b⟩ := (hv55_18 : In _ _ _); omega) ⟨(Int.le_trans (by decide) hv20_16.1), hv20_16.2, by rw [hg20_16]; exact hcapw⟩ (by have ob10 : (0 : Int) ≤ (th 10) ∧ (th 10) ≤ 1 := (b0_10 hT :); have ob11 : (0 : Int) ≤ (th 11) ∧ (th 11) ≤ 9 := (b0_11 hT :); have ob12 : (0 : Int) ≤ (th 12) ∧ (th 12) ≤ 6 := (b0_12 hT :); have ob14 : (0 : Int) ≤ zg26_zl ∧ zg26_zl ≤ 511 := (b0_14 hT :); have ob15 : (0 : Int) ≤ (th 15) ∧ (th 15) ≤ 1 := (b0_15 hT :); have ob16 : (0 : Int) ≤ (th 16) ∧ (th 16) ≤ 20 := (b0_16 hT :); have ob17 : (0 : Int) ≤ (th 17) ∧ (th 17) ≤ 1 := (b0_17 hT :); have ob18 : (0 : Int) ≤ zg26_zg ∧ zg26_zg ≤ 18 := (b0_18 hT :); have ob38 : (0 : Int) ≤ (th 38) ∧ (th 38) ≤ 400 := (b0_38 hT :); have ob39 : (0 : Int) ≤ (th 39) ∧ (th 39) ≤ 200 := (b0_39 hT :); have ob44 : (0 : Int) ≤ (th 44) ∧ (th 44) ≤ 30 := (b0_44 hT :); obtain ⟨o0a, o0b⟩ := (hb96 : In _ _ _); obtain ⟨o1a, o1b⟩ := (hv14_18 : In _ _ _); obtain ⟨o2a, o2b⟩ := (hb78 : In _ _ _); obtain ⟨o3a, o3b⟩ := (hv17_18 : In _ _ _); obtain ⟨o4a, o4b⟩ := (hv20_18 : In _ _ _); obtain ⟨o5a, o5b⟩ := (hv23_18 : In _ _ _); obtain ⟨o6a, o6b⟩ := (hv25_18 : In _ _ _); obtain ⟨o7a, o7b⟩ := (hv36_18 : In _ _ _); obtain ⟨o8a, o8b⟩ := (hv47_18 : In _ _ _); obtain ⟨o9a, o9b⟩ := (hv48_18 : In _ _ _); obtain ⟨o10a, o10b⟩ := (hv53_18 : In _ _ _); obtain ⟨o11a, o11b⟩ := (hv55_18 : In _ _ _); obtain ⟨o12a, o12b⟩ := (hb101 : In _ _ _); obtain ⟨o13a, o13b⟩ := (hb77 : In _ _ _); obtain ⟨o14a, o14b⟩ := (hb98 : In _ _ _); omega)
              have hb108 : In x95 0 510 := hwk107.1
              refine pl_put (ty := .int) (v := .int x95) (fs' := [.int v0_18, .ref (ad 256), .int v2_18, .int v3_18, .int v4_18, .int v5_18, .int v6_18, .ref (ad 257), .int v8_18, .int v9_18, .ref (ad 258), .ref (ad 259), .int v12_18, .int v13_18, .int v14_18, .int v15_18, .int v16_18, .int v17_18, .int v18_18, .int v19_18, .int x95, .long v21_18, .long v22_18, .int v23_18, .ref (ad 260), .int v25_18, .ref (ad 261), .ref (ad 262), .ref (ad 263), .ref (ad 264), .ref (ad 265), .ref (ad 266), .ref (ad 267), .ref (ad 268), .ref (ad 269), .ref (ad 270), .int v36_18, .int v37_18, .int v38_18, .int v39_18, .int v40_18, .ref (ad 271), .ref (ad 272), .ref (ad 273), .ref (ad 274), .long v45_18, .long v46_18, .int v47_18, .int v48_18, .ref (ad 275), .int v50_18, .int v51_18, .ref (ad 276), .int v53_18, .ref (ad 277), .int v55_18]) hx hb hts (fun w h => mT (inX11 w h)) tyX11 tyX11_ok nmX11 hown hG.1 hP hD hS (hst.1 255 (by decide)) hf19 rfl 20 (by decide) (hts _ (mT wg_1356)) (fun _ h => h) rfl (by decide +kernel) (rfl) (rfl) (Nat.le_of_ble_eq_true rfl) rfl dX11_weakest_67 (fun H locs f109 hf110 ho111 hP hD hS => ?_)
              have hfr : (∀ b, b ≠ (ad 255) → b ≠ (ad 265) → b ≠ (ad 266) → b ≠ (ad 267) → b ≠ (ad 268) → b ≠ (ad 269) → b ≠ (ad 270) → b ≠ (ad 260) → b ≠ (ad 261) → b ≠ (ad 262) → b ≠ (ad 263) → b ≠ (ad 264) → f109 b = f b) := fun b z0_ z1_ z2_ z3_ z4_ z5_ z6_ z7_ z8_ z9_ z10_ z11_ => (ho111 b z0_).trans (hfr b z0_ z1_ z2_ z3_ z4_ z5_ z6_ z7_ z8_ z9_ z10_ z11_)
              refine lv_aload_n hx hb dX11_weakest_70 rfl (lv_at hl 0 rfl) ?_
              refine lv_aload_n hx hb dX11_weakest_71 rfl (lv_at hl 0 rfl) ?_
              refine pl_get (v := .int v17_18) hx hb hts (fun w h => mT (inX11 w h)) hown hG.1 hP (hst.1 255 (by decide)) hf110 rfl 17 (by decide) (hts _ (mT wg_1353)) (fun _ h => h) rfl dX11_weakest_72 ?_
              have hT := TI.updMG (th' := (gset (gset (gset th 14 zg26_zl) 18 zg26_zg) 14 (x95.toInt))) hT hst (k := 0) (by decide) hf110 ho111 ⟨v0_18, v2_18, v3_18, v4_18, v5_18, v6_18, v8_18, v9_18, v12_18, v13_18, v14_18, v15_18, v16_18, v17_18, v18_18, v19_18, x95, v21_18, v22_18, v23_18, v25_18, v36_18, v37_18, v38_18, v39_18, v40_18, v45_18, v46_18, v47_18, v48_18, v50_18, v51_18, v53_18, v55_18, rfl, hv0_18, hv2_18, hg2_18, hv3_18, hg3_18, hv4_18, hg4_18, hv5_18, hg5_18, hv6_18, hg6_18, hv8_18, hg8_18, hv9_18, hg9_18, hv12_18, hv13_18, hg13_18, hv14_18, hg14_18, (In.mono hb78 (by decide) (by decide)), hg15_18, hv17_18, hg17_18, (In.mono hb108 (by decide) (by decide)), rfl, hv23_18, hg23_18, hv25_18, hg25_18, hv36_18, hg36_18, hv47_18, hg47_18, hv48_18, hg48_18, hv53_18, hg53_18, hv55_18, hg55_18, (by rw [hg15_18]; exact Or.inr hwk107.2)⟩ (fun q hq => ((gset_ne (fun e => hq (by subst e; decide))).trans rfl))
              have hT : TI g ad (gset (gset th 18 zg26_zg) 14 x95.toInt) f109 := TI.cast hT (by funext q; by_cases hq0 : q = 14; (subst hq0; rfl); by_cases hq1 : q = 18; (subst hq1; rfl); simp only [gset, if_neg hq0, if_neg hq1])
              refine M0e hT (fun v0_112 v2_112 v3_112 v4_112 v5_112 v6_112 v8_112 v9_112 v12_112 v13_112 v14_112 v15_112 v16_112 v17_112 v18_112 v19_112 v20_112 v21_112 v22_112 v23_112 v25_112 v36_112 v37_112 v38_112 v39_112 v40_112 v45_112 v46_112 v47_112 v48_112 v50_112 v51_112 v53_112 v55_112 hf113 hv0_112 hv2_112 hg2_112 hv3_112 hg3_112 hv4_112 hg4_112 hv5_112 hg5_112 hv6_112 hg6_112 hv8_112 hg8_112 hv9_112 hg9_112 hv12_112 hv13_112 hg13_112 hv14_112 hg14_112 hv15_112 hg15_112 hv17_112 hg17_112 hv20_112 hg20_112 hv23_112 hg23_112 hv25_112 hg25_112 hv36_112 hg36_112 hv47_112 hg47_112 hv48_112 hg48_112 hv53_112 hg53_112 hv55_112 hg55_112 hrel0_112 => ?_)
              have hg2_112 : v2_112.toInt = th 13 := hg2_112
              have hg3_112 : v3_112.toInt = th 37 := hg3_112
              have hg4_112 : v4_112.toInt = th 42 := hg4_112
              have hg5_112 : v5_112.toInt = th 40 := hg5_112
              have hg6_112 : v6_112.toInt = th 41 := hg6_112
              have hg8_112 : v8_112.toInt = th 43 := hg8_112
              have hg9_112 : v9_112.toInt = th 35 := hg9_112
              have hg13_112 : v13_112.toInt = th 36 := hg13_112
              have hg14_112 : v14_112.toInt = th 10 := hg14_112
              have hg15_112 : v15_112.toInt = th 11 := hg15_112
              have hg17_112 : v17_112.toInt = th 12 := hg17_112
              have hg20_112 : v20_112.toInt = x95.toInt := hg20_112
              have hg23_112 : v23_112.toInt = th 15 := hg23_112
              have hg25_112 : v25_112.toInt = th 44 := hg25_112
              have hg36_112 : v36_112.toInt = zg26_zg := hg36_112
              have hg47_112 : v47_112.toInt = th 16 := hg47_112
              have hg48_112 : v48_112.toInt = th 17 := hg48_112
              have hg53_112 : v53_112.toInt = th 38 := hg53_112
              have hg55_112 : v55_112.toInt = th 39 := hg55_112
              refine call_i (run_V (rm := rm_X11_freeIn) hx hb hml hown hts (s_X11_freeIn l g ad (gset (gset th 18 zg26_zg) 14 x95.toInt) _ _ _ v17_18 hst hT hv17_18 (show 3 ≤ th 11 by omega)) cV_X11_freeIn wg_1823 ⟨Nat.le_of_ble_eq_true rfl, Nat.le_of_ble_eq_true rfl⟩ hG hE hA hP hD hS (hst.1 255 (by decide)) hf113 rfl rfl hl.1 (As := [.int v17_18]) (rest := []) rfl (Nat.le_of_ble_eq_true rfl) dX11_weakest_75 ⟨Nat.le_of_ble_eq_true rfl, Nat.le_of_ble_eq_true rfl⟩) hA hD hS (fun r114 L115 f116 H locs hp117 hP hD hS => ?_)
              obtain ⟨eL118L, eL118T, eL118X0⟩ := hp117
              have eL118L : L115 = L := eL118L
              have eL118T : f116 = f109 := eL118T
              rw [eL118L, eL118T] at hP hD
              have hfi119 : r114.toInt = frI (rnd (th 10)) (th 11) (x95.toInt) v17_18.toInt := eL118X0
              refine lv_bipush (v := 12) hx hb dX11_weakest_78 (by decide) ?_
              refine lv_icmp_le (tgt := 86) hx hb dX11_weakest_80 (by decide) (fun c120 => ?_) (fun c120 => ?_)
              ·
                have oc12 : (12 : Int32).toInt = 12 := by decide
                have cc121 : r114.toInt ≤ (12 : Int32).toInt := i32_le.mp c120
                have hb122 : In r114 (-2147483648) 12 := In.le1 (In.full r114) (⟨by decide, by decide⟩ : In 12 12 12) cc121 (by omega) (by omega)
                exact hJ86 x95.toInt zg26_zg _ _ _ _ hP hD hS (TI.cast hT (by funext q; by_cases hq0 : q = 14; (subst hq0; rfl); by_cases hq1 : q = 18; (subst hq1; rfl); simp only [gset, if_neg hq0, if_neg hq1])) hfr (lv_sub hl [0, 1, 2] rfl)
              ·
                have oc12 : (12 : Int32).toInt = 12 := by decide
                have cc123 : (12 : Int32).toInt < r114.toInt := i32_nle c120
                have hb124 : In r114 13 2147483647 := In.gt1 (In.full r114) (⟨by decide, by decide⟩ : In 12 12 12) cc123 (by omega) (by omega)
                refine lv_bipush (v := (-2)) hx hb dX11_weakest_83 (by decide) ?_
                exact ret_i (ty := .int) hx hb hr hlocks (rfl) hP hD hS (Nat.le_of_ble_eq_true rfl) (Nat.le_of_ble_eq_true rfl) (⟨rfl, ⟨(gset (gset th 18 zg26_zg) 14 x95.toInt), ⟨(show MI (gset (gset th 18 zg26_zg) 14 x95.toInt) from ⟨m1, m2, (show th 20 = (th 12) * rnd (th 10) from m3), m4, m5, m6, m7, m8, m9, m10⟩), (SBM.set (k := 14) (SBM.set (k := 18) (SBM.rf th) (by decide)) (by decide))⟩, hT⟩, hfr⟩) dX11_weakest_85
            ·
              have cc125 : x95.toInt = x100.toInt := congrArg Int32.toInt c103
              have hb126 : In x95 1 511 := In.eq1 hb96 hb101 cc125 (by omega) (by omega)
              refine lv_goto (tgt := 86) hx hb dX11_weakest_58 (by decide) ?_
              exact hJ86 zg26_zl zg26_zg _ _ _ _ hP hD hS (TI.cast hT (by funext q; by_cases hq0 : q = 18; (subst hq0; rfl); by_cases hq1 : q = 14; (subst hq1; rfl); simp only [gset, if_neg hq0, if_neg hq1])) hfr (lv_sub hl [0, 1, 2] rfl)
    exact hJ26 ((9 - (0 : Int32).toInt).toNat + 1) zz15 zz14 0 _ _ _ _ (⟨by decide, by decide⟩ : In 0 0 9) hP hD hS (TI.cast hT (by funext q; by_cases hq0 : q = 14; (subst hq0; rfl); by_cases hq1 : q = 18; (subst hq1; rfl); simp only [gset, if_neg hq0, if_neg hq1])) hfr (lv_sub hl [2, 1, 0] rfl) (msI _)
  ·
    have oc0 : (0 : Int32).toInt = 0 := by decide
    have cc127 : v23_1.toInt = (0 : Int32).toInt := congrArg Int32.toInt c6
    have hb128 : In v23_1 0 0 := In.eq1 hv23_1 (⟨by decide, by decide⟩ : In 0 0 0) cc127 (by omega) (by omega)
    refine lv_bipush (v := (-2)) hx hb dX11_weakest_12 (by decide) ?_
    exact ret_i (ty := .int) hx hb hr hlocks (rfl) hP hD hS (Nat.le_of_ble_eq_true rfl) (Nat.le_of_ble_eq_true rfl) (⟨rfl, ⟨th, ⟨(show MI th from hM), (SBM.rf th)⟩, hT⟩, hfr⟩) dX11_weakest_14

abbrev rm_X11_held : Room := { frames := 6, cells := 0, slots := 0, locals := 148 }
abbrev po_X11_held (g : GG) (ad : Nat → Nat) (th : Nat → Int) (L : List Nat) (f : HP) (z1 : Int32) (z2 : Int32) : Int32 → (List Nat × HP) → Prop := fun r u => u.1 = L ∧ (∃ th' : Nat → Int, (MI th' ∧ SBM th th') ∧ TI g ad th' u.2) ∧ (∀ b, b ≠ (ad 255) → b ≠ (ad 265) → b ≠ (ad 266) → b ≠ (ad 267) → b ≠ (ad 268) → b ≠ (ad 269) → b ≠ (ad 270) → b ≠ (ad 260) → b ≠ (ad 261) → b ≠ (ad 262) → b ≠ (ad 263) → b ≠ (ad 264) → u.2 b = f b)
set_option maxHeartbeats 4000000 in
set_option maxRecDepth 100000 in
theorem s_X11_held (l : Launch) (g : GG) (ad : Nat → Nat) (th : Nat → Int) (L : List Nat) (f : HP) (sz : Nat) (z1 : Int32) (z2 : Int32) (hst : ST ad L) (hT : TI g ad th f) (hM : MI th) : MtI l g yX11_held cX11_held 3 (some .int) rm_X11_held [.ref (ad 255), .int z1, .int z2] L f sz (po_X11_held g ad th L f z1 z2) := by
  refine MtI.of (by decide +kernel) (Nat.le_of_ble_eq_true rfl) ?_
  intro p e s m below meth c A hEn hP hD hS ls hl
  obtain ⟨hx, hb, hr, hml, hown, hlocks, hts, hG, hA, hE, hnm⟩ := hEn
  have hown : s.vm.findClass "RulerWordModel" = some m.cls := hown
  have hl : lv_has ls 3 [(0, .ref (ad 255)), (1, .int z1), (2, .int z2)] := hl
  have hfr : (∀ b, b ≠ (ad 255) → b ≠ (ad 265) → b ≠ (ad 266) → b ≠ (ad 267) → b ≠ (ad 268) → b ≠ (ad 269) → b ≠ (ad 270) → b ≠ (ad 260) → b ≠ (ad 261) → b ≠ (ad 262) → b ≠ (ad 263) → b ≠ (ad 264) → f b = f b) := fun b z0_ z1_ z2_ z3_ z4_ z5_ z6_ z7_ z8_ z9_ z10_ z11_ => rfl
  have hM0 := hM
  obtain ⟨m1, m2, m3, m4, m5, m6, m7, m8, m9, m10⟩ := hM0
  have m20 := mi20 m2 m3
  refine lv_aload_n hx hb dX11_held_0 rfl (lv_at hl 0 rfl) ?_
  refine lv_iconst (v := 0) hx hb dX11_held_1 (by decide) ?_
  refine M0e hT (fun v0_1 v2_1 v3_1 v4_1 v5_1 v6_1 v8_1 v9_1 v12_1 v13_1 v14_1 v15_1 v16_1 v17_1 v18_1 v19_1 v20_1 v21_1 v22_1 v23_1 v25_1 v36_1 v37_1 v38_1 v39_1 v40_1 v45_1 v46_1 v47_1 v48_1 v50_1 v51_1 v53_1 v55_1 hf2 hv0_1 hv2_1 hg2_1 hv3_1 hg3_1 hv4_1 hg4_1 hv5_1 hg5_1 hv6_1 hg6_1 hv8_1 hg8_1 hv9_1 hg9_1 hv12_1 hv13_1 hg13_1 hv14_1 hg14_1 hv15_1 hg15_1 hv17_1 hg17_1 hv20_1 hg20_1 hv23_1 hg23_1 hv25_1 hg25_1 hv36_1 hg36_1 hv47_1 hg47_1 hv48_1 hg48_1 hv53_1 hg53_1 hv55_1 hg55_1 hrel0_1 => ?_)
  refine pl_put (ty := .int) (v := .int 0) (fs' := [.int 0, .ref (ad 256), .int v2_1, .int v3_1, .int v4_1, .int v5_1, .int v6_1, .ref (ad 257), .int v8_1, .int v9_1, .ref (ad 258), .ref (ad 259), .int v12_1, .int v13_1, .int v14_1, .int v15_1, .int v16_1, .int v17_1, .int v18_1, .int v19_1, .int v20_1, .long v21_1, .long v22_1, .int v23_1, .ref (ad 260), .int v25_1, .ref (ad 261), .ref (ad 262), .ref (ad 263), .ref (ad 264), .ref (ad 265), .ref (ad 266), .ref (ad 267), .ref (ad 268), .ref (ad 269), .ref (ad 270), .int v36_1, .int v37_1, .int v38_1, .int v39_1, .int v40_1, .ref (ad 271), .ref (ad 272), .ref (ad 273), .ref (ad 274), .long v45_1, .long v46_1, .int v47_1, .int v48_1, .ref (ad 275), .int v50_1, .int v51_1, .ref (ad 276), .int v53_1, .ref (ad 277), .int v55_1]) hx hb hts (fun w h => mT (inX11 w h)) tyX11 tyX11_ok nmX11 hown hG.1 hP hD hS (hst.1 255 (by decide)) hf2 rfl 0 (by decide) (hts _ (mT wg_1336)) (fun _ h => h) rfl (by decide +kernel) (rfl) (rfl) (Nat.le_of_ble_eq_true rfl) rfl dX11_held_2 (fun H locs f3 hf4 ho5 hP hD hS => ?_)
  have hfr : (∀ b, b ≠ (ad 255) → b ≠ (ad 265) → b ≠ (ad 266) → b ≠ (ad 267) → b ≠ (ad 268) → b ≠ (ad 269) → b ≠ (ad 270) → b ≠ (ad 260) → b ≠ (ad 261) → b ≠ (ad 262) → b ≠ (ad 263) → b ≠ (ad 264) → f3 b = f b) := fun b z0_ z1_ z2_ z3_ z4_ z5_ z6_ z7_ z8_ z9_ z10_ z11_ => (ho5 b z0_).trans (hfr b z0_ z1_ z2_ z3_ z4_ z5_ z6_ z7_ z8_ z9_ z10_ z11_)
  refine lv_aload_n hx hb dX11_held_5 rfl (lv_at hl 0 rfl) ?_
  have hT := TI.updM hT hst (k := 0) (by decide) hf4 ho5 ⟨0, v2_1, v3_1, v4_1, v5_1, v6_1, v8_1, v9_1, v12_1, v13_1, v14_1, v15_1, v16_1, v17_1, v18_1, v19_1, v20_1, v21_1, v22_1, v23_1, v25_1, v36_1, v37_1, v38_1, v39_1, v40_1, v45_1, v46_1, v47_1, v48_1, v50_1, v51_1, v53_1, v55_1, rfl, (⟨by decide, by decide⟩ : In 0 0 1), hv2_1, hg2_1, hv3_1, hg3_1, hv4_1, hg4_1, hv5_1, hg5_1, hv6_1, hg6_1, hv8_1, hg8_1, hv9_1, hg9_1, hv12_1, hv13_1, hg13_1, hv14_1, hg14_1, hv15_1, hg15_1, hv17_1, hg17_1, hv20_1, hg20_1, hv23_1, hg23_1, hv25_1, hg25_1, hv36_1, hg36_1, hv47_1, hg47_1, hv48_1, hg48_1, hv53_1, hg53_1, hv55_1, hg55_1, hrel0_1⟩
  refine call_i (run_V (rm := rm_X11_canSearch) hx hb hml hown hts (s_X11_canSearch l g ad th _ _ _  hst hT (show MI th from hM)) cV_X11_canSearch wg_1834 ⟨Nat.le_of_ble_eq_true rfl, Nat.le_of_ble_eq_true rfl⟩ hG hE hA hP hD hS (hst.1 255 (by decide)) hf4 rfl rfl hl.1 (As := []) (rest := []) rfl (Nat.le_of_ble_eq_true rfl) dX11_held_6 ⟨Nat.le_of_ble_eq_true rfl, Nat.le_of_ble_eq_true rfl⟩) hA hD hS (fun r6 L7 f8 H locs hp9 hP hD hS => ?_)
  obtain ⟨eL10L, eL10T, eL10F, eL10R⟩ := hp9
  have eL10L : L7 = L := eL10L
  rw [eL10L] at hP hD
  obtain ⟨zz11, zz12, hzz11, eL10T⟩ := eL10T
  have hT : TI g ad (gset (gset th 14 zz11) 18 zz12) f8 := eL10T
  have eL10F : ∀ b, b ≠ (ad 255) → b ≠ (ad 265) → b ≠ (ad 266) → b ≠ (ad 267) → b ≠ (ad 269) → b ≠ (ad 260) → b ≠ (ad 261) → b ≠ (ad 262) → b ≠ (ad 263) → b ≠ (ad 264) → f8 b = f3 b := eL10F
  have hfr : (∀ b, b ≠ (ad 255) → b ≠ (ad 265) → b ≠ (ad 266) → b ≠ (ad 267) → b ≠ (ad 268) → b ≠ (ad 269) → b ≠ (ad 270) → b ≠ (ad 260) → b ≠ (ad 261) → b ≠ (ad 262) → b ≠ (ad 263) → b ≠ (ad 264) → f8 b = f b) := fun b z0_ z1_ z2_ z3_ z4_ z5_ z6_ z7_ z8_ z9_ z10_ z11_ => (eL10F b z0_ z1_ z2_ z3_ z5_ z7_ z8_ z9_ z10_ z11_).trans (hfr b z0_ z1_ z2_ z3_ z4_ z5_ z6_ z7_ z8_ z9_ z10_ z11_)
  have eL10R : In r6 0 1 := eL10R
  refine lv_if_ne (tgt := 15) hx hb dX11_held_9 (by decide) (fun c13 => ?_) (fun c13 => ?_)
  ·
    have oc0 : (0 : Int32).toInt = 0 := by decide
    have cc14 : r6.toInt ≠ (0 : Int32).toInt := i32_ne c13
    have hb15 : In r6 1 1 := In.ne1 eL10R (⟨by decide, by decide⟩ : In 0 0 0) cc14 (by omega) (by omega)
    refine lv_aload_n hx hb dX11_held_15 rfl (lv_at hl 0 rfl) ?_
    refine lv_iload_n hx hb dX11_held_16 rfl (lv_at hl 2 rfl) ?_
    refine M0e hT (fun v0_16 v2_16 v3_16 v4_16 v5_16 v6_16 v8_16 v9_16 v12_16 v13_16 v14_16 v15_16 v16_16 v17_16 v18_16 v19_16 v20_16 v21_16 v22_16 v23_16 v25_16 v36_16 v37_16 v38_16 v39_16 v40_16 v45_16 v46_16 v47_16 v48_16 v50_16 v51_16 v53_16 v55_16 hf17 hv0_16 hv2_16 hg2_16 hv3_16 hg3_16 hv4_16 hg4_16 hv5_16 hg5_16 hv6_16 hg6_16 hv8_16 hg8_16 hv9_16 hg9_16 hv12_16 hv13_16 hg13_16 hv14_16 hg14_16 hv15_16 hg15_16 hv17_16 hg17_16 hv20_16 hg20_16 hv23_16 hg23_16 hv25_16 hg25_16 hv36_16 hg36_16 hv47_16 hg47_16 hv48_16 hg48_16 hv53_16 hg53_16 hv55_16 hg55_16 hrel0_16 => ?_)
    have hg2_16 : v2_16.toInt = th 13 := hg2_16
    have hg3_16 : v3_16.toInt = th 37 := hg3_16
    have hg4_16 : v4_16.toInt = th 42 := hg4_16
    have hg5_16 : v5_16.toInt = th 40 := hg5_16
    have hg6_16 : v6_16.toInt = th 41 := hg6_16
    have hg8_16 : v8_16.toInt = th 43 := hg8_16
    have hg9_16 : v9_16.toInt = th 35 := hg9_16
    have hg13_16 : v13_16.toInt = th 36 := hg13_16
    have hg14_16 : v14_16.toInt = th 10 := hg14_16
    have hg15_16 : v15_16.toInt = th 11 := hg15_16
    have hg17_16 : v17_16.toInt = th 12 := hg17_16
    have hg20_16 : v20_16.toInt = zz11 := hg20_16
    have hg23_16 : v23_16.toInt = th 15 := hg23_16
    have hg25_16 : v25_16.toInt = th 44 := hg25_16
    have hg36_16 : v36_16.toInt = zz12 := hg36_16
    have hg47_16 : v47_16.toInt = th 16 := hg47_16
    have hg48_16 : v48_16.toInt = th 17 := hg48_16
    have hg53_16 : v53_16.toInt = th 38 := hg53_16
    have hg55_16 : v55_16.toInt = th 39 := hg55_16
    refine call_i (run_V (rm := rm_X11_isPeer) hx hb hml hown hts (s_X11_isPeer l g ad (gset (gset th 14 zz11) 18 zz12) _ _ _ z2 hst hT ) cV_X11_isPeer wg_1718 ⟨Nat.le_of_ble_eq_true rfl, Nat.le_of_ble_eq_true rfl⟩ hG hE hA hP hD hS (hst.1 255 (by decide)) hf17 rfl rfl hl.1 (As := [.int z2]) (rest := []) rfl (Nat.le_of_ble_eq_true rfl) dX11_held_17 ⟨Nat.le_of_ble_eq_true rfl, Nat.le_of_ble_eq_true rfl⟩) hA hD hS (fun r18 L19 f20 H locs hp21 hP hD hS => ?_)
    obtain ⟨eL22L, eL22T, eL22R, eL22W0, eL22X0⟩ := hp21
    have eL22L : L19 = L := eL22L
    have eL22T : f20 = f8 := eL22T
    rw [eL22L, eL22T] at hP hD
    have eL22R : In r18 0 1 := eL22R
    have hcl23 : r18.toInt = 0 ∨ th 15 = 1 := eL22X0
    refine lv_if_eq (tgt := 45) hx hb dX11_held_20 (by decide) (fun c24 => ?_) (fun c24 => ?_)
    ·
      have oc0 : (0 : Int32).toInt = 0 := by decide
      have cc25 : r18.toInt = (0 : Int32).toInt := congrArg Int32.toInt c24
      have hb26 : In r18 0 0 := In.eq1 eL22R (⟨by decide, by decide⟩ : In 0 0 0) cc25 (by omega) (by omega)
      refine lv_iconst (v := (-1)) hx hb dX11_held_45 (by decide) ?_
      exact ret_i (ty := .int) hx hb hr hlocks (rfl) hP hD hS (Nat.le_of_ble_eq_true rfl) (Nat.le_of_ble_eq_true rfl) (⟨rfl, ⟨(gset (gset th 14 zz11) 18 zz12), ⟨(show MI (gset (gset th 14 zz11) 18 zz12) from ⟨m1, m2, (show th 20 = (th 12) * rnd (th 10) from m3), m4, m5, m6, m7, m8, m9, m10⟩), (SBM.set (k := 18) (SBM.set (k := 14) (SBM.rf th) (by decide)) (by decide))⟩, hT⟩, hfr⟩) dX11_held_46
    ·
      have oc0 : (0 : Int32).toInt = 0 := by decide
      have cc27 : r18.toInt ≠ (0 : Int32).toInt := i32_ne c24
      have hb28 : In r18 1 1 := In.ne1 eL22R (⟨by decide, by decide⟩ : In 0 0 0) cc27 (by omega) (by omega)
      have hb29 : In z2 0 8 := In.both (eL22W0 c24) (In.full z2) (by decide) (by decide)
      refine lv_iload_n hx hb dX11_held_23 rfl (lv_at hl 1 rfl) ?_
      refine lv_i2l hx hb dX11_held_24 rfl ?_
      refine lv_lconst (v := 0) hx hb dX11_held_25 (by decide) ?_
      refine lv_iconst (v := 1) hx hb dX11_held_26 (by decide) ?_
      refine lv_aload_n hx hb dX11_held_27 rfl (lv_at hl 0 rfl) ?_
      refine lv_aload_n hx hb dX11_held_28 rfl (lv_at hl 0 rfl) ?_
      refine pl_get (v := .int v17_16) hx hb hts (fun w h => mT (inX11 w h)) hown hG.1 hP (hst.1 255 (by decide)) hf17 rfl 17 (by decide) (hts _ (mT wg_1353)) (fun _ h => h) rfl dX11_held_29 ?_
      refine call_i (run_V (rm := rm_X11_freeIn) hx hb hml hown hts (s_X11_freeIn l g ad (gset (gset th 14 zz11) 18 zz12) _ _ _ v17_16 hst hT hv17_16 (show 3 ≤ th 11 by omega)) cV_X11_freeIn wg_1823 ⟨Nat.le_of_ble_eq_true rfl, Nat.le_of_ble_eq_true rfl⟩ hG hE hA hP hD hS (hst.1 255 (by decide)) hf17 rfl rfl hl.1 (As := [.int v17_16]) (rest := [.int 1, .long 0, .long (z1.toInt64)]) rfl (Nat.le_of_ble_eq_true rfl) dX11_held_32 ⟨Nat.le_of_ble_eq_true rfl, Nat.le_of_ble_eq_true rfl⟩) hA hD hS (fun r30 L31 f32 H locs hp33 hP hD hS => ?_)
      obtain ⟨eL34L, eL34T, eL34X0⟩ := hp33
      have eL34L : L31 = L := eL34L
      have eL34T : f32 = f8 := eL34T
      rw [eL34L, eL34T] at hP hD
      have hfi35 : r30.toInt = frI (rnd (th 10)) (th 11) (zz11) v17_16.toInt := eL34X0
      refine lv_ishl hx hb dX11_held_35 ?_
      refine lv_topi (fun x36 ex36 => ?_)
      refine lv_iconst (v := 1) hx hb dX11_held_36 (by decide) ?_
      refine lv_isub hx hb dX11_held_37 ?_
      refine lv_topi (fun x37 ex37 => ?_)
      refine lv_i2l hx hb dX11_held_38 rfl ?_
      refine call_i (run_S (rm := rm_X11_isIn) hx hb hml hown hts (s_X11_isIn l g ad (gset (gset th 14 zz11) 18 zz12) _ _ _ (z1.toInt64) 0 (x37.toInt64) hst hT ) cS_X11_isIn wg_1581 ⟨Nat.le_of_ble_eq_true rfl, Nat.le_of_ble_eq_true rfl⟩ hG hE hA hP hD hS rfl hl.1 (As := [.long (z1.toInt64), .long 0, .long (x37.toInt64)]) (rest := []) rfl (Nat.le_of_ble_eq_true rfl) dX11_held_39 ⟨Nat.le_of_ble_eq_true rfl, Nat.le_of_ble_eq_true rfl⟩) hA hD hS (fun r38 L39 f40 H locs hp41 hP hD hS => ?_)
      obtain ⟨eL42L, eL42T, eL42R, eL42X0, eL42X1⟩ := hp41
      have eL42L : L39 = L := eL42L
      have eL42T : f40 = f8 := eL42T
      rw [eL42L, eL42T] at hP hD
      have eL42R : In r38 0 1 := eL42R
      have hii43 : r38.toInt = 0 ∨ (0 ≤ z1.toInt ∧ z1.toInt ≤ x37.toInt) := by have z := eL42X0; rw [i2l_t z1, (by decide : (0 : Int64).toInt = 0), i2l_t x37] at z; exact z
      have hii43w : ¬ r38 = 0 → In z1 0 2147483647 := fun c => by have c2 := i32_ne c; have e0 : (0 : Int32).toInt = 0 := (by decide); obtain ⟨o1, p1⟩ := ((In.full x37) : In _ _ _); exact ⟨by omega, by omega⟩
      refine lv_if_ne (tgt := 47) hx hb dX11_held_42 (by decide) (fun c44 => ?_) (fun c44 => ?_)
      ·
        have oc0 : (0 : Int32).toInt = 0 := by decide
        have cc45 : r38.toInt ≠ (0 : Int32).toInt := i32_ne c44
        have hb46 : In r38 1 1 := In.ne1 eL42R (⟨by decide, by decide⟩ : In 0 0 0) cc45 (by omega) (by omega)
        have hb47 : In z1 0 2147483647 := In.both (hii43w c44) (In.full z1) (by decide) (by decide)
        refine lv_aload_n hx hb dX11_held_47 rfl (lv_at hl 0 rfl) ?_
        refine lv_iconst (v := 1) hx hb dX11_held_48 (by decide) ?_
        refine lv_iload_n hx hb dX11_held_49 rfl (lv_at hl 1 rfl) ?_
        refine call_v (run_V (rm := rm_X11_runsWhole) hx hb hml hown hts (s_X11_runsWhole l g ad (gset (gset th 14 zz11) 18 zz12) _ _ _ 1 z1 hst hT (show 3 ≤ th 11 by omega)) cV_X11_runsWhole wg_1842 ⟨Nat.le_of_ble_eq_true rfl, Nat.le_of_ble_eq_true rfl⟩ hG hE hA hP hD hS (hst.1 255 (by decide)) hf17 rfl rfl hl.1 (As := [.int 1, .int z1]) (rest := []) rfl (Nat.le_of_ble_eq_true rfl) dX11_held_50 ⟨Nat.le_of_ble_eq_true rfl, Nat.le_of_ble_eq_true rfl⟩) hA hD hS (fun L49 f50 H locs hp51 hP hD hS => ?_)
        obtain ⟨eL52L, eL52T, eL52F⟩ := hp51
        have eL52L : L49 = L := eL52L
        rw [eL52L] at hP hD
        obtain ⟨zz53, hzz53, eL52T⟩ := eL52T
        have hzz53 : True := hzz53
        have hT : TI g ad (gset (gset (gset th 14 zz11) 18 zz12) 18 zz53) f50 := eL52T
        have hT : TI g ad (gset (gset th 14 zz11) 18 zz53) f50 := TI.cast hT (by funext q; by_cases hq0 : q = 18; (subst hq0; rfl); by_cases hq1 : q = 14; (subst hq1; rfl); simp only [gset, if_neg hq0, if_neg hq1])
        have eL52F : ∀ b, b ≠ (ad 255) → b ≠ (ad 265) → b ≠ (ad 266) → b ≠ (ad 267) → b ≠ (ad 268) → b ≠ (ad 269) → b ≠ (ad 270) → b ≠ (ad 261) → b ≠ (ad 262) → b ≠ (ad 263) → b ≠ (ad 264) → f50 b = f8 b := eL52F
        have hfr : (∀ b, b ≠ (ad 255) → b ≠ (ad 265) → b ≠ (ad 266) → b ≠ (ad 267) → b ≠ (ad 268) → b ≠ (ad 269) → b ≠ (ad 270) → b ≠ (ad 260) → b ≠ (ad 261) → b ≠ (ad 262) → b ≠ (ad 263) → b ≠ (ad 264) → f50 b = f b) := fun b z0_ z1_ z2_ z3_ z4_ z5_ z6_ z7_ z8_ z9_ z10_ z11_ => (eL52F b z0_ z1_ z2_ z3_ z4_ z5_ z6_ z8_ z9_ z10_ z11_).trans (hfr b z0_ z1_ z2_ z3_ z4_ z5_ z6_ z7_ z8_ z9_ z10_ z11_)
        refine lv_aload_n hx hb dX11_held_53 rfl (lv_at hl 0 rfl) ?_
        refine M0e hT (fun v0_54 v2_54 v3_54 v4_54 v5_54 v6_54 v8_54 v9_54 v12_54 v13_54 v14_54 v15_54 v16_54 v17_54 v18_54 v19_54 v20_54 v21_54 v22_54 v23_54 v25_54 v36_54 v37_54 v38_54 v39_54 v40_54 v45_54 v46_54 v47_54 v48_54 v50_54 v51_54 v53_54 v55_54 hf55 hv0_54 hv2_54 hg2_54 hv3_54 hg3_54 hv4_54 hg4_54 hv5_54 hg5_54 hv6_54 hg6_54 hv8_54 hg8_54 hv9_54 hg9_54 hv12_54 hv13_54 hg13_54 hv14_54 hg14_54 hv15_54 hg15_54 hv17_54 hg17_54 hv20_54 hg20_54 hv23_54 hg23_54 hv25_54 hg25_54 hv36_54 hg36_54 hv47_54 hg47_54 hv48_54 hg48_54 hv53_54 hg53_54 hv55_54 hg55_54 hrel0_54 => ?_)
        have hg2_54 : v2_54.toInt = th 13 := hg2_54
        have hg3_54 : v3_54.toInt = th 37 := hg3_54
        have hg4_54 : v4_54.toInt = th 42 := hg4_54
        have hg5_54 : v5_54.toInt = th 40 := hg5_54
        have hg6_54 : v6_54.toInt = th 41 := hg6_54
        have hg8_54 : v8_54.toInt = th 43 := hg8_54
        have hg9_54 : v9_54.toInt = th 35 := hg9_54
        have hg13_54 : v13_54.toInt = th 36 := hg13_54
        have hg14_54 : v14_54.toInt = th 10 := hg14_54
        have hg15_54 : v15_54.toInt = th 11 := hg15_54
        have hg17_54 : v17_54.toInt = th 12 := hg17_54
        have hg20_54 : v20_54.toInt = zz11 := hg20_54
        have hg23_54 : v23_54.toInt = th 15 := hg23_54
        have hg25_54 : v25_54.toInt = th 44 := hg25_54
        have hg36_54 : v36_54.toInt = zz53 := hg36_54
        have hg47_54 : v47_54.toInt = th 16 := hg47_54
        have hg48_54 : v48_54.toInt = th 17 := hg48_54
        have hg53_54 : v53_54.toInt = th 38 := hg53_54
        have hg55_54 : v55_54.toInt = th 39 := hg55_54
        refine pl_get (v := .ref (ad 261)) hx hb hts (fun w h => mT (inX11 w h)) hown hG.1 hP (hst.1 255 (by decide)) hf55 rfl 26 (by decide) (hts _ (mT wg_1362)) (fun _ h => h) rfl dX11_held_54 ?_
        refine lv_iload_n hx hb dX11_held_57 rfl (lv_at hl 2 rfl) ?_
        obtain ⟨rw56, hf57⟩ := hT.2.2 6 (by decide)
        have hin58 : vp_in z2 9 := In.inb hb29 (by decide) (by decide)
        refine pl_iald hx hb hG.1 hP (hst.1 261 (by decide)) 0 hf57 rfl hin58 dX11_held_58 ?_
        refine lv_topi (fun x59 ex59 => ?_)
        exact ret_i (ty := .int) hx hb hr hlocks (rfl) hP hD hS (Nat.le_of_ble_eq_true rfl) (Nat.le_of_ble_eq_true rfl) (⟨rfl, ⟨(gset (gset th 14 zz11) 18 zz53), ⟨(show MI (gset (gset th 14 zz11) 18 zz53) from ⟨m1, m2, (show th 20 = (th 12) * rnd (th 10) from m3), m4, m5, m6, m7, m8, m9, m10⟩), (SBM.set (k := 18) (SBM.set (k := 14) (SBM.rf th) (by decide)) (by decide))⟩, hT⟩, hfr⟩) dX11_held_59
      ·
        have oc0 : (0 : Int32).toInt = 0 := by decide
        have cc60 : r38.toInt = (0 : Int32).toInt := congrArg Int32.toInt c44
        have hb61 : In r38 0 0 := In.eq1 eL42R (⟨by decide, by decide⟩ : In 0 0 0) cc60 (by omega) (by omega)
        refine lv_iconst (v := (-1)) hx hb dX11_held_45 (by decide) ?_
        exact ret_i (ty := .int) hx hb hr hlocks (rfl) hP hD hS (Nat.le_of_ble_eq_true rfl) (Nat.le_of_ble_eq_true rfl) (⟨rfl, ⟨(gset (gset th 14 zz11) 18 zz12), ⟨(show MI (gset (gset th 14 zz11) 18 zz12) from ⟨m1, m2, (show th 20 = (th 12) * rnd (th 10) from m3), m4, m5, m6, m7, m8, m9, m10⟩), (SBM.set (k := 18) (SBM.set (k := 14) (SBM.rf th) (by decide)) (by decide))⟩, hT⟩, hfr⟩) dX11_held_46
  ·
    have oc0 : (0 : Int32).toInt = 0 := by decide
    have cc62 : r6.toInt = (0 : Int32).toInt := congrArg Int32.toInt c13
    have hb63 : In r6 0 0 := In.eq1 eL10R (⟨by decide, by decide⟩ : In 0 0 0) cc62 (by omega) (by omega)
    refine lv_bipush (v := (-2)) hx hb dX11_held_12 (by decide) ?_
    exact ret_i (ty := .int) hx hb hr hlocks (rfl) hP hD hS (Nat.le_of_ble_eq_true rfl) (Nat.le_of_ble_eq_true rfl) (⟨rfl, ⟨(gset (gset th 14 zz11) 18 zz12), ⟨(show MI (gset (gset th 14 zz11) 18 zz12) from ⟨m1, m2, (show th 20 = (th 12) * rnd (th 10) from m3), m4, m5, m6, m7, m8, m9, m10⟩), (SBM.set (k := 18) (SBM.set (k := 14) (SBM.rf th) (by decide)) (by decide))⟩, hT⟩, hfr⟩) dX11_held_14

abbrev rm_X11_needed : Room := { frames := 7, cells := 0, slots := 0, locals := 170 }
abbrev po_X11_needed (g : GG) (ad : Nat → Nat) (th : Nat → Int) (L : List Nat) (f : HP)  : Int32 → (List Nat × HP) → Prop := fun r u => u.1 = L ∧ (∃ th' : Nat → Int, (MI th' ∧ SBM th th') ∧ TI g ad th' u.2) ∧ (∀ b, b ≠ (ad 255) → b ≠ (ad 265) → b ≠ (ad 266) → b ≠ (ad 267) → b ≠ (ad 268) → b ≠ (ad 269) → b ≠ (ad 270) → b ≠ (ad 260) → b ≠ (ad 261) → b ≠ (ad 262) → b ≠ (ad 263) → b ≠ (ad 264) → u.2 b = f b)
set_option maxHeartbeats 4000000 in
set_option maxRecDepth 100000 in
theorem s_X11_needed (l : Launch) (g : GG) (ad : Nat → Nat) (th : Nat → Int) (L : List Nat) (f : HP) (sz : Nat)  (hst : ST ad L) (hT : TI g ad th f) (hM : MI th) : MtI l g yX11_needed cX11_needed 4 (some .int) rm_X11_needed [.ref (ad 255)] L f sz (po_X11_needed g ad th L f ) := by
  refine MtI.of (by decide +kernel) (Nat.le_of_ble_eq_true rfl) ?_
  intro p e s m below meth c A hEn hP hD hS ls hl
  obtain ⟨hx, hb, hr, hml, hown, hlocks, hts, hG, hA, hE, hnm⟩ := hEn
  have hown : s.vm.findClass "RulerWordModel" = some m.cls := hown
  have hl : lv_has ls 4 [(0, .ref (ad 255))] := hl
  have hfr : (∀ b, b ≠ (ad 255) → b ≠ (ad 265) → b ≠ (ad 266) → b ≠ (ad 267) → b ≠ (ad 268) → b ≠ (ad 269) → b ≠ (ad 270) → b ≠ (ad 260) → b ≠ (ad 261) → b ≠ (ad 262) → b ≠ (ad 263) → b ≠ (ad 264) → f b = f b) := fun b z0_ z1_ z2_ z3_ z4_ z5_ z6_ z7_ z8_ z9_ z10_ z11_ => rfl
  have hM0 := hM
  obtain ⟨m1, m2, m3, m4, m5, m6, m7, m8, m9, m10⟩ := hM0
  have m20 := mi20 m2 m3
  refine lv_aload_n hx hb dX11_needed_0 rfl (lv_at hl 0 rfl) ?_
  refine lv_iconst (v := 0) hx hb dX11_needed_1 (by decide) ?_
  refine M0e hT (fun v0_1 v2_1 v3_1 v4_1 v5_1 v6_1 v8_1 v9_1 v12_1 v13_1 v14_1 v15_1 v16_1 v17_1 v18_1 v19_1 v20_1 v21_1 v22_1 v23_1 v25_1 v36_1 v37_1 v38_1 v39_1 v40_1 v45_1 v46_1 v47_1 v48_1 v50_1 v51_1 v53_1 v55_1 hf2 hv0_1 hv2_1 hg2_1 hv3_1 hg3_1 hv4_1 hg4_1 hv5_1 hg5_1 hv6_1 hg6_1 hv8_1 hg8_1 hv9_1 hg9_1 hv12_1 hv13_1 hg13_1 hv14_1 hg14_1 hv15_1 hg15_1 hv17_1 hg17_1 hv20_1 hg20_1 hv23_1 hg23_1 hv25_1 hg25_1 hv36_1 hg36_1 hv47_1 hg47_1 hv48_1 hg48_1 hv53_1 hg53_1 hv55_1 hg55_1 hrel0_1 => ?_)
  refine pl_put (ty := .int) (v := .int 0) (fs' := [.int 0, .ref (ad 256), .int v2_1, .int v3_1, .int v4_1, .int v5_1, .int v6_1, .ref (ad 257), .int v8_1, .int v9_1, .ref (ad 258), .ref (ad 259), .int v12_1, .int v13_1, .int v14_1, .int v15_1, .int v16_1, .int v17_1, .int v18_1, .int v19_1, .int v20_1, .long v21_1, .long v22_1, .int v23_1, .ref (ad 260), .int v25_1, .ref (ad 261), .ref (ad 262), .ref (ad 263), .ref (ad 264), .ref (ad 265), .ref (ad 266), .ref (ad 267), .ref (ad 268), .ref (ad 269), .ref (ad 270), .int v36_1, .int v37_1, .int v38_1, .int v39_1, .int v40_1, .ref (ad 271), .ref (ad 272), .ref (ad 273), .ref (ad 274), .long v45_1, .long v46_1, .int v47_1, .int v48_1, .ref (ad 275), .int v50_1, .int v51_1, .ref (ad 276), .int v53_1, .ref (ad 277), .int v55_1]) hx hb hts (fun w h => mT (inX11 w h)) tyX11 tyX11_ok nmX11 hown hG.1 hP hD hS (hst.1 255 (by decide)) hf2 rfl 0 (by decide) (hts _ (mT wg_1336)) (fun _ h => h) rfl (by decide +kernel) (rfl) (rfl) (Nat.le_of_ble_eq_true rfl) rfl dX11_needed_2 (fun H locs f3 hf4 ho5 hP hD hS => ?_)
  have hfr : (∀ b, b ≠ (ad 255) → b ≠ (ad 265) → b ≠ (ad 266) → b ≠ (ad 267) → b ≠ (ad 268) → b ≠ (ad 269) → b ≠ (ad 270) → b ≠ (ad 260) → b ≠ (ad 261) → b ≠ (ad 262) → b ≠ (ad 263) → b ≠ (ad 264) → f3 b = f b) := fun b z0_ z1_ z2_ z3_ z4_ z5_ z6_ z7_ z8_ z9_ z10_ z11_ => (ho5 b z0_).trans (hfr b z0_ z1_ z2_ z3_ z4_ z5_ z6_ z7_ z8_ z9_ z10_ z11_)
  refine lv_aload_n hx hb dX11_needed_5 rfl (lv_at hl 0 rfl) ?_
  refine pl_get (v := .int v23_1) hx hb hts (fun w h => mT (inX11 w h)) hown hG.1 hP (hst.1 255 (by decide)) hf4 rfl 23 (by decide) (hts _ (mT wg_1359)) (fun _ h => h) rfl dX11_needed_6 ?_
  have hT := TI.updM hT hst (k := 0) (by decide) hf4 ho5 ⟨0, v2_1, v3_1, v4_1, v5_1, v6_1, v8_1, v9_1, v12_1, v13_1, v14_1, v15_1, v16_1, v17_1, v18_1, v19_1, v20_1, v21_1, v22_1, v23_1, v25_1, v36_1, v37_1, v38_1, v39_1, v40_1, v45_1, v46_1, v47_1, v48_1, v50_1, v51_1, v53_1, v55_1, rfl, (⟨by decide, by decide⟩ : In 0 0 1), hv2_1, hg2_1, hv3_1, hg3_1, hv4_1, hg4_1, hv5_1, hg5_1, hv6_1, hg6_1, hv8_1, hg8_1, hv9_1, hg9_1, hv12_1, hv13_1, hg13_1, hv14_1, hg14_1, hv15_1, hg15_1, hv17_1, hg17_1, hv20_1, hg20_1, hv23_1, hg23_1, hv25_1, hg25_1, hv36_1, hg36_1, hv47_1, hg47_1, hv48_1, hg48_1, hv53_1, hg53_1, hv55_1, hg55_1, hrel0_1⟩
  refine lv_if_ne (tgt := 14) hx hb dX11_needed_9 (by decide) (fun c6 => ?_) (fun c6 => ?_)
  ·
    have oc0 : (0 : Int32).toInt = 0 := by decide
    have cc7 : v23_1.toInt ≠ (0 : Int32).toInt := i32_ne c6
    have hb8 : In v23_1 1 1 := In.ne1 hv23_1 (⟨by decide, by decide⟩ : In 0 0 0) cc7 (by omega) (by omega)
    refine lv_aload_n hx hb dX11_needed_14 rfl (lv_at hl 0 rfl) ?_
    refine call_v (run_V (rm := rm_X11_takesUp) hx hb hml hown hts (s_X11_takesUp l g ad th _ _ _  hst hT (show (th 22) = 2126 from (by have ob10 : (0 : Int) ≤ (th 10) ∧ (th 10) ≤ 1 := (b0_10 hT :); have ob11 : (0 : Int) ≤ (th 11) ∧ (th 11) ≤ 9 := (b0_11 hT :); have ob12 : (0 : Int) ≤ (th 12) ∧ (th 12) ≤ 6 := (b0_12 hT :); have ob14 : (0 : Int) ≤ (th 14) ∧ (th 14) ≤ 511 := (b0_14 hT :); have ob15 : (0 : Int) ≤ (th 15) ∧ (th 15) ≤ 1 := (b0_15 hT :); have ob16 : (0 : Int) ≤ (th 16) ∧ (th 16) ≤ 20 := (b0_16 hT :); have ob17 : (0 : Int) ≤ (th 17) ∧ (th 17) ≤ 1 := (b0_17 hT :); have ob18 : (0 : Int) ≤ (th 18) ∧ (th 18) ≤ 18 := (b0_18 hT :); have ob38 : (0 : Int) ≤ (th 38) ∧ (th 38) ≤ 400 := (b0_38 hT :); have ob39 : (0 : Int) ≤ (th 39) ∧ (th 39) ≤ 200 := (b0_39 hT :); have ob44 : (0 : Int) ≤ (th 44) ∧ (th 44) ≤ 30 := (b0_44 hT :); obtain ⟨o0a, o0b⟩ := (hv14_1 : In _ _ _); obtain ⟨o1a, o1b⟩ := (hv15_1 : In _ _ _); obtain ⟨o2a, o2b⟩ := (hv17_1 : In _ _ _); obtain ⟨o3a, o3b⟩ := (hv20_1 : In _ _ _); obtain ⟨o4a, o4b⟩ := (hb8 : In _ _ _); obtain ⟨o5a, o5b⟩ := (hv25_1 : In _ _ _); obtain ⟨o6a, o6b⟩ := (hv36_1 : In _ _ _); obtain ⟨o7a, o7b⟩ := (hv47_1 : In _ _ _); obtain ⟨o8a, o8b⟩ := (hv48_1 : In _ _ _); obtain ⟨o9a, o9b⟩ := (hv53_1 : In _ _ _); obtain ⟨o10a, o10b⟩ := (hv55_1 : In _ _ _); omega)) (show (th 20) ≤ 18 from (by have ob10 : (0 : Int) ≤ (th 10) ∧ (th 10) ≤ 1 := (b0_10 hT :); have ob11 : (0 : Int) ≤ (th 11) ∧ (th 11) ≤ 9 := (b0_11 hT :); have ob12 : (0 : Int) ≤ (th 12) ∧ (th 12) ≤ 6 := (b0_12 hT :); have ob14 : (0 : Int) ≤ (th 14) ∧ (th 14) ≤ 511 := (b0_14 hT :); have ob15 : (0 : Int) ≤ (th 15) ∧ (th 15) ≤ 1 := (b0_15 hT :); have ob16 : (0 : Int) ≤ (th 16) ∧ (th 16) ≤ 20 := (b0_16 hT :); have ob17 : (0 : Int) ≤ (th 17) ∧ (th 17) ≤ 1 := (b0_17 hT :); have ob18 : (0 : Int) ≤ (th 18) ∧ (th 18) ≤ 18 := (b0_18 hT :); have ob38 : (0 : Int) ≤ (th 38) ∧ (th 38) ≤ 400 := (b0_38 hT :); have ob39 : (0 : Int) ≤ (th 39) ∧ (th 39) ≤ 200 := (b0_39 hT :); have ob44 : (0 : Int) ≤ (th 44) ∧ (th 44) ≤ 30 := (b0_44 hT :); obtain ⟨o0a, o0b⟩ := (hv14_1 : In _ _ _); obtain ⟨o1a, o1b⟩ := (hv15_1 : In _ _ _); obtain ⟨o2a, o2b⟩ := (hv17_1 : In _ _ _); obtain ⟨o3a, o3b⟩ := (hv20_1 : In _ _ _); obtain ⟨o4a, o4b⟩ := (hb8 : In _ _ _); obtain ⟨o5a, o5b⟩ := (hv25_1 : In _ _ _); obtain ⟨o6a, o6b⟩ := (hv36_1 : In _ _ _); obtain ⟨o7a, o7b⟩ := (hv47_1 : In _ _ _); obtain ⟨o8a, o8b⟩ := (hv48_1 : In _ _ _); obtain ⟨o9a, o9b⟩ := (hv53_1 : In _ _ _); obtain ⟨o10a, o10b⟩ := (hv55_1 : In _ _ _); omega)) (show (th 21) = (th 11) from (by have ob10 : (0 : Int) ≤ (th 10) ∧ (th 10) ≤ 1 := (b0_10 hT :); have ob11 : (0 : Int) ≤ (th 11) ∧ (th 11) ≤ 9 := (b0_11 hT :); have ob12 : (0 : Int) ≤ (th 12) ∧ (th 12) ≤ 6 := (b0_12 hT :); have ob14 : (0 : Int) ≤ (th 14) ∧ (th 14) ≤ 511 := (b0_14 hT :); have ob15 : (0 : Int) ≤ (th 15) ∧ (th 15) ≤ 1 := (b0_15 hT :); have ob16 : (0 : Int) ≤ (th 16) ∧ (th 16) ≤ 20 := (b0_16 hT :); have ob17 : (0 : Int) ≤ (th 17) ∧ (th 17) ≤ 1 := (b0_17 hT :); have ob18 : (0 : Int) ≤ (th 18) ∧ (th 18) ≤ 18 := (b0_18 hT :); have ob38 : (0 : Int) ≤ (th 38) ∧ (th 38) ≤ 400 := (b0_38 hT :); have ob39 : (0 : Int) ≤ (th 39) ∧ (th 39) ≤ 200 := (b0_39 hT :); have ob44 : (0 : Int) ≤ (th 44) ∧ (th 44) ≤ 30 := (b0_44 hT :); obtain ⟨o0a, o0b⟩ := (hv14_1 : In _ _ _); obtain ⟨o1a, o1b⟩ := (hv15_1 : In _ _ _); obtain ⟨o2a, o2b⟩ := (hv17_1 : In _ _ _); obtain ⟨o3a, o3b⟩ := (hv20_1 : In _ _ _); obtain ⟨o4a, o4b⟩ := (hb8 : In _ _ _); obtain ⟨o5a, o5b⟩ := (hv25_1 : In _ _ _); obtain ⟨o6a, o6b⟩ := (hv36_1 : In _ _ _); obtain ⟨o7a, o7b⟩ := (hv47_1 : In _ _ _); obtain ⟨o8a, o8b⟩ := (hv48_1 : In _ _ _); obtain ⟨o9a, o9b⟩ := (hv53_1 : In _ _ _); obtain ⟨o10a, o10b⟩ := (hv55_1 : In _ _ _); omega))) cV_X11_takesUp wg_1648 ⟨Nat.le_of_ble_eq_true rfl, Nat.le_of_ble_eq_true rfl⟩ hG hE hA hP hD hS (hst.1 255 (by decide)) hf4 rfl rfl hl.1 (As := []) (rest := []) rfl (Nat.le_of_ble_eq_true rfl) dX11_needed_15 ⟨Nat.le_of_ble_eq_true rfl, Nat.le_of_ble_eq_true rfl⟩) hA hD hS (fun L10 f11 H locs hp12 hP hD hS => ?_)
    obtain ⟨eL13L, eL13T, eL13F⟩ := hp12
    have eL13L : L10 = L := eL13L
    rw [eL13L] at hP hD
    obtain ⟨zz14, zz15, hzz14, eL13T⟩ := eL13T
    have hzz14 : ((zz14 = (th 19) ∧ 0 ≤ zz14 ∧ zz14 ≤ (th 20)) ∧ (0 ≤ zz15 ∧ zz15 ≤ 511)) ∧ capI zz15 ((th 11)) := hzz14
    have hT : TI g ad (gset (gset th 18 zz14) 14 zz15) f11 := eL13T
    have eL13F : ∀ b, b ≠ (ad 255) → b ≠ (ad 265) → b ≠ (ad 266) → b ≠ (ad 267) → b ≠ (ad 269) → b ≠ (ad 260) → b ≠ (ad 261) → b ≠ (ad 262) → b ≠ (ad 263) → b ≠ (ad 264) → f11 b = f3 b := eL13F
    have hfr : (∀ b, b ≠ (ad 255) → b ≠ (ad 265) → b ≠ (ad 266) → b ≠ (ad 267) → b ≠ (ad 268) → b ≠ (ad 269) → b ≠ (ad 270) → b ≠ (ad 260) → b ≠ (ad 261) → b ≠ (ad 262) → b ≠ (ad 263) → b ≠ (ad 264) → f11 b = f b) := fun b z0_ z1_ z2_ z3_ z4_ z5_ z6_ z7_ z8_ z9_ z10_ z11_ => (eL13F b z0_ z1_ z2_ z3_ z5_ z7_ z8_ z9_ z10_ z11_).trans (hfr b z0_ z1_ z2_ z3_ z4_ z5_ z6_ z7_ z8_ z9_ z10_ z11_)
    refine lv_aload_n hx hb dX11_needed_18 rfl (lv_at hl 0 rfl) ?_
    refine M0e hT (fun v0_16 v2_16 v3_16 v4_16 v5_16 v6_16 v8_16 v9_16 v12_16 v13_16 v14_16 v15_16 v16_16 v17_16 v18_16 v19_16 v20_16 v21_16 v22_16 v23_16 v25_16 v36_16 v37_16 v38_16 v39_16 v40_16 v45_16 v46_16 v47_16 v48_16 v50_16 v51_16 v53_16 v55_16 hf17 hv0_16 hv2_16 hg2_16 hv3_16 hg3_16 hv4_16 hg4_16 hv5_16 hg5_16 hv6_16 hg6_16 hv8_16 hg8_16 hv9_16 hg9_16 hv12_16 hv13_16 hg13_16 hv14_16 hg14_16 hv15_16 hg15_16 hv17_16 hg17_16 hv20_16 hg20_16 hv23_16 hg23_16 hv25_16 hg25_16 hv36_16 hg36_16 hv47_16 hg47_16 hv48_16 hg48_16 hv53_16 hg53_16 hv55_16 hg55_16 hrel0_16 => ?_)
    have hg2_16 : v2_16.toInt = th 13 := hg2_16
    have hg3_16 : v3_16.toInt = th 37 := hg3_16
    have hg4_16 : v4_16.toInt = th 42 := hg4_16
    have hg5_16 : v5_16.toInt = th 40 := hg5_16
    have hg6_16 : v6_16.toInt = th 41 := hg6_16
    have hg8_16 : v8_16.toInt = th 43 := hg8_16
    have hg9_16 : v9_16.toInt = th 35 := hg9_16
    have hg13_16 : v13_16.toInt = th 36 := hg13_16
    have hg14_16 : v14_16.toInt = th 10 := hg14_16
    have hg15_16 : v15_16.toInt = th 11 := hg15_16
    have hg17_16 : v17_16.toInt = th 12 := hg17_16
    have hg20_16 : v20_16.toInt = zz15 := hg20_16
    have hg23_16 : v23_16.toInt = th 15 := hg23_16
    have hg25_16 : v25_16.toInt = th 44 := hg25_16
    have hg36_16 : v36_16.toInt = zz14 := hg36_16
    have hg47_16 : v47_16.toInt = th 16 := hg47_16
    have hg48_16 : v48_16.toInt = th 17 := hg48_16
    have hg53_16 : v53_16.toInt = th 38 := hg53_16
    have hg55_16 : v55_16.toInt = th 39 := hg55_16
    refine pl_get (v := .int v17_16) hx hb hts (fun w h => mT (inX11 w h)) hown hG.1 hP (hst.1 255 (by decide)) hf17 rfl 17 (by decide) (hts _ (mT wg_1353)) (fun _ h => h) rfl dX11_needed_19 ?_
    refine lv_istore_n (lv' := [(1, .int v17_16), (0, .ref (ad 255))]) hx hb dX11_needed_22 rfl hl (by decide) rfl (fun ls hl => ?_)
    refine lv_iconst (v := (-1)) hx hb dX11_needed_23 (by decide) ?_
    refine lv_istore_n (lv' := [(2, .int (-1)), (1, .int v17_16), (0, .ref (ad 255))]) hx hb dX11_needed_24 rfl hl (by decide) rfl (fun ls hl => ?_)
    refine lv_iconst (v := 1) hx hb dX11_needed_25 (by decide) ?_
    refine lv_istore_n (lv' := [(3, .int 1), (2, .int (-1)), (1, .int v17_16), (0, .ref (ad 255))]) hx hb dX11_needed_26 rfl hl (by decide) rfl (fun ls hl => ?_)
    have hJ27 : ∀ (k27 : Nat) (zg27_zp : Int) (zg27_zl : Int) (zg27_zg : Int) (y27_l2 : Int32) (y27_l3 : Int32) (f_27 : HP) (H : Heap) (locs : List Loc) (ls : Array Slot), In y27_l2 (-1) 6 → In y27_l3 1 7 → va_P g.1 vwCl (va_pl L f_27) H → va_D A (va_pl L f_27) → va_S A s.heap H locs → TI g ad (gset (gset (gset th 12 zg27_zp) 14 zg27_zl) 18 zg27_zg) f_27 → (∀ b, b ≠ (ad 255) → b ≠ (ad 265) → b ≠ (ad 266) → b ≠ (ad 267) → b ≠ (ad 268) → b ≠ (ad 269) → b ≠ (ad 270) → b ≠ (ad 260) → b ≠ (ad 261) → b ≠ (ad 262) → b ≠ (ad 263) → b ≠ (ad 264) → f_27 b = f b) → lv_has ls 4 [(0, .ref (ad 255)), (1, .int v17_16), (2, .int y27_l2), (3, .int y27_l3)] → 7 - y27_l3.toInt < ((k27 : Nat) : Int) → W p l e rm_X11_needed s m [.ref (ad 255)].toArray below meth c H locs 0 0 (MQ below (va_Qi (po_X11_needed g ad th L f ) (PstB g A) A) [.ref (ad 255)].toArray s rm_X11_needed.cells rm_X11_needed.slots A) (F0 m 27 ls []) := by
      intro k27
      induction k27 with
      | zero =>
        intro zg27_zp zg27_zl zg27_zg y27_l2 y27_l3 f_27 H locs ls hy27_l2 hy27_l3 hP hD hS hT hfr hl hmz27
        exact ms0 hy27_l3 hmz27
      | succ k27 ih27 =>
        intro zg27_zp zg27_zl zg27_zg y27_l2 y27_l3 f_27 H locs ls hy27_l2 hy27_l3 hP hD hS hT hfr hl hmz27
        refine lv_iload_n hx hb dX11_needed_27 rfl (lv_at hl 3 rfl) ?_
        refine lv_bipush (v := 6) hx hb dX11_needed_28 (by decide) ?_
        have hJ69 : ∀ (H : Heap) (locs : List Loc) (ls : Array Slot), va_P g.1 vwCl (va_pl L f_27) H → va_D A (va_pl L f_27) → va_S A s.heap H locs → lv_has ls 4 [(0, .ref (ad 255)), (1, .int v17_16), (2, .int y27_l2), (3, .int y27_l3)] → W p l e rm_X11_needed s m [.ref (ad 255)].toArray below meth c H locs 0 0 (MQ below (va_Qi (po_X11_needed g ad th L f ) (PstB g A) A) [.ref (ad 255)].toArray s rm_X11_needed.cells rm_X11_needed.slots A) (F0 m 69 ls []) := by
          intro H locs ls hP hD hS hl
          refine lv_aload_n hx hb dX11_needed_69 rfl (lv_at hl 0 rfl) ?_
          refine lv_iload_n hx hb dX11_needed_70 rfl (lv_at hl 1 rfl) ?_
          refine M0e hT (fun v0_18 v2_18 v3_18 v4_18 v5_18 v6_18 v8_18 v9_18 v12_18 v13_18 v14_18 v15_18 v16_18 v17_18 v18_18 v19_18 v20_18 v21_18 v22_18 v23_18 v25_18 v36_18 v37_18 v38_18 v39_18 v40_18 v45_18 v46_18 v47_18 v48_18 v50_18 v51_18 v53_18 v55_18 hf19 hv0_18 hv2_18 hg2_18 hv3_18 hg3_18 hv4_18 hg4_18 hv5_18 hg5_18 hv6_18 hg6_18 hv8_18 hg8_18 hv9_18 hg9_18 hv12_18 hv13_18 hg13_18 hv14_18 hg14_18 hv15_18 hg15_18 hv17_18 hg17_18 hv20_18 hg20_18 hv23_18 hg23_18 hv25_18 hg25_18 hv36_18 hg36_18 hv47_18 hg47_18 hv48_18 hg48_18 hv53_18 hg53_18 hv55_18 hg55_18 hrel0_18 => ?_)
          have hg2_18 : v2_18.toInt = th 13 := hg2_18
          have hg3_18 : v3_18.toInt = th 37 := hg3_18
          have hg4_18 : v4_18.toInt = th 42 := hg4_18
          have hg5_18 : v5_18.toInt = th 40 := hg5_18
          have hg6_18 : v6_18.toInt = th 41 := hg6_18
          have hg8_18 : v8_18.toInt = th 43 := hg8_18
          have hg9_18 : v9_18.toInt = th 35 := hg9_18
          have hg13_18 : v13_18.toInt = th 36 := hg13_18
          have hg14_18 : v14_18.toInt = th 10 := hg14_18
          have hg15_18 : v15_18.toInt = th 11 := hg15_18
          have hg17_18 : v17_18.toInt = zg27_zp := hg17_18
          have hg20_18 : v20_18.toInt = zg27_zl := hg20_18
          have hg23_18 : v23_18.toInt = th 15 := hg23_18
          have hg25_18 : v25_18.toInt = th 44 := hg25_18
          have hg36_18 : v36_18.toInt = zg27_zg := hg36_18
          have hg47_18 : v47_18.toInt = th 16 := hg47_18
          have hg48_18 : v48_18.toInt = th 17 := hg48_18
          have hg53_18 : v53_18.toInt = th 38 := hg53_18
          have hg55_18 : v55_18.toInt = th 39 := hg55_18
          refine pl_put (ty := .int) (v := .int v17_16) (fs' := [.int v0_18, .ref (ad 256), .int v2_18, .int v3_18, .int v4_18, .int v5_18, .int v6_18, .ref (ad 257), .int v8_18, .int v9_18, .ref (ad 258), .ref (ad 259), .int v12_18, .int v13_18, .int v14_18, .int v15_18, .int v16_18, .int v17_16, .int v18_18, .int v19_18, .int v20_18, .long v21_18, .long v22_18, .int v23_18, .ref (ad 260), .int v25_18, .ref (ad 261), .ref (ad 262), .ref (ad 263), .ref (ad 264), .ref (ad 265), .ref (ad 266), .ref (ad 267), .ref (ad 268), .ref (ad 269), .ref (ad 270), .int v36_18, .int v37_18, .int v38_18, .int v39_18, .int v40_18, .ref (ad 271), .ref (ad 272), .ref (ad 273), .ref (ad 274), .long v45_18, .long v46_18, .int v47_18, .int v48_18, .ref (ad 275), .int v50_18, .int v51_18, .ref (ad 276), .int v53_18, .ref (ad 277), .int v55_18]) hx hb hts (fun w h => mT (inX11 w h)) tyX11 tyX11_ok nmX11 hown hG.1 hP hD hS (hst.1 255 (by decide)) hf19 rfl 17 (by decide) (hts _ (mT wg_1353)) (fun _ h => h) rfl (by decide +kernel) (rfl) (rfl) (Nat.le_of_ble_eq_true rfl) rfl dX11_needed_71 (fun H locs f20 hf21 ho22 hP hD hS => ?_)
          have hfr : (∀ b, b ≠ (ad 255) → b ≠ (ad 265) → b ≠ (ad 266) → b ≠ (ad 267) → b ≠ (ad 268) → b ≠ (ad 269) → b ≠ (ad 270) → b ≠ (ad 260) → b ≠ (ad 261) → b ≠ (ad 262) → b ≠ (ad 263) → b ≠ (ad 264) → f20 b = f b) := fun b z0_ z1_ z2_ z3_ z4_ z5_ z6_ z7_ z8_ z9_ z10_ z11_ => (ho22 b z0_).trans (hfr b z0_ z1_ z2_ z3_ z4_ z5_ z6_ z7_ z8_ z9_ z10_ z11_)
          refine lv_iload_n hx hb dX11_needed_74 rfl (lv_at hl 2 rfl) ?_
          have hT := TI.updMG (th' := (gset (gset (gset (gset th 12 zg27_zp) 14 zg27_zl) 18 zg27_zg) 12 (v17_16.toInt))) hT hst (k := 0) (by decide) hf21 ho22 ⟨v0_18, v2_18, v3_18, v4_18, v5_18, v6_18, v8_18, v9_18, v12_18, v13_18, v14_18, v15_18, v16_18, v17_16, v18_18, v19_18, v20_18, v21_18, v22_18, v23_18, v25_18, v36_18, v37_18, v38_18, v39_18, v40_18, v45_18, v46_18, v47_18, v48_18, v50_18, v51_18, v53_18, v55_18, rfl, hv0_18, hv2_18, hg2_18, hv3_18, hg3_18, hv4_18, hg4_18, hv5_18, hg5_18, hv6_18, hg6_18, hv8_18, hg8_18, hv9_18, hg9_18, hv12_18, hv13_18, hg13_18, hv14_18, hg14_18, hv15_18, hg15_18, hv17_16, rfl, hv20_18, hg20_18, hv23_18, hg23_18, hv25_18, hg25_18, hv36_18, hg36_18, hv47_18, hg47_18, hv48_18, hg48_18, hv53_18, hg53_18, hv55_18, hg55_18, hrel0_18⟩ (fun q hq => ((gset_ne (fun e => hq (by subst e; decide))).trans rfl))
          have hT : TI g ad (gset (gset (gset th 14 zg27_zl) 18 zg27_zg) 12 v17_16.toInt) f20 := TI.cast hT (by funext q; by_cases hq0 : q = 12; (subst hq0; rfl); by_cases hq1 : q = 18; (subst hq1; rfl); by_cases hq2 : q = 14; (subst hq2; rfl); simp only [gset, if_neg hq0, if_neg hq1, if_neg hq2])
          exact ret_i (ty := .int) hx hb hr hlocks (rfl) hP hD hS (Nat.le_of_ble_eq_true rfl) (Nat.le_of_ble_eq_true rfl) (⟨rfl, ⟨(gset (gset (gset th 14 zg27_zl) 18 zg27_zg) 12 v17_16.toInt), ⟨(show MI (gset (gset (gset th 14 zg27_zl) 18 zg27_zg) 12 v17_16.toInt) from ⟨m1, (show 0 ≤ v17_16.toInt ∧ v17_16.toInt ≤ 6 by omega), (show th 20 = v17_16.toInt * rnd (th 10) by rw [hg17_16]; exact m3), m4, m5, m6, m7, m8, m9, m10⟩), (SBM.set (k := 12) (SBM.set (k := 18) (SBM.set (k := 14) (SBM.rf th) (by decide)) (by decide)) (by decide))⟩, hT⟩, hfr⟩) dX11_needed_75
        refine lv_icmp_gt (tgt := 69) hx hb dX11_needed_30 (by decide) (fun c23 => ?_) (fun c23 => ?_)
        ·
          have oc6 : (6 : Int32).toInt = 6 := by decide
          have cc24 : (6 : Int32).toInt < y27_l3.toInt := i32_lt.mp c23
          have hb25 : In y27_l3 7 7 := In.gt1 hy27_l3 (⟨by decide, by decide⟩ : In 6 6 6) cc24 (by omega) (by omega)
          exact hJ69 _ _ _ hP hD hS (lv_sub hl [0, 1, 2, 3] rfl)
        ·
          have oc6 : (6 : Int32).toInt = 6 := by decide
          have cc26 : y27_l3.toInt ≤ (6 : Int32).toInt := i32_nlt c23
          have hb27 : In y27_l3 1 6 := In.le1 hy27_l3 (⟨by decide, by decide⟩ : In 6 6 6) cc26 (by omega) (by omega)
          refine lv_iload_n hx hb dX11_needed_33 rfl (lv_at hl 2 rfl) ?_
          refine lv_iconst (v := (-1)) hx hb dX11_needed_34 (by decide) ?_
          refine lv_icmp_ne (tgt := 69) hx hb dX11_needed_35 (by decide) (fun c28 => ?_) (fun c28 => ?_)
          ·
            have ocm1 : ((-1) : Int32).toInt = (-1) := by decide
            have cc29 : y27_l2.toInt ≠ ((-1) : Int32).toInt := i32_ne c28
            have hb30 : In y27_l2 0 6 := In.ne1 hy27_l2 (⟨by decide, by decide⟩ : In (-1) (-1) (-1)) cc29 (by omega) (by omega)
            exact hJ69 _ _ _ hP hD hS (lv_sub hl [0, 1, 2, 3] rfl)
          ·
            have ocm1 : ((-1) : Int32).toInt = (-1) := by decide
            have cc31 : y27_l2.toInt = ((-1) : Int32).toInt := congrArg Int32.toInt c28
            have hb32 : In y27_l2 (-1) (-1) := In.eq1 hy27_l2 (⟨by decide, by decide⟩ : In (-1) (-1) (-1)) cc31 (by omega) (by omega)
            refine lv_aload_n hx hb dX11_needed_38 rfl (lv_at hl 0 rfl) ?_
            refine lv_iload_n hx hb dX11_needed_39 rfl (lv_at hl 3 rfl) ?_
            refine M0e hT (fun v0_33 v2_33 v3_33 v4_33 v5_33 v6_33 v8_33 v9_33 v12_33 v13_33 v14_33 v15_33 v16_33 v17_33 v18_33 v19_33 v20_33 v21_33 v22_33 v23_33 v25_33 v36_33 v37_33 v38_33 v39_33 v40_33 v45_33 v46_33 v47_33 v48_33 v50_33 v51_33 v53_33 v55_33 hf34 hv0_33 hv2_33 hg2_33 hv3_33 hg3_33 hv4_33 hg4_33 hv5_33 hg5_33 hv6_33 hg6_33 hv8_33 hg8_33 hv9_33 hg9_33 hv12_33 hv13_33 hg13_33 hv14_33 hg14_33 hv15_33 hg15_33 hv17_33 hg17_33 hv20_33 hg20_33 hv23_33 hg23_33 hv25_33 hg25_33 hv36_33 hg36_33 hv47_33 hg47_33 hv48_33 hg48_33 hv53_33 hg53_33 hv55_33 hg55_33 hrel0_33 => ?_)
            have hg2_33 : v2_33.toInt = th 13 := hg2_33
            have hg3_33 : v3_33.toInt = th 37 := hg3_33
            have hg4_33 : v4_33.toInt = th 42 := hg4_33
            have hg5_33 : v5_33.toInt = th 40 := hg5_33
            have hg6_33 : v6_33.toInt = th 41 := hg6_33
            have hg8_33 : v8_33.toInt = th 43 := hg8_33
            have hg9_33 : v9_33.toInt = th 35 := hg9_33
            have hg13_33 : v13_33.toInt = th 36 := hg13_33
            have hg14_33 : v14_33.toInt = th 10 := hg14_33
            have hg15_33 : v15_33.toInt = th 11 := hg15_33
            have hg17_33 : v17_33.toInt = zg27_zp := hg17_33
            have hg20_33 : v20_33.toInt = zg27_zl := hg20_33
            have hg23_33 : v23_33.toInt = th 15 := hg23_33
            have hg25_33 : v25_33.toInt = th 44 := hg25_33
            have hg36_33 : v36_33.toInt = zg27_zg := hg36_33
            have hg47_33 : v47_33.toInt = th 16 := hg47_33
            have hg48_33 : v48_33.toInt = th 17 := hg48_33
            have hg53_33 : v53_33.toInt = th 38 := hg53_33
            have hg55_33 : v55_33.toInt = th 39 := hg55_33
            refine call_i (run_V (rm := rm_X11_freeIn) hx hb hml hown hts (s_X11_freeIn l g ad (gset (gset (gset th 12 zg27_zp) 14 zg27_zl) 18 zg27_zg) _ _ _ y27_l3 hst hT (In.mono hb27 (by decide) (by decide)) (show 3 ≤ th 11 by omega)) cV_X11_freeIn wg_1823 ⟨Nat.le_of_ble_eq_true rfl, Nat.le_of_ble_eq_true rfl⟩ hG hE hA hP hD hS (hst.1 255 (by decide)) hf34 rfl rfl hl.1 (As := [.int y27_l3]) (rest := []) rfl (Nat.le_of_ble_eq_true rfl) dX11_needed_40 ⟨Nat.le_of_ble_eq_true rfl, Nat.le_of_ble_eq_true rfl⟩) hA hD hS (fun r35 L36 f37 H locs hp38 hP hD hS => ?_)
            obtain ⟨eL39L, eL39T, eL39X0⟩ := hp38
            have eL39L : L36 = L := eL39L
            have eL39T : f37 = f_27 := eL39T
            rw [eL39L, eL39T] at hP hD
            have hfi40 : r35.toInt = frI (rnd (th 10)) (th 11) (zg27_zl) y27_l3.toInt := eL39X0
            refine lv_bipush (v := 12) hx hb dX11_needed_43 (by decide) ?_
            refine lv_icmp_gt (tgt := 69) hx hb dX11_needed_45 (by decide) (fun c41 => ?_) (fun c41 => ?_)
            ·
              have oc12 : (12 : Int32).toInt = 12 := by decide
              have cc42 : (12 : Int32).toInt < r35.toInt := i32_lt.mp c41
              have hb43 : In r35 13 2147483647 := In.gt1 (In.full r35) (⟨by decide, by decide⟩ : In 12 12 12) cc42 (by omega) (by omega)
              exact hJ69 _ _ _ hP hD hS (lv_sub hl [0, 1, 2, 3] rfl)
            ·
              have oc12 : (12 : Int32).toInt = 12 := by decide
              have cc44 : r35.toInt ≤ (12 : Int32).toInt := i32_nlt c41
              have hb45 : In r35 (-2147483648) 12 := In.le1 (In.full r35) (⟨by decide, by decide⟩ : In 12 12 12) cc44 (by omega) (by omega)
              refine lv_aload_n hx hb dX11_needed_48 rfl (lv_at hl 0 rfl) ?_
              refine lv_iload_n hx hb dX11_needed_49 rfl (lv_at hl 3 rfl) ?_
              refine pl_put (ty := .int) (v := .int y27_l3) (fs' := [.int v0_33, .ref (ad 256), .int v2_33, .int v3_33, .int v4_33, .int v5_33, .int v6_33, .ref (ad 257), .int v8_33, .int v9_33, .ref (ad 258), .ref (ad 259), .int v12_33, .int v13_33, .int v14_33, .int v15_33, .int v16_33, .int y27_l3, .int v18_33, .int v19_33, .int v20_33, .long v21_33, .long v22_33, .int v23_33, .ref (ad 260), .int v25_33, .ref (ad 261), .ref (ad 262), .ref (ad 263), .ref (ad 264), .ref (ad 265), .ref (ad 266), .ref (ad 267), .ref (ad 268), .ref (ad 269), .ref (ad 270), .int v36_33, .int v37_33, .int v38_33, .int v39_33, .int v40_33, .ref (ad 271), .ref (ad 272), .ref (ad 273), .ref (ad 274), .long v45_33, .long v46_33, .int v47_33, .int v48_33, .ref (ad 275), .int v50_33, .int v51_33, .ref (ad 276), .int v53_33, .ref (ad 277), .int v55_33]) hx hb hts (fun w h => mT (inX11 w h)) tyX11 tyX11_ok nmX11 hown hG.1 hP hD hS (hst.1 255 (by decide)) hf34 rfl 17 (by decide) (hts _ (mT wg_1353)) (fun _ h => h) rfl (by decide +kernel) (rfl) (rfl) (Nat.le_of_ble_eq_true rfl) rfl dX11_needed_50 (fun H locs f46 hf47 ho48 hP hD hS => ?_)
              have hfr : (∀ b, b ≠ (ad 255) → b ≠ (ad 265) → b ≠ (ad 266) → b ≠ (ad 267) → b ≠ (ad 268) → b ≠ (ad 269) → b ≠ (ad 270) → b ≠ (ad 260) → b ≠ (ad 261) → b ≠ (ad 262) → b ≠ (ad 263) → b ≠ (ad 264) → f46 b = f b) := fun b z0_ z1_ z2_ z3_ z4_ z5_ z6_ z7_ z8_ z9_ z10_ z11_ => (ho48 b z0_).trans (hfr b z0_ z1_ z2_ z3_ z4_ z5_ z6_ z7_ z8_ z9_ z10_ z11_)
              refine lv_aload_n hx hb dX11_needed_53 rfl (lv_at hl 0 rfl) ?_
              have hT := TI.updMG (th' := (gset (gset (gset (gset th 12 zg27_zp) 14 zg27_zl) 18 zg27_zg) 12 (y27_l3.toInt))) hT hst (k := 0) (by decide) hf47 ho48 ⟨v0_33, v2_33, v3_33, v4_33, v5_33, v6_33, v8_33, v9_33, v12_33, v13_33, v14_33, v15_33, v16_33, y27_l3, v18_33, v19_33, v20_33, v21_33, v22_33, v23_33, v25_33, v36_33, v37_33, v38_33, v39_33, v40_33, v45_33, v46_33, v47_33, v48_33, v50_33, v51_33, v53_33, v55_33, rfl, hv0_33, hv2_33, hg2_33, hv3_33, hg3_33, hv4_33, hg4_33, hv5_33, hg5_33, hv6_33, hg6_33, hv8_33, hg8_33, hv9_33, hg9_33, hv12_33, hv13_33, hg13_33, hv14_33, hg14_33, hv15_33, hg15_33, (In.mono hb27 (by decide) (by decide)), rfl, hv20_33, hg20_33, hv23_33, hg23_33, hv25_33, hg25_33, hv36_33, hg36_33, hv47_33, hg47_33, hv48_33, hg48_33, hv53_33, hg53_33, hv55_33, hg55_33, hrel0_33⟩ (fun q hq => ((gset_ne (fun e => hq (by subst e; decide))).trans rfl))
              have hT : TI g ad (gset (gset (gset th 14 zg27_zl) 18 zg27_zg) 12 y27_l3.toInt) f46 := TI.cast hT (by funext q; by_cases hq0 : q = 12; (subst hq0; rfl); by_cases hq1 : q = 18; (subst hq1; rfl); by_cases hq2 : q = 14; (subst hq2; rfl); simp only [gset, if_neg hq0, if_neg hq1, if_neg hq2])
              refine M0e hT (fun v0_49 v2_49 v3_49 v4_49 v5_49 v6_49 v8_49 v9_49 v12_49 v13_49 v14_49 v15_49 v16_49 v17_49 v18_49 v19_49 v20_49 v21_49 v22_49 v23_49 v25_49 v36_49 v37_49 v38_49 v39_49 v40_49 v45_49 v46_49 v47_49 v48_49 v50_49 v51_49 v53_49 v55_49 hf50 hv0_49 hv2_49 hg2_49 hv3_49 hg3_49 hv4_49 hg4_49 hv5_49 hg5_49 hv6_49 hg6_49 hv8_49 hg8_49 hv9_49 hg9_49 hv12_49 hv13_49 hg13_49 hv14_49 hg14_49 hv15_49 hg15_49 hv17_49 hg17_49 hv20_49 hg20_49 hv23_49 hg23_49 hv25_49 hg25_49 hv36_49 hg36_49 hv47_49 hg47_49 hv48_49 hg48_49 hv53_49 hg53_49 hv55_49 hg55_49 hrel0_49 => ?_)
              have hg2_49 : v2_49.toInt = th 13 := hg2_49
              have hg3_49 : v3_49.toInt = th 37 := hg3_49
              have hg4_49 : v4_49.toInt = th 42 := hg4_49
              have hg5_49 : v5_49.toInt = th 40 := hg5_49
              have hg6_49 : v6_49.toInt = th 41 := hg6_49
              have hg8_49 : v8_49.toInt = th 43 := hg8_49
              have hg9_49 : v9_49.toInt = th 35 := hg9_49
              have hg13_49 : v13_49.toInt = th 36 := hg13_49
              have hg14_49 : v14_49.toInt = th 10 := hg14_49
              have hg15_49 : v15_49.toInt = th 11 := hg15_49
              have hg17_49 : v17_49.toInt = y27_l3.toInt := hg17_49
              have hg20_49 : v20_49.toInt = zg27_zl := hg20_49
              have hg23_49 : v23_49.toInt = th 15 := hg23_49
              have hg25_49 : v25_49.toInt = th 44 := hg25_49
              have hg36_49 : v36_49.toInt = zg27_zg := hg36_49
              have hg47_49 : v47_49.toInt = th 16 := hg47_49
              have hg48_49 : v48_49.toInt = th 17 := hg48_49
              have hg53_49 : v53_49.toInt = th 38 := hg53_49
              have hg55_49 : v55_49.toInt = th 39 := hg55_49
              refine call_i (run_V (rm := rm_X11_leastBroken) hx hb hml hown hts (s_X11_leastBroken l g ad (gset (gset (gset th 14 zg27_zl) 18 zg27_zg) 12 y27_l3.toInt) _ _ _  hst hT (show 3 ≤ th 11 by omega)) cV_X11_leastBroken wg_1838 ⟨Nat.le_of_ble_eq_true rfl, Nat.le_of_ble_eq_true rfl⟩ hG hE hA hP hD hS (hst.1 255 (by decide)) hf50 rfl rfl hl.1 (As := []) (rest := []) rfl (Nat.le_of_ble_eq_true rfl) dX11_needed_54 ⟨Nat.le_of_ble_eq_true rfl, Nat.le_of_ble_eq_true rfl⟩) hA hD hS (fun r51 L52 f53 H locs hp54 hP hD hS => ?_)
              obtain ⟨eL55L, eL55T, eL55F⟩ := hp54
              have eL55L : L52 = L := eL55L
              rw [eL55L] at hP hD
              obtain ⟨zz56, hzz56, eL55T⟩ := eL55T
              have hzz56 : True := hzz56
              have hT : TI g ad (gset (gset (gset (gset th 14 zg27_zl) 18 zg27_zg) 12 y27_l3.toInt) 18 zz56) f53 := eL55T
              have hT : TI g ad (gset (gset (gset th 14 zg27_zl) 12 y27_l3.toInt) 18 zz56) f53 := TI.cast hT (by funext q; by_cases hq0 : q = 18; (subst hq0; rfl); by_cases hq1 : q = 12; (subst hq1; rfl); by_cases hq2 : q = 14; (subst hq2; rfl); simp only [gset, if_neg hq0, if_neg hq1, if_neg hq2])
              have eL55F : ∀ b, b ≠ (ad 255) → b ≠ (ad 265) → b ≠ (ad 266) → b ≠ (ad 267) → b ≠ (ad 268) → b ≠ (ad 269) → b ≠ (ad 270) → b ≠ (ad 261) → b ≠ (ad 262) → b ≠ (ad 263) → b ≠ (ad 264) → f53 b = f46 b := eL55F
              have hfr : (∀ b, b ≠ (ad 255) → b ≠ (ad 265) → b ≠ (ad 266) → b ≠ (ad 267) → b ≠ (ad 268) → b ≠ (ad 269) → b ≠ (ad 270) → b ≠ (ad 260) → b ≠ (ad 261) → b ≠ (ad 262) → b ≠ (ad 263) → b ≠ (ad 264) → f53 b = f b) := fun b z0_ z1_ z2_ z3_ z4_ z5_ z6_ z7_ z8_ z9_ z10_ z11_ => (eL55F b z0_ z1_ z2_ z3_ z4_ z5_ z6_ z8_ z9_ z10_ z11_).trans (hfr b z0_ z1_ z2_ z3_ z4_ z5_ z6_ z7_ z8_ z9_ z10_ z11_)
              refine lv_iconst (v := (-1)) hx hb dX11_needed_57 (by decide) ?_
              have hJ63 : ∀ (y63_l2 : Int32) (H : Heap) (locs : List Loc) (ls : Array Slot), In y63_l2 (-1) 6 → va_P g.1 vwCl (va_pl L f53) H → va_D A (va_pl L f53) → va_S A s.heap H locs → lv_has ls 4 [(0, .ref (ad 255)), (1, .int v17_16), (2, .int y63_l2), (3, .int y27_l3)] → W p l e rm_X11_needed s m [.ref (ad 255)].toArray below meth c H locs 0 0 (MQ below (va_Qi (po_X11_needed g ad th L f ) (PstB g A) A) [.ref (ad 255)].toArray s rm_X11_needed.cells rm_X11_needed.slots A) (F0 m 63 ls []) := by
                intro y63_l2 H locs ls hy63_l2 hP hD hS hl
                obtain ⟨x57, ex57⟩ : ∃ y : Int32, y = y27_l3 + 1 := ⟨_, rfl⟩
                have hb58 : In x57 2 7 := ex57 ▸ In.add hb27 (⟨by decide, by decide⟩ : In 1 1 1) (by decide) (by decide) (by decide) (by decide)
                have et59 : x57.toInt = y27_l3.toInt + 1 := In.adde ex57 hb27 (k := 1) (by decide) (by decide) (by decide)
                refine lv_iinc (v := x57) (lv' := [(3, .int x57), (0, .ref (ad 255)), (1, .int v17_16), (2, .int y63_l2)]) hx hb dX11_needed_63 hl (k := 3) rfl (by rw [ex57]; rfl) (by decide) rfl (fun ls hl => ?_)
                refine lv_goto (tgt := 27) hx hb dX11_needed_66 (by decide) ?_
                exact ih27 y27_l3.toInt zg27_zl zz56 y63_l2 x57 _ _ _ _ hy63_l2 (In.mono hb58 (by decide) (by decide)) hP hD hS (TI.cast hT (by funext q; by_cases hq0 : q = 18; (subst hq0; rfl); by_cases hq1 : q = 12; (subst hq1; rfl); by_cases hq2 : q = 14; (subst hq2; rfl); simp only [gset, if_neg hq0, if_neg hq1, if_neg hq2])) hfr (lv_sub hl [1, 2, 3, 0] rfl) (msu et59 (by decide) hmz27)
              refine lv_icmp_ne (tgt := 63) hx hb dX11_needed_58 (by decide) (fun c60 => ?_) (fun c60 => ?_)
              ·
                have ocm1 : ((-1) : Int32).toInt = (-1) := by decide
                have cc61 : r51.toInt ≠ ((-1) : Int32).toInt := i32_ne c60
                exact hJ63 y27_l2 _ _ _ (In.mono hb32 (by decide) (by decide)) hP hD hS (lv_sub hl [0, 1, 2, 3] rfl)
              ·
                have ocm1 : ((-1) : Int32).toInt = (-1) := by decide
                have cc62 : r51.toInt = ((-1) : Int32).toInt := congrArg Int32.toInt c60
                have hb63 : In r51 (-1) (-1) := In.eq1 (In.full r51) (⟨by decide, by decide⟩ : In (-1) (-1) (-1)) cc62 (by omega) (by omega)
                refine lv_iload_n hx hb dX11_needed_61 rfl (lv_at hl 3 rfl) ?_
                refine lv_istore_n (lv' := [(2, .int y27_l3), (0, .ref (ad 255)), (1, .int v17_16), (3, .int y27_l3)]) hx hb dX11_needed_62 rfl hl (by decide) rfl (fun ls hl => ?_)
                exact hJ63 y27_l3 _ _ _ (In.mono hb27 (by decide) (by decide)) hP hD hS (lv_sub hl [1, 2, 0, 3] rfl)
    exact hJ27 ((7 - (1 : Int32).toInt).toNat + 1) (th 12) zz15 zz14 (-1) 1 _ _ _ _ (⟨by decide, by decide⟩ : In (-1) (-1) 6) (⟨by decide, by decide⟩ : In 1 1 7) hP hD hS (TI.cast hT (by funext q; by_cases hq0 : q = 14; (subst hq0; rfl); by_cases hq1 : q = 18; (subst hq1; rfl); by_cases hq2 : q = 12; (subst hq2; rfl); simp only [gset, if_neg hq0, if_neg hq1, if_neg hq2])) hfr (lv_sub hl [3, 2, 1, 0] rfl) (msI _)
  ·
    have oc0 : (0 : Int32).toInt = 0 := by decide
    have cc64 : v23_1.toInt = (0 : Int32).toInt := congrArg Int32.toInt c6
    have hb65 : In v23_1 0 0 := In.eq1 hv23_1 (⟨by decide, by decide⟩ : In 0 0 0) cc64 (by omega) (by omega)
    refine lv_iconst (v := (-1)) hx hb dX11_needed_12 (by decide) ?_
    exact ret_i (ty := .int) hx hb hr hlocks (rfl) hP hD hS (Nat.le_of_ble_eq_true rfl) (Nat.le_of_ble_eq_true rfl) (⟨rfl, ⟨th, ⟨(show MI th from hM), (SBM.rf th)⟩, hT⟩, hfr⟩) dX11_needed_13

abbrev rm_X11_asOthers : Room := { frames := 5, cells := 0, slots := 0, locals := 125 }
abbrev po_X11_asOthers (g : GG) (ad : Nat → Nat) (th : Nat → Int) (L : List Nat) (f : HP) (z1 : Int32) : Int32 → (List Nat × HP) → Prop := fun r u => u.1 = L ∧ (∃ th' : Nat → Int, (MI th' ∧ SBM th th') ∧ TI g ad th' u.2) ∧ (∀ b, b ≠ (ad 255) → b ≠ (ad 265) → b ≠ (ad 266) → b ≠ (ad 267) → b ≠ (ad 268) → b ≠ (ad 269) → b ≠ (ad 270) → b ≠ (ad 260) → b ≠ (ad 261) → b ≠ (ad 262) → b ≠ (ad 263) → b ≠ (ad 264) → u.2 b = f b)
set_option maxHeartbeats 4000000 in
set_option maxRecDepth 100000 in
theorem s_X11_asOthers (l : Launch) (g : GG) (ad : Nat → Nat) (th : Nat → Int) (L : List Nat) (f : HP) (sz : Nat) (z1 : Int32) (hst : ST ad L) (hT : TI g ad th f) (hM : MI th) : MtI l g yX11_asOthers cX11_asOthers 6 (some .int) rm_X11_asOthers [.ref (ad 255), .int z1] L f sz (po_X11_asOthers g ad th L f z1) := by
  refine MtI.of (by decide +kernel) (Nat.le_of_ble_eq_true rfl) ?_
  intro p e s m below meth c A hEn hP hD hS ls hl
  obtain ⟨hx, hb, hr, hml, hown, hlocks, hts, hG, hA, hE, hnm⟩ := hEn
  have hown : s.vm.findClass "RulerWordModel" = some m.cls := hown
  have hl : lv_has ls 6 [(0, .ref (ad 255)), (1, .int z1)] := hl
  have hfr : (∀ b, b ≠ (ad 255) → b ≠ (ad 265) → b ≠ (ad 266) → b ≠ (ad 267) → b ≠ (ad 268) → b ≠ (ad 269) → b ≠ (ad 270) → b ≠ (ad 260) → b ≠ (ad 261) → b ≠ (ad 262) → b ≠ (ad 263) → b ≠ (ad 264) → f b = f b) := fun b z0_ z1_ z2_ z3_ z4_ z5_ z6_ z7_ z8_ z9_ z10_ z11_ => rfl
  have hM0 := hM
  obtain ⟨m1, m2, m3, m4, m5, m6, m7, m8, m9, m10⟩ := hM0
  have m20 := mi20 m2 m3
  refine lv_aload_n hx hb dX11_asOthers_0 rfl (lv_at hl 0 rfl) ?_
  refine lv_iconst (v := 0) hx hb dX11_asOthers_1 (by decide) ?_
  refine M0e hT (fun v0_1 v2_1 v3_1 v4_1 v5_1 v6_1 v8_1 v9_1 v12_1 v13_1 v14_1 v15_1 v16_1 v17_1 v18_1 v19_1 v20_1 v21_1 v22_1 v23_1 v25_1 v36_1 v37_1 v38_1 v39_1 v40_1 v45_1 v46_1 v47_1 v48_1 v50_1 v51_1 v53_1 v55_1 hf2 hv0_1 hv2_1 hg2_1 hv3_1 hg3_1 hv4_1 hg4_1 hv5_1 hg5_1 hv6_1 hg6_1 hv8_1 hg8_1 hv9_1 hg9_1 hv12_1 hv13_1 hg13_1 hv14_1 hg14_1 hv15_1 hg15_1 hv17_1 hg17_1 hv20_1 hg20_1 hv23_1 hg23_1 hv25_1 hg25_1 hv36_1 hg36_1 hv47_1 hg47_1 hv48_1 hg48_1 hv53_1 hg53_1 hv55_1 hg55_1 hrel0_1 => ?_)
  refine pl_put (ty := .int) (v := .int 0) (fs' := [.int 0, .ref (ad 256), .int v2_1, .int v3_1, .int v4_1, .int v5_1, .int v6_1, .ref (ad 257), .int v8_1, .int v9_1, .ref (ad 258), .ref (ad 259), .int v12_1, .int v13_1, .int v14_1, .int v15_1, .int v16_1, .int v17_1, .int v18_1, .int v19_1, .int v20_1, .long v21_1, .long v22_1, .int v23_1, .ref (ad 260), .int v25_1, .ref (ad 261), .ref (ad 262), .ref (ad 263), .ref (ad 264), .ref (ad 265), .ref (ad 266), .ref (ad 267), .ref (ad 268), .ref (ad 269), .ref (ad 270), .int v36_1, .int v37_1, .int v38_1, .int v39_1, .int v40_1, .ref (ad 271), .ref (ad 272), .ref (ad 273), .ref (ad 274), .long v45_1, .long v46_1, .int v47_1, .int v48_1, .ref (ad 275), .int v50_1, .int v51_1, .ref (ad 276), .int v53_1, .ref (ad 277), .int v55_1]) hx hb hts (fun w h => mT (inX11 w h)) tyX11 tyX11_ok nmX11 hown hG.1 hP hD hS (hst.1 255 (by decide)) hf2 rfl 0 (by decide) (hts _ (mT wg_1336)) (fun _ h => h) rfl (by decide +kernel) (rfl) (rfl) (Nat.le_of_ble_eq_true rfl) rfl dX11_asOthers_2 (fun H locs f3 hf4 ho5 hP hD hS => ?_)
  have hfr : (∀ b, b ≠ (ad 255) → b ≠ (ad 265) → b ≠ (ad 266) → b ≠ (ad 267) → b ≠ (ad 268) → b ≠ (ad 269) → b ≠ (ad 270) → b ≠ (ad 260) → b ≠ (ad 261) → b ≠ (ad 262) → b ≠ (ad 263) → b ≠ (ad 264) → f3 b = f b) := fun b z0_ z1_ z2_ z3_ z4_ z5_ z6_ z7_ z8_ z9_ z10_ z11_ => (ho5 b z0_).trans (hfr b z0_ z1_ z2_ z3_ z4_ z5_ z6_ z7_ z8_ z9_ z10_ z11_)
  refine lv_aload_n hx hb dX11_asOthers_5 rfl (lv_at hl 0 rfl) ?_
  refine pl_get (v := .int v23_1) hx hb hts (fun w h => mT (inX11 w h)) hown hG.1 hP (hst.1 255 (by decide)) hf4 rfl 23 (by decide) (hts _ (mT wg_1359)) (fun _ h => h) rfl dX11_asOthers_6 ?_
  have hT := TI.updM hT hst (k := 0) (by decide) hf4 ho5 ⟨0, v2_1, v3_1, v4_1, v5_1, v6_1, v8_1, v9_1, v12_1, v13_1, v14_1, v15_1, v16_1, v17_1, v18_1, v19_1, v20_1, v21_1, v22_1, v23_1, v25_1, v36_1, v37_1, v38_1, v39_1, v40_1, v45_1, v46_1, v47_1, v48_1, v50_1, v51_1, v53_1, v55_1, rfl, (⟨by decide, by decide⟩ : In 0 0 1), hv2_1, hg2_1, hv3_1, hg3_1, hv4_1, hg4_1, hv5_1, hg5_1, hv6_1, hg6_1, hv8_1, hg8_1, hv9_1, hg9_1, hv12_1, hv13_1, hg13_1, hv14_1, hg14_1, hv15_1, hg15_1, hv17_1, hg17_1, hv20_1, hg20_1, hv23_1, hg23_1, hv25_1, hg25_1, hv36_1, hg36_1, hv47_1, hg47_1, hv48_1, hg48_1, hv53_1, hg53_1, hv55_1, hg55_1, hrel0_1⟩
  have hJ24 : ∀ (H : Heap) (locs : List Loc) (ls : Array Slot), va_P g.1 vwCl (va_pl L f3) H → va_D A (va_pl L f3) → va_S A s.heap H locs → lv_has ls 6 [(0, .ref (ad 255)), (1, .int z1)] → W p l e rm_X11_asOthers s m [.ref (ad 255), .int z1].toArray below meth c H locs 0 0 (MQ below (va_Qi (po_X11_asOthers g ad th L f z1) (PstB g A) A) [.ref (ad 255), .int z1].toArray s rm_X11_asOthers.cells rm_X11_asOthers.slots A) (F0 m 24 ls []) := by
    intro H locs ls hP hD hS hl
    refine lv_bipush (v := (-2)) hx hb dX11_asOthers_24 (by decide) ?_
    exact ret_i (ty := .int) hx hb hr hlocks (rfl) hP hD hS (Nat.le_of_ble_eq_true rfl) (Nat.le_of_ble_eq_true rfl) (⟨rfl, ⟨th, ⟨(show MI th from hM), (SBM.rf th)⟩, hT⟩, hfr⟩) dX11_asOthers_26
  refine lv_if_eq (tgt := 24) hx hb dX11_asOthers_9 (by decide) (fun c6 => ?_) (fun c6 => ?_)
  ·
    have oc0 : (0 : Int32).toInt = 0 := by decide
    have cc7 : v23_1.toInt = (0 : Int32).toInt := congrArg Int32.toInt c6
    have hb8 : In v23_1 0 0 := In.eq1 hv23_1 (⟨by decide, by decide⟩ : In 0 0 0) cc7 (by omega) (by omega)
    exact hJ24 _ _ _ hP hD hS (lv_sub hl [0, 1] rfl)
  ·
    have oc0 : (0 : Int32).toInt = 0 := by decide
    have cc9 : v23_1.toInt ≠ (0 : Int32).toInt := i32_ne c6
    have hb10 : In v23_1 1 1 := In.ne1 hv23_1 (⟨by decide, by decide⟩ : In 0 0 0) cc9 (by omega) (by omega)
    refine lv_iload_n hx hb dX11_asOthers_12 rfl (lv_at hl 1 rfl) ?_
    refine lv_i2l hx hb dX11_asOthers_13 rfl ?_
    refine lv_lconst (v := 0) hx hb dX11_asOthers_14 (by decide) ?_
    refine lv_ldc2 hx hb hown (hts _ (mT wg_1681)) dX11_asOthers_15 ?_
    refine call_i (run_S (rm := rm_X11_isIn) hx hb hml hown hts (s_X11_isIn l g ad th _ _ _ (z1.toInt64) 0 3 hst hT ) cS_X11_isIn wg_1581 ⟨Nat.le_of_ble_eq_true rfl, Nat.le_of_ble_eq_true rfl⟩ hG hE hA hP hD hS rfl hl.1 (As := [.long (z1.toInt64), .long 0, .long 3]) (rest := []) rfl (Nat.le_of_ble_eq_true rfl) dX11_asOthers_18 ⟨Nat.le_of_ble_eq_true rfl, Nat.le_of_ble_eq_true rfl⟩) hA hD hS (fun r11 L12 f13 H locs hp14 hP hD hS => ?_)
    obtain ⟨eL15L, eL15T, eL15R, eL15X0, eL15X1⟩ := hp14
    have eL15L : L12 = L := eL15L
    have eL15T : f13 = f3 := eL15T
    rw [eL15L, eL15T] at hP hD
    have eL15R : In r11 0 1 := eL15R
    have hii16 : r11.toInt = 0 ∨ (0 ≤ z1.toInt ∧ z1.toInt ≤ 3) := by have z := eL15X0; rw [i2l_t z1, (by decide : (0 : Int64).toInt = 0), (by decide : (3 : Int64).toInt = 3)] at z; exact z
    have hii16w : ¬ r11 = 0 → In z1 0 3 := fun c => by have c2 := i32_ne c; have e0 : (0 : Int32).toInt = 0 := (by decide); exact ⟨by omega, by omega⟩
    refine lv_if_ne (tgt := 27) hx hb dX11_asOthers_21 (by decide) (fun c17 => ?_) (fun c17 => ?_)
    ·
      have oc0 : (0 : Int32).toInt = 0 := by decide
      have cc18 : r11.toInt ≠ (0 : Int32).toInt := i32_ne c17
      have hb19 : In r11 1 1 := In.ne1 eL15R (⟨by decide, by decide⟩ : In 0 0 0) cc18 (by omega) (by omega)
      have hb20 : In z1 0 3 := In.both (hii16w c17) (In.full z1) (by decide) (by decide)
      refine lv_aload_n hx hb dX11_asOthers_27 rfl (lv_at hl 0 rfl) ?_
      refine call_v (run_V (rm := rm_X11_takesUp) hx hb hml hown hts (s_X11_takesUp l g ad th _ _ _  hst hT (show (th 22) = 2126 from (by have ob10 : (0 : Int) ≤ (th 10) ∧ (th 10) ≤ 1 := (b0_10 hT :); have ob11 : (0 : Int) ≤ (th 11) ∧ (th 11) ≤ 9 := (b0_11 hT :); have ob12 : (0 : Int) ≤ (th 12) ∧ (th 12) ≤ 6 := (b0_12 hT :); have ob14 : (0 : Int) ≤ (th 14) ∧ (th 14) ≤ 511 := (b0_14 hT :); have ob15 : (0 : Int) ≤ (th 15) ∧ (th 15) ≤ 1 := (b0_15 hT :); have ob16 : (0 : Int) ≤ (th 16) ∧ (th 16) ≤ 20 := (b0_16 hT :); have ob17 : (0 : Int) ≤ (th 17) ∧ (th 17) ≤ 1 := (b0_17 hT :); have ob18 : (0 : Int) ≤ (th 18) ∧ (th 18) ≤ 18 := (b0_18 hT :); have ob38 : (0 : Int) ≤ (th 38) ∧ (th 38) ≤ 400 := (b0_38 hT :); have ob39 : (0 : Int) ≤ (th 39) ∧ (th 39) ≤ 200 := (b0_39 hT :); have ob44 : (0 : Int) ≤ (th 44) ∧ (th 44) ≤ 30 := (b0_44 hT :); obtain ⟨o0a, o0b⟩ := (hv14_1 : In _ _ _); obtain ⟨o1a, o1b⟩ := (hv15_1 : In _ _ _); obtain ⟨o2a, o2b⟩ := (hv17_1 : In _ _ _); obtain ⟨o3a, o3b⟩ := (hv20_1 : In _ _ _); obtain ⟨o4a, o4b⟩ := (hb10 : In _ _ _); obtain ⟨o5a, o5b⟩ := (hv25_1 : In _ _ _); obtain ⟨o6a, o6b⟩ := (hv36_1 : In _ _ _); obtain ⟨o7a, o7b⟩ := (hv47_1 : In _ _ _); obtain ⟨o8a, o8b⟩ := (hv48_1 : In _ _ _); obtain ⟨o9a, o9b⟩ := (hv53_1 : In _ _ _); obtain ⟨o10a, o10b⟩ := (hv55_1 : In _ _ _); omega)) (show (th 20) ≤ 18 from (by have ob10 : (0 : Int) ≤ (th 10) ∧ (th 10) ≤ 1 := (b0_10 hT :); have ob11 : (0 : Int) ≤ (th 11) ∧ (th 11) ≤ 9 := (b0_11 hT :); have ob12 : (0 : Int) ≤ (th 12) ∧ (th 12) ≤ 6 := (b0_12 hT :); have ob14 : (0 : Int) ≤ (th 14) ∧ (th 14) ≤ 511 := (b0_14 hT :); have ob15 : (0 : Int) ≤ (th 15) ∧ (th 15) ≤ 1 := (b0_15 hT :); have ob16 : (0 : Int) ≤ (th 16) ∧ (th 16) ≤ 20 := (b0_16 hT :); have ob17 : (0 : Int) ≤ (th 17) ∧ (th 17) ≤ 1 := (b0_17 hT :); have ob18 : (0 : Int) ≤ (th 18) ∧ (th 18) ≤ 18 := (b0_18 hT :); have ob38 : (0 : Int) ≤ (th 38) ∧ (th 38) ≤ 400 := (b0_38 hT :); have ob39 : (0 : Int) ≤ (th 39) ∧ (th 39) ≤ 200 := (b0_39 hT :); have ob44 : (0 : Int) ≤ (th 44) ∧ (th 44) ≤ 30 := (b0_44 hT :); obtain ⟨o0a, o0b⟩ := (hv14_1 : In _ _ _); obtain ⟨o1a, o1b⟩ := (hv15_1 : In _ _ _); obtain ⟨o2a, o2b⟩ := (hv17_1 : In _ _ _); obtain ⟨o3a, o3b⟩ := (hv20_1 : In _ _ _); obtain ⟨o4a, o4b⟩ := (hb10 : In _ _ _); obtain ⟨o5a, o5b⟩ := (hv25_1 : In _ _ _); obtain ⟨o6a, o6b⟩ := (hv36_1 : In _ _ _); obtain ⟨o7a, o7b⟩ := (hv47_1 : In _ _ _); obtain ⟨o8a, o8b⟩ := (hv48_1 : In _ _ _); obtain ⟨o9a, o9b⟩ := (hv53_1 : In _ _ _); obtain ⟨o10a, o10b⟩ := (hv55_1 : In _ _ _); omega)) (show (th 21) = (th 11) from (by have ob10 : (0 : Int) ≤ (th 10) ∧ (th 10) ≤ 1 := (b0_10 hT :); have ob11 : (0 : Int) ≤ (th 11) ∧ (th 11) ≤ 9 := (b0_11 hT :); have ob12 : (0 : Int) ≤ (th 12) ∧ (th 12) ≤ 6 := (b0_12 hT :); have ob14 : (0 : Int) ≤ (th 14) ∧ (th 14) ≤ 511 := (b0_14 hT :); have ob15 : (0 : Int) ≤ (th 15) ∧ (th 15) ≤ 1 := (b0_15 hT :); have ob16 : (0 : Int) ≤ (th 16) ∧ (th 16) ≤ 20 := (b0_16 hT :); have ob17 : (0 : Int) ≤ (th 17) ∧ (th 17) ≤ 1 := (b0_17 hT :); have ob18 : (0 : Int) ≤ (th 18) ∧ (th 18) ≤ 18 := (b0_18 hT :); have ob38 : (0 : Int) ≤ (th 38) ∧ (th 38) ≤ 400 := (b0_38 hT :); have ob39 : (0 : Int) ≤ (th 39) ∧ (th 39) ≤ 200 := (b0_39 hT :); have ob44 : (0 : Int) ≤ (th 44) ∧ (th 44) ≤ 30 := (b0_44 hT :); obtain ⟨o0a, o0b⟩ := (hv14_1 : In _ _ _); obtain ⟨o1a, o1b⟩ := (hv15_1 : In _ _ _); obtain ⟨o2a, o2b⟩ := (hv17_1 : In _ _ _); obtain ⟨o3a, o3b⟩ := (hv20_1 : In _ _ _); obtain ⟨o4a, o4b⟩ := (hb10 : In _ _ _); obtain ⟨o5a, o5b⟩ := (hv25_1 : In _ _ _); obtain ⟨o6a, o6b⟩ := (hv36_1 : In _ _ _); obtain ⟨o7a, o7b⟩ := (hv47_1 : In _ _ _); obtain ⟨o8a, o8b⟩ := (hv48_1 : In _ _ _); obtain ⟨o9a, o9b⟩ := (hv53_1 : In _ _ _); obtain ⟨o10a, o10b⟩ := (hv55_1 : In _ _ _); omega))) cV_X11_takesUp wg_1648 ⟨Nat.le_of_ble_eq_true rfl, Nat.le_of_ble_eq_true rfl⟩ hG hE hA hP hD hS (hst.1 255 (by decide)) hf4 rfl rfl hl.1 (As := []) (rest := []) rfl (Nat.le_of_ble_eq_true rfl) dX11_asOthers_28 ⟨Nat.le_of_ble_eq_true rfl, Nat.le_of_ble_eq_true rfl⟩) hA hD hS (fun L22 f23 H locs hp24 hP hD hS => ?_)
      obtain ⟨eL25L, eL25T, eL25F⟩ := hp24
      have eL25L : L22 = L := eL25L
      rw [eL25L] at hP hD
      obtain ⟨zz26, zz27, hzz26, eL25T⟩ := eL25T
      have hzz26 : ((zz26 = (th 19) ∧ 0 ≤ zz26 ∧ zz26 ≤ (th 20)) ∧ (0 ≤ zz27 ∧ zz27 ≤ 511)) ∧ capI zz27 ((th 11)) := hzz26
      have hT : TI g ad (gset (gset th 18 zz26) 14 zz27) f23 := eL25T
      have eL25F : ∀ b, b ≠ (ad 255) → b ≠ (ad 265) → b ≠ (ad 266) → b ≠ (ad 267) → b ≠ (ad 269) → b ≠ (ad 260) → b ≠ (ad 261) → b ≠ (ad 262) → b ≠ (ad 263) → b ≠ (ad 264) → f23 b = f3 b := eL25F
      have hfr : (∀ b, b ≠ (ad 255) → b ≠ (ad 265) → b ≠ (ad 266) → b ≠ (ad 267) → b ≠ (ad 268) → b ≠ (ad 269) → b ≠ (ad 270) → b ≠ (ad 260) → b ≠ (ad 261) → b ≠ (ad 262) → b ≠ (ad 263) → b ≠ (ad 264) → f23 b = f b) := fun b z0_ z1_ z2_ z3_ z4_ z5_ z6_ z7_ z8_ z9_ z10_ z11_ => (eL25F b z0_ z1_ z2_ z3_ z5_ z7_ z8_ z9_ z10_ z11_).trans (hfr b z0_ z1_ z2_ z3_ z4_ z5_ z6_ z7_ z8_ z9_ z10_ z11_)
      refine lv_aload_n hx hb dX11_asOthers_31 rfl (lv_at hl 0 rfl) ?_
      refine M0e hT (fun v0_28 v2_28 v3_28 v4_28 v5_28 v6_28 v8_28 v9_28 v12_28 v13_28 v14_28 v15_28 v16_28 v17_28 v18_28 v19_28 v20_28 v21_28 v22_28 v23_28 v25_28 v36_28 v37_28 v38_28 v39_28 v40_28 v45_28 v46_28 v47_28 v48_28 v50_28 v51_28 v53_28 v55_28 hf29 hv0_28 hv2_28 hg2_28 hv3_28 hg3_28 hv4_28 hg4_28 hv5_28 hg5_28 hv6_28 hg6_28 hv8_28 hg8_28 hv9_28 hg9_28 hv12_28 hv13_28 hg13_28 hv14_28 hg14_28 hv15_28 hg15_28 hv17_28 hg17_28 hv20_28 hg20_28 hv23_28 hg23_28 hv25_28 hg25_28 hv36_28 hg36_28 hv47_28 hg47_28 hv48_28 hg48_28 hv53_28 hg53_28 hv55_28 hg55_28 hrel0_28 => ?_)
      have hg2_28 : v2_28.toInt = th 13 := hg2_28
      have hg3_28 : v3_28.toInt = th 37 := hg3_28
      have hg4_28 : v4_28.toInt = th 42 := hg4_28
      have hg5_28 : v5_28.toInt = th 40 := hg5_28
      have hg6_28 : v6_28.toInt = th 41 := hg6_28
      have hg8_28 : v8_28.toInt = th 43 := hg8_28
      have hg9_28 : v9_28.toInt = th 35 := hg9_28
      have hg13_28 : v13_28.toInt = th 36 := hg13_28
      have hg14_28 : v14_28.toInt = th 10 := hg14_28
      have hg15_28 : v15_28.toInt = th 11 := hg15_28
      have hg17_28 : v17_28.toInt = th 12 := hg17_28
      have hg20_28 : v20_28.toInt = zz27 := hg20_28
      have hg23_28 : v23_28.toInt = th 15 := hg23_28
      have hg25_28 : v25_28.toInt = th 44 := hg25_28
      have hg36_28 : v36_28.toInt = zz26 := hg36_28
      have hg47_28 : v47_28.toInt = th 16 := hg47_28
      have hg48_28 : v48_28.toInt = th 17 := hg48_28
      have hg53_28 : v53_28.toInt = th 38 := hg53_28
      have hg55_28 : v55_28.toInt = th 39 := hg55_28
      refine pl_get (v := .int v14_28) hx hb hts (fun w h => mT (inX11 w h)) hown hG.1 hP (hst.1 255 (by decide)) hf29 rfl 14 (by decide) (hts _ (mT wg_1350)) (fun _ h => h) rfl dX11_asOthers_32 ?_
      refine lv_istore_n (lv' := [(2, .int v14_28), (0, .ref (ad 255)), (1, .int z1)]) hx hb dX11_asOthers_35 rfl hl (by decide) rfl (fun ls hl => ?_)
      refine lv_aload_n hx hb dX11_asOthers_36 rfl (lv_at hl 1 rfl) ?_
      refine lv_iconst (v := 1) hx hb dX11_asOthers_37 (by decide) ?_
      refine lv_aload_n hx hb dX11_asOthers_38 rfl (lv_at hl 1 rfl) ?_
      refine pl_get (v := .int v14_28) hx hb hts (fun w h => mT (inX11 w h)) hown hG.1 hP (hst.1 255 (by decide)) hf29 rfl 14 (by decide) (hts _ (mT wg_1350)) (fun _ h => h) rfl dX11_asOthers_39 ?_
      refine lv_isub hx hb dX11_asOthers_42 ?_
      refine lv_topi (fun x30 ex30 => ?_)
      have hb31 : In x30 0 1 := ex30 ▸ In.sub (⟨by decide, by decide⟩ : In 1 1 1) hv14_28 (by decide) (by decide) (by decide) (by decide)
      have et32 : x30.toInt = (1 : Int32).toInt - v14_28.toInt := In.sub2e ex30 (⟨by decide, by decide⟩ : In 1 1 1) hv14_28 (by decide) (by decide)
      refine pl_put (ty := .int) (v := .int x30) (fs' := [.int v0_28, .ref (ad 256), .int v2_28, .int v3_28, .int v4_28, .int v5_28, .int v6_28, .ref (ad 257), .int v8_28, .int v9_28, .ref (ad 258), .ref (ad 259), .int v12_28, .int v13_28, .int x30, .int v15_28, .int v16_28, .int v17_28, .int v18_28, .int v19_28, .int v20_28, .long v21_28, .long v22_28, .int v23_28, .ref (ad 260), .int v25_28, .ref (ad 261), .ref (ad 262), .ref (ad 263), .ref (ad 264), .ref (ad 265), .ref (ad 266), .ref (ad 267), .ref (ad 268), .ref (ad 269), .ref (ad 270), .int v36_28, .int v37_28, .int v38_28, .int v39_28, .int v40_28, .ref (ad 271), .ref (ad 272), .ref (ad 273), .ref (ad 274), .long v45_28, .long v46_28, .int v47_28, .int v48_28, .ref (ad 275), .int v50_28, .int v51_28, .ref (ad 276), .int v53_28, .ref (ad 277), .int v55_28]) hx hb hts (fun w h => mT (inX11 w h)) tyX11 tyX11_ok nmX11 hown hG.1 hP hD hS (hst.1 255 (by decide)) hf29 rfl 14 (by decide) (hts _ (mT wg_1350)) (fun _ h => h) rfl (by decide +kernel) (rfl) (rfl) (Nat.le_of_ble_eq_true rfl) rfl dX11_asOthers_43 (fun H locs f33 hf34 ho35 hP hD hS => ?_)
      have hfr : (∀ b, b ≠ (ad 255) → b ≠ (ad 265) → b ≠ (ad 266) → b ≠ (ad 267) → b ≠ (ad 268) → b ≠ (ad 269) → b ≠ (ad 270) → b ≠ (ad 260) → b ≠ (ad 261) → b ≠ (ad 262) → b ≠ (ad 263) → b ≠ (ad 264) → f33 b = f b) := fun b z0_ z1_ z2_ z3_ z4_ z5_ z6_ z7_ z8_ z9_ z10_ z11_ => (ho35 b z0_).trans (hfr b z0_ z1_ z2_ z3_ z4_ z5_ z6_ z7_ z8_ z9_ z10_ z11_)
      refine lv_aload_n hx hb dX11_asOthers_46 rfl (lv_at hl 1 rfl) ?_
      refine lv_iconst (v := 0) hx hb dX11_asOthers_47 (by decide) ?_
      refine pl_put (ty := .int) (v := .int 0) (fs' := [.int v0_28, .ref (ad 256), .int v2_28, .int v3_28, .int v4_28, .int v5_28, .int v6_28, .ref (ad 257), .int v8_28, .int v9_28, .ref (ad 258), .ref (ad 259), .int v12_28, .int v13_28, .int x30, .int v15_28, .int v16_28, .int v17_28, .int v18_28, .int v19_28, .int v20_28, .long v21_28, .long v22_28, .int v23_28, .ref (ad 260), .int 0, .ref (ad 261), .ref (ad 262), .ref (ad 263), .ref (ad 264), .ref (ad 265), .ref (ad 266), .ref (ad 267), .ref (ad 268), .ref (ad 269), .ref (ad 270), .int v36_28, .int v37_28, .int v38_28, .int v39_28, .int v40_28, .ref (ad 271), .ref (ad 272), .ref (ad 273), .ref (ad 274), .long v45_28, .long v46_28, .int v47_28, .int v48_28, .ref (ad 275), .int v50_28, .int v51_28, .ref (ad 276), .int v53_28, .ref (ad 277), .int v55_28]) hx hb hts (fun w h => mT (inX11 w h)) tyX11 tyX11_ok nmX11 hown hG.1 hP hD hS (hst.1 255 (by decide)) hf34 rfl 25 (by decide) (hts _ (mT wg_1361)) (fun _ h => h) rfl (by decide +kernel) (rfl) (rfl) (Nat.le_of_ble_eq_true rfl) rfl dX11_asOthers_48 (fun H locs f36 hf37 ho38 hP hD hS => ?_)
      have ho39 : ∀ b, b ≠ (ad 255) → f36 b = _ := fun b hb => (ho38 b hb).trans (ho35 b hb)
      have hfr : (∀ b, b ≠ (ad 255) → b ≠ (ad 265) → b ≠ (ad 266) → b ≠ (ad 267) → b ≠ (ad 268) → b ≠ (ad 269) → b ≠ (ad 270) → b ≠ (ad 260) → b ≠ (ad 261) → b ≠ (ad 262) → b ≠ (ad 263) → b ≠ (ad 264) → f36 b = f b) := fun b z0_ z1_ z2_ z3_ z4_ z5_ z6_ z7_ z8_ z9_ z10_ z11_ => (ho38 b z0_).trans (hfr b z0_ z1_ z2_ z3_ z4_ z5_ z6_ z7_ z8_ z9_ z10_ z11_)
      refine lv_aload_n hx hb dX11_asOthers_51 rfl (lv_at hl 1 rfl) ?_
      refine lv_iconst (v := 0) hx hb dX11_asOthers_52 (by decide) ?_
      refine pl_put (ty := .int) (v := .int 0) (fs' := [.int v0_28, .ref (ad 256), .int v2_28, .int v3_28, .int v4_28, .int v5_28, .int v6_28, .ref (ad 257), .int v8_28, .int v9_28, .ref (ad 258), .ref (ad 259), .int v12_28, .int v13_28, .int x30, .int v15_28, .int v16_28, .int v17_28, .int v18_28, .int v19_28, .int v20_28, .long v21_28, .long v22_28, .int v23_28, .ref (ad 260), .int 0, .ref (ad 261), .ref (ad 262), .ref (ad 263), .ref (ad 264), .ref (ad 265), .ref (ad 266), .ref (ad 267), .ref (ad 268), .ref (ad 269), .ref (ad 270), .int v36_28, .int v37_28, .int v38_28, .int 0, .int v40_28, .ref (ad 271), .ref (ad 272), .ref (ad 273), .ref (ad 274), .long v45_28, .long v46_28, .int v47_28, .int v48_28, .ref (ad 275), .int v50_28, .int v51_28, .ref (ad 276), .int v53_28, .ref (ad 277), .int v55_28]) hx hb hts (fun w h => mT (inX11 w h)) tyX11 tyX11_ok nmX11 hown hG.1 hP hD hS (hst.1 255 (by decide)) hf37 rfl 39 (by decide) (hts _ (mT wg_1375)) (fun _ h => h) rfl (by decide +kernel) (rfl) (rfl) (Nat.le_of_ble_eq_true rfl) rfl dX11_asOthers_53 (fun H locs f40 hf41 ho42 hP hD hS => ?_)
      have ho43 : ∀ b, b ≠ (ad 255) → f40 b = _ := fun b hb => (ho42 b hb).trans (ho39 b hb)
      have hfr : (∀ b, b ≠ (ad 255) → b ≠ (ad 265) → b ≠ (ad 266) → b ≠ (ad 267) → b ≠ (ad 268) → b ≠ (ad 269) → b ≠ (ad 270) → b ≠ (ad 260) → b ≠ (ad 261) → b ≠ (ad 262) → b ≠ (ad 263) → b ≠ (ad 264) → f40 b = f b) := fun b z0_ z1_ z2_ z3_ z4_ z5_ z6_ z7_ z8_ z9_ z10_ z11_ => (ho42 b z0_).trans (hfr b z0_ z1_ z2_ z3_ z4_ z5_ z6_ z7_ z8_ z9_ z10_ z11_)
      refine lv_aload_n hx hb dX11_asOthers_56 rfl (lv_at hl 1 rfl) ?_
      have hT := TI.updMG (th' := (gset (gset (gset (gset th 18 zz26) 14 zz27) 10 (x30.toInt)) 44 (0))) hT hst (k := 0) (by decide) hf41 ho43 ⟨v0_28, v2_28, v3_28, v4_28, v5_28, v6_28, v8_28, v9_28, v12_28, v13_28, x30, v15_28, v16_28, v17_28, v18_28, v19_28, v20_28, v21_28, v22_28, v23_28, 0, v36_28, v37_28, v38_28, 0, v40_28, v45_28, v46_28, v47_28, v48_28, v50_28, v51_28, v53_28, v55_28, rfl, hv0_28, hv2_28, hg2_28, hv3_28, hg3_28, hv4_28, hg4_28, hv5_28, hg5_28, hv6_28, hg6_28, hv8_28, hg8_28, hv9_28, hg9_28, hv12_28, hv13_28, hg13_28, hb31, rfl, hv15_28, hg15_28, hv17_28, hg17_28, hv20_28, hg20_28, hv23_28, hg23_28, (⟨by decide, by decide⟩ : In 0 0 30), (show (0 : Int32).toInt = 0 by decide), hv36_28, hg36_28, hv47_28, hg47_28, hv48_28, hg48_28, hv53_28, hg53_28, hv55_28, hg55_28, hrel0_28⟩ (fun q hq => ((gset_ne (fun e => hq (by subst e; decide))).trans ((gset_ne (fun e => hq (by subst e; decide))).trans rfl)))
      have hT : TI g ad (gset (gset (gset (gset th 18 zz26) 14 zz27) 10 x30.toInt) 44 0) f40 := TI.cast hT (by funext q; by_cases hq0 : q = 44; (subst hq0; rfl); by_cases hq1 : q = 10; (subst hq1; rfl); by_cases hq2 : q = 14; (subst hq2; rfl); by_cases hq3 : q = 18; (subst hq3; rfl); simp only [gset, if_neg hq0, if_neg hq1, if_neg hq2, if_neg hq3])
      refine M0e hT (fun v0_44 v2_44 v3_44 v4_44 v5_44 v6_44 v8_44 v9_44 v12_44 v13_44 v14_44 v15_44 v16_44 v17_44 v18_44 v19_44 v20_44 v21_44 v22_44 v23_44 v25_44 v36_44 v37_44 v38_44 v39_44 v40_44 v45_44 v46_44 v47_44 v48_44 v50_44 v51_44 v53_44 v55_44 hf45 hv0_44 hv2_44 hg2_44 hv3_44 hg3_44 hv4_44 hg4_44 hv5_44 hg5_44 hv6_44 hg6_44 hv8_44 hg8_44 hv9_44 hg9_44 hv12_44 hv13_44 hg13_44 hv14_44 hg14_44 hv15_44 hg15_44 hv17_44 hg17_44 hv20_44 hg20_44 hv23_44 hg23_44 hv25_44 hg25_44 hv36_44 hg36_44 hv47_44 hg47_44 hv48_44 hg48_44 hv53_44 hg53_44 hv55_44 hg55_44 hrel0_44 => ?_)
      have hg2_44 : v2_44.toInt = th 13 := hg2_44
      have hg3_44 : v3_44.toInt = th 37 := hg3_44
      have hg4_44 : v4_44.toInt = th 42 := hg4_44
      have hg5_44 : v5_44.toInt = th 40 := hg5_44
      have hg6_44 : v6_44.toInt = th 41 := hg6_44
      have hg8_44 : v8_44.toInt = th 43 := hg8_44
      have hg9_44 : v9_44.toInt = th 35 := hg9_44
      have hg13_44 : v13_44.toInt = th 36 := hg13_44
      have hg14_44 : v14_44.toInt = x30.toInt := hg14_44
      have hg15_44 : v15_44.toInt = th 11 := hg15_44
      have hg17_44 : v17_44.toInt = th 12 := hg17_44
      have hg20_44 : v20_44.toInt = zz27 := hg20_44
      have hg23_44 : v23_44.toInt = th 15 := hg23_44
      have hg25_44 : v25_44.toInt = 0 := hg25_44
      have hg36_44 : v36_44.toInt = zz26 := hg36_44
      have hg47_44 : v47_44.toInt = th 16 := hg47_44
      have hg48_44 : v48_44.toInt = th 17 := hg48_44
      have hg53_44 : v53_44.toInt = th 38 := hg53_44
      have hg55_44 : v55_44.toInt = th 39 := hg55_44
      refine call_v (run_V (rm := rm_X11_startsAnew) hx hb hml hown hts (s_X11_startsAnew l g ad (gset (gset (gset (gset th 18 zz26) 14 zz27) 10 x30.toInt) 44 0) _ _ _  hst hT ) cV_X11_startsAnew wg_1616 ⟨Nat.le_of_ble_eq_true rfl, Nat.le_of_ble_eq_true rfl⟩ hG hE hA hP hD hS (hst.1 255 (by decide)) hf45 rfl rfl hl.1 (As := []) (rest := []) rfl (Nat.le_of_ble_eq_true rfl) dX11_asOthers_57 ⟨Nat.le_of_ble_eq_true rfl, Nat.le_of_ble_eq_true rfl⟩) hA hD hS (fun L47 f48 H locs hp49 hP hD hS => ?_)
      obtain ⟨eL50L, eL50T, eL50F⟩ := hp49
      have eL50L : L47 = L := eL50L
      rw [eL50L] at hP hD
      have hT : TI g ad (gset (gset (gset (gset (gset th 18 zz26) 14 zz27) 10 x30.toInt) 44 0) 18 0) f48 := eL50T
      have hT : TI g ad (gset (gset (gset (gset th 14 zz27) 10 x30.toInt) 44 0) 18 0) f48 := TI.cast hT (by funext q; by_cases hq0 : q = 18; (subst hq0; rfl); by_cases hq1 : q = 44; (subst hq1; rfl); by_cases hq2 : q = 10; (subst hq2; rfl); by_cases hq3 : q = 14; (subst hq3; rfl); simp only [gset, if_neg hq0, if_neg hq1, if_neg hq2, if_neg hq3])
      have eL50F : ∀ b, b ≠ (ad 255) → b ≠ (ad 261) → b ≠ (ad 262) → f48 b = f40 b := eL50F
      have hfr : (∀ b, b ≠ (ad 255) → b ≠ (ad 265) → b ≠ (ad 266) → b ≠ (ad 267) → b ≠ (ad 268) → b ≠ (ad 269) → b ≠ (ad 270) → b ≠ (ad 260) → b ≠ (ad 261) → b ≠ (ad 262) → b ≠ (ad 263) → b ≠ (ad 264) → f48 b = f b) := fun b z0_ z1_ z2_ z3_ z4_ z5_ z6_ z7_ z8_ z9_ z10_ z11_ => (eL50F b z0_ z8_ z9_).trans (hfr b z0_ z1_ z2_ z3_ z4_ z5_ z6_ z7_ z8_ z9_ z10_ z11_)
      refine lv_iconst (v := (-1)) hx hb dX11_asOthers_60 (by decide) ?_
      refine lv_istore_n (lv' := [(3, .int (-1)), (2, .int v14_28), (0, .ref (ad 255)), (1, .int z1)]) hx hb dX11_asOthers_61 rfl hl (by decide) rfl (fun ls hl => ?_)
      refine lv_iconst (v := 0) hx hb dX11_asOthers_62 (by decide) ?_
      refine lv_istore (lv' := [(4, .int 0), (3, .int (-1)), (2, .int v14_28), (0, .ref (ad 255)), (1, .int z1)]) hx hb dX11_asOthers_63 hl (by decide) rfl (fun ls hl => ?_)
      have hJ65 : ∀ (k65 : Nat) (zg65_zg : Int) (y65_l3 : Int32) (y65_l4 : Int32) (f_65 : HP) (H : Heap) (locs : List Loc) (ls : Array Slot), (0 ≤ zg65_zg ∧ zg65_zg ≤ 3 * y65_l4.toInt) → In y65_l3 (-1) 5 → In y65_l4 0 6 → va_P g.1 vwCl (va_pl L f_65) H → va_D A (va_pl L f_65) → va_S A s.heap H locs → TI g ad (gset (gset (gset (gset th 14 zz27) 10 x30.toInt) 44 0) 18 zg65_zg) f_65 → (∀ b, b ≠ (ad 255) → b ≠ (ad 265) → b ≠ (ad 266) → b ≠ (ad 267) → b ≠ (ad 268) → b ≠ (ad 269) → b ≠ (ad 270) → b ≠ (ad 260) → b ≠ (ad 261) → b ≠ (ad 262) → b ≠ (ad 263) → b ≠ (ad 264) → f_65 b = f b) → lv_has ls 6 [(0, .ref (ad 255)), (1, .int z1), (2, .int v14_28), (3, .int y65_l3), (4, .int y65_l4)] → 6 - y65_l4.toInt < ((k65 : Nat) : Int) → W p l e rm_X11_asOthers s m [.ref (ad 255), .int z1].toArray below meth c H locs 0 0 (MQ below (va_Qi (po_X11_asOthers g ad th L f z1) (PstB g A) A) [.ref (ad 255), .int z1].toArray s rm_X11_asOthers.cells rm_X11_asOthers.slots A) (F0 m 65 ls []) := by
        intro k65
        induction k65 with
        | zero =>
          intro zg65_zg y65_l3 y65_l4 f_65 H locs ls hzg65 hy65_l3 hy65_l4 hP hD hS hT hfr hl hmz65
          exact ms0 hy65_l4 hmz65
        | succ k65 ih65 =>
          intro zg65_zg y65_l3 y65_l4 f_65 H locs ls hzg65 hy65_l3 hy65_l4 hP hD hS hT hfr hl hmz65
          refine lv_iload hx hb dX11_asOthers_65 (lv_at hl 4 rfl) ?_
          refine lv_aload_n hx hb dX11_asOthers_67 rfl (lv_at hl 0 rfl) ?_
          refine M0e hT (fun v0_51 v2_51 v3_51 v4_51 v5_51 v6_51 v8_51 v9_51 v12_51 v13_51 v14_51 v15_51 v16_51 v17_51 v18_51 v19_51 v20_51 v21_51 v22_51 v23_51 v25_51 v36_51 v37_51 v38_51 v39_51 v40_51 v45_51 v46_51 v47_51 v48_51 v50_51 v51_51 v53_51 v55_51 hf52 hv0_51 hv2_51 hg2_51 hv3_51 hg3_51 hv4_51 hg4_51 hv5_51 hg5_51 hv6_51 hg6_51 hv8_51 hg8_51 hv9_51 hg9_51 hv12_51 hv13_51 hg13_51 hv14_51 hg14_51 hv15_51 hg15_51 hv17_51 hg17_51 hv20_51 hg20_51 hv23_51 hg23_51 hv25_51 hg25_51 hv36_51 hg36_51 hv47_51 hg47_51 hv48_51 hg48_51 hv53_51 hg53_51 hv55_51 hg55_51 hrel0_51 => ?_)
          have hg2_51 : v2_51.toInt = th 13 := hg2_51
          have hg3_51 : v3_51.toInt = th 37 := hg3_51
          have hg4_51 : v4_51.toInt = th 42 := hg4_51
          have hg5_51 : v5_51.toInt = th 40 := hg5_51
          have hg6_51 : v6_51.toInt = th 41 := hg6_51
          have hg8_51 : v8_51.toInt = th 43 := hg8_51
          have hg9_51 : v9_51.toInt = th 35 := hg9_51
          have hg13_51 : v13_51.toInt = th 36 := hg13_51
          have hg14_51 : v14_51.toInt = x30.toInt := hg14_51
          have hg15_51 : v15_51.toInt = th 11 := hg15_51
          have hg17_51 : v17_51.toInt = th 12 := hg17_51
          have hg20_51 : v20_51.toInt = zz27 := hg20_51
          have hg23_51 : v23_51.toInt = th 15 := hg23_51
          have hg25_51 : v25_51.toInt = 0 := hg25_51
          have hg36_51 : v36_51.toInt = zg65_zg := hg36_51
          have hg47_51 : v47_51.toInt = th 16 := hg47_51
          have hg48_51 : v48_51.toInt = th 17 := hg48_51
          have hg53_51 : v53_51.toInt = th 38 := hg53_51
          have hg55_51 : v55_51.toInt = th 39 := hg55_51
          refine pl_get (v := .int v17_51) hx hb hts (fun w h => mT (inX11 w h)) hown hG.1 hP (hst.1 255 (by decide)) hf52 rfl 17 (by decide) (hts _ (mT wg_1353)) (fun _ h => h) rfl dX11_asOthers_68 ?_
          refine lv_icmp_ge (tgt := 125) hx hb dX11_asOthers_71 (by decide) (fun c53 => ?_) (fun c53 => ?_)
          ·
            have cc54 : v17_51.toInt ≤ y65_l4.toInt := i32_le.mp c53
            refine lv_aload_n hx hb dX11_asOthers_125 rfl (lv_at hl 0 rfl) ?_
            refine lv_aload_n hx hb dX11_asOthers_126 rfl (lv_at hl 0 rfl) ?_
            refine pl_get (v := .int v14_51) hx hb hts (fun w h => mT (inX11 w h)) hown hG.1 hP (hst.1 255 (by decide)) hf52 rfl 14 (by decide) (hts _ (mT wg_1350)) (fun _ h => h) rfl dX11_asOthers_127 ?_
            refine call_i (run_V (rm := rm_X11_foretold) hx hb hml hown hts (s_X11_foretold l g ad (gset (gset (gset (gset th 14 zz27) 10 x30.toInt) 44 0) 18 zg65_zg) _ _ _ v14_51 hst hT ) cV_X11_foretold wg_1806 ⟨Nat.le_of_ble_eq_true rfl, Nat.le_of_ble_eq_true rfl⟩ hG hE hA hP hD hS (hst.1 255 (by decide)) hf52 rfl rfl hl.1 (As := [.int v14_51]) (rest := []) rfl (Nat.le_of_ble_eq_true rfl) dX11_asOthers_130 ⟨Nat.le_of_ble_eq_true rfl, Nat.le_of_ble_eq_true rfl⟩) hA hD hS (fun r55 L56 f57 H locs hp58 hP hD hS => ?_)
            obtain ⟨eL59L, eL59T⟩ := hp58
            have eL59L : L56 = L := eL59L
            have eL59T : f57 = f_65 := eL59T
            rw [eL59L, eL59T] at hP hD
            refine lv_istore (lv' := [(4, .int r55), (0, .ref (ad 255)), (1, .int z1), (2, .int v14_28), (3, .int y65_l3)]) hx hb dX11_asOthers_133 hl (by decide) rfl (fun ls hl => ?_)
            refine lv_aload_n hx hb dX11_asOthers_135 rfl (lv_at hl 1 rfl) ?_
            refine lv_iload_n hx hb dX11_asOthers_136 rfl (lv_at hl 3 rfl) ?_
            refine pl_put (ty := .int) (v := .int v14_28) (fs' := [.int v0_51, .ref (ad 256), .int v2_51, .int v3_51, .int v4_51, .int v5_51, .int v6_51, .ref (ad 257), .int v8_51, .int v9_51, .ref (ad 258), .ref (ad 259), .int v12_51, .int v13_51, .int v14_28, .int v15_51, .int v16_51, .int v17_51, .int v18_51, .int v19_51, .int v20_51, .long v21_51, .long v22_51, .int v23_51, .ref (ad 260), .int v25_51, .ref (ad 261), .ref (ad 262), .ref (ad 263), .ref (ad 264), .ref (ad 265), .ref (ad 266), .ref (ad 267), .ref (ad 268), .ref (ad 269), .ref (ad 270), .int v36_51, .int v37_51, .int v38_51, .int v39_51, .int v40_51, .ref (ad 271), .ref (ad 272), .ref (ad 273), .ref (ad 274), .long v45_51, .long v46_51, .int v47_51, .int v48_51, .ref (ad 275), .int v50_51, .int v51_51, .ref (ad 276), .int v53_51, .ref (ad 277), .int v55_51]) hx hb hts (fun w h => mT (inX11 w h)) tyX11 tyX11_ok nmX11 hown hG.1 hP hD hS (hst.1 255 (by decide)) hf52 rfl 14 (by decide) (hts _ (mT wg_1350)) (fun _ h => h) rfl (by decide +kernel) (rfl) (rfl) (Nat.le_of_ble_eq_true rfl) rfl dX11_asOthers_137 (fun H locs f60 hf61 ho62 hP hD hS => ?_)
            have hfr : (∀ b, b ≠ (ad 255) → b ≠ (ad 265) → b ≠ (ad 266) → b ≠ (ad 267) → b ≠ (ad 268) → b ≠ (ad 269) → b ≠ (ad 270) → b ≠ (ad 260) → b ≠ (ad 261) → b ≠ (ad 262) → b ≠ (ad 263) → b ≠ (ad 264) → f60 b = f b) := fun b z0_ z1_ z2_ z3_ z4_ z5_ z6_ z7_ z8_ z9_ z10_ z11_ => (ho62 b z0_).trans (hfr b z0_ z1_ z2_ z3_ z4_ z5_ z6_ z7_ z8_ z9_ z10_ z11_)
            refine lv_iload_n hx hb dX11_asOthers_140 rfl (lv_at hl 2 rfl) ?_
            have hT := TI.updMG (th' := (gset (gset (gset (gset (gset th 14 zz27) 10 x30.toInt) 44 0) 18 zg65_zg) 10 (v14_28.toInt))) hT hst (k := 0) (by decide) hf61 ho62 ⟨v0_51, v2_51, v3_51, v4_51, v5_51, v6_51, v8_51, v9_51, v12_51, v13_51, v14_28, v15_51, v16_51, v17_51, v18_51, v19_51, v20_51, v21_51, v22_51, v23_51, v25_51, v36_51, v37_51, v38_51, v39_51, v40_51, v45_51, v46_51, v47_51, v48_51, v50_51, v51_51, v53_51, v55_51, rfl, hv0_51, hv2_51, hg2_51, hv3_51, hg3_51, hv4_51, hg4_51, hv5_51, hg5_51, hv6_51, hg6_51, hv8_51, hg8_51, hv9_51, hg9_51, hv12_51, hv13_51, hg13_51, hv14_28, rfl, hv15_51, hg15_51, hv17_51, hg17_51, hv20_51, hg20_51, hv23_51, hg23_51, hv25_51, hg25_51, hv36_51, hg36_51, hv47_51, hg47_51, hv48_51, hg48_51, hv53_51, hg53_51, hv55_51, hg55_51, hrel0_51⟩ (fun q hq => ((gset_ne (fun e => hq (by subst e; decide))).trans rfl))
            have hT : TI g ad (gset (gset (gset (gset th 14 zz27) 44 0) 18 zg65_zg) 10 v14_28.toInt) f60 := TI.cast hT (by funext q; by_cases hq0 : q = 10; (subst hq0; rfl); by_cases hq1 : q = 18; (subst hq1; rfl); by_cases hq2 : q = 44; (subst hq2; rfl); by_cases hq3 : q = 14; (subst hq3; rfl); simp only [gset, if_neg hq0, if_neg hq1, if_neg hq2, if_neg hq3])
            refine lv_if_ne (tgt := 148) hx hb dX11_asOthers_141 (by decide) (fun c63 => ?_) (fun c63 => ?_)
            ·
              have oc0 : (0 : Int32).toInt = 0 := by decide
              have cc64 : z1.toInt ≠ (0 : Int32).toInt := i32_ne c63
              have hb65 : In z1 1 3 := In.ne1 hb20 (⟨by decide, by decide⟩ : In 0 0 0) cc64 (by omega) (by omega)
              refine lv_iload_n hx hb dX11_asOthers_148 rfl (lv_at hl 2 rfl) ?_
              refine lv_iconst (v := 1) hx hb dX11_asOthers_149 (by decide) ?_
              refine lv_icmp_ne (tgt := 160) hx hb dX11_asOthers_150 (by decide) (fun c66 => ?_) (fun c66 => ?_)
              ·
                have oc1 : (1 : Int32).toInt = 1 := by decide
                have cc67 : z1.toInt ≠ (1 : Int32).toInt := i32_ne c66
                have hb68 : In z1 2 3 := In.ne1 hb65 (⟨by decide, by decide⟩ : In 1 1 1) cc67 (by omega) (by omega)
                refine lv_iload_n hx hb dX11_asOthers_160 rfl (lv_at hl 2 rfl) ?_
                refine lv_iconst (v := 2) hx hb dX11_asOthers_161 (by decide) ?_
                refine lv_icmp_ne (tgt := 172) hx hb dX11_asOthers_162 (by decide) (fun c69 => ?_) (fun c69 => ?_)
                ·
                  have oc2 : (2 : Int32).toInt = 2 := by decide
                  have cc70 : z1.toInt ≠ (2 : Int32).toInt := i32_ne c69
                  have hb71 : In z1 3 3 := In.ne1 hb68 (⟨by decide, by decide⟩ : In 2 2 2) cc70 (by omega) (by omega)
                  refine lv_iload hx hb dX11_asOthers_172 (lv_at hl 0 rfl) ?_
                  exact ret_i (ty := .int) hx hb hr hlocks (rfl) hP hD hS (Nat.le_of_ble_eq_true rfl) (Nat.le_of_ble_eq_true rfl) (⟨rfl, ⟨(gset (gset (gset (gset th 14 zz27) 44 0) 18 zg65_zg) 10 v14_28.toInt), ⟨(show MI (gset (gset (gset (gset th 14 zz27) 44 0) 18 zg65_zg) 10 v14_28.toInt) from ⟨m1, m2, (show th 20 = (th 12) * rnd (v14_28.toInt) by rw [hg14_28]; exact m3), m4, m5, m6, m7, m8, m9, m10⟩), (SBM.set (k := 10) (SBM.set (k := 18) (SBM.set (k := 44) (SBM.set (k := 14) (SBM.rf th) (by decide)) (by decide)) (by decide)) (by decide))⟩, hT⟩, hfr⟩) dX11_asOthers_174
                ·
                  have oc2 : (2 : Int32).toInt = 2 := by decide
                  have cc72 : z1.toInt = (2 : Int32).toInt := congrArg Int32.toInt c69
                  have hb73 : In z1 2 2 := In.eq1 hb68 (⟨by decide, by decide⟩ : In 2 2 2) cc72 (by omega) (by omega)
                  refine lv_aload_n hx hb dX11_asOthers_165 rfl (lv_at hl 1 rfl) ?_
                  refine M0e hT (fun v0_74 v2_74 v3_74 v4_74 v5_74 v6_74 v8_74 v9_74 v12_74 v13_74 v14_74 v15_74 v16_74 v17_74 v18_74 v19_74 v20_74 v21_74 v22_74 v23_74 v25_74 v36_74 v37_74 v38_74 v39_74 v40_74 v45_74 v46_74 v47_74 v48_74 v50_74 v51_74 v53_74 v55_74 hf75 hv0_74 hv2_74 hg2_74 hv3_74 hg3_74 hv4_74 hg4_74 hv5_74 hg5_74 hv6_74 hg6_74 hv8_74 hg8_74 hv9_74 hg9_74 hv12_74 hv13_74 hg13_74 hv14_74 hg14_74 hv15_74 hg15_74 hv17_74 hg17_74 hv20_74 hg20_74 hv23_74 hg23_74 hv25_74 hg25_74 hv36_74 hg36_74 hv47_74 hg47_74 hv48_74 hg48_74 hv53_74 hg53_74 hv55_74 hg55_74 hrel0_74 => ?_)
                  have hg2_74 : v2_74.toInt = th 13 := hg2_74
                  have hg3_74 : v3_74.toInt = th 37 := hg3_74
                  have hg4_74 : v4_74.toInt = th 42 := hg4_74
                  have hg5_74 : v5_74.toInt = th 40 := hg5_74
                  have hg6_74 : v6_74.toInt = th 41 := hg6_74
                  have hg8_74 : v8_74.toInt = th 43 := hg8_74
                  have hg9_74 : v9_74.toInt = th 35 := hg9_74
                  have hg13_74 : v13_74.toInt = th 36 := hg13_74
                  have hg14_74 : v14_74.toInt = v14_28.toInt := hg14_74
                  have hg15_74 : v15_74.toInt = th 11 := hg15_74
                  have hg17_74 : v17_74.toInt = th 12 := hg17_74
                  have hg20_74 : v20_74.toInt = zz27 := hg20_74
                  have hg23_74 : v23_74.toInt = th 15 := hg23_74
                  have hg25_74 : v25_74.toInt = 0 := hg25_74
                  have hg36_74 : v36_74.toInt = zg65_zg := hg36_74
                  have hg47_74 : v47_74.toInt = th 16 := hg47_74
                  have hg48_74 : v48_74.toInt = th 17 := hg48_74
                  have hg53_74 : v53_74.toInt = th 38 := hg53_74
                  have hg55_74 : v55_74.toInt = th 39 := hg55_74
                  refine call_i (run_V (rm := rm_X11_holders) hx hb hml hown hts (s_X11_holders l g ad (gset (gset (gset (gset th 14 zz27) 44 0) 18 zg65_zg) 10 v14_28.toInt) _ _ _  hst hT ) cV_X11_holders wg_1912 ⟨Nat.le_of_ble_eq_true rfl, Nat.le_of_ble_eq_true rfl⟩ hG hE hA hP hD hS (hst.1 255 (by decide)) hf75 rfl rfl hl.1 (As := []) (rest := []) rfl (Nat.le_of_ble_eq_true rfl) dX11_asOthers_166 ⟨Nat.le_of_ble_eq_true rfl, Nat.le_of_ble_eq_true rfl⟩) hA hD hS (fun r76 L77 f78 H locs hp79 hP hD hS => ?_)
                  obtain ⟨eL80L, eL80T⟩ := hp79
                  have eL80L : L77 = L := eL80L
                  have eL80T : f78 = f60 := eL80T
                  rw [eL80L, eL80T] at hP hD
                  refine lv_goto (tgt := 174) hx hb dX11_asOthers_169 (by decide) ?_
                  exact ret_i (ty := .int) hx hb hr hlocks (rfl) hP hD hS (Nat.le_of_ble_eq_true rfl) (Nat.le_of_ble_eq_true rfl) (⟨rfl, ⟨(gset (gset (gset (gset th 14 zz27) 44 0) 18 zg65_zg) 10 v14_28.toInt), ⟨(show MI (gset (gset (gset (gset th 14 zz27) 44 0) 18 zg65_zg) 10 v14_28.toInt) from ⟨m1, m2, (show th 20 = (th 12) * rnd (v14_28.toInt) by rw [hg14_28]; exact m3), m4, m5, m6, m7, m8, m9, m10⟩), (SBM.set (k := 10) (SBM.set (k := 18) (SBM.set (k := 44) (SBM.set (k := 14) (SBM.rf th) (by decide)) (by decide)) (by decide)) (by decide))⟩, hT⟩, hfr⟩) dX11_asOthers_174
              ·
                have oc1 : (1 : Int32).toInt = 1 := by decide
                have cc81 : z1.toInt = (1 : Int32).toInt := congrArg Int32.toInt c66
                have hb82 : In z1 1 1 := In.eq1 hb65 (⟨by decide, by decide⟩ : In 1 1 1) cc81 (by omega) (by omega)
                refine lv_aload_n hx hb dX11_asOthers_153 rfl (lv_at hl 1 rfl) ?_
                refine M0e hT (fun v0_83 v2_83 v3_83 v4_83 v5_83 v6_83 v8_83 v9_83 v12_83 v13_83 v14_83 v15_83 v16_83 v17_83 v18_83 v19_83 v20_83 v21_83 v22_83 v23_83 v25_83 v36_83 v37_83 v38_83 v39_83 v40_83 v45_83 v46_83 v47_83 v48_83 v50_83 v51_83 v53_83 v55_83 hf84 hv0_83 hv2_83 hg2_83 hv3_83 hg3_83 hv4_83 hg4_83 hv5_83 hg5_83 hv6_83 hg6_83 hv8_83 hg8_83 hv9_83 hg9_83 hv12_83 hv13_83 hg13_83 hv14_83 hg14_83 hv15_83 hg15_83 hv17_83 hg17_83 hv20_83 hg20_83 hv23_83 hg23_83 hv25_83 hg25_83 hv36_83 hg36_83 hv47_83 hg47_83 hv48_83 hg48_83 hv53_83 hg53_83 hv55_83 hg55_83 hrel0_83 => ?_)
                have hg2_83 : v2_83.toInt = th 13 := hg2_83
                have hg3_83 : v3_83.toInt = th 37 := hg3_83
                have hg4_83 : v4_83.toInt = th 42 := hg4_83
                have hg5_83 : v5_83.toInt = th 40 := hg5_83
                have hg6_83 : v6_83.toInt = th 41 := hg6_83
                have hg8_83 : v8_83.toInt = th 43 := hg8_83
                have hg9_83 : v9_83.toInt = th 35 := hg9_83
                have hg13_83 : v13_83.toInt = th 36 := hg13_83
                have hg14_83 : v14_83.toInt = v14_28.toInt := hg14_83
                have hg15_83 : v15_83.toInt = th 11 := hg15_83
                have hg17_83 : v17_83.toInt = th 12 := hg17_83
                have hg20_83 : v20_83.toInt = zz27 := hg20_83
                have hg23_83 : v23_83.toInt = th 15 := hg23_83
                have hg25_83 : v25_83.toInt = 0 := hg25_83
                have hg36_83 : v36_83.toInt = zg65_zg := hg36_83
                have hg47_83 : v47_83.toInt = th 16 := hg47_83
                have hg48_83 : v48_83.toInt = th 17 := hg48_83
                have hg53_83 : v53_83.toInt = th 38 := hg53_83
                have hg55_83 : v55_83.toInt = th 39 := hg55_83
                refine pl_get (v := .int v37_83) hx hb hts (fun w h => mT (inX11 w h)) hown hG.1 hP (hst.1 255 (by decide)) hf84 rfl 37 (by decide) (hts _ (mT wg_1373)) (fun _ h => h) rfl dX11_asOthers_154 ?_
                refine lv_goto (tgt := 174) hx hb dX11_asOthers_157 (by decide) ?_
                exact ret_i (ty := .int) hx hb hr hlocks (rfl) hP hD hS (Nat.le_of_ble_eq_true rfl) (Nat.le_of_ble_eq_true rfl) (⟨rfl, ⟨(gset (gset (gset (gset th 14 zz27) 44 0) 18 zg65_zg) 10 v14_28.toInt), ⟨(show MI (gset (gset (gset (gset th 14 zz27) 44 0) 18 zg65_zg) 10 v14_28.toInt) from ⟨m1, m2, (show th 20 = (th 12) * rnd (v14_28.toInt) by rw [hg14_28]; exact m3), m4, m5, m6, m7, m8, m9, m10⟩), (SBM.set (k := 10) (SBM.set (k := 18) (SBM.set (k := 44) (SBM.set (k := 14) (SBM.rf th) (by decide)) (by decide)) (by decide)) (by decide))⟩, hT⟩, hfr⟩) dX11_asOthers_174
            ·
              have oc0 : (0 : Int32).toInt = 0 := by decide
              have cc85 : z1.toInt = (0 : Int32).toInt := congrArg Int32.toInt c63
              have hb86 : In z1 0 0 := In.eq1 hb20 (⟨by decide, by decide⟩ : In 0 0 0) cc85 (by omega) (by omega)
              refine lv_iload_n hx hb dX11_asOthers_144 rfl (lv_at hl 4 rfl) ?_
              refine lv_goto (tgt := 174) hx hb dX11_asOthers_145 (by decide) ?_
              exact ret_i (ty := .int) hx hb hr hlocks (rfl) hP hD hS (Nat.le_of_ble_eq_true rfl) (Nat.le_of_ble_eq_true rfl) (⟨rfl, ⟨(gset (gset (gset (gset th 14 zz27) 44 0) 18 zg65_zg) 10 v14_28.toInt), ⟨(show MI (gset (gset (gset (gset th 14 zz27) 44 0) 18 zg65_zg) 10 v14_28.toInt) from ⟨m1, m2, (show th 20 = (th 12) * rnd (v14_28.toInt) by rw [hg14_28]; exact m3), m4, m5, m6, m7, m8, m9, m10⟩), (SBM.set (k := 10) (SBM.set (k := 18) (SBM.set (k := 44) (SBM.set (k := 14) (SBM.rf th) (by decide)) (by decide)) (by decide)) (by decide))⟩, hT⟩, hfr⟩) dX11_asOthers_174
          ·
            have cc87 : y65_l4.toInt < v17_51.toInt := i32_nle c53
            have hb88 : In y65_l4 0 5 := In.lt1 hy65_l4 hv17_51 cc87 (by omega) (by omega)
            have hb89 : In v17_51 1 6 := In.lt2 hy65_l4 hv17_51 cc87 (by omega) (by omega)
            refine lv_iconst (v := 0) hx hb dX11_asOthers_74 (by decide) ?_
            refine lv_istore (lv' := [(5, .int 0), (0, .ref (ad 255)), (1, .int z1), (2, .int v14_28), (3, .int y65_l3), (4, .int y65_l4)]) hx hb dX11_asOthers_75 hl (by decide) rfl (fun ls hl => ?_)
            have hJ77 : ∀ (k77 : Nat) (zg77_zg : Int) (y77_l5 : Int32) (f_77 : HP) (H : Heap) (locs : List Loc) (ls : Array Slot), (0 ≤ zg77_zg ∧ zg77_zg ≤ 3 * y65_l4.toInt + y77_l5.toInt) → In y77_l5 0 3 → va_P g.1 vwCl (va_pl L f_77) H → va_D A (va_pl L f_77) → va_S A s.heap H locs → TI g ad (gset (gset (gset (gset th 14 zz27) 10 x30.toInt) 44 0) 18 zg77_zg) f_77 → (∀ b, b ≠ (ad 255) → b ≠ (ad 265) → b ≠ (ad 266) → b ≠ (ad 267) → b ≠ (ad 268) → b ≠ (ad 269) → b ≠ (ad 270) → b ≠ (ad 260) → b ≠ (ad 261) → b ≠ (ad 262) → b ≠ (ad 263) → b ≠ (ad 264) → f_77 b = f b) → lv_has ls 6 [(0, .ref (ad 255)), (1, .int z1), (2, .int v14_28), (3, .int y65_l3), (4, .int y65_l4), (5, .int y77_l5)] → 3 - y77_l5.toInt < ((k77 : Nat) : Int) → W p l e rm_X11_asOthers s m [.ref (ad 255), .int z1].toArray below meth c H locs 0 0 (MQ below (va_Qi (po_X11_asOthers g ad th L f z1) (PstB g A) A) [.ref (ad 255), .int z1].toArray s rm_X11_asOthers.cells rm_X11_asOthers.slots A) (F0 m 77 ls []) := by
              intro k77
              induction k77 with
              | zero =>
                intro zg77_zg y77_l5 f_77 H locs ls hzg77 hy77_l5 hP hD hS hT hfr hl hmz77
                exact ms0 hy77_l5 hmz77
              | succ k77 ih77 =>
                intro zg77_zg y77_l5 f_77 H locs ls hzg77 hy77_l5 hP hD hS hT hfr hl hmz77
                refine lv_iload hx hb dX11_asOthers_77 (lv_at hl 5 rfl) ?_
                refine lv_aload_n hx hb dX11_asOthers_79 rfl (lv_at hl 0 rfl) ?_
                refine M0e hT (fun v0_90 v2_90 v3_90 v4_90 v5_90 v6_90 v8_90 v9_90 v12_90 v13_90 v14_90 v15_90 v16_90 v17_90 v18_90 v19_90 v20_90 v21_90 v22_90 v23_90 v25_90 v36_90 v37_90 v38_90 v39_90 v40_90 v45_90 v46_90 v47_90 v48_90 v50_90 v51_90 v53_90 v55_90 hf91 hv0_90 hv2_90 hg2_90 hv3_90 hg3_90 hv4_90 hg4_90 hv5_90 hg5_90 hv6_90 hg6_90 hv8_90 hg8_90 hv9_90 hg9_90 hv12_90 hv13_90 hg13_90 hv14_90 hg14_90 hv15_90 hg15_90 hv17_90 hg17_90 hv20_90 hg20_90 hv23_90 hg23_90 hv25_90 hg25_90 hv36_90 hg36_90 hv47_90 hg47_90 hv48_90 hg48_90 hv53_90 hg53_90 hv55_90 hg55_90 hrel0_90 => ?_)
                have hg2_90 : v2_90.toInt = th 13 := hg2_90
                have hg3_90 : v3_90.toInt = th 37 := hg3_90
                have hg4_90 : v4_90.toInt = th 42 := hg4_90
                have hg5_90 : v5_90.toInt = th 40 := hg5_90
                have hg6_90 : v6_90.toInt = th 41 := hg6_90
                have hg8_90 : v8_90.toInt = th 43 := hg8_90
                have hg9_90 : v9_90.toInt = th 35 := hg9_90
                have hg13_90 : v13_90.toInt = th 36 := hg13_90
                have hg14_90 : v14_90.toInt = x30.toInt := hg14_90
                have hg15_90 : v15_90.toInt = th 11 := hg15_90
                have hg17_90 : v17_90.toInt = th 12 := hg17_90
                have hg20_90 : v20_90.toInt = zz27 := hg20_90
                have hg23_90 : v23_90.toInt = th 15 := hg23_90
                have hg25_90 : v25_90.toInt = 0 := hg25_90
                have hg36_90 : v36_90.toInt = zg77_zg := hg36_90
                have hg47_90 : v47_90.toInt = th 16 := hg47_90
                have hg48_90 : v48_90.toInt = th 17 := hg48_90
                have hg53_90 : v53_90.toInt = th 38 := hg53_90
                have hg55_90 : v55_90.toInt = th 39 := hg55_90
                refine call_i (run_V (rm := rm_X11_each) hx hb hml hown hts (s_X11_each l g ad (gset (gset (gset (gset th 14 zz27) 10 x30.toInt) 44 0) 18 zg77_zg) _ _ _  hst hT ) cV_X11_each wg_1636 ⟨Nat.le_of_ble_eq_true rfl, Nat.le_of_ble_eq_true rfl⟩ hG hE hA hP hD hS (hst.1 255 (by decide)) hf91 rfl rfl hl.1 (As := []) (rest := [.int y77_l5]) rfl (Nat.le_of_ble_eq_true rfl) dX11_asOthers_80 ⟨Nat.le_of_ble_eq_true rfl, Nat.le_of_ble_eq_true rfl⟩) hA hD hS (fun r92 L93 f94 H locs hp95 hP hD hS => ?_)
                obtain ⟨eL96L, eL96T, eL96R, eL96X0⟩ := hp95
                have eL96L : L93 = L := eL96L
                have eL96T : f94 = f_77 := eL96T
                rw [eL96L, eL96T] at hP hD
                have eL96R : In r92 2 3 := eL96R
                have hrn97 : r92.toInt = rnd (x30.toInt) := eL96X0
                refine lv_icmp_ge (tgt := 96) hx hb dX11_asOthers_83 (by decide) (fun c98 => ?_) (fun c98 => ?_)
                ·
                  have cc99 : r92.toInt ≤ y77_l5.toInt := i32_le.mp c98
                  have hb100 : In y77_l5 2 3 := In.ge1 hy77_l5 eL96R cc99 (by omega) (by omega)
                  refine lv_aload_n hx hb dX11_asOthers_96 rfl (lv_at hl 0 rfl) ?_
                  refine call_i (run_V (rm := rm_X11_areAgreed) hx hb hml hown hts (s_X11_areAgreed l g ad (gset (gset (gset (gset th 14 zz27) 10 x30.toInt) 44 0) 18 zg77_zg) _ _ _  hst hT (show 3 ≤ th 11 by omega)) cV_X11_areAgreed wg_1846 ⟨Nat.le_of_ble_eq_true rfl, Nat.le_of_ble_eq_true rfl⟩ hG hE hA hP hD hS (hst.1 255 (by decide)) hf91 rfl rfl hl.1 (As := []) (rest := []) rfl (Nat.le_of_ble_eq_true rfl) dX11_asOthers_97 ⟨Nat.le_of_ble_eq_true rfl, Nat.le_of_ble_eq_true rfl⟩) hA hD hS (fun r101 L102 f103 H locs hp104 hP hD hS => ?_)
                  obtain ⟨eL105L, eL105T, eL105R⟩ := hp104
                  have eL105L : L102 = L := eL105L
                  have eL105T : f103 = f_77 := eL105T
                  rw [eL105L, eL105T] at hP hD
                  have eL105R : In r101 0 1 := eL105R
                  have hJ118 : ∀ (y118_s0 : Int32) (H : Heap) (locs : List Loc) (ls : Array Slot), In y118_s0 (-1) 5 → va_P g.1 vwCl (va_pl L f_77) H → va_D A (va_pl L f_77) → va_S A s.heap H locs → lv_has ls 6 [(0, .ref (ad 255)), (1, .int z1), (2, .int v14_28), (3, .int y65_l3), (4, .int y65_l4), (5, .int y77_l5)] → W p l e rm_X11_asOthers s m [.ref (ad 255), .int z1].toArray below meth c H locs 0 0 (MQ below (va_Qi (po_X11_asOthers g ad th L f z1) (PstB g A) A) [.ref (ad 255), .int z1].toArray s rm_X11_asOthers.cells rm_X11_asOthers.slots A) (F0 m 118 ls [.int y118_s0]) := by
                    intro y118_s0 H locs ls hy118_s0 hP hD hS hl
                    refine lv_istore_n (lv' := [(3, .int y118_s0), (0, .ref (ad 255)), (1, .int z1), (2, .int v14_28), (4, .int y65_l4), (5, .int y77_l5)]) hx hb dX11_asOthers_118 rfl hl (by decide) rfl (fun ls hl => ?_)
                    obtain ⟨x106, ex106⟩ : ∃ y : Int32, y = y65_l4 + 1 := ⟨_, rfl⟩
                    have hb107 : In x106 1 6 := ex106 ▸ In.add hb88 (⟨by decide, by decide⟩ : In 1 1 1) (by decide) (by decide) (by decide) (by decide)
                    have et108 : x106.toInt = y65_l4.toInt + 1 := In.adde ex106 hb88 (k := 1) (by decide) (by decide) (by decide)
                    refine lv_iinc (v := x106) (lv' := [(4, .int x106), (3, .int y118_s0), (0, .ref (ad 255)), (1, .int z1), (2, .int v14_28), (5, .int y77_l5)]) hx hb dX11_asOthers_119 hl (k := 4) rfl (by rw [ex106]; rfl) (by decide) rfl (fun ls hl => ?_)
                    refine lv_goto (tgt := 65) hx hb dX11_asOthers_122 (by decide) ?_
                    exact ih65 zg77_zg y118_s0 x106 _ _ _ _ (show (0 ≤ zg77_zg ∧ zg77_zg ≤ 3 * x106.toInt) from (by have ob10 : (0 : Int) ≤ x30.toInt ∧ x30.toInt ≤ 1 := (b0_10 hT :); have ob11 : (0 : Int) ≤ (th 11) ∧ (th 11) ≤ 9 := (b0_11 hT :); have ob12 : (0 : Int) ≤ (th 12) ∧ (th 12) ≤ 6 := (b0_12 hT :); have ob14 : (0 : Int) ≤ zz27 ∧ zz27 ≤ 511 := (b0_14 hT :); have ob15 : (0 : Int) ≤ (th 15) ∧ (th 15) ≤ 1 := (b0_15 hT :); have ob16 : (0 : Int) ≤ (th 16) ∧ (th 16) ≤ 20 := (b0_16 hT :); have ob17 : (0 : Int) ≤ (th 17) ∧ (th 17) ≤ 1 := (b0_17 hT :); have ob18 : (0 : Int) ≤ zg77_zg ∧ zg77_zg ≤ 18 := (b0_18 hT :); have ob38 : (0 : Int) ≤ (th 38) ∧ (th 38) ≤ 400 := (b0_38 hT :); have ob39 : (0 : Int) ≤ (th 39) ∧ (th 39) ≤ 200 := (b0_39 hT :); have ob44 : (0 : Int) ≤ 0 ∧ 0 ≤ 30 := (b0_44 hT :); obtain ⟨o0a, o0b⟩ := (hb107 : In _ _ _); obtain ⟨o1a, o1b⟩ := (hb20 : In _ _ _); obtain ⟨o2a, o2b⟩ := (hv14_28 : In _ _ _); obtain ⟨o3a, o3b⟩ := (hb100 : In _ _ _); obtain ⟨o4a, o4b⟩ := (hy118_s0 : In _ _ _); obtain ⟨o5a, o5b⟩ := (hv14_90 : In _ _ _); obtain ⟨o6a, o6b⟩ := (hv15_90 : In _ _ _); obtain ⟨o7a, o7b⟩ := (hv17_90 : In _ _ _); obtain ⟨o8a, o8b⟩ := (hv20_90 : In _ _ _); obtain ⟨o9a, o9b⟩ := (hv23_90 : In _ _ _); obtain ⟨o10a, o10b⟩ := (hv25_90 : In _ _ _); obtain ⟨o11a, o11b⟩ := (hv36_90 : In _ _ _); obtain ⟨o12a, o12b⟩ := (hv47_90 : In _ _ _); obtain ⟨o13a, o13b⟩ := (hv48_90 : In _ _ _); obtain ⟨o14a, o14b⟩ := (hv53_90 : In _ _ _); obtain ⟨o15a, o15b⟩ := (hv55_90 : In _ _ _); obtain ⟨o16a, o16b⟩ := (hb88 : In _ _ _); obtain ⟨o17a, o17b⟩ := (eL96R : In _ _ _); obtain ⟨o18a, o18b⟩ := (hb89 : In _ _ _); omega)) hy118_s0 (In.mono hb107 (by decide) (by decide)) hP hD hS (TI.cast hT (by funext q; by_cases hq0 : q = 18; (subst hq0; rfl); by_cases hq1 : q = 44; (subst hq1; rfl); by_cases hq2 : q = 10; (subst hq2; rfl); by_cases hq3 : q = 14; (subst hq3; rfl); simp only [gset, if_neg hq0, if_neg hq1, if_neg hq2, if_neg hq3])) hfr (lv_sub hl [2, 3, 4, 1, 0] rfl) (msu et108 (by decide) hmz65)
                  refine lv_if_ne (tgt := 107) hx hb dX11_asOthers_100 (by decide) (fun c109 => ?_) (fun c109 => ?_)
                  ·
                    have oc0 : (0 : Int32).toInt = 0 := by decide
                    have cc110 : r101.toInt ≠ (0 : Int32).toInt := i32_ne c109
                    have hb111 : In r101 1 1 := In.ne1 eL105R (⟨by decide, by decide⟩ : In 0 0 0) cc110 (by omega) (by omega)
                    refine lv_iload_n hx hb dX11_asOthers_107 rfl (lv_at hl 3 rfl) ?_
                    refine lv_iconst (v := (-1)) hx hb dX11_asOthers_108 (by decide) ?_
                    refine lv_icmp_ne (tgt := 117) hx hb dX11_asOthers_109 (by decide) (fun c112 => ?_) (fun c112 => ?_)
                    ·
                      have ocm1 : ((-1) : Int32).toInt = (-1) := by decide
                      have cc113 : y65_l3.toInt ≠ ((-1) : Int32).toInt := i32_ne c112
                      have hb114 : In y65_l3 0 5 := In.ne1 hy65_l3 (⟨by decide, by decide⟩ : In (-1) (-1) (-1)) cc113 (by omega) (by omega)
                      refine lv_iload_n hx hb dX11_asOthers_117 rfl (lv_at hl 3 rfl) ?_
                      exact hJ118 y65_l3 _ _ _ (In.mono hb114 (by decide) (by decide)) hP hD hS (lv_sub hl [0, 1, 2, 3, 4, 5] rfl)
                    ·
                      have ocm1 : ((-1) : Int32).toInt = (-1) := by decide
                      have cc115 : y65_l3.toInt = ((-1) : Int32).toInt := congrArg Int32.toInt c112
                      have hb116 : In y65_l3 (-1) (-1) := In.eq1 hy65_l3 (⟨by decide, by decide⟩ : In (-1) (-1) (-1)) cc115 (by omega) (by omega)
                      refine lv_iload hx hb dX11_asOthers_112 (lv_at hl 4 rfl) ?_
                      refine lv_goto (tgt := 118) hx hb dX11_asOthers_114 (by decide) ?_
                      exact hJ118 y65_l4 _ _ _ (In.mono hb88 (by decide) (by decide)) hP hD hS (lv_sub hl [0, 1, 2, 3, 4, 5] rfl)
                  ·
                    have oc0 : (0 : Int32).toInt = 0 := by decide
                    have cc117 : r101.toInt = (0 : Int32).toInt := congrArg Int32.toInt c109
                    have hb118 : In r101 0 0 := In.eq1 eL105R (⟨by decide, by decide⟩ : In 0 0 0) cc117 (by omega) (by omega)
                    refine lv_iconst (v := (-1)) hx hb dX11_asOthers_103 (by decide) ?_
                    refine lv_goto (tgt := 118) hx hb dX11_asOthers_104 (by decide) ?_
                    exact hJ118 (-1) _ _ _ (⟨by decide, by decide⟩ : In (-1) (-1) 5) hP hD hS (lv_sub hl [0, 1, 2, 3, 4, 5] rfl)
                ·
                  have cc119 : y77_l5.toInt < r92.toInt := i32_nle c98
                  have hb120 : In y77_l5 0 2 := In.lt1 hy77_l5 eL96R cc119 (by omega) (by omega)
                  refine lv_aload_n hx hb dX11_asOthers_86 rfl (lv_at hl 0 rfl) ?_
                  refine call_v (run_V (rm := rm_X11_rounds) hx hb hml hown hts (s_X11_rounds l g ad (gset (gset (gset (gset th 14 zz27) 10 x30.toInt) 44 0) 18 zg77_zg) _ _ _  hst hT (show 3 ≤ th 11 by omega) (show zg77_zg ≤ 17 from (by have ob10 : (0 : Int) ≤ x30.toInt ∧ x30.toInt ≤ 1 := (b0_10 hT :); have ob11 : (0 : Int) ≤ (th 11) ∧ (th 11) ≤ 9 := (b0_11 hT :); have ob12 : (0 : Int) ≤ (th 12) ∧ (th 12) ≤ 6 := (b0_12 hT :); have ob14 : (0 : Int) ≤ zz27 ∧ zz27 ≤ 511 := (b0_14 hT :); have ob15 : (0 : Int) ≤ (th 15) ∧ (th 15) ≤ 1 := (b0_15 hT :); have ob16 : (0 : Int) ≤ (th 16) ∧ (th 16) ≤ 20 := (b0_16 hT :); have ob17 : (0 : Int) ≤ (th 17) ∧ (th 17) ≤ 1 := (b0_17 hT :); have ob18 : (0 : Int) ≤ zg77_zg ∧ zg77_zg ≤ 18 := (b0_18 hT :); have ob38 : (0 : Int) ≤ (th 38) ∧ (th 38) ≤ 400 := (b0_38 hT :); have ob39 : (0 : Int) ≤ (th 39) ∧ (th 39) ≤ 200 := (b0_39 hT :); have ob44 : (0 : Int) ≤ 0 ∧ 0 ≤ 30 := (b0_44 hT :); obtain ⟨o0a, o0b⟩ := (hv14_90 : In _ _ _); obtain ⟨o1a, o1b⟩ := (hv15_90 : In _ _ _); obtain ⟨o2a, o2b⟩ := (hv17_90 : In _ _ _); obtain ⟨o3a, o3b⟩ := (hv20_90 : In _ _ _); obtain ⟨o4a, o4b⟩ := (hv23_90 : In _ _ _); obtain ⟨o5a, o5b⟩ := (hv25_90 : In _ _ _); obtain ⟨o6a, o6b⟩ := (hv36_90 : In _ _ _); obtain ⟨o7a, o7b⟩ := (hv47_90 : In _ _ _); obtain ⟨o8a, o8b⟩ := (hv48_90 : In _ _ _); obtain ⟨o9a, o9b⟩ := (hv53_90 : In _ _ _); obtain ⟨o10a, o10b⟩ := (hv55_90 : In _ _ _); omega))) cV_X11_rounds wg_1652 ⟨Nat.le_of_ble_eq_true rfl, Nat.le_of_ble_eq_true rfl⟩ hG hE hA hP hD hS (hst.1 255 (by decide)) hf91 rfl rfl hl.1 (As := []) (rest := []) rfl (Nat.le_of_ble_eq_true rfl) dX11_asOthers_87 ⟨Nat.le_of_ble_eq_true rfl, Nat.le_of_ble_eq_true rfl⟩) hA hD hS (fun L122 f123 H locs hp124 hP hD hS => ?_)
                  obtain ⟨eL125L, eL125T, eL125F⟩ := hp124
                  have eL125L : L122 = L := eL125L
                  rw [eL125L] at hP hD
                  obtain ⟨zz126, hzz126, eL125T⟩ := eL125T
                  have hzz126 : zz126 = zg77_zg + 1 := hzz126
                  have hT : TI g ad (gset (gset (gset (gset (gset th 14 zz27) 10 x30.toInt) 44 0) 18 zg77_zg) 18 zz126) f123 := eL125T
                  have hT : TI g ad (gset (gset (gset (gset th 14 zz27) 10 x30.toInt) 44 0) 18 zz126) f123 := TI.cast hT (by funext q; by_cases hq0 : q = 18; (subst hq0; rfl); by_cases hq1 : q = 44; (subst hq1; rfl); by_cases hq2 : q = 10; (subst hq2; rfl); by_cases hq3 : q = 14; (subst hq3; rfl); simp only [gset, if_neg hq0, if_neg hq1, if_neg hq2, if_neg hq3])
                  have eL125F : ∀ b, b ≠ (ad 255) → b ≠ (ad 265) → b ≠ (ad 266) → b ≠ (ad 267) → b ≠ (ad 268) → b ≠ (ad 269) → b ≠ (ad 270) → b ≠ (ad 261) → b ≠ (ad 262) → b ≠ (ad 263) → b ≠ (ad 264) → f123 b = f_77 b := eL125F
                  have hfr : (∀ b, b ≠ (ad 255) → b ≠ (ad 265) → b ≠ (ad 266) → b ≠ (ad 267) → b ≠ (ad 268) → b ≠ (ad 269) → b ≠ (ad 270) → b ≠ (ad 260) → b ≠ (ad 261) → b ≠ (ad 262) → b ≠ (ad 263) → b ≠ (ad 264) → f123 b = f b) := fun b z0_ z1_ z2_ z3_ z4_ z5_ z6_ z7_ z8_ z9_ z10_ z11_ => (eL125F b z0_ z1_ z2_ z3_ z4_ z5_ z6_ z8_ z9_ z10_ z11_).trans (hfr b z0_ z1_ z2_ z3_ z4_ z5_ z6_ z7_ z8_ z9_ z10_ z11_)
                  obtain ⟨x127, ex127⟩ : ∃ y : Int32, y = y77_l5 + 1 := ⟨_, rfl⟩
                  have hb128 : In x127 1 3 := ex127 ▸ In.add hb120 (⟨by decide, by decide⟩ : In 1 1 1) (by decide) (by decide) (by decide) (by decide)
                  have et129 : x127.toInt = y77_l5.toInt + 1 := In.adde ex127 hb120 (k := 1) (by decide) (by decide) (by decide)
                  refine lv_iinc (v := x127) (lv' := [(5, .int x127), (0, .ref (ad 255)), (1, .int z1), (2, .int v14_28), (3, .int y65_l3), (4, .int y65_l4)]) hx hb dX11_asOthers_90 hl (k := 5) rfl (by rw [ex127]; rfl) (by decide) rfl (fun ls hl => ?_)
                  refine lv_goto (tgt := 77) hx hb dX11_asOthers_93 (by decide) ?_
                  exact ih77 zz126 x127 _ _ _ _ (show (0 ≤ zz126 ∧ zz126 ≤ 3 * y65_l4.toInt + x127.toInt) from (by have ob10 : (0 : Int) ≤ x30.toInt ∧ x30.toInt ≤ 1 := (b0_10 hT :); have ob11 : (0 : Int) ≤ (th 11) ∧ (th 11) ≤ 9 := (b0_11 hT :); have ob12 : (0 : Int) ≤ (th 12) ∧ (th 12) ≤ 6 := (b0_12 hT :); have ob14 : (0 : Int) ≤ zz27 ∧ zz27 ≤ 511 := (b0_14 hT :); have ob15 : (0 : Int) ≤ (th 15) ∧ (th 15) ≤ 1 := (b0_15 hT :); have ob16 : (0 : Int) ≤ (th 16) ∧ (th 16) ≤ 20 := (b0_16 hT :); have ob17 : (0 : Int) ≤ (th 17) ∧ (th 17) ≤ 1 := (b0_17 hT :); have ob18 : (0 : Int) ≤ zz126 ∧ zz126 ≤ 18 := (b0_18 hT :); have ob38 : (0 : Int) ≤ (th 38) ∧ (th 38) ≤ 400 := (b0_38 hT :); have ob39 : (0 : Int) ≤ (th 39) ∧ (th 39) ≤ 200 := (b0_39 hT :); have ob44 : (0 : Int) ≤ 0 ∧ 0 ≤ 30 := (b0_44 hT :); obtain ⟨o0a, o0b⟩ := (hb88 : In _ _ _); obtain ⟨o1a, o1b⟩ := (hb128 : In _ _ _); obtain ⟨o2a, o2b⟩ := (hb20 : In _ _ _); obtain ⟨o3a, o3b⟩ := (hv14_28 : In _ _ _); obtain ⟨o4a, o4b⟩ := (hy65_l3 : In _ _ _); obtain ⟨o5a, o5b⟩ := (hb89 : In _ _ _); obtain ⟨o6a, o6b⟩ := (hb120 : In _ _ _); obtain ⟨o7a, o7b⟩ := (eL96R : In _ _ _); omega)) (In.mono hb128 (by decide) (by decide)) hP hD hS (TI.cast hT (by funext q; by_cases hq0 : q = 18; (subst hq0; rfl); by_cases hq1 : q = 44; (subst hq1; rfl); by_cases hq2 : q = 10; (subst hq2; rfl); by_cases hq3 : q = 14; (subst hq3; rfl); simp only [gset, if_neg hq0, if_neg hq1, if_neg hq2, if_neg hq3])) hfr (lv_sub hl [1, 2, 3, 4, 5, 0] rfl) (msu et129 (by decide) hmz77)
            exact hJ77 ((3 - (0 : Int32).toInt).toNat + 1) zg65_zg 0 _ _ _ _ (show (0 ≤ zg65_zg ∧ zg65_zg ≤ 3 * y65_l4.toInt + (0 : Int32).toInt) from (by have ob10 : (0 : Int) ≤ x30.toInt ∧ x30.toInt ≤ 1 := (b0_10 hT :); have ob11 : (0 : Int) ≤ (th 11) ∧ (th 11) ≤ 9 := (b0_11 hT :); have ob12 : (0 : Int) ≤ (th 12) ∧ (th 12) ≤ 6 := (b0_12 hT :); have ob14 : (0 : Int) ≤ zz27 ∧ zz27 ≤ 511 := (b0_14 hT :); have ob15 : (0 : Int) ≤ (th 15) ∧ (th 15) ≤ 1 := (b0_15 hT :); have ob16 : (0 : Int) ≤ (th 16) ∧ (th 16) ≤ 20 := (b0_16 hT :); have ob17 : (0 : Int) ≤ (th 17) ∧ (th 17) ≤ 1 := (b0_17 hT :); have ob18 : (0 : Int) ≤ zg65_zg ∧ zg65_zg ≤ 18 := (b0_18 hT :); have ob38 : (0 : Int) ≤ (th 38) ∧ (th 38) ≤ 400 := (b0_38 hT :); have ob39 : (0 : Int) ≤ (th 39) ∧ (th 39) ≤ 200 := (b0_39 hT :); have ob44 : (0 : Int) ≤ 0 ∧ 0 ≤ 30 := (b0_44 hT :); have oc0 : (0 : Int32).toInt = 0 := (by decide); obtain ⟨o0a, o0b⟩ := (hb88 : In _ _ _); obtain ⟨o1a, o1b⟩ := (hb20 : In _ _ _); obtain ⟨o2a, o2b⟩ := (hv14_28 : In _ _ _); obtain ⟨o3a, o3b⟩ := (hy65_l3 : In _ _ _); obtain ⟨o4a, o4b⟩ := (hv14_51 : In _ _ _); obtain ⟨o5a, o5b⟩ := (hv15_51 : In _ _ _); obtain ⟨o6a, o6b⟩ := (hb89 : In _ _ _); obtain ⟨o7a, o7b⟩ := (hv20_51 : In _ _ _); obtain ⟨o8a, o8b⟩ := (hv23_51 : In _ _ _); obtain ⟨o9a, o9b⟩ := (hv25_51 : In _ _ _); obtain ⟨o10a, o10b⟩ := (hv36_51 : In _ _ _); obtain ⟨o11a, o11b⟩ := (hv47_51 : In _ _ _); obtain ⟨o12a, o12b⟩ := (hv48_51 : In _ _ _); obtain ⟨o13a, o13b⟩ := (hv53_51 : In _ _ _); obtain ⟨o14a, o14b⟩ := (hv55_51 : In _ _ _); omega)) (⟨by decide, by decide⟩ : In 0 0 3) hP hD hS (TI.cast hT (by funext q; by_cases hq0 : q = 18; (subst hq0; rfl); by_cases hq1 : q = 44; (subst hq1; rfl); by_cases hq2 : q = 10; (subst hq2; rfl); by_cases hq3 : q = 14; (subst hq3; rfl); simp only [gset, if_neg hq0, if_neg hq1, if_neg hq2, if_neg hq3])) hfr (lv_sub hl [1, 2, 3, 4, 5, 0] rfl) (msI _)
      exact hJ65 ((6 - (0 : Int32).toInt).toNat + 1) (0 : Int) (-1) 0 _ _ _ _ (show (0 ≤ (0 : Int) ∧ (0 : Int) ≤ 3 * (0 : Int32).toInt) from (by have ob10 : (0 : Int) ≤ x30.toInt ∧ x30.toInt ≤ 1 := (b0_10 hT :); have ob11 : (0 : Int) ≤ (th 11) ∧ (th 11) ≤ 9 := (b0_11 hT :); have ob12 : (0 : Int) ≤ (th 12) ∧ (th 12) ≤ 6 := (b0_12 hT :); have ob14 : (0 : Int) ≤ zz27 ∧ zz27 ≤ 511 := (b0_14 hT :); have ob15 : (0 : Int) ≤ (th 15) ∧ (th 15) ≤ 1 := (b0_15 hT :); have ob16 : (0 : Int) ≤ (th 16) ∧ (th 16) ≤ 20 := (b0_16 hT :); have ob17 : (0 : Int) ≤ (th 17) ∧ (th 17) ≤ 1 := (b0_17 hT :); have ob18 : (0 : Int) ≤ 0 ∧ 0 ≤ 18 := (b0_18 hT :); have ob38 : (0 : Int) ≤ (th 38) ∧ (th 38) ≤ 400 := (b0_38 hT :); have ob39 : (0 : Int) ≤ (th 39) ∧ (th 39) ≤ 200 := (b0_39 hT :); have ob44 : (0 : Int) ≤ 0 ∧ 0 ≤ 30 := (b0_44 hT :); have oc0 : (0 : Int32).toInt = 0 := (by decide); obtain ⟨o0a, o0b⟩ := (hb20 : In _ _ _); obtain ⟨o1a, o1b⟩ := (hv14_28 : In _ _ _); omega)) (⟨by decide, by decide⟩ : In (-1) (-1) 5) (⟨by decide, by decide⟩ : In 0 0 6) hP hD hS (TI.cast hT (by funext q; by_cases hq0 : q = 18; (subst hq0; rfl); by_cases hq1 : q = 44; (subst hq1; rfl); by_cases hq2 : q = 10; (subst hq2; rfl); by_cases hq3 : q = 14; (subst hq3; rfl); simp only [gset, if_neg hq0, if_neg hq1, if_neg hq2, if_neg hq3])) hfr (lv_sub hl [3, 4, 2, 1, 0] rfl) (msI _)
    ·
      have oc0 : (0 : Int32).toInt = 0 := by decide
      have cc130 : r11.toInt = (0 : Int32).toInt := congrArg Int32.toInt c17
      have hb131 : In r11 0 0 := In.eq1 eL15R (⟨by decide, by decide⟩ : In 0 0 0) cc130 (by omega) (by omega)
      exact hJ24 _ _ _ hP hD hS (lv_sub hl [0, 1] rfl)

abbrev rm_X11_byChance : Room := { frames := 6, cells := 0, slots := 0, locals := 148 }
abbrev po_X11_byChance (g : GG) (ad : Nat → Nat) (th : Nat → Int) (L : List Nat) (f : HP) (z1 : Int32) (z2 : Int64) (z3 : Int32) : Int32 → (List Nat × HP) → Prop := fun r u => u.1 = L ∧ (∃ th' : Nat → Int, (MI th' ∧ SBM th th') ∧ TI g ad th' u.2) ∧ (∀ b, b ≠ (ad 255) → b ≠ (ad 265) → b ≠ (ad 266) → b ≠ (ad 267) → b ≠ (ad 268) → b ≠ (ad 269) → b ≠ (ad 270) → b ≠ (ad 260) → b ≠ (ad 261) → b ≠ (ad 262) → b ≠ (ad 263) → b ≠ (ad 264) → u.2 b = f b)
set_option maxHeartbeats 4000000 in
set_option maxRecDepth 100000 in
theorem s_X11_byChance (l : Launch) (g : GG) (ad : Nat → Nat) (th : Nat → Int) (L : List Nat) (f : HP) (sz : Nat) (z1 : Int32) (z2 : Int64) (z3 : Int32) (hst : ST ad L) (hT : TI g ad th f) (hM : MI th) : MtI l g yX11_byChance cX11_byChance 14 (some .int) rm_X11_byChance [.ref (ad 255), .int z1, .long z2, .int z3] L f sz (po_X11_byChance g ad th L f z1 z2 z3) := by
  refine MtI.of (by decide +kernel) (Nat.le_of_ble_eq_true rfl) ?_
  intro p e s m below meth c A hEn hP hD hS ls hl
  obtain ⟨hx, hb, hr, hml, hown, hlocks, hts, hG, hA, hE, hnm⟩ := hEn
  have hown : s.vm.findClass "RulerWordModel" = some m.cls := hown
  have hl : lv_has ls 14 [(0, .ref (ad 255)), (1, .int z1), (2, .long z2), (4, .int z3)] := hl
  have hfr : (∀ b, b ≠ (ad 255) → b ≠ (ad 265) → b ≠ (ad 266) → b ≠ (ad 267) → b ≠ (ad 268) → b ≠ (ad 269) → b ≠ (ad 270) → b ≠ (ad 260) → b ≠ (ad 261) → b ≠ (ad 262) → b ≠ (ad 263) → b ≠ (ad 264) → f b = f b) := fun b z0_ z1_ z2_ z3_ z4_ z5_ z6_ z7_ z8_ z9_ z10_ z11_ => rfl
  have hM0 := hM
  obtain ⟨m1, m2, m3, m4, m5, m6, m7, m8, m9, m10⟩ := hM0
  have m20 := mi20 m2 m3
  refine lv_aload_n hx hb dX11_byChance_0 rfl (lv_at hl 0 rfl) ?_
  refine lv_iconst (v := 0) hx hb dX11_byChance_1 (by decide) ?_
  refine M0e hT (fun v0_1 v2_1 v3_1 v4_1 v5_1 v6_1 v8_1 v9_1 v12_1 v13_1 v14_1 v15_1 v16_1 v17_1 v18_1 v19_1 v20_1 v21_1 v22_1 v23_1 v25_1 v36_1 v37_1 v38_1 v39_1 v40_1 v45_1 v46_1 v47_1 v48_1 v50_1 v51_1 v53_1 v55_1 hf2 hv0_1 hv2_1 hg2_1 hv3_1 hg3_1 hv4_1 hg4_1 hv5_1 hg5_1 hv6_1 hg6_1 hv8_1 hg8_1 hv9_1 hg9_1 hv12_1 hv13_1 hg13_1 hv14_1 hg14_1 hv15_1 hg15_1 hv17_1 hg17_1 hv20_1 hg20_1 hv23_1 hg23_1 hv25_1 hg25_1 hv36_1 hg36_1 hv47_1 hg47_1 hv48_1 hg48_1 hv53_1 hg53_1 hv55_1 hg55_1 hrel0_1 => ?_)
  refine pl_put (ty := .int) (v := .int 0) (fs' := [.int 0, .ref (ad 256), .int v2_1, .int v3_1, .int v4_1, .int v5_1, .int v6_1, .ref (ad 257), .int v8_1, .int v9_1, .ref (ad 258), .ref (ad 259), .int v12_1, .int v13_1, .int v14_1, .int v15_1, .int v16_1, .int v17_1, .int v18_1, .int v19_1, .int v20_1, .long v21_1, .long v22_1, .int v23_1, .ref (ad 260), .int v25_1, .ref (ad 261), .ref (ad 262), .ref (ad 263), .ref (ad 264), .ref (ad 265), .ref (ad 266), .ref (ad 267), .ref (ad 268), .ref (ad 269), .ref (ad 270), .int v36_1, .int v37_1, .int v38_1, .int v39_1, .int v40_1, .ref (ad 271), .ref (ad 272), .ref (ad 273), .ref (ad 274), .long v45_1, .long v46_1, .int v47_1, .int v48_1, .ref (ad 275), .int v50_1, .int v51_1, .ref (ad 276), .int v53_1, .ref (ad 277), .int v55_1]) hx hb hts (fun w h => mT (inX11 w h)) tyX11 tyX11_ok nmX11 hown hG.1 hP hD hS (hst.1 255 (by decide)) hf2 rfl 0 (by decide) (hts _ (mT wg_1336)) (fun _ h => h) rfl (by decide +kernel) (rfl) (rfl) (Nat.le_of_ble_eq_true rfl) rfl dX11_byChance_2 (fun H locs f3 hf4 ho5 hP hD hS => ?_)
  have hfr : (∀ b, b ≠ (ad 255) → b ≠ (ad 265) → b ≠ (ad 266) → b ≠ (ad 267) → b ≠ (ad 268) → b ≠ (ad 269) → b ≠ (ad 270) → b ≠ (ad 260) → b ≠ (ad 261) → b ≠ (ad 262) → b ≠ (ad 263) → b ≠ (ad 264) → f3 b = f b) := fun b z0_ z1_ z2_ z3_ z4_ z5_ z6_ z7_ z8_ z9_ z10_ z11_ => (ho5 b z0_).trans (hfr b z0_ z1_ z2_ z3_ z4_ z5_ z6_ z7_ z8_ z9_ z10_ z11_)
  refine lv_aload_n hx hb dX11_byChance_5 rfl (lv_at hl 0 rfl) ?_
  refine pl_get (v := .int v23_1) hx hb hts (fun w h => mT (inX11 w h)) hown hG.1 hP (hst.1 255 (by decide)) hf4 rfl 23 (by decide) (hts _ (mT wg_1359)) (fun _ h => h) rfl dX11_byChance_6 ?_
  have hT := TI.updM hT hst (k := 0) (by decide) hf4 ho5 ⟨0, v2_1, v3_1, v4_1, v5_1, v6_1, v8_1, v9_1, v12_1, v13_1, v14_1, v15_1, v16_1, v17_1, v18_1, v19_1, v20_1, v21_1, v22_1, v23_1, v25_1, v36_1, v37_1, v38_1, v39_1, v40_1, v45_1, v46_1, v47_1, v48_1, v50_1, v51_1, v53_1, v55_1, rfl, (⟨by decide, by decide⟩ : In 0 0 1), hv2_1, hg2_1, hv3_1, hg3_1, hv4_1, hg4_1, hv5_1, hg5_1, hv6_1, hg6_1, hv8_1, hg8_1, hv9_1, hg9_1, hv12_1, hv13_1, hg13_1, hv14_1, hg14_1, hv15_1, hg15_1, hv17_1, hg17_1, hv20_1, hg20_1, hv23_1, hg23_1, hv25_1, hg25_1, hv36_1, hg36_1, hv47_1, hg47_1, hv48_1, hg48_1, hv53_1, hg53_1, hv55_1, hg55_1, hrel0_1⟩
  have hJ37 : ∀ (H : Heap) (locs : List Loc) (ls : Array Slot), va_P g.1 vwCl (va_pl L f3) H → va_D A (va_pl L f3) → va_S A s.heap H locs → lv_has ls 14 [(0, .ref (ad 255)), (1, .int z1), (2, .long z2), (4, .int z3)] → W p l e rm_X11_byChance s m [.ref (ad 255), .int z1, .long z2, .int z3].toArray below meth c H locs 0 0 (MQ below (va_Qi (po_X11_byChance g ad th L f z1 z2 z3) (PstB g A) A) [.ref (ad 255), .int z1, .long z2, .int z3].toArray s rm_X11_byChance.cells rm_X11_byChance.slots A) (F0 m 37 ls []) := by
    intro H locs ls hP hD hS hl
    refine lv_bipush (v := (-2)) hx hb dX11_byChance_37 (by decide) ?_
    exact ret_i (ty := .int) hx hb hr hlocks (rfl) hP hD hS (Nat.le_of_ble_eq_true rfl) (Nat.le_of_ble_eq_true rfl) (⟨rfl, ⟨th, ⟨(show MI th from hM), (SBM.rf th)⟩, hT⟩, hfr⟩) dX11_byChance_39
  refine lv_if_eq (tgt := 37) hx hb dX11_byChance_9 (by decide) (fun c6 => ?_) (fun c6 => ?_)
  ·
    have oc0 : (0 : Int32).toInt = 0 := by decide
    have cc7 : v23_1.toInt = (0 : Int32).toInt := congrArg Int32.toInt c6
    have hb8 : In v23_1 0 0 := In.eq1 hv23_1 (⟨by decide, by decide⟩ : In 0 0 0) cc7 (by omega) (by omega)
    exact hJ37 _ _ _ hP hD hS (lv_sub hl [0, 1, 2, 3] rfl)
  ·
    have oc0 : (0 : Int32).toInt = 0 := by decide
    have cc9 : v23_1.toInt ≠ (0 : Int32).toInt := i32_ne c6
    have hb10 : In v23_1 1 1 := In.ne1 hv23_1 (⟨by decide, by decide⟩ : In 0 0 0) cc9 (by omega) (by omega)
    refine lv_iload_n hx hb dX11_byChance_12 rfl (lv_at hl 1 rfl) ?_
    refine lv_i2l hx hb dX11_byChance_13 rfl ?_
    refine lv_lconst (v := 1) hx hb dX11_byChance_14 (by decide) ?_
    refine lv_ldc2 hx hb hown (hts _ (mT wg_1920)) dX11_byChance_15 ?_
    refine call_i (run_S (rm := rm_X11_isIn) hx hb hml hown hts (s_X11_isIn l g ad th _ _ _ (z1.toInt64) 1 200 hst hT ) cS_X11_isIn wg_1581 ⟨Nat.le_of_ble_eq_true rfl, Nat.le_of_ble_eq_true rfl⟩ hG hE hA hP hD hS rfl hl.1 (As := [.long (z1.toInt64), .long 1, .long 200]) (rest := []) rfl (Nat.le_of_ble_eq_true rfl) dX11_byChance_18 ⟨Nat.le_of_ble_eq_true rfl, Nat.le_of_ble_eq_true rfl⟩) hA hD hS (fun r11 L12 f13 H locs hp14 hP hD hS => ?_)
    obtain ⟨eL15L, eL15T, eL15R, eL15X0, eL15X1⟩ := hp14
    have eL15L : L12 = L := eL15L
    have eL15T : f13 = f3 := eL15T
    rw [eL15L, eL15T] at hP hD
    have eL15R : In r11 0 1 := eL15R
    have hii16 : r11.toInt = 0 ∨ (1 ≤ z1.toInt ∧ z1.toInt ≤ 200) := by have z := eL15X0; rw [i2l_t z1, (by decide : (1 : Int64).toInt = 1), (by decide : (200 : Int64).toInt = 200)] at z; exact z
    have hii16w : ¬ r11 = 0 → In z1 1 200 := fun c => by have c2 := i32_ne c; have e0 : (0 : Int32).toInt = 0 := (by decide); exact ⟨by omega, by omega⟩
    refine lv_if_eq (tgt := 37) hx hb dX11_byChance_21 (by decide) (fun c17 => ?_) (fun c17 => ?_)
    ·
      have oc0 : (0 : Int32).toInt = 0 := by decide
      have cc18 : r11.toInt = (0 : Int32).toInt := congrArg Int32.toInt c17
      have hb19 : In r11 0 0 := In.eq1 eL15R (⟨by decide, by decide⟩ : In 0 0 0) cc18 (by omega) (by omega)
      exact hJ37 _ _ _ hP hD hS (lv_sub hl [0, 1, 2, 3] rfl)
    ·
      have oc0 : (0 : Int32).toInt = 0 := by decide
      have cc20 : r11.toInt ≠ (0 : Int32).toInt := i32_ne c17
      have hb21 : In r11 1 1 := In.ne1 eL15R (⟨by decide, by decide⟩ : In 0 0 0) cc20 (by omega) (by omega)
      have hb22 : In z1 1 200 := In.both (hii16w c17) (In.full z1) (by decide) (by decide)
      refine lv_iload hx hb dX11_byChance_24 (lv_at hl 3 rfl) ?_
      refine lv_i2l hx hb dX11_byChance_26 rfl ?_
      refine lv_lconst (v := 0) hx hb dX11_byChance_27 (by decide) ?_
      refine lv_ldc2 hx hb hown (hts _ (mT wg_1681)) dX11_byChance_28 ?_
      refine call_i (run_S (rm := rm_X11_isIn) hx hb hml hown hts (s_X11_isIn l g ad th _ _ _ (z3.toInt64) 0 3 hst hT ) cS_X11_isIn wg_1581 ⟨Nat.le_of_ble_eq_true rfl, Nat.le_of_ble_eq_true rfl⟩ hG hE hA hP hD hS rfl hl.1 (As := [.long (z3.toInt64), .long 0, .long 3]) (rest := []) rfl (Nat.le_of_ble_eq_true rfl) dX11_byChance_31 ⟨Nat.le_of_ble_eq_true rfl, Nat.le_of_ble_eq_true rfl⟩) hA hD hS (fun r23 L24 f25 H locs hp26 hP hD hS => ?_)
      obtain ⟨eL27L, eL27T, eL27R, eL27X0, eL27X1⟩ := hp26
      have eL27L : L24 = L := eL27L
      have eL27T : f25 = f3 := eL27T
      rw [eL27L, eL27T] at hP hD
      have eL27R : In r23 0 1 := eL27R
      have hii28 : r23.toInt = 0 ∨ (0 ≤ z3.toInt ∧ z3.toInt ≤ 3) := by have z := eL27X0; rw [i2l_t z3, (by decide : (0 : Int64).toInt = 0), (by decide : (3 : Int64).toInt = 3)] at z; exact z
      have hii28w : ¬ r23 = 0 → In z3 0 3 := fun c => by have c2 := i32_ne c; have e0 : (0 : Int32).toInt = 0 := (by decide); exact ⟨by omega, by omega⟩
      refine lv_if_ne (tgt := 40) hx hb dX11_byChance_34 (by decide) (fun c29 => ?_) (fun c29 => ?_)
      ·
        have oc0 : (0 : Int32).toInt = 0 := by decide
        have cc30 : r23.toInt ≠ (0 : Int32).toInt := i32_ne c29
        have hb31 : In r23 1 1 := In.ne1 eL27R (⟨by decide, by decide⟩ : In 0 0 0) cc30 (by omega) (by omega)
        have hb32 : In z3 0 3 := In.both (hii28w c29) (In.full z3) (by decide) (by decide)
        refine lv_aload_n hx hb dX11_byChance_40 rfl (lv_at hl 0 rfl) ?_
        refine call_v (run_V (rm := rm_X11_takesUp) hx hb hml hown hts (s_X11_takesUp l g ad th _ _ _  hst hT (show (th 22) = 2126 from (by have ob10 : (0 : Int) ≤ (th 10) ∧ (th 10) ≤ 1 := (b0_10 hT :); have ob11 : (0 : Int) ≤ (th 11) ∧ (th 11) ≤ 9 := (b0_11 hT :); have ob12 : (0 : Int) ≤ (th 12) ∧ (th 12) ≤ 6 := (b0_12 hT :); have ob14 : (0 : Int) ≤ (th 14) ∧ (th 14) ≤ 511 := (b0_14 hT :); have ob15 : (0 : Int) ≤ (th 15) ∧ (th 15) ≤ 1 := (b0_15 hT :); have ob16 : (0 : Int) ≤ (th 16) ∧ (th 16) ≤ 20 := (b0_16 hT :); have ob17 : (0 : Int) ≤ (th 17) ∧ (th 17) ≤ 1 := (b0_17 hT :); have ob18 : (0 : Int) ≤ (th 18) ∧ (th 18) ≤ 18 := (b0_18 hT :); have ob38 : (0 : Int) ≤ (th 38) ∧ (th 38) ≤ 400 := (b0_38 hT :); have ob39 : (0 : Int) ≤ (th 39) ∧ (th 39) ≤ 200 := (b0_39 hT :); have ob44 : (0 : Int) ≤ (th 44) ∧ (th 44) ≤ 30 := (b0_44 hT :); obtain ⟨o0a, o0b⟩ := (hv14_1 : In _ _ _); obtain ⟨o1a, o1b⟩ := (hv15_1 : In _ _ _); obtain ⟨o2a, o2b⟩ := (hv17_1 : In _ _ _); obtain ⟨o3a, o3b⟩ := (hv20_1 : In _ _ _); obtain ⟨o4a, o4b⟩ := (hb10 : In _ _ _); obtain ⟨o5a, o5b⟩ := (hv25_1 : In _ _ _); obtain ⟨o6a, o6b⟩ := (hv36_1 : In _ _ _); obtain ⟨o7a, o7b⟩ := (hv47_1 : In _ _ _); obtain ⟨o8a, o8b⟩ := (hv48_1 : In _ _ _); obtain ⟨o9a, o9b⟩ := (hv53_1 : In _ _ _); obtain ⟨o10a, o10b⟩ := (hv55_1 : In _ _ _); omega)) (show (th 20) ≤ 18 from (by have ob10 : (0 : Int) ≤ (th 10) ∧ (th 10) ≤ 1 := (b0_10 hT :); have ob11 : (0 : Int) ≤ (th 11) ∧ (th 11) ≤ 9 := (b0_11 hT :); have ob12 : (0 : Int) ≤ (th 12) ∧ (th 12) ≤ 6 := (b0_12 hT :); have ob14 : (0 : Int) ≤ (th 14) ∧ (th 14) ≤ 511 := (b0_14 hT :); have ob15 : (0 : Int) ≤ (th 15) ∧ (th 15) ≤ 1 := (b0_15 hT :); have ob16 : (0 : Int) ≤ (th 16) ∧ (th 16) ≤ 20 := (b0_16 hT :); have ob17 : (0 : Int) ≤ (th 17) ∧ (th 17) ≤ 1 := (b0_17 hT :); have ob18 : (0 : Int) ≤ (th 18) ∧ (th 18) ≤ 18 := (b0_18 hT :); have ob38 : (0 : Int) ≤ (th 38) ∧ (th 38) ≤ 400 := (b0_38 hT :); have ob39 : (0 : Int) ≤ (th 39) ∧ (th 39) ≤ 200 := (b0_39 hT :); have ob44 : (0 : Int) ≤ (th 44) ∧ (th 44) ≤ 30 := (b0_44 hT :); obtain ⟨o0a, o0b⟩ := (hv14_1 : In _ _ _); obtain ⟨o1a, o1b⟩ := (hv15_1 : In _ _ _); obtain ⟨o2a, o2b⟩ := (hv17_1 : In _ _ _); obtain ⟨o3a, o3b⟩ := (hv20_1 : In _ _ _); obtain ⟨o4a, o4b⟩ := (hb10 : In _ _ _); obtain ⟨o5a, o5b⟩ := (hv25_1 : In _ _ _); obtain ⟨o6a, o6b⟩ := (hv36_1 : In _ _ _); obtain ⟨o7a, o7b⟩ := (hv47_1 : In _ _ _); obtain ⟨o8a, o8b⟩ := (hv48_1 : In _ _ _); obtain ⟨o9a, o9b⟩ := (hv53_1 : In _ _ _); obtain ⟨o10a, o10b⟩ := (hv55_1 : In _ _ _); omega)) (show (th 21) = (th 11) from (by have ob10 : (0 : Int) ≤ (th 10) ∧ (th 10) ≤ 1 := (b0_10 hT :); have ob11 : (0 : Int) ≤ (th 11) ∧ (th 11) ≤ 9 := (b0_11 hT :); have ob12 : (0 : Int) ≤ (th 12) ∧ (th 12) ≤ 6 := (b0_12 hT :); have ob14 : (0 : Int) ≤ (th 14) ∧ (th 14) ≤ 511 := (b0_14 hT :); have ob15 : (0 : Int) ≤ (th 15) ∧ (th 15) ≤ 1 := (b0_15 hT :); have ob16 : (0 : Int) ≤ (th 16) ∧ (th 16) ≤ 20 := (b0_16 hT :); have ob17 : (0 : Int) ≤ (th 17) ∧ (th 17) ≤ 1 := (b0_17 hT :); have ob18 : (0 : Int) ≤ (th 18) ∧ (th 18) ≤ 18 := (b0_18 hT :); have ob38 : (0 : Int) ≤ (th 38) ∧ (th 38) ≤ 400 := (b0_38 hT :); have ob39 : (0 : Int) ≤ (th 39) ∧ (th 39) ≤ 200 := (b0_39 hT :); have ob44 : (0 : Int) ≤ (th 44) ∧ (th 44) ≤ 30 := (b0_44 hT :); obtain ⟨o0a, o0b⟩ := (hv14_1 : In _ _ _); obtain ⟨o1a, o1b⟩ := (hv15_1 : In _ _ _); obtain ⟨o2a, o2b⟩ := (hv17_1 : In _ _ _); obtain ⟨o3a, o3b⟩ := (hv20_1 : In _ _ _); obtain ⟨o4a, o4b⟩ := (hb10 : In _ _ _); obtain ⟨o5a, o5b⟩ := (hv25_1 : In _ _ _); obtain ⟨o6a, o6b⟩ := (hv36_1 : In _ _ _); obtain ⟨o7a, o7b⟩ := (hv47_1 : In _ _ _); obtain ⟨o8a, o8b⟩ := (hv48_1 : In _ _ _); obtain ⟨o9a, o9b⟩ := (hv53_1 : In _ _ _); obtain ⟨o10a, o10b⟩ := (hv55_1 : In _ _ _); omega))) cV_X11_takesUp wg_1648 ⟨Nat.le_of_ble_eq_true rfl, Nat.le_of_ble_eq_true rfl⟩ hG hE hA hP hD hS (hst.1 255 (by decide)) hf4 rfl rfl hl.1 (As := []) (rest := []) rfl (Nat.le_of_ble_eq_true rfl) dX11_byChance_41 ⟨Nat.le_of_ble_eq_true rfl, Nat.le_of_ble_eq_true rfl⟩) hA hD hS (fun L34 f35 H locs hp36 hP hD hS => ?_)
        obtain ⟨eL37L, eL37T, eL37F⟩ := hp36
        have eL37L : L34 = L := eL37L
        rw [eL37L] at hP hD
        obtain ⟨zz38, zz39, hzz38, eL37T⟩ := eL37T
        have hzz38 : ((zz38 = (th 19) ∧ 0 ≤ zz38 ∧ zz38 ≤ (th 20)) ∧ (0 ≤ zz39 ∧ zz39 ≤ 511)) ∧ capI zz39 ((th 11)) := hzz38
        have hT : TI g ad (gset (gset th 18 zz38) 14 zz39) f35 := eL37T
        have eL37F : ∀ b, b ≠ (ad 255) → b ≠ (ad 265) → b ≠ (ad 266) → b ≠ (ad 267) → b ≠ (ad 269) → b ≠ (ad 260) → b ≠ (ad 261) → b ≠ (ad 262) → b ≠ (ad 263) → b ≠ (ad 264) → f35 b = f3 b := eL37F
        have hfr : (∀ b, b ≠ (ad 255) → b ≠ (ad 265) → b ≠ (ad 266) → b ≠ (ad 267) → b ≠ (ad 268) → b ≠ (ad 269) → b ≠ (ad 270) → b ≠ (ad 260) → b ≠ (ad 261) → b ≠ (ad 262) → b ≠ (ad 263) → b ≠ (ad 264) → f35 b = f b) := fun b z0_ z1_ z2_ z3_ z4_ z5_ z6_ z7_ z8_ z9_ z10_ z11_ => (eL37F b z0_ z1_ z2_ z3_ z5_ z7_ z8_ z9_ z10_ z11_).trans (hfr b z0_ z1_ z2_ z3_ z4_ z5_ z6_ z7_ z8_ z9_ z10_ z11_)
        refine M0e hT (fun v0_40 v2_40 v3_40 v4_40 v5_40 v6_40 v8_40 v9_40 v12_40 v13_40 v14_40 v15_40 v16_40 v17_40 v18_40 v19_40 v20_40 v21_40 v22_40 v23_40 v25_40 v36_40 v37_40 v38_40 v39_40 v40_40 v45_40 v46_40 v47_40 v48_40 v50_40 v51_40 v53_40 v55_40 hf41 hv0_40 hv2_40 hg2_40 hv3_40 hg3_40 hv4_40 hg4_40 hv5_40 hg5_40 hv6_40 hg6_40 hv8_40 hg8_40 hv9_40 hg9_40 hv12_40 hv13_40 hg13_40 hv14_40 hg14_40 hv15_40 hg15_40 hv17_40 hg17_40 hv20_40 hg20_40 hv23_40 hg23_40 hv25_40 hg25_40 hv36_40 hg36_40 hv47_40 hg47_40 hv48_40 hg48_40 hv53_40 hg53_40 hv55_40 hg55_40 hrel0_40 => ?_)
        have hg2_40 : v2_40.toInt = th 13 := hg2_40
        have hg3_40 : v3_40.toInt = th 37 := hg3_40
        have hg4_40 : v4_40.toInt = th 42 := hg4_40
        have hg5_40 : v5_40.toInt = th 40 := hg5_40
        have hg6_40 : v6_40.toInt = th 41 := hg6_40
        have hg8_40 : v8_40.toInt = th 43 := hg8_40
        have hg9_40 : v9_40.toInt = th 35 := hg9_40
        have hg13_40 : v13_40.toInt = th 36 := hg13_40
        have hg14_40 : v14_40.toInt = th 10 := hg14_40
        have hg15_40 : v15_40.toInt = th 11 := hg15_40
        have hg17_40 : v17_40.toInt = th 12 := hg17_40
        have hg20_40 : v20_40.toInt = zz39 := hg20_40
        have hg23_40 : v23_40.toInt = th 15 := hg23_40
        have hg25_40 : v25_40.toInt = th 44 := hg25_40
        have hg36_40 : v36_40.toInt = zz38 := hg36_40
        have hg47_40 : v47_40.toInt = th 16 := hg47_40
        have hg48_40 : v48_40.toInt = th 17 := hg48_40
        have hg53_40 : v53_40.toInt = th 38 := hg53_40
        have hg55_40 : v55_40.toInt = th 39 := hg55_40
        have h14 : (0 ≤ zz39 ∧ zz39 ≤ 511) ∧ th 11 ≤ 9 := ⟨hzz38.1.2, by omega⟩
        have hfz : 0 ≤ fzI (zz39) ∧ fzI (zz39) < th 11 := fz_capI h14.1 (by omega) hzz38.2
        refine lv_aload_n hx hb dX11_byChance_44 rfl (lv_at hl 0 rfl) ?_
        refine pl_get (v := .long v21_40) hx hb hts (fun w h => mT (inX11 w h)) hown hG.1 hP (hst.1 255 (by decide)) hf41 rfl 21 (by decide) (hts _ (mT wg_1357)) (fun _ h => h) rfl dX11_byChance_45 ?_
        refine lv_lstore (lv' := [(5, .long v21_40), (0, .ref (ad 255)), (1, .int z1), (2, .long z2), (4, .int z3)]) hx hb dX11_byChance_48 hl (by decide) rfl (fun ls hl => ?_)
        refine lv_iconst (v := 0) hx hb dX11_byChance_50 (by decide) ?_
        refine lv_istore (lv' := [(7, .int 0), (5, .long v21_40), (0, .ref (ad 255)), (1, .int z1), (2, .long z2), (4, .int z3)]) hx hb dX11_byChance_51 hl (by decide) rfl (fun ls hl => ?_)
        refine lv_iconst (v := 0) hx hb dX11_byChance_53 (by decide) ?_
        refine lv_istore (lv' := [(8, .int 0), (7, .int 0), (5, .long v21_40), (0, .ref (ad 255)), (1, .int z1), (2, .long z2), (4, .int z3)]) hx hb dX11_byChance_54 hl (by decide) rfl (fun ls hl => ?_)
        refine lv_iconst (v := (-1)) hx hb dX11_byChance_56 (by decide) ?_
        refine lv_istore (lv' := [(9, .int (-1)), (8, .int 0), (7, .int 0), (5, .long v21_40), (0, .ref (ad 255)), (1, .int z1), (2, .long z2), (4, .int z3)]) hx hb dX11_byChance_57 hl (by decide) rfl (fun ls hl => ?_)
        refine lv_iconst (v := 0) hx hb dX11_byChance_59 (by decide) ?_
        refine lv_istore (lv' := [(10, .int 0), (9, .int (-1)), (8, .int 0), (7, .int 0), (5, .long v21_40), (0, .ref (ad 255)), (1, .int z1), (2, .long z2), (4, .int z3)]) hx hb dX11_byChance_60 hl (by decide) rfl (fun ls hl => ?_)
        refine lv_iconst (v := 0) hx hb dX11_byChance_62 (by decide) ?_
        refine lv_istore (lv' := [(11, .int 0), (10, .int 0), (9, .int (-1)), (8, .int 0), (7, .int 0), (5, .long v21_40), (0, .ref (ad 255)), (1, .int z1), (2, .long z2), (4, .int z3)]) hx hb dX11_byChance_63 hl (by decide) rfl (fun ls hl => ?_)
        have hJ65 : ∀ (k65 : Nat) (y65_l11 : Int32) (H : Heap) (locs : List Loc) (ls : Array Slot), In y65_l11 0 8 → va_P g.1 vwCl (va_pl L f35) H → va_D A (va_pl L f35) → va_S A s.heap H locs → (y65_l11.toInt ≤ fzI (zz39)) → lv_has ls 14 [(0, .ref (ad 255)), (1, .int z1), (2, .long z2), (4, .int z3), (5, .long v21_40), (7, .int 0), (8, .int 0), (9, .int (-1)), (10, .int 0), (11, .int y65_l11)] → 8 - y65_l11.toInt < ((k65 : Nat) : Int) → W p l e rm_X11_byChance s m [.ref (ad 255), .int z1, .long z2, .int z3].toArray below meth c H locs 0 0 (MQ below (va_Qi (po_X11_byChance g ad th L f z1 z2 z3) (PstB g A) A) [.ref (ad 255), .int z1, .long z2, .int z3].toArray s rm_X11_byChance.cells rm_X11_byChance.slots A) (F0 m 65 ls []) := by
          intro k65
          induction k65 with
          | zero =>
            intro y65_l11 H locs ls hy65_l11 hP hD hS hxi65_0 hl hmz65
            exact ms0 hy65_l11 hmz65
          | succ k65 ih65 =>
            intro y65_l11 H locs ls hy65_l11 hP hD hS hxi65_0 hl hmz65
            refine lv_aload_n hx hb dX11_byChance_65 rfl (lv_at hl 0 rfl) ?_
            refine lv_iload hx hb dX11_byChance_66 (lv_at hl 9 rfl) ?_
            refine call_i (run_V (rm := rm_X11_isLiar) hx hb hml hown hts (s_X11_isLiar l g ad (gset (gset th 18 zz38) 14 zz39) _ _ _ y65_l11 hst hT ) cV_X11_isLiar wg_1664 ⟨Nat.le_of_ble_eq_true rfl, Nat.le_of_ble_eq_true rfl⟩ hG hE hA hP hD hS (hst.1 255 (by decide)) hf41 rfl rfl hl.1 (As := [.int y65_l11]) (rest := []) rfl (Nat.le_of_ble_eq_true rfl) dX11_byChance_68 ⟨Nat.le_of_ble_eq_true rfl, Nat.le_of_ble_eq_true rfl⟩) hA hD hS (fun r42 L43 f44 H locs hp45 hP hD hS => ?_)
            obtain ⟨eL46L, eL46T, eL46R, eL46X0⟩ := hp45
            have eL46L : L43 = L := eL46L
            have eL46T : f44 = f35 := eL46T
            rw [eL46L, eL46T] at hP hD
            have eL46R : In r42 0 1 := eL46R
            have hbl47 : r42.toInt = bitI (zz39) y65_l11.toInt := eL46X0 (In.mono hy65_l11 (by decide) (by decide))
            refine lv_if_eq (tgt := 80) hx hb dX11_byChance_71 (by decide) (fun c48 => ?_) (fun c48 => ?_)
            ·
              have oc0 : (0 : Int32).toInt = 0 := by decide
              have cc49 : r42.toInt = (0 : Int32).toInt := congrArg Int32.toInt c48
              have hb50 : In r42 0 0 := In.eq1 eL46R (⟨by decide, by decide⟩ : In 0 0 0) cc49 (by omega) (by omega)
              refine lv_iconst (v := 0) hx hb dX11_byChance_80 (by decide) ?_
              refine lv_istore (lv' := [(12, .int 0), (0, .ref (ad 255)), (1, .int z1), (2, .long z2), (4, .int z3), (5, .long v21_40), (7, .int 0), (8, .int 0), (9, .int (-1)), (10, .int 0), (11, .int y65_l11)]) hx hb dX11_byChance_81 hl (by decide) rfl (fun ls hl => ?_)
              have hJ83 : ∀ (k83 : Nat) (zg83_zg : Int) (y83_l7 : Int32) (y83_l8 : Int32) (y83_l9 : Int32) (y83_l10 : Int32) (y83_l12 : Int32) (f_83 : HP) (H : Heap) (locs : List Loc) (ls : Array Slot), In y83_l7 (-2147483648) 2147483647 → In y83_l8 (-2147483648) 2147483647 → In y83_l9 (-1) 2147483647 → In y83_l10 (-2147483648) 2147483647 → In y83_l12 0 2147483647 → va_P g.1 vwCl (va_pl L f_83) H → va_D A (va_pl L f_83) → va_S A s.heap H locs → TI g ad (gset (gset th 14 zz39) 18 zg83_zg) f_83 → (∀ b, b ≠ (ad 255) → b ≠ (ad 265) → b ≠ (ad 266) → b ≠ (ad 267) → b ≠ (ad 268) → b ≠ (ad 269) → b ≠ (ad 270) → b ≠ (ad 260) → b ≠ (ad 261) → b ≠ (ad 262) → b ≠ (ad 263) → b ≠ (ad 264) → f_83 b = f b) → lv_has ls 14 [(0, .ref (ad 255)), (1, .int z1), (2, .long z2), (4, .int z3), (5, .long v21_40), (7, .int y83_l7), (8, .int y83_l8), (9, .int y83_l9), (10, .int y83_l10), (11, .int y65_l11), (12, .int y83_l12)] → 2147483647 - y83_l12.toInt < ((k83 : Nat) : Int) → W p l e rm_X11_byChance s m [.ref (ad 255), .int z1, .long z2, .int z3].toArray below meth c H locs 0 0 (MQ below (va_Qi (po_X11_byChance g ad th L f z1 z2 z3) (PstB g A) A) [.ref (ad 255), .int z1, .long z2, .int z3].toArray s rm_X11_byChance.cells rm_X11_byChance.slots A) (F0 m 83 ls []) := by
                intro k83
                induction k83 with
                | zero =>
                  intro zg83_zg y83_l7 y83_l8 y83_l9 y83_l10 y83_l12 f_83 H locs ls hy83_l7 hy83_l8 hy83_l9 hy83_l10 hy83_l12 hP hD hS hT hfr hl hmz83
                  exact ms0 hy83_l12 hmz83
                | succ k83 ih83 =>
                  intro zg83_zg y83_l7 y83_l8 y83_l9 y83_l10 y83_l12 f_83 H locs ls hy83_l7 hy83_l8 hy83_l9 hy83_l10 hy83_l12 hP hD hS hT hfr hl hmz83
                  refine lv_iload hx hb dX11_byChance_83 (lv_at hl 10 rfl) ?_
                  refine lv_iload_n hx hb dX11_byChance_85 rfl (lv_at hl 1 rfl) ?_
                  refine lv_icmp_ge (tgt := 186) hx hb dX11_byChance_86 (by decide) (fun c51 => ?_) (fun c51 => ?_)
                  ·
                    have cc52 : z1.toInt ≤ y83_l12.toInt := i32_le.mp c51
                    have hb53 : In y83_l12 1 2147483647 := In.ge1 hy83_l12 hb22 cc52 (by omega) (by omega)
                    refine lv_aload_n hx hb dX11_byChance_186 rfl (lv_at hl 0 rfl) ?_
                    refine lv_lload hx hb dX11_byChance_187 (lv_at hl 4 rfl) ?_
                    refine M0e hT (fun v0_54 v2_54 v3_54 v4_54 v5_54 v6_54 v8_54 v9_54 v12_54 v13_54 v14_54 v15_54 v16_54 v17_54 v18_54 v19_54 v20_54 v21_54 v22_54 v23_54 v25_54 v36_54 v37_54 v38_54 v39_54 v40_54 v45_54 v46_54 v47_54 v48_54 v50_54 v51_54 v53_54 v55_54 hf55 hv0_54 hv2_54 hg2_54 hv3_54 hg3_54 hv4_54 hg4_54 hv5_54 hg5_54 hv6_54 hg6_54 hv8_54 hg8_54 hv9_54 hg9_54 hv12_54 hv13_54 hg13_54 hv14_54 hg14_54 hv15_54 hg15_54 hv17_54 hg17_54 hv20_54 hg20_54 hv23_54 hg23_54 hv25_54 hg25_54 hv36_54 hg36_54 hv47_54 hg47_54 hv48_54 hg48_54 hv53_54 hg53_54 hv55_54 hg55_54 hrel0_54 => ?_)
                    have hg2_54 : v2_54.toInt = th 13 := hg2_54
                    have hg3_54 : v3_54.toInt = th 37 := hg3_54
                    have hg4_54 : v4_54.toInt = th 42 := hg4_54
                    have hg5_54 : v5_54.toInt = th 40 := hg5_54
                    have hg6_54 : v6_54.toInt = th 41 := hg6_54
                    have hg8_54 : v8_54.toInt = th 43 := hg8_54
                    have hg9_54 : v9_54.toInt = th 35 := hg9_54
                    have hg13_54 : v13_54.toInt = th 36 := hg13_54
                    have hg14_54 : v14_54.toInt = th 10 := hg14_54
                    have hg15_54 : v15_54.toInt = th 11 := hg15_54
                    have hg17_54 : v17_54.toInt = th 12 := hg17_54
                    have hg20_54 : v20_54.toInt = zz39 := hg20_54
                    have hg23_54 : v23_54.toInt = th 15 := hg23_54
                    have hg25_54 : v25_54.toInt = th 44 := hg25_54
                    have hg36_54 : v36_54.toInt = zg83_zg := hg36_54
                    have hg47_54 : v47_54.toInt = th 16 := hg47_54
                    have hg48_54 : v48_54.toInt = th 17 := hg48_54
                    have hg53_54 : v53_54.toInt = th 38 := hg53_54
                    have hg55_54 : v55_54.toInt = th 39 := hg55_54
                    refine pl_put (ty := .long) (v := .long v21_40) (fs' := [.int v0_54, .ref (ad 256), .int v2_54, .int v3_54, .int v4_54, .int v5_54, .int v6_54, .ref (ad 257), .int v8_54, .int v9_54, .ref (ad 258), .ref (ad 259), .int v12_54, .int v13_54, .int v14_54, .int v15_54, .int v16_54, .int v17_54, .int v18_54, .int v19_54, .int v20_54, .long v21_40, .long v22_54, .int v23_54, .ref (ad 260), .int v25_54, .ref (ad 261), .ref (ad 262), .ref (ad 263), .ref (ad 264), .ref (ad 265), .ref (ad 266), .ref (ad 267), .ref (ad 268), .ref (ad 269), .ref (ad 270), .int v36_54, .int v37_54, .int v38_54, .int v39_54, .int v40_54, .ref (ad 271), .ref (ad 272), .ref (ad 273), .ref (ad 274), .long v45_54, .long v46_54, .int v47_54, .int v48_54, .ref (ad 275), .int v50_54, .int v51_54, .ref (ad 276), .int v53_54, .ref (ad 277), .int v55_54]) hx hb hts (fun w h => mT (inX11 w h)) tyX11 tyX11_ok nmX11 hown hG.1 hP hD hS (hst.1 255 (by decide)) hf55 rfl 21 (by decide) (hts _ (mT wg_1357)) (fun _ h => h) rfl (by decide +kernel) (rfl) (rfl) (Nat.le_of_ble_eq_true rfl) rfl dX11_byChance_189 (fun H locs f56 hf57 ho58 hP hD hS => ?_)
                    have hfr : (∀ b, b ≠ (ad 255) → b ≠ (ad 265) → b ≠ (ad 266) → b ≠ (ad 267) → b ≠ (ad 268) → b ≠ (ad 269) → b ≠ (ad 270) → b ≠ (ad 260) → b ≠ (ad 261) → b ≠ (ad 262) → b ≠ (ad 263) → b ≠ (ad 264) → f56 b = f b) := fun b z0_ z1_ z2_ z3_ z4_ z5_ z6_ z7_ z8_ z9_ z10_ z11_ => (ho58 b z0_).trans (hfr b z0_ z1_ z2_ z3_ z4_ z5_ z6_ z7_ z8_ z9_ z10_ z11_)
                    refine lv_iload hx hb dX11_byChance_192 (lv_at hl 3 rfl) ?_
                    have hT := TI.updM hT hst (k := 0) (by decide) hf57 ho58 ⟨v0_54, v2_54, v3_54, v4_54, v5_54, v6_54, v8_54, v9_54, v12_54, v13_54, v14_54, v15_54, v16_54, v17_54, v18_54, v19_54, v20_54, v21_40, v22_54, v23_54, v25_54, v36_54, v37_54, v38_54, v39_54, v40_54, v45_54, v46_54, v47_54, v48_54, v50_54, v51_54, v53_54, v55_54, rfl, hv0_54, hv2_54, hg2_54, hv3_54, hg3_54, hv4_54, hg4_54, hv5_54, hg5_54, hv6_54, hg6_54, hv8_54, hg8_54, hv9_54, hg9_54, hv12_54, hv13_54, hg13_54, hv14_54, hg14_54, hv15_54, hg15_54, hv17_54, hg17_54, hv20_54, hg20_54, hv23_54, hg23_54, hv25_54, hg25_54, hv36_54, hg36_54, hv47_54, hg47_54, hv48_54, hg48_54, hv53_54, hg53_54, hv55_54, hg55_54, hrel0_54⟩
                    refine lv_if_ne (tgt := 202) hx hb dX11_byChance_194 (by decide) (fun c59 => ?_) (fun c59 => ?_)
                    ·
                      have oc0 : (0 : Int32).toInt = 0 := by decide
                      have cc60 : z3.toInt ≠ (0 : Int32).toInt := i32_ne c59
                      have hb61 : In z3 1 3 := In.ne1 hb32 (⟨by decide, by decide⟩ : In 0 0 0) cc60 (by omega) (by omega)
                      refine lv_iload hx hb dX11_byChance_202 (lv_at hl 3 rfl) ?_
                      refine lv_iconst (v := 1) hx hb dX11_byChance_204 (by decide) ?_
                      refine lv_icmp_ne (tgt := 213) hx hb dX11_byChance_205 (by decide) (fun c62 => ?_) (fun c62 => ?_)
                      ·
                        have oc1 : (1 : Int32).toInt = 1 := by decide
                        have cc63 : z3.toInt ≠ (1 : Int32).toInt := i32_ne c62
                        have hb64 : In z3 2 3 := In.ne1 hb61 (⟨by decide, by decide⟩ : In 1 1 1) cc63 (by omega) (by omega)
                        refine lv_iload hx hb dX11_byChance_213 (lv_at hl 3 rfl) ?_
                        refine lv_iconst (v := 2) hx hb dX11_byChance_215 (by decide) ?_
                        refine lv_icmp_ne (tgt := 224) hx hb dX11_byChance_216 (by decide) (fun c65 => ?_) (fun c65 => ?_)
                        ·
                          have oc2 : (2 : Int32).toInt = 2 := by decide
                          have cc66 : z3.toInt ≠ (2 : Int32).toInt := i32_ne c65
                          have hb67 : In z3 3 3 := In.ne1 hb64 (⟨by decide, by decide⟩ : In 2 2 2) cc66 (by omega) (by omega)
                          refine lv_iload hx hb dX11_byChance_224 (lv_at hl 8 rfl) ?_
                          exact ret_i (ty := .int) hx hb hr hlocks (rfl) hP hD hS (Nat.le_of_ble_eq_true rfl) (Nat.le_of_ble_eq_true rfl) (⟨rfl, ⟨(gset (gset th 14 zz39) 18 zg83_zg), ⟨(show MI (gset (gset th 14 zz39) 18 zg83_zg) from ⟨m1, m2, (show th 20 = (th 12) * rnd (th 10) from m3), m4, m5, m6, m7, m8, m9, m10⟩), (SBM.set (k := 18) (SBM.set (k := 14) (SBM.rf th) (by decide)) (by decide))⟩, hT⟩, hfr⟩) dX11_byChance_226
                        ·
                          have oc2 : (2 : Int32).toInt = 2 := by decide
                          have cc68 : z3.toInt = (2 : Int32).toInt := congrArg Int32.toInt c65
                          have hb69 : In z3 2 2 := In.eq1 hb64 (⟨by decide, by decide⟩ : In 2 2 2) cc68 (by omega) (by omega)
                          refine lv_iload hx hb dX11_byChance_219 (lv_at hl 7 rfl) ?_
                          refine lv_goto (tgt := 226) hx hb dX11_byChance_221 (by decide) ?_
                          exact ret_i (ty := .int) hx hb hr hlocks (rfl) hP hD hS (Nat.le_of_ble_eq_true rfl) (Nat.le_of_ble_eq_true rfl) (⟨rfl, ⟨(gset (gset th 14 zz39) 18 zg83_zg), ⟨(show MI (gset (gset th 14 zz39) 18 zg83_zg) from ⟨m1, m2, (show th 20 = (th 12) * rnd (th 10) from m3), m4, m5, m6, m7, m8, m9, m10⟩), (SBM.set (k := 18) (SBM.set (k := 14) (SBM.rf th) (by decide)) (by decide))⟩, hT⟩, hfr⟩) dX11_byChance_226
                      ·
                        have oc1 : (1 : Int32).toInt = 1 := by decide
                        have cc70 : z3.toInt = (1 : Int32).toInt := congrArg Int32.toInt c62
                        have hb71 : In z3 1 1 := In.eq1 hb61 (⟨by decide, by decide⟩ : In 1 1 1) cc70 (by omega) (by omega)
                        refine lv_iload hx hb dX11_byChance_208 (lv_at hl 6 rfl) ?_
                        refine lv_goto (tgt := 226) hx hb dX11_byChance_210 (by decide) ?_
                        exact ret_i (ty := .int) hx hb hr hlocks (rfl) hP hD hS (Nat.le_of_ble_eq_true rfl) (Nat.le_of_ble_eq_true rfl) (⟨rfl, ⟨(gset (gset th 14 zz39) 18 zg83_zg), ⟨(show MI (gset (gset th 14 zz39) 18 zg83_zg) from ⟨m1, m2, (show th 20 = (th 12) * rnd (th 10) from m3), m4, m5, m6, m7, m8, m9, m10⟩), (SBM.set (k := 18) (SBM.set (k := 14) (SBM.rf th) (by decide)) (by decide))⟩, hT⟩, hfr⟩) dX11_byChance_226
                    ·
                      have oc0 : (0 : Int32).toInt = 0 := by decide
                      have cc72 : z3.toInt = (0 : Int32).toInt := congrArg Int32.toInt c59
                      have hb73 : In z3 0 0 := In.eq1 hb32 (⟨by decide, by decide⟩ : In 0 0 0) cc72 (by omega) (by omega)
                      refine lv_iload hx hb dX11_byChance_197 (lv_at hl 5 rfl) ?_
                      refine lv_goto (tgt := 226) hx hb dX11_byChance_199 (by decide) ?_
                      exact ret_i (ty := .int) hx hb hr hlocks (rfl) hP hD hS (Nat.le_of_ble_eq_true rfl) (Nat.le_of_ble_eq_true rfl) (⟨rfl, ⟨(gset (gset th 14 zz39) 18 zg83_zg), ⟨(show MI (gset (gset th 14 zz39) 18 zg83_zg) from ⟨m1, m2, (show th 20 = (th 12) * rnd (th 10) from m3), m4, m5, m6, m7, m8, m9, m10⟩), (SBM.set (k := 18) (SBM.set (k := 14) (SBM.rf th) (by decide)) (by decide))⟩, hT⟩, hfr⟩) dX11_byChance_226
                  ·
                    have cc74 : y83_l12.toInt < z1.toInt := i32_nle c51
                    have hb75 : In y83_l12 0 199 := In.lt1 hy83_l12 hb22 cc74 (by omega) (by omega)
                    refine lv_aload_n hx hb dX11_byChance_89 rfl (lv_at hl 0 rfl) ?_
                    refine lv_lload_n hx hb dX11_byChance_90 rfl (lv_at hl 2 rfl) ?_
                    refine lv_iload hx hb dX11_byChance_91 (lv_at hl 10 rfl) ?_
                    refine lv_i2l hx hb dX11_byChance_93 rfl ?_
                    refine lv_ladd hx hb dX11_byChance_94 ?_
                    refine lv_topl (fun x76 ex76 => ?_)
                    refine M0e hT (fun v0_77 v2_77 v3_77 v4_77 v5_77 v6_77 v8_77 v9_77 v12_77 v13_77 v14_77 v15_77 v16_77 v17_77 v18_77 v19_77 v20_77 v21_77 v22_77 v23_77 v25_77 v36_77 v37_77 v38_77 v39_77 v40_77 v45_77 v46_77 v47_77 v48_77 v50_77 v51_77 v53_77 v55_77 hf78 hv0_77 hv2_77 hg2_77 hv3_77 hg3_77 hv4_77 hg4_77 hv5_77 hg5_77 hv6_77 hg6_77 hv8_77 hg8_77 hv9_77 hg9_77 hv12_77 hv13_77 hg13_77 hv14_77 hg14_77 hv15_77 hg15_77 hv17_77 hg17_77 hv20_77 hg20_77 hv23_77 hg23_77 hv25_77 hg25_77 hv36_77 hg36_77 hv47_77 hg47_77 hv48_77 hg48_77 hv53_77 hg53_77 hv55_77 hg55_77 hrel0_77 => ?_)
                    have hg2_77 : v2_77.toInt = th 13 := hg2_77
                    have hg3_77 : v3_77.toInt = th 37 := hg3_77
                    have hg4_77 : v4_77.toInt = th 42 := hg4_77
                    have hg5_77 : v5_77.toInt = th 40 := hg5_77
                    have hg6_77 : v6_77.toInt = th 41 := hg6_77
                    have hg8_77 : v8_77.toInt = th 43 := hg8_77
                    have hg9_77 : v9_77.toInt = th 35 := hg9_77
                    have hg13_77 : v13_77.toInt = th 36 := hg13_77
                    have hg14_77 : v14_77.toInt = th 10 := hg14_77
                    have hg15_77 : v15_77.toInt = th 11 := hg15_77
                    have hg17_77 : v17_77.toInt = th 12 := hg17_77
                    have hg20_77 : v20_77.toInt = zz39 := hg20_77
                    have hg23_77 : v23_77.toInt = th 15 := hg23_77
                    have hg25_77 : v25_77.toInt = th 44 := hg25_77
                    have hg36_77 : v36_77.toInt = zg83_zg := hg36_77
                    have hg47_77 : v47_77.toInt = th 16 := hg47_77
                    have hg48_77 : v48_77.toInt = th 17 := hg48_77
                    have hg53_77 : v53_77.toInt = th 38 := hg53_77
                    have hg55_77 : v55_77.toInt = th 39 := hg55_77
                    refine pl_put (ty := .long) (v := .long x76) (fs' := [.int v0_77, .ref (ad 256), .int v2_77, .int v3_77, .int v4_77, .int v5_77, .int v6_77, .ref (ad 257), .int v8_77, .int v9_77, .ref (ad 258), .ref (ad 259), .int v12_77, .int v13_77, .int v14_77, .int v15_77, .int v16_77, .int v17_77, .int v18_77, .int v19_77, .int v20_77, .long x76, .long v22_77, .int v23_77, .ref (ad 260), .int v25_77, .ref (ad 261), .ref (ad 262), .ref (ad 263), .ref (ad 264), .ref (ad 265), .ref (ad 266), .ref (ad 267), .ref (ad 268), .ref (ad 269), .ref (ad 270), .int v36_77, .int v37_77, .int v38_77, .int v39_77, .int v40_77, .ref (ad 271), .ref (ad 272), .ref (ad 273), .ref (ad 274), .long v45_77, .long v46_77, .int v47_77, .int v48_77, .ref (ad 275), .int v50_77, .int v51_77, .ref (ad 276), .int v53_77, .ref (ad 277), .int v55_77]) hx hb hts (fun w h => mT (inX11 w h)) tyX11 tyX11_ok nmX11 hown hG.1 hP hD hS (hst.1 255 (by decide)) hf78 rfl 21 (by decide) (hts _ (mT wg_1357)) (fun _ h => h) rfl (by decide +kernel) (rfl) (rfl) (Nat.le_of_ble_eq_true rfl) rfl dX11_byChance_95 (fun H locs f79 hf80 ho81 hP hD hS => ?_)
                    have hfr : (∀ b, b ≠ (ad 255) → b ≠ (ad 265) → b ≠ (ad 266) → b ≠ (ad 267) → b ≠ (ad 268) → b ≠ (ad 269) → b ≠ (ad 270) → b ≠ (ad 260) → b ≠ (ad 261) → b ≠ (ad 262) → b ≠ (ad 263) → b ≠ (ad 264) → f79 b = f b) := fun b z0_ z1_ z2_ z3_ z4_ z5_ z6_ z7_ z8_ z9_ z10_ z11_ => (ho81 b z0_).trans (hfr b z0_ z1_ z2_ z3_ z4_ z5_ z6_ z7_ z8_ z9_ z10_ z11_)
                    refine lv_aload_n hx hb dX11_byChance_98 rfl (lv_at hl 0 rfl) ?_
                    refine lv_iconst (v := 2) hx hb dX11_byChance_99 (by decide) ?_
                    refine lv_iconst (v := 0) hx hb dX11_byChance_100 (by decide) ?_
                    have hT := TI.updM hT hst (k := 0) (by decide) hf80 ho81 ⟨v0_77, v2_77, v3_77, v4_77, v5_77, v6_77, v8_77, v9_77, v12_77, v13_77, v14_77, v15_77, v16_77, v17_77, v18_77, v19_77, v20_77, x76, v22_77, v23_77, v25_77, v36_77, v37_77, v38_77, v39_77, v40_77, v45_77, v46_77, v47_77, v48_77, v50_77, v51_77, v53_77, v55_77, rfl, hv0_77, hv2_77, hg2_77, hv3_77, hg3_77, hv4_77, hg4_77, hv5_77, hg5_77, hv6_77, hg6_77, hv8_77, hg8_77, hv9_77, hg9_77, hv12_77, hv13_77, hg13_77, hv14_77, hg14_77, hv15_77, hg15_77, hv17_77, hg17_77, hv20_77, hg20_77, hv23_77, hg23_77, hv25_77, hg25_77, hv36_77, hg36_77, hv47_77, hg47_77, hv48_77, hg48_77, hv53_77, hg53_77, hv55_77, hg55_77, hrel0_77⟩
                    refine call_v (run_V (rm := rm_X11_runsWhole) hx hb hml hown hts (s_X11_runsWhole l g ad (gset (gset th 14 zz39) 18 zg83_zg) _ _ _ 2 0 hst hT (show 3 ≤ th 11 by omega)) cV_X11_runsWhole wg_1842 ⟨Nat.le_of_ble_eq_true rfl, Nat.le_of_ble_eq_true rfl⟩ hG hE hA hP hD hS (hst.1 255 (by decide)) hf80 rfl rfl hl.1 (As := [.int 2, .int 0]) (rest := []) rfl (Nat.le_of_ble_eq_true rfl) dX11_byChance_101 ⟨Nat.le_of_ble_eq_true rfl, Nat.le_of_ble_eq_true rfl⟩) hA hD hS (fun L83 f84 H locs hp85 hP hD hS => ?_)
                    obtain ⟨eL86L, eL86T, eL86F⟩ := hp85
                    have eL86L : L83 = L := eL86L
                    rw [eL86L] at hP hD
                    obtain ⟨zz87, hzz87, eL86T⟩ := eL86T
                    have hzz87 : True := hzz87
                    have hT : TI g ad (gset (gset (gset th 14 zz39) 18 zg83_zg) 18 zz87) f84 := eL86T
                    have hT : TI g ad (gset (gset th 14 zz39) 18 zz87) f84 := TI.cast hT (by funext q; by_cases hq0 : q = 18; (subst hq0; rfl); by_cases hq1 : q = 14; (subst hq1; rfl); simp only [gset, if_neg hq0, if_neg hq1])
                    have eL86F : ∀ b, b ≠ (ad 255) → b ≠ (ad 265) → b ≠ (ad 266) → b ≠ (ad 267) → b ≠ (ad 268) → b ≠ (ad 269) → b ≠ (ad 270) → b ≠ (ad 261) → b ≠ (ad 262) → b ≠ (ad 263) → b ≠ (ad 264) → f84 b = f79 b := eL86F
                    have hfr : (∀ b, b ≠ (ad 255) → b ≠ (ad 265) → b ≠ (ad 266) → b ≠ (ad 267) → b ≠ (ad 268) → b ≠ (ad 269) → b ≠ (ad 270) → b ≠ (ad 260) → b ≠ (ad 261) → b ≠ (ad 262) → b ≠ (ad 263) → b ≠ (ad 264) → f84 b = f b) := fun b z0_ z1_ z2_ z3_ z4_ z5_ z6_ z7_ z8_ z9_ z10_ z11_ => (eL86F b z0_ z1_ z2_ z3_ z4_ z5_ z6_ z8_ z9_ z10_ z11_).trans (hfr b z0_ z1_ z2_ z3_ z4_ z5_ z6_ z7_ z8_ z9_ z10_ z11_)
                    refine lv_aload_n hx hb dX11_byChance_104 rfl (lv_at hl 0 rfl) ?_
                    refine M0e hT (fun v0_88 v2_88 v3_88 v4_88 v5_88 v6_88 v8_88 v9_88 v12_88 v13_88 v14_88 v15_88 v16_88 v17_88 v18_88 v19_88 v20_88 v21_88 v22_88 v23_88 v25_88 v36_88 v37_88 v38_88 v39_88 v40_88 v45_88 v46_88 v47_88 v48_88 v50_88 v51_88 v53_88 v55_88 hf89 hv0_88 hv2_88 hg2_88 hv3_88 hg3_88 hv4_88 hg4_88 hv5_88 hg5_88 hv6_88 hg6_88 hv8_88 hg8_88 hv9_88 hg9_88 hv12_88 hv13_88 hg13_88 hv14_88 hg14_88 hv15_88 hg15_88 hv17_88 hg17_88 hv20_88 hg20_88 hv23_88 hg23_88 hv25_88 hg25_88 hv36_88 hg36_88 hv47_88 hg47_88 hv48_88 hg48_88 hv53_88 hg53_88 hv55_88 hg55_88 hrel0_88 => ?_)
                    have hg2_88 : v2_88.toInt = th 13 := hg2_88
                    have hg3_88 : v3_88.toInt = th 37 := hg3_88
                    have hg4_88 : v4_88.toInt = th 42 := hg4_88
                    have hg5_88 : v5_88.toInt = th 40 := hg5_88
                    have hg6_88 : v6_88.toInt = th 41 := hg6_88
                    have hg8_88 : v8_88.toInt = th 43 := hg8_88
                    have hg9_88 : v9_88.toInt = th 35 := hg9_88
                    have hg13_88 : v13_88.toInt = th 36 := hg13_88
                    have hg14_88 : v14_88.toInt = th 10 := hg14_88
                    have hg15_88 : v15_88.toInt = th 11 := hg15_88
                    have hg17_88 : v17_88.toInt = th 12 := hg17_88
                    have hg20_88 : v20_88.toInt = zz39 := hg20_88
                    have hg23_88 : v23_88.toInt = th 15 := hg23_88
                    have hg25_88 : v25_88.toInt = th 44 := hg25_88
                    have hg36_88 : v36_88.toInt = zz87 := hg36_88
                    have hg47_88 : v47_88.toInt = th 16 := hg47_88
                    have hg48_88 : v48_88.toInt = th 17 := hg48_88
                    have hg53_88 : v53_88.toInt = th 38 := hg53_88
                    have hg55_88 : v55_88.toInt = th 39 := hg55_88
                    refine call_i (run_V (rm := rm_X11_areAgreed) hx hb hml hown hts (s_X11_areAgreed l g ad (gset (gset th 14 zz39) 18 zz87) _ _ _  hst hT (show 3 ≤ th 11 by omega)) cV_X11_areAgreed wg_1846 ⟨Nat.le_of_ble_eq_true rfl, Nat.le_of_ble_eq_true rfl⟩ hG hE hA hP hD hS (hst.1 255 (by decide)) hf89 rfl rfl hl.1 (As := []) (rest := []) rfl (Nat.le_of_ble_eq_true rfl) dX11_byChance_105 ⟨Nat.le_of_ble_eq_true rfl, Nat.le_of_ble_eq_true rfl⟩) hA hD hS (fun r90 L91 f92 H locs hp93 hP hD hS => ?_)
                    obtain ⟨eL94L, eL94T, eL94R⟩ := hp93
                    have eL94L : L91 = L := eL94L
                    have eL94T : f92 = f84 := eL94T
                    rw [eL94L, eL94T] at hP hD
                    have eL94R : In r90 0 1 := eL94R
                    refine lv_istore (lv' := [(13, .int r90), (0, .ref (ad 255)), (1, .int z1), (2, .long z2), (4, .int z3), (5, .long v21_40), (7, .int y83_l7), (8, .int y83_l8), (9, .int y83_l9), (10, .int y83_l10), (11, .int y65_l11), (12, .int y83_l12)]) hx hb dX11_byChance_108 hl (by decide) rfl (fun ls hl => ?_)
                    refine lv_iload hx hb dX11_byChance_110 (lv_at hl 6 rfl) ?_
                    refine lv_iload hx hb dX11_byChance_112 (lv_at hl 0 rfl) ?_
                    have hJ122 : ∀ (y122_s0 : Int32) (H : Heap) (locs : List Loc) (ls : Array Slot), In y122_s0 0 1 → va_P g.1 vwCl (va_pl L f84) H → va_D A (va_pl L f84) → va_S A s.heap H locs → lv_has ls 14 [(0, .ref (ad 255)), (1, .int z1), (2, .long z2), (4, .int z3), (5, .long v21_40), (7, .int y83_l7), (8, .int y83_l8), (9, .int y83_l9), (10, .int y83_l10), (11, .int y65_l11), (12, .int y83_l12), (13, .int r90)] → W p l e rm_X11_byChance s m [.ref (ad 255), .int z1, .long z2, .int z3].toArray below meth c H locs 0 0 (MQ below (va_Qi (po_X11_byChance g ad th L f z1 z2 z3) (PstB g A) A) [.ref (ad 255), .int z1, .long z2, .int z3].toArray s rm_X11_byChance.cells rm_X11_byChance.slots A) (F0 m 122 ls [.int y122_s0, .int y83_l7]) := by
                      intro y122_s0 H locs ls hy122_s0 hP hD hS hl
                      refine lv_iadd hx hb dX11_byChance_122 ?_
                      refine lv_topi (fun x95 ex95 => ?_)
                      refine lv_istore (lv' := [(7, .int x95), (0, .ref (ad 255)), (1, .int z1), (2, .long z2), (4, .int z3), (5, .long v21_40), (8, .int y83_l8), (9, .int y83_l9), (10, .int y83_l10), (11, .int y65_l11), (12, .int y83_l12), (13, .int r90)]) hx hb dX11_byChance_123 hl (by decide) rfl (fun ls hl => ?_)
                      refine lv_iload hx hb dX11_byChance_125 (lv_at hl 6 rfl) ?_
                      refine lv_aload_n hx hb dX11_byChance_127 rfl (lv_at hl 1 rfl) ?_
                      refine pl_get (v := .int v37_88) hx hb hts (fun w h => mT (inX11 w h)) hown hG.1 hP (hst.1 255 (by decide)) hf89 rfl 37 (by decide) (hts _ (mT wg_1373)) (fun _ h => h) rfl dX11_byChance_128 ?_
                      refine lv_iadd hx hb dX11_byChance_131 ?_
                      refine lv_topi (fun x96 ex96 => ?_)
                      refine lv_istore (lv' := [(8, .int x96), (7, .int x95), (0, .ref (ad 255)), (1, .int z1), (2, .long z2), (4, .int z3), (5, .long v21_40), (9, .int y83_l9), (10, .int y83_l10), (11, .int y65_l11), (12, .int y83_l12), (13, .int r90)]) hx hb dX11_byChance_132 hl (by decide) rfl (fun ls hl => ?_)
                      refine lv_iload hx hb dX11_byChance_134 (lv_at hl 11 rfl) ?_
                      have hJ152 : ∀ (y152_s0 : Int32) (H : Heap) (locs : List Loc) (ls : Array Slot), In y152_s0 (-1) 2147483647 → va_P g.1 vwCl (va_pl L f84) H → va_D A (va_pl L f84) → va_S A s.heap H locs → lv_has ls 14 [(0, .ref (ad 255)), (1, .int z1), (2, .long z2), (4, .int z3), (5, .long v21_40), (7, .int x95), (8, .int x96), (9, .int y83_l9), (10, .int y83_l10), (11, .int y65_l11), (12, .int y83_l12), (13, .int r90)] → W p l e rm_X11_byChance s m [.ref (ad 255), .int z1, .long z2, .int z3].toArray below meth c H locs 0 0 (MQ below (va_Qi (po_X11_byChance g ad th L f z1 z2 z3) (PstB g A) A) [.ref (ad 255), .int z1, .long z2, .int z3].toArray s rm_X11_byChance.cells rm_X11_byChance.slots A) (F0 m 152 ls [.int y152_s0]) := by
                        intro y152_s0 H locs ls hy152_s0 hP hD hS hl
                        refine lv_istore (lv' := [(9, .int y152_s0), (0, .ref (ad 255)), (1, .int z1), (2, .long z2), (4, .int z3), (5, .long v21_40), (7, .int x95), (8, .int x96), (10, .int y83_l10), (11, .int y65_l11), (12, .int y83_l12), (13, .int r90)]) hx hb dX11_byChance_152 hl (by decide) rfl (fun ls hl => ?_)
                        refine lv_iload hx hb dX11_byChance_154 (lv_at hl 8 rfl) ?_
                        refine lv_iload hx hb dX11_byChance_156 (lv_at hl 11 rfl) ?_
                        have hJ177 : ∀ (y177_s0 : Int32) (H : Heap) (locs : List Loc) (ls : Array Slot), In y177_s0 0 1 → va_P g.1 vwCl (va_pl L f84) H → va_D A (va_pl L f84) → va_S A s.heap H locs → lv_has ls 14 [(0, .ref (ad 255)), (1, .int z1), (2, .long z2), (4, .int z3), (5, .long v21_40), (7, .int x95), (8, .int x96), (9, .int y152_s0), (10, .int y83_l10), (11, .int y65_l11), (12, .int y83_l12), (13, .int r90)] → W p l e rm_X11_byChance s m [.ref (ad 255), .int z1, .long z2, .int z3].toArray below meth c H locs 0 0 (MQ below (va_Qi (po_X11_byChance g ad th L f z1 z2 z3) (PstB g A) A) [.ref (ad 255), .int z1, .long z2, .int z3].toArray s rm_X11_byChance.cells rm_X11_byChance.slots A) (F0 m 177 ls [.int y177_s0, .int y83_l10]) := by
                          intro y177_s0 H locs ls hy177_s0 hP hD hS hl
                          refine lv_iadd hx hb dX11_byChance_177 ?_
                          refine lv_topi (fun x97 ex97 => ?_)
                          refine lv_istore (lv' := [(10, .int x97), (0, .ref (ad 255)), (1, .int z1), (2, .long z2), (4, .int z3), (5, .long v21_40), (7, .int x95), (8, .int x96), (9, .int y152_s0), (11, .int y65_l11), (12, .int y83_l12), (13, .int r90)]) hx hb dX11_byChance_178 hl (by decide) rfl (fun ls hl => ?_)
                          obtain ⟨x98, ex98⟩ : ∃ y : Int32, y = y83_l12 + 1 := ⟨_, rfl⟩
                          have hb99 : In x98 1 200 := ex98 ▸ In.add hb75 (⟨by decide, by decide⟩ : In 1 1 1) (by decide) (by decide) (by decide) (by decide)
                          have et100 : x98.toInt = y83_l12.toInt + 1 := In.adde ex98 hb75 (k := 1) (by decide) (by decide) (by decide)
                          refine lv_iinc (v := x98) (lv' := [(12, .int x98), (10, .int x97), (0, .ref (ad 255)), (1, .int z1), (2, .long z2), (4, .int z3), (5, .long v21_40), (7, .int x95), (8, .int x96), (9, .int y152_s0), (11, .int y65_l11), (13, .int r90)]) hx hb dX11_byChance_180 hl (k := 10) rfl (by rw [ex98]; rfl) (by decide) rfl (fun ls hl => ?_)
                          refine lv_goto (tgt := 83) hx hb dX11_byChance_183 (by decide) ?_
                          exact ih83 zz87 x95 x96 y152_s0 x97 x98 _ _ _ _ (In.full x95) (In.full x96) hy152_s0 (In.full x97) (In.mono hb99 (by decide) (by decide)) hP hD hS (TI.cast hT (by funext q; by_cases hq0 : q = 18; (subst hq0; rfl); by_cases hq1 : q = 14; (subst hq1; rfl); simp only [gset, if_neg hq0, if_neg hq1])) hfr (lv_sub hl [2, 3, 4, 5, 6, 7, 8, 9, 1, 10, 0] rfl) (msu et100 (by decide) hmz83)
                        have hJ176 : ∀ (H : Heap) (locs : List Loc) (ls : Array Slot), va_P g.1 vwCl (va_pl L f84) H → va_D A (va_pl L f84) → va_S A s.heap H locs → lv_has ls 14 [(0, .ref (ad 255)), (1, .int z1), (2, .long z2), (4, .int z3), (5, .long v21_40), (7, .int x95), (8, .int x96), (9, .int y152_s0), (10, .int y83_l10), (11, .int y65_l11), (12, .int y83_l12), (13, .int r90)] → W p l e rm_X11_byChance s m [.ref (ad 255), .int z1, .long z2, .int z3].toArray below meth c H locs 0 0 (MQ below (va_Qi (po_X11_byChance g ad th L f z1 z2 z3) (PstB g A) A) [.ref (ad 255), .int z1, .long z2, .int z3].toArray s rm_X11_byChance.cells rm_X11_byChance.slots A) (F0 m 176 ls [.int y83_l10]) := by
                          intro H locs ls hP hD hS hl
                          refine lv_iconst (v := 0) hx hb dX11_byChance_176 (by decide) ?_
                          exact hJ177 0 _ _ _ (⟨by decide, by decide⟩ : In 0 0 1) hP hD hS (lv_sub hl [0, 1, 2, 3, 4, 5, 6, 7, 8, 9, 10, 11] rfl)
                        refine lv_if_eq (tgt := 176) hx hb dX11_byChance_158 (by decide) (fun c101 => ?_) (fun c101 => ?_)
                        ·
                          have oc0 : (0 : Int32).toInt = 0 := by decide
                          have cc102 : r90.toInt = (0 : Int32).toInt := congrArg Int32.toInt c101
                          have hb103 : In r90 0 0 := In.eq1 eL94R (⟨by decide, by decide⟩ : In 0 0 0) cc102 (by omega) (by omega)
                          exact hJ176 _ _ _ hP hD hS (lv_sub hl [1, 2, 3, 4, 5, 6, 7, 0, 8, 9, 10, 11] rfl)
                        ·
                          have oc0 : (0 : Int32).toInt = 0 := by decide
                          have cc104 : r90.toInt ≠ (0 : Int32).toInt := i32_ne c101
                          have hb105 : In r90 1 1 := In.ne1 eL94R (⟨by decide, by decide⟩ : In 0 0 0) cc104 (by omega) (by omega)
                          refine lv_aload_n hx hb dX11_byChance_161 rfl (lv_at hl 1 rfl) ?_
                          refine pl_get (v := .ref (ad 261)) hx hb hts (fun w h => mT (inX11 w h)) hown hG.1 hP (hst.1 255 (by decide)) hf89 rfl 26 (by decide) (hts _ (mT wg_1362)) (fun _ h => h) rfl dX11_byChance_162 ?_
                          refine lv_iload hx hb dX11_byChance_165 (lv_at hl 9 rfl) ?_
                          obtain ⟨rw106, hf107⟩ := hT.2.2 6 (by decide)
                          have hin108 : vp_in y65_l11 9 := In.inb hy65_l11 (by decide) (by decide)
                          refine pl_iald hx hb hG.1 hP (hst.1 261 (by decide)) 0 hf107 rfl hin108 dX11_byChance_167 ?_
                          refine lv_topi (fun x109 ex109 => ?_)
                          refine lv_iconst (v := 1) hx hb dX11_byChance_168 (by decide) ?_
                          refine lv_icmp_ne (tgt := 176) hx hb dX11_byChance_169 (by decide) (fun c110 => ?_) (fun c110 => ?_)
                          ·
                            have oc1 : (1 : Int32).toInt = 1 := by decide
                            have cc111 : x109.toInt ≠ (1 : Int32).toInt := i32_ne c110
                            exact hJ176 _ _ _ hP hD hS (lv_sub hl [1, 2, 3, 4, 5, 6, 7, 0, 8, 9, 10, 11] rfl)
                          ·
                            have oc1 : (1 : Int32).toInt = 1 := by decide
                            have cc112 : x109.toInt = (1 : Int32).toInt := congrArg Int32.toInt c110
                            have hb113 : In x109 1 1 := In.eq1 (In.full x109) (⟨by decide, by decide⟩ : In 1 1 1) cc112 (by omega) (by omega)
                            refine lv_iconst (v := 1) hx hb dX11_byChance_172 (by decide) ?_
                            refine lv_goto (tgt := 177) hx hb dX11_byChance_173 (by decide) ?_
                            exact hJ177 1 _ _ _ (⟨by decide, by decide⟩ : In 1 0 1) hP hD hS (lv_sub hl [1, 2, 3, 4, 5, 6, 7, 0, 8, 9, 10, 11] rfl)
                      have hJ150 : ∀ (H : Heap) (locs : List Loc) (ls : Array Slot), va_P g.1 vwCl (va_pl L f84) H → va_D A (va_pl L f84) → va_S A s.heap H locs → lv_has ls 14 [(0, .ref (ad 255)), (1, .int z1), (2, .long z2), (4, .int z3), (5, .long v21_40), (7, .int x95), (8, .int x96), (9, .int y83_l9), (10, .int y83_l10), (11, .int y65_l11), (12, .int y83_l12), (13, .int r90)] → W p l e rm_X11_byChance s m [.ref (ad 255), .int z1, .long z2, .int z3].toArray below meth c H locs 0 0 (MQ below (va_Qi (po_X11_byChance g ad th L f z1 z2 z3) (PstB g A) A) [.ref (ad 255), .int z1, .long z2, .int z3].toArray s rm_X11_byChance.cells rm_X11_byChance.slots A) (F0 m 150 ls []) := by
                        intro H locs ls hP hD hS hl
                        refine lv_iload hx hb dX11_byChance_150 (lv_at hl 7 rfl) ?_
                        exact hJ152 y83_l9 _ _ _ hy83_l9 hP hD hS (lv_sub hl [0, 1, 2, 3, 4, 5, 6, 7, 8, 9, 10, 11] rfl)
                      refine lv_if_ne (tgt := 150) hx hb dX11_byChance_136 (by decide) (fun c114 => ?_) (fun c114 => ?_)
                      ·
                        have oc0 : (0 : Int32).toInt = 0 := by decide
                        have cc115 : r90.toInt ≠ (0 : Int32).toInt := i32_ne c114
                        have hb116 : In r90 1 1 := In.ne1 eL94R (⟨by decide, by decide⟩ : In 0 0 0) cc115 (by omega) (by omega)
                        exact hJ150 _ _ _ hP hD hS (lv_sub hl [2, 3, 4, 5, 6, 1, 0, 7, 8, 9, 10, 11] rfl)
                      ·
                        have oc0 : (0 : Int32).toInt = 0 := by decide
                        have cc117 : r90.toInt = (0 : Int32).toInt := congrArg Int32.toInt c114
                        have hb118 : In r90 0 0 := In.eq1 eL94R (⟨by decide, by decide⟩ : In 0 0 0) cc117 (by omega) (by omega)
                        refine lv_iload hx hb dX11_byChance_139 (lv_at hl 7 rfl) ?_
                        refine lv_iconst (v := (-1)) hx hb dX11_byChance_141 (by decide) ?_
                        refine lv_icmp_ne (tgt := 150) hx hb dX11_byChance_142 (by decide) (fun c119 => ?_) (fun c119 => ?_)
                        ·
                          have ocm1 : ((-1) : Int32).toInt = (-1) := by decide
                          have cc120 : y83_l9.toInt ≠ ((-1) : Int32).toInt := i32_ne c119
                          have hb121 : In y83_l9 0 2147483647 := In.ne1 hy83_l9 (⟨by decide, by decide⟩ : In (-1) (-1) (-1)) cc120 (by omega) (by omega)
                          exact hJ150 _ _ _ hP hD hS (lv_sub hl [2, 3, 4, 5, 6, 1, 0, 7, 8, 9, 10, 11] rfl)
                        ·
                          have ocm1 : ((-1) : Int32).toInt = (-1) := by decide
                          have cc122 : y83_l9.toInt = ((-1) : Int32).toInt := congrArg Int32.toInt c119
                          have hb123 : In y83_l9 (-1) (-1) := In.eq1 hy83_l9 (⟨by decide, by decide⟩ : In (-1) (-1) (-1)) cc122 (by omega) (by omega)
                          refine lv_iload hx hb dX11_byChance_145 (lv_at hl 10 rfl) ?_
                          refine lv_goto (tgt := 152) hx hb dX11_byChance_147 (by decide) ?_
                          exact hJ152 y83_l12 _ _ _ (In.mono hb75 (by decide) (by decide)) hP hD hS (lv_sub hl [2, 3, 4, 5, 6, 1, 0, 7, 8, 9, 10, 11] rfl)
                    refine lv_if_eq (tgt := 121) hx hb dX11_byChance_114 (by decide) (fun c124 => ?_) (fun c124 => ?_)
                    ·
                      have oc0 : (0 : Int32).toInt = 0 := by decide
                      have cc125 : r90.toInt = (0 : Int32).toInt := congrArg Int32.toInt c124
                      have hb126 : In r90 0 0 := In.eq1 eL94R (⟨by decide, by decide⟩ : In 0 0 0) cc125 (by omega) (by omega)
                      refine lv_iconst (v := 0) hx hb dX11_byChance_121 (by decide) ?_
                      exact hJ122 0 _ _ _ (⟨by decide, by decide⟩ : In 0 0 1) hP hD hS (lv_sub hl [1, 2, 3, 4, 5, 6, 7, 8, 9, 10, 11, 0] rfl)
                    ·
                      have oc0 : (0 : Int32).toInt = 0 := by decide
                      have cc127 : r90.toInt ≠ (0 : Int32).toInt := i32_ne c124
                      have hb128 : In r90 1 1 := In.ne1 eL94R (⟨by decide, by decide⟩ : In 0 0 0) cc127 (by omega) (by omega)
                      refine lv_iconst (v := 1) hx hb dX11_byChance_117 (by decide) ?_
                      refine lv_goto (tgt := 122) hx hb dX11_byChance_118 (by decide) ?_
                      exact hJ122 1 _ _ _ (⟨by decide, by decide⟩ : In 1 0 1) hP hD hS (lv_sub hl [1, 2, 3, 4, 5, 6, 7, 8, 9, 10, 11, 0] rfl)
              exact hJ83 ((2147483647 - (0 : Int32).toInt).toNat + 1) zz38 0 0 (-1) 0 0 _ _ _ _ (⟨by decide, by decide⟩ : In 0 (-2147483648) 2147483647) (⟨by decide, by decide⟩ : In 0 (-2147483648) 2147483647) (⟨by decide, by decide⟩ : In (-1) (-1) 2147483647) (⟨by decide, by decide⟩ : In 0 (-2147483648) 2147483647) (⟨by decide, by decide⟩ : In 0 0 2147483647) hP hD hS (TI.cast hT (by funext q; by_cases hq0 : q = 14; (subst hq0; rfl); by_cases hq1 : q = 18; (subst hq1; rfl); simp only [gset, if_neg hq0, if_neg hq1])) hfr (lv_sub hl [1, 2, 3, 4, 5, 6, 7, 8, 9, 10, 0] rfl) (msI _)
            ·
              have oc0 : (0 : Int32).toInt = 0 := by decide
              have cc129 : r42.toInt ≠ (0 : Int32).toInt := i32_ne c48
              have hb130 : In r42 1 1 := In.ne1 eL46R (⟨by decide, by decide⟩ : In 0 0 0) cc129 (by omega) (by omega)
              have hfs := fz_step h14.1 (hy65_l11).1 hxi65_0 (by have ob10 : (0 : Int) ≤ (th 10) ∧ (th 10) ≤ 1 := (b0_10 hT :); have ob11 : (0 : Int) ≤ (th 11) ∧ (th 11) ≤ 9 := (b0_11 hT :); have ob12 : (0 : Int) ≤ (th 12) ∧ (th 12) ≤ 6 := (b0_12 hT :); have ob14 : (0 : Int) ≤ zz39 ∧ zz39 ≤ 511 := (b0_14 hT :); have ob15 : (0 : Int) ≤ (th 15) ∧ (th 15) ≤ 1 := (b0_15 hT :); have ob16 : (0 : Int) ≤ (th 16) ∧ (th 16) ≤ 20 := (b0_16 hT :); have ob17 : (0 : Int) ≤ (th 17) ∧ (th 17) ≤ 1 := (b0_17 hT :); have ob18 : (0 : Int) ≤ zz38 ∧ zz38 ≤ 18 := (b0_18 hT :); have ob38 : (0 : Int) ≤ (th 38) ∧ (th 38) ≤ 400 := (b0_38 hT :); have ob39 : (0 : Int) ≤ (th 39) ∧ (th 39) ≤ 200 := (b0_39 hT :); have ob44 : (0 : Int) ≤ (th 44) ∧ (th 44) ≤ 30 := (b0_44 hT :); obtain ⟨o0a, o0b⟩ := (hb130 : In _ _ _); obtain ⟨o1a, o1b⟩ := (hv14_40 : In _ _ _); obtain ⟨o2a, o2b⟩ := (hv15_40 : In _ _ _); obtain ⟨o3a, o3b⟩ := (hv17_40 : In _ _ _); obtain ⟨o4a, o4b⟩ := (hv20_40 : In _ _ _); obtain ⟨o5a, o5b⟩ := (hv23_40 : In _ _ _); obtain ⟨o6a, o6b⟩ := (hv25_40 : In _ _ _); obtain ⟨o7a, o7b⟩ := (hv36_40 : In _ _ _); obtain ⟨o8a, o8b⟩ := (hv47_40 : In _ _ _); obtain ⟨o9a, o9b⟩ := (hv48_40 : In _ _ _); obtain ⟨o10a, o10b⟩ := (hv53_40 : In _ _ _); obtain ⟨o11a, o11b⟩ := (hv55_40 : In _ _ _); omega)
              obtain ⟨x131, ex131⟩ : ∃ y : Int32, y = y65_l11 + 1 := ⟨_, rfl⟩
              have hb132 : In x131 1 9 := ex131 ▸ In.add hy65_l11 (⟨by decide, by decide⟩ : In 1 1 1) (by decide) (by decide) (by decide) (by decide)
              have et133 : x131.toInt = y65_l11.toInt + 1 := In.adde ex131 hy65_l11 (k := 1) (by decide) (by decide) (by decide)
              refine lv_iinc (v := x131) (lv' := [(11, .int x131), (0, .ref (ad 255)), (1, .int z1), (2, .long z2), (4, .int z3), (5, .long v21_40), (7, .int 0), (8, .int 0), (9, .int (-1)), (10, .int 0)]) hx hb dX11_byChance_74 hl (k := 9) rfl (by rw [ex131]; rfl) (by decide) rfl (fun ls hl => ?_)
              refine lv_goto (tgt := 65) hx hb dX11_byChance_77 (by decide) ?_
              exact ih65 x131 _ _ _ (In.mk (by have ob10 : (0 : Int) ≤ (th 10) ∧ (th 10) ≤ 1 := (b0_10 hT :); have ob11 : (0 : Int) ≤ (th 11) ∧ (th 11) ≤ 9 := (b0_11 hT :); have ob12 : (0 : Int) ≤ (th 12) ∧ (th 12) ≤ 6 := (b0_12 hT :); have ob14 : (0 : Int) ≤ zz39 ∧ zz39 ≤ 511 := (b0_14 hT :); have ob15 : (0 : Int) ≤ (th 15) ∧ (th 15) ≤ 1 := (b0_15 hT :); have ob16 : (0 : Int) ≤ (th 16) ∧ (th 16) ≤ 20 := (b0_16 hT :); have ob17 : (0 : Int) ≤ (th 17) ∧ (th 17) ≤ 1 := (b0_17 hT :); have ob18 : (0 : Int) ≤ zz38 ∧ zz38 ≤ 18 := (b0_18 hT :); have ob38 : (0 : Int) ≤ (th 38) ∧ (th 38) ≤ 400 := (b0_38 hT :); have ob39 : (0 : Int) ≤ (th 39) ∧ (th 39) ≤ 200 := (b0_39 hT :); have ob44 : (0 : Int) ≤ (th 44) ∧ (th 44) ≤ 30 := (b0_44 hT :); obtain ⟨o0a, o0b⟩ := (hb132 : In _ _ _); obtain ⟨o1a, o1b⟩ := (hv14_40 : In _ _ _); obtain ⟨o2a, o2b⟩ := (hv15_40 : In _ _ _); obtain ⟨o3a, o3b⟩ := (hv17_40 : In _ _ _); obtain ⟨o4a, o4b⟩ := (hv20_40 : In _ _ _); obtain ⟨o5a, o5b⟩ := (hv23_40 : In _ _ _); obtain ⟨o6a, o6b⟩ := (hv25_40 : In _ _ _); obtain ⟨o7a, o7b⟩ := (hv36_40 : In _ _ _); obtain ⟨o8a, o8b⟩ := (hv47_40 : In _ _ _); obtain ⟨o9a, o9b⟩ := (hv48_40 : In _ _ _); obtain ⟨o10a, o10b⟩ := (hv53_40 : In _ _ _); obtain ⟨o11a, o11b⟩ := (hv55_40 : In _ _ _); obtain ⟨o12a, o12b⟩ := (hy65_l11 : In _ _ _); omega) (by have ob10 : (0 : Int) ≤ (th 10) ∧ (th 10) ≤ 1 := (b0_10 hT :); have ob11 : (0 : Int) ≤ (th 11) ∧ (th 11) ≤ 9 := (b0_11 hT :); have ob12 : (0 : Int) ≤ (th 12) ∧ (th 12) ≤ 6 := (b0_12 hT :); have ob14 : (0 : Int) ≤ zz39 ∧ zz39 ≤ 511 := (b0_14 hT :); have ob15 : (0 : Int) ≤ (th 15) ∧ (th 15) ≤ 1 := (b0_15 hT :); have ob16 : (0 : Int) ≤ (th 16) ∧ (th 16) ≤ 20 := (b0_16 hT :); have ob17 : (0 : Int) ≤ (th 17) ∧ (th 17) ≤ 1 := (b0_17 hT :); have ob18 : (0 : Int) ≤ zz38 ∧ zz38 ≤ 18 := (b0_18 hT :); have ob38 : (0 : Int) ≤ (th 38) ∧ (th 38) ≤ 400 := (b0_38 hT :); have ob39 : (0 : Int) ≤ (th 39) ∧ (th 39) ≤ 200 := (b0_39 hT :); have ob44 : (0 : Int) ≤ (th 44) ∧ (th 44) ≤ 30 := (b0_44 hT :); obtain ⟨o0a, o0b⟩ := (hb132 : In _ _ _); obtain ⟨o1a, o1b⟩ := (hv14_40 : In _ _ _); obtain ⟨o2a, o2b⟩ := (hv15_40 : In _ _ _); obtain ⟨o3a, o3b⟩ := (hv17_40 : In _ _ _); obtain ⟨o4a, o4b⟩ := (hv20_40 : In _ _ _); obtain ⟨o5a, o5b⟩ := (hv23_40 : In _ _ _); obtain ⟨o6a, o6b⟩ := (hv25_40 : In _ _ _); obtain ⟨o7a, o7b⟩ := (hv36_40 : In _ _ _); obtain ⟨o8a, o8b⟩ := (hv47_40 : In _ _ _); obtain ⟨o9a, o9b⟩ := (hv48_40 : In _ _ _); obtain ⟨o10a, o10b⟩ := (hv53_40 : In _ _ _); obtain ⟨o11a, o11b⟩ := (hv55_40 : In _ _ _); obtain ⟨o12a, o12b⟩ := (hy65_l11 : In _ _ _); omega)) hP hD hS (by omega) (lv_sub hl [1, 2, 3, 4, 5, 6, 7, 8, 9, 0] rfl) (msu et133 (by decide) hmz65)
        exact hJ65 ((8 - (0 : Int32).toInt).toNat + 1) 0 _ _ _ (⟨by decide, by decide⟩ : In 0 0 8) hP hD hS hfz.1 (lv_sub hl [6, 7, 8, 9, 5, 4, 3, 2, 1, 0] rfl) (msI _)
      ·
        have oc0 : (0 : Int32).toInt = 0 := by decide
        have cc134 : r23.toInt = (0 : Int32).toInt := congrArg Int32.toInt c29
        have hb135 : In r23 0 0 := In.eq1 eL27R (⟨by decide, by decide⟩ : In 0 0 0) cc134 (by omega) (by omega)
        exact hJ37 _ _ _ hP hD hS (lv_sub hl [0, 1, 2, 3] rfl)

abbrev rm_X11_greatest : Room := { frames := 1, cells := 0, slots := 0, locals := 25 }
abbrev po_X11_greatest (g : GG) (ad : Nat → Nat) (th : Nat → Int) (L : List Nat) (f : HP) (z1 : Int32) (z2 : Int32) : Int32 → (List Nat × HP) → Prop := fun r u => u.1 = L ∧ TI g ad th u.2 ∧ (∀ b, b ≠ (ad 255) → u.2 b = f b) ∧ r = GB z1 z2
set_option maxHeartbeats 4000000 in
set_option maxRecDepth 100000 in
theorem s_X11_greatest (l : Launch) (g : GG) (ad : Nat → Nat) (th : Nat → Int) (L : List Nat) (f : HP) (sz : Nat) (z1 : Int32) (z2 : Int32) (hst : ST ad L) (hT : TI g ad th f)  : MtI l g yX11_greatest cX11_greatest 3 (some .int) rm_X11_greatest [.ref (ad 255), .int z1, .int z2] L f sz (po_X11_greatest g ad th L f z1 z2) := by
  refine MtI.of (by decide +kernel) (Nat.le_of_ble_eq_true rfl) ?_
  intro p e s m below meth c A hEn hP hD hS ls hl
  obtain ⟨hx, hb, hr, hml, hown, hlocks, hts, hG, hA, hE, hnm⟩ := hEn
  have hown : s.vm.findClass "RulerWordModel" = some m.cls := hown
  have hl : lv_has ls 3 [(0, .ref (ad 255)), (1, .int z1), (2, .int z2)] := hl
  have hfr : (∀ b, b ≠ (ad 255) → f b = f b) := fun b z0_ => rfl
  refine lv_aload_n hx hb dX11_greatest_0 rfl (lv_at hl 0 rfl) ?_
  refine lv_iconst (v := 0) hx hb dX11_greatest_1 (by decide) ?_
  refine M0e hT (fun v0_1 v2_1 v3_1 v4_1 v5_1 v6_1 v8_1 v9_1 v12_1 v13_1 v14_1 v15_1 v16_1 v17_1 v18_1 v19_1 v20_1 v21_1 v22_1 v23_1 v25_1 v36_1 v37_1 v38_1 v39_1 v40_1 v45_1 v46_1 v47_1 v48_1 v50_1 v51_1 v53_1 v55_1 hf2 hv0_1 hv2_1 hg2_1 hv3_1 hg3_1 hv4_1 hg4_1 hv5_1 hg5_1 hv6_1 hg6_1 hv8_1 hg8_1 hv9_1 hg9_1 hv12_1 hv13_1 hg13_1 hv14_1 hg14_1 hv15_1 hg15_1 hv17_1 hg17_1 hv20_1 hg20_1 hv23_1 hg23_1 hv25_1 hg25_1 hv36_1 hg36_1 hv47_1 hg47_1 hv48_1 hg48_1 hv53_1 hg53_1 hv55_1 hg55_1 hrel0_1 => ?_)
  refine pl_put (ty := .int) (v := .int 0) (fs' := [.int 0, .ref (ad 256), .int v2_1, .int v3_1, .int v4_1, .int v5_1, .int v6_1, .ref (ad 257), .int v8_1, .int v9_1, .ref (ad 258), .ref (ad 259), .int v12_1, .int v13_1, .int v14_1, .int v15_1, .int v16_1, .int v17_1, .int v18_1, .int v19_1, .int v20_1, .long v21_1, .long v22_1, .int v23_1, .ref (ad 260), .int v25_1, .ref (ad 261), .ref (ad 262), .ref (ad 263), .ref (ad 264), .ref (ad 265), .ref (ad 266), .ref (ad 267), .ref (ad 268), .ref (ad 269), .ref (ad 270), .int v36_1, .int v37_1, .int v38_1, .int v39_1, .int v40_1, .ref (ad 271), .ref (ad 272), .ref (ad 273), .ref (ad 274), .long v45_1, .long v46_1, .int v47_1, .int v48_1, .ref (ad 275), .int v50_1, .int v51_1, .ref (ad 276), .int v53_1, .ref (ad 277), .int v55_1]) hx hb hts (fun w h => mT (inX11 w h)) tyX11 tyX11_ok nmX11 hown hG.1 hP hD hS (hst.1 255 (by decide)) hf2 rfl 0 (by decide) (hts _ (mT wg_1336)) (fun _ h => h) rfl (by decide +kernel) (rfl) (rfl) (Nat.le_of_ble_eq_true rfl) rfl dX11_greatest_2 (fun H locs f3 hf4 ho5 hP hD hS => ?_)
  have hfr : (∀ b, b ≠ (ad 255) → f3 b = f b) := fun b z0_ => (ho5 b z0_).trans (hfr b z0_)
  refine lv_iload_n hx hb dX11_greatest_5 rfl (lv_at hl 1 rfl) ?_
  refine lv_i2l hx hb dX11_greatest_6 rfl ?_
  refine lv_lconst (v := 0) hx hb dX11_greatest_7 (by decide) ?_
  refine lv_lconst (v := 1) hx hb dX11_greatest_8 (by decide) ?_
  have hT := TI.updM hT hst (k := 0) (by decide) hf4 ho5 ⟨0, v2_1, v3_1, v4_1, v5_1, v6_1, v8_1, v9_1, v12_1, v13_1, v14_1, v15_1, v16_1, v17_1, v18_1, v19_1, v20_1, v21_1, v22_1, v23_1, v25_1, v36_1, v37_1, v38_1, v39_1, v40_1, v45_1, v46_1, v47_1, v48_1, v50_1, v51_1, v53_1, v55_1, rfl, (⟨by decide, by decide⟩ : In 0 0 1), hv2_1, hg2_1, hv3_1, hg3_1, hv4_1, hg4_1, hv5_1, hg5_1, hv6_1, hg6_1, hv8_1, hg8_1, hv9_1, hg9_1, hv12_1, hv13_1, hg13_1, hv14_1, hg14_1, hv15_1, hg15_1, hv17_1, hg17_1, hv20_1, hg20_1, hv23_1, hg23_1, hv25_1, hg25_1, hv36_1, hg36_1, hv47_1, hg47_1, hv48_1, hg48_1, hv53_1, hg53_1, hv55_1, hg55_1, hrel0_1⟩
  refine call_i (run_S (rm := rm_X11_isIn) hx hb hml hown hts (s_X11_isIn l g ad th _ _ _ (z1.toInt64) 0 1 hst hT ) cS_X11_isIn wg_1581 ⟨Nat.le_of_ble_eq_true rfl, Nat.le_of_ble_eq_true rfl⟩ hG hE hA hP hD hS rfl hl.1 (As := [.long (z1.toInt64), .long 0, .long 1]) (rest := []) rfl (Nat.le_of_ble_eq_true rfl) dX11_greatest_9 ⟨Nat.le_of_ble_eq_true rfl, Nat.le_of_ble_eq_true rfl⟩) hA hD hS (fun r6 L7 f8 H locs hp9 hP hD hS => ?_)
  obtain ⟨eL10L, eL10T, eL10R, eL10X0, eL10X1⟩ := hp9
  have eL10L : L7 = L := eL10L
  have eL10T : f8 = f3 := eL10T
  rw [eL10L, eL10T] at hP hD
  have eL10R : In r6 0 1 := eL10R
  have hii11 : r6.toInt = 0 ∨ (0 ≤ z1.toInt ∧ z1.toInt ≤ 1) := by have z := eL10X0; rw [i2l_t z1, (by decide : (0 : Int64).toInt = 0), (by decide : (1 : Int64).toInt = 1)] at z; exact z
  have hii11w : ¬ r6 = 0 → In z1 0 1 := fun c => by have c2 := i32_ne c; have e0 : (0 : Int32).toInt = 0 := (by decide); exact ⟨by omega, by omega⟩
  have hi012 : r6.toInt = 0 → ¬ (0 ≤ z1.toInt ∧ z1.toInt ≤ 1) := by have z := eL10X1; rw [i2l_t z1, (by decide : (0 : Int64).toInt = 0), (by decide : (1 : Int64).toInt = 1)] at z; exact z
  refine lv_if_eq (tgt := 43) hx hb dX11_greatest_12 (by decide) (fun c13 => ?_) (fun c13 => ?_)
  ·
    have oc0 : (0 : Int32).toInt = 0 := by decide
    have cc14 : r6.toInt = (0 : Int32).toInt := congrArg Int32.toInt c13
    have hb15 : In r6 0 0 := In.eq1 eL10R (⟨by decide, by decide⟩ : In 0 0 0) cc14 (by omega) (by omega)
    refine lv_iconst (v := (-1)) hx hb dX11_greatest_43 (by decide) ?_
    exact ret_i (ty := .int) hx hb hr hlocks (rfl) hP hD hS (Nat.le_of_ble_eq_true rfl) (Nat.le_of_ble_eq_true rfl) (⟨rfl, hT, hfr, (by unfold GB; rw [if_neg (by have ob10 : (0 : Int) ≤ (th 10) ∧ (th 10) ≤ 1 := (b0_10 hT :); have ob11 : (0 : Int) ≤ (th 11) ∧ (th 11) ≤ 9 := (b0_11 hT :); have ob12 : (0 : Int) ≤ (th 12) ∧ (th 12) ≤ 6 := (b0_12 hT :); have ob14 : (0 : Int) ≤ (th 14) ∧ (th 14) ≤ 511 := (b0_14 hT :); have ob15 : (0 : Int) ≤ (th 15) ∧ (th 15) ≤ 1 := (b0_15 hT :); have ob16 : (0 : Int) ≤ (th 16) ∧ (th 16) ≤ 20 := (b0_16 hT :); have ob17 : (0 : Int) ≤ (th 17) ∧ (th 17) ≤ 1 := (b0_17 hT :); have ob18 : (0 : Int) ≤ (th 18) ∧ (th 18) ≤ 18 := (b0_18 hT :); have ob38 : (0 : Int) ≤ (th 38) ∧ (th 38) ≤ 400 := (b0_38 hT :); have ob39 : (0 : Int) ≤ (th 39) ∧ (th 39) ≤ 200 := (b0_39 hT :); have ob44 : (0 : Int) ≤ (th 44) ∧ (th 44) ≤ 30 := (b0_44 hT :); obtain ⟨o2a, o2b⟩ := (hv14_1 : In _ _ _); obtain ⟨o3a, o3b⟩ := (hv15_1 : In _ _ _); obtain ⟨o4a, o4b⟩ := (hv17_1 : In _ _ _); obtain ⟨o5a, o5b⟩ := (hv20_1 : In _ _ _); obtain ⟨o6a, o6b⟩ := (hv23_1 : In _ _ _); obtain ⟨o7a, o7b⟩ := (hv25_1 : In _ _ _); obtain ⟨o8a, o8b⟩ := (hv36_1 : In _ _ _); obtain ⟨o9a, o9b⟩ := (hv47_1 : In _ _ _); obtain ⟨o10a, o10b⟩ := (hv48_1 : In _ _ _); obtain ⟨o11a, o11b⟩ := (hv53_1 : In _ _ _); obtain ⟨o12a, o12b⟩ := (hv55_1 : In _ _ _); omega)])⟩) dX11_greatest_44
  ·
    have oc0 : (0 : Int32).toInt = 0 := by decide
    have cc16 : r6.toInt ≠ (0 : Int32).toInt := i32_ne c13
    have hb17 : In r6 1 1 := In.ne1 eL10R (⟨by decide, by decide⟩ : In 0 0 0) cc16 (by omega) (by omega)
    have hb18 : In z1 0 1 := In.both (hii11w c13) (In.full z1) (by decide) (by decide)
    refine lv_iload_n hx hb dX11_greatest_15 rfl (lv_at hl 2 rfl) ?_
    refine lv_i2l hx hb dX11_greatest_16 rfl ?_
    refine lv_lconst (v := 1) hx hb dX11_greatest_17 (by decide) ?_
    refine lv_ldc2 hx hb hown (hts _ (mT wg_1818)) dX11_greatest_18 ?_
    refine call_i (run_S (rm := rm_X11_isIn) hx hb hml hown hts (s_X11_isIn l g ad th _ _ _ (z2.toInt64) 1 100 hst hT ) cS_X11_isIn wg_1581 ⟨Nat.le_of_ble_eq_true rfl, Nat.le_of_ble_eq_true rfl⟩ hG hE hA hP hD hS rfl hl.1 (As := [.long (z2.toInt64), .long 1, .long 100]) (rest := []) rfl (Nat.le_of_ble_eq_true rfl) dX11_greatest_21 ⟨Nat.le_of_ble_eq_true rfl, Nat.le_of_ble_eq_true rfl⟩) hA hD hS (fun r19 L20 f21 H locs hp22 hP hD hS => ?_)
    obtain ⟨eL23L, eL23T, eL23R, eL23X0, eL23X1⟩ := hp22
    have eL23L : L20 = L := eL23L
    have eL23T : f21 = f3 := eL23T
    rw [eL23L, eL23T] at hP hD
    have eL23R : In r19 0 1 := eL23R
    have hii24 : r19.toInt = 0 ∨ (1 ≤ z2.toInt ∧ z2.toInt ≤ 100) := by have z := eL23X0; rw [i2l_t z2, (by decide : (1 : Int64).toInt = 1), (by decide : (100 : Int64).toInt = 100)] at z; exact z
    have hii24w : ¬ r19 = 0 → In z2 1 100 := fun c => by have c2 := i32_ne c; have e0 : (0 : Int32).toInt = 0 := (by decide); exact ⟨by omega, by omega⟩
    have hi025 : r19.toInt = 0 → ¬ (1 ≤ z2.toInt ∧ z2.toInt ≤ 100) := by have z := eL23X1; rw [i2l_t z2, (by decide : (1 : Int64).toInt = 1), (by decide : (100 : Int64).toInt = 100)] at z; exact z
    refine lv_if_eq (tgt := 43) hx hb dX11_greatest_24 (by decide) (fun c26 => ?_) (fun c26 => ?_)
    ·
      have oc0 : (0 : Int32).toInt = 0 := by decide
      have cc27 : r19.toInt = (0 : Int32).toInt := congrArg Int32.toInt c26
      have hb28 : In r19 0 0 := In.eq1 eL23R (⟨by decide, by decide⟩ : In 0 0 0) cc27 (by omega) (by omega)
      refine lv_iconst (v := (-1)) hx hb dX11_greatest_43 (by decide) ?_
      exact ret_i (ty := .int) hx hb hr hlocks (rfl) hP hD hS (Nat.le_of_ble_eq_true rfl) (Nat.le_of_ble_eq_true rfl) (⟨rfl, hT, hfr, (by unfold GB; rw [if_neg (by have ob10 : (0 : Int) ≤ (th 10) ∧ (th 10) ≤ 1 := (b0_10 hT :); have ob11 : (0 : Int) ≤ (th 11) ∧ (th 11) ≤ 9 := (b0_11 hT :); have ob12 : (0 : Int) ≤ (th 12) ∧ (th 12) ≤ 6 := (b0_12 hT :); have ob14 : (0 : Int) ≤ (th 14) ∧ (th 14) ≤ 511 := (b0_14 hT :); have ob15 : (0 : Int) ≤ (th 15) ∧ (th 15) ≤ 1 := (b0_15 hT :); have ob16 : (0 : Int) ≤ (th 16) ∧ (th 16) ≤ 20 := (b0_16 hT :); have ob17 : (0 : Int) ≤ (th 17) ∧ (th 17) ≤ 1 := (b0_17 hT :); have ob18 : (0 : Int) ≤ (th 18) ∧ (th 18) ≤ 18 := (b0_18 hT :); have ob38 : (0 : Int) ≤ (th 38) ∧ (th 38) ≤ 400 := (b0_38 hT :); have ob39 : (0 : Int) ≤ (th 39) ∧ (th 39) ≤ 200 := (b0_39 hT :); have ob44 : (0 : Int) ≤ (th 44) ∧ (th 44) ≤ 30 := (b0_44 hT :); obtain ⟨o0a, o0b⟩ := (hb18 : In _ _ _); obtain ⟨o2a, o2b⟩ := (hv14_1 : In _ _ _); obtain ⟨o3a, o3b⟩ := (hv15_1 : In _ _ _); obtain ⟨o4a, o4b⟩ := (hv17_1 : In _ _ _); obtain ⟨o5a, o5b⟩ := (hv20_1 : In _ _ _); obtain ⟨o6a, o6b⟩ := (hv23_1 : In _ _ _); obtain ⟨o7a, o7b⟩ := (hv25_1 : In _ _ _); obtain ⟨o8a, o8b⟩ := (hv36_1 : In _ _ _); obtain ⟨o9a, o9b⟩ := (hv47_1 : In _ _ _); obtain ⟨o10a, o10b⟩ := (hv48_1 : In _ _ _); obtain ⟨o11a, o11b⟩ := (hv53_1 : In _ _ _); obtain ⟨o12a, o12b⟩ := (hv55_1 : In _ _ _); omega)])⟩) dX11_greatest_44
    ·
      have oc0 : (0 : Int32).toInt = 0 := by decide
      have cc29 : r19.toInt ≠ (0 : Int32).toInt := i32_ne c26
      have hb30 : In r19 1 1 := In.ne1 eL23R (⟨by decide, by decide⟩ : In 0 0 0) cc29 (by omega) (by omega)
      have hb31 : In z2 1 100 := In.both (hii24w c26) (In.full z2) (by decide) (by decide)
      refine lv_iload_n hx hb dX11_greatest_27 rfl (lv_at hl 2 rfl) ?_
      refine lv_iconst (v := 1) hx hb dX11_greatest_28 (by decide) ?_
      refine lv_isub hx hb dX11_greatest_29 ?_
      refine lv_topi (fun x32 ex32 => ?_)
      have hb33 : In x32 0 99 := ex32 ▸ In.sub hb31 (⟨by decide, by decide⟩ : In 1 1 1) (by decide) (by decide) (by decide) (by decide)
      have et34 : x32.toInt = z2.toInt + (-1) := In.sube ex32 hb31 (k := 1) (by decide) (by decide) (by decide)
      refine lv_iload_n hx hb dX11_greatest_30 rfl (lv_at hl 1 rfl) ?_
      refine lv_if_ne (tgt := 38) hx hb dX11_greatest_31 (by decide) (fun c35 => ?_) (fun c35 => ?_)
      ·
        have oc0 : (0 : Int32).toInt = 0 := by decide
        have cc36 : z1.toInt ≠ (0 : Int32).toInt := i32_ne c35
        have hb37 : In z1 1 1 := In.ne1 hb18 (⟨by decide, by decide⟩ : In 0 0 0) cc36 (by omega) (by omega)
        refine lv_iconst (v := 4) hx hb dX11_greatest_38 (by decide) ?_
        refine lv_idiv hx hb dX11_greatest_39 (In.ne0 (⟨by decide, by decide⟩ : In 4 4 4) (by decide)) ?_
        refine lv_topi (fun x38 ex38 => ?_)
        have hb39 : In x38 0 24 := ex38 ▸ In.div hb33 (⟨by decide, by decide⟩ : In 4 4 4) (by decide) (by decide) (by decide) (by decide)
        refine lv_goto (tgt := 44) hx hb dX11_greatest_40 (by decide) ?_
        exact ret_i (ty := .int) hx hb hr hlocks (rfl) hP hD hS (Nat.le_of_ble_eq_true rfl) (Nat.le_of_ble_eq_true rfl) (⟨rfl, hT, hfr, (by unfold GB; rw [if_pos (by have ob10 : (0 : Int) ≤ (th 10) ∧ (th 10) ≤ 1 := (b0_10 hT :); have ob11 : (0 : Int) ≤ (th 11) ∧ (th 11) ≤ 9 := (b0_11 hT :); have ob12 : (0 : Int) ≤ (th 12) ∧ (th 12) ≤ 6 := (b0_12 hT :); have ob14 : (0 : Int) ≤ (th 14) ∧ (th 14) ≤ 511 := (b0_14 hT :); have ob15 : (0 : Int) ≤ (th 15) ∧ (th 15) ≤ 1 := (b0_15 hT :); have ob16 : (0 : Int) ≤ (th 16) ∧ (th 16) ≤ 20 := (b0_16 hT :); have ob17 : (0 : Int) ≤ (th 17) ∧ (th 17) ≤ 1 := (b0_17 hT :); have ob18 : (0 : Int) ≤ (th 18) ∧ (th 18) ≤ 18 := (b0_18 hT :); have ob38 : (0 : Int) ≤ (th 38) ∧ (th 38) ≤ 400 := (b0_38 hT :); have ob39 : (0 : Int) ≤ (th 39) ∧ (th 39) ≤ 200 := (b0_39 hT :); have ob44 : (0 : Int) ≤ (th 44) ∧ (th 44) ≤ 30 := (b0_44 hT :); obtain ⟨o0a, o0b⟩ := (hb37 : In _ _ _); obtain ⟨o1a, o1b⟩ := (hb31 : In _ _ _); obtain ⟨o2a, o2b⟩ := (hv14_1 : In _ _ _); obtain ⟨o3a, o3b⟩ := (hv15_1 : In _ _ _); obtain ⟨o4a, o4b⟩ := (hv17_1 : In _ _ _); obtain ⟨o5a, o5b⟩ := (hv20_1 : In _ _ _); obtain ⟨o6a, o6b⟩ := (hv23_1 : In _ _ _); obtain ⟨o7a, o7b⟩ := (hv25_1 : In _ _ _); obtain ⟨o8a, o8b⟩ := (hv36_1 : In _ _ _); obtain ⟨o9a, o9b⟩ := (hv47_1 : In _ _ _); obtain ⟨o10a, o10b⟩ := (hv48_1 : In _ _ _); obtain ⟨o11a, o11b⟩ := (hv53_1 : In _ _ _); obtain ⟨o12a, o12b⟩ := (hv55_1 : In _ _ _); omega), if_neg c35, ex38, ex32])⟩) dX11_greatest_44
      ·
        have oc0 : (0 : Int32).toInt = 0 := by decide
        have cc40 : z1.toInt = (0 : Int32).toInt := congrArg Int32.toInt c35
        have hb41 : In z1 0 0 := In.eq1 hb18 (⟨by decide, by decide⟩ : In 0 0 0) cc40 (by omega) (by omega)
        refine lv_iconst (v := 3) hx hb dX11_greatest_34 (by decide) ?_
        refine lv_goto (tgt := 39) hx hb dX11_greatest_35 (by decide) ?_
        refine lv_idiv hx hb dX11_greatest_39 (In.ne0 (⟨by decide, by decide⟩ : In 3 3 3) (by decide)) ?_
        refine lv_topi (fun x42 ex42 => ?_)
        have hb43 : In x42 0 33 := ex42 ▸ In.div hb33 (⟨by decide, by decide⟩ : In 3 3 3) (by decide) (by decide) (by decide) (by decide)
        refine lv_goto (tgt := 44) hx hb dX11_greatest_40 (by decide) ?_
        exact ret_i (ty := .int) hx hb hr hlocks (rfl) hP hD hS (Nat.le_of_ble_eq_true rfl) (Nat.le_of_ble_eq_true rfl) (⟨rfl, hT, hfr, (by unfold GB; rw [if_pos (by have ob10 : (0 : Int) ≤ (th 10) ∧ (th 10) ≤ 1 := (b0_10 hT :); have ob11 : (0 : Int) ≤ (th 11) ∧ (th 11) ≤ 9 := (b0_11 hT :); have ob12 : (0 : Int) ≤ (th 12) ∧ (th 12) ≤ 6 := (b0_12 hT :); have ob14 : (0 : Int) ≤ (th 14) ∧ (th 14) ≤ 511 := (b0_14 hT :); have ob15 : (0 : Int) ≤ (th 15) ∧ (th 15) ≤ 1 := (b0_15 hT :); have ob16 : (0 : Int) ≤ (th 16) ∧ (th 16) ≤ 20 := (b0_16 hT :); have ob17 : (0 : Int) ≤ (th 17) ∧ (th 17) ≤ 1 := (b0_17 hT :); have ob18 : (0 : Int) ≤ (th 18) ∧ (th 18) ≤ 18 := (b0_18 hT :); have ob38 : (0 : Int) ≤ (th 38) ∧ (th 38) ≤ 400 := (b0_38 hT :); have ob39 : (0 : Int) ≤ (th 39) ∧ (th 39) ≤ 200 := (b0_39 hT :); have ob44 : (0 : Int) ≤ (th 44) ∧ (th 44) ≤ 30 := (b0_44 hT :); obtain ⟨o0a, o0b⟩ := (hb41 : In _ _ _); obtain ⟨o1a, o1b⟩ := (hb31 : In _ _ _); obtain ⟨o2a, o2b⟩ := (hv14_1 : In _ _ _); obtain ⟨o3a, o3b⟩ := (hv15_1 : In _ _ _); obtain ⟨o4a, o4b⟩ := (hv17_1 : In _ _ _); obtain ⟨o5a, o5b⟩ := (hv20_1 : In _ _ _); obtain ⟨o6a, o6b⟩ := (hv23_1 : In _ _ _); obtain ⟨o7a, o7b⟩ := (hv25_1 : In _ _ _); obtain ⟨o8a, o8b⟩ := (hv36_1 : In _ _ _); obtain ⟨o9a, o9b⟩ := (hv47_1 : In _ _ _); obtain ⟨o10a, o10b⟩ := (hv48_1 : In _ _ _); obtain ⟨o11a, o11b⟩ := (hv53_1 : In _ _ _); obtain ⟨o12a, o12b⟩ := (hv55_1 : In _ _ _); omega), if_pos c35, ex42, ex32])⟩) dX11_greatest_44
