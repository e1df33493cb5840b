abbrev rm_X11_writesPlan : Room := { frames := 5, cells := 0, slots := 0, locals := 107 }
abbrev po_X11_writesPlan (g : GG) (ad : Nat → Nat) (th : Nat → Int) (L : List Nat) (f : HP) (z1 : Int32) : (List Nat × HP) → Prop := fun u => u.1 = L ∧ (∃ z38 : Int, (True) ∧ TI g ad (gset th 38 z38) u.2) ∧ (∀ b, b ≠ (ad 255) → b ≠ (ad 276) → u.2 b = f b)
set_option maxHeartbeats 4000000 in
set_option maxRecDepth 100000 in
theorem s_X11_writesPlan (l : Launch) (g : GG) (ad : Nat → Nat) (th : Nat → Int) (L : List Nat) (f : HP) (sz : Nat) (z1 : Int32) (hst : ST ad L) (hT : TI g ad th f) (hn3 : 3 ≤ th 11) (hfr12 : frI (rnd (th 10)) (th 11) (th 14) (th 12) ≤ 12) : MtV l g yX11_writesPlan cX11_writesPlan 9 rm_X11_writesPlan [.ref (ad 255), .int z1] L f sz (po_X11_writesPlan g ad th L f z1) := by
  refine MtV.of (by decide +kernel) (Nat.le_of_ble_eq_true rfl) ?_
  intro p e s m below meth c A hEn hP hD hS ls hl
  obtain ⟨hx, hb, hr, hml, hown, hlocks, hts, hG, hA, hE, hnm⟩ := hEn
  have hown : s.vm.findClass "RulerWordModel" = some m.cls := hown
  have hl : lv_has ls 9 [(0, .ref (ad 255)), (1, .int z1)] := hl
  have hfr : (∀ b, b ≠ (ad 255) → b ≠ (ad 276) → f b = f b) := fun b z0_ z1_ => rfl
  have ql30 : ((lenS.getD 30 0 : Nat) : Int) = 1 := by decide
  have ql16 : ((lenS.getD 16 0 : Nat) : Int) = 6 := by decide
  have ql18 : ((lenS.getD 18 0 : Nat) : Int) = 7 := by decide
  have ql19 : ((lenS.getD 19 0 : Nat) : Int) = 6 := by decide
  have ql20 : ((lenS.getD 20 0 : Nat) : Int) = 4 := by decide
  have ql21 : ((lenS.getD 21 0 : Nat) : Int) = 1 := by decide
  refine M0e hT (fun v0_1 v2_1 v3_1 v4_1 v5_1 v6_1 v8_1 v9_1 v12_1 v13_1 v14_1 v15_1 v16_1 v17_1 v18_1 v19_1 v20_1 v21_1 v22_1 v23_1 v25_1 v36_1 v37_1 v38_1 v39_1 v40_1 v45_1 v46_1 v47_1 v48_1 v50_1 v51_1 v53_1 v55_1 hf2 hv0_1 hv2_1 hg2_1 hv3_1 hg3_1 hv4_1 hg4_1 hv5_1 hg5_1 hv6_1 hg6_1 hv8_1 hg8_1 hv9_1 hg9_1 hv12_1 hv13_1 hg13_1 hv14_1 hg14_1 hv15_1 hg15_1 hv17_1 hg17_1 hv20_1 hg20_1 hv23_1 hg23_1 hv25_1 hg25_1 hv36_1 hg36_1 hv47_1 hg47_1 hv48_1 hg48_1 hv53_1 hg53_1 hv55_1 hg55_1 hrel0_1 => ?_)
  have hg15_1 : v15_1.toInt = th 11 := hg15_1
  have hg17_1 : v17_1.toInt = th 12 := hg17_1
  have hg20_1 : v20_1.toInt = th 14 := hg20_1
  have hb3 : In v15_1 3 9 := ⟨by rw [hg15_1]; exact hn3, hv15_1.2⟩
  have hcap : capI (th 14) (th 11) := by rw [← hg20_1, ← hg15_1]; exact hrel0_1
  have h14 : (0 ≤ th 14 ∧ th 14 ≤ 511) ∧ th 11 ≤ 9 ∧ (0 ≤ th 12 ∧ th 12 ≤ 6) := by obtain ⟨q1, q2⟩ := (hv20_1 : In _ _ _); obtain ⟨q3, q4⟩ := (hb3 : In _ _ _); obtain ⟨q5, q6⟩ := (hv17_1 : In _ _ _); exact ⟨⟨by omega, by omega⟩, by omega, by omega, by omega⟩
  refine lv_aload_n hx hb dX11_writesPlan_0 rfl (lv_at hl 0 rfl) ?_
  refine lv_iconst (v := 0) hx hb dX11_writesPlan_1 (by decide) ?_
  refine pl_put (ty := .int) (v := .int 0) (fs' := [.int v0_1, .ref (ad 256), .int v2_1, .int v3_1, .int v4_1, .int v5_1, .int v6_1, .ref (ad 257), .int v8_1, .int v9_1, .ref (ad 258), .ref (ad 259), .int v12_1, .int v13_1, .int v14_1, .int v15_1, .int v16_1, .int v17_1, .int v18_1, .int v19_1, .int v20_1, .long v21_1, .long v22_1, .int v23_1, .ref (ad 260), .int v25_1, .ref (ad 261), .ref (ad 262), .ref (ad 263), .ref (ad 264), .ref (ad 265), .ref (ad 266), .ref (ad 267), .ref (ad 268), .ref (ad 269), .ref (ad 270), .int v36_1, .int v37_1, .int v38_1, .int v39_1, .int v40_1, .ref (ad 271), .ref (ad 272), .ref (ad 273), .ref (ad 274), .long v45_1, .long v46_1, .int v47_1, .int v48_1, .ref (ad 275), .int v50_1, .int v51_1, .ref (ad 276), .int 0, .ref (ad 277), .int v55_1]) hx hb hts (fun w h => mT (inX11 w h)) tyX11 tyX11_ok nmX11 hown hG.1 hP hD hS (hst.1 255 (by decide)) hf2 rfl 53 (by decide) (hts _ (mT wg_1389)) (fun _ h => h) rfl (by decide +kernel) (rfl) (rfl) (Nat.le_of_ble_eq_true rfl) rfl dX11_writesPlan_2 (fun H locs f4 hf5 ho6 hP hD hS => ?_)
  have hfr : (∀ b, b ≠ (ad 255) → b ≠ (ad 276) → f4 b = f b) := fun b z0_ z1_ => (ho6 b z0_).trans (hfr b z0_ z1_)
  refine lv_iload_n hx hb dX11_writesPlan_5 rfl (lv_at hl 1 rfl) ?_
  refine lv_istore_n (lv' := [(2, .int z1), (0, .ref (ad 255)), (1, .int z1)]) hx hb dX11_writesPlan_6 rfl hl (by decide) rfl (fun ls hl => ?_)
  refine lv_iconst (v := 0) hx hb dX11_writesPlan_7 (by decide) ?_
  refine lv_istore_n (lv' := [(3, .int 0), (2, .int z1), (0, .ref (ad 255)), (1, .int z1)]) hx hb dX11_writesPlan_8 rfl hl (by decide) rfl (fun ls hl => ?_)
  have hT := TI.updMG (th' := (gset th 38 (0))) hT hst (k := 0) (by decide) hf5 ho6 ⟨v0_1, v2_1, v3_1, v4_1, v5_1, v6_1, v8_1, v9_1, v12_1, v13_1, v14_1, v15_1, v16_1, v17_1, v18_1, v19_1, v20_1, v21_1, v22_1, v23_1, v25_1, v36_1, v37_1, v38_1, v39_1, v40_1, v45_1, v46_1, v47_1, v48_1, v50_1, v51_1, 0, v55_1, rfl, hv0_1, hv2_1, hg2_1, hv3_1, hg3_1, hv4_1, hg4_1, hv5_1, hg5_1, hv6_1, hg6_1, hv8_1, hg8_1, hv9_1, hg9_1, hv12_1, hv13_1, hg13_1, hv14_1, hg14_1, (In.mono hb3 (by decide) (by decide)), hg15_1, hv17_1, hg17_1, hv20_1, hg20_1, hv23_1, hg23_1, hv25_1, hg25_1, hv36_1, hg36_1, hv47_1, hg47_1, hv48_1, hg48_1, (⟨by decide, by decide⟩ : In 0 0 400), (show (0 : Int32).toInt = 0 by decide), hv55_1, hg55_1, hrel0_1⟩ (fun q hq => ((gset_ne (fun e => hq (by subst e; decide))).trans rfl))
  have hT : TI g ad (gset th 38 0) f4 := TI.cast hT (by funext q; by_cases hq0 : q = 38; (subst hq0; rfl); simp only [gset, if_neg hq0])
  have hJ9 : ∀ (k9 : Nat) (zg9_zw : Int) (y9_l2 : Int32) (y9_l3 : Int32) (f_9 : HP) (H : Heap) (locs : List Loc) (ls : Array Slot), (0 ≤ zg9_zw ∧ zg9_zw ≤ 30 * gK (rnd (th 10)) (th 11) (th 14) (y9_l3.toInt).toNat) → In y9_l2 (-2147483648) 2147483647 → In y9_l3 0 18 → va_P g.1 vwCl (va_pl L f_9) H → va_D A (va_pl L f_9) → va_S A s.heap H locs → TI g ad (gset th 38 zg9_zw) f_9 → (∀ b, b ≠ (ad 255) → b ≠ (ad 276) → f_9 b = f b) → lv_has ls 9 [(0, .ref (ad 255)), (1, .int z1), (2, .int y9_l2), (3, .int y9_l3)] → 18 - y9_l3.toInt < ((k9 : Nat) : Int) → W p l e rm_X11_writesPlan s m [.ref (ad 255), .int z1].toArray below meth c H locs 0 0 (MQ below (va_Qv (po_X11_writesPlan g ad th L f z1) (PstB g A) A) [.ref (ad 255), .int z1].toArray s rm_X11_writesPlan.cells rm_X11_writesPlan.slots A) (F0 m 9 ls []) := by
    intro k9
    induction k9 with
    | zero =>
      intro zg9_zw y9_l2 y9_l3 f_9 H locs ls hzg9 hy9_l2 hy9_l3 hP hD hS hT hfr hl hmz9
      exact ms0 hy9_l3 hmz9
    | succ k9 ih9 =>
      intro zg9_zw y9_l2 y9_l3 f_9 H locs ls hzg9 hy9_l2 hy9_l3 hP hD hS hT hfr hl hmz9
      refine lv_iload_n hx hb dX11_writesPlan_9 rfl (lv_at hl 3 rfl) ?_
      refine lv_aload_n hx hb dX11_writesPlan_10 rfl (lv_at hl 0 rfl) ?_
      refine M0e hT (fun v0_7 v2_7 v3_7 v4_7 v5_7 v6_7 v8_7 v9_7 v12_7 v13_7 v14_7 v15_7 v16_7 v17_7 v18_7 v19_7 v20_7 v21_7 v22_7 v23_7 v25_7 v36_7 v37_7 v38_7 v39_7 v40_7 v45_7 v46_7 v47_7 v48_7 v50_7 v51_7 v53_7 v55_7 hf8 hv0_7 hv2_7 hg2_7 hv3_7 hg3_7 hv4_7 hg4_7 hv5_7 hg5_7 hv6_7 hg6_7 hv8_7 hg8_7 hv9_7 hg9_7 hv12_7 hv13_7 hg13_7 hv14_7 hg14_7 hv15_7 hg15_7 hv17_7 hg17_7 hv20_7 hg20_7 hv23_7 hg23_7 hv25_7 hg25_7 hv36_7 hg36_7 hv47_7 hg47_7 hv48_7 hg48_7 hv53_7 hg53_7 hv55_7 hg55_7 hrel0_7 => ?_)
      have hg15_7 : v15_7.toInt = th 11 := hg15_7
      have hg17_7 : v17_7.toInt = th 12 := hg17_7
      have hg20_7 : v20_7.toInt = th 14 := hg20_7
      have hb9 : In v15_7 3 9 := ⟨by rw [hg15_7]; exact hn3, hv15_7.2⟩
      refine call_i (run_V (rm := rm_X11_inAll) hx hb hml hown hts (s_X11_inAll l g ad (gset th 38 zg9_zw) _ _ _  hst hT ) cV_X11_inAll wg_1632 ⟨Nat.le_of_ble_eq_true rfl, Nat.le_of_ble_eq_true rfl⟩ hG hE hA hP hD hS (hst.1 255 (by decide)) hf8 rfl rfl hl.1 (As := []) (rest := [.int y9_l3]) rfl (Nat.le_of_ble_eq_true rfl) dX11_writesPlan_11 ⟨Nat.le_of_ble_eq_true rfl, Nat.le_of_ble_eq_true rfl⟩) hA hD hS (fun r10 L11 f12 H locs hp13 hP hD hS => ?_)
      obtain ⟨eL14L, eL14T, eL14R, eL14X0⟩ := hp13
      have eL14L : L11 = L := eL14L
      have eL14T : f12 = f_9 := eL14T
      rw [eL14L, eL14T] at hP hD
      have eL14R : In r10 0 18 := eL14R
      have hia15 : r10.toInt = (th 12) * rnd (th 10) := eL14X0
      refine lv_icmp_ge (tgt := 208) hx hb dX11_writesPlan_14 (by decide) (fun c16 => ?_) (fun c16 => ?_)
      ·
        have cc17 : r10.toInt ≤ y9_l3.toInt := i32_le.mp c16
        exact ret_v hx hb hr hlocks hP hD hS (Nat.le_of_ble_eq_true rfl) (Nat.le_of_ble_eq_true rfl) (⟨rfl, ⟨zg9_zw, trivial, TI.cast hT (by funext q; by_cases hq0 : q = 38; (subst hq0; rfl); simp only [gset, if_neg hq0])⟩, hfr⟩) dX11_writesPlan_208
      ·
        have cc18 : y9_l3.toInt < r10.toInt := i32_nle c16
        have hb19 : In y9_l3 0 17 := In.lt1 hy9_l3 eL14R cc18 (by decide) (by decide)
        have hb20 : In r10 1 18 := In.lt2 hy9_l3 eL14R cc18 (by decide) (by decide)
        refine lv_iload_n hx hb dX11_writesPlan_17 rfl (lv_at hl 3 rfl) ?_
        refine lv_aload_n hx hb dX11_writesPlan_18 rfl (lv_at hl 0 rfl) ?_
        refine call_i (run_V (rm := rm_X11_each) hx hb hml hown hts (s_X11_each l g ad (gset th 38 zg9_zw) _ _ _  hst hT ) cV_X11_each wg_1636 ⟨Nat.le_of_ble_eq_true rfl, Nat.le_of_ble_eq_true rfl⟩ hG hE hA hP hD hS (hst.1 255 (by decide)) hf8 rfl rfl hl.1 (As := []) (rest := [.int y9_l3]) rfl (Nat.le_of_ble_eq_true rfl) dX11_writesPlan_19 ⟨Nat.le_of_ble_eq_true rfl, Nat.le_of_ble_eq_true rfl⟩) hA hD hS (fun r21 L22 f23 H locs hp24 hP hD hS => ?_)
        obtain ⟨eL25L, eL25T, eL25R, eL25X0⟩ := hp24
        have eL25L : L22 = L := eL25L
        have eL25T : f23 = f_9 := eL25T
        rw [eL25L, eL25T] at hP hD
        have eL25R : In r21 2 3 := eL25R
        have hrn26 : r21.toInt = rnd (th 10) := eL25X0
        refine lv_idiv hx hb dX11_writesPlan_22 (In.ne0 eL25R (by decide)) ?_
        refine lv_topi (fun x27 ex27 => ?_)
        have hb28 : In x27 0 8 := ex27 ▸ In.div hb19 eL25R (by decide) (by decide) (by decide) (by decide)
        refine lv_istore (lv' := [(4, .int x27), (0, .ref (ad 255)), (1, .int z1), (2, .int y9_l2), (3, .int y9_l3)]) hx hb dX11_writesPlan_23 hl (by decide) rfl (fun ls hl => ?_)
        refine lv_iload_n hx hb dX11_writesPlan_25 rfl (lv_at hl 4 rfl) ?_
        refine lv_aload_n hx hb dX11_writesPlan_26 rfl (lv_at hl 1 rfl) ?_
        refine call_i (run_V (rm := rm_X11_each) hx hb hml hown hts (s_X11_each l g ad (gset th 38 zg9_zw) _ _ _  hst hT ) cV_X11_each wg_1636 ⟨Nat.le_of_ble_eq_true rfl, Nat.le_of_ble_eq_true rfl⟩ hG hE hA hP hD hS (hst.1 255 (by decide)) hf8 rfl rfl hl.1 (As := []) (rest := [.int y9_l3]) rfl (Nat.le_of_ble_eq_true rfl) dX11_writesPlan_27 ⟨Nat.le_of_ble_eq_true rfl, Nat.le_of_ble_eq_true rfl⟩) hA hD hS (fun r29 L30 f31 H locs hp32 hP hD hS => ?_)
        obtain ⟨eL33L, eL33T, eL33R, eL33X0⟩ := hp32
        have eL33L : L30 = L := eL33L
        have eL33T : f31 = f_9 := eL33T
        rw [eL33L, eL33T] at hP hD
        have eL33R : In r29 2 3 := eL33R
        have hrn34 : r29.toInt = rnd (th 10) := eL33X0
        refine lv_irem hx hb dX11_writesPlan_30 (In.ne0 eL33R (by decide)) ?_
        refine lv_topi (fun x35 ex35 => ?_)
        have hb36 : In x35 0 2 := ex35 ▸ In.rem hb19 eL33R (by decide) (by decide) (by decide)
        refine lv_istore (lv' := [(5, .int x35), (4, .int x27), (0, .ref (ad 255)), (1, .int z1), (2, .int y9_l2), (3, .int y9_l3)]) hx hb dX11_writesPlan_31 hl (by decide) rfl (fun ls hl => ?_)
        refine lv_iconst (v := 0) hx hb dX11_writesPlan_33 (by decide) ?_
        refine lv_istore (lv' := [(6, .int 0), (5, .int x35), (4, .int x27), (0, .ref (ad 255)), (1, .int z1), (2, .int y9_l2), (3, .int y9_l3)]) hx hb dX11_writesPlan_34 hl (by decide) rfl (fun ls hl => ?_)
        have hJ36 : ∀ (k36 : Nat) (zg36_zw : Int) (y36_l2 : Int32) (y36_l6 : Int32) (f_36 : HP) (H : Heap) (locs : List Loc) (ls : Array Slot), (0 ≤ zg36_zw ∧ zg36_zw ≤ 30 * (gK (rnd (th 10)) (th 11) (th 14) (y9_l3.toInt).toNat + hK (rnd (th 10)) (th 11) (th 14) (((y9_l3.toInt).toNat : Nat) : Int) (y36_l6.toInt).toNat)) → In y36_l2 (-2147483648) 2147483647 → In y36_l6 0 81 → va_P g.1 vwCl (va_pl L f_36) H → va_D A (va_pl L f_36) → va_S A s.heap H locs → TI g ad (gset th 38 zg36_zw) f_36 → (∀ b, b ≠ (ad 255) → b ≠ (ad 276) → f_36 b = f b) → (y36_l6.toInt ≤ th 11 * th 11) → lv_has ls 9 [(0, .ref (ad 255)), (1, .int z1), (2, .int y36_l2), (3, .int y9_l3), (4, .int x27), (5, .int x35), (6, .int y36_l6)] → 81 - y36_l6.toInt < ((k36 : Nat) : Int) → W p l e rm_X11_writesPlan s m [.ref (ad 255), .int z1].toArray below meth c H locs 0 0 (MQ below (va_Qv (po_X11_writesPlan g ad th L f z1) (PstB g A) A) [.ref (ad 255), .int z1].toArray s rm_X11_writesPlan.cells rm_X11_writesPlan.slots A) (F0 m 36 ls []) := by
          intro k36
          induction k36 with
          | zero =>
            intro zg36_zw y36_l2 y36_l6 f_36 H locs ls hzg36 hy36_l2 hy36_l6 hP hD hS hT hfr hxi36_0 hl hmz36
            exact ms0 hy36_l6 hmz36
          | succ k36 ih36 =>
            intro zg36_zw y36_l2 y36_l6 f_36 H locs ls hzg36 hy36_l2 hy36_l6 hP hD hS hT hfr hxi36_0 hl hmz36
            refine lv_iload hx hb dX11_writesPlan_36 (lv_at hl 6 rfl) ?_
            refine lv_aload_n hx hb dX11_writesPlan_38 rfl (lv_at hl 0 rfl) ?_
            refine M0e hT (fun v0_37 v2_37 v3_37 v4_37 v5_37 v6_37 v8_37 v9_37 v12_37 v13_37 v14_37 v15_37 v16_37 v17_37 v18_37 v19_37 v20_37 v21_37 v22_37 v23_37 v25_37 v36_37 v37_37 v38_37 v39_37 v40_37 v45_37 v46_37 v47_37 v48_37 v50_37 v51_37 v53_37 v55_37 hf38 hv0_37 hv2_37 hg2_37 hv3_37 hg3_37 hv4_37 hg4_37 hv5_37 hg5_37 hv6_37 hg6_37 hv8_37 hg8_37 hv9_37 hg9_37 hv12_37 hv13_37 hg13_37 hv14_37 hg14_37 hv15_37 hg15_37 hv17_37 hg17_37 hv20_37 hg20_37 hv23_37 hg23_37 hv25_37 hg25_37 hv36_37 hg36_37 hv47_37 hg47_37 hv48_37 hg48_37 hv53_37 hg53_37 hv55_37 hg55_37 hrel0_37 => ?_)
            have hg15_37 : v15_37.toInt = th 11 := hg15_37
            have hg17_37 : v17_37.toInt = th 12 := hg17_37
            have hg20_37 : v20_37.toInt = th 14 := hg20_37
            have hb39 : In v15_37 3 9 := ⟨by rw [hg15_37]; exact hn3, hv15_37.2⟩
            refine pl_get (v := .int v15_37) hx hb hts (fun w h => mT (inX11 w h)) hown hG.1 hP (hst.1 255 (by decide)) hf38 rfl 15 (by decide) (hts _ (mT wg_1351)) (fun _ h => h) rfl dX11_writesPlan_39 ?_
            refine lv_aload_n hx hb dX11_writesPlan_42 rfl (lv_at hl 0 rfl) ?_
            refine pl_get (v := .int v15_37) hx hb hts (fun w h => mT (inX11 w h)) hown hG.1 hP (hst.1 255 (by decide)) hf38 rfl 15 (by decide) (hts _ (mT wg_1351)) (fun _ h => h) rfl dX11_writesPlan_43 ?_
            refine lv_imul hx hb dX11_writesPlan_46 ?_
            refine lv_topi (fun x40 ex40 => ?_)
            have hb41 : In x40 9 81 := ex40 ▸ In.mul hb39 hb39 (by decide) (by decide) (by decide) (by decide) (by decide)
            have hsq42 : x40.toInt = th 11 * th 11 := by rw [ex40, mulB (a := 9) (b := 9) (In.mono hb39 (by decide) (by decide)) (In.mono hb39 (by decide) (by decide)) (A := 9) (B := 9) (by decide) (by decide) (by decide) (by decide), hg15_37]
            refine lv_icmp_ge (tgt := 202) hx hb dX11_writesPlan_47 (by decide) (fun c43 => ?_) (fun c43 => ?_)
            ·
              have cc44 : x40.toInt ≤ y36_l6.toInt := i32_le.mp c43
              have hb45 : In y36_l6 9 81 := In.ge1 hy36_l6 hb41 cc44 (by decide) (by decide)
              obtain ⟨x46, ex46⟩ : ∃ y : Int32, y = y9_l3 + 1 := ⟨_, rfl⟩
              have hb47 : In x46 1 18 := ex46 ▸ In.add hb19 (⟨by decide, by decide⟩ : In 1 1 1) (by decide) (by decide) (by decide) (by decide)
              have et48 : x46.toInt = y9_l3.toInt + 1 := In.adde ex46 hb19 (k := 1) (by decide) (by decide) (by decide)
              refine lv_iinc (v := x46) (lv' := [(3, .int x46), (0, .ref (ad 255)), (1, .int z1), (2, .int y36_l2), (4, .int x27), (5, .int x35), (6, .int y36_l6)]) hx hb dX11_writesPlan_202 hl (k := 3) rfl (by rw [ex46]; rfl) (by decide) rfl (fun ls hl => ?_)
              refine lv_goto (tgt := 9) hx hb dX11_writesPlan_205 (by decide) ?_
              exact ih9 zg36_zw y36_l2 x46 _ _ _ _ (by have hs := hK_le (e := rnd (th 10)) (n := th 11) (L := th 14) (k := (((y9_l3.toInt).toNat : Nat) : Int)) (c := (y36_l6.toInt).toNat) (d := (th 11 * th 11).toNat) (by have ob10 : (0 : Int) ≤ (th 10) ∧ (th 10) ≤ 1 := (b0_10 hT :); have ob11 : (0 : Int) ≤ (th 11) ∧ (th 11) ≤ 9 := (b0_11 hT :); have ob12 : (0 : Int) ≤ (th 12) ∧ (th 12) ≤ 6 := (b0_12 hT :); have ob14 : (0 : Int) ≤ (th 14) ∧ (th 14) ≤ 511 := (b0_14 hT :); have ob15 : (0 : Int) ≤ (th 15) ∧ (th 15) ≤ 1 := (b0_15 hT :); have ob16 : (0 : Int) ≤ (th 16) ∧ (th 16) ≤ 20 := (b0_16 hT :); have ob17 : (0 : Int) ≤ (th 17) ∧ (th 17) ≤ 1 := (b0_17 hT :); have ob18 : (0 : Int) ≤ (th 18) ∧ (th 18) ≤ 18 := (b0_18 hT :); have ob38 : (0 : Int) ≤ zg36_zw ∧ zg36_zw ≤ 400 := (b0_38 hT :); have ob39 : (0 : Int) ≤ (th 39) ∧ (th 39) ≤ 200 := (b0_39 hT :); have ob44 : (0 : Int) ≤ (th 44) ∧ (th 44) ≤ 30 := (b0_44 hT :); have orn := rnd_b (th 10); obtain ⟨o0a, o0b⟩ := (hb45 : In _ _ _); obtain ⟨o1a, o1b⟩ := (hv14_37 : In _ _ _); obtain ⟨o2a, o2b⟩ := (hb39 : In _ _ _); obtain ⟨o3a, o3b⟩ := (hv17_37 : In _ _ _); obtain ⟨o4a, o4b⟩ := (hv20_37 : In _ _ _); obtain ⟨o5a, o5b⟩ := (hv23_37 : In _ _ _); obtain ⟨o6a, o6b⟩ := (hv25_37 : In _ _ _); obtain ⟨o7a, o7b⟩ := (hv36_37 : In _ _ _); obtain ⟨o8a, o8b⟩ := (hv47_37 : In _ _ _); obtain ⟨o9a, o9b⟩ := (hv48_37 : In _ _ _); obtain ⟨o10a, o10b⟩ := (hv53_37 : In _ _ _); obtain ⟨o11a, o11b⟩ := (hv55_37 : In _ _ _); obtain ⟨o12a, o12b⟩ := (hb41 : In _ _ _); omega); have hg : gK (rnd (th 10)) (th 11) (th 14) ((y9_l3.toInt).toNat + 1) = gK (rnd (th 10)) (th 11) (th 14) (y9_l3.toInt).toNat + hK (rnd (th 10)) (th 11) (th 14) (((y9_l3.toInt).toNat : Nat) : Int) (th 11 * th 11).toNat := rfl; rw [show (x46.toInt).toNat = (y9_l3.toInt).toNat + 1 from (by have ob10 : (0 : Int) ≤ (th 10) ∧ (th 10) ≤ 1 := (b0_10 hT :); have ob11 : (0 : Int) ≤ (th 11) ∧ (th 11) ≤ 9 := (b0_11 hT :); have ob12 : (0 : Int) ≤ (th 12) ∧ (th 12) ≤ 6 := (b0_12 hT :); have ob14 : (0 : Int) ≤ (th 14) ∧ (th 14) ≤ 511 := (b0_14 hT :); have ob15 : (0 : Int) ≤ (th 15) ∧ (th 15) ≤ 1 := (b0_15 hT :); have ob16 : (0 : Int) ≤ (th 16) ∧ (th 16) ≤ 20 := (b0_16 hT :); have ob17 : (0 : Int) ≤ (th 17) ∧ (th 17) ≤ 1 := (b0_17 hT :); have ob18 : (0 : Int) ≤ (th 18) ∧ (th 18) ≤ 18 := (b0_18 hT :); have ob38 : (0 : Int) ≤ zg36_zw ∧ zg36_zw ≤ 400 := (b0_38 hT :); have ob39 : (0 : Int) ≤ (th 39) ∧ (th 39) ≤ 200 := (b0_39 hT :); have ob44 : (0 : Int) ≤ (th 44) ∧ (th 44) ≤ 30 := (b0_44 hT :); have orn := rnd_b (th 10); obtain ⟨o0a, o0b⟩ := (hb47 : In _ _ _); obtain ⟨o1a, o1b⟩ := (hv14_37 : In _ _ _); obtain ⟨o2a, o2b⟩ := (hb39 : In _ _ _); obtain ⟨o3a, o3b⟩ := (hv17_37 : In _ _ _); obtain ⟨o4a, o4b⟩ := (hv20_37 : In _ _ _); obtain ⟨o5a, o5b⟩ := (hv23_37 : In _ _ _); obtain ⟨o6a, o6b⟩ := (hv25_37 : In _ _ _); obtain ⟨o7a, o7b⟩ := (hv36_37 : In _ _ _); obtain ⟨o8a, o8b⟩ := (hv47_37 : In _ _ _); obtain ⟨o9a, o9b⟩ := (hv48_37 : In _ _ _); obtain ⟨o10a, o10b⟩ := (hv53_37 : In _ _ _); obtain ⟨o11a, o11b⟩ := (hv55_37 : In _ _ _); obtain ⟨o12a, o12b⟩ := (hb19 : In _ _ _); obtain ⟨o13a, o13b⟩ := (hb20 : In _ _ _); omega)]; exact ⟨by omega, by omega⟩) hy36_l2 (In.mono hb47 (by decide) (by decide)) hP hD hS (TI.cast hT (by funext q; by_cases hq0 : q = 38; (subst hq0; rfl); simp only [gset, if_neg hq0])) hfr (lv_sub hl [1, 2, 3, 0] rfl) (msu et48 (by decide) hmz9)
            ·
              have cc49 : y36_l6.toInt < x40.toInt := i32_nle c43
              have hb50 : In y36_l6 0 80 := In.lt1 hy36_l6 hb41 cc49 (by decide) (by decide)
              refine lv_iload hx hb dX11_writesPlan_50 (lv_at hl 6 rfl) ?_
              refine lv_aload_n hx hb dX11_writesPlan_52 rfl (lv_at hl 0 rfl) ?_
              refine pl_get (v := .int v15_37) hx hb hts (fun w h => mT (inX11 w h)) hown hG.1 hP (hst.1 255 (by decide)) hf38 rfl 15 (by decide) (hts _ (mT wg_1351)) (fun _ h => h) rfl dX11_writesPlan_53 ?_
              refine lv_idiv hx hb dX11_writesPlan_56 (In.ne0 hb39 (by decide)) ?_
              refine lv_topi (fun x51 ex51 => ?_)
              have hb52 : In x51 0 26 := ex51 ▸ In.div hb50 hb39 (by decide) (by decide) (by decide) (by decide)
              refine lv_istore (lv' := [(7, .int x51), (0, .ref (ad 255)), (1, .int z1), (2, .int y36_l2), (3, .int y9_l3), (4, .int x27), (5, .int x35), (6, .int y36_l6)]) hx hb dX11_writesPlan_57 hl (by decide) rfl (fun ls hl => ?_)
              refine lv_iload hx hb dX11_writesPlan_59 (lv_at hl 7 rfl) ?_
              refine lv_aload_n hx hb dX11_writesPlan_61 rfl (lv_at hl 1 rfl) ?_
              refine pl_get (v := .int v15_37) hx hb hts (fun w h => mT (inX11 w h)) hown hG.1 hP (hst.1 255 (by decide)) hf38 rfl 15 (by decide) (hts _ (mT wg_1351)) (fun _ h => h) rfl dX11_writesPlan_62 ?_
              refine lv_irem hx hb dX11_writesPlan_65 (In.ne0 hb39 (by decide)) ?_
              refine lv_topi (fun x53 ex53 => ?_)
              have hb54 : In x53 0 8 := ex53 ▸ In.rem hb50 hb39 (by decide) (by decide) (by decide)
              refine lv_istore (lv' := [(8, .int x53), (7, .int x51), (0, .ref (ad 255)), (1, .int z1), (2, .int y36_l2), (3, .int y9_l3), (4, .int x27), (5, .int x35), (6, .int y36_l6)]) hx hb dX11_writesPlan_66 hl (by decide) rfl (fun ls hl => ?_)
              refine lv_aload_n hx hb dX11_writesPlan_68 rfl (lv_at hl 2 rfl) ?_
              refine lv_iload hx hb dX11_writesPlan_69 (lv_at hl 1 rfl) ?_
              refine call_i (run_V (rm := rm_X11_isLiar) hx hb hml hown hts (s_X11_isLiar l g ad (gset th 38 zg36_zw) _ _ _ x51 hst hT ) cV_X11_isLiar wg_1664 ⟨Nat.le_of_ble_eq_true rfl, Nat.le_of_ble_eq_true rfl⟩ hG hE hA hP hD hS (hst.1 255 (by decide)) hf38 rfl rfl hl.1 (As := [.int x51]) (rest := []) rfl (Nat.le_of_ble_eq_true rfl) dX11_writesPlan_71 ⟨Nat.le_of_ble_eq_true rfl, Nat.le_of_ble_eq_true rfl⟩) hA hD hS (fun r55 L56 f57 H locs hp58 hP hD hS => ?_)
              obtain ⟨eL59L, eL59T, eL59R, eL59X0⟩ := hp58
              have eL59L : L56 = L := eL59L
              have eL59T : f57 = f_36 := eL59T
              rw [eL59L, eL59T] at hP hD
              have eL59R : In r55 0 1 := eL59R
              have hbl60 : r55.toInt = bitI (th 14) x51.toInt := eL59X0 (In.mono hb52 (by decide) (by decide))
              have hJ196 : ∀ (zg196_zw : Int) (y196_l2 : Int32) (f_196 : HP) (H : Heap) (locs : List Loc) (ls : Array Slot), (0 ≤ zg196_zw ∧ zg196_zw ≤ 30 * (gK (rnd (th 10)) (th 11) (th 14) (y9_l3.toInt).toNat + hK (rnd (th 10)) (th 11) (th 14) (((y9_l3.toInt).toNat : Nat) : Int) ((y36_l6.toInt).toNat + 1))) → In y196_l2 (-2147483648) 2147483647 → va_P g.1 vwCl (va_pl L f_196) H → va_D A (va_pl L f_196) → va_S A s.heap H locs → TI g ad (gset th 38 zg196_zw) f_196 → (∀ b, b ≠ (ad 255) → b ≠ (ad 276) → f_196 b = f b) → lv_has ls 9 [(0, .ref (ad 255)), (1, .int z1), (2, .int y196_l2), (3, .int y9_l3), (4, .int x27), (5, .int x35), (6, .int y36_l6), (7, .int x51), (8, .int x53)] → W p l e rm_X11_writesPlan s m [.ref (ad 255), .int z1].toArray below meth c H locs 0 0 (MQ below (va_Qv (po_X11_writesPlan g ad th L f z1) (PstB g A) A) [.ref (ad 255), .int z1].toArray s rm_X11_writesPlan.cells rm_X11_writesPlan.slots A) (F0 m 196 ls []) := by
                intro zg196_zw y196_l2 f_196 H locs ls hzg196 hy196_l2 hP hD hS hT hfr hl
                obtain ⟨x61, ex61⟩ : ∃ y : Int32, y = y36_l6 + 1 := ⟨_, rfl⟩
                have hb62 : In x61 1 81 := ex61 ▸ In.add hb50 (⟨by decide, by decide⟩ : In 1 1 1) (by decide) (by decide) (by decide) (by decide)
                have et63 : x61.toInt = y36_l6.toInt + 1 := In.adde ex61 hb50 (k := 1) (by decide) (by decide) (by decide)
                refine lv_iinc (v := x61) (lv' := [(6, .int x61), (0, .ref (ad 255)), (1, .int z1), (2, .int y196_l2), (3, .int y9_l3), (4, .int x27), (5, .int x35), (7, .int x51), (8, .int x53)]) hx hb dX11_writesPlan_196 hl (k := 6) rfl (by rw [ex61]; rfl) (by decide) rfl (fun ls hl => ?_)
                refine lv_goto (tgt := 36) hx hb dX11_writesPlan_199 (by decide) ?_
                exact ih36 zg196_zw y196_l2 x61 _ _ _ _ (by rw [show (x61.toInt).toNat = (y36_l6.toInt).toNat + 1 from (by have ob10 : (0 : Int) ≤ (th 10) ∧ (th 10) ≤ 1 := (b0_10 hT :); have ob11 : (0 : Int) ≤ (th 11) ∧ (th 11) ≤ 9 := (b0_11 hT :); have ob12 : (0 : Int) ≤ (th 12) ∧ (th 12) ≤ 6 := (b0_12 hT :); have ob14 : (0 : Int) ≤ (th 14) ∧ (th 14) ≤ 511 := (b0_14 hT :); have ob15 : (0 : Int) ≤ (th 15) ∧ (th 15) ≤ 1 := (b0_15 hT :); have ob16 : (0 : Int) ≤ (th 16) ∧ (th 16) ≤ 20 := (b0_16 hT :); have ob17 : (0 : Int) ≤ (th 17) ∧ (th 17) ≤ 1 := (b0_17 hT :); have ob18 : (0 : Int) ≤ (th 18) ∧ (th 18) ≤ 18 := (b0_18 hT :); have ob38 : (0 : Int) ≤ zg196_zw ∧ zg196_zw ≤ 400 := (b0_38 hT :); have ob39 : (0 : Int) ≤ (th 39) ∧ (th 39) ≤ 200 := (b0_39 hT :); have ob44 : (0 : Int) ≤ (th 44) ∧ (th 44) ≤ 30 := (b0_44 hT :); have orn := rnd_b (th 10); obtain ⟨o0a, o0b⟩ := (hb62 : In _ _ _); obtain ⟨o1a, o1b⟩ := (hb50 : In _ _ _); obtain ⟨o2a, o2b⟩ := (hb41 : In _ _ _); omega)]; exact hzg196) hy196_l2 (In.mono hb62 (by decide) (by decide)) hP hD hS (TI.cast hT (by funext q; by_cases hq0 : q = 38; (subst hq0; rfl); simp only [gset, if_neg hq0])) hfr (by have ob10 : (0 : Int) ≤ (th 10) ∧ (th 10) ≤ 1 := (b0_10 hT :); have ob11 : (0 : Int) ≤ (th 11) ∧ (th 11) ≤ 9 := (b0_11 hT :); have ob12 : (0 : Int) ≤ (th 12) ∧ (th 12) ≤ 6 := (b0_12 hT :); have ob14 : (0 : Int) ≤ (th 14) ∧ (th 14) ≤ 511 := (b0_14 hT :); have ob15 : (0 : Int) ≤ (th 15) ∧ (th 15) ≤ 1 := (b0_15 hT :); have ob16 : (0 : Int) ≤ (th 16) ∧ (th 16) ≤ 20 := (b0_16 hT :); have ob17 : (0 : Int) ≤ (th 17) ∧ (th 17) ≤ 1 := (b0_17 hT :); have ob18 : (0 : Int) ≤ (th 18) ∧ (th 18) ≤ 18 := (b0_18 hT :); have ob38 : (0 : Int) ≤ zg196_zw ∧ zg196_zw ≤ 400 := (b0_38 hT :); have ob39 : (0 : Int) ≤ (th 39) ∧ (th 39) ≤ 200 := (b0_39 hT :); have ob44 : (0 : Int) ≤ (th 44) ∧ (th 44) ≤ 30 := (b0_44 hT :); have orn := rnd_b (th 10); obtain ⟨o0a, o0b⟩ := (hb62 : In _ _ _); obtain ⟨o1a, o1b⟩ := (hb50 : In _ _ _); obtain ⟨o2a, o2b⟩ := (hb41 : In _ _ _); omega) (lv_sub hl [1, 2, 3, 4, 5, 6, 0] rfl) (msu et63 (by decide) hmz36)
              refine lv_if_eq (tgt := 196) hx hb dX11_writesPlan_74 (by decide) (fun c64 => ?_) (fun c64 => ?_)
              ·
                have oc0 : (0 : Int32).toInt = 0 := by decide
                have cc65 : r55.toInt = (0 : Int32).toInt := congrArg Int32.toInt c64
                have hb66 : In r55 0 0 := In.eq1 eL59R (⟨by decide, by decide⟩ : In 0 0 0) cc65 (by decide) (by decide)
                exact hJ196 zg36_zw y36_l2 _ _ _ _ (by have := hK_s (e := rnd (th 10)) (n := th 11) (L := th 14) (k := (((y9_l3.toInt).toNat : Nat) : Int)) (c := (y36_l6.toInt).toNat); omega) hy36_l2 hP hD hS (TI.cast hT (by funext q; by_cases hq0 : q = 38; (subst hq0; rfl); simp only [gset, if_neg hq0])) hfr (lv_sub hl [2, 3, 4, 5, 6, 7, 8, 1, 0] rfl)
              ·
                have oc0 : (0 : Int32).toInt = 0 := by decide
                have cc67 : r55.toInt ≠ (0 : Int32).toInt := i32_ne c64
                have hb68 : In r55 1 1 := In.ne1 eL59R (⟨by decide, by decide⟩ : In 0 0 0) cc67 (by decide) (by decide)
                refine lv_aload_n hx hb dX11_writesPlan_77 rfl (lv_at hl 2 rfl) ?_
                refine lv_iload hx hb dX11_writesPlan_78 (lv_at hl 0 rfl) ?_
                refine call_i (run_V (rm := rm_X11_isLiar) hx hb hml hown hts (s_X11_isLiar l g ad (gset th 38 zg36_zw) _ _ _ x53 hst hT ) cV_X11_isLiar wg_1664 ⟨Nat.le_of_ble_eq_true rfl, Nat.le_of_ble_eq_true rfl⟩ hG hE hA hP hD hS (hst.1 255 (by decide)) hf38 rfl rfl hl.1 (As := [.int x53]) (rest := []) rfl (Nat.le_of_ble_eq_true rfl) dX11_writesPlan_80 ⟨Nat.le_of_ble_eq_true rfl, Nat.le_of_ble_eq_true rfl⟩) hA hD hS (fun r69 L70 f71 H locs hp72 hP hD hS => ?_)
                obtain ⟨eL73L, eL73T, eL73R, eL73X0⟩ := hp72
                have eL73L : L70 = L := eL73L
                have eL73T : f71 = f_36 := eL73T
                rw [eL73L, eL73T] at hP hD
                have eL73R : In r69 0 1 := eL73R
                have hbl74 : r69.toInt = bitI (th 14) x53.toInt := eL73X0 (In.mono hb54 (by decide) (by decide))
                refine lv_if_ne (tgt := 196) hx hb dX11_writesPlan_83 (by decide) (fun c75 => ?_) (fun c75 => ?_)
                ·
                  have oc0 : (0 : Int32).toInt = 0 := by decide
                  have cc76 : r69.toInt ≠ (0 : Int32).toInt := i32_ne c75
                  have hb77 : In r69 1 1 := In.ne1 eL73R (⟨by decide, by decide⟩ : In 0 0 0) cc76 (by decide) (by decide)
                  exact hJ196 zg36_zw y36_l2 _ _ _ _ (by have := hK_s (e := rnd (th 10)) (n := th 11) (L := th 14) (k := (((y9_l3.toInt).toNat : Nat) : Int)) (c := (y36_l6.toInt).toNat); omega) hy36_l2 hP hD hS (TI.cast hT (by funext q; by_cases hq0 : q = 38; (subst hq0; rfl); simp only [gset, if_neg hq0])) hfr (lv_sub hl [2, 3, 4, 5, 6, 7, 8, 1, 0] rfl)
                ·
                  have oc0 : (0 : Int32).toInt = 0 := by decide
                  have cc78 : r69.toInt = (0 : Int32).toInt := congrArg Int32.toInt c75
                  have hb79 : In r69 0 0 := In.eq1 eL73R (⟨by decide, by decide⟩ : In 0 0 0) cc78 (by decide) (by decide)
                  refine lv_iload hx hb dX11_writesPlan_86 (lv_at hl 7 rfl) ?_
                  refine lv_aload_n hx hb dX11_writesPlan_88 rfl (lv_at hl 2 rfl) ?_
                  refine call_i (run_V (rm := rm_X11_each) hx hb hml hown hts (s_X11_each l g ad (gset th 38 zg36_zw) _ _ _  hst hT ) cV_X11_each wg_1636 ⟨Nat.le_of_ble_eq_true rfl, Nat.le_of_ble_eq_true rfl⟩ hG hE hA hP hD hS (hst.1 255 (by decide)) hf38 rfl rfl hl.1 (As := []) (rest := [.int x35]) rfl (Nat.le_of_ble_eq_true rfl) dX11_writesPlan_89 ⟨Nat.le_of_ble_eq_true rfl, Nat.le_of_ble_eq_true rfl⟩) hA hD hS (fun r80 L81 f82 H locs hp83 hP hD hS => ?_)
                  obtain ⟨eL84L, eL84T, eL84R, eL84X0⟩ := hp83
                  have eL84L : L81 = L := eL84L
                  have eL84T : f82 = f_36 := eL84T
                  rw [eL84L, eL84T] at hP hD
                  have eL84R : In r80 2 3 := eL84R
                  have hrn85 : r80.toInt = rnd (th 10) := eL84X0
                  refine lv_iconst (v := 1) hx hb dX11_writesPlan_92 (by decide) ?_
                  refine lv_isub hx hb dX11_writesPlan_93 ?_
                  refine lv_topi (fun x86 ex86 => ?_)
                  have hb87 : In x86 1 2 := ex86 ▸ In.sub eL84R (⟨by decide, by decide⟩ : In 1 1 1) (by decide) (by decide) (by decide) (by decide)
                  have et88 : x86.toInt = r80.toInt + (-1) := In.sube ex86 eL84R (k := 1) (by decide) (by decide) (by decide)
                  refine lv_icmp_ne (tgt := 112) hx hb dX11_writesPlan_94 (by decide) (fun c89 => ?_) (fun c89 => ?_)
                  ·
                    have cc90 : x35.toInt ≠ x86.toInt := i32_ne c89
                    have hfr0 : x51.toInt = y36_l6.toInt / th 11 := by rw [ex51, i32_divT (Int.le_trans (by decide) hb50.1) (by omega), hg15_37]
                    have hto0 : x53.toInt = y36_l6.toInt % th 11 := rem_e (n := th 11) ex53 hg15_37 (by omega) (Int.le_trans (by decide) hb50.1)
                    have hrc := rnd_c (th 10)
                    have hph0 : x27.toInt = y9_l3.toInt / rnd (th 10) := by rw [ex27, i32_divT (Int.le_trans (by decide) hb19.1) (by omega), hrn26]
                    have hrd0 : x35.toInt = y9_l3.toInt % rnd (th 10) := rem_e (n := rnd (th 10)) ex35 hrn34 (by omega) (Int.le_trans (by decide) hb19.1)
                    have hkn : (((y9_l3.toInt).toNat : Nat) : Int) = y9_l3.toInt := by have : 0 ≤ y9_l3.toInt := (Int.le_trans (by decide) hb19.1); omega
                    have hcn : (((y36_l6.toInt).toNat : Nat) : Int) = y36_l6.toInt := by have : 0 ≤ y36_l6.toInt := (Int.le_trans (by decide) hb50.1); omega
                    have hpr : prB (rnd (th 10)) (th 11) (th 14) (((y9_l3.toInt).toNat : Nat) : Int) (((y36_l6.toInt).toNat : Nat) : Int) = true := prb_of (by rw [hcn, ← hfr0]; have := hrc; have ob10 : (0 : Int) ≤ (th 10) ∧ (th 10) ≤ 1 := (b0_10 hT :); have ob11 : (0 : Int) ≤ (th 11) ∧ (th 11) ≤ 9 := (b0_11 hT :); have ob12 : (0 : Int) ≤ (th 12) ∧ (th 12) ≤ 6 := (b0_12 hT :); have ob14 : (0 : Int) ≤ (th 14) ∧ (th 14) ≤ 511 := (b0_14 hT :); have ob15 : (0 : Int) ≤ (th 15) ∧ (th 15) ≤ 1 := (b0_15 hT :); have ob16 : (0 : Int) ≤ (th 16) ∧ (th 16) ≤ 20 := (b0_16 hT :); have ob17 : (0 : Int) ≤ (th 17) ∧ (th 17) ≤ 1 := (b0_17 hT :); have ob18 : (0 : Int) ≤ (th 18) ∧ (th 18) ≤ 18 := (b0_18 hT :); have ob38 : (0 : Int) ≤ zg36_zw ∧ zg36_zw ≤ 400 := (b0_38 hT :); have ob39 : (0 : Int) ≤ (th 39) ∧ (th 39) ≤ 200 := (b0_39 hT :); have ob44 : (0 : Int) ≤ (th 44) ∧ (th 44) ≤ 30 := (b0_44 hT :); have orn := rnd_b (th 10); obtain ⟨o0a, o0b⟩ := (hb68 : In _ _ _); obtain ⟨o1a, o1b⟩ := (hv14_37 : In _ _ _); obtain ⟨o2a, o2b⟩ := (hb39 : In _ _ _); obtain ⟨o3a, o3b⟩ := (hv17_37 : In _ _ _); obtain ⟨o4a, o4b⟩ := (hv20_37 : In _ _ _); obtain ⟨o5a, o5b⟩ := (hv23_37 : In _ _ _); obtain ⟨o6a, o6b⟩ := (hv25_37 : In _ _ _); obtain ⟨o7a, o7b⟩ := (hv36_37 : In _ _ _); obtain ⟨o8a, o8b⟩ := (hv47_37 : In _ _ _); obtain ⟨o9a, o9b⟩ := (hv48_37 : In _ _ _); obtain ⟨o10a, o10b⟩ := (hv53_37 : In _ _ _); obtain ⟨o11a, o11b⟩ := (hv55_37 : In _ _ _); omega) (by rw [hcn, ← hto0]; have ob10 : (0 : Int) ≤ (th 10) ∧ (th 10) ≤ 1 := (b0_10 hT :); have ob11 : (0 : Int) ≤ (th 11) ∧ (th 11) ≤ 9 := (b0_11 hT :); have ob12 : (0 : Int) ≤ (th 12) ∧ (th 12) ≤ 6 := (b0_12 hT :); have ob14 : (0 : Int) ≤ (th 14) ∧ (th 14) ≤ 511 := (b0_14 hT :); have ob15 : (0 : Int) ≤ (th 15) ∧ (th 15) ≤ 1 := (b0_15 hT :); have ob16 : (0 : Int) ≤ (th 16) ∧ (th 16) ≤ 20 := (b0_16 hT :); have ob17 : (0 : Int) ≤ (th 17) ∧ (th 17) ≤ 1 := (b0_17 hT :); have ob18 : (0 : Int) ≤ (th 18) ∧ (th 18) ≤ 18 := (b0_18 hT :); have ob38 : (0 : Int) ≤ zg36_zw ∧ zg36_zw ≤ 400 := (b0_38 hT :); have ob39 : (0 : Int) ≤ (th 39) ∧ (th 39) ≤ 200 := (b0_39 hT :); have ob44 : (0 : Int) ≤ (th 44) ∧ (th 44) ≤ 30 := (b0_44 hT :); have orn := rnd_b (th 10); obtain ⟨o0a, o0b⟩ := (hb79 : In _ _ _); obtain ⟨o1a, o1b⟩ := (hv14_37 : In _ _ _); obtain ⟨o2a, o2b⟩ := (hb39 : In _ _ _); obtain ⟨o3a, o3b⟩ := (hv17_37 : In _ _ _); obtain ⟨o4a, o4b⟩ := (hv20_37 : In _ _ _); obtain ⟨o5a, o5b⟩ := (hv23_37 : In _ _ _); obtain ⟨o6a, o6b⟩ := (hv25_37 : In _ _ _); obtain ⟨o7a, o7b⟩ := (hv36_37 : In _ _ _); obtain ⟨o8a, o8b⟩ := (hv47_37 : In _ _ _); obtain ⟨o9a, o9b⟩ := (hv48_37 : In _ _ _); obtain ⟨o10a, o10b⟩ := (hv53_37 : In _ _ _); obtain ⟨o11a, o11b⟩ := (hv55_37 : In _ _ _); omega) (Or.inl (by rw [hkn, ← hrd0]; omega))
                    have hpb := plan_b (z := th 10) (k := (y9_l3.toInt).toNat) (c := (y36_l6.toInt).toNat) h14.1 ⟨by omega, h14.2.1⟩ hcap h14.2.2 hfr12 (by have ob10 : (0 : Int) ≤ (th 10) ∧ (th 10) ≤ 1 := (b0_10 hT :); have ob11 : (0 : Int) ≤ (th 11) ∧ (th 11) ≤ 9 := (b0_11 hT :); have ob12 : (0 : Int) ≤ (th 12) ∧ (th 12) ≤ 6 := (b0_12 hT :); have ob14 : (0 : Int) ≤ (th 14) ∧ (th 14) ≤ 511 := (b0_14 hT :); have ob15 : (0 : Int) ≤ (th 15) ∧ (th 15) ≤ 1 := (b0_15 hT :); have ob16 : (0 : Int) ≤ (th 16) ∧ (th 16) ≤ 20 := (b0_16 hT :); have ob17 : (0 : Int) ≤ (th 17) ∧ (th 17) ≤ 1 := (b0_17 hT :); have ob18 : (0 : Int) ≤ (th 18) ∧ (th 18) ≤ 18 := (b0_18 hT :); have ob38 : (0 : Int) ≤ zg36_zw ∧ zg36_zw ≤ 400 := (b0_38 hT :); have ob39 : (0 : Int) ≤ (th 39) ∧ (th 39) ≤ 200 := (b0_39 hT :); have ob44 : (0 : Int) ≤ (th 44) ∧ (th 44) ≤ 30 := (b0_44 hT :); have orn := rnd_b (th 10); obtain ⟨o0a, o0b⟩ := (hb19 : In _ _ _); obtain ⟨o1a, o1b⟩ := (hv14_37 : In _ _ _); obtain ⟨o2a, o2b⟩ := (hb39 : In _ _ _); obtain ⟨o3a, o3b⟩ := (hv17_37 : In _ _ _); obtain ⟨o4a, o4b⟩ := (hv20_37 : In _ _ _); obtain ⟨o5a, o5b⟩ := (hv23_37 : In _ _ _); obtain ⟨o6a, o6b⟩ := (hv25_37 : In _ _ _); obtain ⟨o7a, o7b⟩ := (hv36_37 : In _ _ _); obtain ⟨o8a, o8b⟩ := (hv47_37 : In _ _ _); obtain ⟨o9a, o9b⟩ := (hv48_37 : In _ _ _); obtain ⟨o10a, o10b⟩ := (hv53_37 : In _ _ _); obtain ⟨o11a, o11b⟩ := (hv55_37 : In _ _ _); obtain ⟨o12a, o12b⟩ := (hb20 : In _ _ _); omega) (by have ob10 : (0 : Int) ≤ (th 10) ∧ (th 10) ≤ 1 := (b0_10 hT :); have ob11 : (0 : Int) ≤ (th 11) ∧ (th 11) ≤ 9 := (b0_11 hT :); have ob12 : (0 : Int) ≤ (th 12) ∧ (th 12) ≤ 6 := (b0_12 hT :); have ob14 : (0 : Int) ≤ (th 14) ∧ (th 14) ≤ 511 := (b0_14 hT :); have ob15 : (0 : Int) ≤ (th 15) ∧ (th 15) ≤ 1 := (b0_15 hT :); have ob16 : (0 : Int) ≤ (th 16) ∧ (th 16) ≤ 20 := (b0_16 hT :); have ob17 : (0 : Int) ≤ (th 17) ∧ (th 17) ≤ 1 := (b0_17 hT :); have ob18 : (0 : Int) ≤ (th 18) ∧ (th 18) ≤ 18 := (b0_18 hT :); have ob38 : (0 : Int) ≤ zg36_zw ∧ zg36_zw ≤ 400 := (b0_38 hT :); have ob39 : (0 : Int) ≤ (th 39) ∧ (th 39) ≤ 200 := (b0_39 hT :); have ob44 : (0 : Int) ≤ (th 44) ∧ (th 44) ≤ 30 := (b0_44 hT :); have orn := rnd_b (th 10); obtain ⟨o0a, o0b⟩ := (hb50 : In _ _ _); obtain ⟨o1a, o1b⟩ := (hv14_37 : In _ _ _); obtain ⟨o2a, o2b⟩ := (hb39 : In _ _ _); obtain ⟨o3a, o3b⟩ := (hv17_37 : In _ _ _); obtain ⟨o4a, o4b⟩ := (hv20_37 : In _ _ _); obtain ⟨o5a, o5b⟩ := (hv23_37 : In _ _ _); obtain ⟨o6a, o6b⟩ := (hv25_37 : In _ _ _); obtain ⟨o7a, o7b⟩ := (hv36_37 : In _ _ _); obtain ⟨o8a, o8b⟩ := (hv47_37 : In _ _ _); obtain ⟨o9a, o9b⟩ := (hv48_37 : In _ _ _); obtain ⟨o10a, o10b⟩ := (hv53_37 : In _ _ _); obtain ⟨o11a, o11b⟩ := (hv55_37 : In _ _ _); obtain ⟨o12a, o12b⟩ := (hb41 : In _ _ _); omega)
                    have hh0 := hK_0 (e := rnd (th 10)) (n := th 11) (L := th 14) (k := (((y9_l3.toInt).toNat : Nat) : Int)) (y36_l6.toInt).toNat
                    have hii := hK_i hpr
                    refine lv_aload_n hx hb dX11_writesPlan_112 rfl (lv_at hl 2 rfl) ?_
                    refine pl_get (v := .int v53_37) hx hb hts (fun w h => mT (inX11 w h)) hown hG.1 hP (hst.1 255 (by decide)) hf38 rfl 53 (by decide) (hts _ (mT wg_1389)) (fun _ h => h) rfl dX11_writesPlan_113 ?_
                    have hg53_37 : v53_37.toInt = zg36_zw := hg53_37
                    have hJ126 : ∀ (zg126_zw : Int) (f_126 : HP) (H : Heap) (locs : List Loc) (ls : Array Slot), (0 ≤ zg126_zw ∧ zg126_zw ≤ 30 * (gK (rnd (th 10)) (th 11) (th 14) (y9_l3.toInt).toNat + hK (rnd (th 10)) (th 11) (th 14) (((y9_l3.toInt).toNat : Nat) : Int) (y36_l6.toInt).toNat) + 1) → va_P g.1 vwCl (va_pl L f_126) H → va_D A (va_pl L f_126) → va_S A s.heap H locs → TI g ad (gset th 38 zg126_zw) f_126 → (∀ b, b ≠ (ad 255) → b ≠ (ad 276) → f_126 b = f b) → lv_has ls 9 [(0, .ref (ad 255)), (1, .int z1), (2, .int y36_l2), (3, .int y9_l3), (4, .int x27), (5, .int x35), (6, .int y36_l6), (7, .int x51), (8, .int x53)] → W p l e rm_X11_writesPlan s m [.ref (ad 255), .int z1].toArray below meth c H locs 0 0 (MQ below (va_Qv (po_X11_writesPlan g ad th L f z1) (PstB g A) A) [.ref (ad 255), .int z1].toArray s rm_X11_writesPlan.cells rm_X11_writesPlan.slots A) (F0 m 126 ls []) := by
                      intro zg126_zw f_126 H locs ls hzg126 hP hD hS hT hfr hl
                      refine lv_aload_n hx hb dX11_writesPlan_126 rfl (lv_at hl 0 rfl) ?_
                      refine va_ldcSw hx hb hown (hG.2.2.1 ("RulerWordModel", 423, "phase ", 16) (by decide +kernel)) dX11_writesPlan_127 ?_
                      refine M0e hT (fun v0_91 v2_91 v3_91 v4_91 v5_91 v6_91 v8_91 v9_91 v12_91 v13_91 v14_91 v15_91 v16_91 v17_91 v18_91 v19_91 v20_91 v21_91 v22_91 v23_91 v25_91 v36_91 v37_91 v38_91 v39_91 v40_91 v45_91 v46_91 v47_91 v48_91 v50_91 v51_91 v53_91 v55_91 hf92 hv0_91 hv2_91 hg2_91 hv3_91 hg3_91 hv4_91 hg4_91 hv5_91 hg5_91 hv6_91 hg6_91 hv8_91 hg8_91 hv9_91 hg9_91 hv12_91 hv13_91 hg13_91 hv14_91 hg14_91 hv15_91 hg15_91 hv17_91 hg17_91 hv20_91 hg20_91 hv23_91 hg23_91 hv25_91 hg25_91 hv36_91 hg36_91 hv47_91 hg47_91 hv48_91 hg48_91 hv53_91 hg53_91 hv55_91 hg55_91 hrel0_91 => ?_)
                      have hg15_91 : v15_91.toInt = th 11 := hg15_91
                      have hg17_91 : v17_91.toInt = th 12 := hg17_91
                      have hg20_91 : v20_91.toInt = th 14 := hg20_91
                      have hb93 : In v15_91 3 9 := ⟨by rw [hg15_91]; exact hn3, hv15_91.2⟩
                      refine call_v (run_V (rm := rm_X11_writesWord) hx hb hml hown hts (s_X11_writesWord l g ad (gset th 38 zg126_zw) _ _ _ 16 hst hT (by decide) (show zg126_zw + ((lenS.getD 16 0 : Nat) : Int) ≤ 400 by have ql : (lenS.getD 16 0 : Nat) = 6 := (by decide); omega)) cV_X11_writesWord wg_1875 ⟨Nat.le_of_ble_eq_true rfl, Nat.le_of_ble_eq_true rfl⟩ hG hE hA hP hD hS (hst.1 255 (by decide)) hf92 rfl rfl hl.1 (As := [.ref (g.2.2.1 16)]) (rest := []) rfl (Nat.le_of_ble_eq_true rfl) dX11_writesPlan_130 ⟨Nat.le_of_ble_eq_true rfl, Nat.le_of_ble_eq_true rfl⟩) hA hD hS (fun L95 f96 H locs hp97 hP hD hS => ?_)
                      obtain ⟨eL98L, eL98T, eL98F⟩ := hp97
                      have eL98L : L95 = L := eL98L
                      rw [eL98L] at hP hD
                      obtain ⟨zz99, hzz99, eL98T⟩ := eL98T
                      have hgk100 : (gset th 38 zg126_zw) 38 = zg126_zw := rfl
                      have hT : TI g ad (gset (gset th 38 zg126_zw) 38 zz99) f96 := eL98T
                      have hT : TI g ad (gset th 38 zz99) f96 := TI.cast hT (by funext q; by_cases hq0 : q = 38; (subst hq0; rfl); simp only [gset, if_neg hq0])
                      have eL98F : ∀ b, b ≠ (ad 255) → b ≠ (ad 276) → f96 b = f_126 b := eL98F
                      have hfr : (∀ b, b ≠ (ad 255) → b ≠ (ad 276) → f96 b = f b) := fun b z0_ z1_ => (eL98F b z0_ z1_).trans (hfr b z0_ z1_)
                      refine lv_aload_n hx hb dX11_writesPlan_133 rfl (lv_at hl 0 rfl) ?_
                      refine lv_iload hx hb dX11_writesPlan_134 (lv_at hl 4 rfl) ?_
                      refine M0e hT (fun v0_101 v2_101 v3_101 v4_101 v5_101 v6_101 v8_101 v9_101 v12_101 v13_101 v14_101 v15_101 v16_101 v17_101 v18_101 v19_101 v20_101 v21_101 v22_101 v23_101 v25_101 v36_101 v37_101 v38_101 v39_101 v40_101 v45_101 v46_101 v47_101 v48_101 v50_101 v51_101 v53_101 v55_101 hf102 hv0_101 hv2_101 hg2_101 hv3_101 hg3_101 hv4_101 hg4_101 hv5_101 hg5_101 hv6_101 hg6_101 hv8_101 hg8_101 hv9_101 hg9_101 hv12_101 hv13_101 hg13_101 hv14_101 hg14_101 hv15_101 hg15_101 hv17_101 hg17_101 hv20_101 hg20_101 hv23_101 hg23_101 hv25_101 hg25_101 hv36_101 hg36_101 hv47_101 hg47_101 hv48_101 hg48_101 hv53_101 hg53_101 hv55_101 hg55_101 hrel0_101 => ?_)
                      have hg15_101 : v15_101.toInt = th 11 := hg15_101
                      have hg17_101 : v17_101.toInt = th 12 := hg17_101
                      have hg20_101 : v20_101.toInt = th 14 := hg20_101
                      have hb103 : In v15_101 3 9 := ⟨by rw [hg15_101]; exact hn3, hv15_101.2⟩
                      refine call_v (run_V (rm := rm_X11_writesDigit) hx hb hml hown hts (s_X11_writesDigit l g ad (gset th 38 zz99) _ _ _ x27 hst hT (show zz99 < 400 from (by have ob10 : (0 : Int) ≤ (th 10) ∧ (th 10) ≤ 1 := (b0_10 hT :); have ob11 : (0 : Int) ≤ (th 11) ∧ (th 11) ≤ 9 := (b0_11 hT :); have ob12 : (0 : Int) ≤ (th 12) ∧ (th 12) ≤ 6 := (b0_12 hT :); have ob14 : (0 : Int) ≤ (th 14) ∧ (th 14) ≤ 511 := (b0_14 hT :); have ob15 : (0 : Int) ≤ (th 15) ∧ (th 15) ≤ 1 := (b0_15 hT :); have ob16 : (0 : Int) ≤ (th 16) ∧ (th 16) ≤ 20 := (b0_16 hT :); have ob17 : (0 : Int) ≤ (th 17) ∧ (th 17) ≤ 1 := (b0_17 hT :); have ob18 : (0 : Int) ≤ (th 18) ∧ (th 18) ≤ 18 := (b0_18 hT :); have ob38 : (0 : Int) ≤ zz99 ∧ zz99 ≤ 400 := (b0_38 hT :); have ob39 : (0 : Int) ≤ (th 39) ∧ (th 39) ≤ 200 := (b0_39 hT :); have ob44 : (0 : Int) ≤ (th 44) ∧ (th 44) ≤ 30 := (b0_44 hT :); have orn := rnd_b (th 10); obtain ⟨o0a, o0b⟩ := (hv14_101 : In _ _ _); obtain ⟨o1a, o1b⟩ := (hb103 : In _ _ _); obtain ⟨o2a, o2b⟩ := (hv17_101 : In _ _ _); obtain ⟨o3a, o3b⟩ := (hv20_101 : In _ _ _); obtain ⟨o4a, o4b⟩ := (hv23_101 : In _ _ _); obtain ⟨o5a, o5b⟩ := (hv25_101 : In _ _ _); obtain ⟨o6a, o6b⟩ := (hv36_101 : In _ _ _); obtain ⟨o7a, o7b⟩ := (hv47_101 : In _ _ _); obtain ⟨o8a, o8b⟩ := (hv48_101 : In _ _ _); obtain ⟨o9a, o9b⟩ := (hv53_101 : In _ _ _); obtain ⟨o10a, o10b⟩ := (hv55_101 : In _ _ _); omega))) cV_X11_writesDigit wg_1880 ⟨Nat.le_of_ble_eq_true rfl, Nat.le_of_ble_eq_true rfl⟩ hG hE hA hP hD hS (hst.1 255 (by decide)) hf102 rfl rfl hl.1 (As := [.int x27]) (rest := []) rfl (Nat.le_of_ble_eq_true rfl) dX11_writesPlan_136 ⟨Nat.le_of_ble_eq_true rfl, Nat.le_of_ble_eq_true rfl⟩) hA hD hS (fun L105 f106 H locs hp107 hP hD hS => ?_)
                      obtain ⟨eL108L, eL108T, eL108F⟩ := hp107
                      have eL108L : L105 = L := eL108L
                      rw [eL108L] at hP hD
                      obtain ⟨zz109, hzz109, eL108T⟩ := eL108T
                      have hzz109 : zz109 = zz99 + 1 := hzz109
                      have hT : TI g ad (gset (gset th 38 zz99) 38 zz109) f106 := eL108T
                      have hT : TI g ad (gset th 38 zz109) f106 := TI.cast hT (by funext q; by_cases hq0 : q = 38; (subst hq0; rfl); simp only [gset, if_neg hq0])
                      have eL108F : ∀ b, b ≠ (ad 255) → b ≠ (ad 276) → f106 b = f96 b := eL108F
                      have hfr : (∀ b, b ≠ (ad 255) → b ≠ (ad 276) → f106 b = f b) := fun b z0_ z1_ => (eL108F b z0_ z1_).trans (hfr b z0_ z1_)
                      refine lv_aload_n hx hb dX11_writesPlan_139 rfl (lv_at hl 0 rfl) ?_
                      refine va_ldcSw hx hb hown (hG.2.2.1 ("RulerWordModel", 428, " round ", 18) (by decide +kernel)) dX11_writesPlan_140 ?_
                      refine M0e hT (fun v0_110 v2_110 v3_110 v4_110 v5_110 v6_110 v8_110 v9_110 v12_110 v13_110 v14_110 v15_110 v16_110 v17_110 v18_110 v19_110 v20_110 v21_110 v22_110 v23_110 v25_110 v36_110 v37_110 v38_110 v39_110 v40_110 v45_110 v46_110 v47_110 v48_110 v50_110 v51_110 v53_110 v55_110 hf111 hv0_110 hv2_110 hg2_110 hv3_110 hg3_110 hv4_110 hg4_110 hv5_110 hg5_110 hv6_110 hg6_110 hv8_110 hg8_110 hv9_110 hg9_110 hv12_110 hv13_110 hg13_110 hv14_110 hg14_110 hv15_110 hg15_110 hv17_110 hg17_110 hv20_110 hg20_110 hv23_110 hg23_110 hv25_110 hg25_110 hv36_110 hg36_110 hv47_110 hg47_110 hv48_110 hg48_110 hv53_110 hg53_110 hv55_110 hg55_110 hrel0_110 => ?_)
                      have hg15_110 : v15_110.toInt = th 11 := hg15_110
                      have hg17_110 : v17_110.toInt = th 12 := hg17_110
                      have hg20_110 : v20_110.toInt = th 14 := hg20_110
                      have hb112 : In v15_110 3 9 := ⟨by rw [hg15_110]; exact hn3, hv15_110.2⟩
                      refine call_v (run_V (rm := rm_X11_writesWord) hx hb hml hown hts (s_X11_writesWord l g ad (gset th 38 zz109) _ _ _ 18 hst hT (by decide) (show zz109 + ((lenS.getD 18 0 : Nat) : Int) ≤ 400 by have ql : (lenS.getD 18 0 : Nat) = 7 := (by decide); omega)) cV_X11_writesWord wg_1875 ⟨Nat.le_of_ble_eq_true rfl, Nat.le_of_ble_eq_true rfl⟩ hG hE hA hP hD hS (hst.1 255 (by decide)) hf111 rfl rfl hl.1 (As := [.ref (g.2.2.1 18)]) (rest := []) rfl (Nat.le_of_ble_eq_true rfl) dX11_writesPlan_143 ⟨Nat.le_of_ble_eq_true rfl, Nat.le_of_ble_eq_true rfl⟩) hA hD hS (fun L114 f115 H locs hp116 hP hD hS => ?_)
                      obtain ⟨eL117L, eL117T, eL117F⟩ := hp116
                      have eL117L : L114 = L := eL117L
                      rw [eL117L] at hP hD
                      obtain ⟨zz118, hzz118, eL117T⟩ := eL117T
                      have hgk119 : (gset th 38 zz109) 38 = zz109 := rfl
                      have hT : TI g ad (gset (gset th 38 zz109) 38 zz118) f115 := eL117T
                      have hT : TI g ad (gset th 38 zz118) f115 := TI.cast hT (by funext q; by_cases hq0 : q = 38; (subst hq0; rfl); simp only [gset, if_neg hq0])
                      have eL117F : ∀ b, b ≠ (ad 255) → b ≠ (ad 276) → f115 b = f106 b := eL117F
                      have hfr : (∀ b, b ≠ (ad 255) → b ≠ (ad 276) → f115 b = f b) := fun b z0_ z1_ => (eL117F b z0_ z1_).trans (hfr b z0_ z1_)
                      refine lv_aload_n hx hb dX11_writesPlan_146 rfl (lv_at hl 0 rfl) ?_
                      refine lv_iload hx hb dX11_writesPlan_147 (lv_at hl 5 rfl) ?_
                      refine M0e hT (fun v0_120 v2_120 v3_120 v4_120 v5_120 v6_120 v8_120 v9_120 v12_120 v13_120 v14_120 v15_120 v16_120 v17_120 v18_120 v19_120 v20_120 v21_120 v22_120 v23_120 v25_120 v36_120 v37_120 v38_120 v39_120 v40_120 v45_120 v46_120 v47_120 v48_120 v50_120 v51_120 v53_120 v55_120 hf121 hv0_120 hv2_120 hg2_120 hv3_120 hg3_120 hv4_120 hg4_120 hv5_120 hg5_120 hv6_120 hg6_120 hv8_120 hg8_120 hv9_120 hg9_120 hv12_120 hv13_120 hg13_120 hv14_120 hg14_120 hv15_120 hg15_120 hv17_120 hg17_120 hv20_120 hg20_120 hv23_120 hg23_120 hv25_120 hg25_120 hv36_120 hg36_120 hv47_120 hg47_120 hv48_120 hg48_120 hv53_120 hg53_120 hv55_120 hg55_120 hrel0_120 => ?_)
                      have hg15_120 : v15_120.toInt = th 11 := hg15_120
                      have hg17_120 : v17_120.toInt = th 12 := hg17_120
                      have hg20_120 : v20_120.toInt = th 14 := hg20_120
                      have hb122 : In v15_120 3 9 := ⟨by rw [hg15_120]; exact hn3, hv15_120.2⟩
                      refine call_v (run_V (rm := rm_X11_writesDigit) hx hb hml hown hts (s_X11_writesDigit l g ad (gset th 38 zz118) _ _ _ x35 hst hT (show zz118 < 400 from (by have ob10 : (0 : Int) ≤ (th 10) ∧ (th 10) ≤ 1 := (b0_10 hT :); have ob11 : (0 : Int) ≤ (th 11) ∧ (th 11) ≤ 9 := (b0_11 hT :); have ob12 : (0 : Int) ≤ (th 12) ∧ (th 12) ≤ 6 := (b0_12 hT :); have ob14 : (0 : Int) ≤ (th 14) ∧ (th 14) ≤ 511 := (b0_14 hT :); have ob15 : (0 : Int) ≤ (th 15) ∧ (th 15) ≤ 1 := (b0_15 hT :); have ob16 : (0 : Int) ≤ (th 16) ∧ (th 16) ≤ 20 := (b0_16 hT :); have ob17 : (0 : Int) ≤ (th 17) ∧ (th 17) ≤ 1 := (b0_17 hT :); have ob18 : (0 : Int) ≤ (th 18) ∧ (th 18) ≤ 18 := (b0_18 hT :); have ob38 : (0 : Int) ≤ zz118 ∧ zz118 ≤ 400 := (b0_38 hT :); have ob39 : (0 : Int) ≤ (th 39) ∧ (th 39) ≤ 200 := (b0_39 hT :); have ob44 : (0 : Int) ≤ (th 44) ∧ (th 44) ≤ 30 := (b0_44 hT :); have orn := rnd_b (th 10); obtain ⟨o0a, o0b⟩ := (hv14_120 : In _ _ _); obtain ⟨o1a, o1b⟩ := (hb122 : In _ _ _); obtain ⟨o2a, o2b⟩ := (hv17_120 : In _ _ _); obtain ⟨o3a, o3b⟩ := (hv20_120 : In _ _ _); obtain ⟨o4a, o4b⟩ := (hv23_120 : In _ _ _); obtain ⟨o5a, o5b⟩ := (hv25_120 : In _ _ _); obtain ⟨o6a, o6b⟩ := (hv36_120 : In _ _ _); obtain ⟨o7a, o7b⟩ := (hv47_120 : In _ _ _); obtain ⟨o8a, o8b⟩ := (hv48_120 : In _ _ _); obtain ⟨o9a, o9b⟩ := (hv53_120 : In _ _ _); obtain ⟨o10a, o10b⟩ := (hv55_120 : In _ _ _); omega))) cV_X11_writesDigit wg_1880 ⟨Nat.le_of_ble_eq_true rfl, Nat.le_of_ble_eq_true rfl⟩ hG hE hA hP hD hS (hst.1 255 (by decide)) hf121 rfl rfl hl.1 (As := [.int x35]) (rest := []) rfl (Nat.le_of_ble_eq_true rfl) dX11_writesPlan_149 ⟨Nat.le_of_ble_eq_true rfl, Nat.le_of_ble_eq_true rfl⟩) hA hD hS (fun L124 f125 H locs hp126 hP hD hS => ?_)
                      obtain ⟨eL127L, eL127T, eL127F⟩ := hp126
                      have eL127L : L124 = L := eL127L
                      rw [eL127L] at hP hD
                      obtain ⟨zz128, hzz128, eL127T⟩ := eL127T
                      have hzz128 : zz128 = zz118 + 1 := hzz128
                      have hT : TI g ad (gset (gset th 38 zz118) 38 zz128) f125 := eL127T
                      have hT : TI g ad (gset th 38 zz128) f125 := TI.cast hT (by funext q; by_cases hq0 : q = 38; (subst hq0; rfl); simp only [gset, if_neg hq0])
                      have eL127F : ∀ b, b ≠ (ad 255) → b ≠ (ad 276) → f125 b = f115 b := eL127F
                      have hfr : (∀ b, b ≠ (ad 255) → b ≠ (ad 276) → f125 b = f b) := fun b z0_ z1_ => (eL127F b z0_ z1_).trans (hfr b z0_ z1_)
                      refine lv_aload_n hx hb dX11_writesPlan_152 rfl (lv_at hl 0 rfl) ?_
                      refine va_ldcSw hx hb hown (hG.2.2.1 ("RulerWordModel", 430, " from ", 19) (by decide +kernel)) dX11_writesPlan_153 ?_
                      refine M0e hT (fun v0_129 v2_129 v3_129 v4_129 v5_129 v6_129 v8_129 v9_129 v12_129 v13_129 v14_129 v15_129 v16_129 v17_129 v18_129 v19_129 v20_129 v21_129 v22_129 v23_129 v25_129 v36_129 v37_129 v38_129 v39_129 v40_129 v45_129 v46_129 v47_129 v48_129 v50_129 v51_129 v53_129 v55_129 hf130 hv0_129 hv2_129 hg2_129 hv3_129 hg3_129 hv4_129 hg4_129 hv5_129 hg5_129 hv6_129 hg6_129 hv8_129 hg8_129 hv9_129 hg9_129 hv12_129 hv13_129 hg13_129 hv14_129 hg14_129 hv15_129 hg15_129 hv17_129 hg17_129 hv20_129 hg20_129 hv23_129 hg23_129 hv25_129 hg25_129 hv36_129 hg36_129 hv47_129 hg47_129 hv48_129 hg48_129 hv53_129 hg53_129 hv55_129 hg55_129 hrel0_129 => ?_)
                      have hg15_129 : v15_129.toInt = th 11 := hg15_129
                      have hg17_129 : v17_129.toInt = th 12 := hg17_129
                      have hg20_129 : v20_129.toInt = th 14 := hg20_129
                      have hb131 : In v15_129 3 9 := ⟨by rw [hg15_129]; exact hn3, hv15_129.2⟩
                      refine call_v (run_V (rm := rm_X11_writesWord) hx hb hml hown hts (s_X11_writesWord l g ad (gset th 38 zz128) _ _ _ 19 hst hT (by decide) (show zz128 + ((lenS.getD 19 0 : Nat) : Int) ≤ 400 by have ql : (lenS.getD 19 0 : Nat) = 6 := (by decide); omega)) cV_X11_writesWord wg_1875 ⟨Nat.le_of_ble_eq_true rfl, Nat.le_of_ble_eq_true rfl⟩ hG hE hA hP hD hS (hst.1 255 (by decide)) hf130 rfl rfl hl.1 (As := [.ref (g.2.2.1 19)]) (rest := []) rfl (Nat.le_of_ble_eq_true rfl) dX11_writesPlan_156 ⟨Nat.le_of_ble_eq_true rfl, Nat.le_of_ble_eq_true rfl⟩) hA hD hS (fun L133 f134 H locs hp135 hP hD hS => ?_)
                      obtain ⟨eL136L, eL136T, eL136F⟩ := hp135
                      have eL136L : L133 = L := eL136L
                      rw [eL136L] at hP hD
                      obtain ⟨zz137, hzz137, eL136T⟩ := eL136T
                      have hgk138 : (gset th 38 zz128) 38 = zz128 := rfl
                      have hT : TI g ad (gset (gset th 38 zz128) 38 zz137) f134 := eL136T
                      have hT : TI g ad (gset th 38 zz137) f134 := TI.cast hT (by funext q; by_cases hq0 : q = 38; (subst hq0; rfl); simp only [gset, if_neg hq0])
                      have eL136F : ∀ b, b ≠ (ad 255) → b ≠ (ad 276) → f134 b = f125 b := eL136F
                      have hfr : (∀ b, b ≠ (ad 255) → b ≠ (ad 276) → f134 b = f b) := fun b z0_ z1_ => (eL136F b z0_ z1_).trans (hfr b z0_ z1_)
                      refine lv_aload_n hx hb dX11_writesPlan_159 rfl (lv_at hl 0 rfl) ?_
                      refine lv_iload hx hb dX11_writesPlan_160 (lv_at hl 7 rfl) ?_
                      refine M0e hT (fun v0_139 v2_139 v3_139 v4_139 v5_139 v6_139 v8_139 v9_139 v12_139 v13_139 v14_139 v15_139 v16_139 v17_139 v18_139 v19_139 v20_139 v21_139 v22_139 v23_139 v25_139 v36_139 v37_139 v38_139 v39_139 v40_139 v45_139 v46_139 v47_139 v48_139 v50_139 v51_139 v53_139 v55_139 hf140 hv0_139 hv2_139 hg2_139 hv3_139 hg3_139 hv4_139 hg4_139 hv5_139 hg5_139 hv6_139 hg6_139 hv8_139 hg8_139 hv9_139 hg9_139 hv12_139 hv13_139 hg13_139 hv14_139 hg14_139 hv15_139 hg15_139 hv17_139 hg17_139 hv20_139 hg20_139 hv23_139 hg23_139 hv25_139 hg25_139 hv36_139 hg36_139 hv47_139 hg47_139 hv48_139 hg48_139 hv53_139 hg53_139 hv55_139 hg55_139 hrel0_139 => ?_)
                      have hg15_139 : v15_139.toInt = th 11 := hg15_139
                      have hg17_139 : v17_139.toInt = th 12 := hg17_139
                      have hg20_139 : v20_139.toInt = th 14 := hg20_139
                      have hb141 : In v15_139 3 9 := ⟨by rw [hg15_139]; exact hn3, hv15_139.2⟩
                      refine call_v (run_V (rm := rm_X11_writesDigit) hx hb hml hown hts (s_X11_writesDigit l g ad (gset th 38 zz137) _ _ _ x51 hst hT (show zz137 < 400 from (by have ob10 : (0 : Int) ≤ (th 10) ∧ (th 10) ≤ 1 := (b0_10 hT :); have ob11 : (0 : Int) ≤ (th 11) ∧ (th 11) ≤ 9 := (b0_11 hT :); have ob12 : (0 : Int) ≤ (th 12) ∧ (th 12) ≤ 6 := (b0_12 hT :); have ob14 : (0 : Int) ≤ (th 14) ∧ (th 14) ≤ 511 := (b0_14 hT :); have ob15 : (0 : Int) ≤ (th 15) ∧ (th 15) ≤ 1 := (b0_15 hT :); have ob16 : (0 : Int) ≤ (th 16) ∧ (th 16) ≤ 20 := (b0_16 hT :); have ob17 : (0 : Int) ≤ (th 17) ∧ (th 17) ≤ 1 := (b0_17 hT :); have ob18 : (0 : Int) ≤ (th 18) ∧ (th 18) ≤ 18 := (b0_18 hT :); have ob38 : (0 : Int) ≤ zz137 ∧ zz137 ≤ 400 := (b0_38 hT :); have ob39 : (0 : Int) ≤ (th 39) ∧ (th 39) ≤ 200 := (b0_39 hT :); have ob44 : (0 : Int) ≤ (th 44) ∧ (th 44) ≤ 30 := (b0_44 hT :); have orn := rnd_b (th 10); obtain ⟨o0a, o0b⟩ := (hv14_139 : In _ _ _); obtain ⟨o1a, o1b⟩ := (hb141 : In _ _ _); obtain ⟨o2a, o2b⟩ := (hv17_139 : In _ _ _); obtain ⟨o3a, o3b⟩ := (hv20_139 : In _ _ _); obtain ⟨o4a, o4b⟩ := (hv23_139 : In _ _ _); obtain ⟨o5a, o5b⟩ := (hv25_139 : In _ _ _); obtain ⟨o6a, o6b⟩ := (hv36_139 : In _ _ _); obtain ⟨o7a, o7b⟩ := (hv47_139 : In _ _ _); obtain ⟨o8a, o8b⟩ := (hv48_139 : In _ _ _); obtain ⟨o9a, o9b⟩ := (hv53_139 : In _ _ _); obtain ⟨o10a, o10b⟩ := (hv55_139 : In _ _ _); omega))) cV_X11_writesDigit wg_1880 ⟨Nat.le_of_ble_eq_true rfl, Nat.le_of_ble_eq_true rfl⟩ hG hE hA hP hD hS (hst.1 255 (by decide)) hf140 rfl rfl hl.1 (As := [.int x51]) (rest := []) rfl (Nat.le_of_ble_eq_true rfl) dX11_writesPlan_162 ⟨Nat.le_of_ble_eq_true rfl, Nat.le_of_ble_eq_true rfl⟩) hA hD hS (fun L143 f144 H locs hp145 hP hD hS => ?_)
                      obtain ⟨eL146L, eL146T, eL146F⟩ := hp145
                      have eL146L : L143 = L := eL146L
                      rw [eL146L] at hP hD
                      obtain ⟨zz147, hzz147, eL146T⟩ := eL146T
                      have hzz147 : zz147 = zz137 + 1 := hzz147
                      have hT : TI g ad (gset (gset th 38 zz137) 38 zz147) f144 := eL146T
                      have hT : TI g ad (gset th 38 zz147) f144 := TI.cast hT (by funext q; by_cases hq0 : q = 38; (subst hq0; rfl); simp only [gset, if_neg hq0])
                      have eL146F : ∀ b, b ≠ (ad 255) → b ≠ (ad 276) → f144 b = f134 b := eL146F
                      have hfr : (∀ b, b ≠ (ad 255) → b ≠ (ad 276) → f144 b = f b) := fun b z0_ z1_ => (eL146F b z0_ z1_).trans (hfr b z0_ z1_)
                      refine lv_aload_n hx hb dX11_writesPlan_165 rfl (lv_at hl 0 rfl) ?_
                      refine va_ldcSw hx hb hown (hG.2.2.1 ("RulerWordModel", 432, " to ", 20) (by decide +kernel)) dX11_writesPlan_166 ?_
                      refine M0e hT (fun v0_148 v2_148 v3_148 v4_148 v5_148 v6_148 v8_148 v9_148 v12_148 v13_148 v14_148 v15_148 v16_148 v17_148 v18_148 v19_148 v20_148 v21_148 v22_148 v23_148 v25_148 v36_148 v37_148 v38_148 v39_148 v40_148 v45_148 v46_148 v47_148 v48_148 v50_148 v51_148 v53_148 v55_148 hf149 hv0_148 hv2_148 hg2_148 hv3_148 hg3_148 hv4_148 hg4_148 hv5_148 hg5_148 hv6_148 hg6_148 hv8_148 hg8_148 hv9_148 hg9_148 hv12_148 hv13_148 hg13_148 hv14_148 hg14_148 hv15_148 hg15_148 hv17_148 hg17_148 hv20_148 hg20_148 hv23_148 hg23_148 hv25_148 hg25_148 hv36_148 hg36_148 hv47_148 hg47_148 hv48_148 hg48_148 hv53_148 hg53_148 hv55_148 hg55_148 hrel0_148 => ?_)
                      have hg15_148 : v15_148.toInt = th 11 := hg15_148
                      have hg17_148 : v17_148.toInt = th 12 := hg17_148
                      have hg20_148 : v20_148.toInt = th 14 := hg20_148
                      have hb150 : In v15_148 3 9 := ⟨by rw [hg15_148]; exact hn3, hv15_148.2⟩
                      refine call_v (run_V (rm := rm_X11_writesWord) hx hb hml hown hts (s_X11_writesWord l g ad (gset th 38 zz147) _ _ _ 20 hst hT (by decide) (show zz147 + ((lenS.getD 20 0 : Nat) : Int) ≤ 400 by have ql : (lenS.getD 20 0 : Nat) = 4 := (by decide); omega)) cV_X11_writesWord wg_1875 ⟨Nat.le_of_ble_eq_true rfl, Nat.le_of_ble_eq_true rfl⟩ hG hE hA hP hD hS (hst.1 255 (by decide)) hf149 rfl rfl hl.1 (As := [.ref (g.2.2.1 20)]) (rest := []) rfl (Nat.le_of_ble_eq_true rfl) dX11_writesPlan_169 ⟨Nat.le_of_ble_eq_true rfl, Nat.le_of_ble_eq_true rfl⟩) hA hD hS (fun L152 f153 H locs hp154 hP hD hS => ?_)
                      obtain ⟨eL155L, eL155T, eL155F⟩ := hp154
                      have eL155L : L152 = L := eL155L
                      rw [eL155L] at hP hD
                      obtain ⟨zz156, hzz156, eL155T⟩ := eL155T
                      have hgk157 : (gset th 38 zz147) 38 = zz147 := rfl
                      have hT : TI g ad (gset (gset th 38 zz147) 38 zz156) f153 := eL155T
                      have hT : TI g ad (gset th 38 zz156) f153 := TI.cast hT (by funext q; by_cases hq0 : q = 38; (subst hq0; rfl); simp only [gset, if_neg hq0])
                      have eL155F : ∀ b, b ≠ (ad 255) → b ≠ (ad 276) → f153 b = f144 b := eL155F
                      have hfr : (∀ b, b ≠ (ad 255) → b ≠ (ad 276) → f153 b = f b) := fun b z0_ z1_ => (eL155F b z0_ z1_).trans (hfr b z0_ z1_)
                      refine lv_aload_n hx hb dX11_writesPlan_172 rfl (lv_at hl 0 rfl) ?_
                      refine lv_iload hx hb dX11_writesPlan_173 (lv_at hl 8 rfl) ?_
                      refine M0e hT (fun v0_158 v2_158 v3_158 v4_158 v5_158 v6_158 v8_158 v9_158 v12_158 v13_158 v14_158 v15_158 v16_158 v17_158 v18_158 v19_158 v20_158 v21_158 v22_158 v23_158 v25_158 v36_158 v37_158 v38_158 v39_158 v40_158 v45_158 v46_158 v47_158 v48_158 v50_158 v51_158 v53_158 v55_158 hf159 hv0_158 hv2_158 hg2_158 hv3_158 hg3_158 hv4_158 hg4_158 hv5_158 hg5_158 hv6_158 hg6_158 hv8_158 hg8_158 hv9_158 hg9_158 hv12_158 hv13_158 hg13_158 hv14_158 hg14_158 hv15_158 hg15_158 hv17_158 hg17_158 hv20_158 hg20_158 hv23_158 hg23_158 hv25_158 hg25_158 hv36_158 hg36_158 hv47_158 hg47_158 hv48_158 hg48_158 hv53_158 hg53_158 hv55_158 hg55_158 hrel0_158 => ?_)
                      have hg15_158 : v15_158.toInt = th 11 := hg15_158
                      have hg17_158 : v17_158.toInt = th 12 := hg17_158
                      have hg20_158 : v20_158.toInt = th 14 := hg20_158
                      have hb160 : In v15_158 3 9 := ⟨by rw [hg15_158]; exact hn3, hv15_158.2⟩
                      refine call_v (run_V (rm := rm_X11_writesDigit) hx hb hml hown hts (s_X11_writesDigit l g ad (gset th 38 zz156) _ _ _ x53 hst hT (show zz156 < 400 from (by have ob10 : (0 : Int) ≤ (th 10) ∧ (th 10) ≤ 1 := (b0_10 hT :); have ob11 : (0 : Int) ≤ (th 11) ∧ (th 11) ≤ 9 := (b0_11 hT :); have ob12 : (0 : Int) ≤ (th 12) ∧ (th 12) ≤ 6 := (b0_12 hT :); have ob14 : (0 : Int) ≤ (th 14) ∧ (th 14) ≤ 511 := (b0_14 hT :); have ob15 : (0 : Int) ≤ (th 15) ∧ (th 15) ≤ 1 := (b0_15 hT :); have ob16 : (0 : Int) ≤ (th 16) ∧ (th 16) ≤ 20 := (b0_16 hT :); have ob17 : (0 : Int) ≤ (th 17) ∧ (th 17) ≤ 1 := (b0_17 hT :); have ob18 : (0 : Int) ≤ (th 18) ∧ (th 18) ≤ 18 := (b0_18 hT :); have ob38 : (0 : Int) ≤ zz156 ∧ zz156 ≤ 400 := (b0_38 hT :); have ob39 : (0 : Int) ≤ (th 39) ∧ (th 39) ≤ 200 := (b0_39 hT :); have ob44 : (0 : Int) ≤ (th 44) ∧ (th 44) ≤ 30 := (b0_44 hT :); have orn := rnd_b (th 10); obtain ⟨o0a, o0b⟩ := (hv14_158 : In _ _ _); obtain ⟨o1a, o1b⟩ := (hb160 : In _ _ _); obtain ⟨o2a, o2b⟩ := (hv17_158 : In _ _ _); obtain ⟨o3a, o3b⟩ := (hv20_158 : In _ _ _); obtain ⟨o4a, o4b⟩ := (hv23_158 : In _ _ _); obtain ⟨o5a, o5b⟩ := (hv25_158 : In _ _ _); obtain ⟨o6a, o6b⟩ := (hv36_158 : In _ _ _); obtain ⟨o7a, o7b⟩ := (hv47_158 : In _ _ _); obtain ⟨o8a, o8b⟩ := (hv48_158 : In _ _ _); obtain ⟨o9a, o9b⟩ := (hv53_158 : In _ _ _); obtain ⟨o10a, o10b⟩ := (hv55_158 : In _ _ _); omega))) cV_X11_writesDigit wg_1880 ⟨Nat.le_of_ble_eq_true rfl, Nat.le_of_ble_eq_true rfl⟩ hG hE hA hP hD hS (hst.1 255 (by decide)) hf159 rfl rfl hl.1 (As := [.int x53]) (rest := []) rfl (Nat.le_of_ble_eq_true rfl) dX11_writesPlan_175 ⟨Nat.le_of_ble_eq_true rfl, Nat.le_of_ble_eq_true rfl⟩) hA hD hS (fun L162 f163 H locs hp164 hP hD hS => ?_)
                      obtain ⟨eL165L, eL165T, eL165F⟩ := hp164
                      have eL165L : L162 = L := eL165L
                      rw [eL165L] at hP hD
                      obtain ⟨zz166, hzz166, eL165T⟩ := eL165T
                      have hzz166 : zz166 = zz156 + 1 := hzz166
                      have hT : TI g ad (gset (gset th 38 zz156) 38 zz166) f163 := eL165T
                      have hT : TI g ad (gset th 38 zz166) f163 := TI.cast hT (by funext q; by_cases hq0 : q = 38; (subst hq0; rfl); simp only [gset, if_neg hq0])
                      have eL165F : ∀ b, b ≠ (ad 255) → b ≠ (ad 276) → f163 b = f153 b := eL165F
                      have hfr : (∀ b, b ≠ (ad 255) → b ≠ (ad 276) → f163 b = f b) := fun b z0_ z1_ => (eL165F b z0_ z1_).trans (hfr b z0_ z1_)
                      refine lv_aload_n hx hb dX11_writesPlan_178 rfl (lv_at hl 0 rfl) ?_
                      refine va_ldcSw hx hb hown (hG.2.2.1 ("RulerWordModel", 434, " ", 21) (by decide +kernel)) dX11_writesPlan_179 ?_
                      refine M0e hT (fun v0_167 v2_167 v3_167 v4_167 v5_167 v6_167 v8_167 v9_167 v12_167 v13_167 v14_167 v15_167 v16_167 v17_167 v18_167 v19_167 v20_167 v21_167 v22_167 v23_167 v25_167 v36_167 v37_167 v38_167 v39_167 v40_167 v45_167 v46_167 v47_167 v48_167 v50_167 v51_167 v53_167 v55_167 hf168 hv0_167 hv2_167 hg2_167 hv3_167 hg3_167 hv4_167 hg4_167 hv5_167 hg5_167 hv6_167 hg6_167 hv8_167 hg8_167 hv9_167 hg9_167 hv12_167 hv13_167 hg13_167 hv14_167 hg14_167 hv15_167 hg15_167 hv17_167 hg17_167 hv20_167 hg20_167 hv23_167 hg23_167 hv25_167 hg25_167 hv36_167 hg36_167 hv47_167 hg47_167 hv48_167 hg48_167 hv53_167 hg53_167 hv55_167 hg55_167 hrel0_167 => ?_)
                      have hg15_167 : v15_167.toInt = th 11 := hg15_167
                      have hg17_167 : v17_167.toInt = th 12 := hg17_167
                      have hg20_167 : v20_167.toInt = th 14 := hg20_167
                      have hb169 : In v15_167 3 9 := ⟨by rw [hg15_167]; exact hn3, hv15_167.2⟩
                      refine call_v (run_V (rm := rm_X11_writesWord) hx hb hml hown hts (s_X11_writesWord l g ad (gset th 38 zz166) _ _ _ 21 hst hT (by decide) (show zz166 + ((lenS.getD 21 0 : Nat) : Int) ≤ 400 by have ql : (lenS.getD 21 0 : Nat) = 1 := (by decide); omega)) cV_X11_writesWord wg_1875 ⟨Nat.le_of_ble_eq_true rfl, Nat.le_of_ble_eq_true rfl⟩ hG hE hA hP hD hS (hst.1 255 (by decide)) hf168 rfl rfl hl.1 (As := [.ref (g.2.2.1 21)]) (rest := []) rfl (Nat.le_of_ble_eq_true rfl) dX11_writesPlan_182 ⟨Nat.le_of_ble_eq_true rfl, Nat.le_of_ble_eq_true rfl⟩) hA hD hS (fun L171 f172 H locs hp173 hP hD hS => ?_)
                      obtain ⟨eL174L, eL174T, eL174F⟩ := hp173
                      have eL174L : L171 = L := eL174L
                      rw [eL174L] at hP hD
                      obtain ⟨zz175, hzz175, eL174T⟩ := eL174T
                      have hgk176 : (gset th 38 zz166) 38 = zz166 := rfl
                      have hT : TI g ad (gset (gset th 38 zz166) 38 zz175) f172 := eL174T
                      have hT : TI g ad (gset th 38 zz175) f172 := TI.cast hT (by funext q; by_cases hq0 : q = 38; (subst hq0; rfl); simp only [gset, if_neg hq0])
                      have eL174F : ∀ b, b ≠ (ad 255) → b ≠ (ad 276) → f172 b = f163 b := eL174F
                      have hfr : (∀ b, b ≠ (ad 255) → b ≠ (ad 276) → f172 b = f b) := fun b z0_ z1_ => (eL174F b z0_ z1_).trans (hfr b z0_ z1_)
                      refine lv_aload_n hx hb dX11_writesPlan_185 rfl (lv_at hl 0 rfl) ?_
                      refine lv_iload_n hx hb dX11_writesPlan_186 rfl (lv_at hl 2 rfl) ?_
                      refine lv_iconst (v := 1) hx hb dX11_writesPlan_187 (by decide) ?_
                      refine lv_iand hx hb dX11_writesPlan_188 ?_
                      refine lv_topi (fun x177 ex177 => ?_)
                      have hb178 : In x177 0 1 := ex177 ▸ In.andr (⟨by decide, by decide⟩ : In 1 1 1) (by decide)
                      refine M0e hT (fun v0_179 v2_179 v3_179 v4_179 v5_179 v6_179 v8_179 v9_179 v12_179 v13_179 v14_179 v15_179 v16_179 v17_179 v18_179 v19_179 v20_179 v21_179 v22_179 v23_179 v25_179 v36_179 v37_179 v38_179 v39_179 v40_179 v45_179 v46_179 v47_179 v48_179 v50_179 v51_179 v53_179 v55_179 hf180 hv0_179 hv2_179 hg2_179 hv3_179 hg3_179 hv4_179 hg4_179 hv5_179 hg5_179 hv6_179 hg6_179 hv8_179 hg8_179 hv9_179 hg9_179 hv12_179 hv13_179 hg13_179 hv14_179 hg14_179 hv15_179 hg15_179 hv17_179 hg17_179 hv20_179 hg20_179 hv23_179 hg23_179 hv25_179 hg25_179 hv36_179 hg36_179 hv47_179 hg47_179 hv48_179 hg48_179 hv53_179 hg53_179 hv55_179 hg55_179 hrel0_179 => ?_)
                      have hg15_179 : v15_179.toInt = th 11 := hg15_179
                      have hg17_179 : v17_179.toInt = th 12 := hg17_179
                      have hg20_179 : v20_179.toInt = th 14 := hg20_179
                      have hb181 : In v15_179 3 9 := ⟨by rw [hg15_179]; exact hn3, hv15_179.2⟩
                      refine call_v (run_V (rm := rm_X11_writesDigit) hx hb hml hown hts (s_X11_writesDigit l g ad (gset th 38 zz175) _ _ _ x177 hst hT (show zz175 < 400 from (by have ob10 : (0 : Int) ≤ (th 10) ∧ (th 10) ≤ 1 := (b0_10 hT :); have ob11 : (0 : Int) ≤ (th 11) ∧ (th 11) ≤ 9 := (b0_11 hT :); have ob12 : (0 : Int) ≤ (th 12) ∧ (th 12) ≤ 6 := (b0_12 hT :); have ob14 : (0 : Int) ≤ (th 14) ∧ (th 14) ≤ 511 := (b0_14 hT :); have ob15 : (0 : Int) ≤ (th 15) ∧ (th 15) ≤ 1 := (b0_15 hT :); have ob16 : (0 : Int) ≤ (th 16) ∧ (th 16) ≤ 20 := (b0_16 hT :); have ob17 : (0 : Int) ≤ (th 17) ∧ (th 17) ≤ 1 := (b0_17 hT :); have ob18 : (0 : Int) ≤ (th 18) ∧ (th 18) ≤ 18 := (b0_18 hT :); have ob38 : (0 : Int) ≤ zz175 ∧ zz175 ≤ 400 := (b0_38 hT :); have ob39 : (0 : Int) ≤ (th 39) ∧ (th 39) ≤ 200 := (b0_39 hT :); have ob44 : (0 : Int) ≤ (th 44) ∧ (th 44) ≤ 30 := (b0_44 hT :); have orn := rnd_b (th 10); obtain ⟨o0a, o0b⟩ := (hv14_179 : In _ _ _); obtain ⟨o1a, o1b⟩ := (hb181 : In _ _ _); obtain ⟨o2a, o2b⟩ := (hv17_179 : In _ _ _); obtain ⟨o3a, o3b⟩ := (hv20_179 : In _ _ _); obtain ⟨o4a, o4b⟩ := (hv23_179 : In _ _ _); obtain ⟨o5a, o5b⟩ := (hv25_179 : In _ _ _); obtain ⟨o6a, o6b⟩ := (hv36_179 : In _ _ _); obtain ⟨o7a, o7b⟩ := (hv47_179 : In _ _ _); obtain ⟨o8a, o8b⟩ := (hv48_179 : In _ _ _); obtain ⟨o9a, o9b⟩ := (hv53_179 : In _ _ _); obtain ⟨o10a, o10b⟩ := (hv55_179 : In _ _ _); omega))) cV_X11_writesDigit wg_1880 ⟨Nat.le_of_ble_eq_true rfl, Nat.le_of_ble_eq_true rfl⟩ hG hE hA hP hD hS (hst.1 255 (by decide)) hf180 rfl rfl hl.1 (As := [.int x177]) (rest := []) rfl (Nat.le_of_ble_eq_true rfl) dX11_writesPlan_189 ⟨Nat.le_of_ble_eq_true rfl, Nat.le_of_ble_eq_true rfl⟩) hA hD hS (fun L183 f184 H locs hp185 hP hD hS => ?_)
                      obtain ⟨eL186L, eL186T, eL186F⟩ := hp185
                      have eL186L : L183 = L := eL186L
                      rw [eL186L] at hP hD
                      obtain ⟨zz187, hzz187, eL186T⟩ := eL186T
                      have hzz187 : zz187 = zz175 + 1 := hzz187
                      have hT : TI g ad (gset (gset th 38 zz175) 38 zz187) f184 := eL186T
                      have hT : TI g ad (gset th 38 zz187) f184 := TI.cast hT (by funext q; by_cases hq0 : q = 38; (subst hq0; rfl); simp only [gset, if_neg hq0])
                      have eL186F : ∀ b, b ≠ (ad 255) → b ≠ (ad 276) → f184 b = f172 b := eL186F
                      have hfr : (∀ b, b ≠ (ad 255) → b ≠ (ad 276) → f184 b = f b) := fun b z0_ z1_ => (eL186F b z0_ z1_).trans (hfr b z0_ z1_)
                      refine lv_iload_n hx hb dX11_writesPlan_192 rfl (lv_at hl 2 rfl) ?_
                      refine lv_iconst (v := 1) hx hb dX11_writesPlan_193 (by decide) ?_
                      refine lv_ishr hx hb dX11_writesPlan_194 ?_
                      refine lv_topi (fun x188 ex188 => ?_)
                      refine lv_istore_n (lv' := [(2, .int x188), (0, .ref (ad 255)), (1, .int z1), (3, .int y9_l3), (4, .int x27), (5, .int x35), (6, .int y36_l6), (7, .int x51), (8, .int x53)]) hx hb dX11_writesPlan_195 rfl hl (by decide) rfl (fun ls hl => ?_)
                      exact hJ196 zz187 x188 _ _ _ _ (by have hii := hK_i hpr; omega) (In.full x188) hP hD hS (TI.cast hT (by funext q; by_cases hq0 : q = 38; (subst hq0; rfl); simp only [gset, if_neg hq0])) hfr (lv_sub hl [1, 2, 0, 3, 4, 5, 6, 7, 8] rfl)
                    refine lv_if_le (tgt := 126) hx hb dX11_writesPlan_116 (by decide) (fun c189 => ?_) (fun c189 => ?_)
                    ·
                      have oc0 : (0 : Int32).toInt = 0 := by decide
                      have cc190 : v53_37.toInt ≤ (0 : Int32).toInt := i32_le.mp c189
                      have hb191 : In v53_37 0 0 := In.le1 hv53_37 (⟨by decide, by decide⟩ : In 0 0 0) cc190 (by decide) (by decide)
                      exact hJ126 zg36_zw _ _ _ _ (by omega) hP hD hS (TI.cast hT (by funext q; by_cases hq0 : q = 38; (subst hq0; rfl); simp only [gset, if_neg hq0])) hfr (lv_sub hl [2, 3, 4, 5, 6, 7, 8, 1, 0] rfl)
                    ·
                      have oc0 : (0 : Int32).toInt = 0 := by decide
                      have cc192 : (0 : Int32).toInt < v53_37.toInt := i32_nle c189
                      have hb193 : In v53_37 1 400 := In.gt1 hv53_37 (⟨by decide, by decide⟩ : In 0 0 0) cc192 (by decide) (by decide)
                      refine lv_aload_n hx hb dX11_writesPlan_119 rfl (lv_at hl 2 rfl) ?_
                      refine va_ldcSw hx hb hown (hG.2.2.1 ("RulerWordModel", 417, ";", 30) (by decide +kernel)) dX11_writesPlan_120 ?_
                      refine call_v (run_V (rm := rm_X11_writesWord) hx hb hml hown hts (s_X11_writesWord l g ad (gset th 38 zg36_zw) _ _ _ 30 hst hT (by decide) (show zg36_zw + ((lenS.getD 30 0 : Nat) : Int) ≤ 400 by have ql : (lenS.getD 30 0 : Nat) = 1 := (by decide); omega)) cV_X11_writesWord wg_1875 ⟨Nat.le_of_ble_eq_true rfl, Nat.le_of_ble_eq_true rfl⟩ hG hE hA hP hD hS (hst.1 255 (by decide)) hf38 rfl rfl hl.1 (As := [.ref (g.2.2.1 30)]) (rest := []) rfl (Nat.le_of_ble_eq_true rfl) dX11_writesPlan_123 ⟨Nat.le_of_ble_eq_true rfl, Nat.le_of_ble_eq_true rfl⟩) hA hD hS (fun L195 f196 H locs hp197 hP hD hS => ?_)
                      obtain ⟨eL198L, eL198T, eL198F⟩ := hp197
                      have eL198L : L195 = L := eL198L
                      rw [eL198L] at hP hD
                      obtain ⟨zz199, hzz199, eL198T⟩ := eL198T
                      have hgk200 : (gset th 38 zg36_zw) 38 = zg36_zw := rfl
                      have hT : TI g ad (gset (gset th 38 zg36_zw) 38 zz199) f196 := eL198T
                      have hT : TI g ad (gset th 38 zz199) f196 := TI.cast hT (by funext q; by_cases hq0 : q = 38; (subst hq0; rfl); simp only [gset, if_neg hq0])
                      have eL198F : ∀ b, b ≠ (ad 255) → b ≠ (ad 276) → f196 b = f_36 b := eL198F
                      have hfr : (∀ b, b ≠ (ad 255) → b ≠ (ad 276) → f196 b = f b) := fun b z0_ z1_ => (eL198F b z0_ z1_).trans (hfr b z0_ z1_)
                      exact hJ126 zz199 _ _ _ _ (by omega) hP hD hS (TI.cast hT (by funext q; by_cases hq0 : q = 38; (subst hq0; rfl); simp only [gset, if_neg hq0])) hfr (lv_sub hl [2, 3, 4, 5, 6, 7, 8, 1, 0] rfl)
                  ·
                    have cc201 : x35.toInt = x86.toInt := congrArg Int32.toInt c89
                    have hb202 : In x35 1 2 := In.eq1 hb36 hb87 cc201 (by decide) (by decide)
                    refine lv_iload hx hb dX11_writesPlan_97 (lv_at hl 1 rfl) ?_
                    refine lv_iload hx hb dX11_writesPlan_99 (lv_at hl 6 rfl) ?_
                    refine lv_aload_n hx hb dX11_writesPlan_101 rfl (lv_at hl 2 rfl) ?_
                    refine pl_get (v := .int v15_37) hx hb hts (fun w h => mT (inX11 w h)) hown hG.1 hP (hst.1 255 (by decide)) hf38 rfl 15 (by decide) (hts _ (mT wg_1351)) (fun _ h => h) rfl dX11_writesPlan_102 ?_
                    refine lv_irem hx hb dX11_writesPlan_105 (In.ne0 hb39 (by decide)) ?_
                    refine lv_topi (fun x203 ex203 => ?_)
                    have hb204 : In x203 0 8 := ex203 ▸ In.rem hb28 hb39 (by decide) (by decide) (by decide)
                    refine lv_icmp_eq (tgt := 112) hx hb dX11_writesPlan_106 (by decide) (fun c205 => ?_) (fun c205 => ?_)
                    ·
                      have cc206 : x51.toInt = x203.toInt := congrArg Int32.toInt c205
                      have hb207 : In x51 0 8 := In.eq1 hb52 hb204 cc206 (by decide) (by decide)
                      have hfr0 : x51.toInt = y36_l6.toInt / th 11 := by rw [ex51, i32_divT (Int.le_trans (by decide) hb50.1) (by omega), hg15_37]
                      have hto0 : x53.toInt = y36_l6.toInt % th 11 := rem_e (n := th 11) ex53 hg15_37 (by omega) (Int.le_trans (by decide) hb50.1)
                      have hrc := rnd_c (th 10)
                      have hph0 : x27.toInt = y9_l3.toInt / rnd (th 10) := by rw [ex27, i32_divT (Int.le_trans (by decide) hb19.1) (by omega), hrn26]
                      have hrd0 : x35.toInt = y9_l3.toInt % rnd (th 10) := rem_e (n := rnd (th 10)) ex35 hrn34 (by omega) (Int.le_trans (by decide) hb19.1)
                      have hkn : (((y9_l3.toInt).toNat : Nat) : Int) = y9_l3.toInt := by have : 0 ≤ y9_l3.toInt := (Int.le_trans (by decide) hb19.1); omega
                      have hcn : (((y36_l6.toInt).toNat : Nat) : Int) = y36_l6.toInt := by have : 0 ≤ y36_l6.toInt := (Int.le_trans (by decide) hb50.1); omega
                      have hpr : prB (rnd (th 10)) (th 11) (th 14) (((y9_l3.toInt).toNat : Nat) : Int) (((y36_l6.toInt).toNat : Nat) : Int) = true := prb_of (by rw [hcn, ← hfr0]; have := hrc; have ob10 : (0 : Int) ≤ (th 10) ∧ (th 10) ≤ 1 := (b0_10 hT :); have ob11 : (0 : Int) ≤ (th 11) ∧ (th 11) ≤ 9 := (b0_11 hT :); have ob12 : (0 : Int) ≤ (th 12) ∧ (th 12) ≤ 6 := (b0_12 hT :); have ob14 : (0 : Int) ≤ (th 14) ∧ (th 14) ≤ 511 := (b0_14 hT :); have ob15 : (0 : Int) ≤ (th 15) ∧ (th 15) ≤ 1 := (b0_15 hT :); have ob16 : (0 : Int) ≤ (th 16) ∧ (th 16) ≤ 20 := (b0_16 hT :); have ob17 : (0 : Int) ≤ (th 17) ∧ (th 17) ≤ 1 := (b0_17 hT :); have ob18 : (0 : Int) ≤ (th 18) ∧ (th 18) ≤ 18 := (b0_18 hT :); have ob38 : (0 : Int) ≤ zg36_zw ∧ zg36_zw ≤ 400 := (b0_38 hT :); have ob39 : (0 : Int) ≤ (th 39) ∧ (th 39) ≤ 200 := (b0_39 hT :); have ob44 : (0 : Int) ≤ (th 44) ∧ (th 44) ≤ 30 := (b0_44 hT :); have orn := rnd_b (th 10); obtain ⟨o0a, o0b⟩ := (hb68 : In _ _ _); obtain ⟨o1a, o1b⟩ := (hv14_37 : In _ _ _); obtain ⟨o2a, o2b⟩ := (hb39 : In _ _ _); obtain ⟨o3a, o3b⟩ := (hv17_37 : In _ _ _); obtain ⟨o4a, o4b⟩ := (hv20_37 : In _ _ _); obtain ⟨o5a, o5b⟩ := (hv23_37 : In _ _ _); obtain ⟨o6a, o6b⟩ := (hv25_37 : In _ _ _); obtain ⟨o7a, o7b⟩ := (hv36_37 : In _ _ _); obtain ⟨o8a, o8b⟩ := (hv47_37 : In _ _ _); obtain ⟨o9a, o9b⟩ := (hv48_37 : In _ _ _); obtain ⟨o10a, o10b⟩ := (hv53_37 : In _ _ _); obtain ⟨o11a, o11b⟩ := (hv55_37 : In _ _ _); omega) (by rw [hcn, ← hto0]; have ob10 : (0 : Int) ≤ (th 10) ∧ (th 10) ≤ 1 := (b0_10 hT :); have ob11 : (0 : Int) ≤ (th 11) ∧ (th 11) ≤ 9 := (b0_11 hT :); have ob12 : (0 : Int) ≤ (th 12) ∧ (th 12) ≤ 6 := (b0_12 hT :); have ob14 : (0 : Int) ≤ (th 14) ∧ (th 14) ≤ 511 := (b0_14 hT :); have ob15 : (0 : Int) ≤ (th 15) ∧ (th 15) ≤ 1 := (b0_15 hT :); have ob16 : (0 : Int) ≤ (th 16) ∧ (th 16) ≤ 20 := (b0_16 hT :); have ob17 : (0 : Int) ≤ (th 17) ∧ (th 17) ≤ 1 := (b0_17 hT :); have ob18 : (0 : Int) ≤ (th 18) ∧ (th 18) ≤ 18 := (b0_18 hT :); have ob38 : (0 : Int) ≤ zg36_zw ∧ zg36_zw ≤ 400 := (b0_38 hT :); have ob39 : (0 : Int) ≤ (th 39) ∧ (th 39) ≤ 200 := (b0_39 hT :); have ob44 : (0 : Int) ≤ (th 44) ∧ (th 44) ≤ 30 := (b0_44 hT :); have orn := rnd_b (th 10); obtain ⟨o0a, o0b⟩ := (hb79 : In _ _ _); obtain ⟨o1a, o1b⟩ := (hv14_37 : In _ _ _); obtain ⟨o2a, o2b⟩ := (hb39 : In _ _ _); obtain ⟨o3a, o3b⟩ := (hv17_37 : In _ _ _); obtain ⟨o4a, o4b⟩ := (hv20_37 : In _ _ _); obtain ⟨o5a, o5b⟩ := (hv23_37 : In _ _ _); obtain ⟨o6a, o6b⟩ := (hv25_37 : In _ _ _); obtain ⟨o7a, o7b⟩ := (hv36_37 : In _ _ _); obtain ⟨o8a, o8b⟩ := (hv47_37 : In _ _ _); obtain ⟨o9a, o9b⟩ := (hv48_37 : In _ _ _); obtain ⟨o10a, o10b⟩ := (hv53_37 : In _ _ _); obtain ⟨o11a, o11b⟩ := (hv55_37 : In _ _ _); omega) (Or.inr (by rw [hkn, hcn, ← hph0, ← hfr0]; have hy := rem_e (n := th 11) ex203 hg15_37 (by omega) (Int.le_trans (by decide) hb28.1); omega))
                      have hpb := plan_b (z := th 10) (k := (y9_l3.toInt).toNat) (c := (y36_l6.toInt).toNat) h14.1 ⟨by omega, h14.2.1⟩ hcap h14.2.2 hfr12 (by have ob10 : (0 : Int) ≤ (th 10) ∧ (th 10) ≤ 1 := (b0_10 hT :); have ob11 : (0 : Int) ≤ (th 11) ∧ (th 11) ≤ 9 := (b0_11 hT :); have ob12 : (0 : Int) ≤ (th 12) ∧ (th 12) ≤ 6 := (b0_12 hT :); have ob14 : (0 : Int) ≤ (th 14) ∧ (th 14) ≤ 511 := (b0_14 hT :); have ob15 : (0 : Int) ≤ (th 15) ∧ (th 15) ≤ 1 := (b0_15 hT :); have ob16 : (0 : Int) ≤ (th 16) ∧ (th 16) ≤ 20 := (b0_16 hT :); have ob17 : (0 : Int) ≤ (th 17) ∧ (th 17) ≤ 1 := (b0_17 hT :); have ob18 : (0 : Int) ≤ (th 18) ∧ (th 18) ≤ 18 := (b0_18 hT :); have ob38 : (0 : Int) ≤ zg36_zw ∧ zg36_zw ≤ 400 := (b0_38 hT :); have ob39 : (0 : Int) ≤ (th 39) ∧ (th 39) ≤ 200 := (b0_39 hT :); have ob44 : (0 : Int) ≤ (th 44) ∧ (th 44) ≤ 30 := (b0_44 hT :); have orn := rnd_b (th 10); obtain ⟨o0a, o0b⟩ := (hb19 : In _ _ _); obtain ⟨o1a, o1b⟩ := (hv14_37 : In _ _ _); obtain ⟨o2a, o2b⟩ := (hb39 : In _ _ _); obtain ⟨o3a, o3b⟩ := (hv17_37 : In _ _ _); obtain ⟨o4a, o4b⟩ := (hv20_37 : In _ _ _); obtain ⟨o5a, o5b⟩ := (hv23_37 : In _ _ _); obtain ⟨o6a, o6b⟩ := (hv25_37 : In _ _ _); obtain ⟨o7a, o7b⟩ := (hv36_37 : In _ _ _); obtain ⟨o8a, o8b⟩ := (hv47_37 : In _ _ _); obtain ⟨o9a, o9b⟩ := (hv48_37 : In _ _ _); obtain ⟨o10a, o10b⟩ := (hv53_37 : In _ _ _); obtain ⟨o11a, o11b⟩ := (hv55_37 : In _ _ _); obtain ⟨o12a, o12b⟩ := (hb20 : In _ _ _); omega) (by have ob10 : (0 : Int) ≤ (th 10) ∧ (th 10) ≤ 1 := (b0_10 hT :); have ob11 : (0 : Int) ≤ (th 11) ∧ (th 11) ≤ 9 := (b0_11 hT :); have ob12 : (0 : Int) ≤ (th 12) ∧ (th 12) ≤ 6 := (b0_12 hT :); have ob14 : (0 : Int) ≤ (th 14) ∧ (th 14) ≤ 511 := (b0_14 hT :); have ob15 : (0 : Int) ≤ (th 15) ∧ (th 15) ≤ 1 := (b0_15 hT :); have ob16 : (0 : Int) ≤ (th 16) ∧ (th 16) ≤ 20 := (b0_16 hT :); have ob17 : (0 : Int) ≤ (th 17) ∧ (th 17) ≤ 1 := (b0_17 hT :); have ob18 : (0 : Int) ≤ (th 18) ∧ (th 18) ≤ 18 := (b0_18 hT :); have ob38 : (0 : Int) ≤ zg36_zw ∧ zg36_zw ≤ 400 := (b0_38 hT :); have ob39 : (0 : Int) ≤ (th 39) ∧ (th 39) ≤ 200 := (b0_39 hT :); have ob44 : (0 : Int) ≤ (th 44) ∧ (th 44) ≤ 30 := (b0_44 hT :); have orn := rnd_b (th 10); obtain ⟨o0a, o0b⟩ := (hb50 : In _ _ _); obtain ⟨o1a, o1b⟩ := (hv14_37 : In _ _ _); obtain ⟨o2a, o2b⟩ := (hb39 : In _ _ _); obtain ⟨o3a, o3b⟩ := (hv17_37 : In _ _ _); obtain ⟨o4a, o4b⟩ := (hv20_37 : In _ _ _); obtain ⟨o5a, o5b⟩ := (hv23_37 : In _ _ _); obtain ⟨o6a, o6b⟩ := (hv25_37 : In _ _ _); obtain ⟨o7a, o7b⟩ := (hv36_37 : In _ _ _); obtain ⟨o8a, o8b⟩ := (hv47_37 : In _ _ _); obtain ⟨o9a, o9b⟩ := (hv48_37 : In _ _ _); obtain ⟨o10a, o10b⟩ := (hv53_37 : In _ _ _); obtain ⟨o11a, o11b⟩ := (hv55_37 : In _ _ _); obtain ⟨o12a, o12b⟩ := (hb41 : In _ _ _); omega)
                      have hh0 := hK_0 (e := rnd (th 10)) (n := th 11) (L := th 14) (k := (((y9_l3.toInt).toNat : Nat) : Int)) (y36_l6.toInt).toNat
                      have hii := hK_i hpr
                      refine lv_aload_n hx hb dX11_writesPlan_112 rfl (lv_at hl 2 rfl) ?_
                      refine pl_get (v := .int v53_37) hx hb hts (fun w h => mT (inX11 w h)) hown hG.1 hP (hst.1 255 (by decide)) hf38 rfl 53 (by decide) (hts _ (mT wg_1389)) (fun _ h => h) rfl dX11_writesPlan_113 ?_
                      have hg53_37 : v53_37.toInt = zg36_zw := hg53_37
                      have hJ126 : ∀ (zg126_zw : Int) (f_126 : HP) (H : Heap) (locs : List Loc) (ls : Array Slot), (0 ≤ zg126_zw ∧ zg126_zw ≤ 30 * (gK (rnd (th 10)) (th 11) (th 14) (y9_l3.toInt).toNat + hK (rnd (th 10)) (th 11) (th 14) (((y9_l3.toInt).toNat : Nat) : Int) (y36_l6.toInt).toNat) + 1) → va_P g.1 vwCl (va_pl L f_126) H → va_D A (va_pl L f_126) → va_S A s.heap H locs → TI g ad (gset th 38 zg126_zw) f_126 → (∀ b, b ≠ (ad 255) → b ≠ (ad 276) → f_126 b = f b) → lv_has ls 9 [(0, .ref (ad 255)), (1, .int z1), (2, .int y36_l2), (3, .int y9_l3), (4, .int x27), (5, .int x35), (6, .int y36_l6), (7, .int x51), (8, .int x53)] → W p l e rm_X11_writesPlan s m [.ref (ad 255), .int z1].toArray below meth c H locs 0 0 (MQ below (va_Qv (po_X11_writesPlan g ad th L f z1) (PstB g A) A) [.ref (ad 255), .int z1].toArray s rm_X11_writesPlan.cells rm_X11_writesPlan.slots A) (F0 m 126 ls []) := by
                        intro zg126_zw f_126 H locs ls hzg126 hP hD hS hT hfr hl
                        refine lv_aload_n hx hb dX11_writesPlan_126 rfl (lv_at hl 0 rfl) ?_
                        refine va_ldcSw hx hb hown (hG.2.2.1 ("RulerWordModel", 423, "phase ", 16) (by decide +kernel)) dX11_writesPlan_127 ?_
                        refine M0e hT (fun v0_208 v2_208 v3_208 v4_208 v5_208 v6_208 v8_208 v9_208 v12_208 v13_208 v14_208 v15_208 v16_208 v17_208 v18_208 v19_208 v20_208 v21_208 v22_208 v23_208 v25_208 v36_208 v37_208 v38_208 v39_208 v40_208 v45_208 v46_208 v47_208 v48_208 v50_208 v51_208 v53_208 v55_208 hf209 hv0_208 hv2_208 hg2_208 hv3_208 hg3_208 hv4_208 hg4_208 hv5_208 hg5_208 hv6_208 hg6_208 hv8_208 hg8_208 hv9_208 hg9_208 hv12_208 hv13_208 hg13_208 hv14_208 hg14_208 hv15_208 hg15_208 hv17_208 hg17_208 hv20_208 hg20_208 hv23_208 hg23_208 hv25_208 hg25_208 hv36_208 hg36_208 hv47_208 hg47_208 hv48_208 hg48_208 hv53_208 hg53_208 hv55_208 hg55_208 hrel0_208 => ?_)
                        have hg15_208 : v15_208.toInt = th 11 := hg15_208
                        have hg17_208 : v17_208.toInt = th 12 := hg17_208
                        have hg20_208 : v20_208.toInt = th 14 := hg20_208
                        have hb210 : In v15_208 3 9 := ⟨by rw [hg15_208]; exact hn3, hv15_208.2⟩
                        refine call_v (run_V (rm := rm_X11_writesWord) hx hb hml hown hts (s_X11_writesWord l g ad (gset th 38 zg126_zw) _ _ _ 16 hst hT (by decide) (show zg126_zw + ((lenS.getD 16 0 : Nat) : Int) ≤ 400 by have ql : (lenS.getD 16 0 : Nat) = 6 := (by decide); omega)) cV_X11_writesWord wg_1875 ⟨Nat.le_of_ble_eq_true rfl, Nat.le_of_ble_eq_true rfl⟩ hG hE hA hP hD hS (hst.1 255 (by decide)) hf209 rfl rfl hl.1 (As := [.ref (g.2.2.1 16)]) (rest := []) rfl (Nat.le_of_ble_eq_true rfl) dX11_writesPlan_130 ⟨Nat.le_of_ble_eq_true rfl, Nat.le_of_ble_eq_true rfl⟩) hA hD hS (fun L212 f213 H locs hp214 hP hD hS => ?_)
                        obtain ⟨eL215L, eL215T, eL215F⟩ := hp214
                        have eL215L : L212 = L := eL215L
                        rw [eL215L] at hP hD
                        obtain ⟨zz216, hzz216, eL215T⟩ := eL215T
                        have hgk217 : (gset th 38 zg126_zw) 38 = zg126_zw := rfl
                        have hT : TI g ad (gset (gset th 38 zg126_zw) 38 zz216) f213 := eL215T
                        have hT : TI g ad (gset th 38 zz216) f213 := TI.cast hT (by funext q; by_cases hq0 : q = 38; (subst hq0; rfl); simp only [gset, if_neg hq0])
                        have eL215F : ∀ b, b ≠ (ad 255) → b ≠ (ad 276) → f213 b = f_126 b := eL215F
                        have hfr : (∀ b, b ≠ (ad 255) → b ≠ (ad 276) → f213 b = f b) := fun b z0_ z1_ => (eL215F b z0_ z1_).trans (hfr b z0_ z1_)
                        refine lv_aload_n hx hb dX11_writesPlan_133 rfl (lv_at hl 0 rfl) ?_
                        refine lv_iload hx hb dX11_writesPlan_134 (lv_at hl 4 rfl) ?_
                        refine M0e hT (fun v0_218 v2_218 v3_218 v4_218 v5_218 v6_218 v8_218 v9_218 v12_218 v13_218 v14_218 v15_218 v16_218 v17_218 v18_218 v19_218 v20_218 v21_218 v22_218 v23_218 v25_218 v36_218 v37_218 v38_218 v39_218 v40_218 v45_218 v46_218 v47_218 v48_218 v50_218 v51_218 v53_218 v55_218 hf219 hv0_218 hv2_218 hg2_218 hv3_218 hg3_218 hv4_218 hg4_218 hv5_218 hg5_218 hv6_218 hg6_218 hv8_218 hg8_218 hv9_218 hg9_218 hv12_218 hv13_218 hg13_218 hv14_218 hg14_218 hv15_218 hg15_218 hv17_218 hg17_218 hv20_218 hg20_218 hv23_218 hg23_218 hv25_218 hg25_218 hv36_218 hg36_218 hv47_218 hg47_218 hv48_218 hg48_218 hv53_218 hg53_218 hv55_218 hg55_218 hrel0_218 => ?_)
                        have hg15_218 : v15_218.toInt = th 11 := hg15_218
                        have hg17_218 : v17_218.toInt = th 12 := hg17_218
                        have hg20_218 : v20_218.toInt = th 14 := hg20_218
                        have hb220 : In v15_218 3 9 := ⟨by rw [hg15_218]; exact hn3, hv15_218.2⟩
                        refine call_v (run_V (rm := rm_X11_writesDigit) hx hb hml hown hts (s_X11_writesDigit l g ad (gset th 38 zz216) _ _ _ x27 hst hT (show zz216 < 400 from (by have ob10 : (0 : Int) ≤ (th 10) ∧ (th 10) ≤ 1 := (b0_10 hT :); have ob11 : (0 : Int) ≤ (th 11) ∧ (th 11) ≤ 9 := (b0_11 hT :); have ob12 : (0 : Int) ≤ (th 12) ∧ (th 12) ≤ 6 := (b0_12 hT :); have ob14 : (0 : Int) ≤ (th 14) ∧ (th 14) ≤ 511 := (b0_14 hT :); have ob15 : (0 : Int) ≤ (th 15) ∧ (th 15) ≤ 1 := (b0_15 hT :); have ob16 : (0 : Int) ≤ (th 16) ∧ (th 16) ≤ 20 := (b0_16 hT :); have ob17 : (0 : Int) ≤ (th 17) ∧ (th 17) ≤ 1 := (b0_17 hT :); have ob18 : (0 : Int) ≤ (th 18) ∧ (th 18) ≤ 18 := (b0_18 hT :); have ob38 : (0 : Int) ≤ zz216 ∧ zz216 ≤ 400 := (b0_38 hT :); have ob39 : (0 : Int) ≤ (th 39) ∧ (th 39) ≤ 200 := (b0_39 hT :); have ob44 : (0 : Int) ≤ (th 44) ∧ (th 44) ≤ 30 := (b0_44 hT :); have orn := rnd_b (th 10); obtain ⟨o0a, o0b⟩ := (hv14_218 : In _ _ _); obtain ⟨o1a, o1b⟩ := (hb220 : In _ _ _); obtain ⟨o2a, o2b⟩ := (hv17_218 : In _ _ _); obtain ⟨o3a, o3b⟩ := (hv20_218 : In _ _ _); obtain ⟨o4a, o4b⟩ := (hv23_218 : In _ _ _); obtain ⟨o5a, o5b⟩ := (hv25_218 : In _ _ _); obtain ⟨o6a, o6b⟩ := (hv36_218 : In _ _ _); obtain ⟨o7a, o7b⟩ := (hv47_218 : In _ _ _); obtain ⟨o8a, o8b⟩ := (hv48_218 : In _ _ _); obtain ⟨o9a, o9b⟩ := (hv53_218 : In _ _ _); obtain ⟨o10a, o10b⟩ := (hv55_218 : In _ _ _); omega))) cV_X11_writesDigit wg_1880 ⟨Nat.le_of_ble_eq_true rfl, Nat.le_of_ble_eq_true rfl⟩ hG hE hA hP hD hS (hst.1 255 (by decide)) hf219 rfl rfl hl.1 (As := [.int x27]) (rest := []) rfl (Nat.le_of_ble_eq_true rfl) dX11_writesPlan_136 ⟨Nat.le_of_ble_eq_true rfl, Nat.le_of_ble_eq_true rfl⟩) hA hD hS (fun L222 f223 H locs hp224 hP hD hS => ?_)
                        obtain ⟨eL225L, eL225T, eL225F⟩ := hp224
                        have eL225L : L222 = L := eL225L
                        rw [eL225L] at hP hD
                        obtain ⟨zz226, hzz226, eL225T⟩ := eL225T
                        have hzz226 : zz226 = zz216 + 1 := hzz226
                        have hT : TI g ad (gset (gset th 38 zz216) 38 zz226) f223 := eL225T
                        have hT : TI g ad (gset th 38 zz226) f223 := TI.cast hT (by funext q; by_cases hq0 : q = 38; (subst hq0; rfl); simp only [gset, if_neg hq0])
                        have eL225F : ∀ b, b ≠ (ad 255) → b ≠ (ad 276) → f223 b = f213 b := eL225F
                        have hfr : (∀ b, b ≠ (ad 255) → b ≠ (ad 276) → f223 b = f b) := fun b z0_ z1_ => (eL225F b z0_ z1_).trans (hfr b z0_ z1_)
                        refine lv_aload_n hx hb dX11_writesPlan_139 rfl (lv_at hl 0 rfl) ?_
                        refine va_ldcSw hx hb hown (hG.2.2.1 ("RulerWordModel", 428, " round ", 18) (by decide +kernel)) dX11_writesPlan_140 ?_
                        refine M0e hT (fun v0_227 v2_227 v3_227 v4_227 v5_227 v6_227 v8_227 v9_227 v12_227 v13_227 v14_227 v15_227 v16_227 v17_227 v18_227 v19_227 v20_227 v21_227 v22_227 v23_227 v25_227 v36_227 v37_227 v38_227 v39_227 v40_227 v45_227 v46_227 v47_227 v48_227 v50_227 v51_227 v53_227 v55_227 hf228 hv0_227 hv2_227 hg2_227 hv3_227 hg3_227 hv4_227 hg4_227 hv5_227 hg5_227 hv6_227 hg6_227 hv8_227 hg8_227 hv9_227 hg9_227 hv12_227 hv13_227 hg13_227 hv14_227 hg14_227 hv15_227 hg15_227 hv17_227 hg17_227 hv20_227 hg20_227 hv23_227 hg23_227 hv25_227 hg25_227 hv36_227 hg36_227 hv47_227 hg47_227 hv48_227 hg48_227 hv53_227 hg53_227 hv55_227 hg55_227 hrel0_227 => ?_)
                        have hg15_227 : v15_227.toInt = th 11 := hg15_227
                        have hg17_227 : v17_227.toInt = th 12 := hg17_227
                        have hg20_227 : v20_227.toInt = th 14 := hg20_227
                        have hb229 : In v15_227 3 9 := ⟨by rw [hg15_227]; exact hn3, hv15_227.2⟩
                        refine call_v (run_V (rm := rm_X11_writesWord) hx hb hml hown hts (s_X11_writesWord l g ad (gset th 38 zz226) _ _ _ 18 hst hT (by decide) (show zz226 + ((lenS.getD 18 0 : Nat) : Int) ≤ 400 by have ql : (lenS.getD 18 0 : Nat) = 7 := (by decide); omega)) cV_X11_writesWord wg_1875 ⟨Nat.le_of_ble_eq_true rfl, Nat.le_of_ble_eq_true rfl⟩ hG hE hA hP hD hS (hst.1 255 (by decide)) hf228 rfl rfl hl.1 (As := [.ref (g.2.2.1 18)]) (rest := []) rfl (Nat.le_of_ble_eq_true rfl) dX11_writesPlan_143 ⟨Nat.le_of_ble_eq_true rfl, Nat.le_of_ble_eq_true rfl⟩) hA hD hS (fun L231 f232 H locs hp233 hP hD hS => ?_)
                        obtain ⟨eL234L, eL234T, eL234F⟩ := hp233
                        have eL234L : L231 = L := eL234L
                        rw [eL234L] at hP hD
                        obtain ⟨zz235, hzz235, eL234T⟩ := eL234T
                        have hgk236 : (gset th 38 zz226) 38 = zz226 := rfl
                        have hT : TI g ad (gset (gset th 38 zz226) 38 zz235) f232 := eL234T
                        have hT : TI g ad (gset th 38 zz235) f232 := TI.cast hT (by funext q; by_cases hq0 : q = 38; (subst hq0; rfl); simp only [gset, if_neg hq0])
                        have eL234F : ∀ b, b ≠ (ad 255) → b ≠ (ad 276) → f232 b = f223 b := eL234F
                        have hfr : (∀ b, b ≠ (ad 255) → b ≠ (ad 276) → f232 b = f b) := fun b z0_ z1_ => (eL234F b z0_ z1_).trans (hfr b z0_ z1_)
                        refine lv_aload_n hx hb dX11_writesPlan_146 rfl (lv_at hl 0 rfl) ?_
                        refine lv_iload hx hb dX11_writesPlan_147 (lv_at hl 5 rfl) ?_
                        refine M0e hT (fun v0_237 v2_237 v3_237 v4_237 v5_237 v6_237 v8_237 v9_237 v12_237 v13_237 v14_237 v15_237 v16_237 v17_237 v18_237 v19_237 v20_237 v21_237 v22_237 v23_237 v25_237 v36_237 v37_237 v38_237 v39_237 v40_237 v45_237 v46_237 v47_237 v48_237 v50_237 v51_237 v53_237 v55_237 hf238 hv0_237 hv2_237 hg2_237 hv3_237 hg3_237 hv4_237 hg4_237 hv5_237 hg5_237 hv6_237 hg6_237 hv8_237 hg8_237 hv9_237 hg9_237 hv12_237 hv13_237 hg13_237 hv14_237 hg14_237 hv15_237 hg15_237 hv17_237 hg17_237 hv20_237 hg20_237 hv23_237 hg23_237 hv25_237 hg25_237 hv36_237 hg36_237 hv47_237 hg47_237 hv48_237 hg48_237 hv53_237 hg53_237 hv55_237 hg55_237 hrel0_237 => ?_)
                        have hg15_237 : v15_237.toInt = th 11 := hg15_237
                        have hg17_237 : v17_237.toInt = th 12 := hg17_237
                        have hg20_237 : v20_237.toInt = th 14 := hg20_237
                        have hb239 : In v15_237 3 9 := ⟨by rw [hg15_237]; exact hn3, hv15_237.2⟩
                        refine call_v (run_V (rm := rm_X11_writesDigit) hx hb hml hown hts (s_X11_writesDigit l g ad (gset th 38 zz235) _ _ _ x35 hst hT (show zz235 < 400 from (by have ob10 : (0 : Int) ≤ (th 10) ∧ (th 10) ≤ 1 := (b0_10 hT :); have ob11 : (0 : Int) ≤ (th 11) ∧ (th 11) ≤ 9 := (b0_11 hT :); have ob12 : (0 : Int) ≤ (th 12) ∧ (th 12) ≤ 6 := (b0_12 hT :); have ob14 : (0 : Int) ≤ (th 14) ∧ (th 14) ≤ 511 := (b0_14 hT :); have ob15 : (0 : Int) ≤ (th 15) ∧ (th 15) ≤ 1 := (b0_15 hT :); have ob16 : (0 : Int) ≤ (th 16) ∧ (th 16) ≤ 20 := (b0_16 hT :); have ob17 : (0 : Int) ≤ (th 17) ∧ (th 17) ≤ 1 := (b0_17 hT :); have ob18 : (0 : Int) ≤ (th 18) ∧ (th 18) ≤ 18 := (b0_18 hT :); have ob38 : (0 : Int) ≤ zz235 ∧ zz235 ≤ 400 := (b0_38 hT :); have ob39 : (0 : Int) ≤ (th 39) ∧ (th 39) ≤ 200 := (b0_39 hT :); have ob44 : (0 : Int) ≤ (th 44) ∧ (th 44) ≤ 30 := (b0_44 hT :); have orn := rnd_b (th 10); obtain ⟨o0a, o0b⟩ := (hv14_237 : In _ _ _); obtain ⟨o1a, o1b⟩ := (hb239 : In _ _ _); obtain ⟨o2a, o2b⟩ := (hv17_237 : In _ _ _); obtain ⟨o3a, o3b⟩ := (hv20_237 : In _ _ _); obtain ⟨o4a, o4b⟩ := (hv23_237 : In _ _ _); obtain ⟨o5a, o5b⟩ := (hv25_237 : In _ _ _); obtain ⟨o6a, o6b⟩ := (hv36_237 : In _ _ _); obtain ⟨o7a, o7b⟩ := (hv47_237 : In _ _ _); obtain ⟨o8a, o8b⟩ := (hv48_237 : In _ _ _); obtain ⟨o9a, o9b⟩ := (hv53_237 : In _ _ _); obtain ⟨o10a, o10b⟩ := (hv55_237 : In _ _ _); omega))) cV_X11_writesDigit wg_1880 ⟨Nat.le_of_ble_eq_true rfl, Nat.le_of_ble_eq_true rfl⟩ hG hE hA hP hD hS (hst.1 255 (by decide)) hf238 rfl rfl hl.1 (As := [.int x35]) (rest := []) rfl (Nat.le_of_ble_eq_true rfl) dX11_writesPlan_149 ⟨Nat.le_of_ble_eq_true rfl, Nat.le_of_ble_eq_true rfl⟩) hA hD hS (fun L241 f242 H locs hp243 hP hD hS => ?_)
                        obtain ⟨eL244L, eL244T, eL244F⟩ := hp243
                        have eL244L : L241 = L := eL244L
                        rw [eL244L] at hP hD
                        obtain ⟨zz245, hzz245, eL244T⟩ := eL244T
                        have hzz245 : zz245 = zz235 + 1 := hzz245
                        have hT : TI g ad (gset (gset th 38 zz235) 38 zz245) f242 := eL244T
                        have hT : TI g ad (gset th 38 zz245) f242 := TI.cast hT (by funext q; by_cases hq0 : q = 38; (subst hq0; rfl); simp only [gset, if_neg hq0])
                        have eL244F : ∀ b, b ≠ (ad 255) → b ≠ (ad 276) → f242 b = f232 b := eL244F
                        have hfr : (∀ b, b ≠ (ad 255) → b ≠ (ad 276) → f242 b = f b) := fun b z0_ z1_ => (eL244F b z0_ z1_).trans (hfr b z0_ z1_)
                        refine lv_aload_n hx hb dX11_writesPlan_152 rfl (lv_at hl 0 rfl) ?_
                        refine va_ldcSw hx hb hown (hG.2.2.1 ("RulerWordModel", 430, " from ", 19) (by decide +kernel)) dX11_writesPlan_153 ?_
                        refine M0e hT (fun v0_246 v2_246 v3_246 v4_246 v5_246 v6_246 v8_246 v9_246 v12_246 v13_246 v14_246 v15_246 v16_246 v17_246 v18_246 v19_246 v20_246 v21_246 v22_246 v23_246 v25_246 v36_246 v37_246 v38_246 v39_246 v40_246 v45_246 v46_246 v47_246 v48_246 v50_246 v51_246 v53_246 v55_246 hf247 hv0_246 hv2_246 hg2_246 hv3_246 hg3_246 hv4_246 hg4_246 hv5_246 hg5_246 hv6_246 hg6_246 hv8_246 hg8_246 hv9_246 hg9_246 hv12_246 hv13_246 hg13_246 hv14_246 hg14_246 hv15_246 hg15_246 hv17_246 hg17_246 hv20_246 hg20_246 hv23_246 hg23_246 hv25_246 hg25_246 hv36_246 hg36_246 hv47_246 hg47_246 hv48_246 hg48_246 hv53_246 hg53_246 hv55_246 hg55_246 hrel0_246 => ?_)
                        have hg15_246 : v15_246.toInt = th 11 := hg15_246
                        have hg17_246 : v17_246.toInt = th 12 := hg17_246
                        have hg20_246 : v20_246.toInt = th 14 := hg20_246
                        have hb248 : In v15_246 3 9 := ⟨by rw [hg15_246]; exact hn3, hv15_246.2⟩
                        refine call_v (run_V (rm := rm_X11_writesWord) hx hb hml hown hts (s_X11_writesWord l g ad (gset th 38 zz245) _ _ _ 19 hst hT (by decide) (show zz245 + ((lenS.getD 19 0 : Nat) : Int) ≤ 400 by have ql : (lenS.getD 19 0 : Nat) = 6 := (by decide); omega)) cV_X11_writesWord wg_1875 ⟨Nat.le_of_ble_eq_true rfl, Nat.le_of_ble_eq_true rfl⟩ hG hE hA hP hD hS (hst.1 255 (by decide)) hf247 rfl rfl hl.1 (As := [.ref (g.2.2.1 19)]) (rest := []) rfl (Nat.le_of_ble_eq_true rfl) dX11_writesPlan_156 ⟨Nat.le_of_ble_eq_true rfl, Nat.le_of_ble_eq_true rfl⟩) hA hD hS (fun L250 f251 H locs hp252 hP hD hS => ?_)
                        obtain ⟨eL253L, eL253T, eL253F⟩ := hp252
                        have eL253L : L250 = L := eL253L
                        rw [eL253L] at hP hD
                        obtain ⟨zz254, hzz254, eL253T⟩ := eL253T
                        have hgk255 : (gset th 38 zz245) 38 = zz245 := rfl
                        have hT : TI g ad (gset (gset th 38 zz245) 38 zz254) f251 := eL253T
                        have hT : TI g ad (gset th 38 zz254) f251 := TI.cast hT (by funext q; by_cases hq0 : q = 38; (subst hq0; rfl); simp only [gset, if_neg hq0])
                        have eL253F : ∀ b, b ≠ (ad 255) → b ≠ (ad 276) → f251 b = f242 b := eL253F
                        have hfr : (∀ b, b ≠ (ad 255) → b ≠ (ad 276) → f251 b = f b) := fun b z0_ z1_ => (eL253F b z0_ z1_).trans (hfr b z0_ z1_)
                        refine lv_aload_n hx hb dX11_writesPlan_159 rfl (lv_at hl 0 rfl) ?_
                        refine lv_iload hx hb dX11_writesPlan_160 (lv_at hl 7 rfl) ?_
                        refine M0e hT (fun v0_256 v2_256 v3_256 v4_256 v5_256 v6_256 v8_256 v9_256 v12_256 v13_256 v14_256 v15_256 v16_256 v17_256 v18_256 v19_256 v20_256 v21_256 v22_256 v23_256 v25_256 v36_256 v37_256 v38_256 v39_256 v40_256 v45_256 v46_256 v47_256 v48_256 v50_256 v51_256 v53_256 v55_256 hf257 hv0_256 hv2_256 hg2_256 hv3_256 hg3_256 hv4_256 hg4_256 hv5_256 hg5_256 hv6_256 hg6_256 hv8_256 hg8_256 hv9_256 hg9_256 hv12_256 hv13_256 hg13_256 hv14_256 hg14_256 hv15_256 hg15_256 hv17_256 hg17_256 hv20_256 hg20_256 hv23_256 hg23_256 hv25_256 hg25_256 hv36_256 hg36_256 hv47_256 hg47_256 hv48_256 hg48_256 hv53_256 hg53_256 hv55_256 hg55_256 hrel0_256 => ?_)
                        have hg15_256 : v15_256.toInt = th 11 := hg15_256
                        have hg17_256 : v17_256.toInt = th 12 := hg17_256
                        have hg20_256 : v20_256.toInt = th 14 := hg20_256
                        have hb258 : In v15_256 3 9 := ⟨by rw [hg15_256]; exact hn3, hv15_256.2⟩
                        refine call_v (run_V (rm := rm_X11_writesDigit) hx hb hml hown hts (s_X11_writesDigit l g ad (gset th 38 zz254) _ _ _ x51 hst hT (show zz254 < 400 from (by have ob10 : (0 : Int) ≤ (th 10) ∧ (th 10) ≤ 1 := (b0_10 hT :); have ob11 : (0 : Int) ≤ (th 11) ∧ (th 11) ≤ 9 := (b0_11 hT :); have ob12 : (0 : Int) ≤ (th 12) ∧ (th 12) ≤ 6 := (b0_12 hT :); have ob14 : (0 : Int) ≤ (th 14) ∧ (th 14) ≤ 511 := (b0_14 hT :); have ob15 : (0 : Int) ≤ (th 15) ∧ (th 15) ≤ 1 := (b0_15 hT :); have ob16 : (0 : Int) ≤ (th 16) ∧ (th 16) ≤ 20 := (b0_16 hT :); have ob17 : (0 : Int) ≤ (th 17) ∧ (th 17) ≤ 1 := (b0_17 hT :); have ob18 : (0 : Int) ≤ (th 18) ∧ (th 18) ≤ 18 := (b0_18 hT :); have ob38 : (0 : Int) ≤ zz254 ∧ zz254 ≤ 400 := (b0_38 hT :); have ob39 : (0 : Int) ≤ (th 39) ∧ (th 39) ≤ 200 := (b0_39 hT :); have ob44 : (0 : Int) ≤ (th 44) ∧ (th 44) ≤ 30 := (b0_44 hT :); have orn := rnd_b (th 10); obtain ⟨o0a, o0b⟩ := (hv14_256 : In _ _ _); obtain ⟨o1a, o1b⟩ := (hb258 : In _ _ _); obtain ⟨o2a, o2b⟩ := (hv17_256 : In _ _ _); obtain ⟨o3a, o3b⟩ := (hv20_256 : In _ _ _); obtain ⟨o4a, o4b⟩ := (hv23_256 : In _ _ _); obtain ⟨o5a, o5b⟩ := (hv25_256 : In _ _ _); obtain ⟨o6a, o6b⟩ := (hv36_256 : In _ _ _); obtain ⟨o7a, o7b⟩ := (hv47_256 : In _ _ _); obtain ⟨o8a, o8b⟩ := (hv48_256 : In _ _ _); obtain ⟨o9a, o9b⟩ := (hv53_256 : In _ _ _); obtain ⟨o10a, o10b⟩ := (hv55_256 : In _ _ _); omega))) cV_X11_writesDigit wg_1880 ⟨Nat.le_of_ble_eq_true rfl, Nat.le_of_ble_eq_true rfl⟩ hG hE hA hP hD hS (hst.1 255 (by decide)) hf257 rfl rfl hl.1 (As := [.int x51]) (rest := []) rfl (Nat.le_of_ble_eq_true rfl) dX11_writesPlan_162 ⟨Nat.le_of_ble_eq_true rfl, Nat.le_of_ble_eq_true rfl⟩) hA hD hS (fun L260 f261 H locs hp262 hP hD hS => ?_)
                        obtain ⟨eL263L, eL263T, eL263F⟩ := hp262
                        have eL263L : L260 = L := eL263L
                        rw [eL263L] at hP hD
                        obtain ⟨zz264, hzz264, eL263T⟩ := eL263T
                        have hzz264 : zz264 = zz254 + 1 := hzz264
                        have hT : TI g ad (gset (gset th 38 zz254) 38 zz264) f261 := eL263T
                        have hT : TI g ad (gset th 38 zz264) f261 := TI.cast hT (by funext q; by_cases hq0 : q = 38; (subst hq0; rfl); simp only [gset, if_neg hq0])
                        have eL263F : ∀ b, b ≠ (ad 255) → b ≠ (ad 276) → f261 b = f251 b := eL263F
                        have hfr : (∀ b, b ≠ (ad 255) → b ≠ (ad 276) → f261 b = f b) := fun b z0_ z1_ => (eL263F b z0_ z1_).trans (hfr b z0_ z1_)
                        refine lv_aload_n hx hb dX11_writesPlan_165 rfl (lv_at hl 0 rfl) ?_
                        refine va_ldcSw hx hb hown (hG.2.2.1 ("RulerWordModel", 432, " to ", 20) (by decide +kernel)) dX11_writesPlan_166 ?_
                        refine M0e hT (fun v0_265 v2_265 v3_265 v4_265 v5_265 v6_265 v8_265 v9_265 v12_265 v13_265 v14_265 v15_265 v16_265 v17_265 v18_265 v19_265 v20_265 v21_265 v22_265 v23_265 v25_265 v36_265 v37_265 v38_265 v39_265 v40_265 v45_265 v46_265 v47_265 v48_265 v50_265 v51_265 v53_265 v55_265 hf266 hv0_265 hv2_265 hg2_265 hv3_265 hg3_265 hv4_265 hg4_265 hv5_265 hg5_265 hv6_265 hg6_265 hv8_265 hg8_265 hv9_265 hg9_265 hv12_265 hv13_265 hg13_265 hv14_265 hg14_265 hv15_265 hg15_265 hv17_265 hg17_265 hv20_265 hg20_265 hv23_265 hg23_265 hv25_265 hg25_265 hv36_265 hg36_265 hv47_265 hg47_265 hv48_265 hg48_265 hv53_265 hg53_265 hv55_265 hg55_265 hrel0_265 => ?_)
                        have hg15_265 : v15_265.toInt = th 11 := hg15_265
                        have hg17_265 : v17_265.toInt = th 12 := hg17_265
                        have hg20_265 : v20_265.toInt = th 14 := hg20_265
                        have hb267 : In v15_265 3 9 := ⟨by rw [hg15_265]; exact hn3, hv15_265.2⟩
                        refine call_v (run_V (rm := rm_X11_writesWord) hx hb hml hown hts (s_X11_writesWord l g ad (gset th 38 zz264) _ _ _ 20 hst hT (by decide) (show zz264 + ((lenS.getD 20 0 : Nat) : Int) ≤ 400 by have ql : (lenS.getD 20 0 : Nat) = 4 := (by decide); omega)) cV_X11_writesWord wg_1875 ⟨Nat.le_of_ble_eq_true rfl, Nat.le_of_ble_eq_true rfl⟩ hG hE hA hP hD hS (hst.1 255 (by decide)) hf266 rfl rfl hl.1 (As := [.ref (g.2.2.1 20)]) (rest := []) rfl (Nat.le_of_ble_eq_true rfl) dX11_writesPlan_169 ⟨Nat.le_of_ble_eq_true rfl, Nat.le_of_ble_eq_true rfl⟩) hA hD hS (fun L269 f270 H locs hp271 hP hD hS => ?_)
                        obtain ⟨eL272L, eL272T, eL272F⟩ := hp271
                        have eL272L : L269 = L := eL272L
                        rw [eL272L] at hP hD
                        obtain ⟨zz273, hzz273, eL272T⟩ := eL272T
                        have hgk274 : (gset th 38 zz264) 38 = zz264 := rfl
                        have hT : TI g ad (gset (gset th 38 zz264) 38 zz273) f270 := eL272T
                        have hT : TI g ad (gset th 38 zz273) f270 := TI.cast hT (by funext q; by_cases hq0 : q = 38; (subst hq0; rfl); simp only [gset, if_neg hq0])
                        have eL272F : ∀ b, b ≠ (ad 255) → b ≠ (ad 276) → f270 b = f261 b := eL272F
                        have hfr : (∀ b, b ≠ (ad 255) → b ≠ (ad 276) → f270 b = f b) := fun b z0_ z1_ => (eL272F b z0_ z1_).trans (hfr b z0_ z1_)
                        refine lv_aload_n hx hb dX11_writesPlan_172 rfl (lv_at hl 0 rfl) ?_
                        refine lv_iload hx hb dX11_writesPlan_173 (lv_at hl 8 rfl) ?_
                        refine M0e hT (fun v0_275 v2_275 v3_275 v4_275 v5_275 v6_275 v8_275 v9_275 v12_275 v13_275 v14_275 v15_275 v16_275 v17_275 v18_275 v19_275 v20_275 v21_275 v22_275 v23_275 v25_275 v36_275 v37_275 v38_275 v39_275 v40_275 v45_275 v46_275 v47_275 v48_275 v50_275 v51_275 v53_275 v55_275 hf276 hv0_275 hv2_275 hg2_275 hv3_275 hg3_275 hv4_275 hg4_275 hv5_275 hg5_275 hv6_275 hg6_275 hv8_275 hg8_275 hv9_275 hg9_275 hv12_275 hv13_275 hg13_275 hv14_275 hg14_275 hv15_275 hg15_275 hv17_275 hg17_275 hv20_275 hg20_275 hv23_275 hg23_275 hv25_275 hg25_275 hv36_275 hg36_275 hv47_275 hg47_275 hv48_275 hg48_275 hv53_275 hg53_275 hv55_275 hg55_275 hrel0_275 => ?_)
                        have hg15_275 : v15_275.toInt = th 11 := hg15_275
                        have hg17_275 : v17_275.toInt = th 12 := hg17_275
                        have hg20_275 : v20_275.toInt = th 14 := hg20_275
                        have hb277 : In v15_275 3 9 := ⟨by rw [hg15_275]; exact hn3, hv15_275.2⟩
                        refine call_v (run_V (rm := rm_X11_writesDigit) hx hb hml hown hts (s_X11_writesDigit l g ad (gset th 38 zz273) _ _ _ x53 hst hT (show zz273 < 400 from (by have ob10 : (0 : Int) ≤ (th 10) ∧ (th 10) ≤ 1 := (b0_10 hT :); have ob11 : (0 : Int) ≤ (th 11) ∧ (th 11) ≤ 9 := (b0_11 hT :); have ob12 : (0 : Int) ≤ (th 12) ∧ (th 12) ≤ 6 := (b0_12 hT :); have ob14 : (0 : Int) ≤ (th 14) ∧ (th 14) ≤ 511 := (b0_14 hT :); have ob15 : (0 : Int) ≤ (th 15) ∧ (th 15) ≤ 1 := (b0_15 hT :); have ob16 : (0 : Int) ≤ (th 16) ∧ (th 16) ≤ 20 := (b0_16 hT :); have ob17 : (0 : Int) ≤ (th 17) ∧ (th 17) ≤ 1 := (b0_17 hT :); have ob18 : (0 : Int) ≤ (th 18) ∧ (th 18) ≤ 18 := (b0_18 hT :); have ob38 : (0 : Int) ≤ zz273 ∧ zz273 ≤ 400 := (b0_38 hT :); have ob39 : (0 : Int) ≤ (th 39) ∧ (th 39) ≤ 200 := (b0_39 hT :); have ob44 : (0 : Int) ≤ (th 44) ∧ (th 44) ≤ 30 := (b0_44 hT :); have orn := rnd_b (th 10); obtain ⟨o0a, o0b⟩ := (hv14_275 : In _ _ _); obtain ⟨o1a, o1b⟩ := (hb277 : In _ _ _); obtain ⟨o2a, o2b⟩ := (hv17_275 : In _ _ _); obtain ⟨o3a, o3b⟩ := (hv20_275 : In _ _ _); obtain ⟨o4a, o4b⟩ := (hv23_275 : In _ _ _); obtain ⟨o5a, o5b⟩ := (hv25_275 : In _ _ _); obtain ⟨o6a, o6b⟩ := (hv36_275 : In _ _ _); obtain ⟨o7a, o7b⟩ := (hv47_275 : In _ _ _); obtain ⟨o8a, o8b⟩ := (hv48_275 : In _ _ _); obtain ⟨o9a, o9b⟩ := (hv53_275 : In _ _ _); obtain ⟨o10a, o10b⟩ := (hv55_275 : In _ _ _); omega))) cV_X11_writesDigit wg_1880 ⟨Nat.le_of_ble_eq_true rfl, Nat.le_of_ble_eq_true rfl⟩ hG hE hA hP hD hS (hst.1 255 (by decide)) hf276 rfl rfl hl.1 (As := [.int x53]) (rest := []) rfl (Nat.le_of_ble_eq_true rfl) dX11_writesPlan_175 ⟨Nat.le_of_ble_eq_true rfl, Nat.le_of_ble_eq_true rfl⟩) hA hD hS (fun L279 f280 H locs hp281 hP hD hS => ?_)
                        obtain ⟨eL282L, eL282T, eL282F⟩ := hp281
                        have eL282L : L279 = L := eL282L
                        rw [eL282L] at hP hD
                        obtain ⟨zz283, hzz283, eL282T⟩ := eL282T
                        have hzz283 : zz283 = zz273 + 1 := hzz283
                        have hT : TI g ad (gset (gset th 38 zz273) 38 zz283) f280 := eL282T
                        have hT : TI g ad (gset th 38 zz283) f280 := TI.cast hT (by funext q; by_cases hq0 : q = 38; (subst hq0; rfl); simp only [gset, if_neg hq0])
                        have eL282F : ∀ b, b ≠ (ad 255) → b ≠ (ad 276) → f280 b = f270 b := eL282F
                        have hfr : (∀ b, b ≠ (ad 255) → b ≠ (ad 276) → f280 b = f b) := fun b z0_ z1_ => (eL282F b z0_ z1_).trans (hfr b z0_ z1_)
                        refine lv_aload_n hx hb dX11_writesPlan_178 rfl (lv_at hl 0 rfl) ?_
                        refine va_ldcSw hx hb hown (hG.2.2.1 ("RulerWordModel", 434, " ", 21) (by decide +kernel)) dX11_writesPlan_179 ?_
                        refine M0e hT (fun v0_284 v2_284 v3_284 v4_284 v5_284 v6_284 v8_284 v9_284 v12_284 v13_284 v14_284 v15_284 v16_284 v17_284 v18_284 v19_284 v20_284 v21_284 v22_284 v23_284 v25_284 v36_284 v37_284 v38_284 v39_284 v40_284 v45_284 v46_284 v47_284 v48_284 v50_284 v51_284 v53_284 v55_284 hf285 hv0_284 hv2_284 hg2_284 hv3_284 hg3_284 hv4_284 hg4_284 hv5_284 hg5_284 hv6_284 hg6_284 hv8_284 hg8_284 hv9_284 hg9_284 hv12_284 hv13_284 hg13_284 hv14_284 hg14_284 hv15_284 hg15_284 hv17_284 hg17_284 hv20_284 hg20_284 hv23_284 hg23_284 hv25_284 hg25_284 hv36_284 hg36_284 hv47_284 hg47_284 hv48_284 hg48_284 hv53_284 hg53_284 hv55_284 hg55_284 hrel0_284 => ?_)
                        have hg15_284 : v15_284.toInt = th 11 := hg15_284
                        have hg17_284 : v17_284.toInt = th 12 := hg17_284
                        have hg20_284 : v20_284.toInt = th 14 := hg20_284
                        have hb286 : In v15_284 3 9 := ⟨by rw [hg15_284]; exact hn3, hv15_284.2⟩
                        refine call_v (run_V (rm := rm_X11_writesWord) hx hb hml hown hts (s_X11_writesWord l g ad (gset th 38 zz283) _ _ _ 21 hst hT (by decide) (show zz283 + ((lenS.getD 21 0 : Nat) : Int) ≤ 400 by have ql : (lenS.getD 21 0 : Nat) = 1 := (by decide); omega)) cV_X11_writesWord wg_1875 ⟨Nat.le_of_ble_eq_true rfl, Nat.le_of_ble_eq_true rfl⟩ hG hE hA hP hD hS (hst.1 255 (by decide)) hf285 rfl rfl hl.1 (As := [.ref (g.2.2.1 21)]) (rest := []) rfl (Nat.le_of_ble_eq_true rfl) dX11_writesPlan_182 ⟨Nat.le_of_ble_eq_true rfl, Nat.le_of_ble_eq_true rfl⟩) hA hD hS (fun L288 f289 H locs hp290 hP hD hS => ?_)
                        obtain ⟨eL291L, eL291T, eL291F⟩ := hp290
                        have eL291L : L288 = L := eL291L
                        rw [eL291L] at hP hD
                        obtain ⟨zz292, hzz292, eL291T⟩ := eL291T
                        have hgk293 : (gset th 38 zz283) 38 = zz283 := rfl
                        have hT : TI g ad (gset (gset th 38 zz283) 38 zz292) f289 := eL291T
                        have hT : TI g ad (gset th 38 zz292) f289 := TI.cast hT (by funext q; by_cases hq0 : q = 38; (subst hq0; rfl); simp only [gset, if_neg hq0])
                        have eL291F : ∀ b, b ≠ (ad 255) → b ≠ (ad 276) → f289 b = f280 b := eL291F
                        have hfr : (∀ b, b ≠ (ad 255) → b ≠ (ad 276) → f289 b = f b) := fun b z0_ z1_ => (eL291F b z0_ z1_).trans (hfr b z0_ z1_)
                        refine lv_aload_n hx hb dX11_writesPlan_185 rfl (lv_at hl 0 rfl) ?_
                        refine lv_iload_n hx hb dX11_writesPlan_186 rfl (lv_at hl 2 rfl) ?_
                        refine lv_iconst (v := 1) hx hb dX11_writesPlan_187 (by decide) ?_
                        refine lv_iand hx hb dX11_writesPlan_188 ?_
                        refine lv_topi (fun x294 ex294 => ?_)
                        have hb295 : In x294 0 1 := ex294 ▸ In.andr (⟨by decide, by decide⟩ : In 1 1 1) (by decide)
                        refine M0e hT (fun v0_296 v2_296 v3_296 v4_296 v5_296 v6_296 v8_296 v9_296 v12_296 v13_296 v14_296 v15_296 v16_296 v17_296 v18_296 v19_296 v20_296 v21_296 v22_296 v23_296 v25_296 v36_296 v37_296 v38_296 v39_296 v40_296 v45_296 v46_296 v47_296 v48_296 v50_296 v51_296 v53_296 v55_296 hf297 hv0_296 hv2_296 hg2_296 hv3_296 hg3_296 hv4_296 hg4_296 hv5_296 hg5_296 hv6_296 hg6_296 hv8_296 hg8_296 hv9_296 hg9_296 hv12_296 hv13_296 hg13_296 hv14_296 hg14_296 hv15_296 hg15_296 hv17_296 hg17_296 hv20_296 hg20_296 hv23_296 hg23_296 hv25_296 hg25_296 hv36_296 hg36_296 hv47_296 hg47_296 hv48_296 hg48_296 hv53_296 hg53_296 hv55_296 hg55_296 hrel0_296 => ?_)
                        have hg15_296 : v15_296.toInt = th 11 := hg15_296
                        have hg17_296 : v17_296.toInt = th 12 := hg17_296
                        have hg20_296 : v20_296.toInt = th 14 := hg20_296
                        have hb298 : In v15_296 3 9 := ⟨by rw [hg15_296]; exact hn3, hv15_296.2⟩
                        refine call_v (run_V (rm := rm_X11_writesDigit) hx hb hml hown hts (s_X11_writesDigit l g ad (gset th 38 zz292) _ _ _ x294 hst hT (show zz292 < 400 from (by have ob10 : (0 : Int) ≤ (th 10) ∧ (th 10) ≤ 1 := (b0_10 hT :); have ob11 : (0 : Int) ≤ (th 11) ∧ (th 11) ≤ 9 := (b0_11 hT :); have ob12 : (0 : Int) ≤ (th 12) ∧ (th 12) ≤ 6 := (b0_12 hT :); have ob14 : (0 : Int) ≤ (th 14) ∧ (th 14) ≤ 511 := (b0_14 hT :); have ob15 : (0 : Int) ≤ (th 15) ∧ (th 15) ≤ 1 := (b0_15 hT :); have ob16 : (0 : Int) ≤ (th 16) ∧ (th 16) ≤ 20 := (b0_16 hT :); have ob17 : (0 : Int) ≤ (th 17) ∧ (th 17) ≤ 1 := (b0_17 hT :); have ob18 : (0 : Int) ≤ (th 18) ∧ (th 18) ≤ 18 := (b0_18 hT :); have ob38 : (0 : Int) ≤ zz292 ∧ zz292 ≤ 400 := (b0_38 hT :); have ob39 : (0 : Int) ≤ (th 39) ∧ (th 39) ≤ 200 := (b0_39 hT :); have ob44 : (0 : Int) ≤ (th 44) ∧ (th 44) ≤ 30 := (b0_44 hT :); have orn := rnd_b (th 10); obtain ⟨o0a, o0b⟩ := (hv14_296 : In _ _ _); obtain ⟨o1a, o1b⟩ := (hb298 : In _ _ _); obtain ⟨o2a, o2b⟩ := (hv17_296 : In _ _ _); obtain ⟨o3a, o3b⟩ := (hv20_296 : In _ _ _); obtain ⟨o4a, o4b⟩ := (hv23_296 : In _ _ _); obtain ⟨o5a, o5b⟩ := (hv25_296 : In _ _ _); obtain ⟨o6a, o6b⟩ := (hv36_296 : In _ _ _); obtain ⟨o7a, o7b⟩ := (hv47_296 : In _ _ _); obtain ⟨o8a, o8b⟩ := (hv48_296 : In _ _ _); obtain ⟨o9a, o9b⟩ := (hv53_296 : In _ _ _); obtain ⟨o10a, o10b⟩ := (hv55_296 : In _ _ _); omega))) cV_X11_writesDigit wg_1880 ⟨Nat.le_of_ble_eq_true rfl, Nat.le_of_ble_eq_true rfl⟩ hG hE hA hP hD hS (hst.1 255 (by decide)) hf297 rfl rfl hl.1 (As := [.int x294]) (rest := []) rfl (Nat.le_of_ble_eq_true rfl) dX11_writesPlan_189 ⟨Nat.le_of_ble_eq_true rfl, Nat.le_of_ble_eq_true rfl⟩) hA hD hS (fun L300 f301 H locs hp302 hP hD hS => ?_)
                        obtain ⟨eL303L, eL303T, eL303F⟩ := hp302
                        have eL303L : L300 = L := eL303L
                        rw [eL303L] at hP hD
                        obtain ⟨zz304, hzz304, eL303T⟩ := eL303T
                        have hzz304 : zz304 = zz292 + 1 := hzz304
                        have hT : TI g ad (gset (gset th 38 zz292) 38 zz304) f301 := eL303T
                        have hT : TI g ad (gset th 38 zz304) f301 := TI.cast hT (by funext q; by_cases hq0 : q = 38; (subst hq0; rfl); simp only [gset, if_neg hq0])
                        have eL303F : ∀ b, b ≠ (ad 255) → b ≠ (ad 276) → f301 b = f289 b := eL303F
                        have hfr : (∀ b, b ≠ (ad 255) → b ≠ (ad 276) → f301 b = f b) := fun b z0_ z1_ => (eL303F b z0_ z1_).trans (hfr b z0_ z1_)
                        refine lv_iload_n hx hb dX11_writesPlan_192 rfl (lv_at hl 2 rfl) ?_
                        refine lv_iconst (v := 1) hx hb dX11_writesPlan_193 (by decide) ?_
                        refine lv_ishr hx hb dX11_writesPlan_194 ?_
                        refine lv_topi (fun x305 ex305 => ?_)
                        refine lv_istore_n (lv' := [(2, .int x305), (0, .ref (ad 255)), (1, .int z1), (3, .int y9_l3), (4, .int x27), (5, .int x35), (6, .int y36_l6), (7, .int x51), (8, .int x53)]) hx hb dX11_writesPlan_195 rfl hl (by decide) rfl (fun ls hl => ?_)
                        exact hJ196 zz304 x305 _ _ _ _ (by have hii := hK_i hpr; omega) (In.full x305) hP hD hS (TI.cast hT (by funext q; by_cases hq0 : q = 38; (subst hq0; rfl); simp only [gset, if_neg hq0])) hfr (lv_sub hl [1, 2, 0, 3, 4, 5, 6, 7, 8] rfl)
                      refine lv_if_le (tgt := 126) hx hb dX11_writesPlan_116 (by decide) (fun c306 => ?_) (fun c306 => ?_)
                      ·
                        have oc0 : (0 : Int32).toInt = 0 := by decide
                        have cc307 : v53_37.toInt ≤ (0 : Int32).toInt := i32_le.mp c306
                        have hb308 : In v53_37 0 0 := In.le1 hv53_37 (⟨by decide, by decide⟩ : In 0 0 0) cc307 (by decide) (by decide)
                        exact hJ126 zg36_zw _ _ _ _ (by omega) hP hD hS (TI.cast hT (by funext q; by_cases hq0 : q = 38; (subst hq0; rfl); simp only [gset, if_neg hq0])) hfr (lv_sub hl [2, 3, 4, 5, 6, 7, 8, 1, 0] rfl)
                      ·
                        have oc0 : (0 : Int32).toInt = 0 := by decide
                        have cc309 : (0 : Int32).toInt < v53_37.toInt := i32_nle c306
                        have hb310 : In v53_37 1 400 := In.gt1 hv53_37 (⟨by decide, by decide⟩ : In 0 0 0) cc309 (by decide) (by decide)
                        refine lv_aload_n hx hb dX11_writesPlan_119 rfl (lv_at hl 2 rfl) ?_
                        refine va_ldcSw hx hb hown (hG.2.2.1 ("RulerWordModel", 417, ";", 30) (by decide +kernel)) dX11_writesPlan_120 ?_
                        refine call_v (run_V (rm := rm_X11_writesWord) hx hb hml hown hts (s_X11_writesWord l g ad (gset th 38 zg36_zw) _ _ _ 30 hst hT (by decide) (show zg36_zw + ((lenS.getD 30 0 : Nat) : Int) ≤ 400 by have ql : (lenS.getD 30 0 : Nat) = 1 := (by decide); omega)) cV_X11_writesWord wg_1875 ⟨Nat.le_of_ble_eq_true rfl, Nat.le_of_ble_eq_true rfl⟩ hG hE hA hP hD hS (hst.1 255 (by decide)) hf38 rfl rfl hl.1 (As := [.ref (g.2.2.1 30)]) (rest := []) rfl (Nat.le_of_ble_eq_true rfl) dX11_writesPlan_123 ⟨Nat.le_of_ble_eq_true rfl, Nat.le_of_ble_eq_true rfl⟩) hA hD hS (fun L312 f313 H locs hp314 hP hD hS => ?_)
                        obtain ⟨eL315L, eL315T, eL315F⟩ := hp314
                        have eL315L : L312 = L := eL315L
                        rw [eL315L] at hP hD
                        obtain ⟨zz316, hzz316, eL315T⟩ := eL315T
                        have hgk317 : (gset th 38 zg36_zw) 38 = zg36_zw := rfl
                        have hT : TI g ad (gset (gset th 38 zg36_zw) 38 zz316) f313 := eL315T
                        have hT : TI g ad (gset th 38 zz316) f313 := TI.cast hT (by funext q; by_cases hq0 : q = 38; (subst hq0; rfl); simp only [gset, if_neg hq0])
                        have eL315F : ∀ b, b ≠ (ad 255) → b ≠ (ad 276) → f313 b = f_36 b := eL315F
                        have hfr : (∀ b, b ≠ (ad 255) → b ≠ (ad 276) → f313 b = f b) := fun b z0_ z1_ => (eL315F b z0_ z1_).trans (hfr b z0_ z1_)
                        exact hJ126 zz316 _ _ _ _ (by omega) hP hD hS (TI.cast hT (by funext q; by_cases hq0 : q = 38; (subst hq0; rfl); simp only [gset, if_neg hq0])) hfr (lv_sub hl [2, 3, 4, 5, 6, 7, 8, 1, 0] rfl)
                    ·
                      have cc318 : x51.toInt ≠ x203.toInt := i32_ne c205
                      refine lv_goto (tgt := 196) hx hb dX11_writesPlan_109 (by decide) ?_
                      exact hJ196 zg36_zw y36_l2 _ _ _ _ (by have := hK_s (e := rnd (th 10)) (n := th 11) (L := th 14) (k := (((y9_l3.toInt).toNat : Nat) : Int)) (c := (y36_l6.toInt).toNat); omega) hy36_l2 hP hD hS (TI.cast hT (by funext q; by_cases hq0 : q = 38; (subst hq0; rfl); simp only [gset, if_neg hq0])) hfr (lv_sub hl [2, 3, 4, 5, 6, 7, 8, 1, 0] rfl)
        exact hJ36 ((81 - (0 : Int32).toInt).toNat + 1) zg9_zw y9_l2 0 _ _ _ _ (by rw [show ((0 : Int32).toInt).toNat = 0 by decide]; show 0 ≤ _ ∧ _ ≤ 30 * (_ + (0 : Int)); omega) hy9_l2 (⟨by decide, by decide⟩ : In 0 0 81) hP hD hS (TI.cast hT (by funext q; by_cases hq0 : q = 38; (subst hq0; rfl); simp only [gset, if_neg hq0])) hfr (by have e0 : (0 : Int32).toInt = 0 := (by decide); have := Int.mul_nonneg (show 0 ≤ th 11 by omega) (show 0 ≤ th 11 by omega); omega) (lv_sub hl [3, 4, 5, 6, 2, 1, 0] rfl) (msI _)
  exact hJ9 ((18 - (0 : Int32).toInt).toNat + 1) (0 : Int) z1 0 _ _ _ _ (by rw [show ((0 : Int32).toInt).toNat = 0 by decide]; exact ⟨by decide, by show (0 : Int) ≤ 30 * 0; decide⟩) (In.full z1) (⟨by decide, by decide⟩ : In 0 0 18) hP hD hS (TI.cast hT (by funext q; by_cases hq0 : q = 38; (subst hq0; rfl); simp only [gset, if_neg hq0])) hfr (lv_sub hl [2, 3, 1, 0] rfl) (msI _)

abbrev rm_X11_brokenPlan : Room := { frames := 7, cells := 0, slots := 0, locals := 170 }
abbrev po_X11_brokenPlan (g : GG) (ad : Nat → Nat) (th : Nat → Int) (L : List Nat) (f : HP) (z1 : Int32) : Int32 → (List Nat × HP) → Prop := fun r u => u.1 = L ∧ (∃ th' : Nat → Int, (MI th' ∧ SBM th th') ∧ TI g ad th' u.2)
set_option maxHeartbeats 4000000 in
set_option maxRecDepth 100000 in
theorem s_X11_brokenPlan (l : Launch) (g : GG) (ad : Nat → Nat) (th : Nat → Int) (L : List Nat) (f : HP) (sz : Nat) (z1 : Int32) (hst : ST ad L) (hT : TI g ad th f) (hM : MI th) : MtI l g yX11_brokenPlan cX11_brokenPlan 3 (some .int) rm_X11_brokenPlan [.ref (ad 255), .int z1] L f sz (po_X11_brokenPlan g ad th L f z1) := by
  refine MtI.of (by decide +kernel) (Nat.le_of_ble_eq_true rfl) ?_
  intro p e s m below meth c A hEn hP hD hS ls hl
  obtain ⟨hx, hb, hr, hml, hown, hlocks, hts, hG, hA, hE, hnm⟩ := hEn
  have hown : s.vm.findClass "RulerWordModel" = some m.cls := hown
  have hl : lv_has ls 3 [(0, .ref (ad 255)), (1, .int z1)] := hl
  have hM0 := hM
  obtain ⟨m1, m2, m3, m4, m5, m6, m7, m8, m9, m10⟩ := hM0
  have m20 := mi20 m2 m3
  refine lv_aload_n hx hb dX11_brokenPlan_0 rfl (lv_at hl 0 rfl) ?_
  refine lv_iconst (v := 0) hx hb dX11_brokenPlan_1 (by decide) ?_
  refine M0e hT (fun v0_1 v2_1 v3_1 v4_1 v5_1 v6_1 v8_1 v9_1 v12_1 v13_1 v14_1 v15_1 v16_1 v17_1 v18_1 v19_1 v20_1 v21_1 v22_1 v23_1 v25_1 v36_1 v37_1 v38_1 v39_1 v40_1 v45_1 v46_1 v47_1 v48_1 v50_1 v51_1 v53_1 v55_1 hf2 hv0_1 hv2_1 hg2_1 hv3_1 hg3_1 hv4_1 hg4_1 hv5_1 hg5_1 hv6_1 hg6_1 hv8_1 hg8_1 hv9_1 hg9_1 hv12_1 hv13_1 hg13_1 hv14_1 hg14_1 hv15_1 hg15_1 hv17_1 hg17_1 hv20_1 hg20_1 hv23_1 hg23_1 hv25_1 hg25_1 hv36_1 hg36_1 hv47_1 hg47_1 hv48_1 hg48_1 hv53_1 hg53_1 hv55_1 hg55_1 hrel0_1 => ?_)
  have hg15_1 : v15_1.toInt = th 11 := hg15_1
  have hg17_1 : v17_1.toInt = th 12 := hg17_1
  have hg20_1 : v20_1.toInt = th 14 := hg20_1
  refine pl_put (ty := .int) (v := .int 0) (fs' := [.int 0, .ref (ad 256), .int v2_1, .int v3_1, .int v4_1, .int v5_1, .int v6_1, .ref (ad 257), .int v8_1, .int v9_1, .ref (ad 258), .ref (ad 259), .int v12_1, .int v13_1, .int v14_1, .int v15_1, .int v16_1, .int v17_1, .int v18_1, .int v19_1, .int v20_1, .long v21_1, .long v22_1, .int v23_1, .ref (ad 260), .int v25_1, .ref (ad 261), .ref (ad 262), .ref (ad 263), .ref (ad 264), .ref (ad 265), .ref (ad 266), .ref (ad 267), .ref (ad 268), .ref (ad 269), .ref (ad 270), .int v36_1, .int v37_1, .int v38_1, .int v39_1, .int v40_1, .ref (ad 271), .ref (ad 272), .ref (ad 273), .ref (ad 274), .long v45_1, .long v46_1, .int v47_1, .int v48_1, .ref (ad 275), .int v50_1, .int v51_1, .ref (ad 276), .int v53_1, .ref (ad 277), .int v55_1]) hx hb hts (fun w h => mT (inX11 w h)) tyX11 tyX11_ok nmX11 hown hG.1 hP hD hS (hst.1 255 (by decide)) hf2 rfl 0 (by decide) (hts _ (mT wg_1336)) (fun _ h => h) rfl (by decide +kernel) (rfl) (rfl) (Nat.le_of_ble_eq_true rfl) rfl dX11_brokenPlan_2 (fun H locs f3 hf4 ho5 hP hD hS => ?_)
  refine lv_aload_n hx hb dX11_brokenPlan_5 rfl (lv_at hl 0 rfl) ?_
  have hT := TI.updM hT hst (k := 0) (by decide) hf4 ho5 ⟨0, v2_1, v3_1, v4_1, v5_1, v6_1, v8_1, v9_1, v12_1, v13_1, v14_1, v15_1, v16_1, v17_1, v18_1, v19_1, v20_1, v21_1, v22_1, v23_1, v25_1, v36_1, v37_1, v38_1, v39_1, v40_1, v45_1, v46_1, v47_1, v48_1, v50_1, v51_1, v53_1, v55_1, rfl, (⟨by decide, by decide⟩ : In 0 0 1), hv2_1, hg2_1, hv3_1, hg3_1, hv4_1, hg4_1, hv5_1, hg5_1, hv6_1, hg6_1, hv8_1, hg8_1, hv9_1, hg9_1, hv12_1, hv13_1, hg13_1, hv14_1, hg14_1, hv15_1, hg15_1, hv17_1, hg17_1, hv20_1, hg20_1, hv23_1, hg23_1, hv25_1, hg25_1, hv36_1, hg36_1, hv47_1, hg47_1, hv48_1, hg48_1, hv53_1, hg53_1, hv55_1, hg55_1, hrel0_1⟩
  refine call_i (run_V (rm := rm_X11_canSearch) hx hb hml hown hts (s_X11_canSearch l g ad th _ _ _  hst hT (show MI th from hM)) cV_X11_canSearch wg_1834 ⟨Nat.le_of_ble_eq_true rfl, Nat.le_of_ble_eq_true rfl⟩ hG hE hA hP hD hS (hst.1 255 (by decide)) hf4 rfl rfl hl.1 (As := []) (rest := []) rfl (Nat.le_of_ble_eq_true rfl) dX11_brokenPlan_6 ⟨Nat.le_of_ble_eq_true rfl, Nat.le_of_ble_eq_true rfl⟩) hA hD hS (fun r6 L7 f8 H locs hp9 hP hD hS => ?_)
  obtain ⟨eL10L, eL10T, eL10F, eL10R⟩ := hp9
  have eL10L : L7 = L := eL10L
  rw [eL10L] at hP hD
  obtain ⟨zz11, zz12, zz13, hzz11, eL10T⟩ := eL10T
  have hT : TI g ad (gset (gset (gset th 14 zz11) 18 zz12) 44 zz13) f8 := eL10T
  have eL10F : ∀ b, b ≠ (ad 255) → b ≠ (ad 265) → b ≠ (ad 266) → b ≠ (ad 267) → b ≠ (ad 269) → b ≠ (ad 260) → b ≠ (ad 261) → b ≠ (ad 262) → b ≠ (ad 263) → b ≠ (ad 264) → f8 b = f3 b := eL10F
  have eL10R : In r6 0 1 := eL10R
  refine lv_if_ne (tgt := 15) hx hb dX11_brokenPlan_9 (by decide) (fun c14 => ?_) (fun c14 => ?_)
  ·
    have oc0 : (0 : Int32).toInt = 0 := by decide
    have cc15 : r6.toInt ≠ (0 : Int32).toInt := i32_ne c14
    have hb16 : In r6 1 1 := In.ne1 eL10R (⟨by decide, by decide⟩ : In 0 0 0) cc15 (by decide) (by decide)
    refine lv_aload_n hx hb dX11_brokenPlan_15 rfl (lv_at hl 0 rfl) ?_
    refine M0e hT (fun v0_17 v2_17 v3_17 v4_17 v5_17 v6_17 v8_17 v9_17 v12_17 v13_17 v14_17 v15_17 v16_17 v17_17 v18_17 v19_17 v20_17 v21_17 v22_17 v23_17 v25_17 v36_17 v37_17 v38_17 v39_17 v40_17 v45_17 v46_17 v47_17 v48_17 v50_17 v51_17 v53_17 v55_17 hf18 hv0_17 hv2_17 hg2_17 hv3_17 hg3_17 hv4_17 hg4_17 hv5_17 hg5_17 hv6_17 hg6_17 hv8_17 hg8_17 hv9_17 hg9_17 hv12_17 hv13_17 hg13_17 hv14_17 hg14_17 hv15_17 hg15_17 hv17_17 hg17_17 hv20_17 hg20_17 hv23_17 hg23_17 hv25_17 hg25_17 hv36_17 hg36_17 hv47_17 hg47_17 hv48_17 hg48_17 hv53_17 hg53_17 hv55_17 hg55_17 hrel0_17 => ?_)
    have hg15_17 : v15_17.toInt = th 11 := hg15_17
    have hg17_17 : v17_17.toInt = th 12 := hg17_17
    have hg20_17 : v20_17.toInt = zz11 := hg20_17
    refine call_i (run_V (rm := rm_X11_leastBroken) hx hb hml hown hts (s_X11_leastBroken l g ad (gset (gset (gset th 14 zz11) 18 zz12) 44 zz13) _ _ _  hst hT (show 3 ≤ th 11 by omega)) cV_X11_leastBroken wg_1838 ⟨Nat.le_of_ble_eq_true rfl, Nat.le_of_ble_eq_true rfl⟩ hG hE hA hP hD hS (hst.1 255 (by decide)) hf18 rfl rfl hl.1 (As := []) (rest := []) rfl (Nat.le_of_ble_eq_true rfl) dX11_brokenPlan_16 ⟨Nat.le_of_ble_eq_true rfl, Nat.le_of_ble_eq_true rfl⟩) hA hD hS (fun r19 L20 f21 H locs hp22 hP hD hS => ?_)
    obtain ⟨eL23L, eL23T, eL23F⟩ := hp22
    have eL23L : L20 = L := eL23L
    rw [eL23L] at hP hD
    obtain ⟨zz24, hzz24, eL23T⟩ := eL23T
    have hzz24 : True := hzz24
    have hT : TI g ad (gset (gset (gset (gset th 14 zz11) 18 zz12) 44 zz13) 18 zz24) f21 := eL23T
    have hT : TI g ad (gset (gset (gset th 14 zz11) 44 zz13) 18 zz24) f21 := TI.cast hT (by funext q; by_cases hq0 : q = 18; (subst hq0; rfl); by_cases hq1 : q = 44; (subst hq1; rfl); by_cases hq2 : q = 14; (subst hq2; rfl); simp only [gset, if_neg hq0, if_neg hq1, if_neg hq2])
    have eL23F : ∀ b, b ≠ (ad 255) → b ≠ (ad 265) → b ≠ (ad 266) → b ≠ (ad 267) → b ≠ (ad 268) → b ≠ (ad 269) → b ≠ (ad 270) → b ≠ (ad 261) → b ≠ (ad 262) → b ≠ (ad 263) → b ≠ (ad 264) → f21 b = f8 b := eL23F
    refine lv_istore_n (lv' := [(2, .int r19), (0, .ref (ad 255)), (1, .int z1)]) hx hb dX11_brokenPlan_19 rfl hl (by decide) rfl (fun ls hl => ?_)
    refine lv_iload_n hx hb dX11_brokenPlan_20 rfl (lv_at hl 0 rfl) ?_
    refine lv_iconst (v := (-1)) hx hb dX11_brokenPlan_21 (by decide) ?_
    refine lv_icmp_ne (tgt := 27) hx hb dX11_brokenPlan_22 (by decide) (fun c25 => ?_) (fun c25 => ?_)
    ·
      have ocm1 : ((-1) : Int32).toInt = (-1) := by decide
      have cc26 : r19.toInt ≠ ((-1) : Int32).toInt := i32_ne c25
      refine lv_aload_n hx hb dX11_brokenPlan_27 rfl (lv_at hl 1 rfl) ?_
      refine lv_iload_n hx hb dX11_brokenPlan_28 rfl (lv_at hl 0 rfl) ?_
      refine M0e hT (fun v0_27 v2_27 v3_27 v4_27 v5_27 v6_27 v8_27 v9_27 v12_27 v13_27 v14_27 v15_27 v16_27 v17_27 v18_27 v19_27 v20_27 v21_27 v22_27 v23_27 v25_27 v36_27 v37_27 v38_27 v39_27 v40_27 v45_27 v46_27 v47_27 v48_27 v50_27 v51_27 v53_27 v55_27 hf28 hv0_27 hv2_27 hg2_27 hv3_27 hg3_27 hv4_27 hg4_27 hv5_27 hg5_27 hv6_27 hg6_27 hv8_27 hg8_27 hv9_27 hg9_27 hv12_27 hv13_27 hg13_27 hv14_27 hg14_27 hv15_27 hg15_27 hv17_27 hg17_27 hv20_27 hg20_27 hv23_27 hg23_27 hv25_27 hg25_27 hv36_27 hg36_27 hv47_27 hg47_27 hv48_27 hg48_27 hv53_27 hg53_27 hv55_27 hg55_27 hrel0_27 => ?_)
      have hg15_27 : v15_27.toInt = th 11 := hg15_27
      have hg17_27 : v17_27.toInt = th 12 := hg17_27
      have hg20_27 : v20_27.toInt = zz11 := hg20_27
      refine call_v (run_V (rm := rm_X11_writesPlan) hx hb hml hown hts (s_X11_writesPlan l g ad (gset (gset (gset th 14 zz11) 44 zz13) 18 zz24) _ _ _ r19 hst hT (show 3 ≤ th 11 by omega) (show frI (rnd (th 10)) (th 11) (zz11) (th 12) ≤ 12 by omega)) cV_X11_writesPlan wg_1870 ⟨Nat.le_of_ble_eq_true rfl, Nat.le_of_ble_eq_true rfl⟩ hG hE hA hP hD hS (hst.1 255 (by decide)) hf28 rfl rfl hl.1 (As := [.int r19]) (rest := []) rfl (Nat.le_of_ble_eq_true rfl) dX11_brokenPlan_29 ⟨Nat.le_of_ble_eq_true rfl, Nat.le_of_ble_eq_true rfl⟩) hA hD hS (fun L30 f31 H locs hp32 hP hD hS => ?_)
      obtain ⟨eL33L, eL33T, eL33F⟩ := hp32
      have eL33L : L30 = L := eL33L
      rw [eL33L] at hP hD
      obtain ⟨zz34, hzz34, eL33T⟩ := eL33T
      have hzz34 : True := hzz34
      have hT : TI g ad (gset (gset (gset (gset th 14 zz11) 44 zz13) 18 zz24) 38 zz34) f31 := eL33T
      have eL33F : ∀ b, b ≠ (ad 255) → b ≠ (ad 276) → f31 b = f21 b := eL33F
      refine lv_iload_n hx hb dX11_brokenPlan_32 rfl (lv_at hl 2 rfl) ?_
      refine lv_iconst (v := (-1)) hx hb dX11_brokenPlan_33 (by decide) ?_
      refine lv_icmp_ne (tgt := 44) hx hb dX11_brokenPlan_34 (by decide) (fun c35 => ?_) (fun c35 => ?_)
      ·
        have ocm1 : ((-1) : Int32).toInt = (-1) := by decide
        have cc36 : z1.toInt ≠ ((-1) : Int32).toInt := i32_ne c35
        refine lv_iload_n hx hb dX11_brokenPlan_44 rfl (lv_at hl 2 rfl) ?_
        refine lv_i2l hx hb dX11_brokenPlan_45 rfl ?_
        refine lv_lconst (v := 0) hx hb dX11_brokenPlan_46 (by decide) ?_
        refine lv_aload_n hx hb dX11_brokenPlan_47 rfl (lv_at hl 1 rfl) ?_
        refine M0e hT (fun v0_37 v2_37 v3_37 v4_37 v5_37 v6_37 v8_37 v9_37 v12_37 v13_37 v14_37 v15_37 v16_37 v17_37 v18_37 v19_37 v20_37 v21_37 v22_37 v23_37 v25_37 v36_37 v37_37 v38_37 v39_37 v40_37 v45_37 v46_37 v47_37 v48_37 v50_37 v51_37 v53_37 v55_37 hf38 hv0_37 hv2_37 hg2_37 hv3_37 hg3_37 hv4_37 hg4_37 hv5_37 hg5_37 hv6_37 hg6_37 hv8_37 hg8_37 hv9_37 hg9_37 hv12_37 hv13_37 hg13_37 hv14_37 hg14_37 hv15_37 hg15_37 hv17_37 hg17_37 hv20_37 hg20_37 hv23_37 hg23_37 hv25_37 hg25_37 hv36_37 hg36_37 hv47_37 hg47_37 hv48_37 hg48_37 hv53_37 hg53_37 hv55_37 hg55_37 hrel0_37 => ?_)
        have hg15_37 : v15_37.toInt = th 11 := hg15_37
        have hg17_37 : v17_37.toInt = th 12 := hg17_37
        have hg20_37 : v20_37.toInt = zz11 := hg20_37
        refine pl_get (v := .int v53_37) hx hb hts (fun w h => mT (inX11 w h)) hown hG.1 hP (hst.1 255 (by decide)) hf38 rfl 53 (by decide) (hts _ (mT wg_1389)) (fun _ h => h) rfl dX11_brokenPlan_48 ?_
        have hg53_37 : v53_37.toInt = zz34 := hg53_37
        refine lv_iconst (v := 1) hx hb dX11_brokenPlan_51 (by decide) ?_
        refine lv_isub hx hb dX11_brokenPlan_52 ?_
        refine lv_topi (fun x39 ex39 => ?_)
        have hb40 : In x39 (-1) 399 := ex39 ▸ In.sub hv53_37 (⟨by decide, by decide⟩ : In 1 1 1) (by decide) (by decide) (by decide) (by decide)
        have et41 : x39.toInt = v53_37.toInt + (-1) := In.sube ex39 hv53_37 (k := 1) (by decide) (by decide) (by decide)
        refine lv_i2l hx hb dX11_brokenPlan_53 rfl ?_
        refine call_i (run_S (rm := rm_X11_isIn) hx hb hml hown hts (s_X11_isIn l g ad (gset (gset (gset (gset th 14 zz11) 44 zz13) 18 zz24) 38 zz34) _ _ _ (z1.toInt64) 0 (x39.toInt64) hst hT ) cS_X11_isIn wg_1581 ⟨Nat.le_of_ble_eq_true rfl, Nat.le_of_ble_eq_true rfl⟩ hG hE hA hP hD hS rfl hl.1 (As := [.long (z1.toInt64), .long 0, .long (x39.toInt64)]) (rest := []) rfl (Nat.le_of_ble_eq_true rfl) dX11_brokenPlan_54 ⟨Nat.le_of_ble_eq_true rfl, Nat.le_of_ble_eq_true rfl⟩) hA hD hS (fun r42 L43 f44 H locs hp45 hP hD hS => ?_)
        obtain ⟨eL46L, eL46T, eL46R, eL46X0, eL46X1⟩ := hp45
        have eL46L : L43 = L := eL46L
        have eL46T : f44 = f31 := eL46T
        rw [eL46L, eL46T] at hP hD
        have eL46R : In r42 0 1 := eL46R
        have hii47 : r42.toInt = 0 ∨ (0 ≤ z1.toInt ∧ z1.toInt ≤ x39.toInt) := by have z := eL46X0; rw [i2l_t z1, (by decide : (0 : Int64).toInt = 0), i2l_t x39] at z; exact z
        have hii47w : ¬ r42 = 0 → In z1 0 399 := fun c => by have c2 := i32_ne c; have e0 : (0 : Int32).toInt = 0 := (by decide); obtain ⟨o1, p1⟩ := (hb40 : In _ _ _); exact ⟨by omega, by omega⟩
        refine lv_if_eq (tgt := 69) hx hb dX11_brokenPlan_57 (by decide) (fun c48 => ?_) (fun c48 => ?_)
        ·
          have oc0 : (0 : Int32).toInt = 0 := by decide
          have cc49 : r42.toInt = (0 : Int32).toInt := congrArg Int32.toInt c48
          have hb50 : In r42 0 0 := In.eq1 eL46R (⟨by decide, by decide⟩ : In 0 0 0) cc49 (by decide) (by decide)
          refine lv_iconst (v := (-1)) hx hb dX11_brokenPlan_69 (by decide) ?_
          exact ret_i (ty := .int) hx hb hr hlocks (rfl) hP hD hS (Nat.le_of_ble_eq_true rfl) (Nat.le_of_ble_eq_true rfl) (⟨rfl, ⟨(gset (gset (gset (gset th 14 zz11) 44 zz13) 18 zz24) 38 zz34), ⟨(show MI (gset (gset (gset (gset th 14 zz11) 44 zz13) 18 zz24) 38 zz34) from ⟨m1, m2, (show th 20 = (th 12) * rnd (th 10) from m3), m4, m5, m6, m7, m8, m9, m10⟩), (SBM.set (k := 38) (SBM.set (k := 18) (SBM.set (k := 44) (SBM.set (k := 14) (SBM.rf th) (by decide)) (by decide)) (by decide)) (by decide))⟩, hT⟩⟩) dX11_brokenPlan_70
        ·
          have oc0 : (0 : Int32).toInt = 0 := by decide
          have cc51 : r42.toInt ≠ (0 : Int32).toInt := i32_ne c48
          have hb52 : In r42 1 1 := In.ne1 eL46R (⟨by decide, by decide⟩ : In 0 0 0) cc51 (by decide) (by decide)
          have hb53 : In z1 0 399 := In.both (hii47w c48) (In.full z1) (by decide) (by decide)
          refine lv_aload_n hx hb dX11_brokenPlan_60 rfl (lv_at hl 1 rfl) ?_
          refine pl_get (v := .ref (ad 276)) hx hb hts (fun w h => mT (inX11 w h)) hown hG.1 hP (hst.1 255 (by decide)) hf38 rfl 52 (by decide) (hts _ (mT wg_1388)) (fun _ h => h) rfl dX11_brokenPlan_61 ?_
          refine lv_iload_n hx hb dX11_brokenPlan_64 rfl (lv_at hl 2 rfl) ?_
          obtain ⟨rw54, hf55⟩ := hT.2.2 21 (by decide)
          have hin56 : vp_in z1 400 := In.inb hb53 (by decide) (by decide)
          refine pl_iald hx hb hG.1 hP (hst.1 276 (by decide)) 0 hf55 rfl hin56 dX11_brokenPlan_65 ?_
          refine lv_topi (fun x57 ex57 => ?_)
          refine lv_goto (tgt := 70) hx hb dX11_brokenPlan_66 (by decide) ?_
          exact ret_i (ty := .int) hx hb hr hlocks (rfl) hP hD hS (Nat.le_of_ble_eq_true rfl) (Nat.le_of_ble_eq_true rfl) (⟨rfl, ⟨(gset (gset (gset (gset th 14 zz11) 44 zz13) 18 zz24) 38 zz34), ⟨(show MI (gset (gset (gset (gset th 14 zz11) 44 zz13) 18 zz24) 38 zz34) from ⟨m1, m2, (show th 20 = (th 12) * rnd (th 10) from m3), m4, m5, m6, m7, m8, m9, m10⟩), (SBM.set (k := 38) (SBM.set (k := 18) (SBM.set (k := 44) (SBM.set (k := 14) (SBM.rf th) (by decide)) (by decide)) (by decide)) (by decide))⟩, hT⟩⟩) dX11_brokenPlan_70
      ·
        have ocm1 : ((-1) : Int32).toInt = (-1) := by decide
        have cc58 : z1.toInt = ((-1) : Int32).toInt := congrArg Int32.toInt c35
        have hb59 : In z1 (-1) (-1) := In.eq1 (In.full z1) (⟨by decide, by decide⟩ : In (-1) (-1) (-1)) cc58 (by decide) (by decide)
        refine lv_aload_n hx hb dX11_brokenPlan_37 rfl (lv_at hl 1 rfl) ?_
        refine M0e hT (fun v0_60 v2_60 v3_60 v4_60 v5_60 v6_60 v8_60 v9_60 v12_60 v13_60 v14_60 v15_60 v16_60 v17_60 v18_60 v19_60 v20_60 v21_60 v22_60 v23_60 v25_60 v36_60 v37_60 v38_60 v39_60 v40_60 v45_60 v46_60 v47_60 v48_60 v50_60 v51_60 v53_60 v55_60 hf61 hv0_60 hv2_60 hg2_60 hv3_60 hg3_60 hv4_60 hg4_60 hv5_60 hg5_60 hv6_60 hg6_60 hv8_60 hg8_60 hv9_60 hg9_60 hv12_60 hv13_60 hg13_60 hv14_60 hg14_60 hv15_60 hg15_60 hv17_60 hg17_60 hv20_60 hg20_60 hv23_60 hg23_60 hv25_60 hg25_60 hv36_60 hg36_60 hv47_60 hg47_60 hv48_60 hg48_60 hv53_60 hg53_60 hv55_60 hg55_60 hrel0_60 => ?_)
        have hg15_60 : v15_60.toInt = th 11 := hg15_60
        have hg17_60 : v17_60.toInt = th 12 := hg17_60
        have hg20_60 : v20_60.toInt = zz11 := hg20_60
        refine pl_get (v := .int v53_60) hx hb hts (fun w h => mT (inX11 w h)) hown hG.1 hP (hst.1 255 (by decide)) hf61 rfl 53 (by decide) (hts _ (mT wg_1389)) (fun _ h => h) rfl dX11_brokenPlan_38 ?_
        have hg53_60 : v53_60.toInt = zz34 := hg53_60
        refine lv_goto (tgt := 70) hx hb dX11_brokenPlan_41 (by decide) ?_
        exact ret_i (ty := .int) hx hb hr hlocks (rfl) hP hD hS (Nat.le_of_ble_eq_true rfl) (Nat.le_of_ble_eq_true rfl) (⟨rfl, ⟨(gset (gset (gset (gset th 14 zz11) 44 zz13) 18 zz24) 38 zz34), ⟨(show MI (gset (gset (gset (gset th 14 zz11) 44 zz13) 18 zz24) 38 zz34) from ⟨m1, m2, (show th 20 = (th 12) * rnd (th 10) from m3), m4, m5, m6, m7, m8, m9, m10⟩), (SBM.set (k := 38) (SBM.set (k := 18) (SBM.set (k := 44) (SBM.set (k := 14) (SBM.rf th) (by decide)) (by decide)) (by decide)) (by decide))⟩, hT⟩⟩) dX11_brokenPlan_70
    ·
      have ocm1 : ((-1) : Int32).toInt = (-1) := by decide
      have cc62 : r19.toInt = ((-1) : Int32).toInt := congrArg Int32.toInt c25
      have hb63 : In r19 (-1) (-1) := In.eq1 (In.full r19) (⟨by decide, by decide⟩ : In (-1) (-1) (-1)) cc62 (by decide) (by decide)
      refine lv_iconst (v := (-1)) hx hb dX11_brokenPlan_25 (by decide) ?_
      exact ret_i (ty := .int) hx hb hr hlocks (rfl) hP hD hS (Nat.le_of_ble_eq_true rfl) (Nat.le_of_ble_eq_true rfl) (⟨rfl, ⟨(gset (gset (gset th 14 zz11) 44 zz13) 18 zz24), ⟨(show MI (gset (gset (gset th 14 zz11) 44 zz13) 18 zz24) from ⟨m1, m2, (show th 20 = (th 12) * rnd (th 10) from m3), m4, m5, m6, m7, m8, m9, m10⟩), (SBM.set (k := 18) (SBM.set (k := 44) (SBM.set (k := 14) (SBM.rf th) (by decide)) (by decide)) (by decide))⟩, hT⟩⟩) dX11_brokenPlan_26
  ·
    have oc0 : (0 : Int32).toInt = 0 := by decide
    have cc64 : r6.toInt = (0 : Int32).toInt := congrArg Int32.toInt c14
    have hb65 : In r6 0 0 := In.eq1 eL10R (⟨by decide, by decide⟩ : In 0 0 0) cc64 (by decide) (by decide)
    refine lv_bipush (v := (-2)) hx hb dX11_brokenPlan_12 (by decide) ?_
    exact ret_i (ty := .int) hx hb hr hlocks (rfl) hP hD hS (Nat.le_of_ble_eq_true rfl) (Nat.le_of_ble_eq_true rfl) (⟨rfl, ⟨(gset (gset (gset th 14 zz11) 18 zz12) 44 zz13), ⟨(show MI (gset (gset (gset th 14 zz11) 18 zz12) 44 zz13) from ⟨m1, m2, (show th 20 = (th 12) * rnd (th 10) from m3), m4, m5, m6, m7, m8, m9, m10⟩), (SBM.set (k := 44) (SBM.set (k := 18) (SBM.set (k := 14) (SBM.rf th) (by decide)) (by decide)) (by decide))⟩, hT⟩⟩) dX11_brokenPlan_14
