abbrev rm_X11_writesPlan : Room := { frames := 5, cells := 0, slots := 0, locals := 107 }
abbrev po_X11_writesPlan (g : GG) (ad : Nat → Nat) (th : Nat → Int) (L : List Nat) (f : HP) (z1 : Int32) : (List Nat × HP) → Prop := fun u => u.1 = L ∧ (∃ z38 : Int, (True) ∧ TI g ad (gset th 38 z38) u.2) ∧ (∀ b, b ≠ (ad 255) → b ≠ (ad 276) → u.2 b = f b)
set_option maxHeartbeats 4000000 in
set_option maxRecDepth 100000 in
theorem s_X11_writesPlan (l : Launch) (g : GG) (ad : Nat → Nat) (th : Nat → Int) (L : List Nat) (f : HP) (sz : Nat) (z1 : Int32) (hst : ST ad L) (hT : TI g ad th f) (hn3 : 3 ≤ th 11) (hfr12 : frI (rnd (th 10)) (th 11) (th 14) (th 12) ≤ 12) : MtV l g yX11_writesPlan cX11_writesPlan 9 rm_X11_writesPlan [.ref (ad 255), .int z1] L f sz (po_X11_writesPlan g ad th L f z1) := by
  refine MtV.of (by decide +kernel) (Nat.le_of_ble_eq_true rfl) ?_
  intro p e s m below meth c A hEn hP hD hS ls hl
  obtain ⟨hx, hb, hr, hml, hown, hlocks, hts, hG, hA, hE, hnm⟩ := hEn
  have hown : s.vm.findClass "RulerWordModel" = some m.cls := hown
  have hl : lv_has ls 9 [(0, .ref (ad 255)), (1, .int z1)] := hl
  have hfr : (∀ b, b ≠ (ad 255) → b ≠ (ad 276) → f b = f b) := fun b z0_ z1_ => rfl
  have ql30 : ((lenS.getD 30 0 : Nat) : Int) = 1 := by decide
  have ql16 : ((lenS.getD 16 0 : Nat) : Int) = 6 := by decide
  have ql18 : ((lenS.getD 18 0 : Nat) : Int) = 7 := by decide
  have ql19 : ((lenS.getD 19 0 : Nat) : Int) = 6 := by decide
  have ql20 : ((lenS.getD 20 0 : Nat) : Int) = 4 := by decide
  have ql21 : ((lenS.getD 21 0 : Nat) : Int) = 1 := by decide
  refine M0e hT (fun v0_1 v2_1 v3_1 v4_1 v5_1 v6_1 v8_1 v9_1 v12_1 v13_1 v14_1 v15_1 v16_1 v17_1 v18_1 v19_1 v20_1 v21_1 v22_1 v23_1 v25_1 v36_1 v37_1 v38_1 v39_1 v40_1 v45_1 v46_1 v47_1 v48_1 v50_1 v51_1 v53_1 v55_1 hf2 hv0_1 hv2_1 hg2_1 hv3_1 hg3_1 hv4_1 hg4_1 hv5_1 hg5_1 hv6_1 hg6_1 hv8_1 hg8_1 hv9_1 hg9_1 hv12_1 hv13_1 hg13_1 hv14_1 hg14_1 hv15_1 hg15_1 hv17_1 hg17_1 hv20_1 hg20_1 hv23_1 hg23_1 hv25_1 hg25_1 hv36_1 hg36_1 hv47_1 hg47_1 hv48_1 hg48_1 hv53_1 hg53_1 hv55_1 hg55_1 hrel0_1 => ?_)
  have hg15_1 : v15_1.toInt = th 11 := hg15_1
  have hg20_1 : v20_1.toInt = th 14 := hg20_1
  have hb3 : In v15_1 3 9 := ⟨by rw [hg15_1]; exact hn3, hv15_1.2⟩
  have hcap : capI (th 14) (th 11) := by rw [← hg20_1, ← hg15_1]; exact hrel0_1
  have h14 : (0 ≤ th 14 ∧ th 14 ≤ 511) ∧ th 11 ≤ 9 ∧ (0 ≤ th 12 ∧ th 12 ≤ 6) := by obtain ⟨q1, q2⟩ := (hv20_1 : In _ _ _); obtain ⟨q3, q4⟩ := (hb3 : In _ _ _); obtain ⟨q5, q6⟩ := (hv17_1 : In _ _ _); exact ⟨⟨by omega, by omega⟩, by omega, by omega, by omega⟩
  refine lv_aload_n hx hb dX11_writesPlan_0 rfl (lv_at hl 0 rfl) ?_
  refine lv_iconst (v := 0) hx hb dX11_writesPlan_1 (by decide) ?_
  refine pl_put (ty := .int) (v := .int 0) (fs' := [.int v0_1, .ref (ad 256), .int v2_1, .int v3_1, .int v4_1, .int v5_1, .int v6_1, .ref (ad 257), .int v8_1, .int v9_1, .ref (ad 258), .ref (ad 259), .int v12_1, .int v13_1, .int v14_1, .int v15_1, .int v16_1, .int v17_1, .int v18_1, .int v19_1, .int v20_1, .long v21_1, .long v22_1, .int v23_1, .ref (ad 260), .int v25_1, .ref (ad 261), .ref (ad 262), .ref (ad 263), .ref (ad 264), .ref (ad 265), .ref (ad 266), .ref (ad 267), .ref (ad 268), .ref (ad 269), .ref (ad 270), .int v36_1, .int v37_1, .int v38_1, .int v39_1, .int v40_1, .ref (ad 271), .ref (ad 272), .ref (ad 273), .ref (ad 274), .long v45_1, .long v46_1, .int v47_1, .int v48_1, .ref (ad 275), .int v50_1, .int v51_1, .ref (ad 276), .int 0, .ref (ad 277), .int v55_1]) hx hb hts (fun w h => mT (inX11 w h)) tyX11 tyX11_ok nmX11 hown hG.1 hP hD hS (hst.1 255 (by decide)) hf2 rfl 53 (by decide) (hts _ (mT wg_1389)) (fun _ h => h) rfl (by decide +kernel) (rfl) (rfl) (Nat.le_of_ble_eq_true rfl) rfl dX11_writesPlan_2 (fun H locs f4 hf5 ho6 hP hD hS => ?_)
  have hfr : (∀ b, b ≠ (ad 255) → b ≠ (ad 276) → f4 b = f b) := fun b z0_ z1_ => (ho6 b z0_).trans (hfr b z0_ z1_)
  refine lv_iload_n hx hb dX11_writesPlan_5 rfl (lv_at hl 1 rfl) ?_
  refine lv_istore_n (lv' := [(2, .int z1), (0, .ref (ad 255)), (1, .int z1)]) hx hb dX11_writesPlan_6 rfl hl (by decide) rfl (fun ls hl => ?_)
  refine lv_iconst (v := 0) hx hb dX11_writesPlan_7 (by decide) ?_
  refine lv_istore_n (lv' := [(3, .int 0), (2, .int z1), (0, .ref (ad 255)), (1, .int z1)]) hx hb dX11_writesPlan_8 rfl hl (by decide) rfl (fun ls hl => ?_)
  have hT := TI.updMG (th' := (gset th 38 (0))) hT hst (k := 0) (by decide) hf5 ho6 ⟨v0_1, v2_1, v3_1, v4_1, v5_1, v6_1, v8_1, v9_1, v12_1, v13_1, v14_1, v15_1, v16_1, v17_1, v18_1, v19_1, v20_1, v21_1, v22_1, v23_1, v25_1, v36_1, v37_1, v38_1, v39_1, v40_1, v45_1, v46_1, v47_1, v48_1, v50_1, v51_1, 0, v55_1, rfl, hv0_1, hv2_1, hg2_1, hv3_1, hg3_1, hv4_1, hg4_1, hv5_1, hg5_1, hv6_1, hg6_1, hv8_1, hg8_1, hv9_1, hg9_1, hv12_1, hv13_1, hg13_1, hv14_1, hg14_1, (In.mono hb3 (by decide) (by decide)), hg15_1, hv17_1, hg17_1, hv20_1, hg20_1, hv23_1, hg23_1, hv25_1, hg25_1, hv36_1, hg36_1, hv47_1, hg47_1, hv48_1, hg48_1, (⟨by decide, by decide⟩ : In 0 0 400), (show (0 : Int32).toInt = 0 by decide), hv55_1, hg55_1, hrel0_1⟩ (fun q hq => ((gset_ne (fun e => hq (by subst e; decide))).trans rfl))
  have hT : TI g ad (gset th 38 0) f4 := TI.cast hT (by funext q; by_cases hq0 : q = 38; (subst hq0; rfl); simp only [gset, if_neg hq0])
  have hJ9 : ∀ (k9 : Nat) (zg9_zw : Int) (y9_l2 : Int32) (y9_l3 : Int32) (f_9 : HP) (H : Heap) (locs : List Loc) (ls : Array Slot), (0 ≤ zg9_zw ∧ zg9_zw ≤ 30 * gK (rnd (th 10)) (th 11) (th 14) (y9_l3.toInt).toNat) → In y9_l2 (-2147483648) 2147483647 → In y9_l3 0 18 → va_P g.1 vwCl (va_pl L f_9) H → va_D A (va_pl L f_9) → va_S A s.heap H locs → TI g ad (gset th 38 zg9_zw) f_9 → (∀ b, b ≠ (ad 255) → b ≠ (ad 276) → f_9 b = f b) → lv_has ls 9 [(0, .ref (ad 255)), (1, .int z1), (2, .int y9_l2), (3, .int y9_l3)] → 18 - y9_l3.toInt < ((k9 : Nat) : Int) → W p l e rm_X11_writesPlan s m [.ref (ad 255), .int z1].toArray below meth c H locs 0 0 (MQ below (va_Qv (po_X11_writesPlan g ad th L f z1) (PstB g A) A) [.ref (ad 255), .int z1].toArray s rm_X11_writesPlan.cells rm_X11_writesPlan.slots A) (F0 m 9 ls []) := by
    intro k9
    induction k9 with
    | zero =>
      intro zg9_zw y9_l2 y9_l3 f_9 H locs ls hzg9 hy9_l2 hy9_l3 hP hD hS hT hfr hl hmz9
      exact ms0 hy9_l3 hmz9
    | succ k9 ih9 =>
      intro zg9_zw y9_l2 y9_l3 f_9 H locs ls hzg9 hy9_l2 hy9_l3 hP hD hS hT hfr hl hmz9
      refine lv_iload_n hx hb dX11_writesPlan_9 rfl (lv_at hl 3 rfl) ?_
      refine lv_aload_n hx hb dX11_writesPlan_10 rfl (lv_at hl 0 rfl) ?_
      refine M0e hT (fun v0_7 v2_7 v3_7 v4_7 v5_7 v6_7 v8_7 v9_7 v12_7 v13_7 v14_7 v15_7 v16_7 v17_7 v18_7 v19_7 v20_7 v21_7 v22_7 v23_7 v25_7 v36_7 v37_7 v38_7 v39_7 v40_7 v45_7 v46_7 v47_7 v48_7 v50_7 v51_7 v53_7 v55_7 hf8 hv0_7 hv2_7 hg2_7 hv3_7 hg3_7 hv4_7 hg4_7 hv5_7 hg5_7 hv6_7 hg6_7 hv8_7 hg8_7 hv9_7 hg9_7 hv12_7 hv13_7 hg13_7 hv14_7 hg14_7 hv15_7 hg15_7 hv17_7 hg17_7 hv20_7 hg20_7 hv23_7 hg23_7 hv25_7 hg25_7 hv36_7 hg36_7 hv47_7 hg47_7 hv48_7 hg48_7 hv53_7 hg53_7 hv55_7 hg55_7 hrel0_7 => ?_)
      have hg15_7 : v15_7.toInt = th 11 := hg15_7
      have hg20_7 : v20_7.toInt = th 14 := hg20_7
      have hb9 : In v15_7 3 9 := ⟨by rw [hg15_7]; exact hn3, hv15_7.2⟩
      refine call_i (run_V (rm := rm_X11_inAll) hx hb hml hown hts (s_X11_inAll l g ad (gset th 38 zg9_zw) _ _ _  hst hT ) cV_X11_inAll wg_1632 ⟨Nat.le_of_ble_eq_true rfl, Nat.le_of_ble_eq_true rfl⟩ hG hE hA hP hD hS (hst.1 255 (by decide)) hf8 rfl rfl hl.1 (As := []) (rest := [.int y9_l3]) rfl (Nat.le_of_ble_eq_true rfl) dX11_writesPlan_11 ⟨Nat.le_of_ble_eq_true rfl, Nat.le_of_ble_eq_true rfl⟩) hA hD hS (fun r10 L11 f12 H locs hp13 hP hD hS => ?_)
      obtain ⟨eL14L, eL14T, eL14R, eL14X0⟩ := hp13
      have eL14L : L11 = L := eL14L
      have eL14T : f12 = f_9 := eL14T
      rw [eL14L, eL14T] at hP hD
      have eL14R : In r10 0 18 := eL14R
      have hia15 : r10.toInt = (th 12) * rnd (th 10) := eL14X0
      refine lv_icmp_ge (tgt := 208) hx hb dX11_writesPlan_14 (by decide) (fun c16 => ?_) (fun c16 => ?_)
      ·
        have cc17 : r10.toInt ≤ y9_l3.toInt := i32_le.mp c16
        exact ret_v hx hb hr hlocks hP hD hS (Nat.le_of_ble_eq_true rfl) (Nat.le_of_ble_eq_true rfl) (⟨rfl, ⟨zg9_zw, trivial, TI.cast hT (by funext q; by_cases hq0 : q = 38; (subst hq0; rfl); simp only [gset, if_neg hq0])⟩, hfr⟩) dX11_writesPlan_208
      ·
        have cc18 : y9_l3.toInt < r10.toInt := i32_nle c16
        have hb19 : In y9_l3 0 17 := In.lt1 hy9_l3 eL14R cc18 (by decide) (by decide)
        have hb20 : In r10 1 18 := In.lt2 hy9_l3 eL14R cc18 (by decide) (by decide)
        refine lv_iload_n hx hb dX11_writesPlan_17 rfl (lv_at hl 3 rfl) ?_
        refine lv_aload_n hx hb dX11_writesPlan_18 rfl (lv_at hl 0 rfl) ?_
        refine call_i (run_V (rm := rm_X11_each) hx hb hml hown hts (s_X11_each l g ad (gset th 38 zg9_zw) _ _ _  hst hT ) cV_X11_each wg_1636 ⟨Nat.le_of_ble_eq_true rfl, Nat.le_of_ble_eq_true rfl⟩ hG hE hA hP hD hS (hst.1 255 (by decide)) hf8 rfl rfl hl.1 (As := []) (rest := [.int y9_l3]) rfl (Nat.le_of_ble_eq_true rfl) dX11_writesPlan_19 ⟨Nat.le_of_ble_eq_true rfl, Nat.le_of_ble_eq_true rfl⟩) hA hD hS (fun r21 L22 f23 H locs hp24 hP hD hS => ?_)
        obtain ⟨eL25L, eL25T, eL25R, eL25X0⟩ := hp24
        have eL25L : L22 = L := eL25L
        have eL25T : f23 = f_9 := eL25T
        rw [eL25L, eL25T] at hP hD
        have eL25R : In r21 2 3 := eL25R
        have hrn26 : r21.toInt = rnd (th 10) := eL25X0
        refine lv_idiv hx hb dX11_writesPlan_22 (In.ne0 eL25R (by decide)) ?_
        refine lv_topi (fun x27 ex27 => ?_)
        have hb28 : In x27 0 8 := ex27 ▸ In.div hb19 eL25R (by decide) (by decide) (by decide) (by decide)
        refine lv_istore (lv' := [(4, .int x27), (0, .ref (ad 255)), (1, .int z1), (2, .int y9_l2), (3, .int y9_l3)]) hx hb dX11_writesPlan_23 hl (by decide) rfl (fun ls hl => ?_)
        refine lv_iload_n hx hb dX11_writesPlan_25 rfl (lv_at hl 4 rfl) ?_
        refine lv_aload_n hx hb dX11_writesPlan_26 rfl (lv_at hl 1 rfl) ?_
        refine call_i (run_V (rm := rm_X11_each) hx hb hml hown hts (s_X11_each l g ad (gset th 38 zg9_zw) _ _ _  hst hT ) cV_X11_each wg_1636 ⟨Nat.le_of_ble_eq_true rfl, Nat.le_of_ble_eq_true rfl⟩ hG hE hA hP hD hS (hst.1 255 (by decide)) hf8 rfl rfl hl.1 (As := []) (rest := [.int y9_l3]) rfl (Nat.le_of_ble_eq_true rfl) dX11_writesPlan_27 ⟨Nat.le_of_ble_eq_true rfl, Nat.le_of_ble_eq_true rfl⟩) hA hD hS (fun r29 L30 f31 H locs hp32 hP hD hS => ?_)
        obtain ⟨eL33L, eL33T, eL33R, eL33X0⟩ := hp32
        have eL33L : L30 = L := eL33L
        have eL33T : f31 = f_9 := eL33T
        rw [eL33L, eL33T] at hP hD
        have eL33R : In r29 2 3 := eL33R
        have hrn34 : r29.toInt = rnd (th 10) := eL33X0
        refine lv_irem hx hb dX11_writesPlan_30 (In.ne0 eL33R (by decide)) ?_
        refine lv_topi (fun x35 ex35 => ?_)
        have hb36 : In x35 0 2 := ex35 ▸ In.rem hb19 eL33R (by decide) (by decide) (by decide)
        refine lv_istore (lv' := [(5, .int x35), (4, .int x27), (0, .ref (ad 255)), (1, .int z1), (2, .int y9_l2), (3, .int y9_l3)]) hx hb dX11_writesPlan_31 hl (by decide) rfl (fun ls hl => ?_)
        refine lv_iconst (v := 0) hx hb dX11_writesPlan_33 (by decide) ?_
        refine lv_istore (lv' := [(6, .int 0), (5, .int x35), (4, .int x27), (0, .ref (ad 255)), (1, .int z1), (2, .int y9_l2), (3, .int y9_l3)]) hx hb dX11_writesPlan_34 hl (by decide) rfl (fun ls hl => ?_)
        have hJ36 : ∀ (k36 : Nat) (zg36_zw : Int) (y36_l2 : Int32) (y36_l6 : Int32) (f_36 : HP) (H : Heap) (locs : List Loc) (ls : Array Slot), (0 ≤ zg36_zw ∧ zg36_zw ≤ 30 * (gK (rnd (th 10)) (th 11) (th 14) (y9_l3.toInt).toNat + hK (rnd (th 10)) (th 11) (th 14) (((y9_l3.toInt).toNat : Nat) : Int) (y36_l6.toInt).toNat)) → In y36_l2 (-2147483648) 2147483647 → In y36_l6 0 81 → va_P g.1 vwCl (va_pl L f_36) H → va_D A (va_pl L f_36) → va_S A s.heap H locs → TI g ad (gset th 38 zg36_zw) f_36 → (∀ b, b ≠ (ad 255) → b ≠ (ad 276) → f_36 b = f b) → (y36_l6.toInt ≤ th 11 * th 11) → lv_has ls 9 [(0, .ref (ad 255)), (1, .int z1), (2, .int y36_l2), (3, .int y9_l3), (4, .int x27), (5, .int x35), (6, .int y36_l6)] → 81 - y36_l6.toInt < ((k36 : Nat) : Int) → W p l e rm_X11_writesPlan s m [.ref (ad 255), .int z1].toArray below meth c H locs 0 0 (MQ below (va_Qv (po_X11_writesPlan g ad th L f z1) (PstB g A) A) [.ref (ad 255), .int z1].toArray s rm_X11_writesPlan.cells rm_X11_writesPlan.slots A) (F0 m 36 ls []) := by
          intro k36
          induction k36 with
          | zero =>
            intro zg36_zw y36_l2 y36_l6 f_36 H locs ls hzg36 hy36_l2 hy36_l6 hP hD hS hT hfr hxi36_0 hl hmz36
            exact ms0 hy36_l6 hmz36
          | succ k36 ih36 =>
            intro zg36_zw y36_l2 y36_l6 f_36 H locs ls hzg36 hy36_l2 hy36_l6 hP hD hS hT hfr hxi36_0 hl hmz36
            refine lv_iload hx hb dX11_writesPlan_36 (lv_at hl 6 rfl) ?_
            refine lv_aload_n hx hb dX11_writesPlan_38 rfl (lv_at hl 0 rfl) ?_
            refine M0e hT (fun v0_37 v2_37 v3_37 v4_37 v5_37 v6_37 v8_37 v9_37 v12_37 v13_37 v14_37 v15_37 v16_37 v17_37 v18_37 v19_37 v20_37 v21_37 v22_37 v23_37 v25_37 v36_37 v37_37 v38_37 v39_37 v40_37 v45_37 v46_37 v47_37 v48_37 v50_37 v51_37 v53_37 v55_37 hf38 hv0_37 hv2_37 hg2_37 hv3_37 hg3_37 hv4_37 hg4_37 hv5_37 hg5_37 hv6_37 hg6_37 hv8_37 hg8_37 hv9_37 hg9_37 hv12_37 hv13_37 hg13_37 hv14_37 hg14_37 hv15_37 hg15_37 hv17_37 hg17_37 hv20_37 hg20_37 hv23_37 hg23_37 hv25_37 hg25_37 hv36_37 hg36_37 hv47_37 hg47_37 hv48_37 hg48_37 hv53_37 hg53_37 hv55_37 hg55_37 hrel0_37 => ?_)
            have hg15_37 : v15_37.toInt = th 11 := hg15_37
            have hg20_37 : v20_37.toInt = th 14 := hg20_37
            have hb39 : In v15_37 3 9 := ⟨by rw [hg15_37]; exact hn3, hv15_37.2⟩
            refine pl_get (v := .int v15_37) hx hb hts (fun w h => mT (inX11 w h)) hown hG.1 hP (hst.1 255 (by decide)) hf38 rfl 15 (by decide) (hts _ (mT wg_1351)) (fun _ h => h) rfl dX11_writesPlan_39 ?_
            refine lv_aload_n hx hb dX11_writesPlan_42 rfl (lv_at hl 0 rfl) ?_
            refine pl_get (v := .int v15_37) hx hb hts (fun w h => mT (inX11 w h)) hown hG.1 hP (hst.1 255 (by decide)) hf38 rfl 15 (by decide) (hts _ (mT wg_1351)) (fun _ h => h) rfl dX11_writesPlan_43 ?_
            refine lv_imul hx hb dX11_writesPlan_46 ?_
            refine lv_topi (fun x40 ex40 => ?_)
            have hb41 : In x40 9 81 := ex40 ▸ In.mul hb39 hb39 (by decide) (by decide) (by decide) (by decide) (by decide)
            have hsq42 : x40.toInt = th 11 * th 11 := by rw [ex40, mulB (a := 9) (b := 9) (In.mono hb39 (by decide) (by decide)) (In.mono hb39 (by decide) (by decide)) (A := 9) (B := 9) (by decide) (by decide) (by decide) (by decide), hg15_37]
            refine lv_icmp_ge (tgt := 202) hx hb dX11_writesPlan_47 (by decide) (fun c43 => ?_) (fun c43 => ?_)
            ·
              have cc44 : x40.toInt ≤ y36_l6.toInt := i32_le.mp c43
              have hb45 : In y36_l6 9 81 := In.ge1 hy36_l6 hb41 cc44 (by decide) (by decide)
              obtain ⟨x46, ex46⟩ : ∃ y : Int32, y = y9_l3 + 1 := ⟨_, rfl⟩
              have hb47 : In x46 1 18 := ex46 ▸ In.add hb19 (⟨by decide, by decide⟩ : In 1 1 1) (by decide) (by decide) (by decide) (by decide)
              have et48 : x46.toInt = y9_l3.toInt + 1 := In.adde ex46 hb19 (k := 1) (by decide) (by decide) (by decide)
              refine lv_iinc (v := x46) (lv' := [(3, .int x46), (0, .ref (ad 255)), (1, .int z1), (2, .int y36_l2), (4, .int x27), (5, .int x35), (6, .int y36_l6)]) hx hb dX11_writesPlan_202 hl (k := 3) rfl (by rw [ex46]; rfl) (by decide) rfl (fun ls hl => ?_)
              refine lv_goto (tgt := 9) hx hb dX11_writesPlan_205 (by decide) ?_
              exact ih9 zg36_zw y36_l2 x46 _ _ _ _ (by have hs := hK_le (e := rnd (th 10)) (n := th 11) (L := th 14) (k := (((y9_l3.toInt).toNat : Nat) : Int)) (c := (y36_l6.toInt).toNat) (d := (th 11 * th 11).toNat) (by have ob10 : (0 : Int) ≤ (th 10) ∧ (th 10) ≤ 1 := (b0_10 hT :); have ob11 : (0 : Int) ≤ (th 11) ∧ (th 11) ≤ 9 := (b0_11 hT :); have ob12 : (0 : Int) ≤ (th 12) ∧ (th 12) ≤ 6 := (b0_12 hT :); have ob14 : (0 : Int) ≤ (th 14) ∧ (th 14) ≤ 511 := (b0_14 hT :); have ob15 : (0 : Int) ≤ (th 15) ∧ (th 15) ≤ 1 := (b0_15 hT :); have ob16 : (0 : Int) ≤ (th 16) ∧ (th 16) ≤ 20 := (b0_16 hT :); have ob17 : (0 : Int) ≤ (th 17) ∧ (th 17) ≤ 1 := (b0_17 hT :); have ob18 : (0 : Int) ≤ (th 18) ∧ (th 18) ≤ 18 := (b0_18 hT :); have ob38 : (0 : Int) ≤ zg36_zw ∧ zg36_zw ≤ 400 := (b0_38 hT :); have ob39 : (0 : Int) ≤ (th 39) ∧ (th 39) ≤ 200 := (b0_39 hT :); have ob44 : (0 : Int) ≤ (th 44) ∧ (th 44) ≤ 30 := (b0_44 hT :); have orn := rnd_b (th 10); obtain ⟨o0a, o0b⟩ := (hb45 : In _ _ _); obtain ⟨o1a, o1b⟩ := (hv14_37 : In _ _ _); obtain ⟨o2a, o2b⟩ := (hb39 : In _ _ _); obtain ⟨o3a, o3b⟩ := (hv17_37 : In _ _ _); obtain ⟨o4a, o4b⟩ := (hv20_37 : In _ _ _); obtain ⟨o5a, o5b⟩ := (hv23_37 : In _ _ _); obtain ⟨o6a, o6b⟩ := (hv25_37 : In _ _ _); obtain ⟨o7a, o7b⟩ := (hv36_37 : In _ _ _); obtain ⟨o8a, o8b⟩ := (hv47_37 : In _ _ _); obtain ⟨o9a, o9b⟩ := (hv48_37 : In _ _ _); obtain ⟨o10a, o10b⟩ := (hv53_37 : In _ _ _); obtain ⟨o11a, o11b⟩ := (hv55_37 : In _ _ _); obtain ⟨o12a, o12b⟩ := (hb41 : In _ _ _); omega); have hg : gK (rnd (th 10)) (th 11) (th 14) ((y9_l3.toInt).toNat + 1) = gK (rnd (th 10)) (th 11) (th 14) (y9_l3.toInt).toNat + hK (rnd (th 10)) (th 11) (th 14) (((y9_l3.toInt).toNat : Nat) : Int) (th 11 * th 11).toNat := rfl; rw [show (x46.toInt).toNat = (y9_l3.toInt).toNat + 1 from (by have ob10 : (0 : Int) ≤ (th 10) ∧ (th 10) ≤ 1 := (b0_10 hT :); have ob11 : (0 : Int) ≤ (th 11) ∧ (th 11) ≤ 9 := (b0_11 hT :); have ob12 : (0 : Int) ≤ (th 12) ∧ (th 12) ≤ 6 := (b0_12 hT :); have ob14 : (0 : Int) ≤ (th 14) ∧ (th 14) ≤ 511 := (b0_14 hT :); have ob15 : (0 : Int) ≤ (th 15) ∧ (th 15) ≤ 1 := (b0_15 hT :); have ob16 : (0 : Int) ≤ (th 16) ∧ (th 16) ≤ 20 := (b0_16 hT :); have ob17 : (0 : Int) ≤ (th 17) ∧ (th 17) ≤ 1 := (b0_17 hT :); have ob18 : (0 : Int) ≤ (th 18) ∧ (th 18) ≤ 18 := (b0_18 hT :); have ob38 : (0 : Int) ≤ zg36_zw ∧ zg36_zw ≤ 400 := (b0_38 hT :); have ob39 : (0 : Int) ≤ (th 39) ∧ (th 39) ≤ 200 := (b0_39 hT :); have ob44 : (0 : Int) ≤ (th 44) ∧ (th 44) ≤ 30 := (b0_44 hT :); have orn := rnd_b (th 10); obtain ⟨o0a, o0b⟩ := (hb47 : In _ _ _); obtain ⟨o1a, o1b⟩ := (hv14_37 : In _ _ _); obtain ⟨o2a, o2b⟩ := (hb39 : In _ _ _); obtain ⟨o3a, o3b⟩ := (hv17_37 : In _ _ _); obtain ⟨o4a, o4b⟩ := (hv20_37 : In _ _ _); obtain ⟨o5a, o5b⟩ := (hv23_37 : In _ _ _); obtain ⟨o6a, o6b⟩ := (hv25_37 : In _ _ _); obtain ⟨o7a, o7b⟩ := (hv36_37 : In _ _ _); obtain ⟨o8a, o8b⟩ := (hv47_37 : In _ _ _); obtain ⟨o9a, o9b⟩ := (hv48_37 : In _ _ _); obtain ⟨o10a, o10b⟩ := (hv53_37 : In _ _ _); obtain ⟨o11a, o11b⟩ := (hv55_37 : In _ _ _); obtain ⟨o12a, o12b⟩ := (hb19 : In _ _ _); obtain ⟨o13a, o13b⟩ := (hb20 : In _ _ _); omega)]; exact ⟨by omega, by omega⟩) hy36_l2 (In.mono hb47 (by decide) (by decide)) hP hD hS (TI.cast hT (by funext q; by_cases hq0 : q = 38; (subst hq0; rfl); simp only [gset, if_neg hq0])) hfr (lv_sub hl [1, 2, 3, 0] rfl) (msu et48 (by decide) hmz9)
            ·
              have cc49 : y36_l6.toInt < x40.toInt := i32_nle c43
              have hb50 : In y36_l6 0 80 := In.lt1 hy36_l6 hb41 cc49 (by decide) (by decide)
              refine lv_iload hx hb dX11_writesPlan_50 (lv_at hl 6 rfl) ?_
              refine lv_aload_n hx hb dX11_writesPlan_52 rfl (lv_at hl 0 rfl) ?_
              refine pl_get (v := .int v15_37) hx hb hts (fun w h => mT (inX11 w h)) hown hG.1 hP (hst.1 255 (by decide)) hf38 rfl 15 (by decide) (hts _ (mT wg_1351)) (fun _ h => h) rfl dX11_writesPlan_53 ?_
              refine lv_idiv hx hb dX11_writesPlan_56 (In.ne0 hb39 (by decide)) ?_
              refine lv_topi (fun x51 ex51 => ?_)
              have hb52 : In x51 0 26 := ex51 ▸ In.div hb50 hb39 (by decide) (by decide) (by decide) (by decide)
              refine lv_istore (lv' := [(7, .int x51), (0, .ref (ad 255)), (1, .int z1), (2, .int y36_l2), (3, .int y9_l3), (4, .int x27), (5, .int x35), (6, .int y36_l6)]) hx hb dX11_writesPlan_57 hl (by decide) rfl (fun ls hl => ?_)
              refine lv_iload hx hb dX11_writesPlan_59 (lv_at hl 7 rfl) ?_
              refine lv_aload_n hx hb dX11_writesPlan_61 rfl (lv_at hl 1 rfl) ?_
              refine pl_get (v := .int v15_37) hx hb hts (fun w h => mT (inX11 w h)) hown hG.1 hP (hst.1 255 (by decide)) hf38 rfl 15 (by decide) (hts _ (mT wg_1351)) (fun _ h => h) rfl dX11_writesPlan_62 ?_
              refine lv_irem hx hb dX11_writesPlan_65 (In.ne0 hb39 (by decide)) ?_
              refine lv_topi (fun x53 ex53 => ?_)
              have hb54 : In x53 0 8 := ex53 ▸ In.rem hb50 hb39 (by decide) (by decide) (by decide)
              refine lv_istore (lv' := [(8, .int x53), (7, .int x51), (0, .ref (ad 255)), (1, .int z1), (2, .int y36_l2), (3, .int y9_l3), (4, .int x27), (5, .int x35), (6, .int y36_l6)]) hx hb dX11_writesPlan_66 hl (by decide) rfl (fun ls hl => ?_)
              refine lv_aload_n hx hb dX11_writesPlan_68 rfl (lv_at hl 2 rfl) ?_
              refine lv_iload hx hb dX11_writesPlan_69 (lv_at hl 1 rfl) ?_
              refine call_i (run_V (rm := rm_X11_isLiar) hx hb hml hown hts (s_X11_isLiar l g ad (gset th 38 zg36_zw) _ _ _ x51 hst hT ) cV_X11_isLiar wg_1664 ⟨Nat.le_of_ble_eq_true rfl, Nat.le_of_ble_eq_true rfl⟩ hG hE hA hP hD hS (hst.1 255 (by decide)) hf38 rfl rfl hl.1 (As := [.int x51]) (rest := []) rfl (Nat.le_of_ble_eq_true rfl) dX11_writesPlan_71 ⟨Nat.le_of_ble_eq_true rfl, Nat.le_of_ble_eq_true rfl⟩) hA hD hS (fun r55 L56 f57 H locs hp58 hP hD hS => ?_)
              obtain ⟨eL59L, eL59T, eL59R, eL59X0⟩ := hp58
              have eL59L : L56 = L := eL59L
              have eL59T : f57 = f_36 := eL59T
              rw [eL59L, eL59T] at hP hD
              have eL59R : In r55 0 1 := eL59R
              have hbl60 : r55.toInt = bitI (th 14) x51.toInt := eL59X0 (In.mono hb52 (by decide) (by decide))
              have hJ196 : ∀ (zg196_zw : Int) (y196_l2 : Int32) (f_196 : HP) (H : Heap) (locs : List Loc) (ls : Array Slot), (0 ≤ zg196_zw ∧ zg196_zw ≤ 30 * (gK (rnd (th 10)) (th 11) (th 14) (y9_l3.toInt).toNat + hK (rnd (th 10)) (th 11) (th 14) (((y9_l3.toInt).toNat : Nat) : Int) ((y36_l6.toInt).toNat + 1))) → In y196_l2 (-2147483648) 2147483647 → va_P g.1 vwCl (va_pl L f_196) H → va_D A (va_pl L f_196) → va_S A s.heap H locs → TI g ad (gset th 38 zg196_zw) f_196 → (∀ b, b ≠ (ad 255) → b ≠ (ad 276) → f_196 b = f b) → lv_has ls 9 [(0, .ref (ad 255)), (1, .int z1), (2, .int y196_l2), (3, .int y9_l3), (4, .int x27), (5, .int x35), (6, .int y36_l6), (7, .int x51), (8, .int x53)] → W p l e rm_X11_writesPlan s m [.ref (ad 255), .int z1].toArray below meth c H locs 0 0 (MQ below (va_Qv (po_X11_writesPlan g ad th L f z1) (PstB g A) A) [.ref (ad 255), .int z1].toArray s rm_X11_writesPlan.cells rm_X11_writesPlan.slots A) (F0 m 196 ls []) := by
                intro zg196_zw y196_l2 f_196 H locs ls hzg196 hy196_l2 hP hD hS hT hfr hl
                obtain ⟨x61, ex61⟩ : ∃ y : Int32, y = y36_l6 + 1 := ⟨_, rfl⟩
                have hb62 : In x61 1 81 := ex61 ▸ In.add hb50 (⟨by decide, by decide⟩ : In 1 1 1) (by decide) (by decide) (by decide) (by decide)
                have et63 : x61.toInt = y36_l6.toInt + 1 := In.adde ex61 hb50 (k := 1) (by decide) (by decide) (by decide)
                refine lv_iinc (v := x61) (lv' := [(6, .int x61), (0, .ref (ad 255)), (1, .int z1), (2, .int y196_l2), (3, .int y9_l3), (4, .int x27), (5, .int x35), (7, .int x51), (8, .int x53)]) hx hb dX11_writesPlan_196 hl (k := 6) rfl (by rw [ex61]; rfl) (by decide) rfl (fun ls hl => ?_)
                refine lv_goto (tgt := 36) hx hb dX11_writesPlan_199 (by decide) ?_
                exact ih36 zg196_zw y196_l2 x61 _ _ _ _ (by rw [show (x61.toInt).toNat = (y36_l6.toInt).toNat + 1 from (by have ob10 : (0 : Int) ≤ (th 10) ∧ (th 10) ≤ 1 := (b0_10 hT :); have ob11 : (0 : Int) ≤ (th 11) ∧ (th 11) ≤ 9 := (b0_11 hT :); have ob12 : (0 : Int) ≤ (th 12) ∧ (th 12) ≤ 6 := (b0_12 hT :); have ob14 : (0 : Int) ≤ (th 14) ∧ (th 14) ≤ 511 := (b0_14 hT :); have ob15 : (0 : Int) ≤ (th 15) ∧ (th 15) ≤ 1 := (b0_15 hT :); have ob16 : (0 : Int) ≤ (th 16) ∧ (th 16) ≤ 20 := (b0_16 hT :); have ob17 : (0 : Int) ≤ (th 17) ∧ (th 17) ≤ 1 := (b0_17 hT :); have ob18 : (0 : Int) ≤ (th 18) ∧ (th 18) ≤ 18 := (b0_18 hT :); have ob38 : (0 : Int) ≤ zg196_zw ∧ zg196_zw ≤ 400 := (b0_38 hT :); have ob39 : (0 : Int) ≤ (th 39) ∧ (th 39) ≤ 200 := (b0_39 hT :); have ob44 : (0 : Int) ≤ (th 44) ∧ (th 44) ≤ 30 := (b0_44 hT :); have orn := rnd_b (th 10); obtain ⟨o0a, o0b⟩ := (hb62 : In _ _ _); obtain ⟨o1a, o1b⟩ := (hb50 : In _ _ _); obtain ⟨o2a, o2b⟩ := (hb41 : In _ _ _); omega)]; exact hzg196) hy196_l2 (In.mono hb62 (by decide) (by decide)) hP hD hS (TI.cast hT (by funext q; by_cases hq0 : q = 38; (subst hq0; rfl); simp only [gset, if_neg hq0])) hfr (by have ob10 : (0 : Int) ≤ (th 10) ∧ (th 10) ≤ 1 := (b0_10 hT :); have ob11 : (0 : Int) ≤ (th 11) ∧ (th 11) ≤ 9 := (b0_11 hT :); have ob12 : (0 : Int) ≤ (th 12) ∧ (th 12) ≤ 6 := (b0_12 hT :); have ob14 : (0 : Int) ≤ (th 14) ∧ (th 14) ≤ 511 := (b0_14 hT :); have ob15 : (0 : Int) ≤ (th 15) ∧ (th 15) ≤ 1 := (b0_15 hT :); have ob16 : (0 : Int) ≤ (th 16) ∧ (th 16) ≤ 20 := (b0_16 hT :); have ob17 : (0 : Int) ≤ (th 17) ∧ (th 17) ≤ 1 := (b0_17 hT :); have ob18 : (0 : Int) ≤ (th 18) ∧ (th 18) ≤ 18 := (b0_18 hT :); have ob38 : (0 : Int) ≤ zg196_zw ∧ zg196_zw ≤ 400 := (b0_38 hT :); have ob39 : (0 : Int) ≤ (th 39) ∧ (th 39) ≤ 200 := (b0_39 hT :); have ob44 : (0 : Int) ≤ (th 44) ∧ (th 44) ≤ 30 := (b0_44 hT :); have orn := rnd_b (th 10); obtain ⟨o0a, o0b⟩ := (hb62 : In _ _ _); obtain ⟨o1a, o1b⟩ := (hb50 : In _ _ _); obtain ⟨o2a, o2b⟩ := (hb41 : In _ _ _); omega) (lv_sub hl [1, 2, 3, 4, 5, 6, 0] rfl) (msu et63 (by decide) hmz36)
              refine lv_if_eq (tgt := 196) hx hb dX11_writesPlan_74 (by decide) (fun c64 => ?_) (fun c64 => ?_)
              ·
                have oc0 : (0 : Int32).toInt = 0 := by decide
                have cc65 : r55.toInt = (0 : Int32).toInt := congrArg Int32.toInt c64
                have hb66 : In r55 0 0 := In.eq1 eL59R (⟨by decide, by decide⟩ : In 0 0 0) cc65 (by decide) (by decide)
                exact hJ196 zg36_zw y36_l2 _ _ _ _ (by have := hK_s (e := rnd (th 10)) (n := th 11) (L := th 14) (k := (((y9_l3.toInt).toNat : Nat) : Int)) (c := (y36_l6.toInt).toNat); omega) hy36_l2 hP hD hS (TI.cast hT (by funext q; by_cases hq0 : q = 38; (subst hq0; rfl); simp only [gset, if_neg hq0])) hfr (lv_sub hl [2, 3, 4, 5, 6, 7, 8, 1, 0] rfl)
              ·
                have oc0 : (0 : Int32).toInt = 0 := by decide
                have cc67 : r55.toInt ≠ (0 : Int32).toInt := i32_ne c64
                have hb68 : In r55 1 1 := In.ne1 eL59R (⟨by decide, by decide⟩ : In 0 0 0) cc67 (by decide) (by decide)
                refine lv_aload_n hx hb dX11_writesPlan_77 rfl (lv_at hl 2 rfl) ?_
                refine lv_iload hx hb dX11_writesPlan_78 (lv_at hl 0 rfl) ?_
                refine call_i (run_V (rm := rm_X11_isLiar) hx hb hml hown hts (s_X11_isLiar l g ad (gset th 38 zg36_zw) _ _ _ x53 hst hT ) cV_X11_isLiar wg_1664 ⟨Nat.le_of_ble_eq_true rfl, Nat.le_of_ble_eq_true rfl⟩ hG hE hA hP hD hS (hst.1 255 (by decide)) hf38 rfl rfl hl.1 (As := [.int x53]) (rest := []) rfl (Nat.le_of_ble_eq_true rfl) dX11_writesPlan_80 ⟨Nat.le_of_ble_eq_true rfl, Nat.le_of_ble_eq_true rfl⟩) hA hD hS (fun r69 L70 f71 H locs hp72 hP hD hS => ?_)
                obtain ⟨eL73L, eL73T, eL73R, eL73X0⟩ := hp72
                have eL73L : L70 = L := eL73L
                have eL73T : f71 = f_36 := eL73T
                rw [eL73L, eL73T] at hP hD
                have eL73R : In r69 0 1 := eL73R
                have hbl74 : r69.toInt = bitI (th 14) x53.toInt := eL73X0 (In.mono hb54 (by decide) (by decide))
                refine lv_if_ne (tgt := 196) hx hb dX11_writesPlan_83 (by decide) (fun c75 => ?_) (fun c75 => ?_)
                ·
                  have oc0 : (0 : Int32).toInt = 0 := by decide
                  have cc76 : r69.toInt ≠ (0 : Int32).toInt := i32_ne c75
                  have hb77 : In r69 1 1 := In.ne1 eL73R (⟨by decide, by decide⟩ : In 0 0 0) cc76 (by decide) (by decide)
                  exact hJ196 zg36_zw y36_l2 _ _ _ _ (by have := hK_s (e := rnd (th 10)) (n := th 11) (L := th 14) (k := (((y9_l3.toInt).toNat : Nat) : Int)) (c := (y36_l6.toInt).toNat); omega) hy36_l2 hP hD hS (TI.cast hT (by funext q; by_cases hq0 : q = 38; (subst hq0; rfl); simp only [gset, if_neg hq0])) hfr (lv_sub hl [2, 3, 4, 5, 6, 7, 8, 1, 0] rfl)
                ·
                  have oc0 : (0 : Int32).toInt = 0 := by decide
                  have cc78 : r69.toInt = (0 : Int32).toInt := congrArg Int32.toInt c75
                  have hb79 : In r69 0 0 := In.eq1 eL73R (⟨by decide, by decide⟩ : In 0 0 0) cc78 (by decide) (by decide)
                  refine lv_iload hx hb dX11_writesPlan_86 (lv_at hl 7 rfl) ?_
                  refine lv_aload_n hx hb dX11_writesPlan_88 rfl (lv_at hl 2 rfl) ?_
                  refine call_i (run_V (rm := rm_X11_each) hx hb hml hown hts (s_X11_each l g ad (gset th 38 zg36_zw) _ _ _  hst hT ) cV_X11_each wg_1636 ⟨Nat.le_of_ble_eq_true rfl, Nat.le_of_ble_eq_true rfl⟩ hG hE hA hP hD hS (hst.1 255 (by decide)) hf38 rfl rfl hl.1 (As := []) (rest := [.int x35]) rfl (Nat.le_of_ble_eq_true rfl) dX11_writesPlan_89 ⟨Nat.le_of_ble_eq_true rfl, Nat.le_of_ble_eq_true rfl⟩) hA hD hS (fun r80 L81 f82 H locs hp83 hP hD hS => ?_)
                  obtain ⟨eL84L, eL84T, eL84R, eL84X0⟩ := hp83
                  have eL84L : L81 = L := eL84L
                  have eL84T : f82 = f_36 := eL84T
                  rw [eL84L, eL84T] at hP hD
                  have eL84R : In r80 2 3 := eL84R
                  have hrn85 : r80.toInt = rnd (th 10) := eL84X0
                  refine lv_iconst (v := 1) hx hb dX11_writesPlan_92 (by decide) ?_
                  refine lv_isub hx hb dX11_writesPlan_93 ?_
                  refine lv_topi (fun x86 ex86 => ?_)
                  have hb87 : In x86 1 2 := ex86 ▸ In.sub eL84R (⟨by decide, by decide⟩ : In 1 1 1) (by decide) (by decide) (by decide) (by decide)
                  have et88 : x86.toInt = r80.toInt + (-1) := In.sube ex86 eL84R (k := 1) (by decide) (by decide) (by decide)
                  refine lv_icmp_ne (tgt := 112) hx hb dX11_writesPlan_94 (by decide) (fun c89 => ?_) (fun c89 => ?_)
                  ·
                    have cc90 : x35.toInt ≠ x86.toInt := i32_ne c89
                    have hfr0 : x51.toInt = y36_l6.toInt / th 11 := by rw [ex51, i32_divT (Int.le_trans (by decide) hb50.1) (by omega), hg15_37]
                    have hto0 : x53.toInt = y36_l6.toInt % th 11 := rem_e (n := th 11) ex53 hg15_37 (by omega) (Int.le_trans (by decide) hb50.1)
                    have hrc := rnd_c (th 10)
                    have hph0 : x27.toInt = y9_l3.toInt / rnd (th 10) := by rw [ex27, i32_divT (Int.le_trans (by decide) hb19.1) (by omega), hrn26]
                    have hrd0 : x35.toInt = y9_l3.toInt % rnd (th 10) := rem_e (n := rnd (th 10)) ex35 hrn34 (by omega) (Int.le_trans (by decide) hb19.1)
                    have hkn : (((y9_l3.toInt).toNat : Nat) : Int) = y9_l3.toInt := by have : 0 ≤ y9_l3.toInt := (Int.le_trans (by decide) hb19.1); omega
                    have hcn : (((y36_l6.toInt).toNat : Nat) : Int) = y36_l6.toInt := by have : 0 ≤ y36_l6.toInt := (Int.le_trans (by decide) hb50.1); omega
                    have hpr : prB (rnd (th 10)) (th 11) (th 14) (((y9_l3.toInt).toNat : Nat) : Int) (((y36_l6.toInt).toNat : Nat) : Int) = true := prb_of (by rw [hcn, ← hfr0]; have := hrc; have ob10 : (0 : Int) ≤ (th 10) ∧ (th 10) ≤ 1 := (b0_10 hT :); have ob11 : (0 : Int) ≤ (th 11) ∧ (th 11) ≤ 9 := (b0_11 hT :); have ob12 : (0 : Int) ≤ (th 12) ∧ (th 12) ≤ 6 := (b0_12 hT :); have ob14 : (0 : Int) ≤ (th 14) ∧ (th 14) ≤ 511 := (b0_14 hT :); have ob15 : (0 : Int) ≤ (th 15) ∧ (th 15) ≤ 1 := (b0_15 hT :); have ob16 : (0 : Int) ≤ (th 16) ∧ (th 16) ≤ 20 := (b0_16 hT :); have ob17 : (0 : Int) ≤ (th 17) ∧ (th 17) ≤ 1 := (b0_17 hT :); have ob18 : (0 : Int) ≤ (th 18) ∧ (th 18) ≤ 18 := (b0_18 hT :); have ob38 : (0 : Int) ≤ zg36_zw ∧ zg36_zw ≤ 400 := (b0_38 hT :); have ob39 : (0 : Int) ≤ (th 39) ∧ (th 39) ≤ 200 := (b0_39 hT :); have ob44 : (0 : Int) ≤ (th 44) ∧ (th 44) ≤ 30 := (b0_44 hT :); have orn := rnd_b (th 10); obtain ⟨o0a, o0b⟩ := (hb68 : In _ _ _); obtain ⟨o1a, o1b⟩ := (hv14_37 : In _ _ _); obtain ⟨o2a, o2b⟩ := (hb39 : In _ _ _); obtain ⟨o3a, o3b⟩ := (hv17_37 : In _ _ _); obtain ⟨o4a, o4b⟩ := (hv20_37 : In _ _ _); obtain ⟨o5a, o5b⟩ := (hv23_37 : In _ _ _); obtain ⟨o6a, o6b⟩ := (hv25_37 : In _ _ _); obtain ⟨o7a, o7b⟩ := (hv36_37 : In _ _ _); obtain ⟨o8a, o8b⟩ := (hv47_37 : In _ _ _); obtain ⟨o9a, o9b⟩ := (hv48_37 : In _ _ _); obtain ⟨o10a, o10b⟩ := (hv53_37 : In _ _ _); obtain ⟨o11a, o11b⟩ := (hv55_37 : In _ _ _); omega) (by rw [hcn, ← hto0]; have ob10 : (0 : Int) ≤ (th 10) ∧ (th 10) ≤ 1 := (b0_10 hT :); have ob11 : (0 : Int) ≤ (th 11) ∧ (th 11) ≤ 9 := (b0_11 hT :); have ob12 : (0 : Int) ≤ (th 12) ∧ (th 12) ≤ 6 := (b0_12 hT :); have ob14 : (0 : Int) ≤ (th 14) ∧ (th 14) ≤ 511 := (b0_14 hT :); have ob15 : (0 : Int) ≤ (th 15) ∧ (th 15) ≤ 1 := (b0_15 hT :); have ob16 : (0 : Int) ≤ (th 16) ∧ (th 16) ≤ 20 := (b0_16 hT :); have ob17 : (0 : Int) ≤ (th 17) ∧ (th 17) ≤ 1 := (b0_17 hT :); have ob18 : (0 : Int) ≤ (th 18) ∧ (th 18) ≤ 18 := (b0_18 hT :); have ob38 : (0 : Int) ≤ zg36_zw ∧ zg36_zw ≤ 400 := (b0_38 hT :); have ob39 : (0 : Int) ≤ (th 39) ∧ (th 39) ≤ 200 := (b0_39 hT :); have ob44 : (0 : Int) ≤ (th 44) ∧ (th 44) ≤ 30 := (b0_44 hT :); have orn := rnd_b (th 10); obtain ⟨o0a, o0b⟩ := (hb79 : In _ _ _); obtain ⟨o1a, o1b⟩ := (hv14_37 : In _ _ _); obtain ⟨o2a, o2b⟩ := (hb39 : In _ _ _); obtain ⟨o3a, o3b⟩ := (hv17_37 : In _ _ _); obtain ⟨o4a, o4b⟩ := (hv20_37 : In _ _ _); obtain ⟨o5a, o5b⟩ := (hv23_37 : In _ _ _); obtain ⟨o6a, o6b⟩ := (hv25_37 : In _ _ _); obtain ⟨o7a, o7b⟩ := (hv36_37 : In _ _ _); obtain ⟨o8a, o8b⟩ := (hv47_37 : In _ _ _); obtain ⟨o9a, o9b⟩ := (hv48_37 : In _ _ _); obtain ⟨o10a, o10b⟩ := (hv53_37 : In _ _ _); obtain ⟨o11a, o11b⟩ := (hv55_37 : In _ _ _); omega) (Or.inl (by rw [hkn, ← hrd0]; omega))
                    have hpb := plan_b (z := th 10) (k := (y9_l3.toInt).toNat) (c := (y36_l6.toInt).toNat) h14.1 ⟨by omega, h14.2.1⟩ hcap h14.2.2 hfr12 (by have ob10 : (0 : Int) ≤ (th 10) ∧ (th 10) ≤ 1 := (b0_10 hT :); have ob11 : (0 : Int) ≤ (th 11) ∧ (th 11) ≤ 9 := (b0_11 hT :); have ob12 : (0 : Int) ≤ (th 12) ∧ (th 12) ≤ 6 := (b0_12 hT :); have ob14 : (0 : Int) ≤ (th 14) ∧ (th 14) ≤ 511 := (b0_14 hT :); have ob15 : (0 : Int) ≤ (th 15) ∧ (th 15) ≤ 1 := (b0_15 hT :); have ob16 : (0 : Int) ≤ (th 16) ∧ (th 16) ≤ 20 := (b0_16 hT :); have ob17 : (0 : Int) ≤ (th 17) ∧ (th 17) ≤ 1 := (b0_17 hT :); have ob18 : (0 : Int) ≤ (th 18) ∧ (th 18) ≤ 18 := (b0_18 hT :); have ob38 : (0 : Int) ≤ zg36_zw ∧ zg36_zw ≤ 400 := (b0_38 hT :); have ob39 : (0 : Int) ≤ (th 39) ∧ (th 39) ≤ 200 := (b0_39 hT :); have ob44 : (0 : Int) ≤ (th 44) ∧ (th 44) ≤ 30 := (b0_44 hT :); have orn := rnd_b (th 10); obtain ⟨o0a, o0b⟩ := (hb19 : In _ _ _); obtain ⟨o1a, o1b⟩ := (hv14_37 : In _ _ _); obtain ⟨o2a, o2b⟩ := (hb39 : In _ _ _); obtain ⟨o3a, o3b⟩ := (hv17_37 : In _ _ _); obtain ⟨o4a, o4b⟩ := (hv20_37 : In _ _ _); obtain ⟨o5a, o5b⟩ := (hv23_37 : In _ _ _); obtain ⟨o6a, o6b⟩ := (hv25_37 : In _ _ _); obtain ⟨o7a, o7b⟩ := (hv36_37 : In _ _ _); obtain ⟨o8a, o8b⟩ := (hv47_37 : In _ _ _); obtain ⟨o9a, o9b⟩ := (hv48_37 : In _ _ _); obtain ⟨o10a, o10b⟩ := (hv53_37 : In _ _ _); obtain ⟨o11a, o11b⟩ := (hv55_37 : In _ _ _); obtain ⟨o12a, o12b⟩ := (hb20 : In _ _ _); omega) (by have ob10 : (0 : Int) ≤ (th 10) ∧ (th 10) ≤ 1 := (b0_10 hT :); have ob11 : (0 : Int) ≤ (th 11) ∧ (th 11) ≤ 9 := (b0_11 hT :); have ob12 : (0 : Int) ≤ (th 12) ∧ (th 12) ≤ 6 := (b0_12 hT :); have ob14 : (0 : Int) ≤ (th 14) ∧ (th 14) ≤ 511 := (b0_14 hT :); have ob15 : (0 : Int) ≤ (th 15) ∧ (th 15) ≤ 1 := (b0_15 hT :); have ob16 : (0 : Int) ≤ (th 16) ∧ (th 16) ≤ 20 := (b0_16 hT :); have ob17 : (0 : Int) ≤ (th 17) ∧ (th 17) ≤ 1 := (b0_17 hT :); have ob18 : (0 : Int) ≤ (th 18) ∧ (th 18) ≤ 18 := (b0_18 hT :); have ob38 : (0 : Int) ≤ zg36_zw ∧ zg36_zw ≤ 400 := (b0_38 hT :); have ob39 : (0 : Int) ≤ (th 39) ∧ (th 39) ≤ 200 := (b0_39 hT :); have ob44 : (0 : Int) ≤ (th 44) ∧ (th 44) ≤ 30 := (b0_44 hT :); have orn := rnd_b (th 10); obtain ⟨o0a, o0b⟩ := (hb50 : In _ _ _); obtain ⟨o1a, o1b⟩ := (hv14_37 : In _ _ _); obtain ⟨o2a, o2b⟩ := (hb39 : In _ _ _); obtain ⟨o3a, o3b⟩ := (hv17_37 : In _ _ _); obtain ⟨o4a, o4b⟩ := (hv20_37 : In _ _ _); obtain ⟨o5a, o5b⟩ := (hv23_37 : In _ _ _); obtain ⟨o6a, o6b⟩ := (hv25_37 : In _ _ _); obtain ⟨o7a, o7b⟩ := (hv36_37 : In _ _ _); obtain ⟨o8a, o8b⟩ := (hv47_37 : In _ _ _); obtain ⟨o9a, o9b⟩ := (hv48_37 : In _ _ _); obtain ⟨o10a, o10b⟩ := (hv53_37 : In _ _ _); obtain ⟨o11a, o11b⟩ := (hv55_37 : In _ _ _); obtain ⟨o12a, o12b⟩ := (hb41 : In _ _ _); omega)
                    have hh0 := hK_0 (e := rnd (th 10)) (n := th 11) (L := th 14) (k := (((y9_l3.toInt).toNat : Nat) : Int)) (y36_l6.toInt).toNat
                    have hii := hK_i hpr
                    refine lv_aload_n hx hb dX11_writesPlan_112 rfl (lv_at hl 2 rfl) ?_
                    refine pl_get (v := .int v53_37) hx hb hts (fun w h => mT (inX11 w h)) hown hG.1 hP (hst.1 255 (by decide)) hf38 rfl 53 (by decide) (hts _ (mT wg_1389)) (fun _ h => h) rfl dX11_writesPlan_113 ?_
                    have hg53_37 : v53_37.toInt = zg36_zw := hg53_37
                    have hJ126 : ∀ (zg126_zw : Int) (f_126 : HP) (H : Heap) (locs : List Loc) (ls : Array Slot), (0 ≤ zg126_zw ∧ zg126_zw ≤ 30 * (gK (rnd (th 10)) (th 11) (th 14) (y9_l3.toInt).toNat + hK (rnd (th 10)) (th 11) (th 14) (((y9_l3.toInt).toNat : Nat) : Int) (y36_l6.toInt).toNat) + 1) → va_P g.1 vwCl (va_pl L f_126) H → va_D A (va_pl L f_126) → va_S A s.heap H locs → TI g ad (gset th 38 zg126_zw) f_126 → (∀ b, b ≠ (ad 255) → b ≠ (ad 276) → f_126 b = f b) → lv_has ls 9 [(0, .ref (ad 255)), (1, .int z1), (2, .int y36_l2), (3, .int y9_l3), (4, .int x27), (5, .int x35), (6, .int y36_l6), (7, .int x51), (8, .int x53)] → W p l e rm_X11_writesPlan s m [.ref (ad 255), .int z1].toArray below meth c H locs 0 0 (MQ below (va_Qv (po_X11_writesPlan g ad th L f z1) (PstB g A) A) [.ref (ad 255), .int z1].toArray s rm_X11_writesPlan.cells rm_X11_writesPlan.slots A) (F0 m 126 ls []) := by
                      intro zg126_zw f_126 H locs ls hzg126 hP hD hS hT hfr hl
                      refine lv_aload_n hx hb dX11_writesPlan_126 rfl (lv_at hl 0 rfl) ?_
                      refine va_ldcSw hx hb hown (hG.2.2.1 ("RulerWordModel", 423, "phase ", 16) (by decide +kernel)) dX11_writesPlan_127 ?_
                      refine M0e hT (fun v0_91 v2_91 v3_91 v4_91 v5_91 v6_91 v8_91 v9_91 v12_91 v13_91 v14_91 v15_91 v16_91 v17_91 v18_91 v19_91 v20_91 v21_91 v22_91 v23_91 v25_91 v36_91 v37_91 v38_91 v39_91 v40_91 v45_91 v46_91 v47_91 v48_91 v50_91 v51_91 v53_91 v55_91 hf92 hv0_91 hv2_91 hg2_91 hv3_91 hg3_91 hv4_91 hg4_91 hv5_91 hg5_91 hv6_91 hg6_91 hv8_91 hg8_91 hv9_91 hg9_91 hv12_91 hv13_91 hg13_91 hv14_91 hg14_91 hv15_91 hg15_91 hv17_91 hg17_91 hv20_91 hg20_91 hv23_91 hg23_91 hv25_91 hg25_91 hv36_91 hg36_91 hv47_91 hg47_91 hv48_91 hg48_91 hv53_91 hg53_91 hv55_91 hg55_91 hrel0_91 => ?_)
                      have hg15_91 : v15_91.toInt = th 11 := hg15_91
                      have hg20_91 : v20_91.toInt = th 14 := hg20_91
                      have hb93 : In v15_91 3 9 := ⟨by rw [hg15_91]; exact hn3, hv15_91.2⟩
                      refine call_v (run_V (rm := rm_X11_writesWord) hx hb hml hown hts (s_X11_writesWord l g ad (gset th 38 zg126_zw) _ _ _ 16 hst hT (by decide) (show zg126_zw + ((lenS.getD 16 0 : Nat) : Int) ≤ 400 by have ql : (lenS.getD 16 0 : Nat) = 6 := (by decide); omega)) cV_X11_writesWord wg_1875 ⟨Nat.le_of_ble_eq_true rfl, Nat.le_of_ble_eq_true rfl⟩ hG hE hA hP hD hS (hst.1 255 (by decide)) hf92 rfl rfl hl.1 (As := [.ref (g.2.2.1 16)]) (rest := []) rfl (Nat.le_of_ble_eq_true rfl) dX11_writesPlan_130 ⟨Nat.le_of_ble_eq_true rfl, Nat.le_of_ble_eq_true rfl⟩) hA hD hS (fun L95 f96 H locs hp97 hP hD hS => ?_)
                      obtain ⟨eL98L, eL98T, eL98F⟩ := hp97
                      have eL98L : L95 = L := eL98L
                      rw [eL98L] at hP hD
                      obtain ⟨zz99, hzz99, eL98T⟩ := eL98T
                      have hT : TI g ad (gset (gset th 38 zg126_zw) 38 zz99) f96 := eL98T
                      have hT : TI g ad (gset th 38 zz99) f96 := TI.cast hT (by funext q; by_cases hq0 : q = 38; (subst hq0; rfl); simp only [gset, if_neg hq0])
                      have eL98F : ∀ b, b ≠ (ad 255) → b ≠ (ad 276) → f96 b = f_126 b := eL98F
                      have hfr : (∀ b, b ≠ (ad 255) → b ≠ (ad 276) → f96 b = f b) := fun b z0_ z1_ => (eL98F b z0_ z1_).trans (hfr b z0_ z1_)
                      refine lv_aload_n hx hb dX11_writesPlan_133 rfl (lv_at hl 0 rfl) ?_
                      refine lv_iload hx hb dX11_writesPlan_134 (lv_at hl 4 rfl) ?_
                      refine M0e hT (fun v0_100 v2_100 v3_100 v4_100 v5_100 v6_100 v8_100 v9_100 v12_100 v13_100 v14_100 v15_100 v16_100 v17_100 v18_100 v19_100 v20_100 v21_100 v22_100 v23_100 v25_100 v36_100 v37_100 v38_100 v39_100 v40_100 v45_100 v46_100 v47_100 v48_100 v50_100 v51_100 v53_100 v55_100 hf101 hv0_100 hv2_100 hg2_100 hv3_100 hg3_100 hv4_100 hg4_100 hv5_100 hg5_100 hv6_100 hg6_100 hv8_100 hg8_100 hv9_100 hg9_100 hv12_100 hv13_100 hg13_100 hv14_100 hg14_100 hv15_100 hg15_100 hv17_100 hg17_100 hv20_100 hg20_100 hv23_100 hg23_100 hv25_100 hg25_100 hv36_100 hg36_100 hv47_100 hg47_100 hv48_100 hg48_100 hv53_100 hg53_100 hv55_100 hg55_100 hrel0_100 => ?_)
                      have hg15_100 : v15_100.toInt = th 11 := hg15_100
                      have hg20_100 : v20_100.toInt = th 14 := hg20_100
                      have hb102 : In v15_100 3 9 := ⟨by rw [hg15_100]; exact hn3, hv15_100.2⟩
                      refine call_v (run_V (rm := rm_X11_writesDigit) hx hb hml hown hts (s_X11_writesDigit l g ad (gset th 38 zz99) _ _ _ x27 hst hT (show zz99 < 400 from (by have ob10 : (0 : Int) ≤ (th 10) ∧ (th 10) ≤ 1 := (b0_10 hT :); have ob11 : (0 : Int) ≤ (th 11) ∧ (th 11) ≤ 9 := (b0_11 hT :); have ob12 : (0 : Int) ≤ (th 12) ∧ (th 12) ≤ 6 := (b0_12 hT :); have ob14 : (0 : Int) ≤ (th 14) ∧ (th 14) ≤ 511 := (b0_14 hT :); have ob15 : (0 : Int) ≤ (th 15) ∧ (th 15) ≤ 1 := (b0_15 hT :); have ob16 : (0 : Int) ≤ (th 16) ∧ (th 16) ≤ 20 := (b0_16 hT :); have ob17 : (0 : Int) ≤ (th 17) ∧ (th 17) ≤ 1 := (b0_17 hT :); have ob18 : (0 : Int) ≤ (th 18) ∧ (th 18) ≤ 18 := (b0_18 hT :); have ob38 : (0 : Int) ≤ zz99 ∧ zz99 ≤ 400 := (b0_38 hT :); have ob39 : (0 : Int) ≤ (th 39) ∧ (th 39) ≤ 200 := (b0_39 hT :); have ob44 : (0 : Int) ≤ (th 44) ∧ (th 44) ≤ 30 := (b0_44 hT :); have orn := rnd_b (th 10); obtain ⟨o0a, o0b⟩ := (hv14_100 : In _ _ _); obtain ⟨o1a, o1b⟩ := (hb102 : In _ _ _); obtain ⟨o2a, o2b⟩ := (hv17_100 : In _ _ _); obtain ⟨o3a, o3b⟩ := (hv20_100 : In _ _ _); obtain ⟨o4a, o4b⟩ := (hv23_100 : In _ _ _); obtain ⟨o5a, o5b⟩ := (hv25_100 : In _ _ _); obtain ⟨o6a, o6b⟩ := (hv36_100 : In _ _ _); obtain ⟨o7a, o7b⟩ := (hv47_100 : In _ _ _); obtain ⟨o8a, o8b⟩ := (hv48_100 : In _ _ _); obtain ⟨o9a, o9b⟩ := (hv53_100 : In _ _ _); obtain ⟨o10a, o10b⟩ := (hv55_100 : In _ _ _); omega))) cV_X11_writesDigit wg_1880 ⟨Nat.le_of_ble_eq_true rfl, Nat.le_of_ble_eq_true rfl⟩ hG hE hA hP hD hS (hst.1 255 (by decide)) hf101 rfl rfl hl.1 (As := [.int x27]) (rest := []) rfl (Nat.le_of_ble_eq_true rfl) dX11_writesPlan_136 ⟨Nat.le_of_ble_eq_true rfl, Nat.le_of_ble_eq_true rfl⟩) hA hD hS (fun L104 f105 H locs hp106 hP hD hS => ?_)
                      obtain ⟨eL107L, eL107T, eL107F⟩ := hp106
                      have eL107L : L104 = L := eL107L
                      rw [eL107L] at hP hD
                      obtain ⟨zz108, hzz108, eL107T⟩ := eL107T
                      have hzz108 : zz108 = zz99 + 1 := hzz108
                      have hT : TI g ad (gset (gset th 38 zz99) 38 zz108) f105 := eL107T
                      have hT : TI g ad (gset th 38 zz108) f105 := TI.cast hT (by funext q; by_cases hq0 : q = 38; (subst hq0; rfl); simp only [gset, if_neg hq0])
                      have eL107F : ∀ b, b ≠ (ad 255) → b ≠ (ad 276) → f105 b = f96 b := eL107F
                      have hfr : (∀ b, b ≠ (ad 255) → b ≠ (ad 276) → f105 b = f b) := fun b z0_ z1_ => (eL107F b z0_ z1_).trans (hfr b z0_ z1_)
                      refine lv_aload_n hx hb dX11_writesPlan_139 rfl (lv_at hl 0 rfl) ?_
                      refine va_ldcSw hx hb hown (hG.2.2.1 ("RulerWordModel", 428, " round ", 18) (by decide +kernel)) dX11_writesPlan_140 ?_
                      refine M0e hT (fun v0_109 v2_109 v3_109 v4_109 v5_109 v6_109 v8_109 v9_109 v12_109 v13_109 v14_109 v15_109 v16_109 v17_109 v18_109 v19_109 v20_109 v21_109 v22_109 v23_109 v25_109 v36_109 v37_109 v38_109 v39_109 v40_109 v45_109 v46_109 v47_109 v48_109 v50_109 v51_109 v53_109 v55_109 hf110 hv0_109 hv2_109 hg2_109 hv3_109 hg3_109 hv4_109 hg4_109 hv5_109 hg5_109 hv6_109 hg6_109 hv8_109 hg8_109 hv9_109 hg9_109 hv12_109 hv13_109 hg13_109 hv14_109 hg14_109 hv15_109 hg15_109 hv17_109 hg17_109 hv20_109 hg20_109 hv23_109 hg23_109 hv25_109 hg25_109 hv36_109 hg36_109 hv47_109 hg47_109 hv48_109 hg48_109 hv53_109 hg53_109 hv55_109 hg55_109 hrel0_109 => ?_)
                      have hg15_109 : v15_109.toInt = th 11 := hg15_109
                      have hg20_109 : v20_109.toInt = th 14 := hg20_109
                      have hb111 : In v15_109 3 9 := ⟨by rw [hg15_109]; exact hn3, hv15_109.2⟩
                      refine call_v (run_V (rm := rm_X11_writesWord) hx hb hml hown hts (s_X11_writesWord l g ad (gset th 38 zz108) _ _ _ 18 hst hT (by decide) (show zz108 + ((lenS.getD 18 0 : Nat) : Int) ≤ 400 by have ql : (lenS.getD 18 0 : Nat) = 7 := (by decide); omega)) cV_X11_writesWord wg_1875 ⟨Nat.le_of_ble_eq_true rfl, Nat.le_of_ble_eq_true rfl⟩ hG hE hA hP hD hS (hst.1 255 (by decide)) hf110 rfl rfl hl.1 (As := [.ref (g.2.2.1 18)]) (rest := []) rfl (Nat.le_of_ble_eq_true rfl) dX11_writesPlan_143 ⟨Nat.le_of_ble_eq_true rfl, Nat.le_of_ble_eq_true rfl⟩) hA hD hS (fun L113 f114 H locs hp115 hP hD hS => ?_)
                      obtain ⟨eL116L, eL116T, eL116F⟩ := hp115
                      have eL116L : L113 = L := eL116L
                      rw [eL116L] at hP hD
                      obtain ⟨zz117, hzz117, eL116T⟩ := eL116T
                      have hT : TI g ad (gset (gset th 38 zz108) 38 zz117) f114 := eL116T
                      have hT : TI g ad (gset th 38 zz117) f114 := TI.cast hT (by funext q; by_cases hq0 : q = 38; (subst hq0; rfl); simp only [gset, if_neg hq0])
                      have eL116F : ∀ b, b ≠ (ad 255) → b ≠ (ad 276) → f114 b = f105 b := eL116F
                      have hfr : (∀ b, b ≠ (ad 255) → b ≠ (ad 276) → f114 b = f b) := fun b z0_ z1_ => (eL116F b z0_ z1_).trans (hfr b z0_ z1_)
                      refine lv_aload_n hx hb dX11_writesPlan_146 rfl (lv_at hl 0 rfl) ?_
                      refine lv_iload hx hb dX11_writesPlan_147 (lv_at hl 5 rfl) ?_
                      refine M0e hT (fun v0_118 v2_118 v3_118 v4_118 v5_118 v6_118 v8_118 v9_118 v12_118 v13_118 v14_118 v15_118 v16_118 v17_118 v18_118 v19_118 v20_118 v21_118 v22_118 v23_118 v25_118 v36_118 v37_118 v38_118 v39_118 v40_118 v45_118 v46_118 v47_118 v48_118 v50_118 v51_118 v53_118 v55_118 hf119 hv0_118 hv2_118 hg2_118 hv3_118 hg3_118 hv4_118 hg4_118 hv5_118 hg5_118 hv6_118 hg6_118 hv8_118 hg8_118 hv9_118 hg9_118 hv12_118 hv13_118 hg13_118 hv14_118 hg14_118 hv15_118 hg15_118 hv17_118 hg17_118 hv20_118 hg20_118 hv23_118 hg23_118 hv25_118 hg25_118 hv36_118 hg36_118 hv47_118 hg47_118 hv48_118 hg48_118 hv53_118 hg53_118 hv55_118 hg55_118 hrel0_118 => ?_)
                      have hg15_118 : v15_118.toInt = th 11 := hg15_118
                      have hg20_118 : v20_118.toInt = th 14 := hg20_118
                      have hb120 : In v15_118 3 9 := ⟨by rw [hg15_118]; exact hn3, hv15_118.2⟩
                      refine call_v (run_V (rm := rm_X11_writesDigit) hx hb hml hown hts (s_X11_writesDigit l g ad (gset th 38 zz117) _ _ _ x35 hst hT (show zz117 < 400 from (by have ob10 : (0 : Int) ≤ (th 10) ∧ (th 10) ≤ 1 := (b0_10 hT :); have ob11 : (0 : Int) ≤ (th 11) ∧ (th 11) ≤ 9 := (b0_11 hT :); have ob12 : (0 : Int) ≤ (th 12) ∧ (th 12) ≤ 6 := (b0_12 hT :); have ob14 : (0 : Int) ≤ (th 14) ∧ (th 14) ≤ 511 := (b0_14 hT :); have ob15 : (0 : Int) ≤ (th 15) ∧ (th 15) ≤ 1 := (b0_15 hT :); have ob16 : (0 : Int) ≤ (th 16) ∧ (th 16) ≤ 20 := (b0_16 hT :); have ob17 : (0 : Int) ≤ (th 17) ∧ (th 17) ≤ 1 := (b0_17 hT :); have ob18 : (0 : Int) ≤ (th 18) ∧ (th 18) ≤ 18 := (b0_18 hT :); have ob38 : (0 : Int) ≤ zz117 ∧ zz117 ≤ 400 := (b0_38 hT :); have ob39 : (0 : Int) ≤ (th 39) ∧ (th 39) ≤ 200 := (b0_39 hT :); have ob44 : (0 : Int) ≤ (th 44) ∧ (th 44) ≤ 30 := (b0_44 hT :); have orn := rnd_b (th 10); obtain ⟨o0a, o0b⟩ := (hv14_118 : In _ _ _); obtain ⟨o1a, o1b⟩ := (hb120 : In _ _ _); obtain ⟨o2a, o2b⟩ := (hv17_118 : In _ _ _); obtain ⟨o3a, o3b⟩ := (hv20_118 : In _ _ _); obtain ⟨o4a, o4b⟩ := (hv23_118 : In _ _ _); obtain ⟨o5a, o5b⟩ := (hv25_118 : In _ _ _); obtain ⟨o6a, o6b⟩ := (hv36_118 : In _ _ _); obtain ⟨o7a, o7b⟩ := (hv47_118 : In _ _ _); obtain ⟨o8a, o8b⟩ := (hv48_118 : In _ _ _); obtain ⟨o9a, o9b⟩ := (hv53_118 : In _ _ _); obtain ⟨o10a, o10b⟩ := (hv55_118 : In _ _ _); omega))) cV_X11_writesDigit wg_1880 ⟨Nat.le_of_ble_eq_true rfl, Nat.le_of_ble_eq_true rfl⟩ hG hE hA hP hD hS (hst.1 255 (by decide)) hf119 rfl rfl hl.1 (As := [.int x35]) (rest := []) rfl (Nat.le_of_ble_eq_true rfl) dX11_writesPlan_149 ⟨Nat.le_of_ble_eq_true rfl, Nat.le_of_ble_eq_true rfl⟩) hA hD hS (fun L122 f123 H locs hp124 hP hD hS => ?_)
                      obtain ⟨eL125L, eL125T, eL125F⟩ := hp124
                      have eL125L : L122 = L := eL125L
                      rw [eL125L] at hP hD
                      obtain ⟨zz126, hzz126, eL125T⟩ := eL125T
                      have hzz126 : zz126 = zz117 + 1 := hzz126
                      have hT : TI g ad (gset (gset th 38 zz117) 38 zz126) f123 := eL125T
                      have hT : TI g ad (gset th 38 zz126) f123 := TI.cast hT (by funext q; by_cases hq0 : q = 38; (subst hq0; rfl); simp only [gset, if_neg hq0])
                      have eL125F : ∀ b, b ≠ (ad 255) → b ≠ (ad 276) → f123 b = f114 b := eL125F
                      have hfr : (∀ b, b ≠ (ad 255) → b ≠ (ad 276) → f123 b = f b) := fun b z0_ z1_ => (eL125F b z0_ z1_).trans (hfr b z0_ z1_)
                      refine lv_aload_n hx hb dX11_writesPlan_152 rfl (lv_at hl 0 rfl) ?_
                      refine va_ldcSw hx hb hown (hG.2.2.1 ("RulerWordModel", 430, " from ", 19) (by decide +kernel)) dX11_writesPlan_153 ?_
                      refine M0e hT (fun v0_127 v2_127 v3_127 v4_127 v5_127 v6_127 v8_127 v9_127 v12_127 v13_127 v14_127 v15_127 v16_127 v17_127 v18_127 v19_127 v20_127 v21_127 v22_127 v23_127 v25_127 v36_127 v37_127 v38_127 v39_127 v40_127 v45_127 v46_127 v47_127 v48_127 v50_127 v51_127 v53_127 v55_127 hf128 hv0_127 hv2_127 hg2_127 hv3_127 hg3_127 hv4_127 hg4_127 hv5_127 hg5_127 hv6_127 hg6_127 hv8_127 hg8_127 hv9_127 hg9_127 hv12_127 hv13_127 hg13_127 hv14_127 hg14_127 hv15_127 hg15_127 hv17_127 hg17_127 hv20_127 hg20_127 hv23_127 hg23_127 hv25_127 hg25_127 hv36_127 hg36_127 hv47_127 hg47_127 hv48_127 hg48_127 hv53_127 hg53_127 hv55_127 hg55_127 hrel0_127 => ?_)
                      have hg15_127 : v15_127.toInt = th 11 := hg15_127
                      have hg20_127 : v20_127.toInt = th 14 := hg20_127
                      have hb129 : In v15_127 3 9 := ⟨by rw [hg15_127]; exact hn3, hv15_127.2⟩
                      refine call_v (run_V (rm := rm_X11_writesWord) hx hb hml hown hts (s_X11_writesWord l g ad (gset th 38 zz126) _ _ _ 19 hst hT (by decide) (show zz126 + ((lenS.getD 19 0 : Nat) : Int) ≤ 400 by have ql : (lenS.getD 19 0 : Nat) = 6 := (by decide); omega)) cV_X11_writesWord wg_1875 ⟨Nat.le_of_ble_eq_true rfl, Nat.le_of_ble_eq_true rfl⟩ hG hE hA hP hD hS (hst.1 255 (by decide)) hf128 rfl rfl hl.1 (As := [.ref (g.2.2.1 19)]) (rest := []) rfl (Nat.le_of_ble_eq_true rfl) dX11_writesPlan_156 ⟨Nat.le_of_ble_eq_true rfl, Nat.le_of_ble_eq_true rfl⟩) hA hD hS (fun L131 f132 H locs hp133 hP hD hS => ?_)
                      obtain ⟨eL134L, eL134T, eL134F⟩ := hp133
                      have eL134L : L131 = L := eL134L
                      rw [eL134L] at hP hD
                      obtain ⟨zz135, hzz135, eL134T⟩ := eL134T
                      have hT : TI g ad (gset (gset th 38 zz126) 38 zz135) f132 := eL134T
                      have hT : TI g ad (gset th 38 zz135) f132 := TI.cast hT (by funext q; by_cases hq0 : q = 38; (subst hq0; rfl); simp only [gset, if_neg hq0])
                      have eL134F : ∀ b, b ≠ (ad 255) → b ≠ (ad 276) → f132 b = f123 b := eL134F
                      have hfr : (∀ b, b ≠ (ad 255) → b ≠ (ad 276) → f132 b = f b) := fun b z0_ z1_ => (eL134F b z0_ z1_).trans (hfr b z0_ z1_)
                      refine lv_aload_n hx hb dX11_writesPlan_159 rfl (lv_at hl 0 rfl) ?_
                      refine lv_iload hx hb dX11_writesPlan_160 (lv_at hl 7 rfl) ?_
                      refine M0e hT (fun v0_136 v2_136 v3_136 v4_136 v5_136 v6_136 v8_136 v9_136 v12_136 v13_136 v14_136 v15_136 v16_136 v17_136 v18_136 v19_136 v20_136 v21_136 v22_136 v23_136 v25_136 v36_136 v37_136 v38_136 v39_136 v40_136 v45_136 v46_136 v47_136 v48_136 v50_136 v51_136 v53_136 v55_136 hf137 hv0_136 hv2_136 hg2_136 hv3_136 hg3_136 hv4_136 hg4_136 hv5_136 hg5_136 hv6_136 hg6_136 hv8_136 hg8_136 hv9_136 hg9_136 hv12_136 hv13_136 hg13_136 hv14_136 hg14_136 hv15_136 hg15_136 hv17_136 hg17_136 hv20_136 hg20_136 hv23_136 hg23_136 hv25_136 hg25_136 hv36_136 hg36_136 hv47_136 hg47_136 hv48_136 hg48_136 hv53_136 hg53_136 hv55_136 hg55_136 hrel0_136 => ?_)
                      have hg15_136 : v15_136.toInt = th 11 := hg15_136
                      have hg20_136 : v20_136.toInt = th 14 := hg20_136
                      have hb138 : In v15_136 3 9 := ⟨by rw [hg15_136]; exact hn3, hv15_136.2⟩
                      refine call_v (run_V (rm := rm_X11_writesDigit) hx hb hml hown hts (s_X11_writesDigit l g ad (gset th 38 zz135) _ _ _ x51 hst hT (show zz135 < 400 from (by have ob10 : (0 : Int) ≤ (th 10) ∧ (th 10) ≤ 1 := (b0_10 hT :); have ob11 : (0 : Int) ≤ (th 11) ∧ (th 11) ≤ 9 := (b0_11 hT :); have ob12 : (0 : Int) ≤ (th 12) ∧ (th 12) ≤ 6 := (b0_12 hT :); have ob14 : (0 : Int) ≤ (th 14) ∧ (th 14) ≤ 511 := (b0_14 hT :); have ob15 : (0 : Int) ≤ (th 15) ∧ (th 15) ≤ 1 := (b0_15 hT :); have ob16 : (0 : Int) ≤ (th 16) ∧ (th 16) ≤ 20 := (b0_16 hT :); have ob17 : (0 : Int) ≤ (th 17) ∧ (th 17) ≤ 1 := (b0_17 hT :); have ob18 : (0 : Int) ≤ (th 18) ∧ (th 18) ≤ 18 := (b0_18 hT :); have ob38 : (0 : Int) ≤ zz135 ∧ zz135 ≤ 400 := (b0_38 hT :); have ob39 : (0 : Int) ≤ (th 39) ∧ (th 39) ≤ 200 := (b0_39 hT :); have ob44 : (0 : Int) ≤ (th 44) ∧ (th 44) ≤ 30 := (b0_44 hT :); have orn := rnd_b (th 10); obtain ⟨o0a, o0b⟩ := (hv14_136 : In _ _ _); obtain ⟨o1a, o1b⟩ := (hb138 : In _ _ _); obtain ⟨o2a, o2b⟩ := (hv17_136 : In _ _ _); obtain ⟨o3a, o3b⟩ := (hv20_136 : In _ _ _); obtain ⟨o4a, o4b⟩ := (hv23_136 : In _ _ _); obtain ⟨o5a, o5b⟩ := (hv25_136 : In _ _ _); obtain ⟨o6a, o6b⟩ := (hv36_136 : In _ _ _); obtain ⟨o7a, o7b⟩ := (hv47_136 : In _ _ _); obtain ⟨o8a, o8b⟩ := (hv48_136 : In _ _ _); obtain ⟨o9a, o9b⟩ := (hv53_136 : In _ _ _); obtain ⟨o10a, o10b⟩ := (hv55_136 : In _ _ _); omega))) cV_X11_writesDigit wg_1880 ⟨Nat.le_of_ble_eq_true rfl, Nat.le_of_ble_eq_true rfl⟩ hG hE hA hP hD hS (hst.1 255 (by decide)) hf137 rfl rfl hl.1 (As := [.int x51]) (rest := []) rfl (Nat.le_of_ble_eq_true rfl) dX11_writesPlan_162 ⟨Nat.le_of_ble_eq_true rfl, Nat.le_of_ble_eq_true rfl⟩) hA hD hS (fun L140 f141 H locs hp142 hP hD hS => ?_)
                      obtain ⟨eL143L, eL143T, eL143F⟩ := hp142
                      have eL143L : L140 = L := eL143L
                      rw [eL143L] at hP hD
                      obtain ⟨zz144, hzz144, eL143T⟩ := eL143T
                      have hzz144 : zz144 = zz135 + 1 := hzz144
                      have hT : TI g ad (gset (gset th 38 zz135) 38 zz144) f141 := eL143T
                      have hT : TI g ad (gset th 38 zz144) f141 := TI.cast hT (by funext q; by_cases hq0 : q = 38; (subst hq0; rfl); simp only [gset, if_neg hq0])
                      have eL143F : ∀ b, b ≠ (ad 255) → b ≠ (ad 276) → f141 b = f132 b := eL143F
                      have hfr : (∀ b, b ≠ (ad 255) → b ≠ (ad 276) → f141 b = f b) := fun b z0_ z1_ => (eL143F b z0_ z1_).trans (hfr b z0_ z1_)
                      refine lv_aload_n hx hb dX11_writesPlan_165 rfl (lv_at hl 0 rfl) ?_
                      refine va_ldcSw hx hb hown (hG.2.2.1 ("RulerWordModel", 432, " to ", 20) (by decide +kernel)) dX11_writesPlan_166 ?_
                      refine M0e hT (fun v0_145 v2_145 v3_145 v4_145 v5_145 v6_145 v8_145 v9_145 v12_145 v13_145 v14_145 v15_145 v16_145 v17_145 v18_145 v19_145 v20_145 v21_145 v22_145 v23_145 v25_145 v36_145 v37_145 v38_145 v39_145 v40_145 v45_145 v46_145 v47_145 v48_145 v50_145 v51_145 v53_145 v55_145 hf146 hv0_145 hv2_145 hg2_145 hv3_145 hg3_145 hv4_145 hg4_145 hv5_145 hg5_145 hv6_145 hg6_145 hv8_145 hg8_145 hv9_145 hg9_145 hv12_145 hv13_145 hg13_145 hv14_145 hg14_145 hv15_145 hg15_145 hv17_145 hg17_145 hv20_145 hg20_145 hv23_145 hg23_145 hv25_145 hg25_145 hv36_145 hg36_145 hv47_145 hg47_145 hv48_145 hg48_145 hv53_145 hg53_145 hv55_145 hg55_145 hrel0_145 => ?_)
                      have hg15_145 : v15_145.toInt = th 11 := hg15_145
                      have hg20_145 : v20_145.toInt = th 14 := hg20_145
                      have hb147 : In v15_145 3 9 := ⟨by rw [hg15_145]; exact hn3, hv15_145.2⟩
                      refine call_v (run_V (rm := rm_X11_writesWord) hx hb hml hown hts (s_X11_writesWord l g ad (gset th 38 zz144) _ _ _ 20 hst hT (by decide) (show zz144 + ((lenS.getD 20 0 : Nat) : Int) ≤ 400 by have ql : (lenS.getD 20 0 : Nat) = 4 := (by decide); omega)) cV_X11_writesWord wg_1875 ⟨Nat.le_of_ble_eq_true rfl, Nat.le_of_ble_eq_true rfl⟩ hG hE hA hP hD hS (hst.1 255 (by decide)) hf146 rfl rfl hl.1 (As := [.ref (g.2.2.1 20)]) (rest := []) rfl (Nat.le_of_ble_eq_true rfl) dX11_writesPlan_169 ⟨Nat.le_of_ble_eq_true rfl, Nat.le_of_ble_eq_true rfl⟩) hA hD hS (fun L149 f150 H locs hp151 hP hD hS => ?_)
                      obtain ⟨eL152L, eL152T, eL152F⟩ := hp151
                      have eL152L : L149 = L := eL152L
                      rw [eL152L] at hP hD
                      obtain ⟨zz153, hzz153, eL152T⟩ := eL152T
                      have hT : TI g ad (gset (gset th 38 zz144) 38 zz153) f150 := eL152T
                      have hT : TI g ad (gset th 38 zz153) f150 := TI.cast hT (by funext q; by_cases hq0 : q = 38; (subst hq0; rfl); simp only [gset, if_neg hq0])
                      have eL152F : ∀ b, b ≠ (ad 255) → b ≠ (ad 276) → f150 b = f141 b := eL152F
                      have hfr : (∀ b, b ≠ (ad 255) → b ≠ (ad 276) → f150 b = f b) := fun b z0_ z1_ => (eL152F b z0_ z1_).trans (hfr b z0_ z1_)
                      refine lv_aload_n hx hb dX11_writesPlan_172 rfl (lv_at hl 0 rfl) ?_
                      refine lv_iload hx hb dX11_writesPlan_173 (lv_at hl 8 rfl) ?_
                      refine M0e hT (fun v0_154 v2_154 v3_154 v4_154 v5_154 v6_154 v8_154 v9_154 v12_154 v13_154 v14_154 v15_154 v16_154 v17_154 v18_154 v19_154 v20_154 v21_154 v22_154 v23_154 v25_154 v36_154 v37_154 v38_154 v39_154 v40_154 v45_154 v46_154 v47_154 v48_154 v50_154 v51_154 v53_154 v55_154 hf155 hv0_154 hv2_154 hg2_154 hv3_154 hg3_154 hv4_154 hg4_154 hv5_154 hg5_154 hv6_154 hg6_154 hv8_154 hg8_154 hv9_154 hg9_154 hv12_154 hv13_154 hg13_154 hv14_154 hg14_154 hv15_154 hg15_154 hv17_154 hg17_154 hv20_154 hg20_154 hv23_154 hg23_154 hv25_154 hg25_154 hv36_154 hg36_154 hv47_154 hg47_154 hv48_154 hg48_154 hv53_154 hg53_154 hv55_154 hg55_154 hrel0_154 => ?_)
                      have hg15_154 : v15_154.toInt = th 11 := hg15_154
                      have hg20_154 : v20_154.toInt = th 14 := hg20_154
                      have hb156 : In v15_154 3 9 := ⟨by rw [hg15_154]; exact hn3, hv15_154.2⟩
                      refine call_v (run_V (rm := rm_X11_writesDigit) hx hb hml hown hts (s_X11_writesDigit l g ad (gset th 38 zz153) _ _ _ x53 hst hT (show zz153 < 400 from (by have ob10 : (0 : Int) ≤ (th 10) ∧ (th 10) ≤ 1 := (b0_10 hT :); have ob11 : (0 : Int) ≤ (th 11) ∧ (th 11) ≤ 9 := (b0_11 hT :); have ob12 : (0 : Int) ≤ (th 12) ∧ (th 12) ≤ 6 := (b0_12 hT :); have ob14 : (0 : Int) ≤ (th 14) ∧ (th 14) ≤ 511 := (b0_14 hT :); have ob15 : (0 : Int) ≤ (th 15) ∧ (th 15) ≤ 1 := (b0_15 hT :); have ob16 : (0 : Int) ≤ (th 16) ∧ (th 16) ≤ 20 := (b0_16 hT :); have ob17 : (0 : Int) ≤ (th 17) ∧ (th 17) ≤ 1 := (b0_17 hT :); have ob18 : (0 : Int) ≤ (th 18) ∧ (th 18) ≤ 18 := (b0_18 hT :); have ob38 : (0 : Int) ≤ zz153 ∧ zz153 ≤ 400 := (b0_38 hT :); have ob39 : (0 : Int) ≤ (th 39) ∧ (th 39) ≤ 200 := (b0_39 hT :); have ob44 : (0 : Int) ≤ (th 44) ∧ (th 44) ≤ 30 := (b0_44 hT :); have orn := rnd_b (th 10); obtain ⟨o0a, o0b⟩ := (hv14_154 : In _ _ _); obtain ⟨o1a, o1b⟩ := (hb156 : In _ _ _); obtain ⟨o2a, o2b⟩ := (hv17_154 : In _ _ _); obtain ⟨o3a, o3b⟩ := (hv20_154 : In _ _ _); obtain ⟨o4a, o4b⟩ := (hv23_154 : In _ _ _); obtain ⟨o5a, o5b⟩ := (hv25_154 : In _ _ _); obtain ⟨o6a, o6b⟩ := (hv36_154 : In _ _ _); obtain ⟨o7a, o7b⟩ := (hv47_154 : In _ _ _); obtain ⟨o8a, o8b⟩ := (hv48_154 : In _ _ _); obtain ⟨o9a, o9b⟩ := (hv53_154 : In _ _ _); obtain ⟨o10a, o10b⟩ := (hv55_154 : In _ _ _); omega))) cV_X11_writesDigit wg_1880 ⟨Nat.le_of_ble_eq_true rfl, Nat.le_of_ble_eq_true rfl⟩ hG hE hA hP hD hS (hst.1 255 (by decide)) hf155 rfl rfl hl.1 (As := [.int x53]) (rest := []) rfl (Nat.le_of_ble_eq_true rfl) dX11_writesPlan_175 ⟨Nat.le_of_ble_eq_true rfl, Nat.le_of_ble_eq_true rfl⟩) hA hD hS (fun L158 f159 H locs hp160 hP hD hS => ?_)
                      obtain ⟨eL161L, eL161T, eL161F⟩ := hp160
                      have eL161L : L158 = L := eL161L
                      rw [eL161L] at hP hD
                      obtain ⟨zz162, hzz162, eL161T⟩ := eL161T
                      have hzz162 : zz162 = zz153 + 1 := hzz162
                      have hT : TI g ad (gset (gset th 38 zz153) 38 zz162) f159 := eL161T
                      have hT : TI g ad (gset th 38 zz162) f159 := TI.cast hT (by funext q; by_cases hq0 : q = 38; (subst hq0; rfl); simp only [gset, if_neg hq0])
                      have eL161F : ∀ b, b ≠ (ad 255) → b ≠ (ad 276) → f159 b = f150 b := eL161F
                      have hfr : (∀ b, b ≠ (ad 255) → b ≠ (ad 276) → f159 b = f b) := fun b z0_ z1_ => (eL161F b z0_ z1_).trans (hfr b z0_ z1_)
                      refine lv_aload_n hx hb dX11_writesPlan_178 rfl (lv_at hl 0 rfl) ?_
                      refine va_ldcSw hx hb hown (hG.2.2.1 ("RulerWordModel", 434, " ", 21) (by decide +kernel)) dX11_writesPlan_179 ?_
                      refine M0e hT (fun v0_163 v2_163 v3_163 v4_163 v5_163 v6_163 v8_163 v9_163 v12_163 v13_163 v14_163 v15_163 v16_163 v17_163 v18_163 v19_163 v20_163 v21_163 v22_163 v23_163 v25_163 v36_163 v37_163 v38_163 v39_163 v40_163 v45_163 v46_163 v47_163 v48_163 v50_163 v51_163 v53_163 v55_163 hf164 hv0_163 hv2_163 hg2_163 hv3_163 hg3_163 hv4_163 hg4_163 hv5_163 hg5_163 hv6_163 hg6_163 hv8_163 hg8_163 hv9_163 hg9_163 hv12_163 hv13_163 hg13_163 hv14_163 hg14_163 hv15_163 hg15_163 hv17_163 hg17_163 hv20_163 hg20_163 hv23_163 hg23_163 hv25_163 hg25_163 hv36_163 hg36_163 hv47_163 hg47_163 hv48_163 hg48_163 hv53_163 hg53_163 hv55_163 hg55_163 hrel0_163 => ?_)
                      have hg15_163 : v15_163.toInt = th 11 := hg15_163
                      have hg20_163 : v20_163.toInt = th 14 := hg20_163
                      have hb165 : In v15_163 3 9 := ⟨by rw [hg15_163]; exact hn3, hv15_163.2⟩
                      refine call_v (run_V (rm := rm_X11_writesWord) hx hb hml hown hts (s_X11_writesWord l g ad (gset th 38 zz162) _ _ _ 21 hst hT (by decide) (show zz162 + ((lenS.getD 21 0 : Nat) : Int) ≤ 400 by have ql : (lenS.getD 21 0 : Nat) = 1 := (by decide); omega)) cV_X11_writesWord wg_1875 ⟨Nat.le_of_ble_eq_true rfl, Nat.le_of_ble_eq_true rfl⟩ hG hE hA hP hD hS (hst.1 255 (by decide)) hf164 rfl rfl hl.1 (As := [.ref (g.2.2.1 21)]) (rest := []) rfl (Nat.le_of_ble_eq_true rfl) dX11_writesPlan_182 ⟨Nat.le_of_ble_eq_true rfl, Nat.le_of_ble_eq_true rfl⟩) hA hD hS (fun L167 f168 H locs hp169 hP hD hS => ?_)
                      obtain ⟨eL170L, eL170T, eL170F⟩ := hp169
                      have eL170L : L167 = L := eL170L
                      rw [eL170L] at hP hD
                      obtain ⟨zz171, hzz171, eL170T⟩ := eL170T
                      have hT : TI g ad (gset (gset th 38 zz162) 38 zz171) f168 := eL170T
                      have hT : TI g ad (gset th 38 zz171) f168 := TI.cast hT (by funext q; by_cases hq0 : q = 38; (subst hq0; rfl); simp only [gset, if_neg hq0])
                      have eL170F : ∀ b, b ≠ (ad 255) → b ≠ (ad 276) → f168 b = f159 b := eL170F
                      have hfr : (∀ b, b ≠ (ad 255) → b ≠ (ad 276) → f168 b = f b) := fun b z0_ z1_ => (eL170F b z0_ z1_).trans (hfr b z0_ z1_)
                      refine lv_aload_n hx hb dX11_writesPlan_185 rfl (lv_at hl 0 rfl) ?_
                      refine lv_iload_n hx hb dX11_writesPlan_186 rfl (lv_at hl 2 rfl) ?_
                      refine lv_iconst (v := 1) hx hb dX11_writesPlan_187 (by decide) ?_
                      refine lv_iand hx hb dX11_writesPlan_188 ?_
                      refine lv_topi (fun x172 ex172 => ?_)
                      have hb173 : In x172 0 1 := ex172 ▸ In.andr (⟨by decide, by decide⟩ : In 1 1 1) (by decide)
                      refine M0e hT (fun v0_174 v2_174 v3_174 v4_174 v5_174 v6_174 v8_174 v9_174 v12_174 v13_174 v14_174 v15_174 v16_174 v17_174 v18_174 v19_174 v20_174 v21_174 v22_174 v23_174 v25_174 v36_174 v37_174 v38_174 v39_174 v40_174 v45_174 v46_174 v47_174 v48_174 v50_174 v51_174 v53_174 v55_174 hf175 hv0_174 hv2_174 hg2_174 hv3_174 hg3_174 hv4_174 hg4_174 hv5_174 hg5_174 hv6_174 hg6_174 hv8_174 hg8_174 hv9_174 hg9_174 hv12_174 hv13_174 hg13_174 hv14_174 hg14_174 hv15_174 hg15_174 hv17_174 hg17_174 hv20_174 hg20_174 hv23_174 hg23_174 hv25_174 hg25_174 hv36_174 hg36_174 hv47_174 hg47_174 hv48_174 hg48_174 hv53_174 hg53_174 hv55_174 hg55_174 hrel0_174 => ?_)
                      have hg15_174 : v15_174.toInt = th 11 := hg15_174
                      have hg20_174 : v20_174.toInt = th 14 := hg20_174
                      have hb176 : In v15_174 3 9 := ⟨by rw [hg15_174]; exact hn3, hv15_174.2⟩
                      refine call_v (run_V (rm := rm_X11_writesDigit) hx hb hml hown hts (s_X11_writesDigit l g ad (gset th 38 zz171) _ _ _ x172 hst hT (show zz171 < 400 from (by have ob10 : (0 : Int) ≤ (th 10) ∧ (th 10) ≤ 1 := (b0_10 hT :); have ob11 : (0 : Int) ≤ (th 11) ∧ (th 11) ≤ 9 := (b0_11 hT :); have ob12 : (0 : Int) ≤ (th 12) ∧ (th 12) ≤ 6 := (b0_12 hT :); have ob14 : (0 : Int) ≤ (th 14) ∧ (th 14) ≤ 511 := (b0_14 hT :); have ob15 : (0 : Int) ≤ (th 15) ∧ (th 15) ≤ 1 := (b0_15 hT :); have ob16 : (0 : Int) ≤ (th 16) ∧ (th 16) ≤ 20 := (b0_16 hT :); have ob17 : (0 : Int) ≤ (th 17) ∧ (th 17) ≤ 1 := (b0_17 hT :); have ob18 : (0 : Int) ≤ (th 18) ∧ (th 18) ≤ 18 := (b0_18 hT :); have ob38 : (0 : Int) ≤ zz171 ∧ zz171 ≤ 400 := (b0_38 hT :); have ob39 : (0 : Int) ≤ (th 39) ∧ (th 39) ≤ 200 := (b0_39 hT :); have ob44 : (0 : Int) ≤ (th 44) ∧ (th 44) ≤ 30 := (b0_44 hT :); have orn := rnd_b (th 10); obtain ⟨o0a, o0b⟩ := (hv14_174 : In _ _ _); obtain ⟨o1a, o1b⟩ := (hb176 : In _ _ _); obtain ⟨o2a, o2b⟩ := (hv17_174 : In _ _ _); obtain ⟨o3a, o3b⟩ := (hv20_174 : In _ _ _); obtain ⟨o4a, o4b⟩ := (hv23_174 : In _ _ _); obtain ⟨o5a, o5b⟩ := (hv25_174 : In _ _ _); obtain ⟨o6a, o6b⟩ := (hv36_174 : In _ _ _); obtain ⟨o7a, o7b⟩ := (hv47_174 : In _ _ _); obtain ⟨o8a, o8b⟩ := (hv48_174 : In _ _ _); obtain ⟨o9a, o9b⟩ := (hv53_174 : In _ _ _); obtain ⟨o10a, o10b⟩ := (hv55_174 : In _ _ _); omega))) cV_X11_writesDigit wg_1880 ⟨Nat.le_of_ble_eq_true rfl, Nat.le_of_ble_eq_true rfl⟩ hG hE hA hP hD hS (hst.1 255 (by decide)) hf175 rfl rfl hl.1 (As := [.int x172]) (rest := []) rfl (Nat.le_of_ble_eq_true rfl) dX11_writesPlan_189 ⟨Nat.le_of_ble_eq_true rfl, Nat.le_of_ble_eq_true rfl⟩) hA hD hS (fun L178 f179 H locs hp180 hP hD hS => ?_)
                      obtain ⟨eL181L, eL181T, eL181F⟩ := hp180
                      have eL181L : L178 = L := eL181L
                      rw [eL181L] at hP hD
                      obtain ⟨zz182, hzz182, eL181T⟩ := eL181T
                      have hzz182 : zz182 = zz171 + 1 := hzz182
                      have hT : TI g ad (gset (gset th 38 zz171) 38 zz182) f179 := eL181T
                      have hT : TI g ad (gset th 38 zz182) f179 := TI.cast hT (by funext q; by_cases hq0 : q = 38; (subst hq0; rfl); simp only [gset, if_neg hq0])
                      have eL181F : ∀ b, b ≠ (ad 255) → b ≠ (ad 276) → f179 b = f168 b := eL181F
                      have hfr : (∀ b, b ≠ (ad 255) → b ≠ (ad 276) → f179 b = f b) := fun b z0_ z1_ => (eL181F b z0_ z1_).trans (hfr b z0_ z1_)
                      refine lv_iload_n hx hb dX11_writesPlan_192 rfl (lv_at hl 2 rfl) ?_
                      refine lv_iconst (v := 1) hx hb dX11_writesPlan_193 (by decide) ?_
                      refine lv_ishr hx hb dX11_writesPlan_194 ?_
                      refine lv_topi (fun x183 ex183 => ?_)
                      refine lv_istore_n (lv' := [(2, .int x183), (0, .ref (ad 255)), (1, .int z1), (3, .int y9_l3), (4, .int x27), (5, .int x35), (6, .int y36_l6), (7, .int x51), (8, .int x53)]) hx hb dX11_writesPlan_195 rfl hl (by decide) rfl (fun ls hl => ?_)
                      exact hJ196 zz182 x183 _ _ _ _ (by have hii := hK_i hpr; omega) (In.full x183) hP hD hS (TI.cast hT (by funext q; by_cases hq0 : q = 38; (subst hq0; rfl); simp only [gset, if_neg hq0])) hfr (lv_sub hl [1, 2, 0, 3, 4, 5, 6, 7, 8] rfl)
                    refine lv_if_le (tgt := 126) hx hb dX11_writesPlan_116 (by decide) (fun c184 => ?_) (fun c184 => ?_)
                    ·
                      have oc0 : (0 : Int32).toInt = 0 := by decide
                      have cc185 : v53_37.toInt ≤ (0 : Int32).toInt := i32_le.mp c184
                      have hb186 : In v53_37 0 0 := In.le1 hv53_37 (⟨by decide, by decide⟩ : In 0 0 0) cc185 (by decide) (by decide)
                      exact hJ126 zg36_zw _ _ _ _ (by omega) hP hD hS (TI.cast hT (by funext q; by_cases hq0 : q = 38; (subst hq0; rfl); simp only [gset, if_neg hq0])) hfr (lv_sub hl [2, 3, 4, 5, 6, 7, 8, 1, 0] rfl)
                    ·
                      have oc0 : (0 : Int32).toInt = 0 := by decide
                      have cc187 : (0 : Int32).toInt < v53_37.toInt := i32_nle c184
                      have hb188 : In v53_37 1 400 := In.gt1 hv53_37 (⟨by decide, by decide⟩ : In 0 0 0) cc187 (by decide) (by decide)
                      refine lv_aload_n hx hb dX11_writesPlan_119 rfl (lv_at hl 2 rfl) ?_
                      refine va_ldcSw hx hb hown (hG.2.2.1 ("RulerWordModel", 417, ";", 30) (by decide +kernel)) dX11_writesPlan_120 ?_
                      refine call_v (run_V (rm := rm_X11_writesWord) hx hb hml hown hts (s_X11_writesWord l g ad (gset th 38 zg36_zw) _ _ _ 30 hst hT (by decide) (show zg36_zw + ((lenS.getD 30 0 : Nat) : Int) ≤ 400 by have ql : (lenS.getD 30 0 : Nat) = 1 := (by decide); omega)) cV_X11_writesWord wg_1875 ⟨Nat.le_of_ble_eq_true rfl, Nat.le_of_ble_eq_true rfl⟩ hG hE hA hP hD hS (hst.1 255 (by decide)) hf38 rfl rfl hl.1 (As := [.ref (g.2.2.1 30)]) (rest := []) rfl (Nat.le_of_ble_eq_true rfl) dX11_writesPlan_123 ⟨Nat.le_of_ble_eq_true rfl, Nat.le_of_ble_eq_true rfl⟩) hA hD hS (fun L190 f191 H locs hp192 hP hD hS => ?_)
                      obtain ⟨eL193L, eL193T, eL193F⟩ := hp192
                      have eL193L : L190 = L := eL193L
                      rw [eL193L] at hP hD
                      obtain ⟨zz194, hzz194, eL193T⟩ := eL193T
                      have hT : TI g ad (gset (gset th 38 zg36_zw) 38 zz194) f191 := eL193T
                      have hT : TI g ad (gset th 38 zz194) f191 := TI.cast hT (by funext q; by_cases hq0 : q = 38; (subst hq0; rfl); simp only [gset, if_neg hq0])
                      have eL193F : ∀ b, b ≠ (ad 255) → b ≠ (ad 276) → f191 b = f_36 b := eL193F
                      have hfr : (∀ b, b ≠ (ad 255) → b ≠ (ad 276) → f191 b = f b) := fun b z0_ z1_ => (eL193F b z0_ z1_).trans (hfr b z0_ z1_)
                      exact hJ126 zz194 _ _ _ _ (by omega) hP hD hS (TI.cast hT (by funext q; by_cases hq0 : q = 38; (subst hq0; rfl); simp only [gset, if_neg hq0])) hfr (lv_sub hl [2, 3, 4, 5, 6, 7, 8, 1, 0] rfl)
                  ·
                    have cc195 : x35.toInt = x86.toInt := congrArg Int32.toInt c89
                    have hb196 : In x35 1 2 := In.eq1 hb36 hb87 cc195 (by decide) (by decide)
                    refine lv_iload hx hb dX11_writesPlan_97 (lv_at hl 1 rfl) ?_
                    refine lv_iload hx hb dX11_writesPlan_99 (lv_at hl 6 rfl) ?_
                    refine lv_aload_n hx hb dX11_writesPlan_101 rfl (lv_at hl 2 rfl) ?_
                    refine pl_get (v := .int v15_37) hx hb hts (fun w h => mT (inX11 w h)) hown hG.1 hP (hst.1 255 (by decide)) hf38 rfl 15 (by decide) (hts _ (mT wg_1351)) (fun _ h => h) rfl dX11_writesPlan_102 ?_
                    refine lv_irem hx hb dX11_writesPlan_105 (In.ne0 hb39 (by decide)) ?_
                    refine lv_topi (fun x197 ex197 => ?_)
                    have hb198 : In x197 0 8 := ex197 ▸ In.rem hb28 hb39 (by decide) (by decide) (by decide)
                    refine lv_icmp_eq (tgt := 112) hx hb dX11_writesPlan_106 (by decide) (fun c199 => ?_) (fun c199 => ?_)
                    ·
                      have cc200 : x51.toInt = x197.toInt := congrArg Int32.toInt c199
                      have hb201 : In x51 0 8 := In.eq1 hb52 hb198 cc200 (by decide) (by decide)
                      have hfr0 : x51.toInt = y36_l6.toInt / th 11 := by rw [ex51, i32_divT (Int.le_trans (by decide) hb50.1) (by omega), hg15_37]
                      have hto0 : x53.toInt = y36_l6.toInt % th 11 := rem_e (n := th 11) ex53 hg15_37 (by omega) (Int.le_trans (by decide) hb50.1)
                      have hrc := rnd_c (th 10)
                      have hph0 : x27.toInt = y9_l3.toInt / rnd (th 10) := by rw [ex27, i32_divT (Int.le_trans (by decide) hb19.1) (by omega), hrn26]
                      have hrd0 : x35.toInt = y9_l3.toInt % rnd (th 10) := rem_e (n := rnd (th 10)) ex35 hrn34 (by omega) (Int.le_trans (by decide) hb19.1)
                      have hkn : (((y9_l3.toInt).toNat : Nat) : Int) = y9_l3.toInt := by have : 0 ≤ y9_l3.toInt := (Int.le_trans (by decide) hb19.1); omega
                      have hcn : (((y36_l6.toInt).toNat : Nat) : Int) = y36_l6.toInt := by have : 0 ≤ y36_l6.toInt := (Int.le_trans (by decide) hb50.1); omega
                      have hpr : prB (rnd (th 10)) (th 11) (th 14) (((y9_l3.toInt).toNat : Nat) : Int) (((y36_l6.toInt).toNat : Nat) : Int) = true := prb_of (by rw [hcn, ← hfr0]; have := hrc; have ob10 : (0 : Int) ≤ (th 10) ∧ (th 10) ≤ 1 := (b0_10 hT :); have ob11 : (0 : Int) ≤ (th 11) ∧ (th 11) ≤ 9 := (b0_11 hT :); have ob12 : (0 : Int) ≤ (th 12) ∧ (th 12) ≤ 6 := (b0_12 hT :); have ob14 : (0 : Int) ≤ (th 14) ∧ (th 14) ≤ 511 := (b0_14 hT :); have ob15 : (0 : Int) ≤ (th 15) ∧ (th 15) ≤ 1 := (b0_15 hT :); have ob16 : (0 : Int) ≤ (th 16) ∧ (th 16) ≤ 20 := (b0_16 hT :); have ob17 : (0 : Int) ≤ (th 17) ∧ (th 17) ≤ 1 := (b0_17 hT :); have ob18 : (0 : Int) ≤ (th 18) ∧ (th 18) ≤ 18 := (b0_18 hT :); have ob38 : (0 : Int) ≤ zg36_zw ∧ zg36_zw ≤ 400 := (b0_38 hT :); have ob39 : (0 : Int) ≤ (th 39) ∧ (th 39) ≤ 200 := (b0_39 hT :); have ob44 : (0 : Int) ≤ (th 44) ∧ (th 44) ≤ 30 := (b0_44 hT :); have orn := rnd_b (th 10); obtain ⟨o0a, o0b⟩ := (hb68 : In _ _ _); obtain ⟨o1a, o1b⟩ := (hv14_37 : In _ _ _); obtain ⟨o2a, o2b⟩ := (hb39 : In _ _ _); obtain ⟨o3a, o3b⟩ := (hv17_37 : In _ _ _); obtain ⟨o4a, o4b⟩ := (hv20_37 : In _ _ _); obtain ⟨o5a, o5b⟩ := (hv23_37 : In _ _ _); obtain ⟨o6a, o6b⟩ := (hv25_37 : In _ _ _); obtain ⟨o7a, o7b⟩ := (hv36_37 : In _ _ _); obtain ⟨o8a, o8b⟩ := (hv47_37 : In _ _ _); obtain ⟨o9a, o9b⟩ := (hv48_37 : In _ _ _); obtain ⟨o10a, o10b⟩ := (hv53_37 : In _ _ _); obtain ⟨o11a, o11b⟩ := (hv55_37 : In _ _ _); omega) (by rw [hcn, ← hto0]; have ob10 : (0 : Int) ≤ (th 10) ∧ (th 10) ≤ 1 := (b0_10 hT :); have ob11 : (0 : Int) ≤ (th 11) ∧ (th 11) ≤ 9 := (b0_11 hT :); have ob12 : (0 : Int) ≤ (th 12) ∧ (th 12) ≤ 6 := (b0_12 hT :); have ob14 : (0 : Int) ≤ (th 14) ∧ (th 14) ≤ 511 := (b0_14 hT :); have ob15 : (0 : Int) ≤ (th 15) ∧ (th 15) ≤ 1 := (b0_15 hT :); have ob16 : (0 : Int) ≤ (th 16) ∧ (th 16) ≤ 20 := (b0_16 hT :); have ob17 : (0 : Int) ≤ (th 17) ∧ (th 17) ≤ 1 := (b0_17 hT :); have ob18 : (0 : Int) ≤ (th 18) ∧ (th 18) ≤ 18 := (b0_18 hT :); have ob38 : (0 : Int) ≤ zg36_zw ∧ zg36_zw ≤ 400 := (b0_38 hT :); have ob39 : (0 : Int) ≤ (th 39) ∧ (th 39) ≤ 200 := (b0_39 hT :); have ob44 : (0 : Int) ≤ (th 44) ∧ (th 44) ≤ 30 := (b0_44 hT :); have orn := rnd_b (th 10); obtain ⟨o0a, o0b⟩ := (hb79 : In _ _ _); obtain ⟨o1a, o1b⟩ := (hv14_37 : In _ _ _); obtain ⟨o2a, o2b⟩ := (hb39 : In _ _ _); obtain ⟨o3a, o3b⟩ := (hv17_37 : In _ _ _); obtain ⟨o4a, o4b⟩ := (hv20_37 : In _ _ _); obtain ⟨o5a, o5b⟩ := (hv23_37 : In _ _ _); obtain ⟨o6a, o6b⟩ := (hv25_37 : In _ _ _); obtain ⟨o7a, o7b⟩ := (hv36_37 : In _ _ _); obtain ⟨o8a, o8b⟩ := (hv47_37 : In _ _ _); obtain ⟨o9a, o9b⟩ := (hv48_37 : In _ _ _); obtain ⟨o10a, o10b⟩ := (hv53_37 : In _ _ _); obtain ⟨o11a, o11b⟩ := (hv55_37 : In _ _ _); omega) (Or.inr (by rw [hkn, hcn, ← hph0, ← hfr0]; have hy := rem_e (n := th 11) ex197 hg15_37 (by omega) (Int.le_trans (by decide) hb28.1); omega))
                      have hpb := plan_b (z := th 10) (k := (y9_l3.toInt).toNat) (c := (y36_l6.toInt).toNat) h14.1 ⟨by omega, h14.2.1⟩ hcap h14.2.2 hfr12 (by have ob10 : (0 : Int) ≤ (th 10) ∧ (th 10) ≤ 1 := (b0_10 hT :); have ob11 : (0 : Int) ≤ (th 11) ∧ (th 11) ≤ 9 := (b0_11 hT :); have ob12 : (0 : Int) ≤ (th 12) ∧ (th 12) ≤ 6 := (b0_12 hT :); have ob14 : (0 : Int) ≤ (th 14) ∧ (th 14) ≤ 511 := (b0_14 hT :); have ob15 : (0 : Int) ≤ (th 15) ∧ (th 15) ≤ 1 := (b0_15 hT :); have ob16 : (0 : Int) ≤ (th 16) ∧ (th 16) ≤ 20 := (b0_16 hT :); have ob17 : (0 : Int) ≤ (th 17) ∧ (th 17) ≤ 1 := (b0_17 hT :); have ob18 : (0 : Int) ≤ (th 18) ∧ (th 18) ≤ 18 := (b0_18 hT :); have ob38 : (0 : Int) ≤ zg36_zw ∧ zg36_zw ≤ 400 := (b0_38 hT :); have ob39 : (0 : Int) ≤ (th 39) ∧ (th 39) ≤ 200 := (b0_39 hT :); have ob44 : (0 : Int) ≤ (th 44) ∧ (th 44) ≤ 30 := (b0_44 hT :); have orn := rnd_b (th 10); obtain ⟨o0a, o0b⟩ := (hb19 : In _ _ _); obtain ⟨o1a, o1b⟩ := (hv14_37 : In _ _ _); obtain ⟨o2a, o2b⟩ := (hb39 : In _ _ _); obtain ⟨o3a, o3b⟩ := (hv17_37 : In _ _ _); obtain ⟨o4a, o4b⟩ := (hv20_37 : In _ _ _); obtain ⟨o5a, o5b⟩ := (hv23_37 : In _ _ _); obtain ⟨o6a, o6b⟩ := (hv25_37 : In _ _ _); obtain ⟨o7a, o7b⟩ := (hv36_37 : In _ _ _); obtain ⟨o8a, o8b⟩ := (hv47_37 : In _ _ _); obtain ⟨o9a, o9b⟩ := (hv48_37 : In _ _ _); obtain ⟨o10a, o10b⟩ := (hv53_37 : In _ _ _); obtain ⟨o11a, o11b⟩ := (hv55_37 : In _ _ _); obtain ⟨o12a, o12b⟩ := (hb20 : In _ _ _); omega) (by have ob10 : (0 : Int) ≤ (th 10) ∧ (th 10) ≤ 1 := (b0_10 hT :); have ob11 : (0 : Int) ≤ (th 11) ∧ (th 11) ≤ 9 := (b0_11 hT :); have ob12 : (0 : Int) ≤ (th 12) ∧ (th 12) ≤ 6 := (b0_12 hT :); have ob14 : (0 : Int) ≤ (th 14) ∧ (th 14) ≤ 511 := (b0_14 hT :); have ob15 : (0 : Int) ≤ (th 15) ∧ (th 15) ≤ 1 := (b0_15 hT :); have ob16 : (0 : Int) ≤ (th 16) ∧ (th 16) ≤ 20 := (b0_16 hT :); have ob17 : (0 : Int) ≤ (th 17) ∧ (th 17) ≤ 1 := (b0_17 hT :); have ob18 : (0 : Int) ≤ (th 18) ∧ (th 18) ≤ 18 := (b0_18 hT :); have ob38 : (0 : Int) ≤ zg36_zw ∧ zg36_zw ≤ 400 := (b0_38 hT :); have ob39 : (0 : Int) ≤ (th 39) ∧ (th 39) ≤ 200 := (b0_39 hT :); have ob44 : (0 : Int) ≤ (th 44) ∧ (th 44) ≤ 30 := (b0_44 hT :); have orn := rnd_b (th 10); obtain ⟨o0a, o0b⟩ := (hb50 : In _ _ _); obtain ⟨o1a, o1b⟩ := (hv14_37 : In _ _ _); obtain ⟨o2a, o2b⟩ := (hb39 : In _ _ _); obtain ⟨o3a, o3b⟩ := (hv17_37 : In _ _ _); obtain ⟨o4a, o4b⟩ := (hv20_37 : In _ _ _); obtain ⟨o5a, o5b⟩ := (hv23_37 : In _ _ _); obtain ⟨o6a, o6b⟩ := (hv25_37 : In _ _ _); obtain ⟨o7a, o7b⟩ := (hv36_37 : In _ _ _); obtain ⟨o8a, o8b⟩ := (hv47_37 : In _ _ _); obtain ⟨o9a, o9b⟩ := (hv48_37 : In _ _ _); obtain ⟨o10a, o10b⟩ := (hv53_37 : In _ _ _); obtain ⟨o11a, o11b⟩ := (hv55_37 : In _ _ _); obtain ⟨o12a, o12b⟩ := (hb41 : In _ _ _); omega)
                      have hh0 := hK_0 (e := rnd (th 10)) (n := th 11) (L := th 14) (k := (((y9_l3.toInt).toNat : Nat) : Int)) (y36_l6.toInt).toNat
                      have hii := hK_i hpr
                      refine lv_aload_n hx hb dX11_writesPlan_112 rfl (lv_at hl 2 rfl) ?_
                      refine pl_get (v := .int v53_37) hx hb hts (fun w h => mT (inX11 w h)) hown hG.1 hP (hst.1 255 (by decide)) hf38 rfl 53 (by decide) (hts _ (mT wg_1389)) (fun _ h => h) rfl dX11_writesPlan_113 ?_
                      have hg53_37 : v53_37.toInt = zg36_zw := hg53_37
                      have hJ126 : ∀ (zg126_zw : Int) (f_126 : HP) (H : Heap) (locs : List Loc) (ls : Array Slot), (0 ≤ zg126_zw ∧ zg126_zw ≤ 30 * (gK (rnd (th 10)) (th 11) (th 14) (y9_l3.toInt).toNat + hK (rnd (th 10)) (th 11) (th 14) (((y9_l3.toInt).toNat : Nat) : Int) (y36_l6.toInt).toNat) + 1) → va_P g.1 vwCl (va_pl L f_126) H → va_D A (va_pl L f_126) → va_S A s.heap H locs → TI g ad (gset th 38 zg126_zw) f_126 → (∀ b, b ≠ (ad 255) → b ≠ (ad 276) → f_126 b = f b) → lv_has ls 9 [(0, .ref (ad 255)), (1, .int z1), (2, .int y36_l2), (3, .int y9_l3), (4, .int x27), (5, .int x35), (6, .int y36_l6), (7, .int x51), (8, .int x53)] → W p l e rm_X11_writesPlan s m [.ref (ad 255), .int z1].toArray below meth c H locs 0 0 (MQ below (va_Qv (po_X11_writesPlan g ad th L f z1) (PstB g A) A) [.ref (ad 255), .int z1].toArray s rm_X11_writesPlan.cells rm_X11_writesPlan.slots A) (F0 m 126 ls []) := by
                        intro zg126_zw f_126 H locs ls hzg126 hP hD hS hT hfr hl
                        refine lv_aload_n hx hb dX11_writesPlan_126 rfl (lv_at hl 0 rfl) ?_
                        refine va_ldcSw hx hb hown (hG.2.2.1 ("RulerWordModel", 423, "phase ", 16) (by decide +kernel)) dX11_writesPlan_127 ?_
                        refine M0e hT (fun v0_202 v2_202 v3_202 v4_202 v5_202 v6_202 v8_202 v9_202 v12_202 v13_202 v14_202 v15_202 v16_202 v17_202 v18_202 v19_202 v20_202 v21_202 v22_202 v23_202 v25_202 v36_202 v37_202 v38_202 v39_202 v40_202 v45_202 v46_202 v47_202 v48_202 v50_202 v51_202 v53_202 v55_202 hf203 hv0_202 hv2_202 hg2_202 hv3_202 hg3_202 hv4_202 hg4_202 hv5_202 hg5_202 hv6_202 hg6_202 hv8_202 hg8_202 hv9_202 hg9_202 hv12_202 hv13_202 hg13_202 hv14_202 hg14_202 hv15_202 hg15_202 hv17_202 hg17_202 hv20_202 hg20_202 hv23_202 hg23_202 hv25_202 hg25_202 hv36_202 hg36_202 hv47_202 hg47_202 hv48_202 hg48_202 hv53_202 hg53_202 hv55_202 hg55_202 hrel0_202 => ?_)
                        have hg15_202 : v15_202.toInt = th 11 := hg15_202
                        have hg20_202 : v20_202.toInt = th 14 := hg20_202
                        have hb204 : In v15_202 3 9 := ⟨by rw [hg15_202]; exact hn3, hv15_202.2⟩
                        refine call_v (run_V (rm := rm_X11_writesWord) hx hb hml hown hts (s_X11_writesWord l g ad (gset th 38 zg126_zw) _ _ _ 16 hst hT (by decide) (show zg126_zw + ((lenS.getD 16 0 : Nat) : Int) ≤ 400 by have ql : (lenS.getD 16 0 : Nat) = 6 := (by decide); omega)) cV_X11_writesWord wg_1875 ⟨Nat.le_of_ble_eq_true rfl, Nat.le_of_ble_eq_true rfl⟩ hG hE hA hP hD hS (hst.1 255 (by decide)) hf203 rfl rfl hl.1 (As := [.ref (g.2.2.1 16)]) (rest := []) rfl (Nat.le_of_ble_eq_true rfl) dX11_writesPlan_130 ⟨Nat.le_of_ble_eq_true rfl, Nat.le_of_ble_eq_true rfl⟩) hA hD hS (fun L206 f207 H locs hp208 hP hD hS => ?_)
                        obtain ⟨eL209L, eL209T, eL209F⟩ := hp208
                        have eL209L : L206 = L := eL209L
                        rw [eL209L] at hP hD
                        obtain ⟨zz210, hzz210, eL209T⟩ := eL209T
                        have hT : TI g ad (gset (gset th 38 zg126_zw) 38 zz210) f207 := eL209T
                        have hT : TI g ad (gset th 38 zz210) f207 := TI.cast hT (by funext q; by_cases hq0 : q = 38; (subst hq0; rfl); simp only [gset, if_neg hq0])
                        have eL209F : ∀ b, b ≠ (ad 255) → b ≠ (ad 276) → f207 b = f_126 b := eL209F
                        have hfr : (∀ b, b ≠ (ad 255) → b ≠ (ad 276) → f207 b = f b) := fun b z0_ z1_ => (eL209F b z0_ z1_).trans (hfr b z0_ z1_)
                        refine lv_aload_n hx hb dX11_writesPlan_133 rfl (lv_at hl 0 rfl) ?_
                        refine lv_iload hx hb dX11_writesPlan_134 (lv_at hl 4 rfl) ?_
                        refine M0e hT (fun v0_211 v2_211 v3_211 v4_211 v5_211 v6_211 v8_211 v9_211 v12_211 v13_211 v14_211 v15_211 v16_211 v17_211 v18_211 v19_211 v20_211 v21_211 v22_211 v23_211 v25_211 v36_211 v37_211 v38_211 v39_211 v40_211 v45_211 v46_211 v47_211 v48_211 v50_211 v51_211 v53_211 v55_211 hf212 hv0_211 hv2_211 hg2_211 hv3_211 hg3_211 hv4_211 hg4_211 hv5_211 hg5_211 hv6_211 hg6_211 hv8_211 hg8_211 hv9_211 hg9_211 hv12_211 hv13_211 hg13_211 hv14_211 hg14_211 hv15_211 hg15_211 hv17_211 hg17_211 hv20_211 hg20_211 hv23_211 hg23_211 hv25_211 hg25_211 hv36_211 hg36_211 hv47_211 hg47_211 hv48_211 hg48_211 hv53_211 hg53_211 hv55_211 hg55_211 hrel0_211 => ?_)
                        have hg15_211 : v15_211.toInt = th 11 := hg15_211
                        have hg20_211 : v20_211.toInt = th 14 := hg20_211
                        have hb213 : In v15_211 3 9 := ⟨by rw [hg15_211]; exact hn3, hv15_211.2⟩
                        refine call_v (run_V (rm := rm_X11_writesDigit) hx hb hml hown hts (s_X11_writesDigit l g ad (gset th 38 zz210) _ _ _ x27 hst hT (show zz210 < 400 from (by have ob10 : (0 : Int) ≤ (th 10) ∧ (th 10) ≤ 1 := (b0_10 hT :); have ob11 : (0 : Int) ≤ (th 11) ∧ (th 11) ≤ 9 := (b0_11 hT :); have ob12 : (0 : Int) ≤ (th 12) ∧ (th 12) ≤ 6 := (b0_12 hT :); have ob14 : (0 : Int) ≤ (th 14) ∧ (th 14) ≤ 511 := (b0_14 hT :); have ob15 : (0 : Int) ≤ (th 15) ∧ (th 15) ≤ 1 := (b0_15 hT :); have ob16 : (0 : Int) ≤ (th 16) ∧ (th 16) ≤ 20 := (b0_16 hT :); have ob17 : (0 : Int) ≤ (th 17) ∧ (th 17) ≤ 1 := (b0_17 hT :); have ob18 : (0 : Int) ≤ (th 18) ∧ (th 18) ≤ 18 := (b0_18 hT :); have ob38 : (0 : Int) ≤ zz210 ∧ zz210 ≤ 400 := (b0_38 hT :); have ob39 : (0 : Int) ≤ (th 39) ∧ (th 39) ≤ 200 := (b0_39 hT :); have ob44 : (0 : Int) ≤ (th 44) ∧ (th 44) ≤ 30 := (b0_44 hT :); have orn := rnd_b (th 10); obtain ⟨o0a, o0b⟩ := (hv14_211 : In _ _ _); obtain ⟨o1a, o1b⟩ := (hb213 : In _ _ _); obtain ⟨o2a, o2b⟩ := (hv17_211 : In _ _ _); obtain ⟨o3a, o3b⟩ := (hv20_211 : In _ _ _); obtain ⟨o4a, o4b⟩ := (hv23_211 : In _ _ _); obtain ⟨o5a, o5b⟩ := (hv25_211 : In _ _ _); obtain ⟨o6a, o6b⟩ := (hv36_211 : In _ _ _); obtain ⟨o7a, o7b⟩ := (hv47_211 : In _ _ _); obtain ⟨o8a, o8b⟩ := (hv48_211 : In _ _ _); obtain ⟨o9a, o9b⟩ := (hv53_211 : In _ _ _); obtain ⟨o10a, o10b⟩ := (hv55_211 : In _ _ _); omega))) cV_X11_writesDigit wg_1880 ⟨Nat.le_of_ble_eq_true rfl, Nat.le_of_ble_eq_true rfl⟩ hG hE hA hP hD hS (hst.1 255 (by decide)) hf212 rfl rfl hl.1 (As := [.int x27]) (rest := []) rfl (Nat.le_of_ble_eq_true rfl) dX11_writesPlan_136 ⟨Nat.le_of_ble_eq_true rfl, Nat.le_of_ble_eq_true rfl⟩) hA hD hS (fun L215 f216 H locs hp217 hP hD hS => ?_)
                        obtain ⟨eL218L, eL218T, eL218F⟩ := hp217
                        have eL218L : L215 = L := eL218L
                        rw [eL218L] at hP hD
                        obtain ⟨zz219, hzz219, eL218T⟩ := eL218T
                        have hzz219 : zz219 = zz210 + 1 := hzz219
                        have hT : TI g ad (gset (gset th 38 zz210) 38 zz219) f216 := eL218T
                        have hT : TI g ad (gset th 38 zz219) f216 := TI.cast hT (by funext q; by_cases hq0 : q = 38; (subst hq0; rfl); simp only [gset, if_neg hq0])
                        have eL218F : ∀ b, b ≠ (ad 255) → b ≠ (ad 276) → f216 b = f207 b := eL218F
                        have hfr : (∀ b, b ≠ (ad 255) → b ≠ (ad 276) → f216 b = f b) := fun b z0_ z1_ => (eL218F b z0_ z1_).trans (hfr b z0_ z1_)
                        refine lv_aload_n hx hb dX11_writesPlan_139 rfl (lv_at hl 0 rfl) ?_
                        refine va_ldcSw hx hb hown (hG.2.2.1 ("RulerWordModel", 428, " round ", 18) (by decide +kernel)) dX11_writesPlan_140 ?_
                        refine M0e hT (fun v0_220 v2_220 v3_220 v4_220 v5_220 v6_220 v8_220 v9_220 v12_220 v13_220 v14_220 v15_220 v16_220 v17_220 v18_220 v19_220 v20_220 v21_220 v22_220 v23_220 v25_220 v36_220 v37_220 v38_220 v39_220 v40_220 v45_220 v46_220 v47_220 v48_220 v50_220 v51_220 v53_220 v55_220 hf221 hv0_220 hv2_220 hg2_220 hv3_220 hg3_220 hv4_220 hg4_220 hv5_220 hg5_220 hv6_220 hg6_220 hv8_220 hg8_220 hv9_220 hg9_220 hv12_220 hv13_220 hg13_220 hv14_220 hg14_220 hv15_220 hg15_220 hv17_220 hg17_220 hv20_220 hg20_220 hv23_220 hg23_220 hv25_220 hg25_220 hv36_220 hg36_220 hv47_220 hg47_220 hv48_220 hg48_220 hv53_220 hg53_220 hv55_220 hg55_220 hrel0_220 => ?_)
                        have hg15_220 : v15_220.toInt = th 11 := hg15_220
                        have hg20_220 : v20_220.toInt = th 14 := hg20_220
                        have hb222 : In v15_220 3 9 := ⟨by rw [hg15_220]; exact hn3, hv15_220.2⟩
                        refine call_v (run_V (rm := rm_X11_writesWord) hx hb hml hown hts (s_X11_writesWord l g ad (gset th 38 zz219) _ _ _ 18 hst hT (by decide) (show zz219 + ((lenS.getD 18 0 : Nat) : Int) ≤ 400 by have ql : (lenS.getD 18 0 : Nat) = 7 := (by decide); omega)) cV_X11_writesWord wg_1875 ⟨Nat.le_of_ble_eq_true rfl, Nat.le_of_ble_eq_true rfl⟩ hG hE hA hP hD hS (hst.1 255 (by decide)) hf221 rfl rfl hl.1 (As := [.ref (g.2.2.1 18)]) (rest := []) rfl (Nat.le_of_ble_eq_true rfl) dX11_writesPlan_143 ⟨Nat.le_of_ble_eq_true rfl, Nat.le_of_ble_eq_true rfl⟩) hA hD hS (fun L224 f225 H locs hp226 hP hD hS => ?_)
                        obtain ⟨eL227L, eL227T, eL227F⟩ := hp226
                        have eL227L : L224 = L := eL227L
                        rw [eL227L] at hP hD
                        obtain ⟨zz228, hzz228, eL227T⟩ := eL227T
                        have hT : TI g ad (gset (gset th 38 zz219) 38 zz228) f225 := eL227T
                        have hT : TI g ad (gset th 38 zz228) f225 := TI.cast hT (by funext q; by_cases hq0 : q = 38; (subst hq0; rfl); simp only [gset, if_neg hq0])
                        have eL227F : ∀ b, b ≠ (ad 255) → b ≠ (ad 276) → f225 b = f216 b := eL227F
                        have hfr : (∀ b, b ≠ (ad 255) → b ≠ (ad 276) → f225 b = f b) := fun b z0_ z1_ => (eL227F b z0_ z1_).trans (hfr b z0_ z1_)
                        refine lv_aload_n hx hb dX11_writesPlan_146 rfl (lv_at hl 0 rfl) ?_
                        refine lv_iload hx hb dX11_writesPlan_147 (lv_at hl 5 rfl) ?_
                        refine M0e hT (fun v0_229 v2_229 v3_229 v4_229 v5_229 v6_229 v8_229 v9_229 v12_229 v13_229 v14_229 v15_229 v16_229 v17_229 v18_229 v19_229 v20_229 v21_229 v22_229 v23_229 v25_229 v36_229 v37_229 v38_229 v39_229 v40_229 v45_229 v46_229 v47_229 v48_229 v50_229 v51_229 v53_229 v55_229 hf230 hv0_229 hv2_229 hg2_229 hv3_229 hg3_229 hv4_229 hg4_229 hv5_229 hg5_229 hv6_229 hg6_229 hv8_229 hg8_229 hv9_229 hg9_229 hv12_229 hv13_229 hg13_229 hv14_229 hg14_229 hv15_229 hg15_229 hv17_229 hg17_229 hv20_229 hg20_229 hv23_229 hg23_229 hv25_229 hg25_229 hv36_229 hg36_229 hv47_229 hg47_229 hv48_229 hg48_229 hv53_229 hg53_229 hv55_229 hg55_229 hrel0_229 => ?_)
                        have hg15_229 : v15_229.toInt = th 11 := hg15_229
                        have hg20_229 : v20_229.toInt = th 14 := hg20_229
                        have hb231 : In v15_229 3 9 := ⟨by rw [hg15_229]; exact hn3, hv15_229.2⟩
                        refine call_v (run_V (rm := rm_X11_writesDigit) hx hb hml hown hts (s_X11_writesDigit l g ad (gset th 38 zz228) _ _ _ x35 hst hT (show zz228 < 400 from (by have ob10 : (0 : Int) ≤ (th 10) ∧ (th 10) ≤ 1 := (b0_10 hT :); have ob11 : (0 : Int) ≤ (th 11) ∧ (th 11) ≤ 9 := (b0_11 hT :); have ob12 : (0 : Int) ≤ (th 12) ∧ (th 12) ≤ 6 := (b0_12 hT :); have ob14 : (0 : Int) ≤ (th 14) ∧ (th 14) ≤ 511 := (b0_14 hT :); have ob15 : (0 : Int) ≤ (th 15) ∧ (th 15) ≤ 1 := (b0_15 hT :); have ob16 : (0 : Int) ≤ (th 16) ∧ (th 16) ≤ 20 := (b0_16 hT :); have ob17 : (0 : Int) ≤ (th 17) ∧ (th 17) ≤ 1 := (b0_17 hT :); have ob18 : (0 : Int) ≤ (th 18) ∧ (th 18) ≤ 18 := (b0_18 hT :); have ob38 : (0 : Int) ≤ zz228 ∧ zz228 ≤ 400 := (b0_38 hT :); have ob39 : (0 : Int) ≤ (th 39) ∧ (th 39) ≤ 200 := (b0_39 hT :); have ob44 : (0 : Int) ≤ (th 44) ∧ (th 44) ≤ 30 := (b0_44 hT :); have orn := rnd_b (th 10); obtain ⟨o0a, o0b⟩ := (hv14_229 : In _ _ _); obtain ⟨o1a, o1b⟩ := (hb231 : In _ _ _); obtain ⟨o2a, o2b⟩ := (hv17_229 : In _ _ _); obtain ⟨o3a, o3b⟩ := (hv20_229 : In _ _ _); obtain ⟨o4a, o4b⟩ := (hv23_229 : In _ _ _); obtain ⟨o5a, o5b⟩ := (hv25_229 : In _ _ _); obtain ⟨o6a, o6b⟩ := (hv36_229 : In _ _ _); obtain ⟨o7a, o7b⟩ := (hv47_229 : In _ _ _); obtain ⟨o8a, o8b⟩ := (hv48_229 : In _ _ _); obtain ⟨o9a, o9b⟩ := (hv53_229 : In _ _ _); obtain ⟨o10a, o10b⟩ := (hv55_229 : In _ _ _); omega))) cV_X11_writesDigit wg_1880 ⟨Nat.le_of_ble_eq_true rfl, Nat.le_of_ble_eq_true rfl⟩ hG hE hA hP hD hS (hst.1 255 (by decide)) hf230 rfl rfl hl.1 (As := [.int x35]) (rest := []) rfl (Nat.le_of_ble_eq_true rfl) dX11_writesPlan_149 ⟨Nat.le_of_ble_eq_true rfl, Nat.le_of_ble_eq_true rfl⟩) hA hD hS (fun L233 f234 H locs hp235 hP hD hS => ?_)
                        obtain ⟨eL236L, eL236T, eL236F⟩ := hp235
                        have eL236L : L233 = L := eL236L
                        rw [eL236L] at hP hD
                        obtain ⟨zz237, hzz237, eL236T⟩ := eL236T
                        have hzz237 : zz237 = zz228 + 1 := hzz237
                        have hT : TI g ad (gset (gset th 38 zz228) 38 zz237) f234 := eL236T
                        have hT : TI g ad (gset th 38 zz237) f234 := TI.cast hT (by funext q; by_cases hq0 : q = 38; (subst hq0; rfl); simp only [gset, if_neg hq0])
                        have eL236F : ∀ b, b ≠ (ad 255) → b ≠ (ad 276) → f234 b = f225 b := eL236F
                        have hfr : (∀ b, b ≠ (ad 255) → b ≠ (ad 276) → f234 b = f b) := fun b z0_ z1_ => (eL236F b z0_ z1_).trans (hfr b z0_ z1_)
                        refine lv_aload_n hx hb dX11_writesPlan_152 rfl (lv_at hl 0 rfl) ?_
                        refine va_ldcSw hx hb hown (hG.2.2.1 ("RulerWordModel", 430, " from ", 19) (by decide +kernel)) dX11_writesPlan_153 ?_
                        refine M0e hT (fun v0_238 v2_238 v3_238 v4_238 v5_238 v6_238 v8_238 v9_238 v12_238 v13_238 v14_238 v15_238 v16_238 v17_238 v18_238 v19_238 v20_238 v21_238 v22_238 v23_238 v25_238 v36_238 v37_238 v38_238 v39_238 v40_238 v45_238 v46_238 v47_238 v48_238 v50_238 v51_238 v53_238 v55_238 hf239 hv0_238 hv2_238 hg2_238 hv3_238 hg3_238 hv4_238 hg4_238 hv5_238 hg5_238 hv6_238 hg6_238 hv8_238 hg8_238 hv9_238 hg9_238 hv12_238 hv13_238 hg13_238 hv14_238 hg14_238 hv15_238 hg15_238 hv17_238 hg17_238 hv20_238 hg20_238 hv23_238 hg23_238 hv25_238 hg25_238 hv36_238 hg36_238 hv47_238 hg47_238 hv48_238 hg48_238 hv53_238 hg53_238 hv55_238 hg55_238 hrel0_238 => ?_)
                        have hg15_238 : v15_238.toInt = th 11 := hg15_238
                        have hg20_238 : v20_238.toInt = th 14 := hg20_238
                        have hb240 : In v15_238 3 9 := ⟨by rw [hg15_238]; exact hn3, hv15_238.2⟩
                        refine call_v (run_V (rm := rm_X11_writesWord) hx hb hml hown hts (s_X11_writesWord l g ad (gset th 38 zz237) _ _ _ 19 hst hT (by decide) (show zz237 + ((lenS.getD 19 0 : Nat) : Int) ≤ 400 by have ql : (lenS.getD 19 0 : Nat) = 6 := (by decide); omega)) cV_X11_writesWord wg_1875 ⟨Nat.le_of_ble_eq_true rfl, Nat.le_of_ble_eq_true rfl⟩ hG hE hA hP hD hS (hst.1 255 (by decide)) hf239 rfl rfl hl.1 (As := [.ref (g.2.2.1 19)]) (rest := []) rfl (Nat.le_of_ble_eq_true rfl) dX11_writesPlan_156 ⟨Nat.le_of_ble_eq_true rfl, Nat.le_of_ble_eq_true rfl⟩) hA hD hS (fun L242 f243 H locs hp244 hP hD hS => ?_)
                        obtain ⟨eL245L, eL245T, eL245F⟩ := hp244
                        have eL245L : L242 = L := eL245L
                        rw [eL245L] at hP hD
                        obtain ⟨zz246, hzz246, eL245T⟩ := eL245T
                        have hT : TI g ad (gset (gset th 38 zz237) 38 zz246) f243 := eL245T
                        have hT : TI g ad (gset th 38 zz246) f243 := TI.cast hT (by funext q; by_cases hq0 : q = 38; (subst hq0; rfl); simp only [gset, if_neg hq0])
                        have eL245F : ∀ b, b ≠ (ad 255) → b ≠ (ad 276) → f243 b = f234 b := eL245F
                        have hfr : (∀ b, b ≠ (ad 255) → b ≠ (ad 276) → f243 b = f b) := fun b z0_ z1_ => (eL245F b z0_ z1_).trans (hfr b z0_ z1_)
                        refine lv_aload_n hx hb dX11_writesPlan_159 rfl (lv_at hl 0 rfl) ?_
                        refine lv_iload hx hb dX11_writesPlan_160 (lv_at hl 7 rfl) ?_
                        refine M0e hT (fun v0_247 v2_247 v3_247 v4_247 v5_247 v6_247 v8_247 v9_247 v12_247 v13_247 v14_247 v15_247 v16_247 v17_247 v18_247 v19_247 v20_247 v21_247 v22_247 v23_247 v25_247 v36_247 v37_247 v38_247 v39_247 v40_247 v45_247 v46_247 v47_247 v48_247 v50_247 v51_247 v53_247 v55_247 hf248 hv0_247 hv2_247 hg2_247 hv3_247 hg3_247 hv4_247 hg4_247 hv5_247 hg5_247 hv6_247 hg6_247 hv8_247 hg8_247 hv9_247 hg9_247 hv12_247 hv13_247 hg13_247 hv14_247 hg14_247 hv15_247 hg15_247 hv17_247 hg17_247 hv20_247 hg20_247 hv23_247 hg23_247 hv25_247 hg25_247 hv36_247 hg36_247 hv47_247 hg47_247 hv48_247 hg48_247 hv53_247 hg53_247 hv55_247 hg55_247 hrel0_247 => ?_)
                        have hg15_247 : v15_247.toInt = th 11 := hg15_247
                        have hg20_247 : v20_247.toInt = th 14 := hg20_247
                        have hb249 : In v15_247 3 9 := ⟨by rw [hg15_247]; exact hn3, hv15_247.2⟩
                        refine call_v (run_V (rm := rm_X11_writesDigit) hx hb hml hown hts (s_X11_writesDigit l g ad (gset th 38 zz246) _ _ _ x51 hst hT (show zz246 < 400 from (by have ob10 : (0 : Int) ≤ (th 10) ∧ (th 10) ≤ 1 := (b0_10 hT :); have ob11 : (0 : Int) ≤ (th 11) ∧ (th 11) ≤ 9 := (b0_11 hT :); have ob12 : (0 : Int) ≤ (th 12) ∧ (th 12) ≤ 6 := (b0_12 hT :); have ob14 : (0 : Int) ≤ (th 14) ∧ (th 14) ≤ 511 := (b0_14 hT :); have ob15 : (0 : Int) ≤ (th 15) ∧ (th 15) ≤ 1 := (b0_15 hT :); have ob16 : (0 : Int) ≤ (th 16) ∧ (th 16) ≤ 20 := (b0_16 hT :); have ob17 : (0 : Int) ≤ (th 17) ∧ (th 17) ≤ 1 := (b0_17 hT :); have ob18 : (0 : Int) ≤ (th 18) ∧ (th 18) ≤ 18 := (b0_18 hT :); have ob38 : (0 : Int) ≤ zz246 ∧ zz246 ≤ 400 := (b0_38 hT :); have ob39 : (0 : Int) ≤ (th 39) ∧ (th 39) ≤ 200 := (b0_39 hT :); have ob44 : (0 : Int) ≤ (th 44) ∧ (th 44) ≤ 30 := (b0_44 hT :); have orn := rnd_b (th 10); obtain ⟨o0a, o0b⟩ := (hv14_247 : In _ _ _); obtain ⟨o1a, o1b⟩ := (hb249 : In _ _ _); obtain ⟨o2a, o2b⟩ := (hv17_247 : In _ _ _); obtain ⟨o3a, o3b⟩ := (hv20_247 : In _ _ _); obtain ⟨o4a, o4b⟩ := (hv23_247 : In _ _ _); obtain ⟨o5a, o5b⟩ := (hv25_247 : In _ _ _); obtain ⟨o6a, o6b⟩ := (hv36_247 : In _ _ _); obtain ⟨o7a, o7b⟩ := (hv47_247 : In _ _ _); obtain ⟨o8a, o8b⟩ := (hv48_247 : In _ _ _); obtain ⟨o9a, o9b⟩ := (hv53_247 : In _ _ _); obtain ⟨o10a, o10b⟩ := (hv55_247 : In _ _ _); omega))) cV_X11_writesDigit wg_1880 ⟨Nat.le_of_ble_eq_true rfl, Nat.le_of_ble_eq_true rfl⟩ hG hE hA hP hD hS (hst.1 255 (by decide)) hf248 rfl rfl hl.1 (As := [.int x51]) (rest := []) rfl (Nat.le_of_ble_eq_true rfl) dX11_writesPlan_162 ⟨Nat.le_of_ble_eq_true rfl, Nat.le_of_ble_eq_true rfl⟩) hA hD hS (fun L251 f252 H locs hp253 hP hD hS => ?_)
                        obtain ⟨eL254L, eL254T, eL254F⟩ := hp253
                        have eL254L : L251 = L := eL254L
                        rw [eL254L] at hP hD
                        obtain ⟨zz255, hzz255, eL254T⟩ := eL254T
                        have hzz255 : zz255 = zz246 + 1 := hzz255
                        have hT : TI g ad (gset (gset th 38 zz246) 38 zz255) f252 := eL254T
                        have hT : TI g ad (gset th 38 zz255) f252 := TI.cast hT (by funext q; by_cases hq0 : q = 38; (subst hq0; rfl); simp only [gset, if_neg hq0])
                        have eL254F : ∀ b, b ≠ (ad 255) → b ≠ (ad 276) → f252 b = f243 b := eL254F
                        have hfr : (∀ b, b ≠ (ad 255) → b ≠ (ad 276) → f252 b = f b) := fun b z0_ z1_ => (eL254F b z0_ z1_).trans (hfr b z0_ z1_)
                        refine lv_aload_n hx hb dX11_writesPlan_165 rfl (lv_at hl 0 rfl) ?_
                        refine va_ldcSw hx hb hown (hG.2.2.1 ("RulerWordModel", 432, " to ", 20) (by decide +kernel)) dX11_writesPlan_166 ?_
                        refine M0e hT (fun v0_256 v2_256 v3_256 v4_256 v5_256 v6_256 v8_256 v9_256 v12_256 v13_256 v14_256 v15_256 v16_256 v17_256 v18_256 v19_256 v20_256 v21_256 v22_256 v23_256 v25_256 v36_256 v37_256 v38_256 v39_256 v40_256 v45_256 v46_256 v47_256 v48_256 v50_256 v51_256 v53_256 v55_256 hf257 hv0_256 hv2_256 hg2_256 hv3_256 hg3_256 hv4_256 hg4_256 hv5_256 hg5_256 hv6_256 hg6_256 hv8_256 hg8_256 hv9_256 hg9_256 hv12_256 hv13_256 hg13_256 hv14_256 hg14_256 hv15_256 hg15_256 hv17_256 hg17_256 hv20_256 hg20_256 hv23_256 hg23_256 hv25_256 hg25_256 hv36_256 hg36_256 hv47_256 hg47_256 hv48_256 hg48_256 hv53_256 hg53_256 hv55_256 hg55_256 hrel0_256 => ?_)
                        have hg15_256 : v15_256.toInt = th 11 := hg15_256
                        have hg20_256 : v20_256.toInt = th 14 := hg20_256
                        have hb258 : In v15_256 3 9 := ⟨by rw [hg15_256]; exact hn3, hv15_256.2⟩
                        refine call_v (run_V (rm := rm_X11_writesWord) hx hb hml hown hts (s_X11_writesWord l g ad (gset th 38 zz255) _ _ _ 20 hst hT (by decide) (show zz255 + ((lenS.getD 20 0 : Nat) : Int) ≤ 400 by have ql : (lenS.getD 20 0 : Nat) = 4 := (by decide); omega)) cV_X11_writesWord wg_1875 ⟨Nat.le_of_ble_eq_true rfl, Nat.le_of_ble_eq_true rfl⟩ hG hE hA hP hD hS (hst.1 255 (by decide)) hf257 rfl rfl hl.1 (As := [.ref (g.2.2.1 20)]) (rest := []) rfl (Nat.le_of_ble_eq_true rfl) dX11_writesPlan_169 ⟨Nat.le_of_ble_eq_true rfl, Nat.le_of_ble_eq_true rfl⟩) hA hD hS (fun L260 f261 H locs hp262 hP hD hS => ?_)
                        obtain ⟨eL263L, eL263T, eL263F⟩ := hp262
                        have eL263L : L260 = L := eL263L
                        rw [eL263L] at hP hD
                        obtain ⟨zz264, hzz264, eL263T⟩ := eL263T
                        have hT : TI g ad (gset (gset th 38 zz255) 38 zz264) f261 := eL263T
                        have hT : TI g ad (gset th 38 zz264) f261 := TI.cast hT (by funext q; by_cases hq0 : q = 38; (subst hq0; rfl); simp only [gset, if_neg hq0])
                        have eL263F : ∀ b, b ≠ (ad 255) → b ≠ (ad 276) → f261 b = f252 b := eL263F
                        have hfr : (∀ b, b ≠ (ad 255) → b ≠ (ad 276) → f261 b = f b) := fun b z0_ z1_ => (eL263F b z0_ z1_).trans (hfr b z0_ z1_)
                        refine lv_aload_n hx hb dX11_writesPlan_172 rfl (lv_at hl 0 rfl) ?_
                        refine lv_iload hx hb dX11_writesPlan_173 (lv_at hl 8 rfl) ?_
                        refine M0e hT (fun v0_265 v2_265 v3_265 v4_265 v5_265 v6_265 v8_265 v9_265 v12_265 v13_265 v14_265 v15_265 v16_265 v17_265 v18_265 v19_265 v20_265 v21_265 v22_265 v23_265 v25_265 v36_265 v37_265 v38_265 v39_265 v40_265 v45_265 v46_265 v47_265 v48_265 v50_265 v51_265 v53_265 v55_265 hf266 hv0_265 hv2_265 hg2_265 hv3_265 hg3_265 hv4_265 hg4_265 hv5_265 hg5_265 hv6_265 hg6_265 hv8_265 hg8_265 hv9_265 hg9_265 hv12_265 hv13_265 hg13_265 hv14_265 hg14_265 hv15_265 hg15_265 hv17_265 hg17_265 hv20_265 hg20_265 hv23_265 hg23_265 hv25_265 hg25_265 hv36_265 hg36_265 hv47_265 hg47_265 hv48_265 hg48_265 hv53_265 hg53_265 hv55_265 hg55_265 hrel0_265 => ?_)
                        have hg15_265 : v15_265.toInt = th 11 := hg15_265
                        have hg20_265 : v20_265.toInt = th 14 := hg20_265
                        have hb267 : In v15_265 3 9 := ⟨by rw [hg15_265]; exact hn3, hv15_265.2⟩
                        refine call_v (run_V (rm := rm_X11_writesDigit) hx hb hml hown hts (s_X11_writesDigit l g ad (gset th 38 zz264) _ _ _ x53 hst hT (show zz264 < 400 from (by have ob10 : (0 : Int) ≤ (th 10) ∧ (th 10) ≤ 1 := (b0_10 hT :); have ob11 : (0 : Int) ≤ (th 11) ∧ (th 11) ≤ 9 := (b0_11 hT :); have ob12 : (0 : Int) ≤ (th 12) ∧ (th 12) ≤ 6 := (b0_12 hT :); have ob14 : (0 : Int) ≤ (th 14) ∧ (th 14) ≤ 511 := (b0_14 hT :); have ob15 : (0 : Int) ≤ (th 15) ∧ (th 15) ≤ 1 := (b0_15 hT :); have ob16 : (0 : Int) ≤ (th 16) ∧ (th 16) ≤ 20 := (b0_16 hT :); have ob17 : (0 : Int) ≤ (th 17) ∧ (th 17) ≤ 1 := (b0_17 hT :); have ob18 : (0 : Int) ≤ (th 18) ∧ (th 18) ≤ 18 := (b0_18 hT :); have ob38 : (0 : Int) ≤ zz264 ∧ zz264 ≤ 400 := (b0_38 hT :); have ob39 : (0 : Int) ≤ (th 39) ∧ (th 39) ≤ 200 := (b0_39 hT :); have ob44 : (0 : Int) ≤ (th 44) ∧ (th 44) ≤ 30 := (b0_44 hT :); have orn := rnd_b (th 10); obtain ⟨o0a, o0b⟩ := (hv14_265 : In _ _ _); obtain ⟨o1a, o1b⟩ := (hb267 : In _ _ _); obtain ⟨o2a, o2b⟩ := (hv17_265 : In _ _ _); obtain ⟨o3a, o3b⟩ := (hv20_265 : In _ _ _); obtain ⟨o4a, o4b⟩ := (hv23_265 : In _ _ _); obtain ⟨o5a, o5b⟩ := (hv25_265 : In _ _ _); obtain ⟨o6a, o6b⟩ := (hv36_265 : In _ _ _); obtain ⟨o7a, o7b⟩ := (hv47_265 : In _ _ _); obtain ⟨o8a, o8b⟩ := (hv48_265 : In _ _ _); obtain ⟨o9a, o9b⟩ := (hv53_265 : In _ _ _); obtain ⟨o10a, o10b⟩ := (hv55_265 : In _ _ _); omega))) cV_X11_writesDigit wg_1880 ⟨Nat.le_of_ble_eq_true rfl, Nat.le_of_ble_eq_true rfl⟩ hG hE hA hP hD hS (hst.1 255 (by decide)) hf266 rfl rfl hl.1 (As := [.int x53]) (rest := []) rfl (Nat.le_of_ble_eq_true rfl) dX11_writesPlan_175 ⟨Nat.le_of_ble_eq_true rfl, Nat.le_of_ble_eq_true rfl⟩) hA hD hS (fun L269 f270 H locs hp271 hP hD hS => ?_)
                        obtain ⟨eL272L, eL272T, eL272F⟩ := hp271
                        have eL272L : L269 = L := eL272L
                        rw [eL272L] at hP hD
                        obtain ⟨zz273, hzz273, eL272T⟩ := eL272T
                        have hzz273 : zz273 = zz264 + 1 := hzz273
                        have hT : TI g ad (gset (gset th 38 zz264) 38 zz273) f270 := eL272T
                        have hT : TI g ad (gset th 38 zz273) f270 := TI.cast hT (by funext q; by_cases hq0 : q = 38; (subst hq0; rfl); simp only [gset, if_neg hq0])
                        have eL272F : ∀ b, b ≠ (ad 255) → b ≠ (ad 276) → f270 b = f261 b := eL272F
                        have hfr : (∀ b, b ≠ (ad 255) → b ≠ (ad 276) → f270 b = f b) := fun b z0_ z1_ => (eL272F b z0_ z1_).trans (hfr b z0_ z1_)
                        refine lv_aload_n hx hb dX11_writesPlan_178 rfl (lv_at hl 0 rfl) ?_
                        refine va_ldcSw hx hb hown (hG.2.2.1 ("RulerWordModel", 434, " ", 21) (by decide +kernel)) dX11_writesPlan_179 ?_
                        refine M0e hT (fun v0_274 v2_274 v3_274 v4_274 v5_274 v6_274 v8_274 v9_274 v12_274 v13_274 v14_274 v15_274 v16_274 v17_274 v18_274 v19_274 v20_274 v21_274 v22_274 v23_274 v25_274 v36_274 v37_274 v38_274 v39_274 v40_274 v45_274 v46_274 v47_274 v48_274 v50_274 v51_274 v53_274 v55_274 hf275 hv0_274 hv2_274 hg2_274 hv3_274 hg3_274 hv4_274 hg4_274 hv5_274 hg5_274 hv6_274 hg6_274 hv8_274 hg8_274 hv9_274 hg9_274 hv12_274 hv13_274 hg13_274 hv14_274 hg14_274 hv15_274 hg15_274 hv17_274 hg17_274 hv20_274 hg20_274 hv23_274 hg23_274 hv25_274 hg25_274 hv36_274 hg36_274 hv47_274 hg47_274 hv48_274 hg48_274 hv53_274 hg53_274 hv55_274 hg55_274 hrel0_274 => ?_)
                        have hg15_274 : v15_274.toInt = th 11 := hg15_274
                        have hg20_274 : v20_274.toInt = th 14 := hg20_274
                        have hb276 : In v15_274 3 9 := ⟨by rw [hg15_274]; exact hn3, hv15_274.2⟩
                        refine call_v (run_V (rm := rm_X11_writesWord) hx hb hml hown hts (s_X11_writesWord l g ad (gset th 38 zz273) _ _ _ 21 hst hT (by decide) (show zz273 + ((lenS.getD 21 0 : Nat) : Int) ≤ 400 by have ql : (lenS.getD 21 0 : Nat) = 1 := (by decide); omega)) cV_X11_writesWord wg_1875 ⟨Nat.le_of_ble_eq_true rfl, Nat.le_of_ble_eq_true rfl⟩ hG hE hA hP hD hS (hst.1 255 (by decide)) hf275 rfl rfl hl.1 (As := [.ref (g.2.2.1 21)]) (rest := []) rfl (Nat.le_of_ble_eq_true rfl) dX11_writesPlan_182 ⟨Nat.le_of_ble_eq_true rfl, Nat.le_of_ble_eq_true rfl⟩) hA hD hS (fun L278 f279 H locs hp280 hP hD hS => ?_)
                        obtain ⟨eL281L, eL281T, eL281F⟩ := hp280
                        have eL281L : L278 = L := eL281L
                        rw [eL281L] at hP hD
                        obtain ⟨zz282, hzz282, eL281T⟩ := eL281T
                        have hT : TI g ad (gset (gset th 38 zz273) 38 zz282) f279 := eL281T
                        have hT : TI g ad (gset th 38 zz282) f279 := TI.cast hT (by funext q; by_cases hq0 : q = 38; (subst hq0; rfl); simp only [gset, if_neg hq0])
                        have eL281F : ∀ b, b ≠ (ad 255) → b ≠ (ad 276) → f279 b = f270 b := eL281F
                        have hfr : (∀ b, b ≠ (ad 255) → b ≠ (ad 276) → f279 b = f b) := fun b z0_ z1_ => (eL281F b z0_ z1_).trans (hfr b z0_ z1_)
                        refine lv_aload_n hx hb dX11_writesPlan_185 rfl (lv_at hl 0 rfl) ?_
                        refine lv_iload_n hx hb dX11_writesPlan_186 rfl (lv_at hl 2 rfl) ?_
                        refine lv_iconst (v := 1) hx hb dX11_writesPlan_187 (by decide) ?_
                        refine lv_iand hx hb dX11_writesPlan_188 ?_
                        refine lv_topi (fun x283 ex283 => ?_)
                        have hb284 : In x283 0 1 := ex283 ▸ In.andr (⟨by decide, by decide⟩ : In 1 1 1) (by decide)
                        refine M0e hT (fun v0_285 v2_285 v3_285 v4_285 v5_285 v6_285 v8_285 v9_285 v12_285 v13_285 v14_285 v15_285 v16_285 v17_285 v18_285 v19_285 v20_285 v21_285 v22_285 v23_285 v25_285 v36_285 v37_285 v38_285 v39_285 v40_285 v45_285 v46_285 v47_285 v48_285 v50_285 v51_285 v53_285 v55_285 hf286 hv0_285 hv2_285 hg2_285 hv3_285 hg3_285 hv4_285 hg4_285 hv5_285 hg5_285 hv6_285 hg6_285 hv8_285 hg8_285 hv9_285 hg9_285 hv12_285 hv13_285 hg13_285 hv14_285 hg14_285 hv15_285 hg15_285 hv17_285 hg17_285 hv20_285 hg20_285 hv23_285 hg23_285 hv25_285 hg25_285 hv36_285 hg36_285 hv47_285 hg47_285 hv48_285 hg48_285 hv53_285 hg53_285 hv55_285 hg55_285 hrel0_285 => ?_)
                        have hg15_285 : v15_285.toInt = th 11 := hg15_285
                        have hg20_285 : v20_285.toInt = th 14 := hg20_285
                        have hb287 : In v15_285 3 9 := ⟨by rw [hg15_285]; exact hn3, hv15_285.2⟩
                        refine call_v (run_V (rm := rm_X11_writesDigit) hx hb hml hown hts (s_X11_writesDigit l g ad (gset th 38 zz282) _ _ _ x283 hst hT (show zz282 < 400 from (by have ob10 : (0 : Int) ≤ (th 10) ∧ (th 10) ≤ 1 := (b0_10 hT :); have ob11 : (0 : Int) ≤ (th 11) ∧ (th 11) ≤ 9 := (b0_11 hT :); have ob12 : (0 : Int) ≤ (th 12) ∧ (th 12) ≤ 6 := (b0_12 hT :); have ob14 : (0 : Int) ≤ (th 14) ∧ (th 14) ≤ 511 := (b0_14 hT :); have ob15 : (0 : Int) ≤ (th 15) ∧ (th 15) ≤ 1 := (b0_15 hT :); have ob16 : (0 : Int) ≤ (th 16) ∧ (th 16) ≤ 20 := (b0_16 hT :); have ob17 : (0 : Int) ≤ (th 17) ∧ (th 17) ≤ 1 := (b0_17 hT :); have ob18 : (0 : Int) ≤ (th 18) ∧ (th 18) ≤ 18 := (b0_18 hT :); have ob38 : (0 : Int) ≤ zz282 ∧ zz282 ≤ 400 := (b0_38 hT :); have ob39 : (0 : Int) ≤ (th 39) ∧ (th 39) ≤ 200 := (b0_39 hT :); have ob44 : (0 : Int) ≤ (th 44) ∧ (th 44) ≤ 30 := (b0_44 hT :); have orn := rnd_b (th 10); obtain ⟨o0a, o0b⟩ := (hv14_285 : In _ _ _); obtain ⟨o1a, o1b⟩ := (hb287 : In _ _ _); obtain ⟨o2a, o2b⟩ := (hv17_285 : In _ _ _); obtain ⟨o3a, o3b⟩ := (hv20_285 : In _ _ _); obtain ⟨o4a, o4b⟩ := (hv23_285 : In _ _ _); obtain ⟨o5a, o5b⟩ := (hv25_285 : In _ _ _); obtain ⟨o6a, o6b⟩ := (hv36_285 : In _ _ _); obtain ⟨o7a, o7b⟩ := (hv47_285 : In _ _ _); obtain ⟨o8a, o8b⟩ := (hv48_285 : In _ _ _); obtain ⟨o9a, o9b⟩ := (hv53_285 : In _ _ _); obtain ⟨o10a, o10b⟩ := (hv55_285 : In _ _ _); omega))) cV_X11_writesDigit wg_1880 ⟨Nat.le_of_ble_eq_true rfl, Nat.le_of_ble_eq_true rfl⟩ hG hE hA hP hD hS (hst.1 255 (by decide)) hf286 rfl rfl hl.1 (As := [.int x283]) (rest := []) rfl (Nat.le_of_ble_eq_true rfl) dX11_writesPlan_189 ⟨Nat.le_of_ble_eq_true rfl, Nat.le_of_ble_eq_true rfl⟩) hA hD hS (fun L289 f290 H locs hp291 hP hD hS => ?_)
                        obtain ⟨eL292L, eL292T, eL292F⟩ := hp291
                        have eL292L : L289 = L := eL292L
                        rw [eL292L] at hP hD
                        obtain ⟨zz293, hzz293, eL292T⟩ := eL292T
                        have hzz293 : zz293 = zz282 + 1 := hzz293
                        have hT : TI g ad (gset (gset th 38 zz282) 38 zz293) f290 := eL292T
                        have hT : TI g ad (gset th 38 zz293) f290 := TI.cast hT (by funext q; by_cases hq0 : q = 38; (subst hq0; rfl); simp only [gset, if_neg hq0])
                        have eL292F : ∀ b, b ≠ (ad 255) → b ≠ (ad 276) → f290 b = f279 b := eL292F
                        have hfr : (∀ b, b ≠ (ad 255) → b ≠ (ad 276) → f290 b = f b) := fun b z0_ z1_ => (eL292F b z0_ z1_).trans (hfr b z0_ z1_)
                        refine lv_iload_n hx hb dX11_writesPlan_192 rfl (lv_at hl 2 rfl) ?_
                        refine lv_iconst (v := 1) hx hb dX11_writesPlan_193 (by decide) ?_
                        refine lv_ishr hx hb dX11_writesPlan_194 ?_
                        refine lv_topi (fun x294 ex294 => ?_)
                        refine lv_istore_n (lv' := [(2, .int x294), (0, .ref (ad 255)), (1, .int z1), (3, .int y9_l3), (4, .int x27), (5, .int x35), (6, .int y36_l6), (7, .int x51), (8, .int x53)]) hx hb dX11_writesPlan_195 rfl hl (by decide) rfl (fun ls hl => ?_)
                        exact hJ196 zz293 x294 _ _ _ _ (by have hii := hK_i hpr; omega) (In.full x294) hP hD hS (TI.cast hT (by funext q; by_cases hq0 : q = 38; (subst hq0; rfl); simp only [gset, if_neg hq0])) hfr (lv_sub hl [1, 2, 0, 3, 4, 5, 6, 7, 8] rfl)
                      refine lv_if_le (tgt := 126) hx hb dX11_writesPlan_116 (by decide) (fun c295 => ?_) (fun c295 => ?_)
                      ·
                        have oc0 : (0 : Int32).toInt = 0 := by decide
                        have cc296 : v53_37.toInt ≤ (0 : Int32).toInt := i32_le.mp c295
                        have hb297 : In v53_37 0 0 := In.le1 hv53_37 (⟨by decide, by decide⟩ : In 0 0 0) cc296 (by decide) (by decide)
                        exact hJ126 zg36_zw _ _ _ _ (by omega) hP hD hS (TI.cast hT (by funext q; by_cases hq0 : q = 38; (subst hq0; rfl); simp only [gset, if_neg hq0])) hfr (lv_sub hl [2, 3, 4, 5, 6, 7, 8, 1, 0] rfl)
                      ·
                        have oc0 : (0 : Int32).toInt = 0 := by decide
                        have cc298 : (0 : Int32).toInt < v53_37.toInt := i32_nle c295
                        have hb299 : In v53_37 1 400 := In.gt1 hv53_37 (⟨by decide, by decide⟩ : In 0 0 0) cc298 (by decide) (by decide)
                        refine lv_aload_n hx hb dX11_writesPlan_119 rfl (lv_at hl 2 rfl) ?_
                        refine va_ldcSw hx hb hown (hG.2.2.1 ("RulerWordModel", 417, ";", 30) (by decide +kernel)) dX11_writesPlan_120 ?_
                        refine call_v (run_V (rm := rm_X11_writesWord) hx hb hml hown hts (s_X11_writesWord l g ad (gset th 38 zg36_zw) _ _ _ 30 hst hT (by decide) (show zg36_zw + ((lenS.getD 30 0 : Nat) : Int) ≤ 400 by have ql : (lenS.getD 30 0 : Nat) = 1 := (by decide); omega)) cV_X11_writesWord wg_1875 ⟨Nat.le_of_ble_eq_true rfl, Nat.le_of_ble_eq_true rfl⟩ hG hE hA hP hD hS (hst.1 255 (by decide)) hf38 rfl rfl hl.1 (As := [.ref (g.2.2.1 30)]) (rest := []) rfl (Nat.le_of_ble_eq_true rfl) dX11_writesPlan_123 ⟨Nat.le_of_ble_eq_true rfl, Nat.le_of_ble_eq_true rfl⟩) hA hD hS (fun L301 f302 H locs hp303 hP hD hS => ?_)
                        obtain ⟨eL304L, eL304T, eL304F⟩ := hp303
                        have eL304L : L301 = L := eL304L
                        rw [eL304L] at hP hD
                        obtain ⟨zz305, hzz305, eL304T⟩ := eL304T
                        have hT : TI g ad (gset (gset th 38 zg36_zw) 38 zz305) f302 := eL304T
                        have hT : TI g ad (gset th 38 zz305) f302 := TI.cast hT (by funext q; by_cases hq0 : q = 38; (subst hq0; rfl); simp only [gset, if_neg hq0])
                        have eL304F : ∀ b, b ≠ (ad 255) → b ≠ (ad 276) → f302 b = f_36 b := eL304F
                        have hfr : (∀ b, b ≠ (ad 255) → b ≠ (ad 276) → f302 b = f b) := fun b z0_ z1_ => (eL304F b z0_ z1_).trans (hfr b z0_ z1_)
                        exact hJ126 zz305 _ _ _ _ (by omega) hP hD hS (TI.cast hT (by funext q; by_cases hq0 : q = 38; (subst hq0; rfl); simp only [gset, if_neg hq0])) hfr (lv_sub hl [2, 3, 4, 5, 6, 7, 8, 1, 0] rfl)
                    ·
                      have cc306 : x51.toInt ≠ x197.toInt := i32_ne c199
                      refine lv_goto (tgt := 196) hx hb dX11_writesPlan_109 (by decide) ?_
                      exact hJ196 zg36_zw y36_l2 _ _ _ _ (by have := hK_s (e := rnd (th 10)) (n := th 11) (L := th 14) (k := (((y9_l3.toInt).toNat : Nat) : Int)) (c := (y36_l6.toInt).toNat); omega) hy36_l2 hP hD hS (TI.cast hT (by funext q; by_cases hq0 : q = 38; (subst hq0; rfl); simp only [gset, if_neg hq0])) hfr (lv_sub hl [2, 3, 4, 5, 6, 7, 8, 1, 0] rfl)
        exact hJ36 ((81 - (0 : Int32).toInt).toNat + 1) zg9_zw y9_l2 0 _ _ _ _ (by rw [show ((0 : Int32).toInt).toNat = 0 by decide]; show 0 ≤ _ ∧ _ ≤ 30 * (_ + (0 : Int)); omega) hy9_l2 (⟨by decide, by decide⟩ : In 0 0 81) hP hD hS (TI.cast hT (by funext q; by_cases hq0 : q = 38; (subst hq0; rfl); simp only [gset, if_neg hq0])) hfr (by have e0 : (0 : Int32).toInt = 0 := (by decide); have := Int.mul_nonneg (show 0 ≤ th 11 by omega) (show 0 ≤ th 11 by omega); omega) (lv_sub hl [3, 4, 5, 6, 2, 1, 0] rfl) (msI _)
  exact hJ9 ((18 - (0 : Int32).toInt).toNat + 1) (0 : Int) z1 0 _ _ _ _ (by rw [show ((0 : Int32).toInt).toNat = 0 by decide]; exact ⟨by decide, by show (0 : Int) ≤ 30 * 0; decide⟩) (In.full z1) (⟨by decide, by decide⟩ : In 0 0 18) hP hD hS (TI.cast hT (by funext q; by_cases hq0 : q = 38; (subst hq0; rfl); simp only [gset, if_neg hq0])) hfr (lv_sub hl [2, 3, 1, 0] rfl) (msI _)

abbrev rm_X11_brokenPlan : Room := { frames := 7, cells := 0, slots := 0, locals := 170 }
abbrev po_X11_brokenPlan (g : GG) (ad : Nat → Nat) (th : Nat → Int) (L : List Nat) (f : HP) (z1 : Int32) : Int32 → (List Nat × HP) → Prop := fun r u => u.1 = L ∧ (∃ th' : Nat → Int, (MI th' ∧ SBM th th') ∧ TI g ad th' u.2)
set_option maxHeartbeats 4000000 in
set_option maxRecDepth 100000 in
theorem s_X11_brokenPlan (l : Launch) (g : GG) (ad : Nat → Nat) (th : Nat → Int) (L : List Nat) (f : HP) (sz : Nat) (z1 : Int32) (hst : ST ad L) (hT : TI g ad th f) (hM : MI th) : MtI l g yX11_brokenPlan cX11_brokenPlan 3 (some .int) rm_X11_brokenPlan [.ref (ad 255), .int z1] L f sz (po_X11_brokenPlan g ad th L f z1) := by
  refine MtI.of (by decide +kernel) (Nat.le_of_ble_eq_true rfl) ?_
  intro p e s m below meth c A hEn hP hD hS ls hl
  obtain ⟨hx, hb, hr, hml, hown, hlocks, hts, hG, hA, hE, hnm⟩ := hEn
  have hown : s.vm.findClass "RulerWordModel" = some m.cls := hown
  have hl : lv_has ls 3 [(0, .ref (ad 255)), (1, .int z1)] := hl
  have hM0 := hM
  obtain ⟨m1, m2, m3, m4, m5, m6, m7, m8, m9, m10⟩ := hM0
  have m20 := mi20 m2 m3
  refine lv_aload_n hx hb dX11_brokenPlan_0 rfl (lv_at hl 0 rfl) ?_
  refine lv_iconst (v := 0) hx hb dX11_brokenPlan_1 (by decide) ?_
  refine M0e hT (fun v0_1 v2_1 v3_1 v4_1 v5_1 v6_1 v8_1 v9_1 v12_1 v13_1 v14_1 v15_1 v16_1 v17_1 v18_1 v19_1 v20_1 v21_1 v22_1 v23_1 v25_1 v36_1 v37_1 v38_1 v39_1 v40_1 v45_1 v46_1 v47_1 v48_1 v50_1 v51_1 v53_1 v55_1 hf2 hv0_1 hv2_1 hg2_1 hv3_1 hg3_1 hv4_1 hg4_1 hv5_1 hg5_1 hv6_1 hg6_1 hv8_1 hg8_1 hv9_1 hg9_1 hv12_1 hv13_1 hg13_1 hv14_1 hg14_1 hv15_1 hg15_1 hv17_1 hg17_1 hv20_1 hg20_1 hv23_1 hg23_1 hv25_1 hg25_1 hv36_1 hg36_1 hv47_1 hg47_1 hv48_1 hg48_1 hv53_1 hg53_1 hv55_1 hg55_1 hrel0_1 => ?_)
  have hg15_1 : v15_1.toInt = th 11 := hg15_1
  have hg20_1 : v20_1.toInt = th 14 := hg20_1
  refine pl_put (ty := .int) (v := .int 0) (fs' := [.int 0, .ref (ad 256), .int v2_1, .int v3_1, .int v4_1, .int v5_1, .int v6_1, .ref (ad 257), .int v8_1, .int v9_1, .ref (ad 258), .ref (ad 259), .int v12_1, .int v13_1, .int v14_1, .int v15_1, .int v16_1, .int v17_1, .int v18_1, .int v19_1, .int v20_1, .long v21_1, .long v22_1, .int v23_1, .ref (ad 260), .int v25_1, .ref (ad 261), .ref (ad 262), .ref (ad 263), .ref (ad 264), .ref (ad 265), .ref (ad 266), .ref (ad 267), .ref (ad 268), .ref (ad 269), .ref (ad 270), .int v36_1, .int v37_1, .int v38_1, .int v39_1, .int v40_1, .ref (ad 271), .ref (ad 272), .ref (ad 273), .ref (ad 274), .long v45_1, .long v46_1, .int v47_1, .int v48_1, .ref (ad 275), .int v50_1, .int v51_1, .ref (ad 276), .int v53_1, .ref (ad 277), .int v55_1]) hx hb hts (fun w h => mT (inX11 w h)) tyX11 tyX11_ok nmX11 hown hG.1 hP hD hS (hst.1 255 (by decide)) hf2 rfl 0 (by decide) (hts _ (mT wg_1336)) (fun _ h => h) rfl (by decide +kernel) (rfl) (rfl) (Nat.le_of_ble_eq_true rfl) rfl dX11_brokenPlan_2 (fun H locs f3 hf4 ho5 hP hD hS => ?_)
  refine lv_aload_n hx hb dX11_brokenPlan_5 rfl (lv_at hl 0 rfl) ?_
  have hT := TI.updM hT hst (k := 0) (by decide) hf4 ho5 ⟨0, v2_1, v3_1, v4_1, v5_1, v6_1, v8_1, v9_1, v12_1, v13_1, v14_1, v15_1, v16_1, v17_1, v18_1, v19_1, v20_1, v21_1, v22_1, v23_1, v25_1, v36_1, v37_1, v38_1, v39_1, v40_1, v45_1, v46_1, v47_1, v48_1, v50_1, v51_1, v53_1, v55_1, rfl, (⟨by decide, by decide⟩ : In 0 0 1), hv2_1, hg2_1, hv3_1, hg3_1, hv4_1, hg4_1, hv5_1, hg5_1, hv6_1, hg6_1, hv8_1, hg8_1, hv9_1, hg9_1, hv12_1, hv13_1, hg13_1, hv14_1, hg14_1, hv15_1, hg15_1, hv17_1, hg17_1, hv20_1, hg20_1, hv23_1, hg23_1, hv25_1, hg25_1, hv36_1, hg36_1, hv47_1, hg47_1, hv48_1, hg48_1, hv53_1, hg53_1, hv55_1, hg55_1, hrel0_1⟩
  refine call_i (run_V (rm := rm_X11_canSearch) hx hb hml hown hts (s_X11_canSearch l g ad th _ _ _  hst hT (show MI th from hM)) cV_X11_canSearch wg_1834 ⟨Nat.le_of_ble_eq_true rfl, Nat.le_of_ble_eq_true rfl⟩ hG hE hA hP hD hS (hst.1 255 (by decide)) hf4 rfl rfl hl.1 (As := []) (rest := []) rfl (Nat.le_of_ble_eq_true rfl) dX11_brokenPlan_6 ⟨Nat.le_of_ble_eq_true rfl, Nat.le_of_ble_eq_true rfl⟩) hA hD hS (fun r6 L7 f8 H locs hp9 hP hD hS => ?_)
  obtain ⟨eL10L, eL10T, eL10F, eL10R⟩ := hp9
  have eL10L : L7 = L := eL10L
  rw [eL10L] at hP hD
  obtain ⟨zz11, zz12, hzz11, eL10T⟩ := eL10T
  have hT : TI g ad (gset (gset th 14 zz11) 18 zz12) f8 := eL10T
  have eL10F : ∀ b, b ≠ (ad 255) → b ≠ (ad 265) → b ≠ (ad 266) → b ≠ (ad 267) → b ≠ (ad 269) → b ≠ (ad 260) → b ≠ (ad 261) → b ≠ (ad 262) → b ≠ (ad 263) → b ≠ (ad 264) → f8 b = f3 b := eL10F
  have eL10R : In r6 0 1 := eL10R
  refine lv_if_ne (tgt := 15) hx hb dX11_brokenPlan_9 (by decide) (fun c13 => ?_) (fun c13 => ?_)
  ·
    have oc0 : (0 : Int32).toInt = 0 := by decide
    have cc14 : r6.toInt ≠ (0 : Int32).toInt := i32_ne c13
    have hb15 : In r6 1 1 := In.ne1 eL10R (⟨by decide, by decide⟩ : In 0 0 0) cc14 (by decide) (by decide)
    refine lv_aload_n hx hb dX11_brokenPlan_15 rfl (lv_at hl 0 rfl) ?_
    refine M0e hT (fun v0_16 v2_16 v3_16 v4_16 v5_16 v6_16 v8_16 v9_16 v12_16 v13_16 v14_16 v15_16 v16_16 v17_16 v18_16 v19_16 v20_16 v21_16 v22_16 v23_16 v25_16 v36_16 v37_16 v38_16 v39_16 v40_16 v45_16 v46_16 v47_16 v48_16 v50_16 v51_16 v53_16 v55_16 hf17 hv0_16 hv2_16 hg2_16 hv3_16 hg3_16 hv4_16 hg4_16 hv5_16 hg5_16 hv6_16 hg6_16 hv8_16 hg8_16 hv9_16 hg9_16 hv12_16 hv13_16 hg13_16 hv14_16 hg14_16 hv15_16 hg15_16 hv17_16 hg17_16 hv20_16 hg20_16 hv23_16 hg23_16 hv25_16 hg25_16 hv36_16 hg36_16 hv47_16 hg47_16 hv48_16 hg48_16 hv53_16 hg53_16 hv55_16 hg55_16 hrel0_16 => ?_)
    have hg15_16 : v15_16.toInt = th 11 := hg15_16
    have hg20_16 : v20_16.toInt = zz11 := hg20_16
    refine call_i (run_V (rm := rm_X11_leastBroken) hx hb hml hown hts (s_X11_leastBroken l g ad (gset (gset th 14 zz11) 18 zz12) _ _ _  hst hT (show 3 ≤ th 11 by omega)) cV_X11_leastBroken wg_1838 ⟨Nat.le_of_ble_eq_true rfl, Nat.le_of_ble_eq_true rfl⟩ hG hE hA hP hD hS (hst.1 255 (by decide)) hf17 rfl rfl hl.1 (As := []) (rest := []) rfl (Nat.le_of_ble_eq_true rfl) dX11_brokenPlan_16 ⟨Nat.le_of_ble_eq_true rfl, Nat.le_of_ble_eq_true rfl⟩) hA hD hS (fun r18 L19 f20 H locs hp21 hP hD hS => ?_)
    obtain ⟨eL22L, eL22T, eL22F⟩ := hp21
    have eL22L : L19 = L := eL22L
    rw [eL22L] at hP hD
    obtain ⟨zz23, hzz23, eL22T⟩ := eL22T
    have hzz23 : True := hzz23
    have hT : TI g ad (gset (gset (gset th 14 zz11) 18 zz12) 18 zz23) f20 := eL22T
    have hT : TI g ad (gset (gset th 14 zz11) 18 zz23) f20 := TI.cast hT (by funext q; by_cases hq0 : q = 18; (subst hq0; rfl); by_cases hq1 : q = 14; (subst hq1; rfl); simp only [gset, if_neg hq0, if_neg hq1])
    have eL22F : ∀ b, b ≠ (ad 255) → b ≠ (ad 265) → b ≠ (ad 266) → b ≠ (ad 267) → b ≠ (ad 268) → b ≠ (ad 269) → b ≠ (ad 270) → b ≠ (ad 261) → b ≠ (ad 262) → b ≠ (ad 263) → b ≠ (ad 264) → f20 b = f8 b := eL22F
    refine lv_istore_n (lv' := [(2, .int r18), (0, .ref (ad 255)), (1, .int z1)]) hx hb dX11_brokenPlan_19 rfl hl (by decide) rfl (fun ls hl => ?_)
    refine lv_iload_n hx hb dX11_brokenPlan_20 rfl (lv_at hl 0 rfl) ?_
    refine lv_iconst (v := (-1)) hx hb dX11_brokenPlan_21 (by decide) ?_
    refine lv_icmp_ne (tgt := 27) hx hb dX11_brokenPlan_22 (by decide) (fun c24 => ?_) (fun c24 => ?_)
    ·
      have ocm1 : ((-1) : Int32).toInt = (-1) := by decide
      have cc25 : r18.toInt ≠ ((-1) : Int32).toInt := i32_ne c24
      refine lv_aload_n hx hb dX11_brokenPlan_27 rfl (lv_at hl 1 rfl) ?_
      refine lv_iload_n hx hb dX11_brokenPlan_28 rfl (lv_at hl 0 rfl) ?_
      refine M0e hT (fun v0_26 v2_26 v3_26 v4_26 v5_26 v6_26 v8_26 v9_26 v12_26 v13_26 v14_26 v15_26 v16_26 v17_26 v18_26 v19_26 v20_26 v21_26 v22_26 v23_26 v25_26 v36_26 v37_26 v38_26 v39_26 v40_26 v45_26 v46_26 v47_26 v48_26 v50_26 v51_26 v53_26 v55_26 hf27 hv0_26 hv2_26 hg2_26 hv3_26 hg3_26 hv4_26 hg4_26 hv5_26 hg5_26 hv6_26 hg6_26 hv8_26 hg8_26 hv9_26 hg9_26 hv12_26 hv13_26 hg13_26 hv14_26 hg14_26 hv15_26 hg15_26 hv17_26 hg17_26 hv20_26 hg20_26 hv23_26 hg23_26 hv25_26 hg25_26 hv36_26 hg36_26 hv47_26 hg47_26 hv48_26 hg48_26 hv53_26 hg53_26 hv55_26 hg55_26 hrel0_26 => ?_)
      have hg15_26 : v15_26.toInt = th 11 := hg15_26
      have hg20_26 : v20_26.toInt = zz11 := hg20_26
      refine call_v (run_V (rm := rm_X11_writesPlan) hx hb hml hown hts (s_X11_writesPlan l g ad (gset (gset th 14 zz11) 18 zz23) _ _ _ r18 hst hT (show 3 ≤ th 11 by omega) (show frI (rnd (th 10)) (th 11) (zz11) (th 12) ≤ 12 by omega)) cV_X11_writesPlan wg_1870 ⟨Nat.le_of_ble_eq_true rfl, Nat.le_of_ble_eq_true rfl⟩ hG hE hA hP hD hS (hst.1 255 (by decide)) hf27 rfl rfl hl.1 (As := [.int r18]) (rest := []) rfl (Nat.le_of_ble_eq_true rfl) dX11_brokenPlan_29 ⟨Nat.le_of_ble_eq_true rfl, Nat.le_of_ble_eq_true rfl⟩) hA hD hS (fun L29 f30 H locs hp31 hP hD hS => ?_)
      obtain ⟨eL32L, eL32T, eL32F⟩ := hp31
      have eL32L : L29 = L := eL32L
      rw [eL32L] at hP hD
      obtain ⟨zz33, hzz33, eL32T⟩ := eL32T
      have hzz33 : True := hzz33
      have hT : TI g ad (gset (gset (gset th 14 zz11) 18 zz23) 38 zz33) f30 := eL32T
      have eL32F : ∀ b, b ≠ (ad 255) → b ≠ (ad 276) → f30 b = f20 b := eL32F
      refine lv_iload_n hx hb dX11_brokenPlan_32 rfl (lv_at hl 2 rfl) ?_
      refine lv_iconst (v := (-1)) hx hb dX11_brokenPlan_33 (by decide) ?_
      refine lv_icmp_ne (tgt := 44) hx hb dX11_brokenPlan_34 (by decide) (fun c34 => ?_) (fun c34 => ?_)
      ·
        have ocm1 : ((-1) : Int32).toInt = (-1) := by decide
        have cc35 : z1.toInt ≠ ((-1) : Int32).toInt := i32_ne c34
        refine lv_iload_n hx hb dX11_brokenPlan_44 rfl (lv_at hl 2 rfl) ?_
        refine lv_i2l hx hb dX11_brokenPlan_45 rfl ?_
        refine lv_lconst (v := 0) hx hb dX11_brokenPlan_46 (by decide) ?_
        refine lv_aload_n hx hb dX11_brokenPlan_47 rfl (lv_at hl 1 rfl) ?_
        refine M0e hT (fun v0_36 v2_36 v3_36 v4_36 v5_36 v6_36 v8_36 v9_36 v12_36 v13_36 v14_36 v15_36 v16_36 v17_36 v18_36 v19_36 v20_36 v21_36 v22_36 v23_36 v25_36 v36_36 v37_36 v38_36 v39_36 v40_36 v45_36 v46_36 v47_36 v48_36 v50_36 v51_36 v53_36 v55_36 hf37 hv0_36 hv2_36 hg2_36 hv3_36 hg3_36 hv4_36 hg4_36 hv5_36 hg5_36 hv6_36 hg6_36 hv8_36 hg8_36 hv9_36 hg9_36 hv12_36 hv13_36 hg13_36 hv14_36 hg14_36 hv15_36 hg15_36 hv17_36 hg17_36 hv20_36 hg20_36 hv23_36 hg23_36 hv25_36 hg25_36 hv36_36 hg36_36 hv47_36 hg47_36 hv48_36 hg48_36 hv53_36 hg53_36 hv55_36 hg55_36 hrel0_36 => ?_)
        have hg15_36 : v15_36.toInt = th 11 := hg15_36
        have hg20_36 : v20_36.toInt = zz11 := hg20_36
        refine pl_get (v := .int v53_36) hx hb hts (fun w h => mT (inX11 w h)) hown hG.1 hP (hst.1 255 (by decide)) hf37 rfl 53 (by decide) (hts _ (mT wg_1389)) (fun _ h => h) rfl dX11_brokenPlan_48 ?_
        have hg53_36 : v53_36.toInt = zz33 := hg53_36
        refine lv_iconst (v := 1) hx hb dX11_brokenPlan_51 (by decide) ?_
        refine lv_isub hx hb dX11_brokenPlan_52 ?_
        refine lv_topi (fun x38 ex38 => ?_)
        have hb39 : In x38 (-1) 399 := ex38 ▸ In.sub hv53_36 (⟨by decide, by decide⟩ : In 1 1 1) (by decide) (by decide) (by decide) (by decide)
        have et40 : x38.toInt = v53_36.toInt + (-1) := In.sube ex38 hv53_36 (k := 1) (by decide) (by decide) (by decide)
        refine lv_i2l hx hb dX11_brokenPlan_53 rfl ?_
        refine call_i (run_S (rm := rm_X11_isIn) hx hb hml hown hts (s_X11_isIn l g ad (gset (gset (gset th 14 zz11) 18 zz23) 38 zz33) _ _ _ (z1.toInt64) 0 (x38.toInt64) hst hT ) cS_X11_isIn wg_1581 ⟨Nat.le_of_ble_eq_true rfl, Nat.le_of_ble_eq_true rfl⟩ hG hE hA hP hD hS rfl hl.1 (As := [.long (z1.toInt64), .long 0, .long (x38.toInt64)]) (rest := []) rfl (Nat.le_of_ble_eq_true rfl) dX11_brokenPlan_54 ⟨Nat.le_of_ble_eq_true rfl, Nat.le_of_ble_eq_true rfl⟩) hA hD hS (fun r41 L42 f43 H locs hp44 hP hD hS => ?_)
        obtain ⟨eL45L, eL45T, eL45R, eL45X0, eL45X1⟩ := hp44
        have eL45L : L42 = L := eL45L
        have eL45T : f43 = f30 := eL45T
        rw [eL45L, eL45T] at hP hD
        have eL45R : In r41 0 1 := eL45R
        have hii46 : r41.toInt = 0 ∨ (0 ≤ z1.toInt ∧ z1.toInt ≤ x38.toInt) := by have z := eL45X0; rw [i2l_t z1, (by decide : (0 : Int64).toInt = 0), i2l_t x38] at z; exact z
        have hii46w : ¬ r41 = 0 → In z1 0 399 := fun c => by have c2 := i32_ne c; have e0 : (0 : Int32).toInt = 0 := (by decide); obtain ⟨o1, p1⟩ := (hb39 : In _ _ _); exact ⟨by omega, by omega⟩
        refine lv_if_eq (tgt := 69) hx hb dX11_brokenPlan_57 (by decide) (fun c47 => ?_) (fun c47 => ?_)
        ·
          have oc0 : (0 : Int32).toInt = 0 := by decide
          have cc48 : r41.toInt = (0 : Int32).toInt := congrArg Int32.toInt c47
          have hb49 : In r41 0 0 := In.eq1 eL45R (⟨by decide, by decide⟩ : In 0 0 0) cc48 (by decide) (by decide)
          refine lv_iconst (v := (-1)) hx hb dX11_brokenPlan_69 (by decide) ?_
          exact ret_i (ty := .int) hx hb hr hlocks (rfl) hP hD hS (Nat.le_of_ble_eq_true rfl) (Nat.le_of_ble_eq_true rfl) (⟨rfl, ⟨(gset (gset (gset th 14 zz11) 18 zz23) 38 zz33), ⟨(show MI (gset (gset (gset th 14 zz11) 18 zz23) 38 zz33) from ⟨m1, m2, (show th 20 = (th 12) * rnd (th 10) from m3), m4, m5, m6, m7, m8, m9, m10⟩), (SBM.set (k := 38) (SBM.set (k := 18) (SBM.set (k := 14) (SBM.rf th) (by decide)) (by decide)) (by decide))⟩, hT⟩⟩) dX11_brokenPlan_70
        ·
          have oc0 : (0 : Int32).toInt = 0 := by decide
          have cc50 : r41.toInt ≠ (0 : Int32).toInt := i32_ne c47
          have hb51 : In r41 1 1 := In.ne1 eL45R (⟨by decide, by decide⟩ : In 0 0 0) cc50 (by decide) (by decide)
          have hb52 : In z1 0 399 := In.both (hii46w c47) (In.full z1) (by decide) (by decide)
          refine lv_aload_n hx hb dX11_brokenPlan_60 rfl (lv_at hl 1 rfl) ?_
          refine pl_get (v := .ref (ad 276)) hx hb hts (fun w h => mT (inX11 w h)) hown hG.1 hP (hst.1 255 (by decide)) hf37 rfl 52 (by decide) (hts _ (mT wg_1388)) (fun _ h => h) rfl dX11_brokenPlan_61 ?_
          refine lv_iload_n hx hb dX11_brokenPlan_64 rfl (lv_at hl 2 rfl) ?_
          obtain ⟨rw53, hf54⟩ := hT.2.2 21 (by decide)
          have hin55 : vp_in z1 400 := In.inb hb52 (by decide) (by decide)
          refine pl_iald hx hb hG.1 hP (hst.1 276 (by decide)) 0 hf54 rfl hin55 dX11_brokenPlan_65 ?_
          refine lv_topi (fun x56 ex56 => ?_)
          refine lv_goto (tgt := 70) hx hb dX11_brokenPlan_66 (by decide) ?_
          exact ret_i (ty := .int) hx hb hr hlocks (rfl) hP hD hS (Nat.le_of_ble_eq_true rfl) (Nat.le_of_ble_eq_true rfl) (⟨rfl, ⟨(gset (gset (gset th 14 zz11) 18 zz23) 38 zz33), ⟨(show MI (gset (gset (gset th 14 zz11) 18 zz23) 38 zz33) from ⟨m1, m2, (show th 20 = (th 12) * rnd (th 10) from m3), m4, m5, m6, m7, m8, m9, m10⟩), (SBM.set (k := 38) (SBM.set (k := 18) (SBM.set (k := 14) (SBM.rf th) (by decide)) (by decide)) (by decide))⟩, hT⟩⟩) dX11_brokenPlan_70
      ·
        have ocm1 : ((-1) : Int32).toInt = (-1) := by decide
        have cc57 : z1.toInt = ((-1) : Int32).toInt := congrArg Int32.toInt c34
        have hb58 : In z1 (-1) (-1) := In.eq1 (In.full z1) (⟨by decide, by decide⟩ : In (-1) (-1) (-1)) cc57 (by decide) (by decide)
        refine lv_aload_n hx hb dX11_brokenPlan_37 rfl (lv_at hl 1 rfl) ?_
        refine M0e hT (fun v0_59 v2_59 v3_59 v4_59 v5_59 v6_59 v8_59 v9_59 v12_59 v13_59 v14_59 v15_59 v16_59 v17_59 v18_59 v19_59 v20_59 v21_59 v22_59 v23_59 v25_59 v36_59 v37_59 v38_59 v39_59 v40_59 v45_59 v46_59 v47_59 v48_59 v50_59 v51_59 v53_59 v55_59 hf60 hv0_59 hv2_59 hg2_59 hv3_59 hg3_59 hv4_59 hg4_59 hv5_59 hg5_59 hv6_59 hg6_59 hv8_59 hg8_59 hv9_59 hg9_59 hv12_59 hv13_59 hg13_59 hv14_59 hg14_59 hv15_59 hg15_59 hv17_59 hg17_59 hv20_59 hg20_59 hv23_59 hg23_59 hv25_59 hg25_59 hv36_59 hg36_59 hv47_59 hg47_59 hv48_59 hg48_59 hv53_59 hg53_59 hv55_59 hg55_59 hrel0_59 => ?_)
        have hg15_59 : v15_59.toInt = th 11 := hg15_59
        have hg20_59 : v20_59.toInt = zz11 := hg20_59
        refine pl_get (v := .int v53_59) hx hb hts (fun w h => mT (inX11 w h)) hown hG.1 hP (hst.1 255 (by decide)) hf60 rfl 53 (by decide) (hts _ (mT wg_1389)) (fun _ h => h) rfl dX11_brokenPlan_38 ?_
        have hg53_59 : v53_59.toInt = zz33 := hg53_59
        refine lv_goto (tgt := 70) hx hb dX11_brokenPlan_41 (by decide) ?_
        exact ret_i (ty := .int) hx hb hr hlocks (rfl) hP hD hS (Nat.le_of_ble_eq_true rfl) (Nat.le_of_ble_eq_true rfl) (⟨rfl, ⟨(gset (gset (gset th 14 zz11) 18 zz23) 38 zz33), ⟨(show MI (gset (gset (gset th 14 zz11) 18 zz23) 38 zz33) from ⟨m1, m2, (show th 20 = (th 12) * rnd (th 10) from m3), m4, m5, m6, m7, m8, m9, m10⟩), (SBM.set (k := 38) (SBM.set (k := 18) (SBM.set (k := 14) (SBM.rf th) (by decide)) (by decide)) (by decide))⟩, hT⟩⟩) dX11_brokenPlan_70
    ·
      have ocm1 : ((-1) : Int32).toInt = (-1) := by decide
      have cc61 : r18.toInt = ((-1) : Int32).toInt := congrArg Int32.toInt c24
      have hb62 : In r18 (-1) (-1) := In.eq1 (In.full r18) (⟨by decide, by decide⟩ : In (-1) (-1) (-1)) cc61 (by decide) (by decide)
      refine lv_iconst (v := (-1)) hx hb dX11_brokenPlan_25 (by decide) ?_
      exact ret_i (ty := .int) hx hb hr hlocks (rfl) hP hD hS (Nat.le_of_ble_eq_true rfl) (Nat.le_of_ble_eq_true rfl) (⟨rfl, ⟨(gset (gset th 14 zz11) 18 zz23), ⟨(show MI (gset (gset th 14 zz11) 18 zz23) from ⟨m1, m2, (show th 20 = (th 12) * rnd (th 10) from m3), m4, m5, m6, m7, m8, m9, m10⟩), (SBM.set (k := 18) (SBM.set (k := 14) (SBM.rf th) (by decide)) (by decide))⟩, hT⟩⟩) dX11_brokenPlan_26
  ·
    have oc0 : (0 : Int32).toInt = 0 := by decide
    have cc63 : r6.toInt = (0 : Int32).toInt := congrArg Int32.toInt c13
    have hb64 : In r6 0 0 := In.eq1 eL10R (⟨by decide, by decide⟩ : In 0 0 0) cc63 (by decide) (by decide)
    refine lv_bipush (v := (-2)) hx hb dX11_brokenPlan_12 (by decide) ?_
    exact ret_i (ty := .int) hx hb hr hlocks (rfl) hP hD hS (Nat.le_of_ble_eq_true rfl) (Nat.le_of_ble_eq_true rfl) (⟨rfl, ⟨(gset (gset th 14 zz11) 18 zz12), ⟨(show MI (gset (gset th 14 zz11) 18 zz12) from ⟨m1, m2, (show th 20 = (th 12) * rnd (th 10) from m3), m4, m5, m6, m7, m8, m9, m10⟩), (SBM.set (k := 18) (SBM.set (k := 14) (SBM.rf th) (by decide)) (by decide))⟩, hT⟩⟩) dX11_brokenPlan_14
