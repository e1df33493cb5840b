abbrev rm_X11_laysDown : Room := { frames := 0, cells := 0, slots := 0, locals := 0 }
abbrev po_X11_laysDown (g : GG) (ad : Nat → Nat) (th : Nat → Int) (L : List Nat) (f : HP)  : (List Nat × HP) → Prop := fun u => u.1 = L ∧ (∃ zz zv : Int, (zz = th 18 ∧ zv = 2126) ∧ TI g ad (gset (gset th 19 zz) 22 zv) u.2) ∧ (∀ b, b ≠ (ad 255) → b ≠ (ad 271) → u.2 b = f b)
set_option maxHeartbeats 4000000 in
set_option maxRecDepth 100000 in
theorem s_X11_laysDown (l : Launch) (g : GG) (ad : Nat → Nat) (th : Nat → Int) (L : List Nat) (f : HP) (sz : Nat)  (hst : ST ad L) (hT : TI g ad th f) (hl18 : th 18 ≤ th 20) (hl21 : th 11 = th 21) : MtV l g yX11_laysDown cX11_laysDown 2 rm_X11_laysDown [.ref (ad 255)] L f sz (po_X11_laysDown g ad th L f ) := by
  refine MtV.of (by decide +kernel) (Nat.le_of_ble_eq_true rfl) ?_
  intro p e s m below meth c A hEn hP hD hS ls hl
  obtain ⟨hx, hb, hr, hml, hown, hlocks, hts, hG, hA, hE, hnm⟩ := hEn
  have hown : s.vm.findClass "RulerWordModel" = some m.cls := hown
  have hl : lv_has ls 2 [(0, .ref (ad 255))] := hl
  have hfr : (∀ b, b ≠ (ad 255) → b ≠ (ad 271) → f b = f b) := fun b z0_ z1_ => rfl
  have hT := TI.w22 hT
  refine lv_iconst (v := 0) hx hb dX11_laysDown_0 (by decide) ?_
  refine lv_istore_n (lv' := [(1, .int 0), (0, .ref (ad 255))]) hx hb dX11_laysDown_1 rfl hl (by decide) rfl (fun ls hl => ?_)
  have hJ2 : ∀ (k2 : Nat) (y2_l1 : Int32) (f_2 : HP) (H : Heap) (locs : List Loc) (ls : Array Slot), In y2_l1 0 9 → va_P g.1 vwCl (va_pl L f_2) H → va_D A (va_pl L f_2) → va_S A s.heap H locs → TI g ad (gset th 22 0) f_2 → (∀ b, b ≠ (ad 255) → b ≠ (ad 271) → f_2 b = f b) → lv_has ls 2 [(0, .ref (ad 255)), (1, .int y2_l1)] → 9 - y2_l1.toInt < ((k2 : Nat) : Int) → W p l e rm_X11_laysDown s m [.ref (ad 255)].toArray below meth c H locs 0 0 (MQ below (va_Qv (po_X11_laysDown g ad th L f ) (PstB g A) A) [.ref (ad 255)].toArray s rm_X11_laysDown.cells rm_X11_laysDown.slots A) (F0 m 2 ls []) := by
    intro k2
    induction k2 with
    | zero =>
      intro y2_l1 f_2 H locs ls hy2_l1 hP hD hS hT hfr hl hmz2
      exact ms0 hy2_l1 hmz2
    | succ k2 ih2 =>
      intro y2_l1 f_2 H locs ls hy2_l1 hP hD hS hT hfr hl hmz2
      refine lv_iload_n hx hb dX11_laysDown_2 rfl (lv_at hl 1 rfl) ?_
      refine lv_bipush (v := 9) hx hb dX11_laysDown_3 (by decide) ?_
      refine lv_icmp_ge (tgt := 141) hx hb dX11_laysDown_5 (by decide) (fun c1 => ?_) (fun c1 => ?_)
      ·
        have oc9 : (9 : Int32).toInt = 9 := by decide
        have cc2 : (9 : Int32).toInt ≤ y2_l1.toInt := i32_le.mp c1
        have hb3 : In y2_l1 9 9 := In.ge1 hy2_l1 (⟨by decide, by decide⟩ : In 9 9 9) cc2 (by decide) (by decide)
        refine lv_aload_n hx hb dX11_laysDown_141 rfl (lv_at hl 0 rfl) ?_
        refine M0e hT (fun v0_4 v2_4 v3_4 v4_4 v5_4 v6_4 v8_4 v9_4 v12_4 v13_4 v14_4 v15_4 v16_4 v17_4 v18_4 v19_4 v20_4 v21_4 v22_4 v23_4 v25_4 v36_4 v37_4 v38_4 v39_4 v40_4 v45_4 v46_4 v47_4 v48_4 v50_4 v51_4 v53_4 v55_4 hf5 hv0_4 hv2_4 hg2_4 hv3_4 hg3_4 hv4_4 hg4_4 hv5_4 hg5_4 hv6_4 hg6_4 hv8_4 hg8_4 hv9_4 hg9_4 hv12_4 hv13_4 hg13_4 hv14_4 hg14_4 hv15_4 hg15_4 hv17_4 hg17_4 hv20_4 hg20_4 hv23_4 hg23_4 hv25_4 hg25_4 hv36_4 hg36_4 hv47_4 hg47_4 hv48_4 hg48_4 hv53_4 hg53_4 hv55_4 hg55_4 hrel0_4 => ?_)
        have hg15_4 : v15_4.toInt = th 11 := hg15_4
        have hg17_4 : v17_4.toInt = th 12 := hg17_4
        have hg20_4 : v20_4.toInt = th 14 := hg20_4
        refine pl_get (v := .ref (ad 271)) hx hb hts (fun w h => mT (inX11 w h)) hown hG.1 hP (hst.1 255 (by decide)) hf5 rfl 41 (by decide) (hts _ (mT wg_1377)) (fun _ h => h) rfl dX11_laysDown_142 ?_
        refine lv_bipush (v := 72) hx hb dX11_laysDown_145 (by decide) ?_
        refine lv_aload_n hx hb dX11_laysDown_147 rfl (lv_at hl 0 rfl) ?_
        refine pl_get (v := .int v36_4) hx hb hts (fun w h => mT (inX11 w h)) hown hG.1 hP (hst.1 255 (by decide)) hf5 rfl 36 (by decide) (hts _ (mT wg_1372)) (fun _ h => h) rfl dX11_laysDown_148 ?_
        have hg36_4 : v36_4.toInt = th 18 := hg36_4
        obtain ⟨rw6, hf7, hpi9, hc8⟩ := hT.2.2 16 (by decide)
        have hc8 : PRW 2126 (0) (th 20) (th 21) rw6 := hc8
        have hpi9 : ((72 : Int) < 0 → (rw6 72).toInt = th 19) := hpi9
        refine pl_iastE hx hb hG.1 hP hD hS (hst.1 271 (by decide)) 0 hf7 rfl (In.inb (⟨by decide, by decide⟩ : In 72 72 72) (by decide) (by decide)) dX11_laysDown_151 (fun H locs f10 r13 er13 hf11 ho12 hP hD hS => ?_)
        have hat15 : r13 72 = v36_4 := upd_eqI (k := 72) er13 (by decide)
        have hc14 : PRW 2126 (0) (th 20) (th 21) r13 := prw_0 (by decide)
        have hf16 := (ho12 (ad 255) (hst.ne (by decide) (by decide) (by decide))).trans hf5
        have hfr : (∀ b, b ≠ (ad 255) → b ≠ (ad 271) → f10 b = f b) := fun b z0_ z1_ => (ho12 b z1_).trans (hfr b z0_ z1_)
        refine lv_aload_n hx hb dX11_laysDown_152 rfl (lv_at hl 0 rfl) ?_
        refine pl_get (v := .ref (ad 271)) hx hb hts (fun w h => mT (inX11 w h)) hown hG.1 hP (hst.1 255 (by decide)) hf16 rfl 41 (by decide) (hts _ (mT wg_1377)) (fun _ h => h) rfl dX11_laysDown_153 ?_
        refine lv_bipush (v := 73) hx hb dX11_laysDown_156 (by decide) ?_
        refine lv_aload_n hx hb dX11_laysDown_158 rfl (lv_at hl 0 rfl) ?_
        refine pl_get (v := .int v37_4) hx hb hts (fun w h => mT (inX11 w h)) hown hG.1 hP (hst.1 255 (by decide)) hf16 rfl 37 (by decide) (hts _ (mT wg_1373)) (fun _ h => h) rfl dX11_laysDown_159 ?_
        refine pl_iastE hx hb hG.1 hP hD hS (hst.1 271 (by decide)) 0 hf11 rfl (In.inb (⟨by decide, by decide⟩ : In 73 73 73) (by decide) (by decide)) dX11_laysDown_162 (fun H locs f17 r20 er20 hf18 ho19 hP hD hS => ?_)
        have hat22 : r20 72 = v36_4 := (upd_neI (k := 72) er20 (by decide)).trans hat15
        have hc21 : PRW 2126 (0) (th 20) (th 21) r20 := prw_0 (by decide)
        have hf23 := (ho19 (ad 255) (hst.ne (by decide) (by decide) (by decide))).trans hf16
        have ho24 : ∀ b, b ≠ (ad 271) → f17 b = _ := fun b hb => (ho19 b hb).trans (ho12 b hb)
        have hfr : (∀ b, b ≠ (ad 255) → b ≠ (ad 271) → f17 b = f b) := fun b z0_ z1_ => (ho19 b z1_).trans (hfr b z0_ z1_)
        refine lv_aload_n hx hb dX11_laysDown_163 rfl (lv_at hl 0 rfl) ?_
        refine pl_get (v := .ref (ad 271)) hx hb hts (fun w h => mT (inX11 w h)) hown hG.1 hP (hst.1 255 (by decide)) hf23 rfl 41 (by decide) (hts _ (mT wg_1377)) (fun _ h => h) rfl dX11_laysDown_164 ?_
        refine lv_bipush (v := 74) hx hb dX11_laysDown_167 (by decide) ?_
        refine lv_aload_n hx hb dX11_laysDown_169 rfl (lv_at hl 0 rfl) ?_
        refine pl_get (v := .int v38_4) hx hb hts (fun w h => mT (inX11 w h)) hown hG.1 hP (hst.1 255 (by decide)) hf23 rfl 38 (by decide) (hts _ (mT wg_1374)) (fun _ h => h) rfl dX11_laysDown_170 ?_
        refine pl_iastE hx hb hG.1 hP hD hS (hst.1 271 (by decide)) 0 hf18 rfl (In.inb (⟨by decide, by decide⟩ : In 74 74 74) (by decide) (by decide)) dX11_laysDown_173 (fun H locs f25 r28 er28 hf26 ho27 hP hD hS => ?_)
        have hat30 : r28 72 = v36_4 := (upd_neI (k := 72) er28 (by decide)).trans hat22
        have hc29 : PRW 2126 (0) (th 20) (th 21) r28 := prw_0 (by decide)
        have hf31 := (ho27 (ad 255) (hst.ne (by decide) (by decide) (by decide))).trans hf23
        have ho32 : ∀ b, b ≠ (ad 271) → f25 b = _ := fun b hb => (ho27 b hb).trans (ho24 b hb)
        have hfr : (∀ b, b ≠ (ad 255) → b ≠ (ad 271) → f25 b = f b) := fun b z0_ z1_ => (ho27 b z1_).trans (hfr b z0_ z1_)
        refine lv_aload_n hx hb dX11_laysDown_174 rfl (lv_at hl 0 rfl) ?_
        refine pl_get (v := .ref (ad 271)) hx hb hts (fun w h => mT (inX11 w h)) hown hG.1 hP (hst.1 255 (by decide)) hf31 rfl 41 (by decide) (hts _ (mT wg_1377)) (fun _ h => h) rfl dX11_laysDown_175 ?_
        refine lv_bipush (v := 75) hx hb dX11_laysDown_178 (by decide) ?_
        refine lv_aload_n hx hb dX11_laysDown_180 rfl (lv_at hl 0 rfl) ?_
        refine pl_get (v := .int v19_4) hx hb hts (fun w h => mT (inX11 w h)) hown hG.1 hP (hst.1 255 (by decide)) hf31 rfl 19 (by decide) (hts _ (mT wg_1355)) (fun _ h => h) rfl dX11_laysDown_181 ?_
        refine pl_iastE hx hb hG.1 hP hD hS (hst.1 271 (by decide)) 0 hf26 rfl (In.inb (⟨by decide, by decide⟩ : In 75 75 75) (by decide) (by decide)) dX11_laysDown_184 (fun H locs f33 r36 er36 hf34 ho35 hP hD hS => ?_)
        have hat38 : r36 72 = v36_4 := (upd_neI (k := 72) er36 (by decide)).trans hat30
        have hc37 : PRW 2126 (0) (th 20) (th 21) r36 := prw_0 (by decide)
        have hf39 := (ho35 (ad 255) (hst.ne (by decide) (by decide) (by decide))).trans hf31
        have ho40 : ∀ b, b ≠ (ad 271) → f33 b = _ := fun b hb => (ho35 b hb).trans (ho32 b hb)
        have hfr : (∀ b, b ≠ (ad 255) → b ≠ (ad 271) → f33 b = f b) := fun b z0_ z1_ => (ho35 b z1_).trans (hfr b z0_ z1_)
        refine lv_aload_n hx hb dX11_laysDown_185 rfl (lv_at hl 0 rfl) ?_
        refine pl_get (v := .ref (ad 271)) hx hb hts (fun w h => mT (inX11 w h)) hown hG.1 hP (hst.1 255 (by decide)) hf39 rfl 41 (by decide) (hts _ (mT wg_1377)) (fun _ h => h) rfl dX11_laysDown_186 ?_
        refine lv_bipush (v := 76) hx hb dX11_laysDown_189 (by decide) ?_
        refine lv_aload_n hx hb dX11_laysDown_191 rfl (lv_at hl 0 rfl) ?_
        refine pl_get (v := .int v20_4) hx hb hts (fun w h => mT (inX11 w h)) hown hG.1 hP (hst.1 255 (by decide)) hf39 rfl 20 (by decide) (hts _ (mT wg_1356)) (fun _ h => h) rfl dX11_laysDown_192 ?_
        refine pl_iastE hx hb hG.1 hP hD hS (hst.1 271 (by decide)) 0 hf34 rfl (In.inb (⟨by decide, by decide⟩ : In 76 76 76) (by decide) (by decide)) dX11_laysDown_195 (fun H locs f41 r44 er44 hf42 ho43 hP hD hS => ?_)
        have hat46 : r44 72 = v36_4 := (upd_neI (k := 72) er44 (by decide)).trans hat38
        have hat47 : r44 76 = v20_4 := upd_eqI (k := 76) er44 (by decide)
        have hc45 : PRW 2126 (0) (th 20) (th 21) r44 := prw_0 (by decide)
        have hf48 := (ho43 (ad 255) (hst.ne (by decide) (by decide) (by decide))).trans hf39
        have ho49 : ∀ b, b ≠ (ad 271) → f41 b = _ := fun b hb => (ho43 b hb).trans (ho40 b hb)
        have hfr : (∀ b, b ≠ (ad 255) → b ≠ (ad 271) → f41 b = f b) := fun b z0_ z1_ => (ho43 b z1_).trans (hfr b z0_ z1_)
        refine lv_aload_n hx hb dX11_laysDown_196 rfl (lv_at hl 0 rfl) ?_
        refine pl_get (v := .ref (ad 271)) hx hb hts (fun w h => mT (inX11 w h)) hown hG.1 hP (hst.1 255 (by decide)) hf48 rfl 41 (by decide) (hts _ (mT wg_1377)) (fun _ h => h) rfl dX11_laysDown_197 ?_
        refine lv_bipush (v := 77) hx hb dX11_laysDown_200 (by decide) ?_
        refine lv_aload_n hx hb dX11_laysDown_202 rfl (lv_at hl 0 rfl) ?_
        refine pl_get (v := .int v25_4) hx hb hts (fun w h => mT (inX11 w h)) hown hG.1 hP (hst.1 255 (by decide)) hf48 rfl 25 (by decide) (hts _ (mT wg_1361)) (fun _ h => h) rfl dX11_laysDown_203 ?_
        have hg25_4 : v25_4.toInt = th 44 := hg25_4
        refine pl_iastE hx hb hG.1 hP hD hS (hst.1 271 (by decide)) 0 hf42 rfl (In.inb (⟨by decide, by decide⟩ : In 77 77 77) (by decide) (by decide)) dX11_laysDown_206 (fun H locs f50 r53 er53 hf51 ho52 hP hD hS => ?_)
        have hat55 : r53 72 = v36_4 := (upd_neI (k := 72) er53 (by decide)).trans hat46
        have hat56 : r53 76 = v20_4 := (upd_neI (k := 76) er53 (by decide)).trans hat47
        have hat57 : r53 77 = v25_4 := upd_eqI (k := 77) er53 (by decide)
        have hc54 : PRW 2126 (0) (th 20) (th 21) r53 := prw_0 (by decide)
        have hc54v : PRW 2126 2126 (th 20) (th 21) r53 := prw_3 hat55 ⟨hv36_4.1, by omega⟩ hat56 ⟨hv20_4, capM hrel0_4 hg15_4 (by omega)⟩ hat57 hv25_4
        have hf58 := (ho52 (ad 255) (hst.ne (by decide) (by decide) (by decide))).trans hf48
        have ho59 : ∀ b, b ≠ (ad 271) → f50 b = _ := fun b hb => (ho52 b hb).trans (ho49 b hb)
        have hfr : (∀ b, b ≠ (ad 255) → b ≠ (ad 271) → f50 b = f b) := fun b z0_ z1_ => (ho52 b z1_).trans (hfr b z0_ z1_)
        refine lv_iconst (v := 0) hx hb dX11_laysDown_207 (by decide) ?_
        refine lv_istore_n (lv' := [(1, .int 0), (0, .ref (ad 255))]) hx hb dX11_laysDown_208 rfl hl (by decide) rfl (fun ls hl => ?_)
        have hT := TI.updMG (th' := (gset (gset (gset th 22 0) 19 v36_4.toInt) 22 2126)) hT hst (k := 16) (by decide) hf51 ho59 ⟨r53, rfl, (fun _ => congrArg Int32.toInt hat55), hc54v⟩ (fun q hq => ((gset_ne (fun e => hq (by subst e; decide))).trans ((gset_ne (fun e => hq (by subst e; decide))).trans rfl)))
        have hT : TI g ad (gset (gset th 19 v36_4.toInt) 22 2126) f50 := TI.cast hT (by funext q; by_cases hq0 : q = 22; (subst hq0; rfl); by_cases hq1 : q = 19; (subst hq1; rfl); simp only [gset, if_neg hq0, if_neg hq1])
        have hJ209 : ∀ (k209 : Nat) (y209_l1 : Int32) (f_209 : HP) (H : Heap) (locs : List Loc) (ls : Array Slot), In y209_l1 0 2147483647 → va_P g.1 vwCl (va_pl L f_209) H → va_D A (va_pl L f_209) → va_S A s.heap H locs → TI g ad (gset (gset th 19 v36_4.toInt) 22 2126) f_209 → (∀ b, b ≠ (ad 255) → b ≠ (ad 271) → f_209 b = f b) → lv_has ls 2 [(0, .ref (ad 255)), (1, .int y209_l1)] → 2147483647 - y209_l1.toInt < ((k209 : Nat) : Int) → W p l e rm_X11_laysDown s m [.ref (ad 255)].toArray below meth c H locs 0 0 (MQ below (va_Qv (po_X11_laysDown g ad th L f ) (PstB g A) A) [.ref (ad 255)].toArray s rm_X11_laysDown.cells rm_X11_laysDown.slots A) (F0 m 209 ls []) := by
          intro k209
          induction k209 with
          | zero =>
            intro y209_l1 f_209 H locs ls hy209_l1 hP hD hS hT hfr hl hmz209
            exact ms0 hy209_l1 hmz209
          | succ k209 ih209 =>
            intro y209_l1 f_209 H locs ls hy209_l1 hP hD hS hT hfr hl hmz209
            refine lv_iload_n hx hb dX11_laysDown_209 rfl (lv_at hl 1 rfl) ?_
            refine lv_sipush (v := 150) hx hb dX11_laysDown_210 (by decide) ?_
            refine lv_icmp_ge (tgt := 238) hx hb dX11_laysDown_213 (by decide) (fun c60 => ?_) (fun c60 => ?_)
            ·
              have oc150 : (150 : Int32).toInt = 150 := by decide
              have cc61 : (150 : Int32).toInt ≤ y209_l1.toInt := i32_le.mp c60
              have hb62 : In y209_l1 150 2147483647 := In.ge1 hy209_l1 (⟨by decide, by decide⟩ : In 150 150 150) cc61 (by decide) (by decide)
              refine lv_aload_n hx hb dX11_laysDown_238 rfl (lv_at hl 0 rfl) ?_
              refine lv_aload_n hx hb dX11_laysDown_239 rfl (lv_at hl 0 rfl) ?_
              refine M0e hT (fun v0_63 v2_63 v3_63 v4_63 v5_63 v6_63 v8_63 v9_63 v12_63 v13_63 v14_63 v15_63 v16_63 v17_63 v18_63 v19_63 v20_63 v21_63 v22_63 v23_63 v25_63 v36_63 v37_63 v38_63 v39_63 v40_63 v45_63 v46_63 v47_63 v48_63 v50_63 v51_63 v53_63 v55_63 hf64 hv0_63 hv2_63 hg2_63 hv3_63 hg3_63 hv4_63 hg4_63 hv5_63 hg5_63 hv6_63 hg6_63 hv8_63 hg8_63 hv9_63 hg9_63 hv12_63 hv13_63 hg13_63 hv14_63 hg14_63 hv15_63 hg15_63 hv17_63 hg17_63 hv20_63 hg20_63 hv23_63 hg23_63 hv25_63 hg25_63 hv36_63 hg36_63 hv47_63 hg47_63 hv48_63 hg48_63 hv53_63 hg53_63 hv55_63 hg55_63 hrel0_63 => ?_)
              have hg15_63 : v15_63.toInt = th 11 := hg15_63
              have hg17_63 : v17_63.toInt = th 12 := hg17_63
              have hg20_63 : v20_63.toInt = th 14 := hg20_63
              refine pl_get (v := .long v22_63) hx hb hts (fun w h => mT (inX11 w h)) hown hG.1 hP (hst.1 255 (by decide)) hf64 rfl 22 (by decide) (hts _ (mT wg_1358)) (fun _ h => h) rfl dX11_laysDown_240 ?_
              refine pl_put (ty := .long) (v := .long v22_63) (fs' := [.int v0_63, .ref (ad 256), .int v2_63, .int v3_63, .int v4_63, .int v5_63, .int v6_63, .ref (ad 257), .int v8_63, .int v9_63, .ref (ad 258), .ref (ad 259), .int v12_63, .int v13_63, .int v14_63, .int v15_63, .int v16_63, .int v17_63, .int v18_63, .int v19_63, .int v20_63, .long v21_63, .long v22_63, .int v23_63, .ref (ad 260), .int v25_63, .ref (ad 261), .ref (ad 262), .ref (ad 263), .ref (ad 264), .ref (ad 265), .ref (ad 266), .ref (ad 267), .ref (ad 268), .ref (ad 269), .ref (ad 270), .int v36_63, .int v37_63, .int v38_63, .int v39_63, .int v40_63, .ref (ad 271), .ref (ad 272), .ref (ad 273), .ref (ad 274), .long v22_63, .long v46_63, .int v47_63, .int v48_63, .ref (ad 275), .int v50_63, .int v51_63, .ref (ad 276), .int v53_63, .ref (ad 277), .int v55_63]) hx hb hts (fun w h => mT (inX11 w h)) tyX11 tyX11_ok nmX11 hown hG.1 hP hD hS (hst.1 255 (by decide)) hf64 rfl 45 (by decide) (hts _ (mT wg_1381)) (fun _ h => h) rfl (by decide +kernel) (rfl) (rfl) (Nat.le_of_ble_eq_true rfl) rfl dX11_laysDown_243 (fun H locs f65 hf66 ho67 hP hD hS => ?_)
              have hfr : (∀ b, b ≠ (ad 255) → b ≠ (ad 271) → f65 b = f b) := fun b z0_ z1_ => (ho67 b z0_).trans (hfr b z0_ z1_)
              have hT := TI.updM hT hst (k := 0) (by decide) hf66 ho67 ⟨v0_63, v2_63, v3_63, v4_63, v5_63, v6_63, v8_63, v9_63, v12_63, v13_63, v14_63, v15_63, v16_63, v17_63, v18_63, v19_63, v20_63, v21_63, v22_63, v23_63, v25_63, v36_63, v37_63, v38_63, v39_63, v40_63, v22_63, v46_63, v47_63, v48_63, v50_63, v51_63, v53_63, v55_63, rfl, hv0_63, hv2_63, hg2_63, hv3_63, hg3_63, hv4_63, hg4_63, hv5_63, hg5_63, hv6_63, hg6_63, hv8_63, hg8_63, hv9_63, hg9_63, hv12_63, hv13_63, hg13_63, hv14_63, hg14_63, hv15_63, hg15_63, hv17_63, hg17_63, hv20_63, hg20_63, hv23_63, hg23_63, hv25_63, hg25_63, hv36_63, hg36_63, hv47_63, hg47_63, hv48_63, hg48_63, hv53_63, hg53_63, hv55_63, hg55_63, hrel0_63⟩
              exact ret_v hx hb hr hlocks hP hD hS (Nat.le_of_ble_eq_true rfl) (Nat.le_of_ble_eq_true rfl) (⟨rfl, ⟨v36_4.toInt, (2126 : Int), (show v36_4.toInt = th 18 ∧ (2126 : Int) = 2126 from (by have ob10 : (0 : Int) ≤ (th 10) ∧ (th 10) ≤ 1 := (b0_10 hT :); have ob11 : (0 : Int) ≤ (th 11) ∧ (th 11) ≤ 9 := (b0_11 hT :); have ob12 : (0 : Int) ≤ (th 12) ∧ (th 12) ≤ 6 := (b0_12 hT :); have ob14 : (0 : Int) ≤ (th 14) ∧ (th 14) ≤ 511 := (b0_14 hT :); have ob15 : (0 : Int) ≤ (th 15) ∧ (th 15) ≤ 1 := (b0_15 hT :); have ob16 : (0 : Int) ≤ (th 16) ∧ (th 16) ≤ 20 := (b0_16 hT :); have ob17 : (0 : Int) ≤ (th 17) ∧ (th 17) ≤ 1 := (b0_17 hT :); have ob18 : (0 : Int) ≤ (th 18) ∧ (th 18) ≤ 18 := (b0_18 hT :); have ob38 : (0 : Int) ≤ (th 38) ∧ (th 38) ≤ 400 := (b0_38 hT :); have ob39 : (0 : Int) ≤ (th 39) ∧ (th 39) ≤ 200 := (b0_39 hT :); have ob44 : (0 : Int) ≤ (th 44) ∧ (th 44) ≤ 30 := (b0_44 hT :); have orn := rnd_b (th 10); obtain ⟨o0a, o0b⟩ := (hb62 : In _ _ _); obtain ⟨o1a, o1b⟩ := (hv14_63 : In _ _ _); obtain ⟨o2a, o2b⟩ := (hv15_63 : In _ _ _); obtain ⟨o3a, o3b⟩ := (hv17_63 : In _ _ _); obtain ⟨o4a, o4b⟩ := (hv20_63 : In _ _ _); obtain ⟨o5a, o5b⟩ := (hv23_63 : In _ _ _); obtain ⟨o6a, o6b⟩ := (hv25_63 : In _ _ _); obtain ⟨o7a, o7b⟩ := (hv36_63 : In _ _ _); obtain ⟨o8a, o8b⟩ := (hv47_63 : In _ _ _); obtain ⟨o9a, o9b⟩ := (hv48_63 : In _ _ _); obtain ⟨o10a, o10b⟩ := (hv53_63 : In _ _ _); obtain ⟨o11a, o11b⟩ := (hv55_63 : In _ _ _); omega)), TI.cast hT (by funext q; by_cases hq0 : q = 22; (subst hq0; rfl); by_cases hq1 : q = 19; (subst hq1; rfl); simp only [gset, if_neg hq0, if_neg hq1])⟩, hfr⟩) dX11_laysDown_246
            ·
              have oc150 : (150 : Int32).toInt = 150 := by decide
              have cc68 : y209_l1.toInt < (150 : Int32).toInt := i32_nle c60
              have hb69 : In y209_l1 0 149 := In.lt1 hy209_l1 (⟨by decide, by decide⟩ : In 150 150 150) cc68 (by decide) (by decide)
              refine lv_aload_n hx hb dX11_laysDown_216 rfl (lv_at hl 0 rfl) ?_
              refine M0e hT (fun v0_70 v2_70 v3_70 v4_70 v5_70 v6_70 v8_70 v9_70 v12_70 v13_70 v14_70 v15_70 v16_70 v17_70 v18_70 v19_70 v20_70 v21_70 v22_70 v23_70 v25_70 v36_70 v37_70 v38_70 v39_70 v40_70 v45_70 v46_70 v47_70 v48_70 v50_70 v51_70 v53_70 v55_70 hf71 hv0_70 hv2_70 hg2_70 hv3_70 hg3_70 hv4_70 hg4_70 hv5_70 hg5_70 hv6_70 hg6_70 hv8_70 hg8_70 hv9_70 hg9_70 hv12_70 hv13_70 hg13_70 hv14_70 hg14_70 hv15_70 hg15_70 hv17_70 hg17_70 hv20_70 hg20_70 hv23_70 hg23_70 hv25_70 hg25_70 hv36_70 hg36_70 hv47_70 hg47_70 hv48_70 hg48_70 hv53_70 hg53_70 hv55_70 hg55_70 hrel0_70 => ?_)
              have hg15_70 : v15_70.toInt = th 11 := hg15_70
              have hg17_70 : v17_70.toInt = th 12 := hg17_70
              have hg20_70 : v20_70.toInt = th 14 := hg20_70
              refine pl_get (v := .ref (ad 271)) hx hb hts (fun w h => mT (inX11 w h)) hown hG.1 hP (hst.1 255 (by decide)) hf71 rfl 41 (by decide) (hts _ (mT wg_1377)) (fun _ h => h) rfl dX11_laysDown_217 ?_
              refine lv_sipush (v := 1976) hx hb dX11_laysDown_220 (by decide) ?_
              refine lv_iload_n hx hb dX11_laysDown_223 rfl (lv_at hl 1 rfl) ?_
              refine lv_iadd hx hb dX11_laysDown_224 ?_
              refine lv_topi (fun x72 ex72 => ?_)
              have hb73 : In x72 1976 2125 := ex72 ▸ In.add (⟨by decide, by decide⟩ : In 1976 1976 1976) hb69 (by decide) (by decide) (by decide) (by decide)
              have et74 : x72.toInt = (1976 : Int32).toInt + y209_l1.toInt := In.add2e ex72 (⟨by decide, by decide⟩ : In 1976 1976 1976) hb69 (by decide) (by decide)
              refine lv_aload_n hx hb dX11_laysDown_225 rfl (lv_at hl 0 rfl) ?_
              refine pl_get (v := .ref (ad 260)) hx hb hts (fun w h => mT (inX11 w h)) hown hG.1 hP (hst.1 255 (by decide)) hf71 rfl 24 (by decide) (hts _ (mT wg_1360)) (fun _ h => h) rfl dX11_laysDown_226 ?_
              refine lv_iload_n hx hb dX11_laysDown_229 rfl (lv_at hl 1 rfl) ?_
              obtain ⟨rw75, hf76⟩ := hT.2.2 5 (by decide)
              have hin77 : vp_in y209_l1 150 := In.inb hb69 (by decide) (by decide)
              refine pl_iald hx hb hG.1 hP (hst.1 260 (by decide)) 0 hf76 rfl hin77 dX11_laysDown_230 ?_
              refine lv_topi (fun x78 ex78 => ?_)
              obtain ⟨rw79, hf80, hpi82, hc81⟩ := hT.2.2 16 (by decide)
              have hc81 : PRW 2126 (2126) (th 20) (th 21) rw79 := hc81
              have hpi82 : ((72 : Int) < 2126 → (rw79 72).toInt = v36_4.toInt) := hpi82
              refine pl_iastE hx hb hG.1 hP hD hS (hst.1 271 (by decide)) 0 hf80 rfl (In.inb hb73 (by decide) (by decide)) dX11_laysDown_231 (fun H locs f83 r86 er86 hf84 ho85 hP hD hS => ?_)
              have hc87 : PRW 2126 (2126) (th 20) (th 21) r86 := prw_set hc81 er86 (pred_off hb73 (by decide) (by decide) (by decide) (by decide))
              have hpi88 : ((72 : Int) < 2126 → (r86 72).toInt = v36_4.toInt) := fun q => (congrArg Int32.toInt (upd_neI (k := 72) er86 (neN hb73 (by decide)))).trans (hpi82 q)
              have hf89 := (ho85 (ad 255) (hst.ne (by decide) (by decide) (by decide))).trans hf71
              have hf90 := (ho85 (ad 260) (hst.ne (by decide) (by decide) (by decide))).trans hf76
              have hfr : (∀ b, b ≠ (ad 255) → b ≠ (ad 271) → f83 b = f b) := fun b z0_ z1_ => (ho85 b z1_).trans (hfr b z0_ z1_)
              obtain ⟨x91, ex91⟩ : ∃ y : Int32, y = y209_l1 + 1 := ⟨_, rfl⟩
              have hb92 : In x91 1 150 := ex91 ▸ In.add hb69 (⟨by decide, by decide⟩ : In 1 1 1) (by decide) (by decide) (by decide) (by decide)
              have et93 : x91.toInt = y209_l1.toInt + 1 := In.adde ex91 hb69 (k := 1) (by decide) (by decide) (by decide)
              refine lv_iinc (v := x91) (lv' := [(1, .int x91), (0, .ref (ad 255))]) hx hb dX11_laysDown_232 hl (k := 1) rfl (by rw [ex91]; rfl) (by decide) rfl (fun ls hl => ?_)
              have hT := TI.updM hT hst (k := 16) (by decide) hf84 ho85 ⟨r86, rfl, hpi88, hc87⟩
              refine lv_goto (tgt := 209) hx hb dX11_laysDown_235 (by decide) ?_
              exact ih209 x91 _ _ _ _ (In.mono hb92 (by decide) (by decide)) hP hD hS hT hfr (lv_sub hl [1, 0] rfl) (msu et93 (by decide) hmz209)
        exact hJ209 ((2147483647 - (0 : Int32).toInt).toNat + 1) 0 _ _ _ _ (⟨by decide, by decide⟩ : In 0 0 2147483647) hP hD hS hT hfr (lv_sub hl [1, 0] rfl) (msI _)
      ·
        have oc9 : (9 : Int32).toInt = 9 := by decide
        have cc94 : y2_l1.toInt < (9 : Int32).toInt := i32_nle c1
        have hb95 : In y2_l1 0 8 := In.lt1 hy2_l1 (⟨by decide, by decide⟩ : In 9 9 9) cc94 (by decide) (by decide)
        refine lv_aload_n hx hb dX11_laysDown_8 rfl (lv_at hl 0 rfl) ?_
        refine M0e hT (fun v0_96 v2_96 v3_96 v4_96 v5_96 v6_96 v8_96 v9_96 v12_96 v13_96 v14_96 v15_96 v16_96 v17_96 v18_96 v19_96 v20_96 v21_96 v22_96 v23_96 v25_96 v36_96 v37_96 v38_96 v39_96 v40_96 v45_96 v46_96 v47_96 v48_96 v50_96 v51_96 v53_96 v55_96 hf97 hv0_96 hv2_96 hg2_96 hv3_96 hg3_96 hv4_96 hg4_96 hv5_96 hg5_96 hv6_96 hg6_96 hv8_96 hg8_96 hv9_96 hg9_96 hv12_96 hv13_96 hg13_96 hv14_96 hg14_96 hv15_96 hg15_96 hv17_96 hg17_96 hv20_96 hg20_96 hv23_96 hg23_96 hv25_96 hg25_96 hv36_96 hg36_96 hv47_96 hg47_96 hv48_96 hg48_96 hv53_96 hg53_96 hv55_96 hg55_96 hrel0_96 => ?_)
        have hg15_96 : v15_96.toInt = th 11 := hg15_96
        have hg17_96 : v17_96.toInt = th 12 := hg17_96
        have hg20_96 : v20_96.toInt = th 14 := hg20_96
        refine pl_get (v := .ref (ad 271)) hx hb hts (fun w h => mT (inX11 w h)) hown hG.1 hP (hst.1 255 (by decide)) hf97 rfl 41 (by decide) (hts _ (mT wg_1377)) (fun _ h => h) rfl dX11_laysDown_9 ?_
        refine lv_iconst (v := 0) hx hb dX11_laysDown_12 (by decide) ?_
        refine lv_iload_n hx hb dX11_laysDown_13 rfl (lv_at hl 1 rfl) ?_
        refine lv_iadd hx hb dX11_laysDown_14 ?_
        refine lv_topi (fun x98 ex98 => ?_)
        have hb99 : In x98 0 8 := ex98 ▸ In.add (⟨by decide, by decide⟩ : In 0 0 0) hb95 (by decide) (by decide) (by decide) (by decide)
        have et100 : x98.toInt = (0 : Int32).toInt + y2_l1.toInt := In.add2e ex98 (⟨by decide, by decide⟩ : In 0 0 0) hb95 (by decide) (by decide)
        refine lv_aload_n hx hb dX11_laysDown_15 rfl (lv_at hl 0 rfl) ?_
        refine pl_get (v := .ref (ad 261)) hx hb hts (fun w h => mT (inX11 w h)) hown hG.1 hP (hst.1 255 (by decide)) hf97 rfl 26 (by decide) (hts _ (mT wg_1362)) (fun _ h => h) rfl dX11_laysDown_16 ?_
        refine lv_iload_n hx hb dX11_laysDown_19 rfl (lv_at hl 1 rfl) ?_
        obtain ⟨rw101, hf102⟩ := hT.2.2 6 (by decide)
        have hin103 : vp_in y2_l1 9 := In.inb hb95 (by decide) (by decide)
        refine pl_iald hx hb hG.1 hP (hst.1 261 (by decide)) 0 hf102 rfl hin103 dX11_laysDown_20 ?_
        refine lv_topi (fun x104 ex104 => ?_)
        obtain ⟨rw105, hf106, hpi108, hc107⟩ := hT.2.2 16 (by decide)
        have hc107 : PRW 2126 (0) (th 20) (th 21) rw105 := hc107
        have hpi108 : ((72 : Int) < 0 → (rw105 72).toInt = th 19) := hpi108
        refine pl_iastE hx hb hG.1 hP hD hS (hst.1 271 (by decide)) 0 hf106 rfl (In.inb hb99 (by decide) (by decide)) dX11_laysDown_21 (fun H locs f109 r112 er112 hf110 ho111 hP hD hS => ?_)
        have hc113 : PRW 2126 (0) (th 20) (th 21) r112 := prw_0 (by decide)
        have hf114 := (ho111 (ad 255) (hst.ne (by decide) (by decide) (by decide))).trans hf97
        have hf115 := (ho111 (ad 261) (hst.ne (by decide) (by decide) (by decide))).trans hf102
        have hfr : (∀ b, b ≠ (ad 255) → b ≠ (ad 271) → f109 b = f b) := fun b z0_ z1_ => (ho111 b z1_).trans (hfr b z0_ z1_)
        refine lv_aload_n hx hb dX11_laysDown_22 rfl (lv_at hl 0 rfl) ?_
        refine pl_get (v := .ref (ad 271)) hx hb hts (fun w h => mT (inX11 w h)) hown hG.1 hP (hst.1 255 (by decide)) hf114 rfl 41 (by decide) (hts _ (mT wg_1377)) (fun _ h => h) rfl dX11_laysDown_23 ?_
        refine lv_bipush (v := 9) hx hb dX11_laysDown_26 (by decide) ?_
        refine lv_iload_n hx hb dX11_laysDown_28 rfl (lv_at hl 1 rfl) ?_
        refine lv_iadd hx hb dX11_laysDown_29 ?_
        refine lv_topi (fun x116 ex116 => ?_)
        have hb117 : In x116 9 17 := ex116 ▸ In.add (⟨by decide, by decide⟩ : In 9 9 9) hb95 (by decide) (by decide) (by decide) (by decide)
        have et118 : x116.toInt = (9 : Int32).toInt + y2_l1.toInt := In.add2e ex116 (⟨by decide, by decide⟩ : In 9 9 9) hb95 (by decide) (by decide)
        refine lv_aload_n hx hb dX11_laysDown_30 rfl (lv_at hl 0 rfl) ?_
        refine pl_get (v := .ref (ad 262)) hx hb hts (fun w h => mT (inX11 w h)) hown hG.1 hP (hst.1 255 (by decide)) hf114 rfl 27 (by decide) (hts _ (mT wg_1363)) (fun _ h => h) rfl dX11_laysDown_31 ?_
        refine lv_iload_n hx hb dX11_laysDown_34 rfl (lv_at hl 1 rfl) ?_
        have hT := TI.updM hT hst (k := 16) (by decide) hf110 ho111 ⟨r112, rfl, (fun q => absurd (show (72 : Int) < 0 from q) (by decide)), hc113⟩
        obtain ⟨rw119, hf120⟩ := hT.2.2 7 (by decide)
        have hin121 : vp_in y2_l1 9 := In.inb hb95 (by decide) (by decide)
        refine pl_iald hx hb hG.1 hP (hst.1 262 (by decide)) 0 hf120 rfl hin121 dX11_laysDown_35 ?_
        refine lv_topi (fun x122 ex122 => ?_)
        refine pl_iastE hx hb hG.1 hP hD hS (hst.1 271 (by decide)) 0 hf110 rfl (In.inb hb117 (by decide) (by decide)) dX11_laysDown_36 (fun H locs f123 r126 er126 hf124 ho125 hP hD hS => ?_)
        have hc127 : PRW 2126 (0) (th 20) (th 21) r126 := prw_0 (by decide)
        have hf128 := (ho125 (ad 255) (hst.ne (by decide) (by decide) (by decide))).trans hf114
        have hf129 := (ho125 (ad 261) (hst.ne (by decide) (by decide) (by decide))).trans hf115
        have hf130 := (ho125 (ad 262) (hst.ne (by decide) (by decide) (by decide))).trans hf120
        have hfr : (∀ b, b ≠ (ad 255) → b ≠ (ad 271) → f123 b = f b) := fun b z0_ z1_ => (ho125 b z1_).trans (hfr b z0_ z1_)
        refine lv_aload_n hx hb dX11_laysDown_37 rfl (lv_at hl 0 rfl) ?_
        refine pl_get (v := .ref (ad 271)) hx hb hts (fun w h => mT (inX11 w h)) hown hG.1 hP (hst.1 255 (by decide)) hf128 rfl 41 (by decide) (hts _ (mT wg_1377)) (fun _ h => h) rfl dX11_laysDown_38 ?_
        refine lv_bipush (v := 18) hx hb dX11_laysDown_41 (by decide) ?_
        refine lv_iload_n hx hb dX11_laysDown_43 rfl (lv_at hl 1 rfl) ?_
        refine lv_iadd hx hb dX11_laysDown_44 ?_
        refine lv_topi (fun x131 ex131 => ?_)
        have hb132 : In x131 18 26 := ex131 ▸ In.add (⟨by decide, by decide⟩ : In 18 18 18) hb95 (by decide) (by decide) (by decide) (by decide)
        have et133 : x131.toInt = (18 : Int32).toInt + y2_l1.toInt := In.add2e ex131 (⟨by decide, by decide⟩ : In 18 18 18) hb95 (by decide) (by decide)
        refine lv_aload_n hx hb dX11_laysDown_45 rfl (lv_at hl 0 rfl) ?_
        refine pl_get (v := .ref (ad 263)) hx hb hts (fun w h => mT (inX11 w h)) hown hG.1 hP (hst.1 255 (by decide)) hf128 rfl 28 (by decide) (hts _ (mT wg_1364)) (fun _ h => h) rfl dX11_laysDown_46 ?_
        refine lv_iload_n hx hb dX11_laysDown_49 rfl (lv_at hl 1 rfl) ?_
        have hT := TI.updM hT hst (k := 16) (by decide) hf124 ho125 ⟨r126, rfl, (fun q => absurd (show (72 : Int) < 0 from q) (by decide)), hc127⟩
        obtain ⟨rw134, hf135⟩ := hT.2.2 8 (by decide)
        have hin136 : vp_in y2_l1 9 := In.inb hb95 (by decide) (by decide)
        refine pl_iald hx hb hG.1 hP (hst.1 263 (by decide)) 0 hf135 rfl hin136 dX11_laysDown_50 ?_
        refine lv_topi (fun x137 ex137 => ?_)
        refine pl_iastE hx hb hG.1 hP hD hS (hst.1 271 (by decide)) 0 hf124 rfl (In.inb hb132 (by decide) (by decide)) dX11_laysDown_51 (fun H locs f138 r141 er141 hf139 ho140 hP hD hS => ?_)
        have hc142 : PRW 2126 (0) (th 20) (th 21) r141 := prw_0 (by decide)
        have hf143 := (ho140 (ad 255) (hst.ne (by decide) (by decide) (by decide))).trans hf128
        have hf144 := (ho140 (ad 261) (hst.ne (by decide) (by decide) (by decide))).trans hf129
        have hf145 := (ho140 (ad 262) (hst.ne (by decide) (by decide) (by decide))).trans hf130
        have hf146 := (ho140 (ad 263) (hst.ne (by decide) (by decide) (by decide))).trans hf135
        have hfr : (∀ b, b ≠ (ad 255) → b ≠ (ad 271) → f138 b = f b) := fun b z0_ z1_ => (ho140 b z1_).trans (hfr b z0_ z1_)
        refine lv_aload_n hx hb dX11_laysDown_52 rfl (lv_at hl 0 rfl) ?_
        refine pl_get (v := .ref (ad 271)) hx hb hts (fun w h => mT (inX11 w h)) hown hG.1 hP (hst.1 255 (by decide)) hf143 rfl 41 (by decide) (hts _ (mT wg_1377)) (fun _ h => h) rfl dX11_laysDown_53 ?_
        refine lv_bipush (v := 27) hx hb dX11_laysDown_56 (by decide) ?_
        refine lv_iload_n hx hb dX11_laysDown_58 rfl (lv_at hl 1 rfl) ?_
        refine lv_iadd hx hb dX11_laysDown_59 ?_
        refine lv_topi (fun x147 ex147 => ?_)
        have hb148 : In x147 27 35 := ex147 ▸ In.add (⟨by decide, by decide⟩ : In 27 27 27) hb95 (by decide) (by decide) (by decide) (by decide)
        have et149 : x147.toInt = (27 : Int32).toInt + y2_l1.toInt := In.add2e ex147 (⟨by decide, by decide⟩ : In 27 27 27) hb95 (by decide) (by decide)
        refine lv_aload_n hx hb dX11_laysDown_60 rfl (lv_at hl 0 rfl) ?_
        refine pl_get (v := .ref (ad 269)) hx hb hts (fun w h => mT (inX11 w h)) hown hG.1 hP (hst.1 255 (by decide)) hf143 rfl 34 (by decide) (hts _ (mT wg_1370)) (fun _ h => h) rfl dX11_laysDown_61 ?_
        refine lv_iload_n hx hb dX11_laysDown_64 rfl (lv_at hl 1 rfl) ?_
        have hT := TI.updM hT hst (k := 16) (by decide) hf139 ho140 ⟨r141, rfl, (fun q => absurd (show (72 : Int) < 0 from q) (by decide)), hc142⟩
        obtain ⟨rw150, hf151⟩ := hT.2.2 14 (by decide)
        have hin152 : vp_in y2_l1 9 := In.inb hb95 (by decide) (by decide)
        refine pl_zald hx hb hG.1 hP (hst.1 269 (by decide)) 3 hf151 rfl hin152 dX11_laysDown_65 ?_
        refine lv_topi (fun x153 ex153 => ?_)
        have hJ74 : ∀ (y74_s0 : Int32) (H : Heap) (locs : List Loc) (ls : Array Slot), In y74_s0 0 1 → va_P g.1 vwCl (va_pl L f138) H → va_D A (va_pl L f138) → va_S A s.heap H locs → lv_has ls 2 [(0, .ref (ad 255)), (1, .int y2_l1)] → W p l e rm_X11_laysDown s m [.ref (ad 255)].toArray below meth c H locs 0 0 (MQ below (va_Qv (po_X11_laysDown g ad th L f ) (PstB g A) A) [.ref (ad 255)].toArray s rm_X11_laysDown.cells rm_X11_laysDown.slots A) (F0 m 74 ls [.int y74_s0, .int x147, .ref (ad 271)]) := by
          intro y74_s0 H locs ls hy74_s0 hP hD hS hl
          refine pl_iastE hx hb hG.1 hP hD hS (hst.1 271 (by decide)) 0 hf139 rfl (In.inb hb148 (by decide) (by decide)) dX11_laysDown_74 (fun H locs f154 r157 er157 hf155 ho156 hP hD hS => ?_)
          have hc158 : PRW 2126 (0) (th 20) (th 21) r157 := prw_0 (by decide)
          have hf159 := (ho156 (ad 255) (hst.ne (by decide) (by decide) (by decide))).trans hf143
          have hf160 := (ho156 (ad 261) (hst.ne (by decide) (by decide) (by decide))).trans hf144
          have hf161 := (ho156 (ad 262) (hst.ne (by decide) (by decide) (by decide))).trans hf145
          have hf162 := (ho156 (ad 263) (hst.ne (by decide) (by decide) (by decide))).trans hf146
          have hf163 := (ho156 (ad 269) (hst.ne (by decide) (by decide) (by decide))).trans hf151
          have hfr : (∀ b, b ≠ (ad 255) → b ≠ (ad 271) → f154 b = f b) := fun b z0_ z1_ => (ho156 b z1_).trans (hfr b z0_ z1_)
          refine lv_aload_n hx hb dX11_laysDown_75 rfl (lv_at hl 0 rfl) ?_
          refine pl_get (v := .ref (ad 271)) hx hb hts (fun w h => mT (inX11 w h)) hown hG.1 hP (hst.1 255 (by decide)) hf159 rfl 41 (by decide) (hts _ (mT wg_1377)) (fun _ h => h) rfl dX11_laysDown_76 ?_
          refine lv_bipush (v := 36) hx hb dX11_laysDown_79 (by decide) ?_
          refine lv_iload_n hx hb dX11_laysDown_81 rfl (lv_at hl 1 rfl) ?_
          refine lv_iadd hx hb dX11_laysDown_82 ?_
          refine lv_topi (fun x164 ex164 => ?_)
          have hb165 : In x164 36 44 := ex164 ▸ In.add (⟨by decide, by decide⟩ : In 36 36 36) hb95 (by decide) (by decide) (by decide) (by decide)
          have et166 : x164.toInt = (36 : Int32).toInt + y2_l1.toInt := In.add2e ex164 (⟨by decide, by decide⟩ : In 36 36 36) hb95 (by decide) (by decide)
          refine lv_aload_n hx hb dX11_laysDown_83 rfl (lv_at hl 0 rfl) ?_
          refine pl_get (v := .ref (ad 264)) hx hb hts (fun w h => mT (inX11 w h)) hown hG.1 hP (hst.1 255 (by decide)) hf159 rfl 29 (by decide) (hts _ (mT wg_1365)) (fun _ h => h) rfl dX11_laysDown_84 ?_
          refine lv_iload_n hx hb dX11_laysDown_87 rfl (lv_at hl 1 rfl) ?_
          have hT := TI.updM hT hst (k := 16) (by decide) hf155 ho156 ⟨r157, rfl, (fun q => absurd (show (72 : Int) < 0 from q) (by decide)), hc158⟩
          obtain ⟨rw167, hf168⟩ := hT.2.2 9 (by decide)
          have hin169 : vp_in y2_l1 9 := In.inb hb95 (by decide) (by decide)
          refine pl_iald hx hb hG.1 hP (hst.1 264 (by decide)) 0 hf168 rfl hin169 dX11_laysDown_88 ?_
          refine lv_topi (fun x170 ex170 => ?_)
          refine pl_iastE hx hb hG.1 hP hD hS (hst.1 271 (by decide)) 0 hf155 rfl (In.inb hb165 (by decide) (by decide)) dX11_laysDown_89 (fun H locs f171 r174 er174 hf172 ho173 hP hD hS => ?_)
          have hc175 : PRW 2126 (0) (th 20) (th 21) r174 := prw_0 (by decide)
          have hf176 := (ho173 (ad 255) (hst.ne (by decide) (by decide) (by decide))).trans hf159
          have hf177 := (ho173 (ad 261) (hst.ne (by decide) (by decide) (by decide))).trans hf160
          have hf178 := (ho173 (ad 262) (hst.ne (by decide) (by decide) (by decide))).trans hf161
          have hf179 := (ho173 (ad 263) (hst.ne (by decide) (by decide) (by decide))).trans hf162
          have hf180 := (ho173 (ad 269) (hst.ne (by decide) (by decide) (by decide))).trans hf163
          have hf181 := (ho173 (ad 264) (hst.ne (by decide) (by decide) (by decide))).trans hf168
          have hfr : (∀ b, b ≠ (ad 255) → b ≠ (ad 271) → f171 b = f b) := fun b z0_ z1_ => (ho173 b z1_).trans (hfr b z0_ z1_)
          refine lv_aload_n hx hb dX11_laysDown_90 rfl (lv_at hl 0 rfl) ?_
          refine pl_get (v := .ref (ad 271)) hx hb hts (fun w h => mT (inX11 w h)) hown hG.1 hP (hst.1 255 (by decide)) hf176 rfl 41 (by decide) (hts _ (mT wg_1377)) (fun _ h => h) rfl dX11_laysDown_91 ?_
          refine lv_bipush (v := 45) hx hb dX11_laysDown_94 (by decide) ?_
          refine lv_iload_n hx hb dX11_laysDown_96 rfl (lv_at hl 1 rfl) ?_
          refine lv_iadd hx hb dX11_laysDown_97 ?_
          refine lv_topi (fun x182 ex182 => ?_)
          have hb183 : In x182 45 53 := ex182 ▸ In.add (⟨by decide, by decide⟩ : In 45 45 45) hb95 (by decide) (by decide) (by decide) (by decide)
          have et184 : x182.toInt = (45 : Int32).toInt + y2_l1.toInt := In.add2e ex182 (⟨by decide, by decide⟩ : In 45 45 45) hb95 (by decide) (by decide)
          refine lv_aload_n hx hb dX11_laysDown_98 rfl (lv_at hl 0 rfl) ?_
          refine pl_get (v := .ref (ad 265)) hx hb hts (fun w h => mT (inX11 w h)) hown hG.1 hP (hst.1 255 (by decide)) hf176 rfl 30 (by decide) (hts _ (mT wg_1366)) (fun _ h => h) rfl dX11_laysDown_99 ?_
          refine lv_iload_n hx hb dX11_laysDown_102 rfl (lv_at hl 1 rfl) ?_
          have hT := TI.updM hT hst (k := 16) (by decide) hf172 ho173 ⟨r174, rfl, (fun q => absurd (show (72 : Int) < 0 from q) (by decide)), hc175⟩
          obtain ⟨rw185, hf186⟩ := hT.2.2 10 (by decide)
          have hin187 : vp_in y2_l1 9 := In.inb hb95 (by decide) (by decide)
          refine pl_iald hx hb hG.1 hP (hst.1 265 (by decide)) 0 hf186 rfl hin187 dX11_laysDown_103 ?_
          refine lv_topi (fun x188 ex188 => ?_)
          refine pl_iastE hx hb hG.1 hP hD hS (hst.1 271 (by decide)) 0 hf172 rfl (In.inb hb183 (by decide) (by decide)) dX11_laysDown_104 (fun H locs f189 r192 er192 hf190 ho191 hP hD hS => ?_)
          have hc193 : PRW 2126 (0) (th 20) (th 21) r192 := prw_0 (by decide)
          have hf194 := (ho191 (ad 255) (hst.ne (by decide) (by decide) (by decide))).trans hf176
          have hf195 := (ho191 (ad 261) (hst.ne (by decide) (by decide) (by decide))).trans hf177
          have hf196 := (ho191 (ad 262) (hst.ne (by decide) (by decide) (by decide))).trans hf178
          have hf197 := (ho191 (ad 263) (hst.ne (by decide) (by decide) (by decide))).trans hf179
          have hf198 := (ho191 (ad 269) (hst.ne (by decide) (by decide) (by decide))).trans hf180
          have hf199 := (ho191 (ad 264) (hst.ne (by decide) (by decide) (by decide))).trans hf181
          have hf200 := (ho191 (ad 265) (hst.ne (by decide) (by decide) (by decide))).trans hf186
          have hfr : (∀ b, b ≠ (ad 255) → b ≠ (ad 271) → f189 b = f b) := fun b z0_ z1_ => (ho191 b z1_).trans (hfr b z0_ z1_)
          refine lv_aload_n hx hb dX11_laysDown_105 rfl (lv_at hl 0 rfl) ?_
          refine pl_get (v := .ref (ad 271)) hx hb hts (fun w h => mT (inX11 w h)) hown hG.1 hP (hst.1 255 (by decide)) hf194 rfl 41 (by decide) (hts _ (mT wg_1377)) (fun _ h => h) rfl dX11_laysDown_106 ?_
          refine lv_bipush (v := 54) hx hb dX11_laysDown_109 (by decide) ?_
          refine lv_iload_n hx hb dX11_laysDown_111 rfl (lv_at hl 1 rfl) ?_
          refine lv_iadd hx hb dX11_laysDown_112 ?_
          refine lv_topi (fun x201 ex201 => ?_)
          have hb202 : In x201 54 62 := ex201 ▸ In.add (⟨by decide, by decide⟩ : In 54 54 54) hb95 (by decide) (by decide) (by decide) (by decide)
          have et203 : x201.toInt = (54 : Int32).toInt + y2_l1.toInt := In.add2e ex201 (⟨by decide, by decide⟩ : In 54 54 54) hb95 (by decide) (by decide)
          refine lv_aload_n hx hb dX11_laysDown_113 rfl (lv_at hl 0 rfl) ?_
          refine pl_get (v := .ref (ad 266)) hx hb hts (fun w h => mT (inX11 w h)) hown hG.1 hP (hst.1 255 (by decide)) hf194 rfl 31 (by decide) (hts _ (mT wg_1367)) (fun _ h => h) rfl dX11_laysDown_114 ?_
          refine lv_iload_n hx hb dX11_laysDown_117 rfl (lv_at hl 1 rfl) ?_
          have hT := TI.updM hT hst (k := 16) (by decide) hf190 ho191 ⟨r192, rfl, (fun q => absurd (show (72 : Int) < 0 from q) (by decide)), hc193⟩
          obtain ⟨rw204, hf205⟩ := hT.2.2 11 (by decide)
          have hin206 : vp_in y2_l1 9 := In.inb hb95 (by decide) (by decide)
          refine pl_iald hx hb hG.1 hP (hst.1 266 (by decide)) 0 hf205 rfl hin206 dX11_laysDown_118 ?_
          refine lv_topi (fun x207 ex207 => ?_)
          refine pl_iastE hx hb hG.1 hP hD hS (hst.1 271 (by decide)) 0 hf190 rfl (In.inb hb202 (by decide) (by decide)) dX11_laysDown_119 (fun H locs f208 r211 er211 hf209 ho210 hP hD hS => ?_)
          have hc212 : PRW 2126 (0) (th 20) (th 21) r211 := prw_0 (by decide)
          have hf213 := (ho210 (ad 255) (hst.ne (by decide) (by decide) (by decide))).trans hf194
          have hf214 := (ho210 (ad 261) (hst.ne (by decide) (by decide) (by decide))).trans hf195
          have hf215 := (ho210 (ad 262) (hst.ne (by decide) (by decide) (by decide))).trans hf196
          have hf216 := (ho210 (ad 263) (hst.ne (by decide) (by decide) (by decide))).trans hf197
          have hf217 := (ho210 (ad 269) (hst.ne (by decide) (by decide) (by decide))).trans hf198
          have hf218 := (ho210 (ad 264) (hst.ne (by decide) (by decide) (by decide))).trans hf199
          have hf219 := (ho210 (ad 265) (hst.ne (by decide) (by decide) (by decide))).trans hf200
          have hf220 := (ho210 (ad 266) (hst.ne (by decide) (by decide) (by decide))).trans hf205
          have hfr : (∀ b, b ≠ (ad 255) → b ≠ (ad 271) → f208 b = f b) := fun b z0_ z1_ => (ho210 b z1_).trans (hfr b z0_ z1_)
          refine lv_aload_n hx hb dX11_laysDown_120 rfl (lv_at hl 0 rfl) ?_
          refine pl_get (v := .ref (ad 271)) hx hb hts (fun w h => mT (inX11 w h)) hown hG.1 hP (hst.1 255 (by decide)) hf213 rfl 41 (by decide) (hts _ (mT wg_1377)) (fun _ h => h) rfl dX11_laysDown_121 ?_
          refine lv_bipush (v := 63) hx hb dX11_laysDown_124 (by decide) ?_
          refine lv_iload_n hx hb dX11_laysDown_126 rfl (lv_at hl 1 rfl) ?_
          refine lv_iadd hx hb dX11_laysDown_127 ?_
          refine lv_topi (fun x221 ex221 => ?_)
          have hb222 : In x221 63 71 := ex221 ▸ In.add (⟨by decide, by decide⟩ : In 63 63 63) hb95 (by decide) (by decide) (by decide) (by decide)
          have et223 : x221.toInt = (63 : Int32).toInt + y2_l1.toInt := In.add2e ex221 (⟨by decide, by decide⟩ : In 63 63 63) hb95 (by decide) (by decide)
          refine lv_aload_n hx hb dX11_laysDown_128 rfl (lv_at hl 0 rfl) ?_
          refine pl_get (v := .ref (ad 267)) hx hb hts (fun w h => mT (inX11 w h)) hown hG.1 hP (hst.1 255 (by decide)) hf213 rfl 32 (by decide) (hts _ (mT wg_1368)) (fun _ h => h) rfl dX11_laysDown_129 ?_
          refine lv_iload_n hx hb dX11_laysDown_132 rfl (lv_at hl 1 rfl) ?_
          have hT := TI.updM hT hst (k := 16) (by decide) hf209 ho210 ⟨r211, rfl, (fun q => absurd (show (72 : Int) < 0 from q) (by decide)), hc212⟩
          obtain ⟨rw224, hf225⟩ := hT.2.2 12 (by decide)
          have hin226 : vp_in y2_l1 9 := In.inb hb95 (by decide) (by decide)
          refine pl_iald hx hb hG.1 hP (hst.1 267 (by decide)) 0 hf225 rfl hin226 dX11_laysDown_133 ?_
          refine lv_topi (fun x227 ex227 => ?_)
          refine pl_iastE hx hb hG.1 hP hD hS (hst.1 271 (by decide)) 0 hf209 rfl (In.inb hb222 (by decide) (by decide)) dX11_laysDown_134 (fun H locs f228 r231 er231 hf229 ho230 hP hD hS => ?_)
          have hc232 : PRW 2126 (0) (th 20) (th 21) r231 := prw_0 (by decide)
          have hf233 := (ho230 (ad 255) (hst.ne (by decide) (by decide) (by decide))).trans hf213
          have hf234 := (ho230 (ad 261) (hst.ne (by decide) (by decide) (by decide))).trans hf214
          have hf235 := (ho230 (ad 262) (hst.ne (by decide) (by decide) (by decide))).trans hf215
          have hf236 := (ho230 (ad 263) (hst.ne (by decide) (by decide) (by decide))).trans hf216
          have hf237 := (ho230 (ad 269) (hst.ne (by decide) (by decide) (by decide))).trans hf217
          have hf238 := (ho230 (ad 264) (hst.ne (by decide) (by decide) (by decide))).trans hf218
          have hf239 := (ho230 (ad 265) (hst.ne (by decide) (by decide) (by decide))).trans hf219
          have hf240 := (ho230 (ad 266) (hst.ne (by decide) (by decide) (by decide))).trans hf220
          have hf241 := (ho230 (ad 267) (hst.ne (by decide) (by decide) (by decide))).trans hf225
          have hfr : (∀ b, b ≠ (ad 255) → b ≠ (ad 271) → f228 b = f b) := fun b z0_ z1_ => (ho230 b z1_).trans (hfr b z0_ z1_)
          obtain ⟨x242, ex242⟩ : ∃ y : Int32, y = y2_l1 + 1 := ⟨_, rfl⟩
          have hb243 : In x242 1 9 := ex242 ▸ In.add hb95 (⟨by decide, by decide⟩ : In 1 1 1) (by decide) (by decide) (by decide) (by decide)
          have et244 : x242.toInt = y2_l1.toInt + 1 := In.adde ex242 hb95 (k := 1) (by decide) (by decide) (by decide)
          refine lv_iinc (v := x242) (lv' := [(1, .int x242), (0, .ref (ad 255))]) hx hb dX11_laysDown_135 hl (k := 1) rfl (by rw [ex242]; rfl) (by decide) rfl (fun ls hl => ?_)
          have hT := TI.updM hT hst (k := 16) (by decide) hf229 ho230 ⟨r231, rfl, (fun q => absurd (show (72 : Int) < 0 from q) (by decide)), hc232⟩
          refine lv_goto (tgt := 2) hx hb dX11_laysDown_138 (by decide) ?_
          exact ih2 x242 _ _ _ _ (In.mono hb243 (by decide) (by decide)) hP hD hS hT hfr (lv_sub hl [1, 0] rfl) (msu et244 (by decide) hmz2)
        refine lv_if_eq (tgt := 73) hx hb dX11_laysDown_66 (by decide) (fun c245 => ?_) (fun c245 => ?_)
        ·
          have oc0 : (0 : Int32).toInt = 0 := by decide
          have cc246 : x153.toInt = (0 : Int32).toInt := congrArg Int32.toInt c245
          have hb247 : In x153 0 0 := In.eq1 (In.full x153) (⟨by decide, by decide⟩ : In 0 0 0) cc246 (by decide) (by decide)
          refine lv_iconst (v := 0) hx hb dX11_laysDown_73 (by decide) ?_
          exact hJ74 0 _ _ _ (⟨by decide, by decide⟩ : In 0 0 1) hP hD hS (lv_sub hl [0, 1] rfl)
        ·
          have oc0 : (0 : Int32).toInt = 0 := by decide
          have cc248 : x153.toInt ≠ (0 : Int32).toInt := i32_ne c245
          refine lv_iconst (v := 1) hx hb dX11_laysDown_69 (by decide) ?_
          refine lv_goto (tgt := 74) hx hb dX11_laysDown_70 (by decide) ?_
          exact hJ74 1 _ _ _ (⟨by decide, by decide⟩ : In 1 0 1) hP hD hS (lv_sub hl [0, 1] rfl)
  exact hJ2 ((9 - (0 : Int32).toInt).toNat + 1) 0 _ _ _ _ (⟨by decide, by decide⟩ : In 0 0 9) hP hD hS hT hfr (lv_sub hl [1, 0] rfl) (msI _)

abbrev rm_X11_takesUp : Room := { frames := 0, cells := 0, slots := 0, locals := 0 }
abbrev po_X11_takesUp (g : GG) (ad : Nat → Nat) (th : Nat → Int) (L : List Nat) (f : HP)  : (List Nat × HP) → Prop := fun u => u.1 = L ∧ (∃ zg zl zd : Int, (((zg = th 19 ∧ 0 ≤ zg ∧ zg ≤ th 20) ∧ (0 ≤ zl ∧ zl ≤ 511)) ∧ capI zl (th 11)) ∧ TI g ad (gset (gset (gset th 18 zg) 14 zl) 44 zd) u.2) ∧ (∀ b, b ≠ (ad 255) → b ≠ (ad 265) → b ≠ (ad 266) → b ≠ (ad 267) → b ≠ (ad 269) → b ≠ (ad 260) → b ≠ (ad 261) → b ≠ (ad 262) → b ≠ (ad 263) → b ≠ (ad 264) → u.2 b = f b)
set_option maxHeartbeats 4000000 in
set_option maxRecDepth 100000 in
theorem s_X11_takesUp (l : Launch) (g : GG) (ad : Nat → Nat) (th : Nat → Int) (L : List Nat) (f : HP) (sz : Nat)  (hst : ST ad L) (hT : TI g ad th f) (hv : th 22 = 2126) (h20 : th 20 ≤ 18) (h21 : th 21 = th 11) : MtV l g yX11_takesUp cX11_takesUp 2 rm_X11_takesUp [.ref (ad 255)] L f sz (po_X11_takesUp g ad th L f ) := by
  refine MtV.of (by decide +kernel) (Nat.le_of_ble_eq_true rfl) ?_
  intro p e s m below meth c A hEn hP hD hS ls hl
  obtain ⟨hx, hb, hr, hml, hown, hlocks, hts, hG, hA, hE, hnm⟩ := hEn
  have hown : s.vm.findClass "RulerWordModel" = some m.cls := hown
  have hl : lv_has ls 2 [(0, .ref (ad 255))] := hl
  have hfr : (∀ b, b ≠ (ad 255) → b ≠ (ad 265) → b ≠ (ad 266) → b ≠ (ad 267) → b ≠ (ad 269) → b ≠ (ad 260) → b ≠ (ad 261) → b ≠ (ad 262) → b ≠ (ad 263) → b ≠ (ad 264) → f b = f b) := fun b z0_ z1_ z2_ z3_ z4_ z5_ z6_ z7_ z8_ z9_ => rfl
  refine lv_iconst (v := 0) hx hb dX11_takesUp_0 (by decide) ?_
  refine lv_istore_n (lv' := [(1, .int 0), (0, .ref (ad 255))]) hx hb dX11_takesUp_1 rfl hl (by decide) rfl (fun ls hl => ?_)
  have hJ2 : ∀ (k2 : Nat) (y2_l1 : Int32) (f_2 : HP) (H : Heap) (locs : List Loc) (ls : Array Slot), In y2_l1 0 9 → va_P g.1 vwCl (va_pl L f_2) H → va_D A (va_pl L f_2) → va_S A s.heap H locs → TI g ad th f_2 → (∀ b, b ≠ (ad 255) → b ≠ (ad 265) → b ≠ (ad 266) → b ≠ (ad 267) → b ≠ (ad 269) → b ≠ (ad 260) → b ≠ (ad 261) → b ≠ (ad 262) → b ≠ (ad 263) → b ≠ (ad 264) → f_2 b = f b) → lv_has ls 2 [(0, .ref (ad 255)), (1, .int y2_l1)] → 9 - y2_l1.toInt < ((k2 : Nat) : Int) → W p l e rm_X11_takesUp s m [.ref (ad 255)].toArray below meth c H locs 0 0 (MQ below (va_Qv (po_X11_takesUp g ad th L f ) (PstB g A) A) [.ref (ad 255)].toArray s rm_X11_takesUp.cells rm_X11_takesUp.slots A) (F0 m 2 ls []) := by
    intro k2
    induction k2 with
    | zero =>
      intro y2_l1 f_2 H locs ls hy2_l1 hP hD hS hT hfr hl hmz2
      exact ms0 hy2_l1 hmz2
    | succ k2 ih2 =>
      intro y2_l1 f_2 H locs ls hy2_l1 hP hD hS hT hfr hl hmz2
      refine lv_iload_n hx hb dX11_takesUp_2 rfl (lv_at hl 1 rfl) ?_
      refine lv_bipush (v := 9) hx hb dX11_takesUp_3 (by decide) ?_
      refine lv_icmp_ge (tgt := 142) hx hb dX11_takesUp_5 (by decide) (fun c1 => ?_) (fun c1 => ?_)
      ·
        have oc9 : (9 : Int32).toInt = 9 := by decide
        have cc2 : (9 : Int32).toInt ≤ y2_l1.toInt := i32_le.mp c1
        have hb3 : In y2_l1 9 9 := In.ge1 hy2_l1 (⟨by decide, by decide⟩ : In 9 9 9) cc2 (by decide) (by decide)
        refine lv_aload_n hx hb dX11_takesUp_142 rfl (lv_at hl 0 rfl) ?_
        refine lv_aload_n hx hb dX11_takesUp_143 rfl (lv_at hl 0 rfl) ?_
        refine M0e hT (fun v0_4 v2_4 v3_4 v4_4 v5_4 v6_4 v8_4 v9_4 v12_4 v13_4 v14_4 v15_4 v16_4 v17_4 v18_4 v19_4 v20_4 v21_4 v22_4 v23_4 v25_4 v36_4 v37_4 v38_4 v39_4 v40_4 v45_4 v46_4 v47_4 v48_4 v50_4 v51_4 v53_4 v55_4 hf5 hv0_4 hv2_4 hg2_4 hv3_4 hg3_4 hv4_4 hg4_4 hv5_4 hg5_4 hv6_4 hg6_4 hv8_4 hg8_4 hv9_4 hg9_4 hv12_4 hv13_4 hg13_4 hv14_4 hg14_4 hv15_4 hg15_4 hv17_4 hg17_4 hv20_4 hg20_4 hv23_4 hg23_4 hv25_4 hg25_4 hv36_4 hg36_4 hv47_4 hg47_4 hv48_4 hg48_4 hv53_4 hg53_4 hv55_4 hg55_4 hrel0_4 => ?_)
        have hg15_4 : v15_4.toInt = th 11 := hg15_4
        have hg17_4 : v17_4.toInt = th 12 := hg17_4
        have hg20_4 : v20_4.toInt = th 14 := hg20_4
        refine pl_get (v := .ref (ad 271)) hx hb hts (fun w h => mT (inX11 w h)) hown hG.1 hP (hst.1 255 (by decide)) hf5 rfl 41 (by decide) (hts _ (mT wg_1377)) (fun _ h => h) rfl dX11_takesUp_144 ?_
        refine lv_bipush (v := 72) hx hb dX11_takesUp_147 (by decide) ?_
        obtain ⟨rw6, hf7, hpi9, hc8⟩ := hT.2.2 16 (by decide)
        have hc8 : PRW 2126 (th 22) (th 20) (th 21) rw6 := hc8
        have hpi9 : ((72 : Int) < (th 22) → (rw6 72).toInt = th 19) := hpi9
        have hin10 : vp_in 72 2126 := In.inb (⟨by decide, by decide⟩ : In 72 72 72) (by decide) (by decide)
        refine pl_iald hx hb hG.1 hP (hst.1 271 (by decide)) 0 hf7 rfl hin10 dX11_takesUp_149 ?_
        refine lv_topi (fun x11 ex11 => ?_)
        have hpd12 : PRED (th 20) (th 21) 72 x11 := by rw [ex11]; exact prw_at (k := 72) hc8 (by decide) (by decide) (by omega) (by decide)
        have hb13 : In x11 0 18 := ⟨(hpd12.1 rfl).1, Int.le_trans (hpd12.1 rfl).2 (by omega)⟩
        have hgl14 : x11.toInt = th 19 := by rw [ex11]; exact pinE (k := 72) (by decide) (hpi9 (by omega))
        have hpd12b := (hpd12.1 rfl).2
        refine pl_put (ty := .int) (v := .int x11) (fs' := [.int v0_4, .ref (ad 256), .int v2_4, .int v3_4, .int v4_4, .int v5_4, .int v6_4, .ref (ad 257), .int v8_4, .int v9_4, .ref (ad 258), .ref (ad 259), .int v12_4, .int v13_4, .int v14_4, .int v15_4, .int v16_4, .int v17_4, .int v18_4, .int v19_4, .int v20_4, .long v21_4, .long v22_4, .int v23_4, .ref (ad 260), .int v25_4, .ref (ad 261), .ref (ad 262), .ref (ad 263), .ref (ad 264), .ref (ad 265), .ref (ad 266), .ref (ad 267), .ref (ad 268), .ref (ad 269), .ref (ad 270), .int x11, .int v37_4, .int v38_4, .int v39_4, .int v40_4, .ref (ad 271), .ref (ad 272), .ref (ad 273), .ref (ad 274), .long v45_4, .long v46_4, .int v47_4, .int v48_4, .ref (ad 275), .int v50_4, .int v51_4, .ref (ad 276), .int v53_4, .ref (ad 277), .int v55_4]) hx hb hts (fun w h => mT (inX11 w h)) tyX11 tyX11_ok nmX11 hown hG.1 hP hD hS (hst.1 255 (by decide)) hf5 rfl 36 (by decide) (hts _ (mT wg_1372)) (fun _ h => h) rfl (by decide +kernel) (rfl) (rfl) (Nat.le_of_ble_eq_true rfl) rfl dX11_takesUp_150 (fun H locs f15 hf16 ho17 hP hD hS => ?_)
        have hf18 := (ho17 (ad 271) (hst.ne (by decide) (by decide) (by decide))).trans hf7
        have hfr : (∀ b, b ≠ (ad 255) → b ≠ (ad 265) → b ≠ (ad 266) → b ≠ (ad 267) → b ≠ (ad 269) → b ≠ (ad 260) → b ≠ (ad 261) → b ≠ (ad 262) → b ≠ (ad 263) → b ≠ (ad 264) → f15 b = f b) := fun b z0_ z1_ z2_ z3_ z4_ z5_ z6_ z7_ z8_ z9_ => (ho17 b z0_).trans (hfr b z0_ z1_ z2_ z3_ z4_ z5_ z6_ z7_ z8_ z9_)
        refine lv_aload_n hx hb dX11_takesUp_153 rfl (lv_at hl 0 rfl) ?_
        refine lv_aload_n hx hb dX11_takesUp_154 rfl (lv_at hl 0 rfl) ?_
        refine pl_get (v := .ref (ad 271)) hx hb hts (fun w h => mT (inX11 w h)) hown hG.1 hP (hst.1 255 (by decide)) hf16 rfl 41 (by decide) (hts _ (mT wg_1377)) (fun _ h => h) rfl dX11_takesUp_155 ?_
        refine lv_bipush (v := 73) hx hb dX11_takesUp_158 (by decide) ?_
        have hin19 : vp_in 73 2126 := In.inb (⟨by decide, by decide⟩ : In 73 73 73) (by decide) (by decide)
        refine pl_iald hx hb hG.1 hP (hst.1 271 (by decide)) 0 hf18 rfl hin19 dX11_takesUp_160 ?_
        refine lv_topi (fun x20 ex20 => ?_)
        refine pl_put (ty := .int) (v := .int x20) (fs' := [.int v0_4, .ref (ad 256), .int v2_4, .int v3_4, .int v4_4, .int v5_4, .int v6_4, .ref (ad 257), .int v8_4, .int v9_4, .ref (ad 258), .ref (ad 259), .int v12_4, .int v13_4, .int v14_4, .int v15_4, .int v16_4, .int v17_4, .int v18_4, .int v19_4, .int v20_4, .long v21_4, .long v22_4, .int v23_4, .ref (ad 260), .int v25_4, .ref (ad 261), .ref (ad 262), .ref (ad 263), .ref (ad 264), .ref (ad 265), .ref (ad 266), .ref (ad 267), .ref (ad 268), .ref (ad 269), .ref (ad 270), .int x11, .int x20, .int v38_4, .int v39_4, .int v40_4, .ref (ad 271), .ref (ad 272), .ref (ad 273), .ref (ad 274), .long v45_4, .long v46_4, .int v47_4, .int v48_4, .ref (ad 275), .int v50_4, .int v51_4, .ref (ad 276), .int v53_4, .ref (ad 277), .int v55_4]) hx hb hts (fun w h => mT (inX11 w h)) tyX11 tyX11_ok nmX11 hown hG.1 hP hD hS (hst.1 255 (by decide)) hf16 rfl 37 (by decide) (hts _ (mT wg_1373)) (fun _ h => h) rfl (by decide +kernel) (rfl) (rfl) (Nat.le_of_ble_eq_true rfl) rfl dX11_takesUp_161 (fun H locs f21 hf22 ho23 hP hD hS => ?_)
        have hf24 := (ho23 (ad 271) (hst.ne (by decide) (by decide) (by decide))).trans hf18
        have ho25 : ∀ b, b ≠ (ad 255) → f21 b = _ := fun b hb => (ho23 b hb).trans (ho17 b hb)
        have hfr : (∀ b, b ≠ (ad 255) → b ≠ (ad 265) → b ≠ (ad 266) → b ≠ (ad 267) → b ≠ (ad 269) → b ≠ (ad 260) → b ≠ (ad 261) → b ≠ (ad 262) → b ≠ (ad 263) → b ≠ (ad 264) → f21 b = f b) := fun b z0_ z1_ z2_ z3_ z4_ z5_ z6_ z7_ z8_ z9_ => (ho23 b z0_).trans (hfr b z0_ z1_ z2_ z3_ z4_ z5_ z6_ z7_ z8_ z9_)
        refine lv_aload_n hx hb dX11_takesUp_164 rfl (lv_at hl 0 rfl) ?_
        refine lv_aload_n hx hb dX11_takesUp_165 rfl (lv_at hl 0 rfl) ?_
        refine pl_get (v := .ref (ad 271)) hx hb hts (fun w h => mT (inX11 w h)) hown hG.1 hP (hst.1 255 (by decide)) hf22 rfl 41 (by decide) (hts _ (mT wg_1377)) (fun _ h => h) rfl dX11_takesUp_166 ?_
        refine lv_bipush (v := 74) hx hb dX11_takesUp_169 (by decide) ?_
        have hin26 : vp_in 74 2126 := In.inb (⟨by decide, by decide⟩ : In 74 74 74) (by decide) (by decide)
        refine pl_iald hx hb hG.1 hP (hst.1 271 (by decide)) 0 hf24 rfl hin26 dX11_takesUp_171 ?_
        refine lv_topi (fun x27 ex27 => ?_)
        refine pl_put (ty := .int) (v := .int x27) (fs' := [.int v0_4, .ref (ad 256), .int v2_4, .int v3_4, .int v4_4, .int v5_4, .int v6_4, .ref (ad 257), .int v8_4, .int v9_4, .ref (ad 258), .ref (ad 259), .int v12_4, .int v13_4, .int v14_4, .int v15_4, .int v16_4, .int v17_4, .int v18_4, .int v19_4, .int v20_4, .long v21_4, .long v22_4, .int v23_4, .ref (ad 260), .int v25_4, .ref (ad 261), .ref (ad 262), .ref (ad 263), .ref (ad 264), .ref (ad 265), .ref (ad 266), .ref (ad 267), .ref (ad 268), .ref (ad 269), .ref (ad 270), .int x11, .int x20, .int x27, .int v39_4, .int v40_4, .ref (ad 271), .ref (ad 272), .ref (ad 273), .ref (ad 274), .long v45_4, .long v46_4, .int v47_4, .int v48_4, .ref (ad 275), .int v50_4, .int v51_4, .ref (ad 276), .int v53_4, .ref (ad 277), .int v55_4]) hx hb hts (fun w h => mT (inX11 w h)) tyX11 tyX11_ok nmX11 hown hG.1 hP hD hS (hst.1 255 (by decide)) hf22 rfl 38 (by decide) (hts _ (mT wg_1374)) (fun _ h => h) rfl (by decide +kernel) (rfl) (rfl) (Nat.le_of_ble_eq_true rfl) rfl dX11_takesUp_172 (fun H locs f28 hf29 ho30 hP hD hS => ?_)
        have hf31 := (ho30 (ad 271) (hst.ne (by decide) (by decide) (by decide))).trans hf24
        have ho32 : ∀ b, b ≠ (ad 255) → f28 b = _ := fun b hb => (ho30 b hb).trans (ho25 b hb)
        have hfr : (∀ b, b ≠ (ad 255) → b ≠ (ad 265) → b ≠ (ad 266) → b ≠ (ad 267) → b ≠ (ad 269) → b ≠ (ad 260) → b ≠ (ad 261) → b ≠ (ad 262) → b ≠ (ad 263) → b ≠ (ad 264) → f28 b = f b) := fun b z0_ z1_ z2_ z3_ z4_ z5_ z6_ z7_ z8_ z9_ => (ho30 b z0_).trans (hfr b z0_ z1_ z2_ z3_ z4_ z5_ z6_ z7_ z8_ z9_)
        refine lv_aload_n hx hb dX11_takesUp_175 rfl (lv_at hl 0 rfl) ?_
        refine lv_aload_n hx hb dX11_takesUp_176 rfl (lv_at hl 0 rfl) ?_
        refine pl_get (v := .ref (ad 271)) hx hb hts (fun w h => mT (inX11 w h)) hown hG.1 hP (hst.1 255 (by decide)) hf29 rfl 41 (by decide) (hts _ (mT wg_1377)) (fun _ h => h) rfl dX11_takesUp_177 ?_
        refine lv_bipush (v := 75) hx hb dX11_takesUp_180 (by decide) ?_
        have hin33 : vp_in 75 2126 := In.inb (⟨by decide, by decide⟩ : In 75 75 75) (by decide) (by decide)
        refine pl_iald hx hb hG.1 hP (hst.1 271 (by decide)) 0 hf31 rfl hin33 dX11_takesUp_182 ?_
        refine lv_topi (fun x34 ex34 => ?_)
        refine pl_put (ty := .int) (v := .int x34) (fs' := [.int v0_4, .ref (ad 256), .int v2_4, .int v3_4, .int v4_4, .int v5_4, .int v6_4, .ref (ad 257), .int v8_4, .int v9_4, .ref (ad 258), .ref (ad 259), .int v12_4, .int v13_4, .int v14_4, .int v15_4, .int v16_4, .int v17_4, .int v18_4, .int x34, .int v20_4, .long v21_4, .long v22_4, .int v23_4, .ref (ad 260), .int v25_4, .ref (ad 261), .ref (ad 262), .ref (ad 263), .ref (ad 264), .ref (ad 265), .ref (ad 266), .ref (ad 267), .ref (ad 268), .ref (ad 269), .ref (ad 270), .int x11, .int x20, .int x27, .int v39_4, .int v40_4, .ref (ad 271), .ref (ad 272), .ref (ad 273), .ref (ad 274), .long v45_4, .long v46_4, .int v47_4, .int v48_4, .ref (ad 275), .int v50_4, .int v51_4, .ref (ad 276), .int v53_4, .ref (ad 277), .int v55_4]) hx hb hts (fun w h => mT (inX11 w h)) tyX11 tyX11_ok nmX11 hown hG.1 hP hD hS (hst.1 255 (by decide)) hf29 rfl 19 (by decide) (hts _ (mT wg_1355)) (fun _ h => h) rfl (by decide +kernel) (rfl) (rfl) (Nat.le_of_ble_eq_true rfl) rfl dX11_takesUp_183 (fun H locs f35 hf36 ho37 hP hD hS => ?_)
        have hf38 := (ho37 (ad 271) (hst.ne (by decide) (by decide) (by decide))).trans hf31
        have ho39 : ∀ b, b ≠ (ad 255) → f35 b = _ := fun b hb => (ho37 b hb).trans (ho32 b hb)
        have hfr : (∀ b, b ≠ (ad 255) → b ≠ (ad 265) → b ≠ (ad 266) → b ≠ (ad 267) → b ≠ (ad 269) → b ≠ (ad 260) → b ≠ (ad 261) → b ≠ (ad 262) → b ≠ (ad 263) → b ≠ (ad 264) → f35 b = f b) := fun b z0_ z1_ z2_ z3_ z4_ z5_ z6_ z7_ z8_ z9_ => (ho37 b z0_).trans (hfr b z0_ z1_ z2_ z3_ z4_ z5_ z6_ z7_ z8_ z9_)
        refine lv_aload_n hx hb dX11_takesUp_186 rfl (lv_at hl 0 rfl) ?_
        refine lv_aload_n hx hb dX11_takesUp_187 rfl (lv_at hl 0 rfl) ?_
        refine pl_get (v := .ref (ad 271)) hx hb hts (fun w h => mT (inX11 w h)) hown hG.1 hP (hst.1 255 (by decide)) hf36 rfl 41 (by decide) (hts _ (mT wg_1377)) (fun _ h => h) rfl dX11_takesUp_188 ?_
        refine lv_bipush (v := 76) hx hb dX11_takesUp_191 (by decide) ?_
        have hin40 : vp_in 76 2126 := In.inb (⟨by decide, by decide⟩ : In 76 76 76) (by decide) (by decide)
        refine pl_iald hx hb hG.1 hP (hst.1 271 (by decide)) 0 hf38 rfl hin40 dX11_takesUp_193 ?_
        refine lv_topi (fun x41 ex41 => ?_)
        have hpd42 : PRED (th 20) (th 21) 76 x41 := by rw [ex41]; exact prw_at (k := 76) hc8 (by decide) (by decide) (by omega) (by decide)
        have hb43 : In x41 0 511 := (hpd42.2.1 rfl).1
        refine pl_put (ty := .int) (v := .int x41) (fs' := [.int v0_4, .ref (ad 256), .int v2_4, .int v3_4, .int v4_4, .int v5_4, .int v6_4, .ref (ad 257), .int v8_4, .int v9_4, .ref (ad 258), .ref (ad 259), .int v12_4, .int v13_4, .int v14_4, .int v15_4, .int v16_4, .int v17_4, .int v18_4, .int x34, .int x41, .long v21_4, .long v22_4, .int v23_4, .ref (ad 260), .int v25_4, .ref (ad 261), .ref (ad 262), .ref (ad 263), .ref (ad 264), .ref (ad 265), .ref (ad 266), .ref (ad 267), .ref (ad 268), .ref (ad 269), .ref (ad 270), .int x11, .int x20, .int x27, .int v39_4, .int v40_4, .ref (ad 271), .ref (ad 272), .ref (ad 273), .ref (ad 274), .long v45_4, .long v46_4, .int v47_4, .int v48_4, .ref (ad 275), .int v50_4, .int v51_4, .ref (ad 276), .int v53_4, .ref (ad 277), .int v55_4]) hx hb hts (fun w h => mT (inX11 w h)) tyX11 tyX11_ok nmX11 hown hG.1 hP hD hS (hst.1 255 (by decide)) hf36 rfl 20 (by decide) (hts _ (mT wg_1356)) (fun _ h => h) rfl (by decide +kernel) (rfl) (rfl) (Nat.le_of_ble_eq_true rfl) rfl dX11_takesUp_194 (fun H locs f44 hf45 ho46 hP hD hS => ?_)
        have hf47 := (ho46 (ad 271) (hst.ne (by decide) (by decide) (by decide))).trans hf38
        have ho48 : ∀ b, b ≠ (ad 255) → f44 b = _ := fun b hb => (ho46 b hb).trans (ho39 b hb)
        have hfr : (∀ b, b ≠ (ad 255) → b ≠ (ad 265) → b ≠ (ad 266) → b ≠ (ad 267) → b ≠ (ad 269) → b ≠ (ad 260) → b ≠ (ad 261) → b ≠ (ad 262) → b ≠ (ad 263) → b ≠ (ad 264) → f44 b = f b) := fun b z0_ z1_ z2_ z3_ z4_ z5_ z6_ z7_ z8_ z9_ => (ho46 b z0_).trans (hfr b z0_ z1_ z2_ z3_ z4_ z5_ z6_ z7_ z8_ z9_)
        refine lv_aload_n hx hb dX11_takesUp_197 rfl (lv_at hl 0 rfl) ?_
        refine lv_aload_n hx hb dX11_takesUp_198 rfl (lv_at hl 0 rfl) ?_
        refine pl_get (v := .ref (ad 271)) hx hb hts (fun w h => mT (inX11 w h)) hown hG.1 hP (hst.1 255 (by decide)) hf45 rfl 41 (by decide) (hts _ (mT wg_1377)) (fun _ h => h) rfl dX11_takesUp_199 ?_
        refine lv_bipush (v := 77) hx hb dX11_takesUp_202 (by decide) ?_
        have hin49 : vp_in 77 2126 := In.inb (⟨by decide, by decide⟩ : In 77 77 77) (by decide) (by decide)
        refine pl_iald hx hb hG.1 hP (hst.1 271 (by decide)) 0 hf47 rfl hin49 dX11_takesUp_204 ?_
        refine lv_topi (fun x50 ex50 => ?_)
        have hpd51 : PRED (th 20) (th 21) 77 x50 := by rw [ex50]; exact prw_at (k := 77) hc8 (by decide) (by decide) (by omega) (by decide)
        have hb52 : In x50 0 30 := hpd51.2.2 rfl
        refine pl_put (ty := .int) (v := .int x50) (fs' := [.int v0_4, .ref (ad 256), .int v2_4, .int v3_4, .int v4_4, .int v5_4, .int v6_4, .ref (ad 257), .int v8_4, .int v9_4, .ref (ad 258), .ref (ad 259), .int v12_4, .int v13_4, .int v14_4, .int v15_4, .int v16_4, .int v17_4, .int v18_4, .int x34, .int x41, .long v21_4, .long v22_4, .int v23_4, .ref (ad 260), .int x50, .ref (ad 261), .ref (ad 262), .ref (ad 263), .ref (ad 264), .ref (ad 265), .ref (ad 266), .ref (ad 267), .ref (ad 268), .ref (ad 269), .ref (ad 270), .int x11, .int x20, .int x27, .int v39_4, .int v40_4, .ref (ad 271), .ref (ad 272), .ref (ad 273), .ref (ad 274), .long v45_4, .long v46_4, .int v47_4, .int v48_4, .ref (ad 275), .int v50_4, .int v51_4, .ref (ad 276), .int v53_4, .ref (ad 277), .int v55_4]) hx hb hts (fun w h => mT (inX11 w h)) tyX11 tyX11_ok nmX11 hown hG.1 hP hD hS (hst.1 255 (by decide)) hf45 rfl 25 (by decide) (hts _ (mT wg_1361)) (fun _ h => h) rfl (by decide +kernel) (rfl) (rfl) (Nat.le_of_ble_eq_true rfl) rfl dX11_takesUp_205 (fun H locs f53 hf54 ho55 hP hD hS => ?_)
        have hf56 := (ho55 (ad 271) (hst.ne (by decide) (by decide) (by decide))).trans hf47
        have ho57 : ∀ b, b ≠ (ad 255) → f53 b = _ := fun b hb => (ho55 b hb).trans (ho48 b hb)
        have hfr : (∀ b, b ≠ (ad 255) → b ≠ (ad 265) → b ≠ (ad 266) → b ≠ (ad 267) → b ≠ (ad 269) → b ≠ (ad 260) → b ≠ (ad 261) → b ≠ (ad 262) → b ≠ (ad 263) → b ≠ (ad 264) → f53 b = f b) := fun b z0_ z1_ z2_ z3_ z4_ z5_ z6_ z7_ z8_ z9_ => (ho55 b z0_).trans (hfr b z0_ z1_ z2_ z3_ z4_ z5_ z6_ z7_ z8_ z9_)
        refine lv_iconst (v := 0) hx hb dX11_takesUp_208 (by decide) ?_
        refine lv_istore_n (lv' := [(1, .int 0), (0, .ref (ad 255))]) hx hb dX11_takesUp_209 rfl hl (by decide) rfl (fun ls hl => ?_)
        have hT := TI.updMG (th' := (gset (gset (gset th 14 (x41.toInt)) 44 (x50.toInt)) 18 (x11.toInt))) hT hst (k := 0) (by decide) hf54 ho57 ⟨v0_4, v2_4, v3_4, v4_4, v5_4, v6_4, v8_4, v9_4, v12_4, v13_4, v14_4, v15_4, v16_4, v17_4, v18_4, x34, x41, v21_4, v22_4, v23_4, x50, x11, x20, x27, v39_4, v40_4, v45_4, v46_4, v47_4, v48_4, v50_4, v51_4, v53_4, v55_4, rfl, hv0_4, hv2_4, hg2_4, hv3_4, hg3_4, hv4_4, hg4_4, hv5_4, hg5_4, hv6_4, hg6_4, hv8_4, hg8_4, hv9_4, hg9_4, hv12_4, hv13_4, hg13_4, hv14_4, hg14_4, hv15_4, hg15_4, hv17_4, hg17_4, hb43, rfl, hv23_4, hg23_4, hb52, rfl, hb13, rfl, hv47_4, hg47_4, hv48_4, hg48_4, hv53_4, hg53_4, hv55_4, hg55_4, (capM2 (hpd42.2.1 rfl).2 hg15_4 h21)⟩ (fun q hq => ((gset_ne (fun e => hq (by subst e; decide))).trans ((gset_ne (fun e => hq (by subst e; decide))).trans ((gset_ne (fun e => hq (by subst e; decide))).trans rfl))))
        have hT : TI g ad (gset (gset (gset th 14 x41.toInt) 44 x50.toInt) 18 x11.toInt) f53 := TI.cast hT (by funext q; by_cases hq0 : q = 18; (subst hq0; simp [gset]); by_cases hq1 : q = 44; (subst hq1; simp [gset]); by_cases hq2 : q = 14; (subst hq2; simp [gset]); simp only [gset, if_neg hq0, if_neg hq1, if_neg hq2])
        have hJ210 : ∀ (k210 : Nat) (y210_l1 : Int32) (f_210 : HP) (H : Heap) (locs : List Loc) (ls : Array Slot), In y210_l1 0 2147483647 → va_P g.1 vwCl (va_pl L f_210) H → va_D A (va_pl L f_210) → va_S A s.heap H locs → TI g ad (gset (gset (gset th 14 x41.toInt) 44 x50.toInt) 18 x11.toInt) f_210 → (∀ b, b ≠ (ad 255) → b ≠ (ad 265) → b ≠ (ad 266) → b ≠ (ad 267) → b ≠ (ad 269) → b ≠ (ad 260) → b ≠ (ad 261) → b ≠ (ad 262) → b ≠ (ad 263) → b ≠ (ad 264) → f_210 b = f b) → lv_has ls 2 [(0, .ref (ad 255)), (1, .int y210_l1)] → 2147483647 - y210_l1.toInt < ((k210 : Nat) : Int) → W p l e rm_X11_takesUp s m [.ref (ad 255)].toArray below meth c H locs 0 0 (MQ below (va_Qv (po_X11_takesUp g ad th L f ) (PstB g A) A) [.ref (ad 255)].toArray s rm_X11_takesUp.cells rm_X11_takesUp.slots A) (F0 m 210 ls []) := by
          intro k210
          induction k210 with
          | zero =>
            intro y210_l1 f_210 H locs ls hy210_l1 hP hD hS hT hfr hl hmz210
            exact ms0 hy210_l1 hmz210
          | succ k210 ih210 =>
            intro y210_l1 f_210 H locs ls hy210_l1 hP hD hS hT hfr hl hmz210
            refine lv_iload_n hx hb dX11_takesUp_210 rfl (lv_at hl 1 rfl) ?_
            refine lv_sipush (v := 150) hx hb dX11_takesUp_211 (by decide) ?_
            refine lv_icmp_ge (tgt := 239) hx hb dX11_takesUp_214 (by decide) (fun c58 => ?_) (fun c58 => ?_)
            ·
              have oc150 : (150 : Int32).toInt = 150 := by decide
              have cc59 : (150 : Int32).toInt ≤ y210_l1.toInt := i32_le.mp c58
              have hb60 : In y210_l1 150 2147483647 := In.ge1 hy210_l1 (⟨by decide, by decide⟩ : In 150 150 150) cc59 (by decide) (by decide)
              refine lv_aload_n hx hb dX11_takesUp_239 rfl (lv_at hl 0 rfl) ?_
              refine lv_aload_n hx hb dX11_takesUp_240 rfl (lv_at hl 0 rfl) ?_
              refine M0e hT (fun v0_61 v2_61 v3_61 v4_61 v5_61 v6_61 v8_61 v9_61 v12_61 v13_61 v14_61 v15_61 v16_61 v17_61 v18_61 v19_61 v20_61 v21_61 v22_61 v23_61 v25_61 v36_61 v37_61 v38_61 v39_61 v40_61 v45_61 v46_61 v47_61 v48_61 v50_61 v51_61 v53_61 v55_61 hf62 hv0_61 hv2_61 hg2_61 hv3_61 hg3_61 hv4_61 hg4_61 hv5_61 hg5_61 hv6_61 hg6_61 hv8_61 hg8_61 hv9_61 hg9_61 hv12_61 hv13_61 hg13_61 hv14_61 hg14_61 hv15_61 hg15_61 hv17_61 hg17_61 hv20_61 hg20_61 hv23_61 hg23_61 hv25_61 hg25_61 hv36_61 hg36_61 hv47_61 hg47_61 hv48_61 hg48_61 hv53_61 hg53_61 hv55_61 hg55_61 hrel0_61 => ?_)
              have hg15_61 : v15_61.toInt = th 11 := hg15_61
              have hg17_61 : v17_61.toInt = th 12 := hg17_61
              have hg20_61 : v20_61.toInt = x41.toInt := hg20_61
              refine pl_get (v := .long v45_61) hx hb hts (fun w h => mT (inX11 w h)) hown hG.1 hP (hst.1 255 (by decide)) hf62 rfl 45 (by decide) (hts _ (mT wg_1381)) (fun _ h => h) rfl dX11_takesUp_241 ?_
              refine pl_put (ty := .long) (v := .long v45_61) (fs' := [.int v0_61, .ref (ad 256), .int v2_61, .int v3_61, .int v4_61, .int v5_61, .int v6_61, .ref (ad 257), .int v8_61, .int v9_61, .ref (ad 258), .ref (ad 259), .int v12_61, .int v13_61, .int v14_61, .int v15_61, .int v16_61, .int v17_61, .int v18_61, .int v19_61, .int v20_61, .long v21_61, .long v45_61, .int v23_61, .ref (ad 260), .int v25_61, .ref (ad 261), .ref (ad 262), .ref (ad 263), .ref (ad 264), .ref (ad 265), .ref (ad 266), .ref (ad 267), .ref (ad 268), .ref (ad 269), .ref (ad 270), .int v36_61, .int v37_61, .int v38_61, .int v39_61, .int v40_61, .ref (ad 271), .ref (ad 272), .ref (ad 273), .ref (ad 274), .long v45_61, .long v46_61, .int v47_61, .int v48_61, .ref (ad 275), .int v50_61, .int v51_61, .ref (ad 276), .int v53_61, .ref (ad 277), .int v55_61]) hx hb hts (fun w h => mT (inX11 w h)) tyX11 tyX11_ok nmX11 hown hG.1 hP hD hS (hst.1 255 (by decide)) hf62 rfl 22 (by decide) (hts _ (mT wg_1358)) (fun _ h => h) rfl (by decide +kernel) (rfl) (rfl) (Nat.le_of_ble_eq_true rfl) rfl dX11_takesUp_244 (fun H locs f63 hf64 ho65 hP hD hS => ?_)
              have hfr : (∀ b, b ≠ (ad 255) → b ≠ (ad 265) → b ≠ (ad 266) → b ≠ (ad 267) → b ≠ (ad 269) → b ≠ (ad 260) → b ≠ (ad 261) → b ≠ (ad 262) → b ≠ (ad 263) → b ≠ (ad 264) → f63 b = f b) := fun b z0_ z1_ z2_ z3_ z4_ z5_ z6_ z7_ z8_ z9_ => (ho65 b z0_).trans (hfr b z0_ z1_ z2_ z3_ z4_ z5_ z6_ z7_ z8_ z9_)
              refine lv_aload_n hx hb dX11_takesUp_247 rfl (lv_at hl 0 rfl) ?_
              refine lv_iconst (v := 0) hx hb dX11_takesUp_248 (by decide) ?_
              refine pl_put (ty := .int) (v := .int 0) (fs' := [.int v0_61, .ref (ad 256), .int v2_61, .int v3_61, .int v4_61, .int v5_61, .int v6_61, .ref (ad 257), .int v8_61, .int v9_61, .ref (ad 258), .ref (ad 259), .int v12_61, .int v13_61, .int v14_61, .int v15_61, .int v16_61, .int v17_61, .int v18_61, .int v19_61, .int v20_61, .long v21_61, .long v45_61, .int v23_61, .ref (ad 260), .int v25_61, .ref (ad 261), .ref (ad 262), .ref (ad 263), .ref (ad 264), .ref (ad 265), .ref (ad 266), .ref (ad 267), .ref (ad 268), .ref (ad 269), .ref (ad 270), .int v36_61, .int v37_61, .int v38_61, .int 0, .int v40_61, .ref (ad 271), .ref (ad 272), .ref (ad 273), .ref (ad 274), .long v45_61, .long v46_61, .int v47_61, .int v48_61, .ref (ad 275), .int v50_61, .int v51_61, .ref (ad 276), .int v53_61, .ref (ad 277), .int v55_61]) hx hb hts (fun w h => mT (inX11 w h)) tyX11 tyX11_ok nmX11 hown hG.1 hP hD hS (hst.1 255 (by decide)) hf64 rfl 39 (by decide) (hts _ (mT wg_1375)) (fun _ h => h) rfl (by decide +kernel) (rfl) (rfl) (Nat.le_of_ble_eq_true rfl) rfl dX11_takesUp_249 (fun H locs f66 hf67 ho68 hP hD hS => ?_)
              have ho69 : ∀ b, b ≠ (ad 255) → f66 b = _ := fun b hb => (ho68 b hb).trans (ho65 b hb)
              have hfr : (∀ b, b ≠ (ad 255) → b ≠ (ad 265) → b ≠ (ad 266) → b ≠ (ad 267) → b ≠ (ad 269) → b ≠ (ad 260) → b ≠ (ad 261) → b ≠ (ad 262) → b ≠ (ad 263) → b ≠ (ad 264) → f66 b = f b) := fun b z0_ z1_ z2_ z3_ z4_ z5_ z6_ z7_ z8_ z9_ => (ho68 b z0_).trans (hfr b z0_ z1_ z2_ z3_ z4_ z5_ z6_ z7_ z8_ z9_)
              have hT := TI.updM hT hst (k := 0) (by decide) hf67 ho69 ⟨v0_61, v2_61, v3_61, v4_61, v5_61, v6_61, v8_61, v9_61, v12_61, v13_61, v14_61, v15_61, v16_61, v17_61, v18_61, v19_61, v20_61, v21_61, v45_61, v23_61, v25_61, v36_61, v37_61, v38_61, 0, v40_61, v45_61, v46_61, v47_61, v48_61, v50_61, v51_61, v53_61, v55_61, rfl, hv0_61, hv2_61, hg2_61, hv3_61, hg3_61, hv4_61, hg4_61, hv5_61, hg5_61, hv6_61, hg6_61, hv8_61, hg8_61, hv9_61, hg9_61, hv12_61, hv13_61, hg13_61, hv14_61, hg14_61, hv15_61, hg15_61, hv17_61, hg17_61, hv20_61, hg20_61, hv23_61, hg23_61, hv25_61, hg25_61, hv36_61, hg36_61, hv47_61, hg47_61, hv48_61, hg48_61, hv53_61, hg53_61, hv55_61, hg55_61, hrel0_61⟩
              exact ret_v hx hb hr hlocks hP hD hS (Nat.le_of_ble_eq_true rfl) (Nat.le_of_ble_eq_true rfl) (⟨rfl, ⟨x11.toInt, x41.toInt, x50.toInt, ⟨(show (x11.toInt = th 19 ∧ 0 ≤ x11.toInt ∧ x11.toInt ≤ th 20) ∧ (0 ≤ x41.toInt ∧ x41.toInt ≤ 511) from (by have ob10 : (0 : Int) ≤ (th 10) ∧ (th 10) ≤ 1 := (b0_10 hT :); have ob11 : (0 : Int) ≤ (th 11) ∧ (th 11) ≤ 9 := (b0_11 hT :); have ob12 : (0 : Int) ≤ (th 12) ∧ (th 12) ≤ 6 := (b0_12 hT :); have ob14 : (0 : Int) ≤ x41.toInt ∧ x41.toInt ≤ 511 := (b0_14 hT :); have ob15 : (0 : Int) ≤ (th 15) ∧ (th 15) ≤ 1 := (b0_15 hT :); have ob16 : (0 : Int) ≤ (th 16) ∧ (th 16) ≤ 20 := (b0_16 hT :); have ob17 : (0 : Int) ≤ (th 17) ∧ (th 17) ≤ 1 := (b0_17 hT :); have ob18 : (0 : Int) ≤ x11.toInt ∧ x11.toInt ≤ 18 := (b0_18 hT :); have ob38 : (0 : Int) ≤ (th 38) ∧ (th 38) ≤ 400 := (b0_38 hT :); have ob39 : (0 : Int) ≤ (th 39) ∧ (th 39) ≤ 200 := (b0_39 hT :); have ob44 : (0 : Int) ≤ x50.toInt ∧ x50.toInt ≤ 30 := (b0_44 hT :); have orn := rnd_b (th 10); obtain ⟨o0a, o0b⟩ := (hv14_61 : In _ _ _); obtain ⟨o1a, o1b⟩ := (hv15_61 : In _ _ _); obtain ⟨o2a, o2b⟩ := (hv17_61 : In _ _ _); obtain ⟨o3a, o3b⟩ := (hv20_61 : In _ _ _); obtain ⟨o4a, o4b⟩ := (hv23_61 : In _ _ _); obtain ⟨o5a, o5b⟩ := (hv25_61 : In _ _ _); obtain ⟨o6a, o6b⟩ := (hv36_61 : In _ _ _); obtain ⟨o7a, o7b⟩ := (hv47_61 : In _ _ _); obtain ⟨o8a, o8b⟩ := (hv48_61 : In _ _ _); obtain ⟨o9a, o9b⟩ := (hv53_61 : In _ _ _); obtain ⟨o10a, o10b⟩ := (hv55_61 : In _ _ _); omega)), (show capI (x41.toInt) (th 11) by rw [← h21]; exact (hpd42.2.1 rfl).2)⟩, TI.cast hT (by funext q; by_cases hq0 : q = 18; (subst hq0; simp [gset]); by_cases hq1 : q = 44; (subst hq1; simp [gset]); by_cases hq2 : q = 14; (subst hq2; simp [gset]); simp only [gset, if_neg hq0, if_neg hq1, if_neg hq2])⟩, hfr⟩) dX11_takesUp_252
            ·
              have oc150 : (150 : Int32).toInt = 150 := by decide
              have cc70 : y210_l1.toInt < (150 : Int32).toInt := i32_nle c58
              have hb71 : In y210_l1 0 149 := In.lt1 hy210_l1 (⟨by decide, by decide⟩ : In 150 150 150) cc70 (by decide) (by decide)
              refine lv_aload_n hx hb dX11_takesUp_217 rfl (lv_at hl 0 rfl) ?_
              refine M0e hT (fun v0_72 v2_72 v3_72 v4_72 v5_72 v6_72 v8_72 v9_72 v12_72 v13_72 v14_72 v15_72 v16_72 v17_72 v18_72 v19_72 v20_72 v21_72 v22_72 v23_72 v25_72 v36_72 v37_72 v38_72 v39_72 v40_72 v45_72 v46_72 v47_72 v48_72 v50_72 v51_72 v53_72 v55_72 hf73 hv0_72 hv2_72 hg2_72 hv3_72 hg3_72 hv4_72 hg4_72 hv5_72 hg5_72 hv6_72 hg6_72 hv8_72 hg8_72 hv9_72 hg9_72 hv12_72 hv13_72 hg13_72 hv14_72 hg14_72 hv15_72 hg15_72 hv17_72 hg17_72 hv20_72 hg20_72 hv23_72 hg23_72 hv25_72 hg25_72 hv36_72 hg36_72 hv47_72 hg47_72 hv48_72 hg48_72 hv53_72 hg53_72 hv55_72 hg55_72 hrel0_72 => ?_)
              have hg15_72 : v15_72.toInt = th 11 := hg15_72
              have hg17_72 : v17_72.toInt = th 12 := hg17_72
              have hg20_72 : v20_72.toInt = x41.toInt := hg20_72
              refine pl_get (v := .ref (ad 260)) hx hb hts (fun w h => mT (inX11 w h)) hown hG.1 hP (hst.1 255 (by decide)) hf73 rfl 24 (by decide) (hts _ (mT wg_1360)) (fun _ h => h) rfl dX11_takesUp_218 ?_
              refine lv_iload_n hx hb dX11_takesUp_221 rfl (lv_at hl 1 rfl) ?_
              refine lv_aload_n hx hb dX11_takesUp_222 rfl (lv_at hl 0 rfl) ?_
              refine pl_get (v := .ref (ad 271)) hx hb hts (fun w h => mT (inX11 w h)) hown hG.1 hP (hst.1 255 (by decide)) hf73 rfl 41 (by decide) (hts _ (mT wg_1377)) (fun _ h => h) rfl dX11_takesUp_223 ?_
              refine lv_sipush (v := 1976) hx hb dX11_takesUp_226 (by decide) ?_
              refine lv_iload_n hx hb dX11_takesUp_229 rfl (lv_at hl 1 rfl) ?_
              refine lv_iadd hx hb dX11_takesUp_230 ?_
              refine lv_topi (fun x74 ex74 => ?_)
              have hb75 : In x74 1976 2125 := ex74 ▸ In.add (⟨by decide, by decide⟩ : In 1976 1976 1976) hb71 (by decide) (by decide) (by decide) (by decide)
              have et76 : x74.toInt = (1976 : Int32).toInt + y210_l1.toInt := In.add2e ex74 (⟨by decide, by decide⟩ : In 1976 1976 1976) hb71 (by decide) (by decide)
              obtain ⟨rw77, hf78, hpi80, hc79⟩ := hT.2.2 16 (by decide)
              have hc79 : PRW 2126 (th 22) (th 20) (th 21) rw77 := hc79
              have hpi80 : ((72 : Int) < (th 22) → (rw77 72).toInt = th 19) := hpi80
              have hin81 : vp_in x74 2126 := In.inb hb75 (by decide) (by decide)
              refine pl_iald hx hb hG.1 hP (hst.1 271 (by decide)) 0 hf78 rfl hin81 dX11_takesUp_231 ?_
              refine lv_topi (fun x82 ex82 => ?_)
              obtain ⟨rw83, hf84⟩ := hT.2.2 5 (by decide)
              refine pl_iastE hx hb hG.1 hP hD hS (hst.1 260 (by decide)) 0 hf84 rfl (In.inb hb71 (by decide) (by decide)) dX11_takesUp_232 (fun H locs f85 r88 er88 hf86 ho87 hP hD hS => ?_)
              have hf89 := (ho87 (ad 255) (hst.ne (by decide) (by decide) (by decide))).trans hf73
              have hf90 := (ho87 (ad 271) (hst.ne (by decide) (by decide) (by decide))).trans hf78
              have hfr : (∀ b, b ≠ (ad 255) → b ≠ (ad 265) → b ≠ (ad 266) → b ≠ (ad 267) → b ≠ (ad 269) → b ≠ (ad 260) → b ≠ (ad 261) → b ≠ (ad 262) → b ≠ (ad 263) → b ≠ (ad 264) → f85 b = f b) := fun b z0_ z1_ z2_ z3_ z4_ z5_ z6_ z7_ z8_ z9_ => (ho87 b z5_).trans (hfr b z0_ z1_ z2_ z3_ z4_ z5_ z6_ z7_ z8_ z9_)
              obtain ⟨x91, ex91⟩ : ∃ y : Int32, y = y210_l1 + 1 := ⟨_, rfl⟩
              have hb92 : In x91 1 150 := ex91 ▸ In.add hb71 (⟨by decide, by decide⟩ : In 1 1 1) (by decide) (by decide) (by decide) (by decide)
              have et93 : x91.toInt = y210_l1.toInt + 1 := In.adde ex91 hb71 (k := 1) (by decide) (by decide) (by decide)
              refine lv_iinc (v := x91) (lv' := [(1, .int x91), (0, .ref (ad 255))]) hx hb dX11_takesUp_233 hl (k := 1) rfl (by rw [ex91]; rfl) (by decide) rfl (fun ls hl => ?_)
              have hT := TI.updM hT hst (k := 5) (by decide) hf86 ho87 ⟨r88, rfl⟩
              refine lv_goto (tgt := 210) hx hb dX11_takesUp_236 (by decide) ?_
              exact ih210 x91 _ _ _ _ (In.mono hb92 (by decide) (by decide)) hP hD hS hT hfr (lv_sub hl [1, 0] rfl) (msu et93 (by decide) hmz210)
        exact hJ210 ((2147483647 - (0 : Int32).toInt).toNat + 1) 0 _ _ _ _ (⟨by decide, by decide⟩ : In 0 0 2147483647) hP hD hS hT hfr (lv_sub hl [1, 0] rfl) (msI _)
      ·
        have oc9 : (9 : Int32).toInt = 9 := by decide
        have cc94 : y2_l1.toInt < (9 : Int32).toInt := i32_nle c1
        have hb95 : In y2_l1 0 8 := In.lt1 hy2_l1 (⟨by decide, by decide⟩ : In 9 9 9) cc94 (by decide) (by decide)
        refine lv_aload_n hx hb dX11_takesUp_8 rfl (lv_at hl 0 rfl) ?_
        refine M0e hT (fun v0_96 v2_96 v3_96 v4_96 v5_96 v6_96 v8_96 v9_96 v12_96 v13_96 v14_96 v15_96 v16_96 v17_96 v18_96 v19_96 v20_96 v21_96 v22_96 v23_96 v25_96 v36_96 v37_96 v38_96 v39_96 v40_96 v45_96 v46_96 v47_96 v48_96 v50_96 v51_96 v53_96 v55_96 hf97 hv0_96 hv2_96 hg2_96 hv3_96 hg3_96 hv4_96 hg4_96 hv5_96 hg5_96 hv6_96 hg6_96 hv8_96 hg8_96 hv9_96 hg9_96 hv12_96 hv13_96 hg13_96 hv14_96 hg14_96 hv15_96 hg15_96 hv17_96 hg17_96 hv20_96 hg20_96 hv23_96 hg23_96 hv25_96 hg25_96 hv36_96 hg36_96 hv47_96 hg47_96 hv48_96 hg48_96 hv53_96 hg53_96 hv55_96 hg55_96 hrel0_96 => ?_)
        have hg15_96 : v15_96.toInt = th 11 := hg15_96
        have hg17_96 : v17_96.toInt = th 12 := hg17_96
        have hg20_96 : v20_96.toInt = th 14 := hg20_96
        refine pl_get (v := .ref (ad 261)) hx hb hts (fun w h => mT (inX11 w h)) hown hG.1 hP (hst.1 255 (by decide)) hf97 rfl 26 (by decide) (hts _ (mT wg_1362)) (fun _ h => h) rfl dX11_takesUp_9 ?_
        refine lv_iload_n hx hb dX11_takesUp_12 rfl (lv_at hl 1 rfl) ?_
        refine lv_aload_n hx hb dX11_takesUp_13 rfl (lv_at hl 0 rfl) ?_
        refine pl_get (v := .ref (ad 271)) hx hb hts (fun w h => mT (inX11 w h)) hown hG.1 hP (hst.1 255 (by decide)) hf97 rfl 41 (by decide) (hts _ (mT wg_1377)) (fun _ h => h) rfl dX11_takesUp_14 ?_
        refine lv_iconst (v := 0) hx hb dX11_takesUp_17 (by decide) ?_
        refine lv_iload_n hx hb dX11_takesUp_18 rfl (lv_at hl 1 rfl) ?_
        refine lv_iadd hx hb dX11_takesUp_19 ?_
        refine lv_topi (fun x98 ex98 => ?_)
        have hb99 : In x98 0 8 := ex98 ▸ In.add (⟨by decide, by decide⟩ : In 0 0 0) hb95 (by decide) (by decide) (by decide) (by decide)
        have et100 : x98.toInt = (0 : Int32).toInt + y2_l1.toInt := In.add2e ex98 (⟨by decide, by decide⟩ : In 0 0 0) hb95 (by decide) (by decide)
        obtain ⟨rw101, hf102, hpi104, hc103⟩ := hT.2.2 16 (by decide)
        have hc103 : PRW 2126 (th 22) (th 20) (th 21) rw101 := hc103
        have hpi104 : ((72 : Int) < (th 22) → (rw101 72).toInt = th 19) := hpi104
        have hin105 : vp_in x98 2126 := In.inb hb99 (by decide) (by decide)
        refine pl_iald hx hb hG.1 hP (hst.1 271 (by decide)) 0 hf102 rfl hin105 dX11_takesUp_20 ?_
        refine lv_topi (fun x106 ex106 => ?_)
        obtain ⟨rw107, hf108⟩ := hT.2.2 6 (by decide)
        refine pl_iastE hx hb hG.1 hP hD hS (hst.1 261 (by decide)) 0 hf108 rfl (In.inb hb95 (by decide) (by decide)) dX11_takesUp_21 (fun H locs f109 r112 er112 hf110 ho111 hP hD hS => ?_)
        have hf113 := (ho111 (ad 255) (hst.ne (by decide) (by decide) (by decide))).trans hf97
        have hf114 := (ho111 (ad 271) (hst.ne (by decide) (by decide) (by decide))).trans hf102
        have hfr : (∀ b, b ≠ (ad 255) → b ≠ (ad 265) → b ≠ (ad 266) → b ≠ (ad 267) → b ≠ (ad 269) → b ≠ (ad 260) → b ≠ (ad 261) → b ≠ (ad 262) → b ≠ (ad 263) → b ≠ (ad 264) → f109 b = f b) := fun b z0_ z1_ z2_ z3_ z4_ z5_ z6_ z7_ z8_ z9_ => (ho111 b z6_).trans (hfr b z0_ z1_ z2_ z3_ z4_ z5_ z6_ z7_ z8_ z9_)
        refine lv_aload_n hx hb dX11_takesUp_22 rfl (lv_at hl 0 rfl) ?_
        refine pl_get (v := .ref (ad 262)) hx hb hts (fun w h => mT (inX11 w h)) hown hG.1 hP (hst.1 255 (by decide)) hf113 rfl 27 (by decide) (hts _ (mT wg_1363)) (fun _ h => h) rfl dX11_takesUp_23 ?_
        refine lv_iload_n hx hb dX11_takesUp_26 rfl (lv_at hl 1 rfl) ?_
        refine lv_aload_n hx hb dX11_takesUp_27 rfl (lv_at hl 0 rfl) ?_
        refine pl_get (v := .ref (ad 271)) hx hb hts (fun w h => mT (inX11 w h)) hown hG.1 hP (hst.1 255 (by decide)) hf113 rfl 41 (by decide) (hts _ (mT wg_1377)) (fun _ h => h) rfl dX11_takesUp_28 ?_
        refine lv_bipush (v := 9) hx hb dX11_takesUp_31 (by decide) ?_
        refine lv_iload_n hx hb dX11_takesUp_33 rfl (lv_at hl 1 rfl) ?_
        refine lv_iadd hx hb dX11_takesUp_34 ?_
        refine lv_topi (fun x115 ex115 => ?_)
        have hb116 : In x115 9 17 := ex115 ▸ In.add (⟨by decide, by decide⟩ : In 9 9 9) hb95 (by decide) (by decide) (by decide) (by decide)
        have et117 : x115.toInt = (9 : Int32).toInt + y2_l1.toInt := In.add2e ex115 (⟨by decide, by decide⟩ : In 9 9 9) hb95 (by decide) (by decide)
        have hin118 : vp_in x115 2126 := In.inb hb116 (by decide) (by decide)
        refine pl_iald hx hb hG.1 hP (hst.1 271 (by decide)) 0 hf114 rfl hin118 dX11_takesUp_35 ?_
        refine lv_topi (fun x119 ex119 => ?_)
        have hT := TI.updM hT hst (k := 6) (by decide) hf110 ho111 ⟨r112, rfl⟩
        obtain ⟨rw120, hf121⟩ := hT.2.2 7 (by decide)
        refine pl_iastE hx hb hG.1 hP hD hS (hst.1 262 (by decide)) 0 hf121 rfl (In.inb hb95 (by decide) (by decide)) dX11_takesUp_36 (fun H locs f122 r125 er125 hf123 ho124 hP hD hS => ?_)
        have hf126 := (ho124 (ad 255) (hst.ne (by decide) (by decide) (by decide))).trans hf113
        have hf127 := (ho124 (ad 271) (hst.ne (by decide) (by decide) (by decide))).trans hf114
        have hf128 := (ho124 (ad 261) (hst.ne (by decide) (by decide) (by decide))).trans hf110
        have hfr : (∀ b, b ≠ (ad 255) → b ≠ (ad 265) → b ≠ (ad 266) → b ≠ (ad 267) → b ≠ (ad 269) → b ≠ (ad 260) → b ≠ (ad 261) → b ≠ (ad 262) → b ≠ (ad 263) → b ≠ (ad 264) → f122 b = f b) := fun b z0_ z1_ z2_ z3_ z4_ z5_ z6_ z7_ z8_ z9_ => (ho124 b z7_).trans (hfr b z0_ z1_ z2_ z3_ z4_ z5_ z6_ z7_ z8_ z9_)
        refine lv_aload_n hx hb dX11_takesUp_37 rfl (lv_at hl 0 rfl) ?_
        refine pl_get (v := .ref (ad 263)) hx hb hts (fun w h => mT (inX11 w h)) hown hG.1 hP (hst.1 255 (by decide)) hf126 rfl 28 (by decide) (hts _ (mT wg_1364)) (fun _ h => h) rfl dX11_takesUp_38 ?_
        refine lv_iload_n hx hb dX11_takesUp_41 rfl (lv_at hl 1 rfl) ?_
        refine lv_aload_n hx hb dX11_takesUp_42 rfl (lv_at hl 0 rfl) ?_
        refine pl_get (v := .ref (ad 271)) hx hb hts (fun w h => mT (inX11 w h)) hown hG.1 hP (hst.1 255 (by decide)) hf126 rfl 41 (by decide) (hts _ (mT wg_1377)) (fun _ h => h) rfl dX11_takesUp_43 ?_
        refine lv_bipush (v := 18) hx hb dX11_takesUp_46 (by decide) ?_
        refine lv_iload_n hx hb dX11_takesUp_48 rfl (lv_at hl 1 rfl) ?_
        refine lv_iadd hx hb dX11_takesUp_49 ?_
        refine lv_topi (fun x129 ex129 => ?_)
        have hb130 : In x129 18 26 := ex129 ▸ In.add (⟨by decide, by decide⟩ : In 18 18 18) hb95 (by decide) (by decide) (by decide) (by decide)
        have et131 : x129.toInt = (18 : Int32).toInt + y2_l1.toInt := In.add2e ex129 (⟨by decide, by decide⟩ : In 18 18 18) hb95 (by decide) (by decide)
        have hin132 : vp_in x129 2126 := In.inb hb130 (by decide) (by decide)
        refine pl_iald hx hb hG.1 hP (hst.1 271 (by decide)) 0 hf127 rfl hin132 dX11_takesUp_50 ?_
        refine lv_topi (fun x133 ex133 => ?_)
        have hT := TI.updM hT hst (k := 7) (by decide) hf123 ho124 ⟨r125, rfl⟩
        obtain ⟨rw134, hf135⟩ := hT.2.2 8 (by decide)
        refine pl_iastE hx hb hG.1 hP hD hS (hst.1 263 (by decide)) 0 hf135 rfl (In.inb hb95 (by decide) (by decide)) dX11_takesUp_51 (fun H locs f136 r139 er139 hf137 ho138 hP hD hS => ?_)
        have hf140 := (ho138 (ad 255) (hst.ne (by decide) (by decide) (by decide))).trans hf126
        have hf141 := (ho138 (ad 271) (hst.ne (by decide) (by decide) (by decide))).trans hf127
        have hf142 := (ho138 (ad 261) (hst.ne (by decide) (by decide) (by decide))).trans hf128
        have hf143 := (ho138 (ad 262) (hst.ne (by decide) (by decide) (by decide))).trans hf123
        have hfr : (∀ b, b ≠ (ad 255) → b ≠ (ad 265) → b ≠ (ad 266) → b ≠ (ad 267) → b ≠ (ad 269) → b ≠ (ad 260) → b ≠ (ad 261) → b ≠ (ad 262) → b ≠ (ad 263) → b ≠ (ad 264) → f136 b = f b) := fun b z0_ z1_ z2_ z3_ z4_ z5_ z6_ z7_ z8_ z9_ => (ho138 b z8_).trans (hfr b z0_ z1_ z2_ z3_ z4_ z5_ z6_ z7_ z8_ z9_)
        refine lv_aload_n hx hb dX11_takesUp_52 rfl (lv_at hl 0 rfl) ?_
        refine pl_get (v := .ref (ad 269)) hx hb hts (fun w h => mT (inX11 w h)) hown hG.1 hP (hst.1 255 (by decide)) hf140 rfl 34 (by decide) (hts _ (mT wg_1370)) (fun _ h => h) rfl dX11_takesUp_53 ?_
        refine lv_iload_n hx hb dX11_takesUp_56 rfl (lv_at hl 1 rfl) ?_
        refine lv_aload_n hx hb dX11_takesUp_57 rfl (lv_at hl 0 rfl) ?_
        refine pl_get (v := .ref (ad 271)) hx hb hts (fun w h => mT (inX11 w h)) hown hG.1 hP (hst.1 255 (by decide)) hf140 rfl 41 (by decide) (hts _ (mT wg_1377)) (fun _ h => h) rfl dX11_takesUp_58 ?_
        refine lv_bipush (v := 27) hx hb dX11_takesUp_61 (by decide) ?_
        refine lv_iload_n hx hb dX11_takesUp_63 rfl (lv_at hl 1 rfl) ?_
        refine lv_iadd hx hb dX11_takesUp_64 ?_
        refine lv_topi (fun x144 ex144 => ?_)
        have hb145 : In x144 27 35 := ex144 ▸ In.add (⟨by decide, by decide⟩ : In 27 27 27) hb95 (by decide) (by decide) (by decide) (by decide)
        have et146 : x144.toInt = (27 : Int32).toInt + y2_l1.toInt := In.add2e ex144 (⟨by decide, by decide⟩ : In 27 27 27) hb95 (by decide) (by decide)
        have hin147 : vp_in x144 2126 := In.inb hb145 (by decide) (by decide)
        refine pl_iald hx hb hG.1 hP (hst.1 271 (by decide)) 0 hf141 rfl hin147 dX11_takesUp_65 ?_
        refine lv_topi (fun x148 ex148 => ?_)
        refine lv_iconst (v := 1) hx hb dX11_takesUp_66 (by decide) ?_
        have hT := TI.updM hT hst (k := 8) (by decide) hf137 ho138 ⟨r139, rfl⟩
        have hJ75 : ∀ (y75_s0 : Int32) (H : Heap) (locs : List Loc) (ls : Array Slot), In y75_s0 0 1 → va_P g.1 vwCl (va_pl L f136) H → va_D A (va_pl L f136) → va_S A s.heap H locs → lv_has ls 2 [(0, .ref (ad 255)), (1, .int y2_l1)] → W p l e rm_X11_takesUp s m [.ref (ad 255)].toArray below meth c H locs 0 0 (MQ below (va_Qv (po_X11_takesUp g ad th L f ) (PstB g A) A) [.ref (ad 255)].toArray s rm_X11_takesUp.cells rm_X11_takesUp.slots A) (F0 m 75 ls [.int y75_s0, .int y2_l1, .ref (ad 269)]) := by
          intro y75_s0 H locs ls hy75_s0 hP hD hS hl
          obtain ⟨rw149, hf150⟩ := hT.2.2 14 (by decide)
          refine pl_zastE hx hb hG.1 hP hD hS (hst.1 269 (by decide)) 3 hf150 rfl (In.inb hb95 (by decide) (by decide)) dX11_takesUp_75 (fun H locs f151 r154 er154 hf152 ho153 hP hD hS => ?_)
          have hf155 := (ho153 (ad 255) (hst.ne (by decide) (by decide) (by decide))).trans hf140
          have hf156 := (ho153 (ad 271) (hst.ne (by decide) (by decide) (by decide))).trans hf141
          have hf157 := (ho153 (ad 261) (hst.ne (by decide) (by decide) (by decide))).trans hf142
          have hf158 := (ho153 (ad 262) (hst.ne (by decide) (by decide) (by decide))).trans hf143
          have hf159 := (ho153 (ad 263) (hst.ne (by decide) (by decide) (by decide))).trans hf137
          have hfr : (∀ b, b ≠ (ad 255) → b ≠ (ad 265) → b ≠ (ad 266) → b ≠ (ad 267) → b ≠ (ad 269) → b ≠ (ad 260) → b ≠ (ad 261) → b ≠ (ad 262) → b ≠ (ad 263) → b ≠ (ad 264) → f151 b = f b) := fun b z0_ z1_ z2_ z3_ z4_ z5_ z6_ z7_ z8_ z9_ => (ho153 b z4_).trans (hfr b z0_ z1_ z2_ z3_ z4_ z5_ z6_ z7_ z8_ z9_)
          refine lv_aload_n hx hb dX11_takesUp_76 rfl (lv_at hl 0 rfl) ?_
          refine pl_get (v := .ref (ad 264)) hx hb hts (fun w h => mT (inX11 w h)) hown hG.1 hP (hst.1 255 (by decide)) hf155 rfl 29 (by decide) (hts _ (mT wg_1365)) (fun _ h => h) rfl dX11_takesUp_77 ?_
          refine lv_iload_n hx hb dX11_takesUp_80 rfl (lv_at hl 1 rfl) ?_
          refine lv_aload_n hx hb dX11_takesUp_81 rfl (lv_at hl 0 rfl) ?_
          refine pl_get (v := .ref (ad 271)) hx hb hts (fun w h => mT (inX11 w h)) hown hG.1 hP (hst.1 255 (by decide)) hf155 rfl 41 (by decide) (hts _ (mT wg_1377)) (fun _ h => h) rfl dX11_takesUp_82 ?_
          refine lv_bipush (v := 36) hx hb dX11_takesUp_85 (by decide) ?_
          refine lv_iload_n hx hb dX11_takesUp_87 rfl (lv_at hl 1 rfl) ?_
          refine lv_iadd hx hb dX11_takesUp_88 ?_
          refine lv_topi (fun x160 ex160 => ?_)
          have hb161 : In x160 36 44 := ex160 ▸ In.add (⟨by decide, by decide⟩ : In 36 36 36) hb95 (by decide) (by decide) (by decide) (by decide)
          have et162 : x160.toInt = (36 : Int32).toInt + y2_l1.toInt := In.add2e ex160 (⟨by decide, by decide⟩ : In 36 36 36) hb95 (by decide) (by decide)
          have hin163 : vp_in x160 2126 := In.inb hb161 (by decide) (by decide)
          refine pl_iald hx hb hG.1 hP (hst.1 271 (by decide)) 0 hf156 rfl hin163 dX11_takesUp_89 ?_
          refine lv_topi (fun x164 ex164 => ?_)
          have hT := TI.updM hT hst (k := 14) (by decide) hf152 ho153 ⟨r154, rfl⟩
          obtain ⟨rw165, hf166⟩ := hT.2.2 9 (by decide)
          refine pl_iastE hx hb hG.1 hP hD hS (hst.1 264 (by decide)) 0 hf166 rfl (In.inb hb95 (by decide) (by decide)) dX11_takesUp_90 (fun H locs f167 r170 er170 hf168 ho169 hP hD hS => ?_)
          have hf171 := (ho169 (ad 255) (hst.ne (by decide) (by decide) (by decide))).trans hf155
          have hf172 := (ho169 (ad 271) (hst.ne (by decide) (by decide) (by decide))).trans hf156
          have hf173 := (ho169 (ad 261) (hst.ne (by decide) (by decide) (by decide))).trans hf157
          have hf174 := (ho169 (ad 262) (hst.ne (by decide) (by decide) (by decide))).trans hf158
          have hf175 := (ho169 (ad 263) (hst.ne (by decide) (by decide) (by decide))).trans hf159
          have hf176 := (ho169 (ad 269) (hst.ne (by decide) (by decide) (by decide))).trans hf152
          have hfr : (∀ b, b ≠ (ad 255) → b ≠ (ad 265) → b ≠ (ad 266) → b ≠ (ad 267) → b ≠ (ad 269) → b ≠ (ad 260) → b ≠ (ad 261) → b ≠ (ad 262) → b ≠ (ad 263) → b ≠ (ad 264) → f167 b = f b) := fun b z0_ z1_ z2_ z3_ z4_ z5_ z6_ z7_ z8_ z9_ => (ho169 b z9_).trans (hfr b z0_ z1_ z2_ z3_ z4_ z5_ z6_ z7_ z8_ z9_)
          refine lv_aload_n hx hb dX11_takesUp_91 rfl (lv_at hl 0 rfl) ?_
          refine pl_get (v := .ref (ad 265)) hx hb hts (fun w h => mT (inX11 w h)) hown hG.1 hP (hst.1 255 (by decide)) hf171 rfl 30 (by decide) (hts _ (mT wg_1366)) (fun _ h => h) rfl dX11_takesUp_92 ?_
          refine lv_iload_n hx hb dX11_takesUp_95 rfl (lv_at hl 1 rfl) ?_
          refine lv_aload_n hx hb dX11_takesUp_96 rfl (lv_at hl 0 rfl) ?_
          refine pl_get (v := .ref (ad 271)) hx hb hts (fun w h => mT (inX11 w h)) hown hG.1 hP (hst.1 255 (by decide)) hf171 rfl 41 (by decide) (hts _ (mT wg_1377)) (fun _ h => h) rfl dX11_takesUp_97 ?_
          refine lv_bipush (v := 45) hx hb dX11_takesUp_100 (by decide) ?_
          refine lv_iload_n hx hb dX11_takesUp_102 rfl (lv_at hl 1 rfl) ?_
          refine lv_iadd hx hb dX11_takesUp_103 ?_
          refine lv_topi (fun x177 ex177 => ?_)
          have hb178 : In x177 45 53 := ex177 ▸ In.add (⟨by decide, by decide⟩ : In 45 45 45) hb95 (by decide) (by decide) (by decide) (by decide)
          have et179 : x177.toInt = (45 : Int32).toInt + y2_l1.toInt := In.add2e ex177 (⟨by decide, by decide⟩ : In 45 45 45) hb95 (by decide) (by decide)
          have hin180 : vp_in x177 2126 := In.inb hb178 (by decide) (by decide)
          refine pl_iald hx hb hG.1 hP (hst.1 271 (by decide)) 0 hf172 rfl hin180 dX11_takesUp_104 ?_
          refine lv_topi (fun x181 ex181 => ?_)
          have hT := TI.updM hT hst (k := 9) (by decide) hf168 ho169 ⟨r170, rfl⟩
          obtain ⟨rw182, hf183⟩ := hT.2.2 10 (by decide)
          refine pl_iastE hx hb hG.1 hP hD hS (hst.1 265 (by decide)) 0 hf183 rfl (In.inb hb95 (by decide) (by decide)) dX11_takesUp_105 (fun H locs f184 r187 er187 hf185 ho186 hP hD hS => ?_)
          have hf188 := (ho186 (ad 255) (hst.ne (by decide) (by decide) (by decide))).trans hf171
          have hf189 := (ho186 (ad 271) (hst.ne (by decide) (by decide) (by decide))).trans hf172
          have hf190 := (ho186 (ad 261) (hst.ne (by decide) (by decide) (by decide))).trans hf173
          have hf191 := (ho186 (ad 262) (hst.ne (by decide) (by decide) (by decide))).trans hf174
          have hf192 := (ho186 (ad 263) (hst.ne (by decide) (by decide) (by decide))).trans hf175
          have hf193 := (ho186 (ad 269) (hst.ne (by decide) (by decide) (by decide))).trans hf176
          have hf194 := (ho186 (ad 264) (hst.ne (by decide) (by decide) (by decide))).trans hf168
          have hfr : (∀ b, b ≠ (ad 255) → b ≠ (ad 265) → b ≠ (ad 266) → b ≠ (ad 267) → b ≠ (ad 269) → b ≠ (ad 260) → b ≠ (ad 261) → b ≠ (ad 262) → b ≠ (ad 263) → b ≠ (ad 264) → f184 b = f b) := fun b z0_ z1_ z2_ z3_ z4_ z5_ z6_ z7_ z8_ z9_ => (ho186 b z1_).trans (hfr b z0_ z1_ z2_ z3_ z4_ z5_ z6_ z7_ z8_ z9_)
          refine lv_aload_n hx hb dX11_takesUp_106 rfl (lv_at hl 0 rfl) ?_
          refine pl_get (v := .ref (ad 266)) hx hb hts (fun w h => mT (inX11 w h)) hown hG.1 hP (hst.1 255 (by decide)) hf188 rfl 31 (by decide) (hts _ (mT wg_1367)) (fun _ h => h) rfl dX11_takesUp_107 ?_
          refine lv_iload_n hx hb dX11_takesUp_110 rfl (lv_at hl 1 rfl) ?_
          refine lv_aload_n hx hb dX11_takesUp_111 rfl (lv_at hl 0 rfl) ?_
          refine pl_get (v := .ref (ad 271)) hx hb hts (fun w h => mT (inX11 w h)) hown hG.1 hP (hst.1 255 (by decide)) hf188 rfl 41 (by decide) (hts _ (mT wg_1377)) (fun _ h => h) rfl dX11_takesUp_112 ?_
          refine lv_bipush (v := 54) hx hb dX11_takesUp_115 (by decide) ?_
          refine lv_iload_n hx hb dX11_takesUp_117 rfl (lv_at hl 1 rfl) ?_
          refine lv_iadd hx hb dX11_takesUp_118 ?_
          refine lv_topi (fun x195 ex195 => ?_)
          have hb196 : In x195 54 62 := ex195 ▸ In.add (⟨by decide, by decide⟩ : In 54 54 54) hb95 (by decide) (by decide) (by decide) (by decide)
          have et197 : x195.toInt = (54 : Int32).toInt + y2_l1.toInt := In.add2e ex195 (⟨by decide, by decide⟩ : In 54 54 54) hb95 (by decide) (by decide)
          have hin198 : vp_in x195 2126 := In.inb hb196 (by decide) (by decide)
          refine pl_iald hx hb hG.1 hP (hst.1 271 (by decide)) 0 hf189 rfl hin198 dX11_takesUp_119 ?_
          refine lv_topi (fun x199 ex199 => ?_)
          have hT := TI.updM hT hst (k := 10) (by decide) hf185 ho186 ⟨r187, rfl⟩
          obtain ⟨rw200, hf201⟩ := hT.2.2 11 (by decide)
          refine pl_iastE hx hb hG.1 hP hD hS (hst.1 266 (by decide)) 0 hf201 rfl (In.inb hb95 (by decide) (by decide)) dX11_takesUp_120 (fun H locs f202 r205 er205 hf203 ho204 hP hD hS => ?_)
          have hf206 := (ho204 (ad 255) (hst.ne (by decide) (by decide) (by decide))).trans hf188
          have hf207 := (ho204 (ad 271) (hst.ne (by decide) (by decide) (by decide))).trans hf189
          have hf208 := (ho204 (ad 261) (hst.ne (by decide) (by decide) (by decide))).trans hf190
          have hf209 := (ho204 (ad 262) (hst.ne (by decide) (by decide) (by decide))).trans hf191
          have hf210 := (ho204 (ad 263) (hst.ne (by decide) (by decide) (by decide))).trans hf192
          have hf211 := (ho204 (ad 269) (hst.ne (by decide) (by decide) (by decide))).trans hf193
          have hf212 := (ho204 (ad 264) (hst.ne (by decide) (by decide) (by decide))).trans hf194
          have hf213 := (ho204 (ad 265) (hst.ne (by decide) (by decide) (by decide))).trans hf185
          have hfr : (∀ b, b ≠ (ad 255) → b ≠ (ad 265) → b ≠ (ad 266) → b ≠ (ad 267) → b ≠ (ad 269) → b ≠ (ad 260) → b ≠ (ad 261) → b ≠ (ad 262) → b ≠ (ad 263) → b ≠ (ad 264) → f202 b = f b) := fun b z0_ z1_ z2_ z3_ z4_ z5_ z6_ z7_ z8_ z9_ => (ho204 b z2_).trans (hfr b z0_ z1_ z2_ z3_ z4_ z5_ z6_ z7_ z8_ z9_)
          refine lv_aload_n hx hb dX11_takesUp_121 rfl (lv_at hl 0 rfl) ?_
          refine pl_get (v := .ref (ad 267)) hx hb hts (fun w h => mT (inX11 w h)) hown hG.1 hP (hst.1 255 (by decide)) hf206 rfl 32 (by decide) (hts _ (mT wg_1368)) (fun _ h => h) rfl dX11_takesUp_122 ?_
          refine lv_iload_n hx hb dX11_takesUp_125 rfl (lv_at hl 1 rfl) ?_
          refine lv_aload_n hx hb dX11_takesUp_126 rfl (lv_at hl 0 rfl) ?_
          refine pl_get (v := .ref (ad 271)) hx hb hts (fun w h => mT (inX11 w h)) hown hG.1 hP (hst.1 255 (by decide)) hf206 rfl 41 (by decide) (hts _ (mT wg_1377)) (fun _ h => h) rfl dX11_takesUp_127 ?_
          refine lv_bipush (v := 63) hx hb dX11_takesUp_130 (by decide) ?_
          refine lv_iload_n hx hb dX11_takesUp_132 rfl (lv_at hl 1 rfl) ?_
          refine lv_iadd hx hb dX11_takesUp_133 ?_
          refine lv_topi (fun x214 ex214 => ?_)
          have hb215 : In x214 63 71 := ex214 ▸ In.add (⟨by decide, by decide⟩ : In 63 63 63) hb95 (by decide) (by decide) (by decide) (by decide)
          have et216 : x214.toInt = (63 : Int32).toInt + y2_l1.toInt := In.add2e ex214 (⟨by decide, by decide⟩ : In 63 63 63) hb95 (by decide) (by decide)
          have hin217 : vp_in x214 2126 := In.inb hb215 (by decide) (by decide)
          refine pl_iald hx hb hG.1 hP (hst.1 271 (by decide)) 0 hf207 rfl hin217 dX11_takesUp_134 ?_
          refine lv_topi (fun x218 ex218 => ?_)
          have hT := TI.updM hT hst (k := 11) (by decide) hf203 ho204 ⟨r205, rfl⟩
          obtain ⟨rw219, hf220⟩ := hT.2.2 12 (by decide)
          refine pl_iastE hx hb hG.1 hP hD hS (hst.1 267 (by decide)) 0 hf220 rfl (In.inb hb95 (by decide) (by decide)) dX11_takesUp_135 (fun H locs f221 r224 er224 hf222 ho223 hP hD hS => ?_)
          have hf225 := (ho223 (ad 255) (hst.ne (by decide) (by decide) (by decide))).trans hf206
          have hf226 := (ho223 (ad 271) (hst.ne (by decide) (by decide) (by decide))).trans hf207
          have hf227 := (ho223 (ad 261) (hst.ne (by decide) (by decide) (by decide))).trans hf208
          have hf228 := (ho223 (ad 262) (hst.ne (by decide) (by decide) (by decide))).trans hf209
          have hf229 := (ho223 (ad 263) (hst.ne (by decide) (by decide) (by decide))).trans hf210
          have hf230 := (ho223 (ad 269) (hst.ne (by decide) (by decide) (by decide))).trans hf211
          have hf231 := (ho223 (ad 264) (hst.ne (by decide) (by decide) (by decide))).trans hf212
          have hf232 := (ho223 (ad 265) (hst.ne (by decide) (by decide) (by decide))).trans hf213
          have hf233 := (ho223 (ad 266) (hst.ne (by decide) (by decide) (by decide))).trans hf203
          have hfr : (∀ b, b ≠ (ad 255) → b ≠ (ad 265) → b ≠ (ad 266) → b ≠ (ad 267) → b ≠ (ad 269) → b ≠ (ad 260) → b ≠ (ad 261) → b ≠ (ad 262) → b ≠ (ad 263) → b ≠ (ad 264) → f221 b = f b) := fun b z0_ z1_ z2_ z3_ z4_ z5_ z6_ z7_ z8_ z9_ => (ho223 b z3_).trans (hfr b z0_ z1_ z2_ z3_ z4_ z5_ z6_ z7_ z8_ z9_)
          obtain ⟨x234, ex234⟩ : ∃ y : Int32, y = y2_l1 + 1 := ⟨_, rfl⟩
          have hb235 : In x234 1 9 := ex234 ▸ In.add hb95 (⟨by decide, by decide⟩ : In 1 1 1) (by decide) (by decide) (by decide) (by decide)
          have et236 : x234.toInt = y2_l1.toInt + 1 := In.adde ex234 hb95 (k := 1) (by decide) (by decide) (by decide)
          refine lv_iinc (v := x234) (lv' := [(1, .int x234), (0, .ref (ad 255))]) hx hb dX11_takesUp_136 hl (k := 1) rfl (by rw [ex234]; rfl) (by decide) rfl (fun ls hl => ?_)
          have hT := TI.updM hT hst (k := 12) (by decide) hf222 ho223 ⟨r224, rfl⟩
          refine lv_goto (tgt := 2) hx hb dX11_takesUp_139 (by decide) ?_
          exact ih2 x234 _ _ _ _ (In.mono hb235 (by decide) (by decide)) hP hD hS hT hfr (lv_sub hl [1, 0] rfl) (msu et236 (by decide) hmz2)
        refine lv_icmp_ne (tgt := 74) hx hb dX11_takesUp_67 (by decide) (fun c237 => ?_) (fun c237 => ?_)
        ·
          have oc1 : (1 : Int32).toInt = 1 := by decide
          have cc238 : x148.toInt ≠ (1 : Int32).toInt := i32_ne c237
          refine lv_iconst (v := 0) hx hb dX11_takesUp_74 (by decide) ?_
          exact hJ75 0 _ _ _ (⟨by decide, by decide⟩ : In 0 0 1) hP hD hS (lv_sub hl [0, 1] rfl)
        ·
          have oc1 : (1 : Int32).toInt = 1 := by decide
          have cc239 : x148.toInt = (1 : Int32).toInt := congrArg Int32.toInt c237
          have hb240 : In x148 1 1 := In.eq1 (In.full x148) (⟨by decide, by decide⟩ : In 1 1 1) cc239 (by decide) (by decide)
          refine lv_iconst (v := 1) hx hb dX11_takesUp_70 (by decide) ?_
          refine lv_goto (tgt := 75) hx hb dX11_takesUp_71 (by decide) ?_
          exact hJ75 1 _ _ _ (⟨by decide, by decide⟩ : In 1 0 1) hP hD hS (lv_sub hl [0, 1] rfl)
  exact hJ2 ((9 - (0 : Int32).toInt).toNat + 1) 0 _ _ _ _ (⟨by decide, by decide⟩ : In 0 0 9) hP hD hS hT hfr (lv_sub hl [1, 0] rfl) (msI _)

abbrev rm_X11_begins : Room := { frames := 1, cells := 0, slots := 0, locals := 21 }
abbrev po_X11_begins (g : GG) (ad : Nat → Nat) (th : Nat → Int) (L : List Nat) (f : HP)  : (List Nat × HP) → Prop := fun u => u.1 = L ∧ (∃ zg zz zv : Int, (zg = 0 ∧ zz = 0 ∧ zv = 2126) ∧ TI g ad (gset (gset (gset th 18 zg) 19 zz) 22 zv) u.2) ∧ (∀ b, b ≠ (ad 255) → b ≠ (ad 271) → b ≠ (ad 261) → b ≠ (ad 262) → u.2 b = f b)
set_option maxHeartbeats 4000000 in
set_option maxRecDepth 100000 in
theorem s_X11_begins (l : Launch) (g : GG) (ad : Nat → Nat) (th : Nat → Int) (L : List Nat) (f : HP) (sz : Nat)  (hst : ST ad L) (hT : TI g ad th f) (h20 : 0 ≤ th 20) (hl21 : th 11 = th 21) : MtV l g yX11_begins cX11_begins 2 rm_X11_begins [.ref (ad 255)] L f sz (po_X11_begins g ad th L f ) := by
  refine MtV.of (by decide +kernel) (Nat.le_of_ble_eq_true rfl) ?_
  intro p e s m below meth c A hEn hP hD hS ls hl
  obtain ⟨hx, hb, hr, hml, hown, hlocks, hts, hG, hA, hE, hnm⟩ := hEn
  have hown : s.vm.findClass "RulerWordModel" = some m.cls := hown
  have hl : lv_has ls 2 [(0, .ref (ad 255))] := hl
  have hfr : (∀ b, b ≠ (ad 255) → b ≠ (ad 271) → b ≠ (ad 261) → b ≠ (ad 262) → f b = f b) := fun b z0_ z1_ z2_ z3_ => rfl
  have hT := TI.w22 hT
  refine lv_aload_n hx hb dX11_begins_0 rfl (lv_at hl 0 rfl) ?_
  refine M0e hT (fun v0_1 v2_1 v3_1 v4_1 v5_1 v6_1 v8_1 v9_1 v12_1 v13_1 v14_1 v15_1 v16_1 v17_1 v18_1 v19_1 v20_1 v21_1 v22_1 v23_1 v25_1 v36_1 v37_1 v38_1 v39_1 v40_1 v45_1 v46_1 v47_1 v48_1 v50_1 v51_1 v53_1 v55_1 hf2 hv0_1 hv2_1 hg2_1 hv3_1 hg3_1 hv4_1 hg4_1 hv5_1 hg5_1 hv6_1 hg6_1 hv8_1 hg8_1 hv9_1 hg9_1 hv12_1 hv13_1 hg13_1 hv14_1 hg14_1 hv15_1 hg15_1 hv17_1 hg17_1 hv20_1 hg20_1 hv23_1 hg23_1 hv25_1 hg25_1 hv36_1 hg36_1 hv47_1 hg47_1 hv48_1 hg48_1 hv53_1 hg53_1 hv55_1 hg55_1 hrel0_1 => ?_)
  have hg15_1 : v15_1.toInt = th 11 := hg15_1
  have hg17_1 : v17_1.toInt = th 12 := hg17_1
  have hg20_1 : v20_1.toInt = th 14 := hg20_1
  refine call_v (run_V (rm := rm_X11_startsAnew) hx hb hml hown hts (s_X11_startsAnew l g ad (gset th 22 0) _ _ _  hst hT ) cV_X11_startsAnew wg_1616 ⟨Nat.le_of_ble_eq_true rfl, Nat.le_of_ble_eq_true rfl⟩ hG hE hA hP hD hS (hst.1 255 (by decide)) hf2 rfl rfl hl.1 (As := []) (rest := []) rfl (Nat.le_of_ble_eq_true rfl) dX11_begins_1 ⟨Nat.le_of_ble_eq_true rfl, Nat.le_of_ble_eq_true rfl⟩) hA hD hS (fun L4 f5 H locs hp6 hP hD hS => ?_)
  obtain ⟨eL7L, eL7T, eL7F⟩ := hp6
  have eL7L : L4 = L := eL7L
  rw [eL7L] at hP hD
  have hT : TI g ad (gset (gset th 22 0) 18 0) f5 := eL7T
  have eL7F : ∀ b, b ≠ (ad 255) → b ≠ (ad 261) → b ≠ (ad 262) → f5 b = f b := eL7F
  have hfr : (∀ b, b ≠ (ad 255) → b ≠ (ad 271) → b ≠ (ad 261) → b ≠ (ad 262) → f5 b = f b) := fun b z0_ z1_ z2_ z3_ => (eL7F b z0_ z2_ z3_).trans (hfr b z0_ z1_ z2_ z3_)
  refine lv_iconst (v := 0) hx hb dX11_begins_4 (by decide) ?_
  refine lv_istore_n (lv' := [(1, .int 0), (0, .ref (ad 255))]) hx hb dX11_begins_5 rfl hl (by decide) rfl (fun ls hl => ?_)
  have hJ6 : ∀ (k6 : Nat) (y6_l1 : Int32) (f_6 : HP) (H : Heap) (locs : List Loc) (ls : Array Slot), In y6_l1 0 2147483647 → va_P g.1 vwCl (va_pl L f_6) H → va_D A (va_pl L f_6) → va_S A s.heap H locs → TI g ad (gset (gset th 22 0) 18 0) f_6 → (∀ b, b ≠ (ad 255) → b ≠ (ad 271) → b ≠ (ad 261) → b ≠ (ad 262) → f_6 b = f b) → lv_has ls 2 [(0, .ref (ad 255)), (1, .int y6_l1)] → 2147483647 - y6_l1.toInt < ((k6 : Nat) : Int) → W p l e rm_X11_begins s m [.ref (ad 255)].toArray below meth c H locs 0 0 (MQ below (va_Qv (po_X11_begins g ad th L f ) (PstB g A) A) [.ref (ad 255)].toArray s rm_X11_begins.cells rm_X11_begins.slots A) (F0 m 6 ls []) := by
    intro k6
    induction k6 with
    | zero =>
      intro y6_l1 f_6 H locs ls hy6_l1 hP hD hS hT hfr hl hmz6
      exact ms0 hy6_l1 hmz6
    | succ k6 ih6 =>
      intro y6_l1 f_6 H locs ls hy6_l1 hP hD hS hT hfr hl hmz6
      refine lv_iload_n hx hb dX11_begins_6 rfl (lv_at hl 1 rfl) ?_
      refine lv_sipush (v := 2126) hx hb dX11_begins_7 (by decide) ?_
      refine lv_icmp_ge (tgt := 26) hx hb dX11_begins_10 (by decide) (fun c8 => ?_) (fun c8 => ?_)
      ·
        have oc2126 : (2126 : Int32).toInt = 2126 := by decide
        have cc9 : (2126 : Int32).toInt ≤ y6_l1.toInt := i32_le.mp c8
        have hb10 : In y6_l1 2126 2147483647 := In.ge1 hy6_l1 (⟨by decide, by decide⟩ : In 2126 2126 2126) cc9 (by decide) (by decide)
        refine lv_aload_n hx hb dX11_begins_26 rfl (lv_at hl 0 rfl) ?_
        refine M0e hT (fun v0_11 v2_11 v3_11 v4_11 v5_11 v6_11 v8_11 v9_11 v12_11 v13_11 v14_11 v15_11 v16_11 v17_11 v18_11 v19_11 v20_11 v21_11 v22_11 v23_11 v25_11 v36_11 v37_11 v38_11 v39_11 v40_11 v45_11 v46_11 v47_11 v48_11 v50_11 v51_11 v53_11 v55_11 hf12 hv0_11 hv2_11 hg2_11 hv3_11 hg3_11 hv4_11 hg4_11 hv5_11 hg5_11 hv6_11 hg6_11 hv8_11 hg8_11 hv9_11 hg9_11 hv12_11 hv13_11 hg13_11 hv14_11 hg14_11 hv15_11 hg15_11 hv17_11 hg17_11 hv20_11 hg20_11 hv23_11 hg23_11 hv25_11 hg25_11 hv36_11 hg36_11 hv47_11 hg47_11 hv48_11 hg48_11 hv53_11 hg53_11 hv55_11 hg55_11 hrel0_11 => ?_)
        have hg15_11 : v15_11.toInt = th 11 := hg15_11
        have hg17_11 : v17_11.toInt = th 12 := hg17_11
        have hg20_11 : v20_11.toInt = th 14 := hg20_11
        refine call_v (run_V (rm := rm_X11_laysDown) hx hb hml hown hts (s_X11_laysDown l g ad (gset (gset th 22 0) 18 0) _ _ _  hst hT (show 0 ≤ (th 20) from (by have ob10 : (0 : Int) ≤ (th 10) ∧ (th 10) ≤ 1 := (b0_10 hT :); have ob11 : (0 : Int) ≤ (th 11) ∧ (th 11) ≤ 9 := (b0_11 hT :); have ob12 : (0 : Int) ≤ (th 12) ∧ (th 12) ≤ 6 := (b0_12 hT :); have ob14 : (0 : Int) ≤ (th 14) ∧ (th 14) ≤ 511 := (b0_14 hT :); have ob15 : (0 : Int) ≤ (th 15) ∧ (th 15) ≤ 1 := (b0_15 hT :); have ob16 : (0 : Int) ≤ (th 16) ∧ (th 16) ≤ 20 := (b0_16 hT :); have ob17 : (0 : Int) ≤ (th 17) ∧ (th 17) ≤ 1 := (b0_17 hT :); have ob18 : (0 : Int) ≤ (0 : Int) ∧ (0 : Int) ≤ 18 := (b0_18 hT :); have ob38 : (0 : Int) ≤ (th 38) ∧ (th 38) ≤ 400 := (b0_38 hT :); have ob39 : (0 : Int) ≤ (th 39) ∧ (th 39) ≤ 200 := (b0_39 hT :); have ob44 : (0 : Int) ≤ (th 44) ∧ (th 44) ≤ 30 := (b0_44 hT :); have orn := rnd_b (th 10); obtain ⟨o0a, o0b⟩ := (hv14_11 : In _ _ _); obtain ⟨o1a, o1b⟩ := (hv15_11 : In _ _ _); obtain ⟨o2a, o2b⟩ := (hv17_11 : In _ _ _); obtain ⟨o3a, o3b⟩ := (hv20_11 : In _ _ _); obtain ⟨o4a, o4b⟩ := (hv23_11 : In _ _ _); obtain ⟨o5a, o5b⟩ := (hv25_11 : In _ _ _); obtain ⟨o6a, o6b⟩ := (hv36_11 : In _ _ _); obtain ⟨o7a, o7b⟩ := (hv47_11 : In _ _ _); obtain ⟨o8a, o8b⟩ := (hv48_11 : In _ _ _); obtain ⟨o9a, o9b⟩ := (hv53_11 : In _ _ _); obtain ⟨o10a, o10b⟩ := (hv55_11 : In _ _ _); omega)) (show (th 11) = (th 21) from (by have ob10 : (0 : Int) ≤ (th 10) ∧ (th 10) ≤ 1 := (b0_10 hT :); have ob11 : (0 : Int) ≤ (th 11) ∧ (th 11) ≤ 9 := (b0_11 hT :); have ob12 : (0 : Int) ≤ (th 12) ∧ (th 12) ≤ 6 := (b0_12 hT :); have ob14 : (0 : Int) ≤ (th 14) ∧ (th 14) ≤ 511 := (b0_14 hT :); have ob15 : (0 : Int) ≤ (th 15) ∧ (th 15) ≤ 1 := (b0_15 hT :); have ob16 : (0 : Int) ≤ (th 16) ∧ (th 16) ≤ 20 := (b0_16 hT :); have ob17 : (0 : Int) ≤ (th 17) ∧ (th 17) ≤ 1 := (b0_17 hT :); have ob18 : (0 : Int) ≤ (0 : Int) ∧ (0 : Int) ≤ 18 := (b0_18 hT :); have ob38 : (0 : Int) ≤ (th 38) ∧ (th 38) ≤ 400 := (b0_38 hT :); have ob39 : (0 : Int) ≤ (th 39) ∧ (th 39) ≤ 200 := (b0_39 hT :); have ob44 : (0 : Int) ≤ (th 44) ∧ (th 44) ≤ 30 := (b0_44 hT :); have orn := rnd_b (th 10); obtain ⟨o0a, o0b⟩ := (hv14_11 : In _ _ _); obtain ⟨o1a, o1b⟩ := (hv15_11 : In _ _ _); obtain ⟨o2a, o2b⟩ := (hv17_11 : In _ _ _); obtain ⟨o3a, o3b⟩ := (hv20_11 : In _ _ _); obtain ⟨o4a, o4b⟩ := (hv23_11 : In _ _ _); obtain ⟨o5a, o5b⟩ := (hv25_11 : In _ _ _); obtain ⟨o6a, o6b⟩ := (hv36_11 : In _ _ _); obtain ⟨o7a, o7b⟩ := (hv47_11 : In _ _ _); obtain ⟨o8a, o8b⟩ := (hv48_11 : In _ _ _); obtain ⟨o9a, o9b⟩ := (hv53_11 : In _ _ _); obtain ⟨o10a, o10b⟩ := (hv55_11 : In _ _ _); omega))) cV_X11_laysDown wg_1620 ⟨Nat.le_of_ble_eq_true rfl, Nat.le_of_ble_eq_true rfl⟩ hG hE hA hP hD hS (hst.1 255 (by decide)) hf12 rfl rfl hl.1 (As := []) (rest := []) rfl (Nat.le_of_ble_eq_true rfl) dX11_begins_27 ⟨Nat.le_of_ble_eq_true rfl, Nat.le_of_ble_eq_true rfl⟩) hA hD hS (fun L14 f15 H locs hp16 hP hD hS => ?_)
        obtain ⟨eL17L, eL17T, eL17F⟩ := hp16
        have eL17L : L14 = L := eL17L
        rw [eL17L] at hP hD
        obtain ⟨zz18, zz19, hzz18, eL17T⟩ := eL17T
        have hzz18 : zz18 = 0 ∧ zz19 = 2126 := hzz18
        have hT : TI g ad (gset (gset (gset (gset th 22 0) 18 0) 19 zz18) 22 zz19) f15 := eL17T
        have hT : TI g ad (gset (gset (gset th 18 0) 19 zz18) 22 zz19) f15 := TI.cast hT (by funext q; by_cases hq0 : q = 22; (subst hq0; rfl); by_cases hq1 : q = 19; (subst hq1; rfl); by_cases hq2 : q = 18; (subst hq2; rfl); simp only [gset, if_neg hq0, if_neg hq1, if_neg hq2])
        have eL17F : ∀ b, b ≠ (ad 255) → b ≠ (ad 271) → f15 b = f_6 b := eL17F
        have hfr : (∀ b, b ≠ (ad 255) → b ≠ (ad 271) → b ≠ (ad 261) → b ≠ (ad 262) → f15 b = f b) := fun b z0_ z1_ z2_ z3_ => (eL17F b z0_ z1_).trans (hfr b z0_ z1_ z2_ z3_)
        exact ret_v hx hb hr hlocks hP hD hS (Nat.le_of_ble_eq_true rfl) (Nat.le_of_ble_eq_true rfl) (⟨rfl, ⟨(0 : Int), zz18, zz19, (show (0 : Int) = 0 ∧ zz18 = 0 ∧ zz19 = 2126 from (by have ob10 : (0 : Int) ≤ (th 10) ∧ (th 10) ≤ 1 := (b0_10 hT :); have ob11 : (0 : Int) ≤ (th 11) ∧ (th 11) ≤ 9 := (b0_11 hT :); have ob12 : (0 : Int) ≤ (th 12) ∧ (th 12) ≤ 6 := (b0_12 hT :); have ob14 : (0 : Int) ≤ (th 14) ∧ (th 14) ≤ 511 := (b0_14 hT :); have ob15 : (0 : Int) ≤ (th 15) ∧ (th 15) ≤ 1 := (b0_15 hT :); have ob16 : (0 : Int) ≤ (th 16) ∧ (th 16) ≤ 20 := (b0_16 hT :); have ob17 : (0 : Int) ≤ (th 17) ∧ (th 17) ≤ 1 := (b0_17 hT :); have ob18 : (0 : Int) ≤ (0 : Int) ∧ (0 : Int) ≤ 18 := (b0_18 hT :); have ob38 : (0 : Int) ≤ (th 38) ∧ (th 38) ≤ 400 := (b0_38 hT :); have ob39 : (0 : Int) ≤ (th 39) ∧ (th 39) ≤ 200 := (b0_39 hT :); have ob44 : (0 : Int) ≤ (th 44) ∧ (th 44) ≤ 30 := (b0_44 hT :); have orn := rnd_b (th 10); obtain ⟨o0a, o0b⟩ := (hb10 : In _ _ _); omega)), TI.cast hT (by funext q; by_cases hq0 : q = 22; (subst hq0; rfl); by_cases hq1 : q = 19; (subst hq1; rfl); by_cases hq2 : q = 18; (subst hq2; rfl); simp only [gset, if_neg hq0, if_neg hq1, if_neg hq2])⟩, hfr⟩) dX11_begins_30
      ·
        have oc2126 : (2126 : Int32).toInt = 2126 := by decide
        have cc20 : y6_l1.toInt < (2126 : Int32).toInt := i32_nle c8
        have hb21 : In y6_l1 0 2125 := In.lt1 hy6_l1 (⟨by decide, by decide⟩ : In 2126 2126 2126) cc20 (by decide) (by decide)
        refine lv_aload_n hx hb dX11_begins_13 rfl (lv_at hl 0 rfl) ?_
        refine M0e hT (fun v0_22 v2_22 v3_22 v4_22 v5_22 v6_22 v8_22 v9_22 v12_22 v13_22 v14_22 v15_22 v16_22 v17_22 v18_22 v19_22 v20_22 v21_22 v22_22 v23_22 v25_22 v36_22 v37_22 v38_22 v39_22 v40_22 v45_22 v46_22 v47_22 v48_22 v50_22 v51_22 v53_22 v55_22 hf23 hv0_22 hv2_22 hg2_22 hv3_22 hg3_22 hv4_22 hg4_22 hv5_22 hg5_22 hv6_22 hg6_22 hv8_22 hg8_22 hv9_22 hg9_22 hv12_22 hv13_22 hg13_22 hv14_22 hg14_22 hv15_22 hg15_22 hv17_22 hg17_22 hv20_22 hg20_22 hv23_22 hg23_22 hv25_22 hg25_22 hv36_22 hg36_22 hv47_22 hg47_22 hv48_22 hg48_22 hv53_22 hg53_22 hv55_22 hg55_22 hrel0_22 => ?_)
        have hg15_22 : v15_22.toInt = th 11 := hg15_22
        have hg17_22 : v17_22.toInt = th 12 := hg17_22
        have hg20_22 : v20_22.toInt = th 14 := hg20_22
        refine pl_get (v := .ref (ad 271)) hx hb hts (fun w h => mT (inX11 w h)) hown hG.1 hP (hst.1 255 (by decide)) hf23 rfl 41 (by decide) (hts _ (mT wg_1377)) (fun _ h => h) rfl dX11_begins_14 ?_
        refine lv_iload_n hx hb dX11_begins_17 rfl (lv_at hl 1 rfl) ?_
        refine lv_iconst (v := (-1)) hx hb dX11_begins_18 (by decide) ?_
        obtain ⟨rw24, hf25, hpi27, hc26⟩ := hT.2.2 16 (by decide)
        have hc26 : PRW 2126 (0) (th 20) (th 21) rw24 := hc26
        have hpi27 : ((72 : Int) < 0 → (rw24 72).toInt = th 19) := hpi27
        refine pl_iastE hx hb hG.1 hP hD hS (hst.1 271 (by decide)) 0 hf25 rfl (In.inb hb21 (by decide) (by decide)) dX11_begins_19 (fun H locs f28 r31 er31 hf29 ho30 hP hD hS => ?_)
        have hc32 : PRW 2126 (0) (th 20) (th 21) r31 := prw_0 (by decide)
        have hf33 := (ho30 (ad 255) (hst.ne (by decide) (by decide) (by decide))).trans hf23
        have hfr : (∀ b, b ≠ (ad 255) → b ≠ (ad 271) → b ≠ (ad 261) → b ≠ (ad 262) → f28 b = f b) := fun b z0_ z1_ z2_ z3_ => (ho30 b z1_).trans (hfr b z0_ z1_ z2_ z3_)
        obtain ⟨x34, ex34⟩ : ∃ y : Int32, y = y6_l1 + 1 := ⟨_, rfl⟩
        have hb35 : In x34 1 2126 := ex34 ▸ In.add hb21 (⟨by decide, by decide⟩ : In 1 1 1) (by decide) (by decide) (by decide) (by decide)
        have et36 : x34.toInt = y6_l1.toInt + 1 := In.adde ex34 hb21 (k := 1) (by decide) (by decide) (by decide)
        refine lv_iinc (v := x34) (lv' := [(1, .int x34), (0, .ref (ad 255))]) hx hb dX11_begins_20 hl (k := 1) rfl (by rw [ex34]; rfl) (by decide) rfl (fun ls hl => ?_)
        have hT := TI.updM hT hst (k := 16) (by decide) hf29 ho30 ⟨r31, rfl, (fun q => absurd (show (72 : Int) < 0 from q) (by decide)), hc32⟩
        refine lv_goto (tgt := 6) hx hb dX11_begins_23 (by decide) ?_
        exact ih6 x34 _ _ _ _ (In.mono hb35 (by decide) (by decide)) hP hD hS hT hfr (lv_sub hl [1, 0] rfl) (msu et36 (by decide) hmz6)
  exact hJ6 ((2147483647 - (0 : Int32).toInt).toNat + 1) 0 _ _ _ _ (⟨by decide, by decide⟩ : In 0 0 2147483647) hP hD hS hT hfr (lv_sub hl [1, 0] rfl) (msI _)

abbrev rm_X11_keeps : Room := { frames := 0, cells := 0, slots := 0, locals := 0 }
abbrev po_X11_keeps (g : GG) (ad : Nat → Nat) (th : Nat → Int) (L : List Nat) (f : HP)  : (List Nat × HP) → Prop := fun u => u.1 = L ∧ (∃ zc zv : Int, ((1 ≤ zc ∧ zc ≤ 20) ∧ zv = 2126 * zc) ∧ TI g ad (gset (gset th 16 zc) 24 zv) u.2) ∧ (∀ b, b ≠ (ad 255) → b ≠ (ad 273) → b ≠ (ad 274) → u.2 b = f b)
set_option maxHeartbeats 4000000 in
set_option maxRecDepth 100000 in
theorem s_X11_keeps (l : Launch) (g : GG) (ad : Nat → Nat) (th : Nat → Int) (L : List Nat) (f : HP) (sz : Nat)  (hst : ST ad L) (hT : TI g ad th f) (hM : MI th) : MtV l g yX11_keeps cX11_keeps 2 rm_X11_keeps [.ref (ad 255)] L f sz (po_X11_keeps g ad th L f ) := by
  refine MtV.of (by decide +kernel) (Nat.le_of_ble_eq_true rfl) ?_
  intro p e s m below meth c A hEn hP hD hS ls hl
  obtain ⟨hx, hb, hr, hml, hown, hlocks, hts, hG, hA, hE, hnm⟩ := hEn
  have hown : s.vm.findClass "RulerWordModel" = some m.cls := hown
  have hl : lv_has ls 2 [(0, .ref (ad 255))] := hl
  have hfr : (∀ b, b ≠ (ad 255) → b ≠ (ad 273) → b ≠ (ad 274) → f b = f b) := fun b z0_ z1_ z2_ => rfl
  have hM0 := hM
  obtain ⟨m1, m2, m3, m4, m5, m6, m7, m8, m9, m10⟩ := hM0
  have m20 := mi20 m2 m3
  refine lv_aload_n hx hb dX11_keeps_0 rfl (lv_at hl 0 rfl) ?_
  refine M0e hT (fun v0_1 v2_1 v3_1 v4_1 v5_1 v6_1 v8_1 v9_1 v12_1 v13_1 v14_1 v15_1 v16_1 v17_1 v18_1 v19_1 v20_1 v21_1 v22_1 v23_1 v25_1 v36_1 v37_1 v38_1 v39_1 v40_1 v45_1 v46_1 v47_1 v48_1 v50_1 v51_1 v53_1 v55_1 hf2 hv0_1 hv2_1 hg2_1 hv3_1 hg3_1 hv4_1 hg4_1 hv5_1 hg5_1 hv6_1 hg6_1 hv8_1 hg8_1 hv9_1 hg9_1 hv12_1 hv13_1 hg13_1 hv14_1 hg14_1 hv15_1 hg15_1 hv17_1 hg17_1 hv20_1 hg20_1 hv23_1 hg23_1 hv25_1 hg25_1 hv36_1 hg36_1 hv47_1 hg47_1 hv48_1 hg48_1 hv53_1 hg53_1 hv55_1 hg55_1 hrel0_1 => ?_)
  have hg15_1 : v15_1.toInt = th 11 := hg15_1
  have hg17_1 : v17_1.toInt = th 12 := hg17_1
  have hg20_1 : v20_1.toInt = th 14 := hg20_1
  refine pl_get (v := .int v47_1) hx hb hts (fun w h => mT (inX11 w h)) hown hG.1 hP (hst.1 255 (by decide)) hf2 rfl 47 (by decide) (hts _ (mT wg_1383)) (fun _ h => h) rfl dX11_keeps_1 ?_
  have hg47_1 : v47_1.toInt = th 16 := hg47_1
  refine lv_bipush (v := 20) hx hb dX11_keeps_4 (by decide) ?_
  have hJ79 : ∀ (zg79_zc : Int) (zg79_zv : Int) (f_79 : HP) (H : Heap) (locs : List Loc) (ls : Array Slot), (0 ≤ zg79_zc ∧ zg79_zc ≤ 19 ∧ zg79_zv = 2126 * zg79_zc) → va_P g.1 vwCl (va_pl L f_79) H → va_D A (va_pl L f_79) → va_S A s.heap H locs → TI g ad (gset (gset th 16 zg79_zc) 24 zg79_zv) f_79 → (∀ b, b ≠ (ad 255) → b ≠ (ad 273) → b ≠ (ad 274) → f_79 b = f b) → lv_has ls 2 [(0, .ref (ad 255))] → W p l e rm_X11_keeps s m [.ref (ad 255)].toArray below meth c H locs 0 0 (MQ below (va_Qv (po_X11_keeps g ad th L f ) (PstB g A) A) [.ref (ad 255)].toArray s rm_X11_keeps.cells rm_X11_keeps.slots A) (F0 m 79 ls []) := by
    intro zg79_zc zg79_zv f_79 H locs ls hzg79 hP hD hS hT hfr hl
    refine lv_iconst (v := 0) hx hb dX11_keeps_79 (by decide) ?_
    refine lv_istore_n (lv' := [(1, .int 0), (0, .ref (ad 255))]) hx hb dX11_keeps_80 rfl hl (by decide) rfl (fun ls hl => ?_)
    have hJ81 : ∀ (k81 : Nat) (zg81_zv : Int) (y81_l1 : Int32) (f_81 : HP) (H : Heap) (locs : List Loc) (ls : Array Slot), (zg81_zv = 2126 * zg79_zc + y81_l1.toInt) → In y81_l1 0 2126 → va_P g.1 vwCl (va_pl L f_81) H → va_D A (va_pl L f_81) → va_S A s.heap H locs → TI g ad (gset (gset th 16 zg79_zc) 24 zg81_zv) f_81 → (∀ b, b ≠ (ad 255) → b ≠ (ad 273) → b ≠ (ad 274) → f_81 b = f b) → lv_has ls 2 [(0, .ref (ad 255)), (1, .int y81_l1)] → 2126 - y81_l1.toInt < ((k81 : Nat) : Int) → W p l e rm_X11_keeps s m [.ref (ad 255)].toArray below meth c H locs 0 0 (MQ below (va_Qv (po_X11_keeps g ad th L f ) (PstB g A) A) [.ref (ad 255)].toArray s rm_X11_keeps.cells rm_X11_keeps.slots A) (F0 m 81 ls []) := by
      intro k81
      induction k81 with
      | zero =>
        intro zg81_zv y81_l1 f_81 H locs ls hzg81 hy81_l1 hP hD hS hT hfr hl hmz81
        exact ms0 hy81_l1 hmz81
      | succ k81 ih81 =>
        intro zg81_zv y81_l1 f_81 H locs ls hzg81 hy81_l1 hP hD hS hT hfr hl hmz81
        refine lv_iload_n hx hb dX11_keeps_81 rfl (lv_at hl 1 rfl) ?_
        refine lv_sipush (v := 2126) hx hb dX11_keeps_82 (by decide) ?_
        refine lv_icmp_ge (tgt := 115) hx hb dX11_keeps_85 (by decide) (fun c3 => ?_) (fun c3 => ?_)
        ·
          have oc2126 : (2126 : Int32).toInt = 2126 := by decide
          have cc4 : (2126 : Int32).toInt ≤ y81_l1.toInt := i32_le.mp c3
          have hb5 : In y81_l1 2126 2126 := In.ge1 hy81_l1 (⟨by decide, by decide⟩ : In 2126 2126 2126) cc4 (by decide) (by decide)
          refine lv_aload_n hx hb dX11_keeps_115 rfl (lv_at hl 0 rfl) ?_
          refine M0e hT (fun v0_6 v2_6 v3_6 v4_6 v5_6 v6_6 v8_6 v9_6 v12_6 v13_6 v14_6 v15_6 v16_6 v17_6 v18_6 v19_6 v20_6 v21_6 v22_6 v23_6 v25_6 v36_6 v37_6 v38_6 v39_6 v40_6 v45_6 v46_6 v47_6 v48_6 v50_6 v51_6 v53_6 v55_6 hf7 hv0_6 hv2_6 hg2_6 hv3_6 hg3_6 hv4_6 hg4_6 hv5_6 hg5_6 hv6_6 hg6_6 hv8_6 hg8_6 hv9_6 hg9_6 hv12_6 hv13_6 hg13_6 hv14_6 hg14_6 hv15_6 hg15_6 hv17_6 hg17_6 hv20_6 hg20_6 hv23_6 hg23_6 hv25_6 hg25_6 hv36_6 hg36_6 hv47_6 hg47_6 hv48_6 hg48_6 hv53_6 hg53_6 hv55_6 hg55_6 hrel0_6 => ?_)
          have hg15_6 : v15_6.toInt = th 11 := hg15_6
          have hg17_6 : v17_6.toInt = th 12 := hg17_6
          have hg20_6 : v20_6.toInt = th 14 := hg20_6
          refine pl_get (v := .ref (ad 274)) hx hb hts (fun w h => mT (inX11 w h)) hown hG.1 hP (hst.1 255 (by decide)) hf7 rfl 44 (by decide) (hts _ (mT wg_1380)) (fun _ h => h) rfl dX11_keeps_116 ?_
          refine lv_aload_n hx hb dX11_keeps_119 rfl (lv_at hl 0 rfl) ?_
          refine pl_get (v := .int v47_6) hx hb hts (fun w h => mT (inX11 w h)) hown hG.1 hP (hst.1 255 (by decide)) hf7 rfl 47 (by decide) (hts _ (mT wg_1383)) (fun _ h => h) rfl dX11_keeps_120 ?_
          have hg47_6 : v47_6.toInt = zg79_zc := hg47_6
          refine lv_aload_n hx hb dX11_keeps_123 rfl (lv_at hl 0 rfl) ?_
          refine pl_get (v := .long v45_6) hx hb hts (fun w h => mT (inX11 w h)) hown hG.1 hP (hst.1 255 (by decide)) hf7 rfl 45 (by decide) (hts _ (mT wg_1381)) (fun _ h => h) rfl dX11_keeps_124 ?_
          obtain ⟨rw8, hf9⟩ := hT.2.2 19 (by decide)
          refine pl_lastE hx hb hG.1 hP hD hS (hst.1 274 (by decide)) 1 hf9 rfl (vp_of (by have ob10 : (0 : Int) ≤ (th 10) ∧ (th 10) ≤ 1 := (b0_10 hT :); have ob11 : (0 : Int) ≤ (th 11) ∧ (th 11) ≤ 9 := (b0_11 hT :); have ob12 : (0 : Int) ≤ (th 12) ∧ (th 12) ≤ 6 := (b0_12 hT :); have ob14 : (0 : Int) ≤ (th 14) ∧ (th 14) ≤ 511 := (b0_14 hT :); have ob15 : (0 : Int) ≤ (th 15) ∧ (th 15) ≤ 1 := (b0_15 hT :); have ob16 : (0 : Int) ≤ zg79_zc ∧ zg79_zc ≤ 20 := (b0_16 hT :); have ob17 : (0 : Int) ≤ (th 17) ∧ (th 17) ≤ 1 := (b0_17 hT :); have ob18 : (0 : Int) ≤ (th 18) ∧ (th 18) ≤ 18 := (b0_18 hT :); have ob38 : (0 : Int) ≤ (th 38) ∧ (th 38) ≤ 400 := (b0_38 hT :); have ob39 : (0 : Int) ≤ (th 39) ∧ (th 39) ≤ 200 := (b0_39 hT :); have ob44 : (0 : Int) ≤ (th 44) ∧ (th 44) ≤ 30 := (b0_44 hT :); have orn := rnd_b (th 10); obtain ⟨o0a, o0b⟩ := (hv47_6 : In _ _ _); obtain ⟨o1a, o1b⟩ := (hv14_6 : In _ _ _); obtain ⟨o2a, o2b⟩ := (hv15_6 : In _ _ _); obtain ⟨o3a, o3b⟩ := (hv17_6 : In _ _ _); obtain ⟨o4a, o4b⟩ := (hv20_6 : In _ _ _); obtain ⟨o5a, o5b⟩ := (hv23_6 : In _ _ _); obtain ⟨o6a, o6b⟩ := (hv25_6 : In _ _ _); obtain ⟨o7a, o7b⟩ := (hv36_6 : In _ _ _); obtain ⟨o8a, o8b⟩ := (hv48_6 : In _ _ _); obtain ⟨o9a, o9b⟩ := (hv53_6 : In _ _ _); obtain ⟨o10a, o10b⟩ := (hv55_6 : In _ _ _); omega) (by have ob10 : (0 : Int) ≤ (th 10) ∧ (th 10) ≤ 1 := (b0_10 hT :); have ob11 : (0 : Int) ≤ (th 11) ∧ (th 11) ≤ 9 := (b0_11 hT :); have ob12 : (0 : Int) ≤ (th 12) ∧ (th 12) ≤ 6 := (b0_12 hT :); have ob14 : (0 : Int) ≤ (th 14) ∧ (th 14) ≤ 511 := (b0_14 hT :); have ob15 : (0 : Int) ≤ (th 15) ∧ (th 15) ≤ 1 := (b0_15 hT :); have ob16 : (0 : Int) ≤ zg79_zc ∧ zg79_zc ≤ 20 := (b0_16 hT :); have ob17 : (0 : Int) ≤ (th 17) ∧ (th 17) ≤ 1 := (b0_17 hT :); have ob18 : (0 : Int) ≤ (th 18) ∧ (th 18) ≤ 18 := (b0_18 hT :); have ob38 : (0 : Int) ≤ (th 38) ∧ (th 38) ≤ 400 := (b0_38 hT :); have ob39 : (0 : Int) ≤ (th 39) ∧ (th 39) ≤ 200 := (b0_39 hT :); have ob44 : (0 : Int) ≤ (th 44) ∧ (th 44) ≤ 30 := (b0_44 hT :); have orn := rnd_b (th 10); obtain ⟨o0a, o0b⟩ := (hv47_6 : In _ _ _); obtain ⟨o1a, o1b⟩ := (hv14_6 : In _ _ _); obtain ⟨o2a, o2b⟩ := (hv15_6 : In _ _ _); obtain ⟨o3a, o3b⟩ := (hv17_6 : In _ _ _); obtain ⟨o4a, o4b⟩ := (hv20_6 : In _ _ _); obtain ⟨o5a, o5b⟩ := (hv23_6 : In _ _ _); obtain ⟨o6a, o6b⟩ := (hv25_6 : In _ _ _); obtain ⟨o7a, o7b⟩ := (hv36_6 : In _ _ _); obtain ⟨o8a, o8b⟩ := (hv48_6 : In _ _ _); obtain ⟨o9a, o9b⟩ := (hv53_6 : In _ _ _); obtain ⟨o10a, o10b⟩ := (hv55_6 : In _ _ _); omega)) dX11_keeps_127 (fun H locs f10 r13 er13 hf11 ho12 hP hD hS => ?_)
          have hf14 := (ho12 (ad 255) (hst.ne (by decide) (by decide) (by decide))).trans hf7
          have hfr : (∀ b, b ≠ (ad 255) → b ≠ (ad 273) → b ≠ (ad 274) → f10 b = f b) := fun b z0_ z1_ z2_ => (ho12 b z2_).trans (hfr b z0_ z1_ z2_)
          refine lv_aload_n hx hb dX11_keeps_128 rfl (lv_at hl 0 rfl) ?_
          refine lv_dup hx hb dX11_keeps_129 rfl ?_
          refine pl_get (v := .int v47_6) hx hb hts (fun w h => mT (inX11 w h)) hown hG.1 hP (hst.1 255 (by decide)) hf14 rfl 47 (by decide) (hts _ (mT wg_1383)) (fun _ h => h) rfl dX11_keeps_130 ?_
          refine lv_iconst (v := 1) hx hb dX11_keeps_133 (by decide) ?_
          refine lv_iadd hx hb dX11_keeps_134 ?_
          refine lv_topi (fun x15 ex15 => ?_)
          have hb16 : In x15 1 21 := ex15 ▸ In.add hv47_6 (⟨by decide, by decide⟩ : In 1 1 1) (by decide) (by decide) (by decide) (by decide)
          have et17 : x15.toInt = v47_6.toInt + 1 := In.adde ex15 hv47_6 (k := 1) (by decide) (by decide) (by decide)
          have hT := TI.updM hT hst (k := 19) (by decide) hf11 ho12 ⟨r13, rfl⟩
          refine pl_put (ty := .int) (v := .int x15) (fs' := [.int v0_6, .ref (ad 256), .int v2_6, .int v3_6, .int v4_6, .int v5_6, .int v6_6, .ref (ad 257), .int v8_6, .int v9_6, .ref (ad 258), .ref (ad 259), .int v12_6, .int v13_6, .int v14_6, .int v15_6, .int v16_6, .int v17_6, .int v18_6, .int v19_6, .int v20_6, .long v21_6, .long v22_6, .int v23_6, .ref (ad 260), .int v25_6, .ref (ad 261), .ref (ad 262), .ref (ad 263), .ref (ad 264), .ref (ad 265), .ref (ad 266), .ref (ad 267), .ref (ad 268), .ref (ad 269), .ref (ad 270), .int v36_6, .int v37_6, .int v38_6, .int v39_6, .int v40_6, .ref (ad 271), .ref (ad 272), .ref (ad 273), .ref (ad 274), .long v45_6, .long v46_6, .int x15, .int v48_6, .ref (ad 275), .int v50_6, .int v51_6, .ref (ad 276), .int v53_6, .ref (ad 277), .int v55_6]) hx hb hts (fun w h => mT (inX11 w h)) tyX11 tyX11_ok nmX11 hown hG.1 hP hD hS (hst.1 255 (by decide)) hf14 rfl 47 (by decide) (hts _ (mT wg_1383)) (fun _ h => h) rfl (by decide +kernel) (rfl) (rfl) (Nat.le_of_ble_eq_true rfl) rfl dX11_keeps_135 (fun H locs f18 hf19 ho20 hP hD hS => ?_)
          have hf21 := (ho20 (ad 274) (hst.ne (by decide) (by decide) (by decide))).trans hf11
          have hfr : (∀ b, b ≠ (ad 255) → b ≠ (ad 273) → b ≠ (ad 274) → f18 b = f b) := fun b z0_ z1_ z2_ => (ho20 b z0_).trans (hfr b z0_ z1_ z2_)
          have hT := TI.updMG (th' := (gset (gset (gset th 16 zg79_zc) 24 zg81_zv) 16 (x15.toInt))) hT hst (k := 0) (by decide) hf19 ho20 ⟨v0_6, v2_6, v3_6, v4_6, v5_6, v6_6, v8_6, v9_6, v12_6, v13_6, v14_6, v15_6, v16_6, v17_6, v18_6, v19_6, v20_6, v21_6, v22_6, v23_6, v25_6, v36_6, v37_6, v38_6, v39_6, v40_6, v45_6, v46_6, x15, v48_6, v50_6, v51_6, v53_6, v55_6, rfl, hv0_6, hv2_6, hg2_6, hv3_6, hg3_6, hv4_6, hg4_6, hv5_6, hg5_6, hv6_6, hg6_6, hv8_6, hg8_6, hv9_6, hg9_6, hv12_6, hv13_6, hg13_6, hv14_6, hg14_6, hv15_6, hg15_6, hv17_6, hg17_6, hv20_6, hg20_6, hv23_6, hg23_6, hv25_6, hg25_6, hv36_6, hg36_6, (In.mk (by have ob10 : (0 : Int) ≤ (th 10) ∧ (th 10) ≤ 1 := (b0_10 hT :); have ob11 : (0 : Int) ≤ (th 11) ∧ (th 11) ≤ 9 := (b0_11 hT :); have ob12 : (0 : Int) ≤ (th 12) ∧ (th 12) ≤ 6 := (b0_12 hT :); have ob14 : (0 : Int) ≤ (th 14) ∧ (th 14) ≤ 511 := (b0_14 hT :); have ob15 : (0 : Int) ≤ (th 15) ∧ (th 15) ≤ 1 := (b0_15 hT :); have ob16 : (0 : Int) ≤ zg79_zc ∧ zg79_zc ≤ 20 := (b0_16 hT :); have ob17 : (0 : Int) ≤ (th 17) ∧ (th 17) ≤ 1 := (b0_17 hT :); have ob18 : (0 : Int) ≤ (th 18) ∧ (th 18) ≤ 18 := (b0_18 hT :); have ob38 : (0 : Int) ≤ (th 38) ∧ (th 38) ≤ 400 := (b0_38 hT :); have ob39 : (0 : Int) ≤ (th 39) ∧ (th 39) ≤ 200 := (b0_39 hT :); have ob44 : (0 : Int) ≤ (th 44) ∧ (th 44) ≤ 30 := (b0_44 hT :); have orn := rnd_b (th 10); obtain ⟨o0a, o0b⟩ := (hb16 : In _ _ _); obtain ⟨o1a, o1b⟩ := (hv14_6 : In _ _ _); obtain ⟨o2a, o2b⟩ := (hv15_6 : In _ _ _); obtain ⟨o3a, o3b⟩ := (hv17_6 : In _ _ _); obtain ⟨o4a, o4b⟩ := (hv20_6 : In _ _ _); obtain ⟨o5a, o5b⟩ := (hv23_6 : In _ _ _); obtain ⟨o6a, o6b⟩ := (hv25_6 : In _ _ _); obtain ⟨o7a, o7b⟩ := (hv36_6 : In _ _ _); obtain ⟨o8a, o8b⟩ := (hv48_6 : In _ _ _); obtain ⟨o9a, o9b⟩ := (hv53_6 : In _ _ _); obtain ⟨o10a, o10b⟩ := (hv55_6 : In _ _ _); obtain ⟨o11a, o11b⟩ := (hv47_6 : In _ _ _); omega) (by have ob10 : (0 : Int) ≤ (th 10) ∧ (th 10) ≤ 1 := (b0_10 hT :); have ob11 : (0 : Int) ≤ (th 11) ∧ (th 11) ≤ 9 := (b0_11 hT :); have ob12 : (0 : Int) ≤ (th 12) ∧ (th 12) ≤ 6 := (b0_12 hT :); have ob14 : (0 : Int) ≤ (th 14) ∧ (th 14) ≤ 511 := (b0_14 hT :); have ob15 : (0 : Int) ≤ (th 15) ∧ (th 15) ≤ 1 := (b0_15 hT :); have ob16 : (0 : Int) ≤ zg79_zc ∧ zg79_zc ≤ 20 := (b0_16 hT :); have ob17 : (0 : Int) ≤ (th 17) ∧ (th 17) ≤ 1 := (b0_17 hT :); have ob18 : (0 : Int) ≤ (th 18) ∧ (th 18) ≤ 18 := (b0_18 hT :); have ob38 : (0 : Int) ≤ (th 38) ∧ (th 38) ≤ 400 := (b0_38 hT :); have ob39 : (0 : Int) ≤ (th 39) ∧ (th 39) ≤ 200 := (b0_39 hT :); have ob44 : (0 : Int) ≤ (th 44) ∧ (th 44) ≤ 30 := (b0_44 hT :); have orn := rnd_b (th 10); obtain ⟨o0a, o0b⟩ := (hb16 : In _ _ _); obtain ⟨o1a, o1b⟩ := (hv14_6 : In _ _ _); obtain ⟨o2a, o2b⟩ := (hv15_6 : In _ _ _); obtain ⟨o3a, o3b⟩ := (hv17_6 : In _ _ _); obtain ⟨o4a, o4b⟩ := (hv20_6 : In _ _ _); obtain ⟨o5a, o5b⟩ := (hv23_6 : In _ _ _); obtain ⟨o6a, o6b⟩ := (hv25_6 : In _ _ _); obtain ⟨o7a, o7b⟩ := (hv36_6 : In _ _ _); obtain ⟨o8a, o8b⟩ := (hv48_6 : In _ _ _); obtain ⟨o9a, o9b⟩ := (hv53_6 : In _ _ _); obtain ⟨o10a, o10b⟩ := (hv55_6 : In _ _ _); obtain ⟨o11a, o11b⟩ := (hv47_6 : In _ _ _); omega)), rfl, hv48_6, hg48_6, hv53_6, hg53_6, hv55_6, hg55_6, hrel0_6⟩ (fun q hq => ((gset_ne (fun e => hq (by subst e; decide))).trans rfl))
          have hT : TI g ad (gset (gset th 24 zg81_zv) 16 x15.toInt) f18 := TI.cast hT (by funext q; by_cases hq0 : q = 16; (subst hq0; rfl); by_cases hq1 : q = 24; (subst hq1; rfl); simp only [gset, if_neg hq0, if_neg hq1])
          exact ret_v hx hb hr hlocks hP hD hS (Nat.le_of_ble_eq_true rfl) (Nat.le_of_ble_eq_true rfl) (⟨rfl, ⟨x15.toInt, zg81_zv, (show (1 ≤ x15.toInt ∧ x15.toInt ≤ 20) ∧ zg81_zv = 2126 * x15.toInt from (by have ob10 : (0 : Int) ≤ (th 10) ∧ (th 10) ≤ 1 := (b0_10 hT :); have ob11 : (0 : Int) ≤ (th 11) ∧ (th 11) ≤ 9 := (b0_11 hT :); have ob12 : (0 : Int) ≤ (th 12) ∧ (th 12) ≤ 6 := (b0_12 hT :); have ob14 : (0 : Int) ≤ (th 14) ∧ (th 14) ≤ 511 := (b0_14 hT :); have ob15 : (0 : Int) ≤ (th 15) ∧ (th 15) ≤ 1 := (b0_15 hT :); have ob16 : (0 : Int) ≤ x15.toInt ∧ x15.toInt ≤ 20 := (b0_16 hT :); have ob17 : (0 : Int) ≤ (th 17) ∧ (th 17) ≤ 1 := (b0_17 hT :); have ob18 : (0 : Int) ≤ (th 18) ∧ (th 18) ≤ 18 := (b0_18 hT :); have ob38 : (0 : Int) ≤ (th 38) ∧ (th 38) ≤ 400 := (b0_38 hT :); have ob39 : (0 : Int) ≤ (th 39) ∧ (th 39) ≤ 200 := (b0_39 hT :); have ob44 : (0 : Int) ≤ (th 44) ∧ (th 44) ≤ 30 := (b0_44 hT :); have orn := rnd_b (th 10); obtain ⟨o0a, o0b⟩ := (hb5 : In _ _ _); omega)), TI.cast hT (by funext q; by_cases hq0 : q = 16; (subst hq0; rfl); by_cases hq1 : q = 24; (subst hq1; rfl); simp only [gset, if_neg hq0, if_neg hq1])⟩, hfr⟩) dX11_keeps_138
        ·
          have oc2126 : (2126 : Int32).toInt = 2126 := by decide
          have cc22 : y81_l1.toInt < (2126 : Int32).toInt := i32_nle c3
          have hb23 : In y81_l1 0 2125 := In.lt1 hy81_l1 (⟨by decide, by decide⟩ : In 2126 2126 2126) cc22 (by decide) (by decide)
          refine lv_aload_n hx hb dX11_keeps_88 rfl (lv_at hl 0 rfl) ?_
          refine M0e hT (fun v0_24 v2_24 v3_24 v4_24 v5_24 v6_24 v8_24 v9_24 v12_24 v13_24 v14_24 v15_24 v16_24 v17_24 v18_24 v19_24 v20_24 v21_24 v22_24 v23_24 v25_24 v36_24 v37_24 v38_24 v39_24 v40_24 v45_24 v46_24 v47_24 v48_24 v50_24 v51_24 v53_24 v55_24 hf25 hv0_24 hv2_24 hg2_24 hv3_24 hg3_24 hv4_24 hg4_24 hv5_24 hg5_24 hv6_24 hg6_24 hv8_24 hg8_24 hv9_24 hg9_24 hv12_24 hv13_24 hg13_24 hv14_24 hg14_24 hv15_24 hg15_24 hv17_24 hg17_24 hv20_24 hg20_24 hv23_24 hg23_24 hv25_24 hg25_24 hv36_24 hg36_24 hv47_24 hg47_24 hv48_24 hg48_24 hv53_24 hg53_24 hv55_24 hg55_24 hrel0_24 => ?_)
          have hg15_24 : v15_24.toInt = th 11 := hg15_24
          have hg17_24 : v17_24.toInt = th 12 := hg17_24
          have hg20_24 : v20_24.toInt = th 14 := hg20_24
          refine pl_get (v := .ref (ad 273)) hx hb hts (fun w h => mT (inX11 w h)) hown hG.1 hP (hst.1 255 (by decide)) hf25 rfl 43 (by decide) (hts _ (mT wg_1379)) (fun _ h => h) rfl dX11_keeps_89 ?_
          refine lv_sipush (v := 2126) hx hb dX11_keeps_92 (by decide) ?_
          refine lv_aload_n hx hb dX11_keeps_95 rfl (lv_at hl 0 rfl) ?_
          refine pl_get (v := .int v47_24) hx hb hts (fun w h => mT (inX11 w h)) hown hG.1 hP (hst.1 255 (by decide)) hf25 rfl 47 (by decide) (hts _ (mT wg_1383)) (fun _ h => h) rfl dX11_keeps_96 ?_
          have hg47_24 : v47_24.toInt = zg79_zc := hg47_24
          refine lv_imul hx hb dX11_keeps_99 ?_
          refine lv_topi (fun x26 ex26 => ?_)
          have hb27 : In x26 0 42520 := ex26 ▸ In.mul (⟨by decide, by decide⟩ : In 2126 2126 2126) hv47_24 (by decide) (by decide) (by decide) (by decide) (by decide)
          have et28 : x26.toInt = 2126 * v47_24.toInt := In.mule ex26 (⟨by decide, by decide⟩ : In 2126 2126 2126) hv47_24 (by decide) (by decide) (by decide) (by decide) rfl
          refine lv_iload_n hx hb dX11_keeps_100 rfl (lv_at hl 1 rfl) ?_
          refine lv_iadd hx hb dX11_keeps_101 ?_
          refine lv_topi (fun x29 ex29 => ?_)
          have hb30 : In x29 0 44645 := ex29 ▸ In.add hb27 hb23 (by decide) (by decide) (by decide) (by decide)
          have et31 : x29.toInt = x26.toInt + y81_l1.toInt := In.add2e ex29 hb27 hb23 (by decide) (by decide)
          refine lv_aload_n hx hb dX11_keeps_102 rfl (lv_at hl 0 rfl) ?_
          refine pl_get (v := .ref (ad 271)) hx hb hts (fun w h => mT (inX11 w h)) hown hG.1 hP (hst.1 255 (by decide)) hf25 rfl 41 (by decide) (hts _ (mT wg_1377)) (fun _ h => h) rfl dX11_keeps_103 ?_
          refine lv_iload_n hx hb dX11_keeps_106 rfl (lv_at hl 1 rfl) ?_
          obtain ⟨rw32, hf33, hpi35, hc34⟩ := hT.2.2 16 (by decide)
          have hc34 : PRW 2126 (th 22) (th 20) (th 21) rw32 := hc34
          have hpi35 : ((72 : Int) < (th 22) → (rw32 72).toInt = th 19) := hpi35
          have hin36 : vp_in y81_l1 2126 := In.inb hb23 (by decide) (by decide)
          refine pl_iald hx hb hG.1 hP (hst.1 271 (by decide)) 0 hf33 rfl hin36 dX11_keeps_107 ?_
          refine lv_topi (fun x37 ex37 => ?_)
          have hpl38 : PRED (th 20) (th 21) (y81_l1.toNatClampNeg % 2126) x37 := by rw [ex37]; exact hc34 _ (vp_nat hin36) (by have q := vp_cl (i := y81_l1) (by have ob10 : (0 : Int) ≤ (th 10) ∧ (th 10) ≤ 1 := (b0_10 hT :); have ob11 : (0 : Int) ≤ (th 11) ∧ (th 11) ≤ 9 := (b0_11 hT :); have ob12 : (0 : Int) ≤ (th 12) ∧ (th 12) ≤ 6 := (b0_12 hT :); have ob14 : (0 : Int) ≤ (th 14) ∧ (th 14) ≤ 511 := (b0_14 hT :); have ob15 : (0 : Int) ≤ (th 15) ∧ (th 15) ≤ 1 := (b0_15 hT :); have ob16 : (0 : Int) ≤ zg79_zc ∧ zg79_zc ≤ 20 := (b0_16 hT :); have ob17 : (0 : Int) ≤ (th 17) ∧ (th 17) ≤ 1 := (b0_17 hT :); have ob18 : (0 : Int) ≤ (th 18) ∧ (th 18) ≤ 18 := (b0_18 hT :); have ob38 : (0 : Int) ≤ (th 38) ∧ (th 38) ≤ 400 := (b0_38 hT :); have ob39 : (0 : Int) ≤ (th 39) ∧ (th 39) ≤ 200 := (b0_39 hT :); have ob44 : (0 : Int) ≤ (th 44) ∧ (th 44) ≤ 30 := (b0_44 hT :); have orn := rnd_b (th 10); obtain ⟨o0a, o0b⟩ := (hb23 : In _ _ _); obtain ⟨o1a, o1b⟩ := (hv14_24 : In _ _ _); obtain ⟨o2a, o2b⟩ := (hv15_24 : In _ _ _); obtain ⟨o3a, o3b⟩ := (hv17_24 : In _ _ _); obtain ⟨o4a, o4b⟩ := (hv20_24 : In _ _ _); obtain ⟨o5a, o5b⟩ := (hv23_24 : In _ _ _); obtain ⟨o6a, o6b⟩ := (hv25_24 : In _ _ _); obtain ⟨o7a, o7b⟩ := (hv36_24 : In _ _ _); obtain ⟨o8a, o8b⟩ := (hv47_24 : In _ _ _); obtain ⟨o9a, o9b⟩ := (hv48_24 : In _ _ _); obtain ⟨o10a, o10b⟩ := (hv53_24 : In _ _ _); obtain ⟨o11a, o11b⟩ := (hv55_24 : In _ _ _); omega); have ob10 : (0 : Int) ≤ (th 10) ∧ (th 10) ≤ 1 := (b0_10 hT :); have ob11 : (0 : Int) ≤ (th 11) ∧ (th 11) ≤ 9 := (b0_11 hT :); have ob12 : (0 : Int) ≤ (th 12) ∧ (th 12) ≤ 6 := (b0_12 hT :); have ob14 : (0 : Int) ≤ (th 14) ∧ (th 14) ≤ 511 := (b0_14 hT :); have ob15 : (0 : Int) ≤ (th 15) ∧ (th 15) ≤ 1 := (b0_15 hT :); have ob16 : (0 : Int) ≤ zg79_zc ∧ zg79_zc ≤ 20 := (b0_16 hT :); have ob17 : (0 : Int) ≤ (th 17) ∧ (th 17) ≤ 1 := (b0_17 hT :); have ob18 : (0 : Int) ≤ (th 18) ∧ (th 18) ≤ 18 := (b0_18 hT :); have ob38 : (0 : Int) ≤ (th 38) ∧ (th 38) ≤ 400 := (b0_38 hT :); have ob39 : (0 : Int) ≤ (th 39) ∧ (th 39) ≤ 200 := (b0_39 hT :); have ob44 : (0 : Int) ≤ (th 44) ∧ (th 44) ≤ 30 := (b0_44 hT :); have orn := rnd_b (th 10); obtain ⟨o0a, o0b⟩ := (hb23 : In _ _ _); obtain ⟨o1a, o1b⟩ := (hv14_24 : In _ _ _); obtain ⟨o2a, o2b⟩ := (hv15_24 : In _ _ _); obtain ⟨o3a, o3b⟩ := (hv17_24 : In _ _ _); obtain ⟨o4a, o4b⟩ := (hv20_24 : In _ _ _); obtain ⟨o5a, o5b⟩ := (hv23_24 : In _ _ _); obtain ⟨o6a, o6b⟩ := (hv25_24 : In _ _ _); obtain ⟨o7a, o7b⟩ := (hv36_24 : In _ _ _); obtain ⟨o8a, o8b⟩ := (hv47_24 : In _ _ _); obtain ⟨o9a, o9b⟩ := (hv48_24 : In _ _ _); obtain ⟨o10a, o10b⟩ := (hv53_24 : In _ _ _); obtain ⟨o11a, o11b⟩ := (hv55_24 : In _ _ _); omega)
          obtain ⟨rw39, hf40, hc41⟩ := hT.2.2 18 (by decide)
          have hc41 : PRW 42520 (zg81_zv) (th 20) (th 21) rw39 := hc41
          refine pl_iastE hx hb hG.1 hP hD hS (hst.1 273 (by decide)) 0 hf40 rfl (vp_of (by have ob10 : (0 : Int) ≤ (th 10) ∧ (th 10) ≤ 1 := (b0_10 hT :); have ob11 : (0 : Int) ≤ (th 11) ∧ (th 11) ≤ 9 := (b0_11 hT :); have ob12 : (0 : Int) ≤ (th 12) ∧ (th 12) ≤ 6 := (b0_12 hT :); have ob14 : (0 : Int) ≤ (th 14) ∧ (th 14) ≤ 511 := (b0_14 hT :); have ob15 : (0 : Int) ≤ (th 15) ∧ (th 15) ≤ 1 := (b0_15 hT :); have ob16 : (0 : Int) ≤ zg79_zc ∧ zg79_zc ≤ 20 := (b0_16 hT :); have ob17 : (0 : Int) ≤ (th 17) ∧ (th 17) ≤ 1 := (b0_17 hT :); have ob18 : (0 : Int) ≤ (th 18) ∧ (th 18) ≤ 18 := (b0_18 hT :); have ob38 : (0 : Int) ≤ (th 38) ∧ (th 38) ≤ 400 := (b0_38 hT :); have ob39 : (0 : Int) ≤ (th 39) ∧ (th 39) ≤ 200 := (b0_39 hT :); have ob44 : (0 : Int) ≤ (th 44) ∧ (th 44) ≤ 30 := (b0_44 hT :); have orn := rnd_b (th 10); obtain ⟨o0a, o0b⟩ := (hb30 : In _ _ _); obtain ⟨o1a, o1b⟩ := (hv14_24 : In _ _ _); obtain ⟨o2a, o2b⟩ := (hv15_24 : In _ _ _); obtain ⟨o3a, o3b⟩ := (hv17_24 : In _ _ _); obtain ⟨o4a, o4b⟩ := (hv20_24 : In _ _ _); obtain ⟨o5a, o5b⟩ := (hv23_24 : In _ _ _); obtain ⟨o6a, o6b⟩ := (hv25_24 : In _ _ _); obtain ⟨o7a, o7b⟩ := (hv36_24 : In _ _ _); obtain ⟨o8a, o8b⟩ := (hv47_24 : In _ _ _); obtain ⟨o9a, o9b⟩ := (hv48_24 : In _ _ _); obtain ⟨o10a, o10b⟩ := (hv53_24 : In _ _ _); obtain ⟨o11a, o11b⟩ := (hv55_24 : In _ _ _); obtain ⟨o12a, o12b⟩ := (hb27 : In _ _ _); obtain ⟨o13a, o13b⟩ := (hb23 : In _ _ _); omega) (by have ob10 : (0 : Int) ≤ (th 10) ∧ (th 10) ≤ 1 := (b0_10 hT :); have ob11 : (0 : Int) ≤ (th 11) ∧ (th 11) ≤ 9 := (b0_11 hT :); have ob12 : (0 : Int) ≤ (th 12) ∧ (th 12) ≤ 6 := (b0_12 hT :); have ob14 : (0 : Int) ≤ (th 14) ∧ (th 14) ≤ 511 := (b0_14 hT :); have ob15 : (0 : Int) ≤ (th 15) ∧ (th 15) ≤ 1 := (b0_15 hT :); have ob16 : (0 : Int) ≤ zg79_zc ∧ zg79_zc ≤ 20 := (b0_16 hT :); have ob17 : (0 : Int) ≤ (th 17) ∧ (th 17) ≤ 1 := (b0_17 hT :); have ob18 : (0 : Int) ≤ (th 18) ∧ (th 18) ≤ 18 := (b0_18 hT :); have ob38 : (0 : Int) ≤ (th 38) ∧ (th 38) ≤ 400 := (b0_38 hT :); have ob39 : (0 : Int) ≤ (th 39) ∧ (th 39) ≤ 200 := (b0_39 hT :); have ob44 : (0 : Int) ≤ (th 44) ∧ (th 44) ≤ 30 := (b0_44 hT :); have orn := rnd_b (th 10); obtain ⟨o0a, o0b⟩ := (hb30 : In _ _ _); obtain ⟨o1a, o1b⟩ := (hv14_24 : In _ _ _); obtain ⟨o2a, o2b⟩ := (hv15_24 : In _ _ _); obtain ⟨o3a, o3b⟩ := (hv17_24 : In _ _ _); obtain ⟨o4a, o4b⟩ := (hv20_24 : In _ _ _); obtain ⟨o5a, o5b⟩ := (hv23_24 : In _ _ _); obtain ⟨o6a, o6b⟩ := (hv25_24 : In _ _ _); obtain ⟨o7a, o7b⟩ := (hv36_24 : In _ _ _); obtain ⟨o8a, o8b⟩ := (hv47_24 : In _ _ _); obtain ⟨o9a, o9b⟩ := (hv48_24 : In _ _ _); obtain ⟨o10a, o10b⟩ := (hv53_24 : In _ _ _); obtain ⟨o11a, o11b⟩ := (hv55_24 : In _ _ _); obtain ⟨o12a, o12b⟩ := (hb27 : In _ _ _); obtain ⟨o13a, o13b⟩ := (hb23 : In _ _ _); omega)) dX11_keeps_108 (fun H locs f42 r45 er45 hf43 ho44 hP hD hS => ?_)
          have hpx47 : PRED (th 20) (th 21) (x29.toNatClampNeg % 2126) x37 := pred_e hpl38 (by have q := vp_cl (i := x29) (by have ob10 : (0 : Int) ≤ (th 10) ∧ (th 10) ≤ 1 := (b0_10 hT :); have ob11 : (0 : Int) ≤ (th 11) ∧ (th 11) ≤ 9 := (b0_11 hT :); have ob12 : (0 : Int) ≤ (th 12) ∧ (th 12) ≤ 6 := (b0_12 hT :); have ob14 : (0 : Int) ≤ (th 14) ∧ (th 14) ≤ 511 := (b0_14 hT :); have ob15 : (0 : Int) ≤ (th 15) ∧ (th 15) ≤ 1 := (b0_15 hT :); have ob16 : (0 : Int) ≤ zg79_zc ∧ zg79_zc ≤ 20 := (b0_16 hT :); have ob17 : (0 : Int) ≤ (th 17) ∧ (th 17) ≤ 1 := (b0_17 hT :); have ob18 : (0 : Int) ≤ (th 18) ∧ (th 18) ≤ 18 := (b0_18 hT :); have ob38 : (0 : Int) ≤ (th 38) ∧ (th 38) ≤ 400 := (b0_38 hT :); have ob39 : (0 : Int) ≤ (th 39) ∧ (th 39) ≤ 200 := (b0_39 hT :); have ob44 : (0 : Int) ≤ (th 44) ∧ (th 44) ≤ 30 := (b0_44 hT :); have orn := rnd_b (th 10); obtain ⟨o0a, o0b⟩ := (hb30 : In _ _ _); obtain ⟨o1a, o1b⟩ := (hv14_24 : In _ _ _); obtain ⟨o2a, o2b⟩ := (hv15_24 : In _ _ _); obtain ⟨o3a, o3b⟩ := (hv17_24 : In _ _ _); obtain ⟨o4a, o4b⟩ := (hv20_24 : In _ _ _); obtain ⟨o5a, o5b⟩ := (hv23_24 : In _ _ _); obtain ⟨o6a, o6b⟩ := (hv25_24 : In _ _ _); obtain ⟨o7a, o7b⟩ := (hv36_24 : In _ _ _); obtain ⟨o8a, o8b⟩ := (hv47_24 : In _ _ _); obtain ⟨o9a, o9b⟩ := (hv48_24 : In _ _ _); obtain ⟨o10a, o10b⟩ := (hv53_24 : In _ _ _); obtain ⟨o11a, o11b⟩ := (hv55_24 : In _ _ _); obtain ⟨o12a, o12b⟩ := (hb27 : In _ _ _); obtain ⟨o13a, o13b⟩ := (hb23 : In _ _ _); omega); have q2 := vp_cl (i := y81_l1) (by have ob10 : (0 : Int) ≤ (th 10) ∧ (th 10) ≤ 1 := (b0_10 hT :); have ob11 : (0 : Int) ≤ (th 11) ∧ (th 11) ≤ 9 := (b0_11 hT :); have ob12 : (0 : Int) ≤ (th 12) ∧ (th 12) ≤ 6 := (b0_12 hT :); have ob14 : (0 : Int) ≤ (th 14) ∧ (th 14) ≤ 511 := (b0_14 hT :); have ob15 : (0 : Int) ≤ (th 15) ∧ (th 15) ≤ 1 := (b0_15 hT :); have ob16 : (0 : Int) ≤ zg79_zc ∧ zg79_zc ≤ 20 := (b0_16 hT :); have ob17 : (0 : Int) ≤ (th 17) ∧ (th 17) ≤ 1 := (b0_17 hT :); have ob18 : (0 : Int) ≤ (th 18) ∧ (th 18) ≤ 18 := (b0_18 hT :); have ob38 : (0 : Int) ≤ (th 38) ∧ (th 38) ≤ 400 := (b0_38 hT :); have ob39 : (0 : Int) ≤ (th 39) ∧ (th 39) ≤ 200 := (b0_39 hT :); have ob44 : (0 : Int) ≤ (th 44) ∧ (th 44) ≤ 30 := (b0_44 hT :); have orn := rnd_b (th 10); obtain ⟨o0a, o0b⟩ := (hb23 : In _ _ _); obtain ⟨o1a, o1b⟩ := (hv14_24 : In _ _ _); obtain ⟨o2a, o2b⟩ := (hv15_24 : In _ _ _); obtain ⟨o3a, o3b⟩ := (hv17_24 : In _ _ _); obtain ⟨o4a, o4b⟩ := (hv20_24 : In _ _ _); obtain ⟨o5a, o5b⟩ := (hv23_24 : In _ _ _); obtain ⟨o6a, o6b⟩ := (hv25_24 : In _ _ _); obtain ⟨o7a, o7b⟩ := (hv36_24 : In _ _ _); obtain ⟨o8a, o8b⟩ := (hv47_24 : In _ _ _); obtain ⟨o9a, o9b⟩ := (hv48_24 : In _ _ _); obtain ⟨o10a, o10b⟩ := (hv53_24 : In _ _ _); obtain ⟨o11a, o11b⟩ := (hv55_24 : In _ _ _); omega); have ob10 : (0 : Int) ≤ (th 10) ∧ (th 10) ≤ 1 := (b0_10 hT :); have ob11 : (0 : Int) ≤ (th 11) ∧ (th 11) ≤ 9 := (b0_11 hT :); have ob12 : (0 : Int) ≤ (th 12) ∧ (th 12) ≤ 6 := (b0_12 hT :); have ob14 : (0 : Int) ≤ (th 14) ∧ (th 14) ≤ 511 := (b0_14 hT :); have ob15 : (0 : Int) ≤ (th 15) ∧ (th 15) ≤ 1 := (b0_15 hT :); have ob16 : (0 : Int) ≤ zg79_zc ∧ zg79_zc ≤ 20 := (b0_16 hT :); have ob17 : (0 : Int) ≤ (th 17) ∧ (th 17) ≤ 1 := (b0_17 hT :); have ob18 : (0 : Int) ≤ (th 18) ∧ (th 18) ≤ 18 := (b0_18 hT :); have ob38 : (0 : Int) ≤ (th 38) ∧ (th 38) ≤ 400 := (b0_38 hT :); have ob39 : (0 : Int) ≤ (th 39) ∧ (th 39) ≤ 200 := (b0_39 hT :); have ob44 : (0 : Int) ≤ (th 44) ∧ (th 44) ≤ 30 := (b0_44 hT :); have orn := rnd_b (th 10); obtain ⟨o0a, o0b⟩ := (hb30 : In _ _ _); obtain ⟨o1a, o1b⟩ := (hb23 : In _ _ _); obtain ⟨o2a, o2b⟩ := (hv14_24 : In _ _ _); obtain ⟨o3a, o3b⟩ := (hv15_24 : In _ _ _); obtain ⟨o4a, o4b⟩ := (hv17_24 : In _ _ _); obtain ⟨o5a, o5b⟩ := (hv20_24 : In _ _ _); obtain ⟨o6a, o6b⟩ := (hv23_24 : In _ _ _); obtain ⟨o7a, o7b⟩ := (hv25_24 : In _ _ _); obtain ⟨o8a, o8b⟩ := (hv36_24 : In _ _ _); obtain ⟨o9a, o9b⟩ := (hv47_24 : In _ _ _); obtain ⟨o10a, o10b⟩ := (hv48_24 : In _ _ _); obtain ⟨o11a, o11b⟩ := (hv53_24 : In _ _ _); obtain ⟨o12a, o12b⟩ := (hv55_24 : In _ _ _); obtain ⟨o13a, o13b⟩ := (hb27 : In _ _ _); omega)
          have hc46 : PRW 42520 (zg81_zv + 1) (th 20) (th 21) r45 := prw_grow hc41 er45 hpx47 (by have q := vp_cl (i := x29) (by have ob10 : (0 : Int) ≤ (th 10) ∧ (th 10) ≤ 1 := (b0_10 hT :); have ob11 : (0 : Int) ≤ (th 11) ∧ (th 11) ≤ 9 := (b0_11 hT :); have ob12 : (0 : Int) ≤ (th 12) ∧ (th 12) ≤ 6 := (b0_12 hT :); have ob14 : (0 : Int) ≤ (th 14) ∧ (th 14) ≤ 511 := (b0_14 hT :); have ob15 : (0 : Int) ≤ (th 15) ∧ (th 15) ≤ 1 := (b0_15 hT :); have ob16 : (0 : Int) ≤ zg79_zc ∧ zg79_zc ≤ 20 := (b0_16 hT :); have ob17 : (0 : Int) ≤ (th 17) ∧ (th 17) ≤ 1 := (b0_17 hT :); have ob18 : (0 : Int) ≤ (th 18) ∧ (th 18) ≤ 18 := (b0_18 hT :); have ob38 : (0 : Int) ≤ (th 38) ∧ (th 38) ≤ 400 := (b0_38 hT :); have ob39 : (0 : Int) ≤ (th 39) ∧ (th 39) ≤ 200 := (b0_39 hT :); have ob44 : (0 : Int) ≤ (th 44) ∧ (th 44) ≤ 30 := (b0_44 hT :); have orn := rnd_b (th 10); obtain ⟨o0a, o0b⟩ := (hb30 : In _ _ _); obtain ⟨o1a, o1b⟩ := (hv14_24 : In _ _ _); obtain ⟨o2a, o2b⟩ := (hv15_24 : In _ _ _); obtain ⟨o3a, o3b⟩ := (hv17_24 : In _ _ _); obtain ⟨o4a, o4b⟩ := (hv20_24 : In _ _ _); obtain ⟨o5a, o5b⟩ := (hv23_24 : In _ _ _); obtain ⟨o6a, o6b⟩ := (hv25_24 : In _ _ _); obtain ⟨o7a, o7b⟩ := (hv36_24 : In _ _ _); obtain ⟨o8a, o8b⟩ := (hv47_24 : In _ _ _); obtain ⟨o9a, o9b⟩ := (hv48_24 : In _ _ _); obtain ⟨o10a, o10b⟩ := (hv53_24 : In _ _ _); obtain ⟨o11a, o11b⟩ := (hv55_24 : In _ _ _); obtain ⟨o12a, o12b⟩ := (hb27 : In _ _ _); obtain ⟨o13a, o13b⟩ := (hb23 : In _ _ _); omega); have ob10 : (0 : Int) ≤ (th 10) ∧ (th 10) ≤ 1 := (b0_10 hT :); have ob11 : (0 : Int) ≤ (th 11) ∧ (th 11) ≤ 9 := (b0_11 hT :); have ob12 : (0 : Int) ≤ (th 12) ∧ (th 12) ≤ 6 := (b0_12 hT :); have ob14 : (0 : Int) ≤ (th 14) ∧ (th 14) ≤ 511 := (b0_14 hT :); have ob15 : (0 : Int) ≤ (th 15) ∧ (th 15) ≤ 1 := (b0_15 hT :); have ob16 : (0 : Int) ≤ zg79_zc ∧ zg79_zc ≤ 20 := (b0_16 hT :); have ob17 : (0 : Int) ≤ (th 17) ∧ (th 17) ≤ 1 := (b0_17 hT :); have ob18 : (0 : Int) ≤ (th 18) ∧ (th 18) ≤ 18 := (b0_18 hT :); have ob38 : (0 : Int) ≤ (th 38) ∧ (th 38) ≤ 400 := (b0_38 hT :); have ob39 : (0 : Int) ≤ (th 39) ∧ (th 39) ≤ 200 := (b0_39 hT :); have ob44 : (0 : Int) ≤ (th 44) ∧ (th 44) ≤ 30 := (b0_44 hT :); have orn := rnd_b (th 10); obtain ⟨o0a, o0b⟩ := (hb30 : In _ _ _); obtain ⟨o1a, o1b⟩ := (hv14_24 : In _ _ _); obtain ⟨o2a, o2b⟩ := (hv15_24 : In _ _ _); obtain ⟨o3a, o3b⟩ := (hv17_24 : In _ _ _); obtain ⟨o4a, o4b⟩ := (hv20_24 : In _ _ _); obtain ⟨o5a, o5b⟩ := (hv23_24 : In _ _ _); obtain ⟨o6a, o6b⟩ := (hv25_24 : In _ _ _); obtain ⟨o7a, o7b⟩ := (hv36_24 : In _ _ _); obtain ⟨o8a, o8b⟩ := (hv47_24 : In _ _ _); obtain ⟨o9a, o9b⟩ := (hv48_24 : In _ _ _); obtain ⟨o10a, o10b⟩ := (hv53_24 : In _ _ _); obtain ⟨o11a, o11b⟩ := (hv55_24 : In _ _ _); obtain ⟨o12a, o12b⟩ := (hb27 : In _ _ _); obtain ⟨o13a, o13b⟩ := (hb23 : In _ _ _); omega) rfl
          have hf48 := (ho44 (ad 255) (hst.ne (by decide) (by decide) (by decide))).trans hf25
          have hf49 := (ho44 (ad 271) (hst.ne (by decide) (by decide) (by decide))).trans hf33
          have hfr : (∀ b, b ≠ (ad 255) → b ≠ (ad 273) → b ≠ (ad 274) → f42 b = f b) := fun b z0_ z1_ z2_ => (ho44 b z1_).trans (hfr b z0_ z1_ z2_)
          obtain ⟨x50, ex50⟩ : ∃ y : Int32, y = y81_l1 + 1 := ⟨_, rfl⟩
          have hb51 : In x50 1 2126 := ex50 ▸ In.add hb23 (⟨by decide, by decide⟩ : In 1 1 1) (by decide) (by decide) (by decide) (by decide)
          have et52 : x50.toInt = y81_l1.toInt + 1 := In.adde ex50 hb23 (k := 1) (by decide) (by decide) (by decide)
          refine lv_iinc (v := x50) (lv' := [(1, .int x50), (0, .ref (ad 255))]) hx hb dX11_keeps_109 hl (k := 1) rfl (by rw [ex50]; rfl) (by decide) rfl (fun ls hl => ?_)
          have hT := TI.updMG (th' := (gset (gset (gset th 16 zg79_zc) 24 zg81_zv) 24 (zg81_zv + 1))) hT hst (k := 18) (by decide) hf43 ho44 ⟨r45, rfl, hc46⟩ (fun q hq => ((gset_ne (fun e => hq (by subst e; decide))).trans rfl))
          have hT : TI g ad (gset (gset th 16 zg79_zc) 24 (zg81_zv + 1)) f42 := TI.cast hT (by funext q; by_cases hq0 : q = 24; (subst hq0; rfl); by_cases hq1 : q = 16; (subst hq1; rfl); simp only [gset, if_neg hq0, if_neg hq1])
          refine lv_goto (tgt := 81) hx hb dX11_keeps_112 (by decide) ?_
          exact ih81 (zg81_zv + 1) x50 _ _ _ _ (show ((zg81_zv + 1) = 2126 * zg79_zc + x50.toInt) from (by have ob10 : (0 : Int) ≤ (th 10) ∧ (th 10) ≤ 1 := (b0_10 hT :); have ob11 : (0 : Int) ≤ (th 11) ∧ (th 11) ≤ 9 := (b0_11 hT :); have ob12 : (0 : Int) ≤ (th 12) ∧ (th 12) ≤ 6 := (b0_12 hT :); have ob14 : (0 : Int) ≤ (th 14) ∧ (th 14) ≤ 511 := (b0_14 hT :); have ob15 : (0 : Int) ≤ (th 15) ∧ (th 15) ≤ 1 := (b0_15 hT :); have ob16 : (0 : Int) ≤ zg79_zc ∧ zg79_zc ≤ 20 := (b0_16 hT :); have ob17 : (0 : Int) ≤ (th 17) ∧ (th 17) ≤ 1 := (b0_17 hT :); have ob18 : (0 : Int) ≤ (th 18) ∧ (th 18) ≤ 18 := (b0_18 hT :); have ob38 : (0 : Int) ≤ (th 38) ∧ (th 38) ≤ 400 := (b0_38 hT :); have ob39 : (0 : Int) ≤ (th 39) ∧ (th 39) ≤ 200 := (b0_39 hT :); have ob44 : (0 : Int) ≤ (th 44) ∧ (th 44) ≤ 30 := (b0_44 hT :); have orn := rnd_b (th 10); obtain ⟨o0a, o0b⟩ := (hb51 : In _ _ _); obtain ⟨o1a, o1b⟩ := (hb23 : In _ _ _); omega)) (In.mono hb51 (by decide) (by decide)) hP hD hS (TI.cast hT (by funext q; by_cases hq0 : q = 24; (subst hq0; rfl); by_cases hq1 : q = 16; (subst hq1; rfl); simp only [gset, if_neg hq0, if_neg hq1])) hfr (lv_sub hl [1, 0] rfl) (msu et52 (by decide) hmz81)
    exact hJ81 ((2126 - (0 : Int32).toInt).toNat + 1) zg79_zv 0 _ _ _ _ (show (zg79_zv = 2126 * zg79_zc + (0 : Int32).toInt) from (by have ob10 : (0 : Int) ≤ (th 10) ∧ (th 10) ≤ 1 := (b0_10 hT :); have ob11 : (0 : Int) ≤ (th 11) ∧ (th 11) ≤ 9 := (b0_11 hT :); have ob12 : (0 : Int) ≤ (th 12) ∧ (th 12) ≤ 6 := (b0_12 hT :); have ob14 : (0 : Int) ≤ (th 14) ∧ (th 14) ≤ 511 := (b0_14 hT :); have ob15 : (0 : Int) ≤ (th 15) ∧ (th 15) ≤ 1 := (b0_15 hT :); have ob16 : (0 : Int) ≤ zg79_zc ∧ zg79_zc ≤ 20 := (b0_16 hT :); have ob17 : (0 : Int) ≤ (th 17) ∧ (th 17) ≤ 1 := (b0_17 hT :); have ob18 : (0 : Int) ≤ (th 18) ∧ (th 18) ≤ 18 := (b0_18 hT :); have ob38 : (0 : Int) ≤ (th 38) ∧ (th 38) ≤ 400 := (b0_38 hT :); have ob39 : (0 : Int) ≤ (th 39) ∧ (th 39) ≤ 200 := (b0_39 hT :); have ob44 : (0 : Int) ≤ (th 44) ∧ (th 44) ≤ 30 := (b0_44 hT :); have orn := rnd_b (th 10); have oc0 : (0 : Int32).toInt = 0 := (by decide); omega)) (⟨by decide, by decide⟩ : In 0 0 2126) hP hD hS (TI.cast hT (by funext q; by_cases hq0 : q = 24; (subst hq0; rfl); by_cases hq1 : q = 16; (subst hq1; rfl); simp only [gset, if_neg hq0, if_neg hq1])) hfr (lv_sub hl [1, 0] rfl) (msI _)
  refine lv_icmp_ne (tgt := 79) hx hb dX11_keeps_6 (by decide) (fun c53 => ?_) (fun c53 => ?_)
  ·
    have oc20 : (20 : Int32).toInt = 20 := by decide
    have cc54 : v47_1.toInt ≠ (20 : Int32).toInt := i32_ne c53
    have hb55 : In v47_1 0 19 := In.ne1 hv47_1 (⟨by decide, by decide⟩ : In 20 20 20) cc54 (by decide) (by decide)
    exact hJ79 (th 16) (th 24) _ _ _ _ (show (0 ≤ (th 16) ∧ (th 16) ≤ 19 ∧ (th 24) = 2126 * (th 16)) from (by have ob10 : (0 : Int) ≤ (th 10) ∧ (th 10) ≤ 1 := (b0_10 hT :); have ob11 : (0 : Int) ≤ (th 11) ∧ (th 11) ≤ 9 := (b0_11 hT :); have ob12 : (0 : Int) ≤ (th 12) ∧ (th 12) ≤ 6 := (b0_12 hT :); have ob14 : (0 : Int) ≤ (th 14) ∧ (th 14) ≤ 511 := (b0_14 hT :); have ob15 : (0 : Int) ≤ (th 15) ∧ (th 15) ≤ 1 := (b0_15 hT :); have ob16 : (0 : Int) ≤ (th 16) ∧ (th 16) ≤ 20 := (b0_16 hT :); have ob17 : (0 : Int) ≤ (th 17) ∧ (th 17) ≤ 1 := (b0_17 hT :); have ob18 : (0 : Int) ≤ (th 18) ∧ (th 18) ≤ 18 := (b0_18 hT :); have ob38 : (0 : Int) ≤ (th 38) ∧ (th 38) ≤ 400 := (b0_38 hT :); have ob39 : (0 : Int) ≤ (th 39) ∧ (th 39) ≤ 200 := (b0_39 hT :); have ob44 : (0 : Int) ≤ (th 44) ∧ (th 44) ≤ 30 := (b0_44 hT :); have orn := rnd_b (th 10); obtain ⟨o0a, o0b⟩ := (hv14_1 : In _ _ _); obtain ⟨o1a, o1b⟩ := (hv15_1 : In _ _ _); obtain ⟨o2a, o2b⟩ := (hv17_1 : In _ _ _); obtain ⟨o3a, o3b⟩ := (hv20_1 : In _ _ _); obtain ⟨o4a, o4b⟩ := (hv23_1 : In _ _ _); obtain ⟨o5a, o5b⟩ := (hv25_1 : In _ _ _); obtain ⟨o6a, o6b⟩ := (hv36_1 : In _ _ _); obtain ⟨o7a, o7b⟩ := (hb55 : In _ _ _); obtain ⟨o8a, o8b⟩ := (hv48_1 : In _ _ _); obtain ⟨o9a, o9b⟩ := (hv53_1 : In _ _ _); obtain ⟨o10a, o10b⟩ := (hv55_1 : In _ _ _); omega)) hP hD hS (TI.cast hT (by funext q; by_cases hq0 : q = 16; (subst hq0; rfl); by_cases hq1 : q = 24; (subst hq1; rfl); simp only [gset, if_neg hq0, if_neg hq1])) hfr (lv_sub hl [0] rfl)
  ·
    have oc20 : (20 : Int32).toInt = 20 := by decide
    have cc56 : v47_1.toInt = (20 : Int32).toInt := congrArg Int32.toInt c53
    have hb57 : In v47_1 20 20 := In.eq1 hv47_1 (⟨by decide, by decide⟩ : In 20 20 20) cc56 (by decide) (by decide)
    refine lv_sipush (v := 2126) hx hb dX11_keeps_9 (by decide) ?_
    refine lv_istore_n (lv' := [(1, .int 2126), (0, .ref (ad 255))]) hx hb dX11_keeps_12 rfl hl (by decide) rfl (fun ls hl => ?_)
    have hJ13 : ∀ (k13 : Nat) (y13_l1 : Int32) (f_13 : HP) (H : Heap) (locs : List Loc) (ls : Array Slot), In y13_l1 2126 2147483647 → va_P g.1 vwCl (va_pl L f_13) H → va_D A (va_pl L f_13) → va_S A s.heap H locs → TI g ad th f_13 → (∀ b, b ≠ (ad 255) → b ≠ (ad 273) → b ≠ (ad 274) → f_13 b = f b) → f_13 (ad 255) = .inr (10, [.int v0_1, .ref (ad 256), .int v2_1, .int v3_1, .int v4_1, .int v5_1, .int v6_1, .ref (ad 257), .int v8_1, .int v9_1, .ref (ad 258), .ref (ad 259), .int v12_1, .int v13_1, .int v14_1, .int v15_1, .int v16_1, .int v17_1, .int v18_1, .int v19_1, .int v20_1, .long v21_1, .long v22_1, .int v23_1, .ref (ad 260), .int v25_1, .ref (ad 261), .ref (ad 262), .ref (ad 263), .ref (ad 264), .ref (ad 265), .ref (ad 266), .ref (ad 267), .ref (ad 268), .ref (ad 269), .ref (ad 270), .int v36_1, .int v37_1, .int v38_1, .int v39_1, .int v40_1, .ref (ad 271), .ref (ad 272), .ref (ad 273), .ref (ad 274), .long v45_1, .long v46_1, .int v47_1, .int v48_1, .ref (ad 275), .int v50_1, .int v51_1, .ref (ad 276), .int v53_1, .ref (ad 277), .int v55_1]) → lv_has ls 2 [(0, .ref (ad 255)), (1, .int y13_l1)] → 2147483647 - y13_l1.toInt < ((k13 : Nat) : Int) → W p l e rm_X11_keeps s m [.ref (ad 255)].toArray below meth c H locs 0 0 (MQ below (va_Qv (po_X11_keeps g ad th L f ) (PstB g A) A) [.ref (ad 255)].toArray s rm_X11_keeps.cells rm_X11_keeps.slots A) (F0 m 13 ls []) := by
      intro k13
      induction k13 with
      | zero =>
        intro y13_l1 f_13 H locs ls hy13_l1 hP hD hS hT hfr hf58 hl hmz13
        exact ms0 hy13_l1 hmz13
      | succ k13 ih13 =>
        intro y13_l1 f_13 H locs ls hy13_l1 hP hD hS hT hfr hf58 hl hmz13
        refine lv_iload_n hx hb dX11_keeps_13 rfl (lv_at hl 1 rfl) ?_
        refine lv_ldc hx hb hown (hts _ (mT wg_1335)) dX11_keeps_14 ?_
        refine lv_icmp_ge (tgt := 41) hx hb dX11_keeps_16 (by decide) (fun c59 => ?_) (fun c59 => ?_)
        ·
          have oc42520 : (42520 : Int32).toInt = 42520 := by decide
          have cc60 : (42520 : Int32).toInt ≤ y13_l1.toInt := i32_le.mp c59
          have hb61 : In y13_l1 42520 2147483647 := In.ge1 hy13_l1 (⟨by decide, by decide⟩ : In 42520 42520 42520) cc60 (by decide) (by decide)
          refine lv_iconst (v := 1) hx hb dX11_keeps_41 (by decide) ?_
          refine lv_istore_n (lv' := [(1, .int 1), (0, .ref (ad 255))]) hx hb dX11_keeps_42 rfl hl (by decide) rfl (fun ls hl => ?_)
          have hJ43 : ∀ (k43 : Nat) (y43_l1 : Int32) (f_43 : HP) (H : Heap) (locs : List Loc) (ls : Array Slot), In y43_l1 1 20 → va_P g.1 vwCl (va_pl L f_43) H → va_D A (va_pl L f_43) → va_S A s.heap H locs → TI g ad th f_43 → (∀ b, b ≠ (ad 255) → b ≠ (ad 273) → b ≠ (ad 274) → f_43 b = f b) → f_43 (ad 255) = .inr (10, [.int v0_1, .ref (ad 256), .int v2_1, .int v3_1, .int v4_1, .int v5_1, .int v6_1, .ref (ad 257), .int v8_1, .int v9_1, .ref (ad 258), .ref (ad 259), .int v12_1, .int v13_1, .int v14_1, .int v15_1, .int v16_1, .int v17_1, .int v18_1, .int v19_1, .int v20_1, .long v21_1, .long v22_1, .int v23_1, .ref (ad 260), .int v25_1, .ref (ad 261), .ref (ad 262), .ref (ad 263), .ref (ad 264), .ref (ad 265), .ref (ad 266), .ref (ad 267), .ref (ad 268), .ref (ad 269), .ref (ad 270), .int v36_1, .int v37_1, .int v38_1, .int v39_1, .int v40_1, .ref (ad 271), .ref (ad 272), .ref (ad 273), .ref (ad 274), .long v45_1, .long v46_1, .int v47_1, .int v48_1, .ref (ad 275), .int v50_1, .int v51_1, .ref (ad 276), .int v53_1, .ref (ad 277), .int v55_1]) → lv_has ls 2 [(0, .ref (ad 255)), (1, .int y43_l1)] → 20 - y43_l1.toInt < ((k43 : Nat) : Int) → W p l e rm_X11_keeps s m [.ref (ad 255)].toArray below meth c H locs 0 0 (MQ below (va_Qv (po_X11_keeps g ad th L f ) (PstB g A) A) [.ref (ad 255)].toArray s rm_X11_keeps.cells rm_X11_keeps.slots A) (F0 m 43 ls []) := by
            intro k43
            induction k43 with
            | zero =>
              intro y43_l1 f_43 H locs ls hy43_l1 hP hD hS hT hfr hf62 hl hmz43
              exact ms0 hy43_l1 hmz43
            | succ k43 ih43 =>
              intro y43_l1 f_43 H locs ls hy43_l1 hP hD hS hT hfr hf62 hl hmz43
              refine lv_iload_n hx hb dX11_keeps_43 rfl (lv_at hl 1 rfl) ?_
              refine lv_bipush (v := 20) hx hb dX11_keeps_44 (by decide) ?_
              refine lv_icmp_ge (tgt := 69) hx hb dX11_keeps_46 (by decide) (fun c63 => ?_) (fun c63 => ?_)
              ·
                have oc20 : (20 : Int32).toInt = 20 := by decide
                have cc64 : (20 : Int32).toInt ≤ y43_l1.toInt := i32_le.mp c63
                have hb65 : In y43_l1 20 20 := In.ge1 hy43_l1 (⟨by decide, by decide⟩ : In 20 20 20) cc64 (by decide) (by decide)
                refine lv_aload_n hx hb dX11_keeps_69 rfl (lv_at hl 0 rfl) ?_
                refine lv_dup hx hb dX11_keeps_70 rfl ?_
                refine pl_get (v := .int v47_1) hx hb hts (fun w h => mT (inX11 w h)) hown hG.1 hP (hst.1 255 (by decide)) hf62 rfl 47 (by decide) (hts _ (mT wg_1383)) (fun _ h => h) rfl dX11_keeps_71 ?_
                refine lv_iconst (v := 1) hx hb dX11_keeps_74 (by decide) ?_
                refine lv_isub hx hb dX11_keeps_75 ?_
                refine lv_topi (fun x66 ex66 => ?_)
                have hb67 : In x66 19 19 := ex66 ▸ In.sub hb57 (⟨by decide, by decide⟩ : In 1 1 1) (by decide) (by decide) (by decide) (by decide)
                have et68 : x66.toInt = v47_1.toInt + (-1) := In.sube ex66 hb57 (k := 1) (by decide) (by decide) (by decide)
                refine pl_put (ty := .int) (v := .int x66) (fs' := [.int v0_1, .ref (ad 256), .int v2_1, .int v3_1, .int v4_1, .int v5_1, .int v6_1, .ref (ad 257), .int v8_1, .int v9_1, .ref (ad 258), .ref (ad 259), .int v12_1, .int v13_1, .int v14_1, .int v15_1, .int v16_1, .int v17_1, .int v18_1, .int v19_1, .int v20_1, .long v21_1, .long v22_1, .int v23_1, .ref (ad 260), .int v25_1, .ref (ad 261), .ref (ad 262), .ref (ad 263), .ref (ad 264), .ref (ad 265), .ref (ad 266), .ref (ad 267), .ref (ad 268), .ref (ad 269), .ref (ad 270), .int v36_1, .int v37_1, .int v38_1, .int v39_1, .int v40_1, .ref (ad 271), .ref (ad 272), .ref (ad 273), .ref (ad 274), .long v45_1, .long v46_1, .int x66, .int v48_1, .ref (ad 275), .int v50_1, .int v51_1, .ref (ad 276), .int v53_1, .ref (ad 277), .int v55_1]) hx hb hts (fun w h => mT (inX11 w h)) tyX11 tyX11_ok nmX11 hown hG.1 hP hD hS (hst.1 255 (by decide)) hf62 rfl 47 (by decide) (hts _ (mT wg_1383)) (fun _ h => h) rfl (by decide +kernel) (rfl) (rfl) (Nat.le_of_ble_eq_true rfl) rfl dX11_keeps_76 (fun H locs f69 hf70 ho71 hP hD hS => ?_)
                have hfr : (∀ b, b ≠ (ad 255) → b ≠ (ad 273) → b ≠ (ad 274) → f69 b = f b) := fun b z0_ z1_ z2_ => (ho71 b z0_).trans (hfr b z0_ z1_ z2_)
                have hT := TI.updMG (th' := (gset th 16 (x66.toInt))) hT hst (k := 0) (by decide) hf70 ho71 ⟨v0_1, v2_1, v3_1, v4_1, v5_1, v6_1, v8_1, v9_1, v12_1, v13_1, v14_1, v15_1, v16_1, v17_1, v18_1, v19_1, v20_1, v21_1, v22_1, v23_1, v25_1, v36_1, v37_1, v38_1, v39_1, v40_1, v45_1, v46_1, x66, v48_1, v50_1, v51_1, v53_1, v55_1, rfl, hv0_1, hv2_1, hg2_1, hv3_1, hg3_1, hv4_1, hg4_1, hv5_1, hg5_1, hv6_1, hg6_1, hv8_1, hg8_1, hv9_1, hg9_1, hv12_1, hv13_1, hg13_1, hv14_1, hg14_1, hv15_1, hg15_1, hv17_1, hg17_1, hv20_1, hg20_1, hv23_1, hg23_1, hv25_1, hg25_1, hv36_1, hg36_1, (In.mono hb67 (by decide) (by decide)), rfl, hv48_1, hg48_1, hv53_1, hg53_1, hv55_1, hg55_1, hrel0_1⟩ (fun q hq => ((gset_ne (fun e => hq (by subst e; decide))).trans rfl))
                have hT : TI g ad (gset th 16 x66.toInt) f69 := TI.cast hT (by funext q; by_cases hq0 : q = 16; (subst hq0; rfl); simp only [gset, if_neg hq0])
                have hT := TI.w24 (z := 40394) hT (show (40394 : Int) ≤ th 24 by omega)
                exact hJ79 x66.toInt (40394 : Int) _ _ _ _ (show (0 ≤ x66.toInt ∧ x66.toInt ≤ 19 ∧ (40394 : Int) = 2126 * x66.toInt) from (by have ob10 : (0 : Int) ≤ (th 10) ∧ (th 10) ≤ 1 := (b0_10 hT :); have ob11 : (0 : Int) ≤ (th 11) ∧ (th 11) ≤ 9 := (b0_11 hT :); have ob12 : (0 : Int) ≤ (th 12) ∧ (th 12) ≤ 6 := (b0_12 hT :); have ob14 : (0 : Int) ≤ (th 14) ∧ (th 14) ≤ 511 := (b0_14 hT :); have ob15 : (0 : Int) ≤ (th 15) ∧ (th 15) ≤ 1 := (b0_15 hT :); have ob16 : (0 : Int) ≤ x66.toInt ∧ x66.toInt ≤ 20 := (b0_16 hT :); have ob17 : (0 : Int) ≤ (th 17) ∧ (th 17) ≤ 1 := (b0_17 hT :); have ob18 : (0 : Int) ≤ (th 18) ∧ (th 18) ≤ 18 := (b0_18 hT :); have ob38 : (0 : Int) ≤ (th 38) ∧ (th 38) ≤ 400 := (b0_38 hT :); have ob39 : (0 : Int) ≤ (th 39) ∧ (th 39) ≤ 200 := (b0_39 hT :); have ob44 : (0 : Int) ≤ (th 44) ∧ (th 44) ≤ 30 := (b0_44 hT :); have orn := rnd_b (th 10); obtain ⟨o0a, o0b⟩ := (hb65 : In _ _ _); omega)) hP hD hS (TI.cast hT (by funext q; by_cases hq0 : q = 24; (subst hq0; rfl); by_cases hq1 : q = 16; (subst hq1; rfl); simp only [gset, if_neg hq0, if_neg hq1])) hfr (lv_sub hl [0] rfl)
              ·
                have oc20 : (20 : Int32).toInt = 20 := by decide
                have cc72 : y43_l1.toInt < (20 : Int32).toInt := i32_nle c63
                have hb73 : In y43_l1 1 19 := In.lt1 hy43_l1 (⟨by decide, by decide⟩ : In 20 20 20) cc72 (by decide) (by decide)
                refine lv_aload_n hx hb dX11_keeps_49 rfl (lv_at hl 0 rfl) ?_
                refine pl_get (v := .ref (ad 274)) hx hb hts (fun w h => mT (inX11 w h)) hown hG.1 hP (hst.1 255 (by decide)) hf62 rfl 44 (by decide) (hts _ (mT wg_1380)) (fun _ h => h) rfl dX11_keeps_50 ?_
                refine lv_iload_n hx hb dX11_keeps_53 rfl (lv_at hl 1 rfl) ?_
                refine lv_iconst (v := 1) hx hb dX11_keeps_54 (by decide) ?_
                refine lv_isub hx hb dX11_keeps_55 ?_
                refine lv_topi (fun x74 ex74 => ?_)
                have hb75 : In x74 0 18 := ex74 ▸ In.sub hb73 (⟨by decide, by decide⟩ : In 1 1 1) (by decide) (by decide) (by decide) (by decide)
                have et76 : x74.toInt = y43_l1.toInt + (-1) := In.sube ex74 hb73 (k := 1) (by decide) (by decide) (by decide)
                refine lv_aload_n hx hb dX11_keeps_56 rfl (lv_at hl 0 rfl) ?_
                refine pl_get (v := .ref (ad 274)) hx hb hts (fun w h => mT (inX11 w h)) hown hG.1 hP (hst.1 255 (by decide)) hf62 rfl 44 (by decide) (hts _ (mT wg_1380)) (fun _ h => h) rfl dX11_keeps_57 ?_
                refine lv_iload_n hx hb dX11_keeps_60 rfl (lv_at hl 1 rfl) ?_
                obtain ⟨rw77, hf78⟩ := hT.2.2 19 (by decide)
                have hin79 : vp_in y43_l1 20 := In.inb hb73 (by decide) (by decide)
                refine pl_lald hx hb hG.1 hP (hst.1 274 (by decide)) 1 hf78 rfl hin79 dX11_keeps_61 ?_
                refine lv_topl (fun x80 ex80 => ?_)
                refine pl_lastE hx hb hG.1 hP hD hS (hst.1 274 (by decide)) 1 hf78 rfl (In.inb hb75 (by decide) (by decide)) dX11_keeps_62 (fun H locs f81 r84 er84 hf82 ho83 hP hD hS => ?_)
                have hf85 := (ho83 (ad 255) (hst.ne (by decide) (by decide) (by decide))).trans hf62
                have hfr : (∀ b, b ≠ (ad 255) → b ≠ (ad 273) → b ≠ (ad 274) → f81 b = f b) := fun b z0_ z1_ z2_ => (ho83 b z2_).trans (hfr b z0_ z1_ z2_)
                obtain ⟨x86, ex86⟩ : ∃ y : Int32, y = y43_l1 + 1 := ⟨_, rfl⟩
                have hb87 : In x86 2 20 := ex86 ▸ In.add hb73 (⟨by decide, by decide⟩ : In 1 1 1) (by decide) (by decide) (by decide) (by decide)
                have et88 : x86.toInt = y43_l1.toInt + 1 := In.adde ex86 hb73 (k := 1) (by decide) (by decide) (by decide)
                refine lv_iinc (v := x86) (lv' := [(1, .int x86), (0, .ref (ad 255))]) hx hb dX11_keeps_63 hl (k := 1) rfl (by rw [ex86]; rfl) (by decide) rfl (fun ls hl => ?_)
                have hT := TI.updM hT hst (k := 19) (by decide) hf82 ho83 ⟨r84, rfl⟩
                refine lv_goto (tgt := 43) hx hb dX11_keeps_66 (by decide) ?_
                exact ih43 x86 _ _ _ _ (In.mono hb87 (by decide) (by decide)) hP hD hS hT hfr hf85 (lv_sub hl [1, 0] rfl) (msu et88 (by decide) hmz43)
          exact hJ43 ((20 - (1 : Int32).toInt).toNat + 1) 1 _ _ _ _ (⟨by decide, by decide⟩ : In 1 1 20) hP hD hS hT hfr hf58 (lv_sub hl [1, 0] rfl) (msI _)
        ·
          have oc42520 : (42520 : Int32).toInt = 42520 := by decide
          have cc89 : y13_l1.toInt < (42520 : Int32).toInt := i32_nle c59
          have hb90 : In y13_l1 2126 42519 := In.lt1 hy13_l1 (⟨by decide, by decide⟩ : In 42520 42520 42520) cc89 (by decide) (by decide)
          refine lv_aload_n hx hb dX11_keeps_19 rfl (lv_at hl 0 rfl) ?_
          refine pl_get (v := .ref (ad 273)) hx hb hts (fun w h => mT (inX11 w h)) hown hG.1 hP (hst.1 255 (by decide)) hf58 rfl 43 (by decide) (hts _ (mT wg_1379)) (fun _ h => h) rfl dX11_keeps_20 ?_
          refine lv_iload_n hx hb dX11_keeps_23 rfl (lv_at hl 1 rfl) ?_
          refine lv_sipush (v := 2126) hx hb dX11_keeps_24 (by decide) ?_
          refine lv_isub hx hb dX11_keeps_27 ?_
          refine lv_topi (fun x91 ex91 => ?_)
          have hb92 : In x91 0 40393 := ex91 ▸ In.sub hb90 (⟨by decide, by decide⟩ : In 2126 2126 2126) (by decide) (by decide) (by decide) (by decide)
          have et93 : x91.toInt = y13_l1.toInt + (-2126) := In.sube ex91 hb90 (k := 2126) (by decide) (by decide) (by decide)
          refine lv_aload_n hx hb dX11_keeps_28 rfl (lv_at hl 0 rfl) ?_
          refine pl_get (v := .ref (ad 273)) hx hb hts (fun w h => mT (inX11 w h)) hown hG.1 hP (hst.1 255 (by decide)) hf58 rfl 43 (by decide) (hts _ (mT wg_1379)) (fun _ h => h) rfl dX11_keeps_29 ?_
          refine lv_iload_n hx hb dX11_keeps_32 rfl (lv_at hl 1 rfl) ?_
          obtain ⟨rw94, hf95, hc96⟩ := hT.2.2 18 (by decide)
          have hc96 : PRW 42520 (th 24) (th 20) (th 21) rw94 := hc96
          have hin97 : vp_in y13_l1 42520 := In.inb hb90 (by decide) (by decide)
          refine pl_iald hx hb hG.1 hP (hst.1 273 (by decide)) 0 hf95 rfl hin97 dX11_keeps_33 ?_
          refine lv_topi (fun x98 ex98 => ?_)
          have hpl99 : PRED (th 20) (th 21) (y13_l1.toNatClampNeg % 2126) x98 := by rw [ex98]; exact hc96 _ (vp_nat hin97) (by have q := vp_cl (i := y13_l1) (by have ob10 : (0 : Int) ≤ (th 10) ∧ (th 10) ≤ 1 := (b0_10 hT :); have ob11 : (0 : Int) ≤ (th 11) ∧ (th 11) ≤ 9 := (b0_11 hT :); have ob12 : (0 : Int) ≤ (th 12) ∧ (th 12) ≤ 6 := (b0_12 hT :); have ob14 : (0 : Int) ≤ (th 14) ∧ (th 14) ≤ 511 := (b0_14 hT :); have ob15 : (0 : Int) ≤ (th 15) ∧ (th 15) ≤ 1 := (b0_15 hT :); have ob16 : (0 : Int) ≤ (th 16) ∧ (th 16) ≤ 20 := (b0_16 hT :); have ob17 : (0 : Int) ≤ (th 17) ∧ (th 17) ≤ 1 := (b0_17 hT :); have ob18 : (0 : Int) ≤ (th 18) ∧ (th 18) ≤ 18 := (b0_18 hT :); have ob38 : (0 : Int) ≤ (th 38) ∧ (th 38) ≤ 400 := (b0_38 hT :); have ob39 : (0 : Int) ≤ (th 39) ∧ (th 39) ≤ 200 := (b0_39 hT :); have ob44 : (0 : Int) ≤ (th 44) ∧ (th 44) ≤ 30 := (b0_44 hT :); have orn := rnd_b (th 10); obtain ⟨o0a, o0b⟩ := (hb90 : In _ _ _); obtain ⟨o1a, o1b⟩ := (hv14_1 : In _ _ _); obtain ⟨o2a, o2b⟩ := (hv15_1 : In _ _ _); obtain ⟨o3a, o3b⟩ := (hv17_1 : In _ _ _); obtain ⟨o4a, o4b⟩ := (hv20_1 : In _ _ _); obtain ⟨o5a, o5b⟩ := (hv23_1 : In _ _ _); obtain ⟨o6a, o6b⟩ := (hv25_1 : In _ _ _); obtain ⟨o7a, o7b⟩ := (hv36_1 : In _ _ _); obtain ⟨o8a, o8b⟩ := (hb57 : In _ _ _); obtain ⟨o9a, o9b⟩ := (hv48_1 : In _ _ _); obtain ⟨o10a, o10b⟩ := (hv53_1 : In _ _ _); obtain ⟨o11a, o11b⟩ := (hv55_1 : In _ _ _); omega); have ob10 : (0 : Int) ≤ (th 10) ∧ (th 10) ≤ 1 := (b0_10 hT :); have ob11 : (0 : Int) ≤ (th 11) ∧ (th 11) ≤ 9 := (b0_11 hT :); have ob12 : (0 : Int) ≤ (th 12) ∧ (th 12) ≤ 6 := (b0_12 hT :); have ob14 : (0 : Int) ≤ (th 14) ∧ (th 14) ≤ 511 := (b0_14 hT :); have ob15 : (0 : Int) ≤ (th 15) ∧ (th 15) ≤ 1 := (b0_15 hT :); have ob16 : (0 : Int) ≤ (th 16) ∧ (th 16) ≤ 20 := (b0_16 hT :); have ob17 : (0 : Int) ≤ (th 17) ∧ (th 17) ≤ 1 := (b0_17 hT :); have ob18 : (0 : Int) ≤ (th 18) ∧ (th 18) ≤ 18 := (b0_18 hT :); have ob38 : (0 : Int) ≤ (th 38) ∧ (th 38) ≤ 400 := (b0_38 hT :); have ob39 : (0 : Int) ≤ (th 39) ∧ (th 39) ≤ 200 := (b0_39 hT :); have ob44 : (0 : Int) ≤ (th 44) ∧ (th 44) ≤ 30 := (b0_44 hT :); have orn := rnd_b (th 10); obtain ⟨o0a, o0b⟩ := (hb90 : In _ _ _); obtain ⟨o1a, o1b⟩ := (hv14_1 : In _ _ _); obtain ⟨o2a, o2b⟩ := (hv15_1 : In _ _ _); obtain ⟨o3a, o3b⟩ := (hv17_1 : In _ _ _); obtain ⟨o4a, o4b⟩ := (hv20_1 : In _ _ _); obtain ⟨o5a, o5b⟩ := (hv23_1 : In _ _ _); obtain ⟨o6a, o6b⟩ := (hv25_1 : In _ _ _); obtain ⟨o7a, o7b⟩ := (hv36_1 : In _ _ _); obtain ⟨o8a, o8b⟩ := (hb57 : In _ _ _); obtain ⟨o9a, o9b⟩ := (hv48_1 : In _ _ _); obtain ⟨o10a, o10b⟩ := (hv53_1 : In _ _ _); obtain ⟨o11a, o11b⟩ := (hv55_1 : In _ _ _); omega)
          refine pl_iastE hx hb hG.1 hP hD hS (hst.1 273 (by decide)) 0 hf95 rfl (In.inb hb92 (by decide) (by decide)) dX11_keeps_34 (fun H locs f100 r103 er103 hf101 ho102 hP hD hS => ?_)
          have hpx105 : PRED (th 20) (th 21) (x91.toNatClampNeg % 2126) x98 := pred_e hpl99 (by have q := vp_cl (i := x91) (by have ob10 : (0 : Int) ≤ (th 10) ∧ (th 10) ≤ 1 := (b0_10 hT :); have ob11 : (0 : Int) ≤ (th 11) ∧ (th 11) ≤ 9 := (b0_11 hT :); have ob12 : (0 : Int) ≤ (th 12) ∧ (th 12) ≤ 6 := (b0_12 hT :); have ob14 : (0 : Int) ≤ (th 14) ∧ (th 14) ≤ 511 := (b0_14 hT :); have ob15 : (0 : Int) ≤ (th 15) ∧ (th 15) ≤ 1 := (b0_15 hT :); have ob16 : (0 : Int) ≤ (th 16) ∧ (th 16) ≤ 20 := (b0_16 hT :); have ob17 : (0 : Int) ≤ (th 17) ∧ (th 17) ≤ 1 := (b0_17 hT :); have ob18 : (0 : Int) ≤ (th 18) ∧ (th 18) ≤ 18 := (b0_18 hT :); have ob38 : (0 : Int) ≤ (th 38) ∧ (th 38) ≤ 400 := (b0_38 hT :); have ob39 : (0 : Int) ≤ (th 39) ∧ (th 39) ≤ 200 := (b0_39 hT :); have ob44 : (0 : Int) ≤ (th 44) ∧ (th 44) ≤ 30 := (b0_44 hT :); have orn := rnd_b (th 10); obtain ⟨o0a, o0b⟩ := (hb92 : In _ _ _); obtain ⟨o1a, o1b⟩ := (hv14_1 : In _ _ _); obtain ⟨o2a, o2b⟩ := (hv15_1 : In _ _ _); obtain ⟨o3a, o3b⟩ := (hv17_1 : In _ _ _); obtain ⟨o4a, o4b⟩ := (hv20_1 : In _ _ _); obtain ⟨o5a, o5b⟩ := (hv23_1 : In _ _ _); obtain ⟨o6a, o6b⟩ := (hv25_1 : In _ _ _); obtain ⟨o7a, o7b⟩ := (hv36_1 : In _ _ _); obtain ⟨o8a, o8b⟩ := (hb57 : In _ _ _); obtain ⟨o9a, o9b⟩ := (hv48_1 : In _ _ _); obtain ⟨o10a, o10b⟩ := (hv53_1 : In _ _ _); obtain ⟨o11a, o11b⟩ := (hv55_1 : In _ _ _); obtain ⟨o12a, o12b⟩ := (hb90 : In _ _ _); omega); have q2 := vp_cl (i := y13_l1) (by have ob10 : (0 : Int) ≤ (th 10) ∧ (th 10) ≤ 1 := (b0_10 hT :); have ob11 : (0 : Int) ≤ (th 11) ∧ (th 11) ≤ 9 := (b0_11 hT :); have ob12 : (0 : Int) ≤ (th 12) ∧ (th 12) ≤ 6 := (b0_12 hT :); have ob14 : (0 : Int) ≤ (th 14) ∧ (th 14) ≤ 511 := (b0_14 hT :); have ob15 : (0 : Int) ≤ (th 15) ∧ (th 15) ≤ 1 := (b0_15 hT :); have ob16 : (0 : Int) ≤ (th 16) ∧ (th 16) ≤ 20 := (b0_16 hT :); have ob17 : (0 : Int) ≤ (th 17) ∧ (th 17) ≤ 1 := (b0_17 hT :); have ob18 : (0 : Int) ≤ (th 18) ∧ (th 18) ≤ 18 := (b0_18 hT :); have ob38 : (0 : Int) ≤ (th 38) ∧ (th 38) ≤ 400 := (b0_38 hT :); have ob39 : (0 : Int) ≤ (th 39) ∧ (th 39) ≤ 200 := (b0_39 hT :); have ob44 : (0 : Int) ≤ (th 44) ∧ (th 44) ≤ 30 := (b0_44 hT :); have orn := rnd_b (th 10); obtain ⟨o0a, o0b⟩ := (hb90 : In _ _ _); obtain ⟨o1a, o1b⟩ := (hv14_1 : In _ _ _); obtain ⟨o2a, o2b⟩ := (hv15_1 : In _ _ _); obtain ⟨o3a, o3b⟩ := (hv17_1 : In _ _ _); obtain ⟨o4a, o4b⟩ := (hv20_1 : In _ _ _); obtain ⟨o5a, o5b⟩ := (hv23_1 : In _ _ _); obtain ⟨o6a, o6b⟩ := (hv25_1 : In _ _ _); obtain ⟨o7a, o7b⟩ := (hv36_1 : In _ _ _); obtain ⟨o8a, o8b⟩ := (hb57 : In _ _ _); obtain ⟨o9a, o9b⟩ := (hv48_1 : In _ _ _); obtain ⟨o10a, o10b⟩ := (hv53_1 : In _ _ _); obtain ⟨o11a, o11b⟩ := (hv55_1 : In _ _ _); omega); have ob10 : (0 : Int) ≤ (th 10) ∧ (th 10) ≤ 1 := (b0_10 hT :); have ob11 : (0 : Int) ≤ (th 11) ∧ (th 11) ≤ 9 := (b0_11 hT :); have ob12 : (0 : Int) ≤ (th 12) ∧ (th 12) ≤ 6 := (b0_12 hT :); have ob14 : (0 : Int) ≤ (th 14) ∧ (th 14) ≤ 511 := (b0_14 hT :); have ob15 : (0 : Int) ≤ (th 15) ∧ (th 15) ≤ 1 := (b0_15 hT :); have ob16 : (0 : Int) ≤ (th 16) ∧ (th 16) ≤ 20 := (b0_16 hT :); have ob17 : (0 : Int) ≤ (th 17) ∧ (th 17) ≤ 1 := (b0_17 hT :); have ob18 : (0 : Int) ≤ (th 18) ∧ (th 18) ≤ 18 := (b0_18 hT :); have ob38 : (0 : Int) ≤ (th 38) ∧ (th 38) ≤ 400 := (b0_38 hT :); have ob39 : (0 : Int) ≤ (th 39) ∧ (th 39) ≤ 200 := (b0_39 hT :); have ob44 : (0 : Int) ≤ (th 44) ∧ (th 44) ≤ 30 := (b0_44 hT :); have orn := rnd_b (th 10); obtain ⟨o0a, o0b⟩ := (hb92 : In _ _ _); obtain ⟨o1a, o1b⟩ := (hb90 : In _ _ _); obtain ⟨o2a, o2b⟩ := (hv14_1 : In _ _ _); obtain ⟨o3a, o3b⟩ := (hv15_1 : In _ _ _); obtain ⟨o4a, o4b⟩ := (hv17_1 : In _ _ _); obtain ⟨o5a, o5b⟩ := (hv20_1 : In _ _ _); obtain ⟨o6a, o6b⟩ := (hv23_1 : In _ _ _); obtain ⟨o7a, o7b⟩ := (hv25_1 : In _ _ _); obtain ⟨o8a, o8b⟩ := (hv36_1 : In _ _ _); obtain ⟨o9a, o9b⟩ := (hb57 : In _ _ _); obtain ⟨o10a, o10b⟩ := (hv48_1 : In _ _ _); obtain ⟨o11a, o11b⟩ := (hv53_1 : In _ _ _); obtain ⟨o12a, o12b⟩ := (hv55_1 : In _ _ _); omega)
          have hc104 : PRW 42520 (th 24) (th 20) (th 21) r103 := prw_set hc96 er103 hpx105
          have hf106 := (ho102 (ad 255) (hst.ne (by decide) (by decide) (by decide))).trans hf58
          have hfr : (∀ b, b ≠ (ad 255) → b ≠ (ad 273) → b ≠ (ad 274) → f100 b = f b) := fun b z0_ z1_ z2_ => (ho102 b z1_).trans (hfr b z0_ z1_ z2_)
          obtain ⟨x107, ex107⟩ : ∃ y : Int32, y = y13_l1 + 1 := ⟨_, rfl⟩
          have hb108 : In x107 2127 42520 := ex107 ▸ In.add hb90 (⟨by decide, by decide⟩ : In 1 1 1) (by decide) (by decide) (by decide) (by decide)
          have et109 : x107.toInt = y13_l1.toInt + 1 := In.adde ex107 hb90 (k := 1) (by decide) (by decide) (by decide)
          refine lv_iinc (v := x107) (lv' := [(1, .int x107), (0, .ref (ad 255))]) hx hb dX11_keeps_35 hl (k := 1) rfl (by rw [ex107]; rfl) (by decide) rfl (fun ls hl => ?_)
          have hT := TI.updM hT hst (k := 18) (by decide) hf101 ho102 ⟨r103, rfl, hc104⟩
          refine lv_goto (tgt := 13) hx hb dX11_keeps_38 (by decide) ?_
          exact ih13 x107 _ _ _ _ (In.mono hb108 (by decide) (by decide)) hP hD hS hT hfr hf106 (lv_sub hl [1, 0] rfl) (msu et109 (by decide) hmz13)
    exact hJ13 ((2147483647 - (2126 : Int32).toInt).toNat + 1) 2126 _ _ _ _ (⟨by decide, by decide⟩ : In 2126 2126 2147483647) hP hD hS hT hfr hf2 (lv_sub hl [1, 0] rfl) (msI _)

abbrev rm_X11_toldAt : Room := { frames := 0, cells := 0, slots := 0, locals := 0 }
abbrev po_X11_toldAt (g : GG) (ad : Nat → Nat) (th : Nat → Int) (L : List Nat) (f : HP) (z0 : Int32) (z1 : Int32) : Int32 → (List Nat × HP) → Prop := fun r u => u.1 = L ∧ u.2 = f ∧ In r 1538 1962
set_option maxHeartbeats 4000000 in
set_option maxRecDepth 100000 in
theorem s_X11_toldAt (l : Launch) (g : GG) (ad : Nat → Nat) (th : Nat → Int) (L : List Nat) (f : HP) (sz : Nat) (z0 : Int32) (z1 : Int32) (hst : ST ad L) (hT : TI g ad th f) (hz0 : In z0 0 5) (hz1 : In z1 0 8) : MtI l g yX11_toldAt cX11_toldAt 2 (some .int) rm_X11_toldAt [.int z0, .int z1] L f sz (po_X11_toldAt g ad th L f z0 z1) := by
  refine MtI.of (by decide +kernel) (Nat.le_of_ble_eq_true rfl) ?_
  intro p e s m below meth c A hEn hP hD hS ls hl
  obtain ⟨hx, hb, hr, hml, hown, hlocks, hts, hG, hA, hE, hnm⟩ := hEn
  have hown : s.vm.findClass "RulerWordModel" = some m.cls := hown
  have hl : lv_has ls 2 [(0, .int z0), (1, .int z1)] := hl
  refine lv_sipush (v := 1538) hx hb dX11_toldAt_0 (by decide) ?_
  refine lv_bipush (v := 8) hx hb dX11_toldAt_3 (by decide) ?_
  refine lv_bipush (v := 9) hx hb dX11_toldAt_5 (by decide) ?_
  refine lv_iload_n hx hb dX11_toldAt_7 rfl (lv_at hl 0 rfl) ?_
  refine lv_imul hx hb dX11_toldAt_8 ?_
  refine lv_topi (fun x1 ex1 => ?_)
  have hb2 : In x1 0 45 := ex1 ▸ In.mul (⟨by decide, by decide⟩ : In 9 9 9) hz0 (by decide) (by decide) (by decide) (by decide) (by decide)
  refine lv_iload_n hx hb dX11_toldAt_9 rfl (lv_at hl 1 rfl) ?_
  refine lv_iadd hx hb dX11_toldAt_10 ?_
  refine lv_topi (fun x3 ex3 => ?_)
  have hb4 : In x3 0 53 := ex3 ▸ In.add hb2 hz1 (by decide) (by decide) (by decide) (by decide)
  have et5 : x3.toInt = x1.toInt + z1.toInt := In.add2e ex3 hb2 hz1 (by decide) (by decide)
  refine lv_imul hx hb dX11_toldAt_11 ?_
  refine lv_topi (fun x6 ex6 => ?_)
  have hb7 : In x6 0 424 := ex6 ▸ In.mul (⟨by decide, by decide⟩ : In 8 8 8) hb4 (by decide) (by decide) (by decide) (by decide) (by decide)
  refine lv_iadd hx hb dX11_toldAt_12 ?_
  refine lv_topi (fun x8 ex8 => ?_)
  have hb9 : In x8 1538 1962 := ex8 ▸ In.add (⟨by decide, by decide⟩ : In 1538 1538 1538) hb7 (by decide) (by decide) (by decide) (by decide)
  have et10 : x8.toInt = (1538 : Int32).toInt + x6.toInt := In.add2e ex8 (⟨by decide, by decide⟩ : In 1538 1538 1538) hb7 (by decide) (by decide)
  exact ret_i (ty := .int) hx hb hr hlocks (rfl) hP hD hS (Nat.le_of_ble_eq_true rfl) (Nat.le_of_ble_eq_true rfl) (⟨rfl, rfl, hb9⟩) dX11_toldAt_13

abbrev rm_X11_roundNow : Room := { frames := 5, cells := 0, slots := 0, locals := 125 }
abbrev po_X11_roundNow (g : GG) (ad : Nat → Nat) (th : Nat → Int) (L : List Nat) (f : HP)  : (List Nat × HP) → Prop := fun u => u.1 = L ∧ (∃ z14 z16 z18 z19 z22 z24 z44 : Int, (z19 = th 19 + 1 ∧ z22 = 2126 ∧ (1 ≤ z16 ∧ z16 ≤ 20) ∧ z24 = 2126 * z16) ∧ TI g ad (gset (gset (gset (gset (gset (gset (gset th 14 z14) 16 z16) 18 z18) 19 z19) 22 z22) 24 z24) 44 z44) u.2)
set_option maxHeartbeats 4000000 in
set_option maxRecDepth 100000 in
theorem s_X11_roundNow (l : Launch) (g : GG) (ad : Nat → Nat) (th : Nat → Int) (L : List Nat) (f : HP) (sz : Nat)  (hst : ST ad L) (hT : TI g ad th f) (hM : MI th) (hn3 : 3 ≤ th 11) (hlt : th 19 < th 20) : MtV l g yX11_roundNow cX11_roundNow 6 rm_X11_roundNow [.ref (ad 255)] L f sz (po_X11_roundNow g ad th L f ) := by
  refine MtV.of (by decide +kernel) (Nat.le_of_ble_eq_true rfl) ?_
  intro p e s m below meth c A hEn hP hD hS ls hl
  obtain ⟨hx, hb, hr, hml, hown, hlocks, hts, hG, hA, hE, hnm⟩ := hEn
  have hown : s.vm.findClass "RulerWordModel" = some m.cls := hown
  have hl : lv_has ls 6 [(0, .ref (ad 255))] := hl
  have hM0 := hM
  obtain ⟨m1, m2, m3, m4, m5, m6, m7, m8, m9, m10⟩ := hM0
  have m20 := mi20 m2 m3
  refine lv_aload_n hx hb dX11_roundNow_0 rfl (lv_at hl 0 rfl) ?_
  refine M0e hT (fun v0_1 v2_1 v3_1 v4_1 v5_1 v6_1 v8_1 v9_1 v12_1 v13_1 v14_1 v15_1 v16_1 v17_1 v18_1 v19_1 v20_1 v21_1 v22_1 v23_1 v25_1 v36_1 v37_1 v38_1 v39_1 v40_1 v45_1 v46_1 v47_1 v48_1 v50_1 v51_1 v53_1 v55_1 hf2 hv0_1 hv2_1 hg2_1 hv3_1 hg3_1 hv4_1 hg4_1 hv5_1 hg5_1 hv6_1 hg6_1 hv8_1 hg8_1 hv9_1 hg9_1 hv12_1 hv13_1 hg13_1 hv14_1 hg14_1 hv15_1 hg15_1 hv17_1 hg17_1 hv20_1 hg20_1 hv23_1 hg23_1 hv25_1 hg25_1 hv36_1 hg36_1 hv47_1 hg47_1 hv48_1 hg48_1 hv53_1 hg53_1 hv55_1 hg55_1 hrel0_1 => ?_)
  have hg15_1 : v15_1.toInt = th 11 := hg15_1
  have hg17_1 : v17_1.toInt = th 12 := hg17_1
  have hg20_1 : v20_1.toInt = th 14 := hg20_1
  have hb3 : In v15_1 3 9 := ⟨by rw [hg15_1]; exact hn3, hv15_1.2⟩
  refine call_v (run_V (rm := rm_X11_keeps) hx hb hml hown hts (s_X11_keeps l g ad th _ _ _  hst hT (show MI th from hM)) cV_X11_keeps wg_1644 ⟨Nat.le_of_ble_eq_true rfl, Nat.le_of_ble_eq_true rfl⟩ hG hE hA hP hD hS (hst.1 255 (by decide)) hf2 rfl rfl hl.1 (As := []) (rest := []) rfl (Nat.le_of_ble_eq_true rfl) dX11_roundNow_1 ⟨Nat.le_of_ble_eq_true rfl, Nat.le_of_ble_eq_true rfl⟩) hA hD hS (fun L5 f6 H locs hp7 hP hD hS => ?_)
  obtain ⟨eL8L, eL8T, eL8F⟩ := hp7
  have eL8L : L5 = L := eL8L
  rw [eL8L] at hP hD
  obtain ⟨zz9, zz10, hzz9, eL8T⟩ := eL8T
  have hzz9 : (1 ≤ zz9 ∧ zz9 ≤ 20) ∧ zz10 = 2126 * zz9 := hzz9
  have hT : TI g ad (gset (gset th 16 zz9) 24 zz10) f6 := eL8T
  have eL8F : ∀ b, b ≠ (ad 255) → b ≠ (ad 273) → b ≠ (ad 274) → f6 b = f b := eL8F
  refine lv_aload_n hx hb dX11_roundNow_4 rfl (lv_at hl 0 rfl) ?_
  refine M0e hT (fun v0_11 v2_11 v3_11 v4_11 v5_11 v6_11 v8_11 v9_11 v12_11 v13_11 v14_11 v15_11 v16_11 v17_11 v18_11 v19_11 v20_11 v21_11 v22_11 v23_11 v25_11 v36_11 v37_11 v38_11 v39_11 v40_11 v45_11 v46_11 v47_11 v48_11 v50_11 v51_11 v53_11 v55_11 hf12 hv0_11 hv2_11 hg2_11 hv3_11 hg3_11 hv4_11 hg4_11 hv5_11 hg5_11 hv6_11 hg6_11 hv8_11 hg8_11 hv9_11 hg9_11 hv12_11 hv13_11 hg13_11 hv14_11 hg14_11 hv15_11 hg15_11 hv17_11 hg17_11 hv20_11 hg20_11 hv23_11 hg23_11 hv25_11 hg25_11 hv36_11 hg36_11 hv47_11 hg47_11 hv48_11 hg48_11 hv53_11 hg53_11 hv55_11 hg55_11 hrel0_11 => ?_)
  have hg15_11 : v15_11.toInt = th 11 := hg15_11
  have hg17_11 : v17_11.toInt = th 12 := hg17_11
  have hg20_11 : v20_11.toInt = th 14 := hg20_11
  have hb13 : In v15_11 3 9 := ⟨by rw [hg15_11]; exact hn3, hv15_11.2⟩
  refine call_v (run_V (rm := rm_X11_takesUp) hx hb hml hown hts (s_X11_takesUp l g ad (gset (gset th 16 zz9) 24 zz10) _ _ _  hst hT (show (th 22) = 2126 from (by have ob10 : (0 : Int) ≤ (th 10) ∧ (th 10) ≤ 1 := (b0_10 hT :); have ob11 : (0 : Int) ≤ (th 11) ∧ (th 11) ≤ 9 := (b0_11 hT :); have ob12 : (0 : Int) ≤ (th 12) ∧ (th 12) ≤ 6 := (b0_12 hT :); have ob14 : (0 : Int) ≤ (th 14) ∧ (th 14) ≤ 511 := (b0_14 hT :); have ob15 : (0 : Int) ≤ (th 15) ∧ (th 15) ≤ 1 := (b0_15 hT :); have ob16 : (0 : Int) ≤ zz9 ∧ zz9 ≤ 20 := (b0_16 hT :); have ob17 : (0 : Int) ≤ (th 17) ∧ (th 17) ≤ 1 := (b0_17 hT :); have ob18 : (0 : Int) ≤ (th 18) ∧ (th 18) ≤ 18 := (b0_18 hT :); have ob38 : (0 : Int) ≤ (th 38) ∧ (th 38) ≤ 400 := (b0_38 hT :); have ob39 : (0 : Int) ≤ (th 39) ∧ (th 39) ≤ 200 := (b0_39 hT :); have ob44 : (0 : Int) ≤ (th 44) ∧ (th 44) ≤ 30 := (b0_44 hT :); have orn := rnd_b (th 10); obtain ⟨o0a, o0b⟩ := (hv14_11 : In _ _ _); obtain ⟨o1a, o1b⟩ := (hb13 : In _ _ _); obtain ⟨o2a, o2b⟩ := (hv17_11 : In _ _ _); obtain ⟨o3a, o3b⟩ := (hv20_11 : In _ _ _); obtain ⟨o4a, o4b⟩ := (hv23_11 : In _ _ _); obtain ⟨o5a, o5b⟩ := (hv25_11 : In _ _ _); obtain ⟨o6a, o6b⟩ := (hv36_11 : In _ _ _); obtain ⟨o7a, o7b⟩ := (hv47_11 : In _ _ _); obtain ⟨o8a, o8b⟩ := (hv48_11 : In _ _ _); obtain ⟨o9a, o9b⟩ := (hv53_11 : In _ _ _); obtain ⟨o10a, o10b⟩ := (hv55_11 : In _ _ _); omega)) (show (th 20) ≤ 18 from (by have ob10 : (0 : Int) ≤ (th 10) ∧ (th 10) ≤ 1 := (b0_10 hT :); have ob11 : (0 : Int) ≤ (th 11) ∧ (th 11) ≤ 9 := (b0_11 hT :); have ob12 : (0 : Int) ≤ (th 12) ∧ (th 12) ≤ 6 := (b0_12 hT :); have ob14 : (0 : Int) ≤ (th 14) ∧ (th 14) ≤ 511 := (b0_14 hT :); have ob15 : (0 : Int) ≤ (th 15) ∧ (th 15) ≤ 1 := (b0_15 hT :); have ob16 : (0 : Int) ≤ zz9 ∧ zz9 ≤ 20 := (b0_16 hT :); have ob17 : (0 : Int) ≤ (th 17) ∧ (th 17) ≤ 1 := (b0_17 hT :); have ob18 : (0 : Int) ≤ (th 18) ∧ (th 18) ≤ 18 := (b0_18 hT :); have ob38 : (0 : Int) ≤ (th 38) ∧ (th 38) ≤ 400 := (b0_38 hT :); have ob39 : (0 : Int) ≤ (th 39) ∧ (th 39) ≤ 200 := (b0_39 hT :); have ob44 : (0 : Int) ≤ (th 44) ∧ (th 44) ≤ 30 := (b0_44 hT :); have orn := rnd_b (th 10); obtain ⟨o0a, o0b⟩ := (hv14_11 : In _ _ _); obtain ⟨o1a, o1b⟩ := (hb13 : In _ _ _); obtain ⟨o2a, o2b⟩ := (hv17_11 : In _ _ _); obtain ⟨o3a, o3b⟩ := (hv20_11 : In _ _ _); obtain ⟨o4a, o4b⟩ := (hv23_11 : In _ _ _); obtain ⟨o5a, o5b⟩ := (hv25_11 : In _ _ _); obtain ⟨o6a, o6b⟩ := (hv36_11 : In _ _ _); obtain ⟨o7a, o7b⟩ := (hv47_11 : In _ _ _); obtain ⟨o8a, o8b⟩ := (hv48_11 : In _ _ _); obtain ⟨o9a, o9b⟩ := (hv53_11 : In _ _ _); obtain ⟨o10a, o10b⟩ := (hv55_11 : In _ _ _); omega)) (show (th 21) = (th 11) from (by have ob10 : (0 : Int) ≤ (th 10) ∧ (th 10) ≤ 1 := (b0_10 hT :); have ob11 : (0 : Int) ≤ (th 11) ∧ (th 11) ≤ 9 := (b0_11 hT :); have ob12 : (0 : Int) ≤ (th 12) ∧ (th 12) ≤ 6 := (b0_12 hT :); have ob14 : (0 : Int) ≤ (th 14) ∧ (th 14) ≤ 511 := (b0_14 hT :); have ob15 : (0 : Int) ≤ (th 15) ∧ (th 15) ≤ 1 := (b0_15 hT :); have ob16 : (0 : Int) ≤ zz9 ∧ zz9 ≤ 20 := (b0_16 hT :); have ob17 : (0 : Int) ≤ (th 17) ∧ (th 17) ≤ 1 := (b0_17 hT :); have ob18 : (0 : Int) ≤ (th 18) ∧ (th 18) ≤ 18 := (b0_18 hT :); have ob38 : (0 : Int) ≤ (th 38) ∧ (th 38) ≤ 400 := (b0_38 hT :); have ob39 : (0 : Int) ≤ (th 39) ∧ (th 39) ≤ 200 := (b0_39 hT :); have ob44 : (0 : Int) ≤ (th 44) ∧ (th 44) ≤ 30 := (b0_44 hT :); have orn := rnd_b (th 10); obtain ⟨o0a, o0b⟩ := (hv14_11 : In _ _ _); obtain ⟨o1a, o1b⟩ := (hb13 : In _ _ _); obtain ⟨o2a, o2b⟩ := (hv17_11 : In _ _ _); obtain ⟨o3a, o3b⟩ := (hv20_11 : In _ _ _); obtain ⟨o4a, o4b⟩ := (hv23_11 : In _ _ _); obtain ⟨o5a, o5b⟩ := (hv25_11 : In _ _ _); obtain ⟨o6a, o6b⟩ := (hv36_11 : In _ _ _); obtain ⟨o7a, o7b⟩ := (hv47_11 : In _ _ _); obtain ⟨o8a, o8b⟩ := (hv48_11 : In _ _ _); obtain ⟨o9a, o9b⟩ := (hv53_11 : In _ _ _); obtain ⟨o10a, o10b⟩ := (hv55_11 : In _ _ _); omega))) cV_X11_takesUp wg_1648 ⟨Nat.le_of_ble_eq_true rfl, Nat.le_of_ble_eq_true rfl⟩ hG hE hA hP hD hS (hst.1 255 (by decide)) hf12 rfl rfl hl.1 (As := []) (rest := []) rfl (Nat.le_of_ble_eq_true rfl) dX11_roundNow_5 ⟨Nat.le_of_ble_eq_true rfl, Nat.le_of_ble_eq_true rfl⟩) hA hD hS (fun L15 f16 H locs hp17 hP hD hS => ?_)
  obtain ⟨eL18L, eL18T, eL18F⟩ := hp17
  have eL18L : L15 = L := eL18L
  rw [eL18L] at hP hD
  obtain ⟨zz19, zz20, zz21, hzz19, eL18T⟩ := eL18T
  have hzz19 : ((zz19 = (th 19) ∧ 0 ≤ zz19 ∧ zz19 ≤ (th 20)) ∧ (0 ≤ zz20 ∧ zz20 ≤ 511)) ∧ capI zz20 ((th 11)) := hzz19
  have hT : TI g ad (gset (gset (gset (gset (gset th 16 zz9) 24 zz10) 18 zz19) 14 zz20) 44 zz21) f16 := eL18T
  have eL18F : ∀ b, b ≠ (ad 255) → b ≠ (ad 265) → b ≠ (ad 266) → b ≠ (ad 267) → b ≠ (ad 269) → b ≠ (ad 260) → b ≠ (ad 261) → b ≠ (ad 262) → b ≠ (ad 263) → b ≠ (ad 264) → f16 b = f6 b := eL18F
  refine lv_aload_n hx hb dX11_roundNow_8 rfl (lv_at hl 0 rfl) ?_
  refine M0e hT (fun v0_22 v2_22 v3_22 v4_22 v5_22 v6_22 v8_22 v9_22 v12_22 v13_22 v14_22 v15_22 v16_22 v17_22 v18_22 v19_22 v20_22 v21_22 v22_22 v23_22 v25_22 v36_22 v37_22 v38_22 v39_22 v40_22 v45_22 v46_22 v47_22 v48_22 v50_22 v51_22 v53_22 v55_22 hf23 hv0_22 hv2_22 hg2_22 hv3_22 hg3_22 hv4_22 hg4_22 hv5_22 hg5_22 hv6_22 hg6_22 hv8_22 hg8_22 hv9_22 hg9_22 hv12_22 hv13_22 hg13_22 hv14_22 hg14_22 hv15_22 hg15_22 hv17_22 hg17_22 hv20_22 hg20_22 hv23_22 hg23_22 hv25_22 hg25_22 hv36_22 hg36_22 hv47_22 hg47_22 hv48_22 hg48_22 hv53_22 hg53_22 hv55_22 hg55_22 hrel0_22 => ?_)
  have hg15_22 : v15_22.toInt = th 11 := hg15_22
  have hg17_22 : v17_22.toInt = th 12 := hg17_22
  have hg20_22 : v20_22.toInt = zz20 := hg20_22
  have hb24 : In v15_22 3 9 := ⟨by rw [hg15_22]; exact hn3, hv15_22.2⟩
  refine pl_get (v := .int v36_22) hx hb hts (fun w h => mT (inX11 w h)) hown hG.1 hP (hst.1 255 (by decide)) hf23 rfl 36 (by decide) (hts _ (mT wg_1372)) (fun _ h => h) rfl dX11_roundNow_9 ?_
  have hg36_22 : v36_22.toInt = zz19 := hg36_22
  refine lv_aload_n hx hb dX11_roundNow_12 rfl (lv_at hl 0 rfl) ?_
  refine call_i (run_V (rm := rm_X11_each) hx hb hml hown hts (s_X11_each l g ad (gset (gset (gset (gset (gset th 16 zz9) 24 zz10) 18 zz19) 14 zz20) 44 zz21) _ _ _  hst hT ) cV_X11_each wg_1636 ⟨Nat.le_of_ble_eq_true rfl, Nat.le_of_ble_eq_true rfl⟩ hG hE hA hP hD hS (hst.1 255 (by decide)) hf23 rfl rfl hl.1 (As := []) (rest := [.int v36_22]) rfl (Nat.le_of_ble_eq_true rfl) dX11_roundNow_13 ⟨Nat.le_of_ble_eq_true rfl, Nat.le_of_ble_eq_true rfl⟩) hA hD hS (fun r25 L26 f27 H locs hp28 hP hD hS => ?_)
  obtain ⟨eL29L, eL29T, eL29R, eL29X0⟩ := hp28
  have eL29L : L26 = L := eL29L
  have eL29T : f27 = f16 := eL29T
  rw [eL29L, eL29T] at hP hD
  have eL29R : In r25 2 3 := eL29R
  have hrn30 : r25.toInt = rnd (th 10) := eL29X0
  refine lv_idiv hx hb dX11_roundNow_16 (In.ne0 eL29R (by decide)) ?_
  refine lv_topi (fun x31 ex31 => ?_)
  have hb32 : In x31 0 9 := ex31 ▸ In.div hv36_22 eL29R (by decide) (by decide) (by decide) (by decide)
  have hb33 : In x31 0 5 := ph5 (q := (th 20)) ex31 (Int.le_trans (by decide) hv36_22.1) hrn30 (by have := m20; have ob10 : (0 : Int) ≤ (th 10) ∧ (th 10) ≤ 1 := (b0_10 hT :); have ob11 : (0 : Int) ≤ (th 11) ∧ (th 11) ≤ 9 := (b0_11 hT :); have ob12 : (0 : Int) ≤ (th 12) ∧ (th 12) ≤ 6 := (b0_12 hT :); have ob14 : (0 : Int) ≤ zz20 ∧ zz20 ≤ 511 := (b0_14 hT :); have ob15 : (0 : Int) ≤ (th 15) ∧ (th 15) ≤ 1 := (b0_15 hT :); have ob16 : (0 : Int) ≤ zz9 ∧ zz9 ≤ 20 := (b0_16 hT :); have ob17 : (0 : Int) ≤ (th 17) ∧ (th 17) ≤ 1 := (b0_17 hT :); have ob18 : (0 : Int) ≤ zz19 ∧ zz19 ≤ 18 := (b0_18 hT :); have ob38 : (0 : Int) ≤ (th 38) ∧ (th 38) ≤ 400 := (b0_38 hT :); have ob39 : (0 : Int) ≤ (th 39) ∧ (th 39) ≤ 200 := (b0_39 hT :); have ob44 : (0 : Int) ≤ zz21 ∧ zz21 ≤ 30 := (b0_44 hT :); have orn := rnd_b (th 10); obtain ⟨o0a, o0b⟩ := (hv36_22 : In _ _ _); obtain ⟨o1a, o1b⟩ := (hv14_22 : In _ _ _); obtain ⟨o2a, o2b⟩ := (hb24 : In _ _ _); obtain ⟨o3a, o3b⟩ := (hv17_22 : In _ _ _); obtain ⟨o4a, o4b⟩ := (hv20_22 : In _ _ _); obtain ⟨o5a, o5b⟩ := (hv23_22 : In _ _ _); obtain ⟨o6a, o6b⟩ := (hv25_22 : In _ _ _); obtain ⟨o7a, o7b⟩ := (hv47_22 : In _ _ _); obtain ⟨o8a, o8b⟩ := (hv48_22 : In _ _ _); obtain ⟨o9a, o9b⟩ := (hv53_22 : In _ _ _); obtain ⟨o10a, o10b⟩ := (hv55_22 : In _ _ _); omega) hb32
  refine lv_istore_n (lv' := [(1, .int x31), (0, .ref (ad 255))]) hx hb dX11_roundNow_17 rfl hl (by decide) rfl (fun ls hl => ?_)
  refine lv_aload_n hx hb dX11_roundNow_18 rfl (lv_at hl 1 rfl) ?_
  refine pl_get (v := .int v36_22) hx hb hts (fun w h => mT (inX11 w h)) hown hG.1 hP (hst.1 255 (by decide)) hf23 rfl 36 (by decide) (hts _ (mT wg_1372)) (fun _ h => h) rfl dX11_roundNow_19 ?_
  refine lv_aload_n hx hb dX11_roundNow_22 rfl (lv_at hl 1 rfl) ?_
  refine call_i (run_V (rm := rm_X11_each) hx hb hml hown hts (s_X11_each l g ad (gset (gset (gset (gset (gset th 16 zz9) 24 zz10) 18 zz19) 14 zz20) 44 zz21) _ _ _  hst hT ) cV_X11_each wg_1636 ⟨Nat.le_of_ble_eq_true rfl, Nat.le_of_ble_eq_true rfl⟩ hG hE hA hP hD hS (hst.1 255 (by decide)) hf23 rfl rfl hl.1 (As := []) (rest := [.int v36_22]) rfl (Nat.le_of_ble_eq_true rfl) dX11_roundNow_23 ⟨Nat.le_of_ble_eq_true rfl, Nat.le_of_ble_eq_true rfl⟩) hA hD hS (fun r34 L35 f36 H locs hp37 hP hD hS => ?_)
  obtain ⟨eL38L, eL38T, eL38R, eL38X0⟩ := hp37
  have eL38L : L35 = L := eL38L
  have eL38T : f36 = f16 := eL38T
  rw [eL38L, eL38T] at hP hD
  have eL38R : In r34 2 3 := eL38R
  have hrn39 : r34.toInt = rnd (th 10) := eL38X0
  refine lv_irem hx hb dX11_roundNow_26 (In.ne0 eL38R (by decide)) ?_
  refine lv_topi (fun x40 ex40 => ?_)
  have hb41 : In x40 0 2 := ex40 ▸ In.rem hv36_22 eL38R (by decide) (by decide) (by decide)
  refine lv_istore_n (lv' := [(2, .int x40), (1, .int x31), (0, .ref (ad 255))]) hx hb dX11_roundNow_27 rfl hl (by decide) rfl (fun ls hl => ?_)
  refine lv_aload_n hx hb dX11_roundNow_28 rfl (lv_at hl 2 rfl) ?_
  refine pl_get (v := .int v37_22) hx hb hts (fun w h => mT (inX11 w h)) hown hG.1 hP (hst.1 255 (by decide)) hf23 rfl 37 (by decide) (hts _ (mT wg_1373)) (fun _ h => h) rfl dX11_roundNow_29 ?_
  refine lv_istore_n (lv' := [(3, .int v37_22), (2, .int x40), (1, .int x31), (0, .ref (ad 255))]) hx hb dX11_roundNow_32 rfl hl (by decide) rfl (fun ls hl => ?_)
  refine lv_aload_n hx hb dX11_roundNow_33 rfl (lv_at hl 3 rfl) ?_
  refine call_v (run_V (rm := rm_X11_rounds) hx hb hml hown hts (s_X11_rounds l g ad (gset (gset (gset (gset (gset th 16 zz9) 24 zz10) 18 zz19) 14 zz20) 44 zz21) _ _ _  hst hT hn3 (show zz19 ≤ 17 from (by have ob10 : (0 : Int) ≤ (th 10) ∧ (th 10) ≤ 1 := (b0_10 hT :); have ob11 : (0 : Int) ≤ (th 11) ∧ (th 11) ≤ 9 := (b0_11 hT :); have ob12 : (0 : Int) ≤ (th 12) ∧ (th 12) ≤ 6 := (b0_12 hT :); have ob14 : (0 : Int) ≤ zz20 ∧ zz20 ≤ 511 := (b0_14 hT :); have ob15 : (0 : Int) ≤ (th 15) ∧ (th 15) ≤ 1 := (b0_15 hT :); have ob16 : (0 : Int) ≤ zz9 ∧ zz9 ≤ 20 := (b0_16 hT :); have ob17 : (0 : Int) ≤ (th 17) ∧ (th 17) ≤ 1 := (b0_17 hT :); have ob18 : (0 : Int) ≤ zz19 ∧ zz19 ≤ 18 := (b0_18 hT :); have ob38 : (0 : Int) ≤ (th 38) ∧ (th 38) ≤ 400 := (b0_38 hT :); have ob39 : (0 : Int) ≤ (th 39) ∧ (th 39) ≤ 200 := (b0_39 hT :); have ob44 : (0 : Int) ≤ zz21 ∧ zz21 ≤ 30 := (b0_44 hT :); have orn := rnd_b (th 10); obtain ⟨o0a, o0b⟩ := (hv14_22 : In _ _ _); obtain ⟨o1a, o1b⟩ := (hb24 : In _ _ _); obtain ⟨o2a, o2b⟩ := (hv17_22 : In _ _ _); obtain ⟨o3a, o3b⟩ := (hv20_22 : In _ _ _); obtain ⟨o4a, o4b⟩ := (hv23_22 : In _ _ _); obtain ⟨o5a, o5b⟩ := (hv25_22 : In _ _ _); obtain ⟨o6a, o6b⟩ := (hv36_22 : In _ _ _); obtain ⟨o7a, o7b⟩ := (hv47_22 : In _ _ _); obtain ⟨o8a, o8b⟩ := (hv48_22 : In _ _ _); obtain ⟨o9a, o9b⟩ := (hv53_22 : In _ _ _); obtain ⟨o10a, o10b⟩ := (hv55_22 : In _ _ _); omega))) cV_X11_rounds wg_1652 ⟨Nat.le_of_ble_eq_true rfl, Nat.le_of_ble_eq_true rfl⟩ hG hE hA hP hD hS (hst.1 255 (by decide)) hf23 rfl rfl hl.1 (As := []) (rest := []) rfl (Nat.le_of_ble_eq_true rfl) dX11_roundNow_34 ⟨Nat.le_of_ble_eq_true rfl, Nat.le_of_ble_eq_true rfl⟩) hA hD hS (fun L43 f44 H locs hp45 hP hD hS => ?_)
  obtain ⟨eL46L, eL46T, eL46F⟩ := hp45
  have eL46L : L43 = L := eL46L
  rw [eL46L] at hP hD
  obtain ⟨zz47, hzz47, eL46T⟩ := eL46T
  have hzz47 : zz47 = zz19 + 1 := hzz47
  have hT : TI g ad (gset (gset (gset (gset (gset (gset th 16 zz9) 24 zz10) 18 zz19) 14 zz20) 44 zz21) 18 zz47) f44 := eL46T
  have hT : TI g ad (gset (gset (gset (gset (gset th 16 zz9) 24 zz10) 14 zz20) 44 zz21) 18 zz47) f44 := TI.cast hT (by funext q; by_cases hq0 : q = 18; (subst hq0; rfl); by_cases hq1 : q = 44; (subst hq1; rfl); by_cases hq2 : q = 14; (subst hq2; rfl); by_cases hq3 : q = 24; (subst hq3; rfl); by_cases hq4 : q = 16; (subst hq4; rfl); simp only [gset, if_neg hq0, if_neg hq1, if_neg hq2, if_neg hq3, if_neg hq4])
  have eL46F : ∀ b, b ≠ (ad 255) → b ≠ (ad 265) → b ≠ (ad 266) → b ≠ (ad 267) → b ≠ (ad 268) → b ≠ (ad 269) → b ≠ (ad 270) → b ≠ (ad 261) → b ≠ (ad 262) → b ≠ (ad 263) → b ≠ (ad 264) → f44 b = f16 b := eL46F
  refine lv_iconst (v := 0) hx hb dX11_roundNow_37 (by decide) ?_
  refine lv_istore (lv' := [(4, .int 0), (3, .int v37_22), (2, .int x40), (1, .int x31), (0, .ref (ad 255))]) hx hb dX11_roundNow_38 hl (by decide) rfl (fun ls hl => ?_)
  have hJ40 : ∀ (k40 : Nat) (y40_l4 : Int32) (f_40 : HP) (H : Heap) (locs : List Loc) (ls : Array Slot), In y40_l4 0 81 → va_P g.1 vwCl (va_pl L f_40) H → va_D A (va_pl L f_40) → va_S A s.heap H locs → TI g ad (gset (gset (gset (gset (gset th 16 zz9) 24 zz10) 14 zz20) 44 zz21) 18 zz47) f_40 → lv_has ls 6 [(0, .ref (ad 255)), (1, .int x31), (2, .int x40), (3, .int v37_22), (4, .int y40_l4)] → 81 - y40_l4.toInt < ((k40 : Nat) : Int) → W p l e rm_X11_roundNow s m [.ref (ad 255)].toArray below meth c H locs 0 0 (MQ below (va_Qv (po_X11_roundNow g ad th L f ) (PstB g A) A) [.ref (ad 255)].toArray s rm_X11_roundNow.cells rm_X11_roundNow.slots A) (F0 m 40 ls []) := by
    intro k40
    induction k40 with
    | zero =>
      intro y40_l4 f_40 H locs ls hy40_l4 hP hD hS hT hl hmz40
      exact ms0 hy40_l4 hmz40
    | succ k40 ih40 =>
      intro y40_l4 f_40 H locs ls hy40_l4 hP hD hS hT hl hmz40
      refine lv_iload hx hb dX11_roundNow_40 (lv_at hl 4 rfl) ?_
      refine lv_bipush (v := 81) hx hb dX11_roundNow_42 (by decide) ?_
      refine lv_icmp_ge (tgt := 79) hx hb dX11_roundNow_44 (by decide) (fun c48 => ?_) (fun c48 => ?_)
      ·
        have oc81 : (81 : Int32).toInt = 81 := by decide
        have cc49 : (81 : Int32).toInt ≤ y40_l4.toInt := i32_le.mp c48
        have hb50 : In y40_l4 81 81 := In.ge1 hy40_l4 (⟨by decide, by decide⟩ : In 81 81 81) cc49 (by decide) (by decide)
        refine lv_aload_n hx hb dX11_roundNow_79 rfl (lv_at hl 0 rfl) ?_
        refine M0e hT (fun v0_51 v2_51 v3_51 v4_51 v5_51 v6_51 v8_51 v9_51 v12_51 v13_51 v14_51 v15_51 v16_51 v17_51 v18_51 v19_51 v20_51 v21_51 v22_51 v23_51 v25_51 v36_51 v37_51 v38_51 v39_51 v40_51 v45_51 v46_51 v47_51 v48_51 v50_51 v51_51 v53_51 v55_51 hf52 hv0_51 hv2_51 hg2_51 hv3_51 hg3_51 hv4_51 hg4_51 hv5_51 hg5_51 hv6_51 hg6_51 hv8_51 hg8_51 hv9_51 hg9_51 hv12_51 hv13_51 hg13_51 hv14_51 hg14_51 hv15_51 hg15_51 hv17_51 hg17_51 hv20_51 hg20_51 hv23_51 hg23_51 hv25_51 hg25_51 hv36_51 hg36_51 hv47_51 hg47_51 hv48_51 hg48_51 hv53_51 hg53_51 hv55_51 hg55_51 hrel0_51 => ?_)
        have hg15_51 : v15_51.toInt = th 11 := hg15_51
        have hg17_51 : v17_51.toInt = th 12 := hg17_51
        have hg20_51 : v20_51.toInt = zz20 := hg20_51
        have hb53 : In v15_51 3 9 := ⟨by rw [hg15_51]; exact hn3, hv15_51.2⟩
        refine pl_get (v := .ref (ad 271)) hx hb hts (fun w h => mT (inX11 w h)) hown hG.1 hP (hst.1 255 (by decide)) hf52 rfl 41 (by decide) (hts _ (mT wg_1377)) (fun _ h => h) rfl dX11_roundNow_80 ?_
        refine lv_sipush (v := 1970) hx hb dX11_roundNow_83 (by decide) ?_
        refine lv_iload_n hx hb dX11_roundNow_86 rfl (lv_at hl 1 rfl) ?_
        refine lv_iadd hx hb dX11_roundNow_87 ?_
        refine lv_topi (fun x54 ex54 => ?_)
        have hb55 : In x54 1970 1975 := ex54 ▸ In.add (⟨by decide, by decide⟩ : In 1970 1970 1970) hb33 (by decide) (by decide) (by decide) (by decide)
        have et56 : x54.toInt = (1970 : Int32).toInt + x31.toInt := In.add2e ex54 (⟨by decide, by decide⟩ : In 1970 1970 1970) hb33 (by decide) (by decide)
        refine lv_iload_n hx hb dX11_roundNow_88 rfl (lv_at hl 2 rfl) ?_
        have hJ106 : ∀ (y106_s0 : Int32) (H : Heap) (locs : List Loc) (ls : Array Slot), In y106_s0 (-2147483648) 2147483647 → va_P g.1 vwCl (va_pl L f_40) H → va_D A (va_pl L f_40) → va_S A s.heap H locs → lv_has ls 6 [(0, .ref (ad 255)), (1, .int x31), (2, .int x40), (3, .int v37_22), (4, .int y40_l4)] → W p l e rm_X11_roundNow s m [.ref (ad 255)].toArray below meth c H locs 0 0 (MQ below (va_Qv (po_X11_roundNow g ad th L f ) (PstB g A) A) [.ref (ad 255)].toArray s rm_X11_roundNow.cells rm_X11_roundNow.slots A) (F0 m 106 ls [.int y106_s0, .int x54, .ref (ad 271)]) := by
          intro y106_s0 H locs ls hy106_s0 hP hD hS hl
          refine lv_aload_n hx hb dX11_roundNow_106 rfl (lv_at hl 0 rfl) ?_
          refine pl_get (v := .int v37_51) hx hb hts (fun w h => mT (inX11 w h)) hown hG.1 hP (hst.1 255 (by decide)) hf52 rfl 37 (by decide) (hts _ (mT wg_1373)) (fun _ h => h) rfl dX11_roundNow_107 ?_
          refine lv_iadd hx hb dX11_roundNow_110 ?_
          refine lv_topi (fun x57 ex57 => ?_)
          refine lv_iload_n hx hb dX11_roundNow_111 rfl (lv_at hl 3 rfl) ?_
          refine lv_isub hx hb dX11_roundNow_112 ?_
          refine lv_topi (fun x58 ex58 => ?_)
          obtain ⟨rw59, hf60, hpi62, hc61⟩ := hT.2.2 16 (by decide)
          have hc61 : PRW 2126 (th 22) (th 20) (th 21) rw59 := hc61
          have hpi62 : ((72 : Int) < (th 22) → (rw59 72).toInt = th 19) := hpi62
          refine pl_iastE hx hb hG.1 hP hD hS (hst.1 271 (by decide)) 0 hf60 rfl (In.inb hb55 (by decide) (by decide)) dX11_roundNow_113 (fun H locs f63 r66 er66 hf64 ho65 hP hD hS => ?_)
          have hc67 : PRW 2126 (th 22) (th 20) (th 21) r66 := prw_set hc61 er66 (pred_off hb55 (by decide) (by decide) (by decide) (by decide))
          have hpi68 : ((72 : Int) < (th 22) → (r66 72).toInt = th 19) := fun q => (congrArg Int32.toInt (upd_neI (k := 72) er66 (neN hb55 (by decide)))).trans (hpi62 q)
          have hf69 := (ho65 (ad 255) (hst.ne (by decide) (by decide) (by decide))).trans hf52
          refine lv_iload_n hx hb dX11_roundNow_114 rfl (lv_at hl 2 rfl) ?_
          refine lv_aload_n hx hb dX11_roundNow_115 rfl (lv_at hl 0 rfl) ?_
          have hT := TI.updM hT hst (k := 16) (by decide) hf64 ho65 ⟨r66, rfl, hpi68, hc67⟩
          refine call_i (run_V (rm := rm_X11_each) hx hb hml hown hts (s_X11_each l g ad (gset (gset (gset (gset (gset th 16 zz9) 24 zz10) 14 zz20) 44 zz21) 18 zz47) _ _ _  hst hT ) cV_X11_each wg_1636 ⟨Nat.le_of_ble_eq_true rfl, Nat.le_of_ble_eq_true rfl⟩ hG hE hA hP hD hS (hst.1 255 (by decide)) hf69 rfl rfl hl.1 (As := []) (rest := [.int x40]) rfl (Nat.le_of_ble_eq_true rfl) dX11_roundNow_116 ⟨Nat.le_of_ble_eq_true rfl, Nat.le_of_ble_eq_true rfl⟩) hA hD hS (fun r70 L71 f72 H locs hp73 hP hD hS => ?_)
          obtain ⟨eL74L, eL74T, eL74R, eL74X0⟩ := hp73
          have eL74L : L71 = L := eL74L
          have eL74T : f72 = f63 := eL74T
          rw [eL74L, eL74T] at hP hD
          have eL74R : In r70 2 3 := eL74R
          have hrn75 : r70.toInt = rnd (th 10) := eL74X0
          refine lv_iconst (v := 1) hx hb dX11_roundNow_119 (by decide) ?_
          refine lv_isub hx hb dX11_roundNow_120 ?_
          refine lv_topi (fun x76 ex76 => ?_)
          have hb77 : In x76 1 2 := ex76 ▸ In.sub eL74R (⟨by decide, by decide⟩ : In 1 1 1) (by decide) (by decide) (by decide) (by decide)
          have et78 : x76.toInt = r70.toInt + (-1) := In.sube ex76 eL74R (k := 1) (by decide) (by decide) (by decide)
          have hJ316 : ∀ (y316_l4 : Int32) (f_316 : HP) (H : Heap) (locs : List Loc) (ls : Array Slot), In y316_l4 3 2147483647 → va_P g.1 vwCl (va_pl L f_316) H → va_D A (va_pl L f_316) → va_S A s.heap H locs → TI g ad (gset (gset (gset (gset (gset th 16 zz9) 24 zz10) 14 zz20) 44 zz21) 18 zz47) f_316 → f_316 (ad 255) = .inr (10, [.int v0_51, .ref (ad 256), .int v2_51, .int v3_51, .int v4_51, .int v5_51, .int v6_51, .ref (ad 257), .int v8_51, .int v9_51, .ref (ad 258), .ref (ad 259), .int v12_51, .int v13_51, .int v14_51, .int v15_51, .int v16_51, .int v17_51, .int v18_51, .int v19_51, .int v20_51, .long v21_51, .long v22_51, .int v23_51, .ref (ad 260), .int v25_51, .ref (ad 261), .ref (ad 262), .ref (ad 263), .ref (ad 264), .ref (ad 265), .ref (ad 266), .ref (ad 267), .ref (ad 268), .ref (ad 269), .ref (ad 270), .int v36_51, .int v37_51, .int v38_51, .int v39_51, .int v40_51, .ref (ad 271), .ref (ad 272), .ref (ad 273), .ref (ad 274), .long v45_51, .long v46_51, .int v47_51, .int v48_51, .ref (ad 275), .int v50_51, .int v51_51, .ref (ad 276), .int v53_51, .ref (ad 277), .int v55_51]) → lv_has ls 6 [(0, .ref (ad 255)), (1, .int x31), (2, .int x40), (3, .int v37_22), (4, .int y316_l4)] → W p l e rm_X11_roundNow s m [.ref (ad 255)].toArray below meth c H locs 0 0 (MQ below (va_Qv (po_X11_roundNow g ad th L f ) (PstB g A) A) [.ref (ad 255)].toArray s rm_X11_roundNow.cells rm_X11_roundNow.slots A) (F0 m 316 ls []) := by
            intro y316_l4 f_316 H locs ls hy316_l4 hP hD hS hT hf79 hl
            refine lv_aload_n hx hb dX11_roundNow_316 rfl (lv_at hl 0 rfl) ?_
            refine call_v (run_V (rm := rm_X11_laysDown) hx hb hml hown hts (s_X11_laysDown l g ad (gset (gset (gset (gset (gset th 16 zz9) 24 zz10) 14 zz20) 44 zz21) 18 zz47) _ _ _  hst hT (show zz47 ≤ (th 20) from (by have ob10 : (0 : Int) ≤ (th 10) ∧ (th 10) ≤ 1 := (b0_10 hT :); have ob11 : (0 : Int) ≤ (th 11) ∧ (th 11) ≤ 9 := (b0_11 hT :); have ob12 : (0 : Int) ≤ (th 12) ∧ (th 12) ≤ 6 := (b0_12 hT :); have ob14 : (0 : Int) ≤ zz20 ∧ zz20 ≤ 511 := (b0_14 hT :); have ob15 : (0 : Int) ≤ (th 15) ∧ (th 15) ≤ 1 := (b0_15 hT :); have ob16 : (0 : Int) ≤ zz9 ∧ zz9 ≤ 20 := (b0_16 hT :); have ob17 : (0 : Int) ≤ (th 17) ∧ (th 17) ≤ 1 := (b0_17 hT :); have ob18 : (0 : Int) ≤ zz47 ∧ zz47 ≤ 18 := (b0_18 hT :); have ob38 : (0 : Int) ≤ (th 38) ∧ (th 38) ≤ 400 := (b0_38 hT :); have ob39 : (0 : Int) ≤ (th 39) ∧ (th 39) ≤ 200 := (b0_39 hT :); have ob44 : (0 : Int) ≤ zz21 ∧ zz21 ≤ 30 := (b0_44 hT :); have orn := rnd_b (th 10); obtain ⟨o0a, o0b⟩ := (hv14_51 : In _ _ _); obtain ⟨o1a, o1b⟩ := (hb53 : In _ _ _); obtain ⟨o2a, o2b⟩ := (hv17_51 : In _ _ _); obtain ⟨o3a, o3b⟩ := (hv20_51 : In _ _ _); obtain ⟨o4a, o4b⟩ := (hv23_51 : In _ _ _); obtain ⟨o5a, o5b⟩ := (hv25_51 : In _ _ _); obtain ⟨o6a, o6b⟩ := (hv36_51 : In _ _ _); obtain ⟨o7a, o7b⟩ := (hv47_51 : In _ _ _); obtain ⟨o8a, o8b⟩ := (hv48_51 : In _ _ _); obtain ⟨o9a, o9b⟩ := (hv53_51 : In _ _ _); obtain ⟨o10a, o10b⟩ := (hv55_51 : In _ _ _); omega)) (show (th 11) = (th 21) from (by have ob10 : (0 : Int) ≤ (th 10) ∧ (th 10) ≤ 1 := (b0_10 hT :); have ob11 : (0 : Int) ≤ (th 11) ∧ (th 11) ≤ 9 := (b0_11 hT :); have ob12 : (0 : Int) ≤ (th 12) ∧ (th 12) ≤ 6 := (b0_12 hT :); have ob14 : (0 : Int) ≤ zz20 ∧ zz20 ≤ 511 := (b0_14 hT :); have ob15 : (0 : Int) ≤ (th 15) ∧ (th 15) ≤ 1 := (b0_15 hT :); have ob16 : (0 : Int) ≤ zz9 ∧ zz9 ≤ 20 := (b0_16 hT :); have ob17 : (0 : Int) ≤ (th 17) ∧ (th 17) ≤ 1 := (b0_17 hT :); have ob18 : (0 : Int) ≤ zz47 ∧ zz47 ≤ 18 := (b0_18 hT :); have ob38 : (0 : Int) ≤ (th 38) ∧ (th 38) ≤ 400 := (b0_38 hT :); have ob39 : (0 : Int) ≤ (th 39) ∧ (th 39) ≤ 200 := (b0_39 hT :); have ob44 : (0 : Int) ≤ zz21 ∧ zz21 ≤ 30 := (b0_44 hT :); have orn := rnd_b (th 10); obtain ⟨o0a, o0b⟩ := (hv14_51 : In _ _ _); obtain ⟨o1a, o1b⟩ := (hb53 : In _ _ _); obtain ⟨o2a, o2b⟩ := (hv17_51 : In _ _ _); obtain ⟨o3a, o3b⟩ := (hv20_51 : In _ _ _); obtain ⟨o4a, o4b⟩ := (hv23_51 : In _ _ _); obtain ⟨o5a, o5b⟩ := (hv25_51 : In _ _ _); obtain ⟨o6a, o6b⟩ := (hv36_51 : In _ _ _); obtain ⟨o7a, o7b⟩ := (hv47_51 : In _ _ _); obtain ⟨o8a, o8b⟩ := (hv48_51 : In _ _ _); obtain ⟨o9a, o9b⟩ := (hv53_51 : In _ _ _); obtain ⟨o10a, o10b⟩ := (hv55_51 : In _ _ _); omega))) cV_X11_laysDown wg_1620 ⟨Nat.le_of_ble_eq_true rfl, Nat.le_of_ble_eq_true rfl⟩ hG hE hA hP hD hS (hst.1 255 (by decide)) hf79 rfl rfl hl.1 (As := []) (rest := []) rfl (Nat.le_of_ble_eq_true rfl) dX11_roundNow_317 ⟨Nat.le_of_ble_eq_true rfl, Nat.le_of_ble_eq_true rfl⟩) hA hD hS (fun L81 f82 H locs hp83 hP hD hS => ?_)
            obtain ⟨eL84L, eL84T, eL84F⟩ := hp83
            have eL84L : L81 = L := eL84L
            rw [eL84L] at hP hD
            obtain ⟨zz85, zz86, hzz85, eL84T⟩ := eL84T
            have hzz85 : zz85 = zz47 ∧ zz86 = 2126 := hzz85
            have hT : TI g ad (gset (gset (gset (gset (gset (gset (gset th 16 zz9) 24 zz10) 14 zz20) 44 zz21) 18 zz47) 19 zz85) 22 zz86) f82 := eL84T
            have eL84F : ∀ b, b ≠ (ad 255) → b ≠ (ad 271) → f82 b = f_316 b := eL84F
            exact ret_v hx hb hr hlocks hP hD hS (Nat.le_of_ble_eq_true rfl) (Nat.le_of_ble_eq_true rfl) (⟨rfl, ⟨zz20, zz9, zz47, zz85, zz86, zz10, zz21, (show zz85 = th 19 + 1 ∧ zz86 = 2126 ∧ (1 ≤ zz9 ∧ zz9 ≤ 20) ∧ zz10 = 2126 * zz9 from (by have ob10 : (0 : Int) ≤ (th 10) ∧ (th 10) ≤ 1 := (b0_10 hT :); have ob11 : (0 : Int) ≤ (th 11) ∧ (th 11) ≤ 9 := (b0_11 hT :); have ob12 : (0 : Int) ≤ (th 12) ∧ (th 12) ≤ 6 := (b0_12 hT :); have ob14 : (0 : Int) ≤ zz20 ∧ zz20 ≤ 511 := (b0_14 hT :); have ob15 : (0 : Int) ≤ (th 15) ∧ (th 15) ≤ 1 := (b0_15 hT :); have ob16 : (0 : Int) ≤ zz9 ∧ zz9 ≤ 20 := (b0_16 hT :); have ob17 : (0 : Int) ≤ (th 17) ∧ (th 17) ≤ 1 := (b0_17 hT :); have ob18 : (0 : Int) ≤ zz47 ∧ zz47 ≤ 18 := (b0_18 hT :); have ob38 : (0 : Int) ≤ (th 38) ∧ (th 38) ≤ 400 := (b0_38 hT :); have ob39 : (0 : Int) ≤ (th 39) ∧ (th 39) ≤ 200 := (b0_39 hT :); have ob44 : (0 : Int) ≤ zz21 ∧ zz21 ≤ 30 := (b0_44 hT :); have orn := rnd_b (th 10); obtain ⟨o0a, o0b⟩ := (hb33 : In _ _ _); obtain ⟨o1a, o1b⟩ := (hb41 : In _ _ _); obtain ⟨o3a, o3b⟩ := (hy316_l4 : In _ _ _); omega)), TI.cast hT (by funext q; by_cases hq0 : q = 22; (subst hq0; rfl); by_cases hq1 : q = 19; (subst hq1; rfl); by_cases hq2 : q = 18; (subst hq2; rfl); by_cases hq3 : q = 44; (subst hq3; rfl); by_cases hq4 : q = 14; (subst hq4; rfl); by_cases hq5 : q = 24; (subst hq5; rfl); by_cases hq6 : q = 16; (subst hq6; rfl); simp only [gset, if_neg hq0, if_neg hq1, if_neg hq2, if_neg hq3, if_neg hq4, if_neg hq5, if_neg hq6])⟩⟩) dX11_roundNow_320
          refine lv_icmp_ne (tgt := 316) hx hb dX11_roundNow_121 (by decide) (fun c87 => ?_) (fun c87 => ?_)
          ·
            have cc88 : x40.toInt ≠ x76.toInt := i32_ne c87
            exact hJ316 y40_l4 _ _ _ _ (In.mono hb50 (by decide) (by decide)) hP hD hS hT hf69 (lv_sub hl [0, 1, 2, 3, 4] rfl)
          ·
            have cc89 : x40.toInt = x76.toInt := congrArg Int32.toInt c87
            have hb90 : In x40 1 2 := In.eq1 hb41 hb77 cc89 (by decide) (by decide)
            refine lv_iconst (v := 0) hx hb dX11_roundNow_124 (by decide) ?_
            refine lv_istore (lv' := [(4, .int 0), (0, .ref (ad 255)), (1, .int x31), (2, .int x40), (3, .int v37_22)]) hx hb dX11_roundNow_125 hl (by decide) rfl (fun ls hl => ?_)
            have hJ127 : ∀ (k127 : Nat) (y127_l4 : Int32) (f_127 : HP) (H : Heap) (locs : List Loc) (ls : Array Slot), In y127_l4 0 2147483647 → va_P g.1 vwCl (va_pl L f_127) H → va_D A (va_pl L f_127) → va_S A s.heap H locs → TI g ad (gset (gset (gset (gset (gset th 16 zz9) 24 zz10) 14 zz20) 44 zz21) 18 zz47) f_127 → f_127 (ad 255) = .inr (10, [.int v0_51, .ref (ad 256), .int v2_51, .int v3_51, .int v4_51, .int v5_51, .int v6_51, .ref (ad 257), .int v8_51, .int v9_51, .ref (ad 258), .ref (ad 259), .int v12_51, .int v13_51, .int v14_51, .int v15_51, .int v16_51, .int v17_51, .int v18_51, .int v19_51, .int v20_51, .long v21_51, .long v22_51, .int v23_51, .ref (ad 260), .int v25_51, .ref (ad 261), .ref (ad 262), .ref (ad 263), .ref (ad 264), .ref (ad 265), .ref (ad 266), .ref (ad 267), .ref (ad 268), .ref (ad 269), .ref (ad 270), .int v36_51, .int v37_51, .int v38_51, .int v39_51, .int v40_51, .ref (ad 271), .ref (ad 272), .ref (ad 273), .ref (ad 274), .long v45_51, .long v46_51, .int v47_51, .int v48_51, .ref (ad 275), .int v50_51, .int v51_51, .ref (ad 276), .int v53_51, .ref (ad 277), .int v55_51]) → lv_has ls 6 [(0, .ref (ad 255)), (1, .int x31), (2, .int x40), (3, .int v37_22), (4, .int y127_l4)] → 2147483647 - y127_l4.toInt < ((k127 : Nat) : Int) → W p l e rm_X11_roundNow s m [.ref (ad 255)].toArray below meth c H locs 0 0 (MQ below (va_Qv (po_X11_roundNow g ad th L f ) (PstB g A) A) [.ref (ad 255)].toArray s rm_X11_roundNow.cells rm_X11_roundNow.slots A) (F0 m 127 ls []) := by
              intro k127
              induction k127 with
              | zero =>
                intro y127_l4 f_127 H locs ls hy127_l4 hP hD hS hT hf91 hl hmz127
                exact ms0 hy127_l4 hmz127
              | succ k127 ih127 =>
                intro y127_l4 f_127 H locs ls hy127_l4 hP hD hS hT hf91 hl hmz127
                refine lv_iload hx hb dX11_roundNow_127 (lv_at hl 4 rfl) ?_
                refine lv_aload_n hx hb dX11_roundNow_129 rfl (lv_at hl 0 rfl) ?_
                refine pl_get (v := .int v15_51) hx hb hts (fun w h => mT (inX11 w h)) hown hG.1 hP (hst.1 255 (by decide)) hf91 rfl 15 (by decide) (hts _ (mT wg_1351)) (fun _ h => h) rfl dX11_roundNow_130 ?_
                refine lv_icmp_ge (tgt := 316) hx hb dX11_roundNow_133 (by decide) (fun c92 => ?_) (fun c92 => ?_)
                ·
                  have cc93 : v15_51.toInt ≤ y127_l4.toInt := i32_le.mp c92
                  have hb94 : In y127_l4 3 2147483647 := In.ge1 hy127_l4 hb53 cc93 (by decide) (by decide)
                  exact hJ316 y127_l4 _ _ _ _ hb94 hP hD hS hT hf91 (lv_sub hl [0, 1, 2, 3, 4] rfl)
                ·
                  have cc95 : y127_l4.toInt < v15_51.toInt := i32_nle c92
                  have hb96 : In y127_l4 0 8 := In.lt1 hy127_l4 hb53 cc95 (by decide) (by decide)
                  refine lv_iload_n hx hb dX11_roundNow_136 rfl (lv_at hl 1 rfl) ?_
                  refine lv_iload hx hb dX11_roundNow_137 (lv_at hl 4 rfl) ?_
                  refine call_i (run_S (rm := rm_X11_toldAt) hx hb hml hown hts (s_X11_toldAt l g ad (gset (gset (gset (gset (gset th 16 zz9) 24 zz10) 14 zz20) 44 zz21) 18 zz47) _ _ _ x31 y127_l4 hst hT hb33 hb96) cS_X11_toldAt wg_1699 ⟨Nat.le_of_ble_eq_true rfl, Nat.le_of_ble_eq_true rfl⟩ hG hE hA hP hD hS rfl hl.1 (As := [.int x31, .int y127_l4]) (rest := []) rfl (Nat.le_of_ble_eq_true rfl) dX11_roundNow_139 ⟨Nat.le_of_ble_eq_true rfl, Nat.le_of_ble_eq_true rfl⟩) hA hD hS (fun r97 L98 f99 H locs hp100 hP hD hS => ?_)
                  obtain ⟨eL101L, eL101T, eL101R⟩ := hp100
                  have eL101L : L98 = L := eL101L
                  have eL101T : f99 = f_127 := eL101T
                  rw [eL101L, eL101T] at hP hD
                  have eL101R : In r97 1538 1962 := eL101R
                  refine lv_istore (lv' := [(5, .int r97), (0, .ref (ad 255)), (1, .int x31), (2, .int x40), (3, .int v37_22), (4, .int y127_l4)]) hx hb dX11_roundNow_142 hl (by decide) rfl (fun ls hl => ?_)
                  refine lv_aload_n hx hb dX11_roundNow_144 rfl (lv_at hl 1 rfl) ?_
                  refine pl_get (v := .ref (ad 271)) hx hb hts (fun w h => mT (inX11 w h)) hown hG.1 hP (hst.1 255 (by decide)) hf91 rfl 41 (by decide) (hts _ (mT wg_1377)) (fun _ h => h) rfl dX11_roundNow_145 ?_
                  refine lv_iload hx hb dX11_roundNow_148 (lv_at hl 0 rfl) ?_
                  refine lv_aload_n hx hb dX11_roundNow_150 rfl (lv_at hl 1 rfl) ?_
                  refine pl_get (v := .ref (ad 261)) hx hb hts (fun w h => mT (inX11 w h)) hown hG.1 hP (hst.1 255 (by decide)) hf91 rfl 26 (by decide) (hts _ (mT wg_1362)) (fun _ h => h) rfl dX11_roundNow_151 ?_
                  refine lv_iload hx hb dX11_roundNow_154 (lv_at hl 5 rfl) ?_
                  obtain ⟨rw102, hf103⟩ := hT.2.2 6 (by decide)
                  have hin104 : vp_in y127_l4 9 := In.inb hb96 (by decide) (by decide)
                  refine pl_iald hx hb hG.1 hP (hst.1 261 (by decide)) 0 hf103 rfl hin104 dX11_roundNow_156 ?_
                  refine lv_topi (fun x105 ex105 => ?_)
                  obtain ⟨rw106, hf107, hpi109, hc108⟩ := hT.2.2 16 (by decide)
                  have hc108 : PRW 2126 (th 22) (th 20) (th 21) rw106 := hc108
                  have hpi109 : ((72 : Int) < (th 22) → (rw106 72).toInt = th 19) := hpi109
                  refine pl_iastE hx hb hG.1 hP hD hS (hst.1 271 (by decide)) 0 hf107 rfl (In.inb eL101R (by decide) (by decide)) dX11_roundNow_157 (fun H locs f110 r113 er113 hf111 ho112 hP hD hS => ?_)
                  have hc114 : PRW 2126 (th 22) (th 20) (th 21) r113 := prw_set hc108 er113 (pred_off eL101R (by decide) (by decide) (by decide) (by decide))
                  have hpi115 : ((72 : Int) < (th 22) → (r113 72).toInt = th 19) := fun q => (congrArg Int32.toInt (upd_neI (k := 72) er113 (neN eL101R (by decide)))).trans (hpi109 q)
                  have hf116 := (ho112 (ad 255) (hst.ne (by decide) (by decide) (by decide))).trans hf91
                  have hf117 := (ho112 (ad 261) (hst.ne (by decide) (by decide) (by decide))).trans hf103
                  refine lv_aload_n hx hb dX11_roundNow_158 rfl (lv_at hl 1 rfl) ?_
                  refine pl_get (v := .ref (ad 271)) hx hb hts (fun w h => mT (inX11 w h)) hown hG.1 hP (hst.1 255 (by decide)) hf116 rfl 41 (by decide) (hts _ (mT wg_1377)) (fun _ h => h) rfl dX11_roundNow_159 ?_
                  refine lv_iload hx hb dX11_roundNow_162 (lv_at hl 0 rfl) ?_
                  refine lv_iconst (v := 1) hx hb dX11_roundNow_164 (by decide) ?_
                  refine lv_iadd hx hb dX11_roundNow_165 ?_
                  refine lv_topi (fun x118 ex118 => ?_)
                  have hb119 : In x118 1539 1963 := ex118 ▸ In.add eL101R (⟨by decide, by decide⟩ : In 1 1 1) (by decide) (by decide) (by decide) (by decide)
                  have et120 : x118.toInt = r97.toInt + 1 := In.adde ex118 eL101R (k := 1) (by decide) (by decide) (by decide)
                  refine lv_aload_n hx hb dX11_roundNow_166 rfl (lv_at hl 1 rfl) ?_
                  refine pl_get (v := .ref (ad 269)) hx hb hts (fun w h => mT (inX11 w h)) hown hG.1 hP (hst.1 255 (by decide)) hf116 rfl 34 (by decide) (hts _ (mT wg_1370)) (fun _ h => h) rfl dX11_roundNow_167 ?_
                  refine lv_iload hx hb dX11_roundNow_170 (lv_at hl 5 rfl) ?_
                  have hT := TI.updM hT hst (k := 16) (by decide) hf111 ho112 ⟨r113, rfl, hpi115, hc114⟩
                  obtain ⟨rw121, hf122⟩ := hT.2.2 14 (by decide)
                  have hin123 : vp_in y127_l4 9 := In.inb hb96 (by decide) (by decide)
                  refine pl_zald hx hb hG.1 hP (hst.1 269 (by decide)) 3 hf122 rfl hin123 dX11_roundNow_172 ?_
                  refine lv_topi (fun x124 ex124 => ?_)
                  have hJ181 : ∀ (y181_s0 : Int32) (H : Heap) (locs : List Loc) (ls : Array Slot), In y181_s0 0 1 → va_P g.1 vwCl (va_pl L f110) H → va_D A (va_pl L f110) → va_S A s.heap H locs → lv_has ls 6 [(0, .ref (ad 255)), (1, .int x31), (2, .int x40), (3, .int v37_22), (4, .int y127_l4), (5, .int r97)] → W p l e rm_X11_roundNow s m [.ref (ad 255)].toArray below meth c H locs 0 0 (MQ below (va_Qv (po_X11_roundNow g ad th L f ) (PstB g A) A) [.ref (ad 255)].toArray s rm_X11_roundNow.cells rm_X11_roundNow.slots A) (F0 m 181 ls [.int y181_s0, .int x118, .ref (ad 271)]) := by
                    intro y181_s0 H locs ls hy181_s0 hP hD hS hl
                    refine pl_iastE hx hb hG.1 hP hD hS (hst.1 271 (by decide)) 0 hf111 rfl (In.inb hb119 (by decide) (by decide)) dX11_roundNow_181 (fun H locs f125 r128 er128 hf126 ho127 hP hD hS => ?_)
                    have hc129 : PRW 2126 (th 22) (th 20) (th 21) r128 := prw_set hc114 er128 (pred_off hb119 (by decide) (by decide) (by decide) (by decide))
                    have hpi130 : ((72 : Int) < (th 22) → (r128 72).toInt = th 19) := fun q => (congrArg Int32.toInt (upd_neI (k := 72) er128 (neN hb119 (by decide)))).trans (hpi115 q)
                    have hf131 := (ho127 (ad 255) (hst.ne (by decide) (by decide) (by decide))).trans hf116
                    have hf132 := (ho127 (ad 261) (hst.ne (by decide) (by decide) (by decide))).trans hf117
                    have hf133 := (ho127 (ad 269) (hst.ne (by decide) (by decide) (by decide))).trans hf122
                    refine lv_aload_n hx hb dX11_roundNow_182 rfl (lv_at hl 0 rfl) ?_
                    refine pl_get (v := .ref (ad 271)) hx hb hts (fun w h => mT (inX11 w h)) hown hG.1 hP (hst.1 255 (by decide)) hf131 rfl 41 (by decide) (hts _ (mT wg_1377)) (fun _ h => h) rfl dX11_roundNow_183 ?_
                    refine lv_iload hx hb dX11_roundNow_186 (lv_at hl 5 rfl) ?_
                    refine lv_iconst (v := 2) hx hb dX11_roundNow_188 (by decide) ?_
                    refine lv_iadd hx hb dX11_roundNow_189 ?_
                    refine lv_topi (fun x134 ex134 => ?_)
                    have hb135 : In x134 1540 1964 := ex134 ▸ In.add eL101R (⟨by decide, by decide⟩ : In 2 2 2) (by decide) (by decide) (by decide) (by decide)
                    have et136 : x134.toInt = r97.toInt + 2 := In.adde ex134 eL101R (k := 2) (by decide) (by decide) (by decide)
                    refine lv_aload_n hx hb dX11_roundNow_190 rfl (lv_at hl 0 rfl) ?_
                    refine pl_get (v := .ref (ad 264)) hx hb hts (fun w h => mT (inX11 w h)) hown hG.1 hP (hst.1 255 (by decide)) hf131 rfl 29 (by decide) (hts _ (mT wg_1365)) (fun _ h => h) rfl dX11_roundNow_191 ?_
                    refine lv_iload hx hb dX11_roundNow_194 (lv_at hl 4 rfl) ?_
                    have hT := TI.updM hT hst (k := 16) (by decide) hf126 ho127 ⟨r128, rfl, hpi130, hc129⟩
                    obtain ⟨rw137, hf138⟩ := hT.2.2 9 (by decide)
                    have hin139 : vp_in y127_l4 9 := In.inb hb96 (by decide) (by decide)
                    refine pl_iald hx hb hG.1 hP (hst.1 264 (by decide)) 0 hf138 rfl hin139 dX11_roundNow_196 ?_
                    refine lv_topi (fun x140 ex140 => ?_)
                    refine pl_iastE hx hb hG.1 hP hD hS (hst.1 271 (by decide)) 0 hf126 rfl (In.inb hb135 (by decide) (by decide)) dX11_roundNow_197 (fun H locs f141 r144 er144 hf142 ho143 hP hD hS => ?_)
                    have hc145 : PRW 2126 (th 22) (th 20) (th 21) r144 := prw_set hc129 er144 (pred_off hb135 (by decide) (by decide) (by decide) (by decide))
                    have hpi146 : ((72 : Int) < (th 22) → (r144 72).toInt = th 19) := fun q => (congrArg Int32.toInt (upd_neI (k := 72) er144 (neN hb135 (by decide)))).trans (hpi130 q)
                    have hf147 := (ho143 (ad 255) (hst.ne (by decide) (by decide) (by decide))).trans hf131
                    have hf148 := (ho143 (ad 261) (hst.ne (by decide) (by decide) (by decide))).trans hf132
                    have hf149 := (ho143 (ad 269) (hst.ne (by decide) (by decide) (by decide))).trans hf133
                    have hf150 := (ho143 (ad 264) (hst.ne (by decide) (by decide) (by decide))).trans hf138
                    refine lv_aload_n hx hb dX11_roundNow_198 rfl (lv_at hl 0 rfl) ?_
                    refine pl_get (v := .ref (ad 271)) hx hb hts (fun w h => mT (inX11 w h)) hown hG.1 hP (hst.1 255 (by decide)) hf147 rfl 41 (by decide) (hts _ (mT wg_1377)) (fun _ h => h) rfl dX11_roundNow_199 ?_
                    refine lv_iload hx hb dX11_roundNow_202 (lv_at hl 5 rfl) ?_
                    refine lv_iconst (v := 3) hx hb dX11_roundNow_204 (by decide) ?_
                    refine lv_iadd hx hb dX11_roundNow_205 ?_
                    refine lv_topi (fun x151 ex151 => ?_)
                    have hb152 : In x151 1541 1965 := ex151 ▸ In.add eL101R (⟨by decide, by decide⟩ : In 3 3 3) (by decide) (by decide) (by decide) (by decide)
                    have et153 : x151.toInt = r97.toInt + 3 := In.adde ex151 eL101R (k := 3) (by decide) (by decide) (by decide)
                    refine lv_aload_n hx hb dX11_roundNow_206 rfl (lv_at hl 0 rfl) ?_
                    refine pl_get (v := .ref (ad 265)) hx hb hts (fun w h => mT (inX11 w h)) hown hG.1 hP (hst.1 255 (by decide)) hf147 rfl 30 (by decide) (hts _ (mT wg_1366)) (fun _ h => h) rfl dX11_roundNow_207 ?_
                    refine lv_iload hx hb dX11_roundNow_210 (lv_at hl 4 rfl) ?_
                    have hT := TI.updM hT hst (k := 16) (by decide) hf142 ho143 ⟨r144, rfl, hpi146, hc145⟩
                    obtain ⟨rw154, hf155⟩ := hT.2.2 10 (by decide)
                    have hin156 : vp_in y127_l4 9 := In.inb hb96 (by decide) (by decide)
                    refine pl_iald hx hb hG.1 hP (hst.1 265 (by decide)) 0 hf155 rfl hin156 dX11_roundNow_212 ?_
                    refine lv_topi (fun x157 ex157 => ?_)
                    refine pl_iastE hx hb hG.1 hP hD hS (hst.1 271 (by decide)) 0 hf142 rfl (In.inb hb152 (by decide) (by decide)) dX11_roundNow_213 (fun H locs f158 r161 er161 hf159 ho160 hP hD hS => ?_)
                    have hc162 : PRW 2126 (th 22) (th 20) (th 21) r161 := prw_set hc145 er161 (pred_off hb152 (by decide) (by decide) (by decide) (by decide))
                    have hpi163 : ((72 : Int) < (th 22) → (r161 72).toInt = th 19) := fun q => (congrArg Int32.toInt (upd_neI (k := 72) er161 (neN hb152 (by decide)))).trans (hpi146 q)
                    have hf164 := (ho160 (ad 255) (hst.ne (by decide) (by decide) (by decide))).trans hf147
                    have hf165 := (ho160 (ad 261) (hst.ne (by decide) (by decide) (by decide))).trans hf148
                    have hf166 := (ho160 (ad 269) (hst.ne (by decide) (by decide) (by decide))).trans hf149
                    have hf167 := (ho160 (ad 264) (hst.ne (by decide) (by decide) (by decide))).trans hf150
                    have hf168 := (ho160 (ad 265) (hst.ne (by decide) (by decide) (by decide))).trans hf155
                    refine lv_aload_n hx hb dX11_roundNow_214 rfl (lv_at hl 0 rfl) ?_
                    refine pl_get (v := .ref (ad 271)) hx hb hts (fun w h => mT (inX11 w h)) hown hG.1 hP (hst.1 255 (by decide)) hf164 rfl 41 (by decide) (hts _ (mT wg_1377)) (fun _ h => h) rfl dX11_roundNow_215 ?_
                    refine lv_iload hx hb dX11_roundNow_218 (lv_at hl 5 rfl) ?_
                    refine lv_iconst (v := 4) hx hb dX11_roundNow_220 (by decide) ?_
                    refine lv_iadd hx hb dX11_roundNow_221 ?_
                    refine lv_topi (fun x169 ex169 => ?_)
                    have hb170 : In x169 1542 1966 := ex169 ▸ In.add eL101R (⟨by decide, by decide⟩ : In 4 4 4) (by decide) (by decide) (by decide) (by decide)
                    have et171 : x169.toInt = r97.toInt + 4 := In.adde ex169 eL101R (k := 4) (by decide) (by decide) (by decide)
                    refine lv_aload_n hx hb dX11_roundNow_222 rfl (lv_at hl 0 rfl) ?_
                    refine pl_get (v := .ref (ad 263)) hx hb hts (fun w h => mT (inX11 w h)) hown hG.1 hP (hst.1 255 (by decide)) hf164 rfl 28 (by decide) (hts _ (mT wg_1364)) (fun _ h => h) rfl dX11_roundNow_223 ?_
                    refine lv_iload hx hb dX11_roundNow_226 (lv_at hl 4 rfl) ?_
                    have hT := TI.updM hT hst (k := 16) (by decide) hf159 ho160 ⟨r161, rfl, hpi163, hc162⟩
                    obtain ⟨rw172, hf173⟩ := hT.2.2 8 (by decide)
                    have hin174 : vp_in y127_l4 9 := In.inb hb96 (by decide) (by decide)
                    refine pl_iald hx hb hG.1 hP (hst.1 263 (by decide)) 0 hf173 rfl hin174 dX11_roundNow_228 ?_
                    refine lv_topi (fun x175 ex175 => ?_)
                    refine pl_iastE hx hb hG.1 hP hD hS (hst.1 271 (by decide)) 0 hf159 rfl (In.inb hb170 (by decide) (by decide)) dX11_roundNow_229 (fun H locs f176 r179 er179 hf177 ho178 hP hD hS => ?_)
                    have hc180 : PRW 2126 (th 22) (th 20) (th 21) r179 := prw_set hc162 er179 (pred_off hb170 (by decide) (by decide) (by decide) (by decide))
                    have hpi181 : ((72 : Int) < (th 22) → (r179 72).toInt = th 19) := fun q => (congrArg Int32.toInt (upd_neI (k := 72) er179 (neN hb170 (by decide)))).trans (hpi163 q)
                    have hf182 := (ho178 (ad 255) (hst.ne (by decide) (by decide) (by decide))).trans hf164
                    have hf183 := (ho178 (ad 261) (hst.ne (by decide) (by decide) (by decide))).trans hf165
                    have hf184 := (ho178 (ad 269) (hst.ne (by decide) (by decide) (by decide))).trans hf166
                    have hf185 := (ho178 (ad 264) (hst.ne (by decide) (by decide) (by decide))).trans hf167
                    have hf186 := (ho178 (ad 265) (hst.ne (by decide) (by decide) (by decide))).trans hf168
                    have hf187 := (ho178 (ad 263) (hst.ne (by decide) (by decide) (by decide))).trans hf173
                    refine lv_aload_n hx hb dX11_roundNow_230 rfl (lv_at hl 0 rfl) ?_
                    refine pl_get (v := .ref (ad 271)) hx hb hts (fun w h => mT (inX11 w h)) hown hG.1 hP (hst.1 255 (by decide)) hf182 rfl 41 (by decide) (hts _ (mT wg_1377)) (fun _ h => h) rfl dX11_roundNow_231 ?_
                    refine lv_iload hx hb dX11_roundNow_234 (lv_at hl 5 rfl) ?_
                    refine lv_iconst (v := 5) hx hb dX11_roundNow_236 (by decide) ?_
                    refine lv_iadd hx hb dX11_roundNow_237 ?_
                    refine lv_topi (fun x188 ex188 => ?_)
                    have hb189 : In x188 1543 1967 := ex188 ▸ In.add eL101R (⟨by decide, by decide⟩ : In 5 5 5) (by decide) (by decide) (by decide) (by decide)
                    have et190 : x188.toInt = r97.toInt + 5 := In.adde ex188 eL101R (k := 5) (by decide) (by decide) (by decide)
                    refine lv_aload_n hx hb dX11_roundNow_238 rfl (lv_at hl 0 rfl) ?_
                    refine pl_get (v := .int v14_51) hx hb hts (fun w h => mT (inX11 w h)) hown hG.1 hP (hst.1 255 (by decide)) hf182 rfl 14 (by decide) (hts _ (mT wg_1350)) (fun _ h => h) rfl dX11_roundNow_239 ?_
                    have hg14_51 : v14_51.toInt = th 10 := hg14_51
                    have hT := TI.updM hT hst (k := 16) (by decide) hf177 ho178 ⟨r179, rfl, hpi181, hc180⟩
                    have hJ256 : ∀ (y256_s0 : Int32) (H : Heap) (locs : List Loc) (ls : Array Slot), In y256_s0 (-2147483648) 2147483647 → va_P g.1 vwCl (va_pl L f176) H → va_D A (va_pl L f176) → va_S A s.heap H locs → lv_has ls 6 [(0, .ref (ad 255)), (1, .int x31), (2, .int x40), (3, .int v37_22), (4, .int y127_l4), (5, .int r97)] → W p l e rm_X11_roundNow s m [.ref (ad 255)].toArray below meth c H locs 0 0 (MQ below (va_Qv (po_X11_roundNow g ad th L f ) (PstB g A) A) [.ref (ad 255)].toArray s rm_X11_roundNow.cells rm_X11_roundNow.slots A) (F0 m 256 ls [.int y256_s0, .int x188, .ref (ad 271)]) := by
                      intro y256_s0 H locs ls hy256_s0 hP hD hS hl
                      refine pl_iastE hx hb hG.1 hP hD hS (hst.1 271 (by decide)) 0 hf177 rfl (In.inb hb189 (by decide) (by decide)) dX11_roundNow_256 (fun H locs f191 r194 er194 hf192 ho193 hP hD hS => ?_)
                      have hc195 : PRW 2126 (th 22) (th 20) (th 21) r194 := prw_set hc180 er194 (pred_off hb189 (by decide) (by decide) (by decide) (by decide))
                      have hpi196 : ((72 : Int) < (th 22) → (r194 72).toInt = th 19) := fun q => (congrArg Int32.toInt (upd_neI (k := 72) er194 (neN hb189 (by decide)))).trans (hpi181 q)
                      have hf197 := (ho193 (ad 255) (hst.ne (by decide) (by decide) (by decide))).trans hf182
                      have hf198 := (ho193 (ad 261) (hst.ne (by decide) (by decide) (by decide))).trans hf183
                      have hf199 := (ho193 (ad 269) (hst.ne (by decide) (by decide) (by decide))).trans hf184
                      have hf200 := (ho193 (ad 264) (hst.ne (by decide) (by decide) (by decide))).trans hf185
                      have hf201 := (ho193 (ad 265) (hst.ne (by decide) (by decide) (by decide))).trans hf186
                      have hf202 := (ho193 (ad 263) (hst.ne (by decide) (by decide) (by decide))).trans hf187
                      refine lv_aload_n hx hb dX11_roundNow_257 rfl (lv_at hl 0 rfl) ?_
                      refine pl_get (v := .ref (ad 271)) hx hb hts (fun w h => mT (inX11 w h)) hown hG.1 hP (hst.1 255 (by decide)) hf197 rfl 41 (by decide) (hts _ (mT wg_1377)) (fun _ h => h) rfl dX11_roundNow_258 ?_
                      refine lv_iload hx hb dX11_roundNow_261 (lv_at hl 5 rfl) ?_
                      refine lv_bipush (v := 6) hx hb dX11_roundNow_263 (by decide) ?_
                      refine lv_iadd hx hb dX11_roundNow_265 ?_
                      refine lv_topi (fun x203 ex203 => ?_)
                      have hb204 : In x203 1544 1968 := ex203 ▸ In.add eL101R (⟨by decide, by decide⟩ : In 6 6 6) (by decide) (by decide) (by decide) (by decide)
                      have et205 : x203.toInt = r97.toInt + 6 := In.adde ex203 eL101R (k := 6) (by decide) (by decide) (by decide)
                      refine lv_aload_n hx hb dX11_roundNow_266 rfl (lv_at hl 0 rfl) ?_
                      refine pl_get (v := .int v14_51) hx hb hts (fun w h => mT (inX11 w h)) hown hG.1 hP (hst.1 255 (by decide)) hf197 rfl 14 (by decide) (hts _ (mT wg_1350)) (fun _ h => h) rfl dX11_roundNow_267 ?_
                      have hT := TI.updM hT hst (k := 16) (by decide) hf192 ho193 ⟨r194, rfl, hpi196, hc195⟩
                      have hJ284 : ∀ (y284_s0 : Int32) (H : Heap) (locs : List Loc) (ls : Array Slot), In y284_s0 (-2147483648) 2147483647 → va_P g.1 vwCl (va_pl L f191) H → va_D A (va_pl L f191) → va_S A s.heap H locs → lv_has ls 6 [(0, .ref (ad 255)), (1, .int x31), (2, .int x40), (3, .int v37_22), (4, .int y127_l4), (5, .int r97)] → W p l e rm_X11_roundNow s m [.ref (ad 255)].toArray below meth c H locs 0 0 (MQ below (va_Qv (po_X11_roundNow g ad th L f ) (PstB g A) A) [.ref (ad 255)].toArray s rm_X11_roundNow.cells rm_X11_roundNow.slots A) (F0 m 284 ls [.int y284_s0, .int x203, .ref (ad 271)]) := by
                        intro y284_s0 H locs ls hy284_s0 hP hD hS hl
                        refine pl_iastE hx hb hG.1 hP hD hS (hst.1 271 (by decide)) 0 hf192 rfl (In.inb hb204 (by decide) (by decide)) dX11_roundNow_284 (fun H locs f206 r209 er209 hf207 ho208 hP hD hS => ?_)
                        have hc210 : PRW 2126 (th 22) (th 20) (th 21) r209 := prw_set hc195 er209 (pred_off hb204 (by decide) (by decide) (by decide) (by decide))
                        have hpi211 : ((72 : Int) < (th 22) → (r209 72).toInt = th 19) := fun q => (congrArg Int32.toInt (upd_neI (k := 72) er209 (neN hb204 (by decide)))).trans (hpi196 q)
                        have hf212 := (ho208 (ad 255) (hst.ne (by decide) (by decide) (by decide))).trans hf197
                        have hf213 := (ho208 (ad 261) (hst.ne (by decide) (by decide) (by decide))).trans hf198
                        have hf214 := (ho208 (ad 269) (hst.ne (by decide) (by decide) (by decide))).trans hf199
                        have hf215 := (ho208 (ad 264) (hst.ne (by decide) (by decide) (by decide))).trans hf200
                        have hf216 := (ho208 (ad 265) (hst.ne (by decide) (by decide) (by decide))).trans hf201
                        have hf217 := (ho208 (ad 263) (hst.ne (by decide) (by decide) (by decide))).trans hf202
                        refine lv_aload_n hx hb dX11_roundNow_285 rfl (lv_at hl 0 rfl) ?_
                        refine pl_get (v := .ref (ad 271)) hx hb hts (fun w h => mT (inX11 w h)) hown hG.1 hP (hst.1 255 (by decide)) hf212 rfl 41 (by decide) (hts _ (mT wg_1377)) (fun _ h => h) rfl dX11_roundNow_286 ?_
                        refine lv_iload hx hb dX11_roundNow_289 (lv_at hl 5 rfl) ?_
                        refine lv_bipush (v := 7) hx hb dX11_roundNow_291 (by decide) ?_
                        refine lv_iadd hx hb dX11_roundNow_293 ?_
                        refine lv_topi (fun x218 ex218 => ?_)
                        have hb219 : In x218 1545 1969 := ex218 ▸ In.add eL101R (⟨by decide, by decide⟩ : In 7 7 7) (by decide) (by decide) (by decide) (by decide)
                        have et220 : x218.toInt = r97.toInt + 7 := In.adde ex218 eL101R (k := 7) (by decide) (by decide) (by decide)
                        refine lv_aload_n hx hb dX11_roundNow_294 rfl (lv_at hl 0 rfl) ?_
                        refine pl_get (v := .ref (ad 270)) hx hb hts (fun w h => mT (inX11 w h)) hown hG.1 hP (hst.1 255 (by decide)) hf212 rfl 35 (by decide) (hts _ (mT wg_1371)) (fun _ h => h) rfl dX11_roundNow_295 ?_
                        refine lv_iload hx hb dX11_roundNow_298 (lv_at hl 4 rfl) ?_
                        have hT := TI.updM hT hst (k := 16) (by decide) hf207 ho208 ⟨r209, rfl, hpi211, hc210⟩
                        obtain ⟨rw221, hf222⟩ := hT.2.2 15 (by decide)
                        have hin223 : vp_in y127_l4 9 := In.inb hb96 (by decide) (by decide)
                        refine pl_zald hx hb hG.1 hP (hst.1 270 (by decide)) 3 hf222 rfl hin223 dX11_roundNow_300 ?_
                        refine lv_topi (fun x224 ex224 => ?_)
                        have hJ309 : ∀ (y309_s0 : Int32) (H : Heap) (locs : List Loc) (ls : Array Slot), In y309_s0 0 1 → va_P g.1 vwCl (va_pl L f206) H → va_D A (va_pl L f206) → va_S A s.heap H locs → lv_has ls 6 [(0, .ref (ad 255)), (1, .int x31), (2, .int x40), (3, .int v37_22), (4, .int y127_l4), (5, .int r97)] → W p l e rm_X11_roundNow s m [.ref (ad 255)].toArray below meth c H locs 0 0 (MQ below (va_Qv (po_X11_roundNow g ad th L f ) (PstB g A) A) [.ref (ad 255)].toArray s rm_X11_roundNow.cells rm_X11_roundNow.slots A) (F0 m 309 ls [.int y309_s0, .int x218, .ref (ad 271)]) := by
                          intro y309_s0 H locs ls hy309_s0 hP hD hS hl
                          refine pl_iastE hx hb hG.1 hP hD hS (hst.1 271 (by decide)) 0 hf207 rfl (In.inb hb219 (by decide) (by decide)) dX11_roundNow_309 (fun H locs f225 r228 er228 hf226 ho227 hP hD hS => ?_)
                          have hc229 : PRW 2126 (th 22) (th 20) (th 21) r228 := prw_set hc210 er228 (pred_off hb219 (by decide) (by decide) (by decide) (by decide))
                          have hpi230 : ((72 : Int) < (th 22) → (r228 72).toInt = th 19) := fun q => (congrArg Int32.toInt (upd_neI (k := 72) er228 (neN hb219 (by decide)))).trans (hpi211 q)
                          have hf231 := (ho227 (ad 255) (hst.ne (by decide) (by decide) (by decide))).trans hf212
                          have hf232 := (ho227 (ad 261) (hst.ne (by decide) (by decide) (by decide))).trans hf213
                          have hf233 := (ho227 (ad 269) (hst.ne (by decide) (by decide) (by decide))).trans hf214
                          have hf234 := (ho227 (ad 264) (hst.ne (by decide) (by decide) (by decide))).trans hf215
                          have hf235 := (ho227 (ad 265) (hst.ne (by decide) (by decide) (by decide))).trans hf216
                          have hf236 := (ho227 (ad 263) (hst.ne (by decide) (by decide) (by decide))).trans hf217
                          have hf237 := (ho227 (ad 270) (hst.ne (by decide) (by decide) (by decide))).trans hf222
                          obtain ⟨x238, ex238⟩ : ∃ y : Int32, y = y127_l4 + 1 := ⟨_, rfl⟩
                          have hb239 : In x238 1 9 := ex238 ▸ In.add hb96 (⟨by decide, by decide⟩ : In 1 1 1) (by decide) (by decide) (by decide) (by decide)
                          have et240 : x238.toInt = y127_l4.toInt + 1 := In.adde ex238 hb96 (k := 1) (by decide) (by decide) (by decide)
                          refine lv_iinc (v := x238) (lv' := [(4, .int x238), (0, .ref (ad 255)), (1, .int x31), (2, .int x40), (3, .int v37_22), (5, .int r97)]) hx hb dX11_roundNow_310 hl (k := 4) rfl (by rw [ex238]; rfl) (by decide) rfl (fun ls hl => ?_)
                          have hT := TI.updM hT hst (k := 16) (by decide) hf226 ho227 ⟨r228, rfl, hpi230, hc229⟩
                          refine lv_goto (tgt := 127) hx hb dX11_roundNow_313 (by decide) ?_
                          exact ih127 x238 _ _ _ _ (In.mono hb239 (by decide) (by decide)) hP hD hS hT hf231 (lv_sub hl [1, 2, 3, 4, 0] rfl) (msu et240 (by decide) hmz127)
                        refine lv_if_eq (tgt := 308) hx hb dX11_roundNow_301 (by decide) (fun c241 => ?_) (fun c241 => ?_)
                        ·
                          have oc0 : (0 : Int32).toInt = 0 := by decide
                          have cc242 : x224.toInt = (0 : Int32).toInt := congrArg Int32.toInt c241
                          have hb243 : In x224 0 0 := In.eq1 (In.full x224) (⟨by decide, by decide⟩ : In 0 0 0) cc242 (by decide) (by decide)
                          refine lv_iconst (v := 0) hx hb dX11_roundNow_308 (by decide) ?_
                          exact hJ309 0 _ _ _ (⟨by decide, by decide⟩ : In 0 0 1) hP hD hS (lv_sub hl [0, 1, 2, 3, 4, 5] rfl)
                        ·
                          have oc0 : (0 : Int32).toInt = 0 := by decide
                          have cc244 : x224.toInt ≠ (0 : Int32).toInt := i32_ne c241
                          refine lv_iconst (v := 1) hx hb dX11_roundNow_304 (by decide) ?_
                          refine lv_goto (tgt := 309) hx hb dX11_roundNow_305 (by decide) ?_
                          exact hJ309 1 _ _ _ (⟨by decide, by decide⟩ : In 1 0 1) hP hD hS (lv_sub hl [0, 1, 2, 3, 4, 5] rfl)
                      refine lv_if_ne (tgt := 283) hx hb dX11_roundNow_270 (by decide) (fun c245 => ?_) (fun c245 => ?_)
                      ·
                        have oc0 : (0 : Int32).toInt = 0 := by decide
                        have cc246 : v14_51.toInt ≠ (0 : Int32).toInt := i32_ne c245
                        have hb247 : In v14_51 1 1 := In.ne1 hv14_51 (⟨by decide, by decide⟩ : In 0 0 0) cc246 (by decide) (by decide)
                        refine lv_iconst (v := (-1)) hx hb dX11_roundNow_283 (by decide) ?_
                        exact hJ284 (-1) _ _ _ (⟨by decide, by decide⟩ : In (-1) (-2147483648) 2147483647) hP hD hS (lv_sub hl [0, 1, 2, 3, 4, 5] rfl)
                      ·
                        have oc0 : (0 : Int32).toInt = 0 := by decide
                        have cc248 : v14_51.toInt = (0 : Int32).toInt := congrArg Int32.toInt c245
                        have hb249 : In v14_51 0 0 := In.eq1 hv14_51 (⟨by decide, by decide⟩ : In 0 0 0) cc248 (by decide) (by decide)
                        refine lv_aload_n hx hb dX11_roundNow_273 rfl (lv_at hl 0 rfl) ?_
                        refine pl_get (v := .ref (ad 267)) hx hb hts (fun w h => mT (inX11 w h)) hown hG.1 hP (hst.1 255 (by decide)) hf197 rfl 32 (by decide) (hts _ (mT wg_1368)) (fun _ h => h) rfl dX11_roundNow_274 ?_
                        refine lv_iload hx hb dX11_roundNow_277 (lv_at hl 4 rfl) ?_
                        obtain ⟨rw250, hf251⟩ := hT.2.2 12 (by decide)
                        have hin252 : vp_in y127_l4 9 := In.inb hb96 (by decide) (by decide)
                        refine pl_iald hx hb hG.1 hP (hst.1 267 (by decide)) 0 hf251 rfl hin252 dX11_roundNow_279 ?_
                        refine lv_topi (fun x253 ex253 => ?_)
                        refine lv_goto (tgt := 284) hx hb dX11_roundNow_280 (by decide) ?_
                        exact hJ284 x253 _ _ _ (In.full x253) hP hD hS (lv_sub hl [0, 1, 2, 3, 4, 5] rfl)
                    refine lv_if_ne (tgt := 255) hx hb dX11_roundNow_242 (by decide) (fun c254 => ?_) (fun c254 => ?_)
                    ·
                      have oc0 : (0 : Int32).toInt = 0 := by decide
                      have cc255 : v14_51.toInt ≠ (0 : Int32).toInt := i32_ne c254
                      have hb256 : In v14_51 1 1 := In.ne1 hv14_51 (⟨by decide, by decide⟩ : In 0 0 0) cc255 (by decide) (by decide)
                      refine lv_iconst (v := (-1)) hx hb dX11_roundNow_255 (by decide) ?_
                      exact hJ256 (-1) _ _ _ (⟨by decide, by decide⟩ : In (-1) (-2147483648) 2147483647) hP hD hS (lv_sub hl [0, 1, 2, 3, 4, 5] rfl)
                    ·
                      have oc0 : (0 : Int32).toInt = 0 := by decide
                      have cc257 : v14_51.toInt = (0 : Int32).toInt := congrArg Int32.toInt c254
                      have hb258 : In v14_51 0 0 := In.eq1 hv14_51 (⟨by decide, by decide⟩ : In 0 0 0) cc257 (by decide) (by decide)
                      refine lv_aload_n hx hb dX11_roundNow_245 rfl (lv_at hl 0 rfl) ?_
                      refine pl_get (v := .ref (ad 266)) hx hb hts (fun w h => mT (inX11 w h)) hown hG.1 hP (hst.1 255 (by decide)) hf182 rfl 31 (by decide) (hts _ (mT wg_1367)) (fun _ h => h) rfl dX11_roundNow_246 ?_
                      refine lv_iload hx hb dX11_roundNow_249 (lv_at hl 4 rfl) ?_
                      obtain ⟨rw259, hf260⟩ := hT.2.2 11 (by decide)
                      have hin261 : vp_in y127_l4 9 := In.inb hb96 (by decide) (by decide)
                      refine pl_iald hx hb hG.1 hP (hst.1 266 (by decide)) 0 hf260 rfl hin261 dX11_roundNow_251 ?_
                      refine lv_topi (fun x262 ex262 => ?_)
                      refine lv_goto (tgt := 256) hx hb dX11_roundNow_252 (by decide) ?_
                      exact hJ256 x262 _ _ _ (In.full x262) hP hD hS (lv_sub hl [0, 1, 2, 3, 4, 5] rfl)
                  refine lv_if_eq (tgt := 180) hx hb dX11_roundNow_173 (by decide) (fun c263 => ?_) (fun c263 => ?_)
                  ·
                    have oc0 : (0 : Int32).toInt = 0 := by decide
                    have cc264 : x124.toInt = (0 : Int32).toInt := congrArg Int32.toInt c263
                    have hb265 : In x124 0 0 := In.eq1 (In.full x124) (⟨by decide, by decide⟩ : In 0 0 0) cc264 (by decide) (by decide)
                    refine lv_iconst (v := 0) hx hb dX11_roundNow_180 (by decide) ?_
                    exact hJ181 0 _ _ _ (⟨by decide, by decide⟩ : In 0 0 1) hP hD hS (lv_sub hl [1, 2, 3, 4, 5, 0] rfl)
                  ·
                    have oc0 : (0 : Int32).toInt = 0 := by decide
                    have cc266 : x124.toInt ≠ (0 : Int32).toInt := i32_ne c263
                    refine lv_iconst (v := 1) hx hb dX11_roundNow_176 (by decide) ?_
                    refine lv_goto (tgt := 181) hx hb dX11_roundNow_177 (by decide) ?_
                    exact hJ181 1 _ _ _ (⟨by decide, by decide⟩ : In 1 0 1) hP hD hS (lv_sub hl [1, 2, 3, 4, 5, 0] rfl)
            exact hJ127 ((2147483647 - (0 : Int32).toInt).toNat + 1) 0 _ _ _ _ (⟨by decide, by decide⟩ : In 0 0 2147483647) hP hD hS hT hf69 (lv_sub hl [1, 2, 3, 4, 0] rfl) (msI _)
        refine lv_if_ne (tgt := 96) hx hb dX11_roundNow_89 (by decide) (fun c267 => ?_) (fun c267 => ?_)
        ·
          have oc0 : (0 : Int32).toInt = 0 := by decide
          have cc268 : x40.toInt ≠ (0 : Int32).toInt := i32_ne c267
          have hb269 : In x40 1 2 := In.ne1 hb41 (⟨by decide, by decide⟩ : In 0 0 0) cc268 (by decide) (by decide)
          refine lv_aload_n hx hb dX11_roundNow_96 rfl (lv_at hl 0 rfl) ?_
          refine pl_get (v := .ref (ad 271)) hx hb hts (fun w h => mT (inX11 w h)) hown hG.1 hP (hst.1 255 (by decide)) hf52 rfl 41 (by decide) (hts _ (mT wg_1377)) (fun _ h => h) rfl dX11_roundNow_97 ?_
          refine lv_sipush (v := 1970) hx hb dX11_roundNow_100 (by decide) ?_
          refine lv_iload_n hx hb dX11_roundNow_103 rfl (lv_at hl 1 rfl) ?_
          refine lv_iadd hx hb dX11_roundNow_104 ?_
          refine lv_topi (fun x270 ex270 => ?_)
          obtain rfl : x54 = x270 := ex54.trans ex270.symm
          obtain ⟨rw271, hf272, hpi274, hc273⟩ := hT.2.2 16 (by decide)
          have hc273 : PRW 2126 (th 22) (th 20) (th 21) rw271 := hc273
          have hpi274 : ((72 : Int) < (th 22) → (rw271 72).toInt = th 19) := hpi274
          have hin275 : vp_in x54 2126 := In.inb hb55 (by decide) (by decide)
          refine pl_iald hx hb hG.1 hP (hst.1 271 (by decide)) 0 hf272 rfl hin275 dX11_roundNow_105 ?_
          refine lv_topi (fun x276 ex276 => ?_)
          exact hJ106 x276 _ _ _ (In.full x276) hP hD hS (lv_sub hl [0, 1, 2, 3, 4] rfl)
        ·
          have oc0 : (0 : Int32).toInt = 0 := by decide
          have cc277 : x40.toInt = (0 : Int32).toInt := congrArg Int32.toInt c267
          have hb278 : In x40 0 0 := In.eq1 hb41 (⟨by decide, by decide⟩ : In 0 0 0) cc277 (by decide) (by decide)
          refine lv_iconst (v := 0) hx hb dX11_roundNow_92 (by decide) ?_
          refine lv_goto (tgt := 106) hx hb dX11_roundNow_93 (by decide) ?_
          exact hJ106 0 _ _ _ (⟨by decide, by decide⟩ : In 0 (-2147483648) 2147483647) hP hD hS (lv_sub hl [0, 1, 2, 3, 4] rfl)
      ·
        have oc81 : (81 : Int32).toInt = 81 := by decide
        have cc279 : y40_l4.toInt < (81 : Int32).toInt := i32_nle c48
        have hb280 : In y40_l4 0 80 := In.lt1 hy40_l4 (⟨by decide, by decide⟩ : In 81 81 81) cc279 (by decide) (by decide)
        refine lv_aload_n hx hb dX11_roundNow_47 rfl (lv_at hl 0 rfl) ?_
        refine M0e hT (fun v0_281 v2_281 v3_281 v4_281 v5_281 v6_281 v8_281 v9_281 v12_281 v13_281 v14_281 v15_281 v16_281 v17_281 v18_281 v19_281 v20_281 v21_281 v22_281 v23_281 v25_281 v36_281 v37_281 v38_281 v39_281 v40_281 v45_281 v46_281 v47_281 v48_281 v50_281 v51_281 v53_281 v55_281 hf282 hv0_281 hv2_281 hg2_281 hv3_281 hg3_281 hv4_281 hg4_281 hv5_281 hg5_281 hv6_281 hg6_281 hv8_281 hg8_281 hv9_281 hg9_281 hv12_281 hv13_281 hg13_281 hv14_281 hg14_281 hv15_281 hg15_281 hv17_281 hg17_281 hv20_281 hg20_281 hv23_281 hg23_281 hv25_281 hg25_281 hv36_281 hg36_281 hv47_281 hg47_281 hv48_281 hg48_281 hv53_281 hg53_281 hv55_281 hg55_281 hrel0_281 => ?_)
        have hg15_281 : v15_281.toInt = th 11 := hg15_281
        have hg17_281 : v17_281.toInt = th 12 := hg17_281
        have hg20_281 : v20_281.toInt = zz20 := hg20_281
        have hb283 : In v15_281 3 9 := ⟨by rw [hg15_281]; exact hn3, hv15_281.2⟩
        refine pl_get (v := .ref (ad 271)) hx hb hts (fun w h => mT (inX11 w h)) hown hG.1 hP (hst.1 255 (by decide)) hf282 rfl 41 (by decide) (hts _ (mT wg_1377)) (fun _ h => h) rfl dX11_roundNow_48 ?_
        refine lv_bipush (v := 80) hx hb dX11_roundNow_51 (by decide) ?_
        refine lv_bipush (v := 81) hx hb dX11_roundNow_53 (by decide) ?_
        refine lv_iconst (v := 3) hx hb dX11_roundNow_55 (by decide) ?_
        refine lv_iload_n hx hb dX11_roundNow_56 rfl (lv_at hl 1 rfl) ?_
        refine lv_imul hx hb dX11_roundNow_57 ?_
        refine lv_topi (fun x284 ex284 => ?_)
        have hb285 : In x284 0 15 := ex284 ▸ In.mul (⟨by decide, by decide⟩ : In 3 3 3) hb33 (by decide) (by decide) (by decide) (by decide) (by decide)
        have et286 : x284.toInt = 3 * x31.toInt := In.mule ex284 (⟨by decide, by decide⟩ : In 3 3 3) hb33 (by decide) (by decide) (by decide) (by decide) rfl
        refine lv_iload_n hx hb dX11_roundNow_58 rfl (lv_at hl 2 rfl) ?_
        refine lv_iadd hx hb dX11_roundNow_59 ?_
        refine lv_topi (fun x287 ex287 => ?_)
        have hb288 : In x287 0 17 := ex287 ▸ In.add hb285 hb41 (by decide) (by decide) (by decide) (by decide)
        have et289 : x287.toInt = x284.toInt + x40.toInt := In.add2e ex287 hb285 hb41 (by decide) (by decide)
        refine lv_imul hx hb dX11_roundNow_60 ?_
        refine lv_topi (fun x290 ex290 => ?_)
        have hb291 : In x290 0 1377 := ex290 ▸ In.mul (⟨by decide, by decide⟩ : In 81 81 81) hb288 (by decide) (by decide) (by decide) (by decide) (by decide)
        have et292 : x290.toInt = 81 * x287.toInt := In.mule ex290 (⟨by decide, by decide⟩ : In 81 81 81) hb288 (by decide) (by decide) (by decide) (by decide) rfl
        refine lv_iadd hx hb dX11_roundNow_61 ?_
        refine lv_topi (fun x293 ex293 => ?_)
        have hb294 : In x293 80 1457 := ex293 ▸ In.add (⟨by decide, by decide⟩ : In 80 80 80) hb291 (by decide) (by decide) (by decide) (by decide)
        have et295 : x293.toInt = (80 : Int32).toInt + x290.toInt := In.add2e ex293 (⟨by decide, by decide⟩ : In 80 80 80) hb291 (by decide) (by decide)
        refine lv_iload hx hb dX11_roundNow_62 (lv_at hl 4 rfl) ?_
        refine lv_iadd hx hb dX11_roundNow_64 ?_
        refine lv_topi (fun x296 ex296 => ?_)
        have hb297 : In x296 80 1537 := ex296 ▸ In.add hb294 hb280 (by decide) (by decide) (by decide) (by decide)
        have et298 : x296.toInt = x293.toInt + y40_l4.toInt := In.add2e ex296 hb294 hb280 (by decide) (by decide)
        refine lv_aload_n hx hb dX11_roundNow_65 rfl (lv_at hl 0 rfl) ?_
        refine pl_get (v := .ref (ad 268)) hx hb hts (fun w h => mT (inX11 w h)) hown hG.1 hP (hst.1 255 (by decide)) hf282 rfl 33 (by decide) (hts _ (mT wg_1369)) (fun _ h => h) rfl dX11_roundNow_66 ?_
        refine lv_iload hx hb dX11_roundNow_69 (lv_at hl 4 rfl) ?_
        obtain ⟨rw299, hf300⟩ := hT.2.2 13 (by decide)
        have hin301 : vp_in y40_l4 81 := In.inb hb280 (by decide) (by decide)
        refine pl_iald hx hb hG.1 hP (hst.1 268 (by decide)) 0 hf300 rfl hin301 dX11_roundNow_71 ?_
        refine lv_topi (fun x302 ex302 => ?_)
        obtain ⟨rw303, hf304, hpi306, hc305⟩ := hT.2.2 16 (by decide)
        have hc305 : PRW 2126 (th 22) (th 20) (th 21) rw303 := hc305
        have hpi306 : ((72 : Int) < (th 22) → (rw303 72).toInt = th 19) := hpi306
        refine pl_iastE hx hb hG.1 hP hD hS (hst.1 271 (by decide)) 0 hf304 rfl (In.inb hb297 (by decide) (by decide)) dX11_roundNow_72 (fun H locs f307 r310 er310 hf308 ho309 hP hD hS => ?_)
        have hc311 : PRW 2126 (th 22) (th 20) (th 21) r310 := prw_set hc305 er310 (pred_off hb297 (by decide) (by decide) (by decide) (by decide))
        have hpi312 : ((72 : Int) < (th 22) → (r310 72).toInt = th 19) := fun q => (congrArg Int32.toInt (upd_neI (k := 72) er310 (neN hb297 (by decide)))).trans (hpi306 q)
        have hf313 := (ho309 (ad 255) (hst.ne (by decide) (by decide) (by decide))).trans hf282
        have hf314 := (ho309 (ad 268) (hst.ne (by decide) (by decide) (by decide))).trans hf300
        obtain ⟨x315, ex315⟩ : ∃ y : Int32, y = y40_l4 + 1 := ⟨_, rfl⟩
        have hb316 : In x315 1 81 := ex315 ▸ In.add hb280 (⟨by decide, by decide⟩ : In 1 1 1) (by decide) (by decide) (by decide) (by decide)
        have et317 : x315.toInt = y40_l4.toInt + 1 := In.adde ex315 hb280 (k := 1) (by decide) (by decide) (by decide)
        refine lv_iinc (v := x315) (lv' := [(4, .int x315), (0, .ref (ad 255)), (1, .int x31), (2, .int x40), (3, .int v37_22)]) hx hb dX11_roundNow_73 hl (k := 4) rfl (by rw [ex315]; rfl) (by decide) rfl (fun ls hl => ?_)
        have hT := TI.updM hT hst (k := 16) (by decide) hf308 ho309 ⟨r310, rfl, hpi312, hc311⟩
        refine lv_goto (tgt := 40) hx hb dX11_roundNow_76 (by decide) ?_
        exact ih40 x315 _ _ _ _ (In.mono hb316 (by decide) (by decide)) hP hD hS hT (lv_sub hl [1, 2, 3, 4, 0] rfl) (msu et317 (by decide) hmz40)
  exact hJ40 ((81 - (0 : Int32).toInt).toNat + 1) 0 _ _ _ _ (⟨by decide, by decide⟩ : In 0 0 81) hP hD hS hT (lv_sub hl [4, 3, 2, 1, 0] rfl) (msI _)

abbrev rm_X11_inAll : Room := { frames := 1, cells := 0, slots := 0, locals := 20 }
abbrev po_X11_inAll (g : GG) (ad : Nat → Nat) (th : Nat → Int) (L : List Nat) (f : HP)  : Int32 → (List Nat × HP) → Prop := fun r u => u.1 = L ∧ u.2 = f ∧ In r 0 18 ∧ r.toInt = th 12 * rnd (th 10)
set_option maxHeartbeats 4000000 in
set_option maxRecDepth 100000 in
theorem s_X11_inAll (l : Launch) (g : GG) (ad : Nat → Nat) (th : Nat → Int) (L : List Nat) (f : HP) (sz : Nat)  (hst : ST ad L) (hT : TI g ad th f)  : MtI l g yX11_inAll cX11_inAll 1 (some .int) rm_X11_inAll [.ref (ad 255)] L f sz (po_X11_inAll g ad th L f ) := by
  refine MtI.of (by decide +kernel) (Nat.le_of_ble_eq_true rfl) ?_
  intro p e s m below meth c A hEn hP hD hS ls hl
  obtain ⟨hx, hb, hr, hml, hown, hlocks, hts, hG, hA, hE, hnm⟩ := hEn
  have hown : s.vm.findClass "RulerWordModel" = some m.cls := hown
  have hl : lv_has ls 1 [(0, .ref (ad 255))] := hl
  refine lv_aload_n hx hb dX11_inAll_0 rfl (lv_at hl 0 rfl) ?_
  refine M0e hT (fun v0_1 v2_1 v3_1 v4_1 v5_1 v6_1 v8_1 v9_1 v12_1 v13_1 v14_1 v15_1 v16_1 v17_1 v18_1 v19_1 v20_1 v21_1 v22_1 v23_1 v25_1 v36_1 v37_1 v38_1 v39_1 v40_1 v45_1 v46_1 v47_1 v48_1 v50_1 v51_1 v53_1 v55_1 hf2 hv0_1 hv2_1 hg2_1 hv3_1 hg3_1 hv4_1 hg4_1 hv5_1 hg5_1 hv6_1 hg6_1 hv8_1 hg8_1 hv9_1 hg9_1 hv12_1 hv13_1 hg13_1 hv14_1 hg14_1 hv15_1 hg15_1 hv17_1 hg17_1 hv20_1 hg20_1 hv23_1 hg23_1 hv25_1 hg25_1 hv36_1 hg36_1 hv47_1 hg47_1 hv48_1 hg48_1 hv53_1 hg53_1 hv55_1 hg55_1 hrel0_1 => ?_)
  have hg15_1 : v15_1.toInt = th 11 := hg15_1
  have hg17_1 : v17_1.toInt = th 12 := hg17_1
  have hg20_1 : v20_1.toInt = th 14 := hg20_1
  refine pl_get (v := .int v17_1) hx hb hts (fun w h => mT (inX11 w h)) hown hG.1 hP (hst.1 255 (by decide)) hf2 rfl 17 (by decide) (hts _ (mT wg_1353)) (fun _ h => h) rfl dX11_inAll_1 ?_
  refine lv_aload_n hx hb dX11_inAll_4 rfl (lv_at hl 0 rfl) ?_
  refine call_i (run_V (rm := rm_X11_each) hx hb hml hown hts (s_X11_each l g ad th _ _ _  hst hT ) cV_X11_each wg_1636 ⟨Nat.le_of_ble_eq_true rfl, Nat.le_of_ble_eq_true rfl⟩ hG hE hA hP hD hS (hst.1 255 (by decide)) hf2 rfl rfl hl.1 (As := []) (rest := [.int v17_1]) rfl (Nat.le_of_ble_eq_true rfl) dX11_inAll_5 ⟨Nat.le_of_ble_eq_true rfl, Nat.le_of_ble_eq_true rfl⟩) hA hD hS (fun r3 L4 f5 H locs hp6 hP hD hS => ?_)
  obtain ⟨eL7L, eL7T, eL7R, eL7X0⟩ := hp6
  have eL7L : L4 = L := eL7L
  have eL7T : f5 = f := eL7T
  rw [eL7L, eL7T] at hP hD
  have eL7R : In r3 2 3 := eL7R
  have hrn8 : r3.toInt = rnd (th 10) := eL7X0
  refine lv_imul hx hb dX11_inAll_8 ?_
  refine lv_topi (fun x9 ex9 => ?_)
  have hb10 : In x9 0 18 := ex9 ▸ In.mul hv17_1 eL7R (by decide) (by decide) (by decide) (by decide) (by decide)
  exact ret_i (ty := .int) hx hb hr hlocks (rfl) hP hD hS (Nat.le_of_ble_eq_true rfl) (Nat.le_of_ble_eq_true rfl) (⟨rfl, rfl, hb10, (by rw [ex9, mulr hv17_1 eL7R, hg17_1, hrn8])⟩) dX11_inAll_9

abbrev rm_X11_round : Room := { frames := 6, cells := 0, slots := 0, locals := 150 }
abbrev po_X11_round (g : GG) (ad : Nat → Nat) (th : Nat → Int) (L : List Nat) (f : HP)  : Int32 → (List Nat × HP) → Prop := fun r u => u.1 = L ∧ (∃ th' : Nat → Int, (MI th' ∧ SBM th th') ∧ TI g ad th' u.2)
set_option maxHeartbeats 4000000 in
set_option maxRecDepth 100000 in
theorem s_X11_round (l : Launch) (g : GG) (ad : Nat → Nat) (th : Nat → Int) (L : List Nat) (f : HP) (sz : Nat)  (hst : ST ad L) (hT : TI g ad th f) (hM : MI th) : MtI l g yX11_round cX11_round 1 (some .int) rm_X11_round [.ref (ad 255)] L f sz (po_X11_round g ad th L f ) := by
  refine MtI.of (by decide +kernel) (Nat.le_of_ble_eq_true rfl) ?_
  intro p e s m below meth c A hEn hP hD hS ls hl
  obtain ⟨hx, hb, hr, hml, hown, hlocks, hts, hG, hA, hE, hnm⟩ := hEn
  have hown : s.vm.findClass "RulerWordModel" = some m.cls := hown
  have hl : lv_has ls 1 [(0, .ref (ad 255))] := hl
  have hM0 := hM
  obtain ⟨m1, m2, m3, m4, m5, m6, m7, m8, m9, m10⟩ := hM0
  have m20 := mi20 m2 m3
  refine lv_aload_n hx hb dX11_round_0 rfl (lv_at hl 0 rfl) ?_
  refine lv_iconst (v := 0) hx hb dX11_round_1 (by decide) ?_
  refine M0e hT (fun v0_1 v2_1 v3_1 v4_1 v5_1 v6_1 v8_1 v9_1 v12_1 v13_1 v14_1 v15_1 v16_1 v17_1 v18_1 v19_1 v20_1 v21_1 v22_1 v23_1 v25_1 v36_1 v37_1 v38_1 v39_1 v40_1 v45_1 v46_1 v47_1 v48_1 v50_1 v51_1 v53_1 v55_1 hf2 hv0_1 hv2_1 hg2_1 hv3_1 hg3_1 hv4_1 hg4_1 hv5_1 hg5_1 hv6_1 hg6_1 hv8_1 hg8_1 hv9_1 hg9_1 hv12_1 hv13_1 hg13_1 hv14_1 hg14_1 hv15_1 hg15_1 hv17_1 hg17_1 hv20_1 hg20_1 hv23_1 hg23_1 hv25_1 hg25_1 hv36_1 hg36_1 hv47_1 hg47_1 hv48_1 hg48_1 hv53_1 hg53_1 hv55_1 hg55_1 hrel0_1 => ?_)
  have hg15_1 : v15_1.toInt = th 11 := hg15_1
  have hg17_1 : v17_1.toInt = th 12 := hg17_1
  have hg20_1 : v20_1.toInt = th 14 := hg20_1
  refine pl_put (ty := .int) (v := .int 0) (fs' := [.int 0, .ref (ad 256), .int v2_1, .int v3_1, .int v4_1, .int v5_1, .int v6_1, .ref (ad 257), .int v8_1, .int v9_1, .ref (ad 258), .ref (ad 259), .int v12_1, .int v13_1, .int v14_1, .int v15_1, .int v16_1, .int v17_1, .int v18_1, .int v19_1, .int v20_1, .long v21_1, .long v22_1, .int v23_1, .ref (ad 260), .int v25_1, .ref (ad 261), .ref (ad 262), .ref (ad 263), .ref (ad 264), .ref (ad 265), .ref (ad 266), .ref (ad 267), .ref (ad 268), .ref (ad 269), .ref (ad 270), .int v36_1, .int v37_1, .int v38_1, .int v39_1, .int v40_1, .ref (ad 271), .ref (ad 272), .ref (ad 273), .ref (ad 274), .long v45_1, .long v46_1, .int v47_1, .int v48_1, .ref (ad 275), .int v50_1, .int v51_1, .ref (ad 276), .int v53_1, .ref (ad 277), .int v55_1]) hx hb hts (fun w h => mT (inX11 w h)) tyX11 tyX11_ok nmX11 hown hG.1 hP hD hS (hst.1 255 (by decide)) hf2 rfl 0 (by decide) (hts _ (mT wg_1336)) (fun _ h => h) rfl (by decide +kernel) (rfl) (rfl) (Nat.le_of_ble_eq_true rfl) rfl dX11_round_2 (fun H locs f3 hf4 ho5 hP hD hS => ?_)
  refine lv_aload_n hx hb dX11_round_5 rfl (lv_at hl 0 rfl) ?_
  refine pl_get (v := .int v23_1) hx hb hts (fun w h => mT (inX11 w h)) hown hG.1 hP (hst.1 255 (by decide)) hf4 rfl 23 (by decide) (hts _ (mT wg_1359)) (fun _ h => h) rfl dX11_round_6 ?_
  have hg23_1 : v23_1.toInt = th 15 := hg23_1
  have hT := TI.updM hT hst (k := 0) (by decide) hf4 ho5 ⟨0, v2_1, v3_1, v4_1, v5_1, v6_1, v8_1, v9_1, v12_1, v13_1, v14_1, v15_1, v16_1, v17_1, v18_1, v19_1, v20_1, v21_1, v22_1, v23_1, v25_1, v36_1, v37_1, v38_1, v39_1, v40_1, v45_1, v46_1, v47_1, v48_1, v50_1, v51_1, v53_1, v55_1, rfl, (⟨by decide, by decide⟩ : In 0 0 1), hv2_1, hg2_1, hv3_1, hg3_1, hv4_1, hg4_1, hv5_1, hg5_1, hv6_1, hg6_1, hv8_1, hg8_1, hv9_1, hg9_1, hv12_1, hv13_1, hg13_1, hv14_1, hg14_1, hv15_1, hg15_1, hv17_1, hg17_1, hv20_1, hg20_1, hv23_1, hg23_1, hv25_1, hg25_1, hv36_1, hg36_1, hv47_1, hg47_1, hv48_1, hg48_1, hv53_1, hg53_1, hv55_1, hg55_1, hrel0_1⟩
  refine lv_if_eq (tgt := 26) hx hb dX11_round_9 (by decide) (fun c6 => ?_) (fun c6 => ?_)
  ·
    have oc0 : (0 : Int32).toInt = 0 := by decide
    have cc7 : v23_1.toInt = (0 : Int32).toInt := congrArg Int32.toInt c6
    have hb8 : In v23_1 0 0 := In.eq1 hv23_1 (⟨by decide, by decide⟩ : In 0 0 0) cc7 (by decide) (by decide)
    refine lv_iconst (v := (-1)) hx hb dX11_round_26 (by decide) ?_
    exact ret_i (ty := .int) hx hb hr hlocks (rfl) hP hD hS (Nat.le_of_ble_eq_true rfl) (Nat.le_of_ble_eq_true rfl) (⟨rfl, ⟨th, ⟨(show MI th from hM), (SBM.rf th)⟩, hT⟩⟩) dX11_round_27
  ·
    have oc0 : (0 : Int32).toInt = 0 := by decide
    have cc9 : v23_1.toInt ≠ (0 : Int32).toInt := i32_ne c6
    have hb10 : In v23_1 1 1 := In.ne1 hv23_1 (⟨by decide, by decide⟩ : In 0 0 0) cc9 (by decide) (by decide)
    refine lv_aload_n hx hb dX11_round_12 rfl (lv_at hl 0 rfl) ?_
    refine pl_get (v := .ref (ad 271)) hx hb hts (fun w h => mT (inX11 w h)) hown hG.1 hP (hst.1 255 (by decide)) hf4 rfl 41 (by decide) (hts _ (mT wg_1377)) (fun _ h => h) rfl dX11_round_13 ?_
    refine lv_bipush (v := 72) hx hb dX11_round_16 (by decide) ?_
    obtain ⟨rw11, hf12, hpi14, hc13⟩ := hT.2.2 16 (by decide)
    have hc13 : PRW 2126 (th 22) (th 20) (th 21) rw11 := hc13
    have hpi14 : ((72 : Int) < (th 22) → (rw11 72).toInt = th 19) := hpi14
    have hin15 : vp_in 72 2126 := In.inb (⟨by decide, by decide⟩ : In 72 72 72) (by decide) (by decide)
    refine pl_iald hx hb hG.1 hP (hst.1 271 (by decide)) 0 hf12 rfl hin15 dX11_round_18 ?_
    refine lv_topi (fun x16 ex16 => ?_)
    have hpd17 : PRED (th 20) (th 21) 72 x16 := by rw [ex16]; exact prw_at (k := 72) hc13 (by decide) (by decide) (by omega) (by decide)
    have hb18 : In x16 0 18 := ⟨(hpd17.1 rfl).1, Int.le_trans (hpd17.1 rfl).2 (by omega)⟩
    have hgl19 : x16.toInt = th 19 := by rw [ex16]; exact pinE (k := 72) (by decide) (hpi14 (by omega))
    have hpd17b := (hpd17.1 rfl).2
    refine lv_aload_n hx hb dX11_round_19 rfl (lv_at hl 0 rfl) ?_
    refine call_i (run_V (rm := rm_X11_inAll) hx hb hml hown hts (s_X11_inAll l g ad th _ _ _  hst hT ) cV_X11_inAll wg_1632 ⟨Nat.le_of_ble_eq_true rfl, Nat.le_of_ble_eq_true rfl⟩ hG hE hA hP hD hS (hst.1 255 (by decide)) hf4 rfl rfl hl.1 (As := []) (rest := [.int x16]) rfl (Nat.le_of_ble_eq_true rfl) dX11_round_20 ⟨Nat.le_of_ble_eq_true rfl, Nat.le_of_ble_eq_true rfl⟩) hA hD hS (fun r20 L21 f22 H locs hp23 hP hD hS => ?_)
    obtain ⟨eL24L, eL24T, eL24R, eL24X0⟩ := hp23
    have eL24L : L21 = L := eL24L
    have eL24T : f22 = f3 := eL24T
    rw [eL24L, eL24T] at hP hD
    have eL24R : In r20 0 18 := eL24R
    have hia25 : r20.toInt = (th 12) * rnd (th 10) := eL24X0
    have hia25b : r20.toInt = th 20 := hia25.trans m3.symm
    refine lv_icmp_ne (tgt := 28) hx hb dX11_round_23 (by decide) (fun c26 => ?_) (fun c26 => ?_)
    ·
      have cc27 : x16.toInt ≠ r20.toInt := i32_ne c26
      refine lv_aload_n hx hb dX11_round_28 rfl (lv_at hl 0 rfl) ?_
      refine call_v (run_V (rm := rm_X11_roundNow) hx hb hml hown hts (s_X11_roundNow l g ad th _ _ _  hst hT (show MI th from hM) (show 3 ≤ th 11 by omega) (show (th 19) < (th 20) from (by have ob10 : (0 : Int) ≤ (th 10) ∧ (th 10) ≤ 1 := (b0_10 hT :); have ob11 : (0 : Int) ≤ (th 11) ∧ (th 11) ≤ 9 := (b0_11 hT :); have ob12 : (0 : Int) ≤ (th 12) ∧ (th 12) ≤ 6 := (b0_12 hT :); have ob14 : (0 : Int) ≤ (th 14) ∧ (th 14) ≤ 511 := (b0_14 hT :); have ob15 : (0 : Int) ≤ (th 15) ∧ (th 15) ≤ 1 := (b0_15 hT :); have ob16 : (0 : Int) ≤ (th 16) ∧ (th 16) ≤ 20 := (b0_16 hT :); have ob17 : (0 : Int) ≤ (th 17) ∧ (th 17) ≤ 1 := (b0_17 hT :); have ob18 : (0 : Int) ≤ (th 18) ∧ (th 18) ≤ 18 := (b0_18 hT :); have ob38 : (0 : Int) ≤ (th 38) ∧ (th 38) ≤ 400 := (b0_38 hT :); have ob39 : (0 : Int) ≤ (th 39) ∧ (th 39) ≤ 200 := (b0_39 hT :); have ob44 : (0 : Int) ≤ (th 44) ∧ (th 44) ≤ 30 := (b0_44 hT :); have orn := rnd_b (th 10); obtain ⟨o0a, o0b⟩ := (hv14_1 : In _ _ _); obtain ⟨o1a, o1b⟩ := (hv15_1 : In _ _ _); obtain ⟨o2a, o2b⟩ := (hv17_1 : In _ _ _); obtain ⟨o3a, o3b⟩ := (hv20_1 : In _ _ _); obtain ⟨o4a, o4b⟩ := (hb10 : In _ _ _); obtain ⟨o5a, o5b⟩ := (hv25_1 : In _ _ _); obtain ⟨o6a, o6b⟩ := (hv36_1 : In _ _ _); obtain ⟨o7a, o7b⟩ := (hv47_1 : In _ _ _); obtain ⟨o8a, o8b⟩ := (hv48_1 : In _ _ _); obtain ⟨o9a, o9b⟩ := (hv53_1 : In _ _ _); obtain ⟨o10a, o10b⟩ := (hv55_1 : In _ _ _); omega))) cV_X11_roundNow wg_1640 ⟨Nat.le_of_ble_eq_true rfl, Nat.le_of_ble_eq_true rfl⟩ hG hE hA hP hD hS (hst.1 255 (by decide)) hf4 rfl rfl hl.1 (As := []) (rest := []) rfl (Nat.le_of_ble_eq_true rfl) dX11_round_29 ⟨Nat.le_of_ble_eq_true rfl, Nat.le_of_ble_eq_true rfl⟩) hA hD hS (fun L29 f30 H locs hp31 hP hD hS => ?_)
      obtain ⟨eL32L, eL32T⟩ := hp31
      have eL32L : L29 = L := eL32L
      rw [eL32L] at hP hD
      obtain ⟨zz33, zz34, zz35, zz36, zz37, zz38, zz39, hzz33, eL32T⟩ := eL32T
      have hzz33 : zz36 = (th 19) + 1 ∧ zz37 = 2126 ∧ (1 ≤ zz34 ∧ zz34 ≤ 20) ∧ zz38 = 2126 * zz34 := hzz33
      have hT : TI g ad (gset (gset (gset (gset (gset (gset (gset th 14 zz33) 16 zz34) 18 zz35) 19 zz36) 22 zz37) 24 zz38) 44 zz39) f30 := eL32T
      refine lv_aload_n hx hb dX11_round_32 rfl (lv_at hl 0 rfl) ?_
      refine M0e hT (fun v0_40 v2_40 v3_40 v4_40 v5_40 v6_40 v8_40 v9_40 v12_40 v13_40 v14_40 v15_40 v16_40 v17_40 v18_40 v19_40 v20_40 v21_40 v22_40 v23_40 v25_40 v36_40 v37_40 v38_40 v39_40 v40_40 v45_40 v46_40 v47_40 v48_40 v50_40 v51_40 v53_40 v55_40 hf41 hv0_40 hv2_40 hg2_40 hv3_40 hg3_40 hv4_40 hg4_40 hv5_40 hg5_40 hv6_40 hg6_40 hv8_40 hg8_40 hv9_40 hg9_40 hv12_40 hv13_40 hg13_40 hv14_40 hg14_40 hv15_40 hg15_40 hv17_40 hg17_40 hv20_40 hg20_40 hv23_40 hg23_40 hv25_40 hg25_40 hv36_40 hg36_40 hv47_40 hg47_40 hv48_40 hg48_40 hv53_40 hg53_40 hv55_40 hg55_40 hrel0_40 => ?_)
      have hg15_40 : v15_40.toInt = th 11 := hg15_40
      have hg17_40 : v17_40.toInt = th 12 := hg17_40
      have hg20_40 : v20_40.toInt = zz33 := hg20_40
      refine pl_get (v := .ref (ad 271)) hx hb hts (fun w h => mT (inX11 w h)) hown hG.1 hP (hst.1 255 (by decide)) hf41 rfl 41 (by decide) (hts _ (mT wg_1377)) (fun _ h => h) rfl dX11_round_33 ?_
      refine lv_bipush (v := 72) hx hb dX11_round_36 (by decide) ?_
      obtain ⟨rw42, hf43, hpi45, hc44⟩ := hT.2.2 16 (by decide)
      have hc44 : PRW 2126 (zz37) (th 20) (th 21) rw42 := hc44
      have hpi45 : ((72 : Int) < zz37 → (rw42 72).toInt = zz36) := hpi45
      have hin46 : vp_in 72 2126 := In.inb (⟨by decide, by decide⟩ : In 72 72 72) (by decide) (by decide)
      refine pl_iald hx hb hG.1 hP (hst.1 271 (by decide)) 0 hf43 rfl hin46 dX11_round_38 ?_
      refine lv_topi (fun x47 ex47 => ?_)
      have hpd48 : PRED (th 20) (th 21) 72 x47 := by rw [ex47]; exact prw_at (k := 72) hc44 (by decide) (by decide) (by omega) (by decide)
      have hb49 : In x47 0 18 := ⟨(hpd48.1 rfl).1, Int.le_trans (hpd48.1 rfl).2 (by omega)⟩
      have hgl50 : x47.toInt = zz36 := by rw [ex47]; exact pinE (k := 72) (by decide) (hpi45 (by omega))
      have hpd48b := (hpd48.1 rfl).2
      exact ret_i (ty := .int) hx hb hr hlocks (rfl) hP hD hS (Nat.le_of_ble_eq_true rfl) (Nat.le_of_ble_eq_true rfl) (⟨rfl, ⟨(gset (gset (gset (gset (gset (gset (gset th 14 zz33) 16 zz34) 18 zz35) 19 zz36) 22 zz37) 24 zz38) 44 zz39), ⟨(show MI (gset (gset (gset (gset (gset (gset (gset th 14 zz33) 16 zz34) 18 zz35) 19 zz36) 22 zz37) 24 zz38) 44 zz39) from ⟨m1, m2, (show th 20 = (th 12) * rnd (th 10) from m3), m4, (show zz37 = 2126 from (by have ob10 : (0 : Int) ≤ (th 10) ∧ (th 10) ≤ 1 := (b0_10 hT :); have ob11 : (0 : Int) ≤ (th 11) ∧ (th 11) ≤ 9 := (b0_11 hT :); have ob12 : (0 : Int) ≤ (th 12) ∧ (th 12) ≤ 6 := (b0_12 hT :); have ob14 : (0 : Int) ≤ zz33 ∧ zz33 ≤ 511 := (b0_14 hT :); have ob15 : (0 : Int) ≤ (th 15) ∧ (th 15) ≤ 1 := (b0_15 hT :); have ob16 : (0 : Int) ≤ zz34 ∧ zz34 ≤ 20 := (b0_16 hT :); have ob17 : (0 : Int) ≤ (th 17) ∧ (th 17) ≤ 1 := (b0_17 hT :); have ob18 : (0 : Int) ≤ zz35 ∧ zz35 ≤ 18 := (b0_18 hT :); have ob38 : (0 : Int) ≤ (th 38) ∧ (th 38) ≤ 400 := (b0_38 hT :); have ob39 : (0 : Int) ≤ (th 39) ∧ (th 39) ≤ 200 := (b0_39 hT :); have ob44 : (0 : Int) ≤ zz39 ∧ zz39 ≤ 30 := (b0_44 hT :); have orn := rnd_b (th 10); obtain ⟨o0a, o0b⟩ := (hv14_40 : In _ _ _); obtain ⟨o1a, o1b⟩ := (hv15_40 : In _ _ _); obtain ⟨o2a, o2b⟩ := (hv17_40 : In _ _ _); obtain ⟨o3a, o3b⟩ := (hv20_40 : In _ _ _); obtain ⟨o4a, o4b⟩ := (hv23_40 : In _ _ _); obtain ⟨o5a, o5b⟩ := (hv25_40 : In _ _ _); obtain ⟨o6a, o6b⟩ := (hv36_40 : In _ _ _); obtain ⟨o7a, o7b⟩ := (hv47_40 : In _ _ _); obtain ⟨o8a, o8b⟩ := (hv48_40 : In _ _ _); obtain ⟨o9a, o9b⟩ := (hv53_40 : In _ _ _); obtain ⟨o10a, o10b⟩ := (hv55_40 : In _ _ _); omega)), m6, (show zz38 = 2126 * zz34 from (by have ob10 : (0 : Int) ≤ (th 10) ∧ (th 10) ≤ 1 := (b0_10 hT :); have ob11 : (0 : Int) ≤ (th 11) ∧ (th 11) ≤ 9 := (b0_11 hT :); have ob12 : (0 : Int) ≤ (th 12) ∧ (th 12) ≤ 6 := (b0_12 hT :); have ob14 : (0 : Int) ≤ zz33 ∧ zz33 ≤ 511 := (b0_14 hT :); have ob15 : (0 : Int) ≤ (th 15) ∧ (th 15) ≤ 1 := (b0_15 hT :); have ob16 : (0 : Int) ≤ zz34 ∧ zz34 ≤ 20 := (b0_16 hT :); have ob17 : (0 : Int) ≤ (th 17) ∧ (th 17) ≤ 1 := (b0_17 hT :); have ob18 : (0 : Int) ≤ zz35 ∧ zz35 ≤ 18 := (b0_18 hT :); have ob38 : (0 : Int) ≤ (th 38) ∧ (th 38) ≤ 400 := (b0_38 hT :); have ob39 : (0 : Int) ≤ (th 39) ∧ (th 39) ≤ 200 := (b0_39 hT :); have ob44 : (0 : Int) ≤ zz39 ∧ zz39 ≤ 30 := (b0_44 hT :); have orn := rnd_b (th 10); obtain ⟨o0a, o0b⟩ := (hv14_40 : In _ _ _); obtain ⟨o1a, o1b⟩ := (hv15_40 : In _ _ _); obtain ⟨o2a, o2b⟩ := (hv17_40 : In _ _ _); obtain ⟨o3a, o3b⟩ := (hv20_40 : In _ _ _); obtain ⟨o4a, o4b⟩ := (hv23_40 : In _ _ _); obtain ⟨o5a, o5b⟩ := (hv25_40 : In _ _ _); obtain ⟨o6a, o6b⟩ := (hv36_40 : In _ _ _); obtain ⟨o7a, o7b⟩ := (hv47_40 : In _ _ _); obtain ⟨o8a, o8b⟩ := (hv48_40 : In _ _ _); obtain ⟨o9a, o9b⟩ := (hv53_40 : In _ _ _); obtain ⟨o10a, o10b⟩ := (hv55_40 : In _ _ _); omega)), (show 0 ≤ zz34 ∧ zz34 ≤ 20 from (by have ob10 : (0 : Int) ≤ (th 10) ∧ (th 10) ≤ 1 := (b0_10 hT :); have ob11 : (0 : Int) ≤ (th 11) ∧ (th 11) ≤ 9 := (b0_11 hT :); have ob12 : (0 : Int) ≤ (th 12) ∧ (th 12) ≤ 6 := (b0_12 hT :); have ob14 : (0 : Int) ≤ zz33 ∧ zz33 ≤ 511 := (b0_14 hT :); have ob15 : (0 : Int) ≤ (th 15) ∧ (th 15) ≤ 1 := (b0_15 hT :); have ob16 : (0 : Int) ≤ zz34 ∧ zz34 ≤ 20 := (b0_16 hT :); have ob17 : (0 : Int) ≤ (th 17) ∧ (th 17) ≤ 1 := (b0_17 hT :); have ob18 : (0 : Int) ≤ zz35 ∧ zz35 ≤ 18 := (b0_18 hT :); have ob38 : (0 : Int) ≤ (th 38) ∧ (th 38) ≤ 400 := (b0_38 hT :); have ob39 : (0 : Int) ≤ (th 39) ∧ (th 39) ≤ 200 := (b0_39 hT :); have ob44 : (0 : Int) ≤ zz39 ∧ zz39 ≤ 30 := (b0_44 hT :); have orn := rnd_b (th 10); obtain ⟨o0a, o0b⟩ := (hv14_40 : In _ _ _); obtain ⟨o1a, o1b⟩ := (hv15_40 : In _ _ _); obtain ⟨o2a, o2b⟩ := (hv17_40 : In _ _ _); obtain ⟨o3a, o3b⟩ := (hv20_40 : In _ _ _); obtain ⟨o4a, o4b⟩ := (hv23_40 : In _ _ _); obtain ⟨o5a, o5b⟩ := (hv25_40 : In _ _ _); obtain ⟨o6a, o6b⟩ := (hv36_40 : In _ _ _); obtain ⟨o7a, o7b⟩ := (hv47_40 : In _ _ _); obtain ⟨o8a, o8b⟩ := (hv48_40 : In _ _ _); obtain ⟨o9a, o9b⟩ := (hv53_40 : In _ _ _); obtain ⟨o10a, o10b⟩ := (hv55_40 : In _ _ _); omega)), (show 0 ≤ zz36 ∧ zz36 ≤ th 20 from (by have ob10 : (0 : Int) ≤ (th 10) ∧ (th 10) ≤ 1 := (b0_10 hT :); have ob11 : (0 : Int) ≤ (th 11) ∧ (th 11) ≤ 9 := (b0_11 hT :); have ob12 : (0 : Int) ≤ (th 12) ∧ (th 12) ≤ 6 := (b0_12 hT :); have ob14 : (0 : Int) ≤ zz33 ∧ zz33 ≤ 511 := (b0_14 hT :); have ob15 : (0 : Int) ≤ (th 15) ∧ (th 15) ≤ 1 := (b0_15 hT :); have ob16 : (0 : Int) ≤ zz34 ∧ zz34 ≤ 20 := (b0_16 hT :); have ob17 : (0 : Int) ≤ (th 17) ∧ (th 17) ≤ 1 := (b0_17 hT :); have ob18 : (0 : Int) ≤ zz35 ∧ zz35 ≤ 18 := (b0_18 hT :); have ob38 : (0 : Int) ≤ (th 38) ∧ (th 38) ≤ 400 := (b0_38 hT :); have ob39 : (0 : Int) ≤ (th 39) ∧ (th 39) ≤ 200 := (b0_39 hT :); have ob44 : (0 : Int) ≤ zz39 ∧ zz39 ≤ 30 := (b0_44 hT :); have orn := rnd_b (th 10); obtain ⟨o0a, o0b⟩ := (hv14_40 : In _ _ _); obtain ⟨o1a, o1b⟩ := (hv15_40 : In _ _ _); obtain ⟨o2a, o2b⟩ := (hv17_40 : In _ _ _); obtain ⟨o3a, o3b⟩ := (hv20_40 : In _ _ _); obtain ⟨o4a, o4b⟩ := (hv23_40 : In _ _ _); obtain ⟨o5a, o5b⟩ := (hv25_40 : In _ _ _); obtain ⟨o6a, o6b⟩ := (hv36_40 : In _ _ _); obtain ⟨o7a, o7b⟩ := (hv47_40 : In _ _ _); obtain ⟨o8a, o8b⟩ := (hv48_40 : In _ _ _); obtain ⟨o9a, o9b⟩ := (hv53_40 : In _ _ _); obtain ⟨o10a, o10b⟩ := (hv55_40 : In _ _ _); omega)), m10⟩), (SBM.set (k := 44) (SBM.set (k := 24) (SBM.set (k := 22) (SBM.set (k := 19) (SBM.set (k := 18) (SBM.set (k := 16) (SBM.set (k := 14) (SBM.rf th) (by decide)) (by decide)) (by decide)) (by decide)) (by decide)) (by decide)) (by decide))⟩, hT⟩⟩) dX11_round_39
    ·
      have cc51 : x16.toInt = r20.toInt := congrArg Int32.toInt c26
      refine lv_iconst (v := (-1)) hx hb dX11_round_26 (by decide) ?_
      exact ret_i (ty := .int) hx hb hr hlocks (rfl) hP hD hS (Nat.le_of_ble_eq_true rfl) (Nat.le_of_ble_eq_true rfl) (⟨rfl, ⟨th, ⟨(show MI th from hM), (SBM.rf th)⟩, hT⟩⟩) dX11_round_27

abbrev rm_X11_run : Room := { frames := 6, cells := 0, slots := 0, locals := 150 }
abbrev po_X11_run (g : GG) (ad : Nat → Nat) (th : Nat → Int) (L : List Nat) (f : HP)  : Int32 → (List Nat × HP) → Prop := fun r u => u.1 = L ∧ (∃ th' : Nat → Int, (MI th' ∧ SBM th th') ∧ TI g ad th' u.2)
set_option maxHeartbeats 4000000 in
set_option maxRecDepth 100000 in
theorem s_X11_run (l : Launch) (g : GG) (ad : Nat → Nat) (th : Nat → Int) (L : List Nat) (f : HP) (sz : Nat)  (hst : ST ad L) (hT : TI g ad th f) (hM : MI th) : MtI l g yX11_run cX11_run 3 (some .int) rm_X11_run [.ref (ad 255)] L f sz (po_X11_run g ad th L f ) := by
  refine MtI.of (by decide +kernel) (Nat.le_of_ble_eq_true rfl) ?_
  intro p e s m below meth c A hEn hP hD hS ls hl
  obtain ⟨hx, hb, hr, hml, hown, hlocks, hts, hG, hA, hE, hnm⟩ := hEn
  have hown : s.vm.findClass "RulerWordModel" = some m.cls := hown
  have hl : lv_has ls 3 [(0, .ref (ad 255))] := hl
  have hM0 := hM
  obtain ⟨m1, m2, m3, m4, m5, m6, m7, m8, m9, m10⟩ := hM0
  have m20 := mi20 m2 m3
  refine lv_aload_n hx hb dX11_run_0 rfl (lv_at hl 0 rfl) ?_
  refine lv_iconst (v := 0) hx hb dX11_run_1 (by decide) ?_
  refine M0e hT (fun v0_1 v2_1 v3_1 v4_1 v5_1 v6_1 v8_1 v9_1 v12_1 v13_1 v14_1 v15_1 v16_1 v17_1 v18_1 v19_1 v20_1 v21_1 v22_1 v23_1 v25_1 v36_1 v37_1 v38_1 v39_1 v40_1 v45_1 v46_1 v47_1 v48_1 v50_1 v51_1 v53_1 v55_1 hf2 hv0_1 hv2_1 hg2_1 hv3_1 hg3_1 hv4_1 hg4_1 hv5_1 hg5_1 hv6_1 hg6_1 hv8_1 hg8_1 hv9_1 hg9_1 hv12_1 hv13_1 hg13_1 hv14_1 hg14_1 hv15_1 hg15_1 hv17_1 hg17_1 hv20_1 hg20_1 hv23_1 hg23_1 hv25_1 hg25_1 hv36_1 hg36_1 hv47_1 hg47_1 hv48_1 hg48_1 hv53_1 hg53_1 hv55_1 hg55_1 hrel0_1 => ?_)
  have hg15_1 : v15_1.toInt = th 11 := hg15_1
  have hg17_1 : v17_1.toInt = th 12 := hg17_1
  have hg20_1 : v20_1.toInt = th 14 := hg20_1
  refine pl_put (ty := .int) (v := .int 0) (fs' := [.int 0, .ref (ad 256), .int v2_1, .int v3_1, .int v4_1, .int v5_1, .int v6_1, .ref (ad 257), .int v8_1, .int v9_1, .ref (ad 258), .ref (ad 259), .int v12_1, .int v13_1, .int v14_1, .int v15_1, .int v16_1, .int v17_1, .int v18_1, .int v19_1, .int v20_1, .long v21_1, .long v22_1, .int v23_1, .ref (ad 260), .int v25_1, .ref (ad 261), .ref (ad 262), .ref (ad 263), .ref (ad 264), .ref (ad 265), .ref (ad 266), .ref (ad 267), .ref (ad 268), .ref (ad 269), .ref (ad 270), .int v36_1, .int v37_1, .int v38_1, .int v39_1, .int v40_1, .ref (ad 271), .ref (ad 272), .ref (ad 273), .ref (ad 274), .long v45_1, .long v46_1, .int v47_1, .int v48_1, .ref (ad 275), .int v50_1, .int v51_1, .ref (ad 276), .int v53_1, .ref (ad 277), .int v55_1]) hx hb hts (fun w h => mT (inX11 w h)) tyX11 tyX11_ok nmX11 hown hG.1 hP hD hS (hst.1 255 (by decide)) hf2 rfl 0 (by decide) (hts _ (mT wg_1336)) (fun _ h => h) rfl (by decide +kernel) (rfl) (rfl) (Nat.le_of_ble_eq_true rfl) rfl dX11_run_2 (fun H locs f3 hf4 ho5 hP hD hS => ?_)
  refine lv_aload_n hx hb dX11_run_5 rfl (lv_at hl 0 rfl) ?_
  refine pl_get (v := .int v23_1) hx hb hts (fun w h => mT (inX11 w h)) hown hG.1 hP (hst.1 255 (by decide)) hf4 rfl 23 (by decide) (hts _ (mT wg_1359)) (fun _ h => h) rfl dX11_run_6 ?_
  have hg23_1 : v23_1.toInt = th 15 := hg23_1
  have hT := TI.updM hT hst (k := 0) (by decide) hf4 ho5 ⟨0, v2_1, v3_1, v4_1, v5_1, v6_1, v8_1, v9_1, v12_1, v13_1, v14_1, v15_1, v16_1, v17_1, v18_1, v19_1, v20_1, v21_1, v22_1, v23_1, v25_1, v36_1, v37_1, v38_1, v39_1, v40_1, v45_1, v46_1, v47_1, v48_1, v50_1, v51_1, v53_1, v55_1, rfl, (⟨by decide, by decide⟩ : In 0 0 1), hv2_1, hg2_1, hv3_1, hg3_1, hv4_1, hg4_1, hv5_1, hg5_1, hv6_1, hg6_1, hv8_1, hg8_1, hv9_1, hg9_1, hv12_1, hv13_1, hg13_1, hv14_1, hg14_1, hv15_1, hg15_1, hv17_1, hg17_1, hv20_1, hg20_1, hv23_1, hg23_1, hv25_1, hg25_1, hv36_1, hg36_1, hv47_1, hg47_1, hv48_1, hg48_1, hv53_1, hg53_1, hv55_1, hg55_1, hrel0_1⟩
  refine lv_if_eq (tgt := 26) hx hb dX11_run_9 (by decide) (fun c6 => ?_) (fun c6 => ?_)
  ·
    have oc0 : (0 : Int32).toInt = 0 := by decide
    have cc7 : v23_1.toInt = (0 : Int32).toInt := congrArg Int32.toInt c6
    have hb8 : In v23_1 0 0 := In.eq1 hv23_1 (⟨by decide, by decide⟩ : In 0 0 0) cc7 (by decide) (by decide)
    refine lv_iconst (v := (-1)) hx hb dX11_run_26 (by decide) ?_
    exact ret_i (ty := .int) hx hb hr hlocks (rfl) hP hD hS (Nat.le_of_ble_eq_true rfl) (Nat.le_of_ble_eq_true rfl) (⟨rfl, ⟨th, ⟨(show MI th from hM), (SBM.rf th)⟩, hT⟩⟩) dX11_run_27
  ·
    have oc0 : (0 : Int32).toInt = 0 := by decide
    have cc9 : v23_1.toInt ≠ (0 : Int32).toInt := i32_ne c6
    have hb10 : In v23_1 1 1 := In.ne1 hv23_1 (⟨by decide, by decide⟩ : In 0 0 0) cc9 (by decide) (by decide)
    refine lv_aload_n hx hb dX11_run_12 rfl (lv_at hl 0 rfl) ?_
    refine pl_get (v := .ref (ad 271)) hx hb hts (fun w h => mT (inX11 w h)) hown hG.1 hP (hst.1 255 (by decide)) hf4 rfl 41 (by decide) (hts _ (mT wg_1377)) (fun _ h => h) rfl dX11_run_13 ?_
    refine lv_bipush (v := 72) hx hb dX11_run_16 (by decide) ?_
    obtain ⟨rw11, hf12, hpi14, hc13⟩ := hT.2.2 16 (by decide)
    have hc13 : PRW 2126 (th 22) (th 20) (th 21) rw11 := hc13
    have hpi14 : ((72 : Int) < (th 22) → (rw11 72).toInt = th 19) := hpi14
    have hin15 : vp_in 72 2126 := In.inb (⟨by decide, by decide⟩ : In 72 72 72) (by decide) (by decide)
    refine pl_iald hx hb hG.1 hP (hst.1 271 (by decide)) 0 hf12 rfl hin15 dX11_run_18 ?_
    refine lv_topi (fun x16 ex16 => ?_)
    have hpd17 : PRED (th 20) (th 21) 72 x16 := by rw [ex16]; exact prw_at (k := 72) hc13 (by decide) (by decide) (by omega) (by decide)
    have hb18 : In x16 0 18 := ⟨(hpd17.1 rfl).1, Int.le_trans (hpd17.1 rfl).2 (by omega)⟩
    have hgl19 : x16.toInt = th 19 := by rw [ex16]; exact pinE (k := 72) (by decide) (hpi14 (by omega))
    have hpd17b := (hpd17.1 rfl).2
    refine lv_aload_n hx hb dX11_run_19 rfl (lv_at hl 0 rfl) ?_
    refine call_i (run_V (rm := rm_X11_inAll) hx hb hml hown hts (s_X11_inAll l g ad th _ _ _  hst hT ) cV_X11_inAll wg_1632 ⟨Nat.le_of_ble_eq_true rfl, Nat.le_of_ble_eq_true rfl⟩ hG hE hA hP hD hS (hst.1 255 (by decide)) hf4 rfl rfl hl.1 (As := []) (rest := [.int x16]) rfl (Nat.le_of_ble_eq_true rfl) dX11_run_20 ⟨Nat.le_of_ble_eq_true rfl, Nat.le_of_ble_eq_true rfl⟩) hA hD hS (fun r20 L21 f22 H locs hp23 hP hD hS => ?_)
    obtain ⟨eL24L, eL24T, eL24R, eL24X0⟩ := hp23
    have eL24L : L21 = L := eL24L
    have eL24T : f22 = f3 := eL24T
    rw [eL24L, eL24T] at hP hD
    have eL24R : In r20 0 18 := eL24R
    have hia25 : r20.toInt = (th 12) * rnd (th 10) := eL24X0
    have hia25b : r20.toInt = th 20 := hia25.trans m3.symm
    refine lv_icmp_ne (tgt := 28) hx hb dX11_run_23 (by decide) (fun c26 => ?_) (fun c26 => ?_)
    ·
      have cc27 : x16.toInt ≠ r20.toInt := i32_ne c26
      refine lv_aload_n hx hb dX11_run_28 rfl (lv_at hl 0 rfl) ?_
      refine call_i (run_V (rm := rm_X11_inAll) hx hb hml hown hts (s_X11_inAll l g ad th _ _ _  hst hT ) cV_X11_inAll wg_1632 ⟨Nat.le_of_ble_eq_true rfl, Nat.le_of_ble_eq_true rfl⟩ hG hE hA hP hD hS (hst.1 255 (by decide)) hf4 rfl rfl hl.1 (As := []) (rest := []) rfl (Nat.le_of_ble_eq_true rfl) dX11_run_29 ⟨Nat.le_of_ble_eq_true rfl, Nat.le_of_ble_eq_true rfl⟩) hA hD hS (fun r28 L29 f30 H locs hp31 hP hD hS => ?_)
      obtain ⟨eL32L, eL32T, eL32R, eL32X0⟩ := hp31
      have eL32L : L29 = L := eL32L
      have eL32T : f30 = f3 := eL32T
      rw [eL32L, eL32T] at hP hD
      have eL32R : In r28 0 18 := eL32R
      have hia33 : r28.toInt = (th 12) * rnd (th 10) := eL32X0
      have hia33b : r28.toInt = th 20 := hia33.trans m3.symm
      refine lv_aload_n hx hb dX11_run_32 rfl (lv_at hl 0 rfl) ?_
      refine pl_get (v := .ref (ad 271)) hx hb hts (fun w h => mT (inX11 w h)) hown hG.1 hP (hst.1 255 (by decide)) hf4 rfl 41 (by decide) (hts _ (mT wg_1377)) (fun _ h => h) rfl dX11_run_33 ?_
      refine lv_bipush (v := 72) hx hb dX11_run_36 (by decide) ?_
      have hin34 : vp_in 72 2126 := In.inb (⟨by decide, by decide⟩ : In 72 72 72) (by decide) (by decide)
      refine pl_iald hx hb hG.1 hP (hst.1 271 (by decide)) 0 hf12 rfl hin34 dX11_run_38 ?_
      refine lv_topi (fun x35 ex35 => ?_)
      obtain rfl : x16 = x35 := ex16.trans ex35.symm
      have hpd36 : PRED (th 20) (th 21) 72 x16 := by rw [ex16]; exact prw_at (k := 72) hc13 (by decide) (by decide) (by omega) (by decide)
      have hb37 : In x16 0 18 := ⟨(hpd36.1 rfl).1, Int.le_trans (hpd36.1 rfl).2 (by omega)⟩
      have hgl38 : x16.toInt = th 19 := by rw [ex16]; exact pinE (k := 72) (by decide) (hpi14 (by omega))
      have hpd36b := (hpd36.1 rfl).2
      refine lv_isub hx hb dX11_run_39 ?_
      refine lv_topi (fun x39 ex39 => ?_)
      have hb40 : In x39 (-18) 18 := ex39 ▸ In.sub eL32R hb37 (by decide) (by decide) (by decide) (by decide)
      have et41 : x39.toInt = r28.toInt - x16.toInt := In.sub2e ex39 eL32R hb37 (by decide) (by decide)
      refine lv_istore_n (lv' := [(1, .int x39), (0, .ref (ad 255))]) hx hb dX11_run_40 rfl hl (by decide) rfl (fun ls hl => ?_)
      refine lv_iconst (v := 0) hx hb dX11_run_41 (by decide) ?_
      refine lv_istore_n (lv' := [(2, .int 0), (1, .int x39), (0, .ref (ad 255))]) hx hb dX11_run_42 rfl hl (by decide) rfl (fun ls hl => ?_)
      have hJ43 : ∀ (k43 : Nat) (zg43_z14 : Int) (zg43_z16 : Int) (zg43_z18 : Int) (zg43_z19 : Int) (zg43_z22 : Int) (zg43_z24 : Int) (zg43_z44 : Int) (y43_l2 : Int32) (f_43 : HP) (H : Heap) (locs : List Loc) (ls : Array Slot), (zg43_z22 = 2126 ∧ (0 ≤ zg43_z16 ∧ zg43_z16 ≤ 20) ∧ zg43_z24 = 2126 * zg43_z16 ∧ 0 ≤ zg43_z19 ∧ zg43_z19 + x39.toInt ≤ th 20 + y43_l2.toInt ∧ y43_l2.toInt ≤ x39.toInt) → In y43_l2 0 18 → va_P g.1 vwCl (va_pl L f_43) H → va_D A (va_pl L f_43) → va_S A s.heap H locs → TI g ad (gset (gset (gset (gset (gset (gset (gset th 14 zg43_z14) 16 zg43_z16) 18 zg43_z18) 19 zg43_z19) 22 zg43_z22) 24 zg43_z24) 44 zg43_z44) f_43 → lv_has ls 3 [(0, .ref (ad 255)), (1, .int x39), (2, .int y43_l2)] → 18 - y43_l2.toInt < ((k43 : Nat) : Int) → W p l e rm_X11_run s m [.ref (ad 255)].toArray below meth c H locs 0 0 (MQ below (va_Qi (po_X11_run g ad th L f ) (PstB g A) A) [.ref (ad 255)].toArray s rm_X11_run.cells rm_X11_run.slots A) (F0 m 43 ls []) := by
        intro k43
        induction k43 with
        | zero =>
          intro zg43_z14 zg43_z16 zg43_z18 zg43_z19 zg43_z22 zg43_z24 zg43_z44 y43_l2 f_43 H locs ls hzg43 hy43_l2 hP hD hS hT hl hmz43
          exact ms0 hy43_l2 hmz43
        | succ k43 ih43 =>
          intro zg43_z14 zg43_z16 zg43_z18 zg43_z19 zg43_z22 zg43_z24 zg43_z44 y43_l2 f_43 H locs ls hzg43 hy43_l2 hP hD hS hT hl hmz43
          refine lv_iload_n hx hb dX11_run_43 rfl (lv_at hl 2 rfl) ?_
          refine lv_iload_n hx hb dX11_run_44 rfl (lv_at hl 1 rfl) ?_
          refine lv_icmp_ge (tgt := 58) hx hb dX11_run_45 (by decide) (fun c42 => ?_) (fun c42 => ?_)
          ·
            have cc43 : x39.toInt ≤ y43_l2.toInt := i32_le.mp c42
            refine lv_iload_n hx hb dX11_run_58 rfl (lv_at hl 1 rfl) ?_
            exact ret_i (ty := .int) hx hb hr hlocks (rfl) hP hD hS (Nat.le_of_ble_eq_true rfl) (Nat.le_of_ble_eq_true rfl) (⟨rfl, ⟨(gset (gset (gset (gset (gset (gset (gset th 14 zg43_z14) 16 zg43_z16) 18 zg43_z18) 19 zg43_z19) 22 zg43_z22) 24 zg43_z24) 44 zg43_z44), ⟨(show MI (gset (gset (gset (gset (gset (gset (gset th 14 zg43_z14) 16 zg43_z16) 18 zg43_z18) 19 zg43_z19) 22 zg43_z22) 24 zg43_z24) 44 zg43_z44) from ⟨m1, m2, (show th 20 = (th 12) * rnd (th 10) from m3), m4, (show zg43_z22 = 2126 from (by have ob10 : (0 : Int) ≤ (th 10) ∧ (th 10) ≤ 1 := (b0_10 hT :); have ob11 : (0 : Int) ≤ (th 11) ∧ (th 11) ≤ 9 := (b0_11 hT :); have ob12 : (0 : Int) ≤ (th 12) ∧ (th 12) ≤ 6 := (b0_12 hT :); have ob14 : (0 : Int) ≤ zg43_z14 ∧ zg43_z14 ≤ 511 := (b0_14 hT :); have ob15 : (0 : Int) ≤ (th 15) ∧ (th 15) ≤ 1 := (b0_15 hT :); have ob16 : (0 : Int) ≤ zg43_z16 ∧ zg43_z16 ≤ 20 := (b0_16 hT :); have ob17 : (0 : Int) ≤ (th 17) ∧ (th 17) ≤ 1 := (b0_17 hT :); have ob18 : (0 : Int) ≤ zg43_z18 ∧ zg43_z18 ≤ 18 := (b0_18 hT :); have ob38 : (0 : Int) ≤ (th 38) ∧ (th 38) ≤ 400 := (b0_38 hT :); have ob39 : (0 : Int) ≤ (th 39) ∧ (th 39) ≤ 200 := (b0_39 hT :); have ob44 : (0 : Int) ≤ zg43_z44 ∧ zg43_z44 ≤ 30 := (b0_44 hT :); have orn := rnd_b (th 10); obtain ⟨o0a, o0b⟩ := (hb40 : In _ _ _); obtain ⟨o1a, o1b⟩ := (hy43_l2 : In _ _ _); obtain ⟨o2a, o2b⟩ := (eL32R : In _ _ _); obtain ⟨o3a, o3b⟩ := (hb37 : In _ _ _); obtain ⟨o4a, o4b⟩ := (eL24R : In _ _ _); omega)), m6, (show zg43_z24 = 2126 * zg43_z16 from (by have ob10 : (0 : Int) ≤ (th 10) ∧ (th 10) ≤ 1 := (b0_10 hT :); have ob11 : (0 : Int) ≤ (th 11) ∧ (th 11) ≤ 9 := (b0_11 hT :); have ob12 : (0 : Int) ≤ (th 12) ∧ (th 12) ≤ 6 := (b0_12 hT :); have ob14 : (0 : Int) ≤ zg43_z14 ∧ zg43_z14 ≤ 511 := (b0_14 hT :); have ob15 : (0 : Int) ≤ (th 15) ∧ (th 15) ≤ 1 := (b0_15 hT :); have ob16 : (0 : Int) ≤ zg43_z16 ∧ zg43_z16 ≤ 20 := (b0_16 hT :); have ob17 : (0 : Int) ≤ (th 17) ∧ (th 17) ≤ 1 := (b0_17 hT :); have ob18 : (0 : Int) ≤ zg43_z18 ∧ zg43_z18 ≤ 18 := (b0_18 hT :); have ob38 : (0 : Int) ≤ (th 38) ∧ (th 38) ≤ 400 := (b0_38 hT :); have ob39 : (0 : Int) ≤ (th 39) ∧ (th 39) ≤ 200 := (b0_39 hT :); have ob44 : (0 : Int) ≤ zg43_z44 ∧ zg43_z44 ≤ 30 := (b0_44 hT :); have orn := rnd_b (th 10); obtain ⟨o0a, o0b⟩ := (hb40 : In _ _ _); obtain ⟨o1a, o1b⟩ := (hy43_l2 : In _ _ _); obtain ⟨o2a, o2b⟩ := (eL32R : In _ _ _); obtain ⟨o3a, o3b⟩ := (hb37 : In _ _ _); obtain ⟨o4a, o4b⟩ := (eL24R : In _ _ _); omega)), (show 0 ≤ zg43_z16 ∧ zg43_z16 ≤ 20 from (by have ob10 : (0 : Int) ≤ (th 10) ∧ (th 10) ≤ 1 := (b0_10 hT :); have ob11 : (0 : Int) ≤ (th 11) ∧ (th 11) ≤ 9 := (b0_11 hT :); have ob12 : (0 : Int) ≤ (th 12) ∧ (th 12) ≤ 6 := (b0_12 hT :); have ob14 : (0 : Int) ≤ zg43_z14 ∧ zg43_z14 ≤ 511 := (b0_14 hT :); have ob15 : (0 : Int) ≤ (th 15) ∧ (th 15) ≤ 1 := (b0_15 hT :); have ob16 : (0 : Int) ≤ zg43_z16 ∧ zg43_z16 ≤ 20 := (b0_16 hT :); have ob17 : (0 : Int) ≤ (th 17) ∧ (th 17) ≤ 1 := (b0_17 hT :); have ob18 : (0 : Int) ≤ zg43_z18 ∧ zg43_z18 ≤ 18 := (b0_18 hT :); have ob38 : (0 : Int) ≤ (th 38) ∧ (th 38) ≤ 400 := (b0_38 hT :); have ob39 : (0 : Int) ≤ (th 39) ∧ (th 39) ≤ 200 := (b0_39 hT :); have ob44 : (0 : Int) ≤ zg43_z44 ∧ zg43_z44 ≤ 30 := (b0_44 hT :); have orn := rnd_b (th 10); obtain ⟨o0a, o0b⟩ := (hb40 : In _ _ _); obtain ⟨o1a, o1b⟩ := (hy43_l2 : In _ _ _); obtain ⟨o2a, o2b⟩ := (eL32R : In _ _ _); obtain ⟨o3a, o3b⟩ := (hb37 : In _ _ _); obtain ⟨o4a, o4b⟩ := (eL24R : In _ _ _); omega)), (show 0 ≤ zg43_z19 ∧ zg43_z19 ≤ th 20 from (by have ob10 : (0 : Int) ≤ (th 10) ∧ (th 10) ≤ 1 := (b0_10 hT :); have ob11 : (0 : Int) ≤ (th 11) ∧ (th 11) ≤ 9 := (b0_11 hT :); have ob12 : (0 : Int) ≤ (th 12) ∧ (th 12) ≤ 6 := (b0_12 hT :); have ob14 : (0 : Int) ≤ zg43_z14 ∧ zg43_z14 ≤ 511 := (b0_14 hT :); have ob15 : (0 : Int) ≤ (th 15) ∧ (th 15) ≤ 1 := (b0_15 hT :); have ob16 : (0 : Int) ≤ zg43_z16 ∧ zg43_z16 ≤ 20 := (b0_16 hT :); have ob17 : (0 : Int) ≤ (th 17) ∧ (th 17) ≤ 1 := (b0_17 hT :); have ob18 : (0 : Int) ≤ zg43_z18 ∧ zg43_z18 ≤ 18 := (b0_18 hT :); have ob38 : (0 : Int) ≤ (th 38) ∧ (th 38) ≤ 400 := (b0_38 hT :); have ob39 : (0 : Int) ≤ (th 39) ∧ (th 39) ≤ 200 := (b0_39 hT :); have ob44 : (0 : Int) ≤ zg43_z44 ∧ zg43_z44 ≤ 30 := (b0_44 hT :); have orn := rnd_b (th 10); obtain ⟨o0a, o0b⟩ := (hb40 : In _ _ _); obtain ⟨o1a, o1b⟩ := (hy43_l2 : In _ _ _); obtain ⟨o2a, o2b⟩ := (eL32R : In _ _ _); obtain ⟨o3a, o3b⟩ := (hb37 : In _ _ _); obtain ⟨o4a, o4b⟩ := (eL24R : In _ _ _); omega)), m10⟩), (SBM.set (k := 44) (SBM.set (k := 24) (SBM.set (k := 22) (SBM.set (k := 19) (SBM.set (k := 18) (SBM.set (k := 16) (SBM.set (k := 14) (SBM.rf th) (by decide)) (by decide)) (by decide)) (by decide)) (by decide)) (by decide)) (by decide))⟩, hT⟩⟩) dX11_run_59
          ·
            have cc44 : y43_l2.toInt < x39.toInt := i32_nle c42
            have hb45 : In y43_l2 0 17 := In.lt1 hy43_l2 hb40 cc44 (by decide) (by decide)
            have hb46 : In x39 1 18 := In.lt2 hy43_l2 hb40 cc44 (by decide) (by decide)
            refine lv_aload_n hx hb dX11_run_48 rfl (lv_at hl 0 rfl) ?_
            refine M0e hT (fun v0_47 v2_47 v3_47 v4_47 v5_47 v6_47 v8_47 v9_47 v12_47 v13_47 v14_47 v15_47 v16_47 v17_47 v18_47 v19_47 v20_47 v21_47 v22_47 v23_47 v25_47 v36_47 v37_47 v38_47 v39_47 v40_47 v45_47 v46_47 v47_47 v48_47 v50_47 v51_47 v53_47 v55_47 hf48 hv0_47 hv2_47 hg2_47 hv3_47 hg3_47 hv4_47 hg4_47 hv5_47 hg5_47 hv6_47 hg6_47 hv8_47 hg8_47 hv9_47 hg9_47 hv12_47 hv13_47 hg13_47 hv14_47 hg14_47 hv15_47 hg15_47 hv17_47 hg17_47 hv20_47 hg20_47 hv23_47 hg23_47 hv25_47 hg25_47 hv36_47 hg36_47 hv47_47 hg47_47 hv48_47 hg48_47 hv53_47 hg53_47 hv55_47 hg55_47 hrel0_47 => ?_)
            have hg15_47 : v15_47.toInt = th 11 := hg15_47
            have hg17_47 : v17_47.toInt = th 12 := hg17_47
            have hg20_47 : v20_47.toInt = zg43_z14 := hg20_47
            refine call_v (run_V (rm := rm_X11_roundNow) hx hb hml hown hts (s_X11_roundNow l g ad (gset (gset (gset (gset (gset (gset (gset th 14 zg43_z14) 16 zg43_z16) 18 zg43_z18) 19 zg43_z19) 22 zg43_z22) 24 zg43_z24) 44 zg43_z44) _ _ _  hst hT (show MI (gset (gset (gset (gset (gset (gset (gset th 14 zg43_z14) 16 zg43_z16) 18 zg43_z18) 19 zg43_z19) 22 zg43_z22) 24 zg43_z24) 44 zg43_z44) from ⟨m1, m2, (show th 20 = (th 12) * rnd (th 10) from m3), m4, (show zg43_z22 = 2126 from (by have ob10 : (0 : Int) ≤ (th 10) ∧ (th 10) ≤ 1 := (b0_10 hT :); have ob11 : (0 : Int) ≤ (th 11) ∧ (th 11) ≤ 9 := (b0_11 hT :); have ob12 : (0 : Int) ≤ (th 12) ∧ (th 12) ≤ 6 := (b0_12 hT :); have ob14 : (0 : Int) ≤ zg43_z14 ∧ zg43_z14 ≤ 511 := (b0_14 hT :); have ob15 : (0 : Int) ≤ (th 15) ∧ (th 15) ≤ 1 := (b0_15 hT :); have ob16 : (0 : Int) ≤ zg43_z16 ∧ zg43_z16 ≤ 20 := (b0_16 hT :); have ob17 : (0 : Int) ≤ (th 17) ∧ (th 17) ≤ 1 := (b0_17 hT :); have ob18 : (0 : Int) ≤ zg43_z18 ∧ zg43_z18 ≤ 18 := (b0_18 hT :); have ob38 : (0 : Int) ≤ (th 38) ∧ (th 38) ≤ 400 := (b0_38 hT :); have ob39 : (0 : Int) ≤ (th 39) ∧ (th 39) ≤ 200 := (b0_39 hT :); have ob44 : (0 : Int) ≤ zg43_z44 ∧ zg43_z44 ≤ 30 := (b0_44 hT :); have orn := rnd_b (th 10); obtain ⟨o0a, o0b⟩ := (hb46 : In _ _ _); obtain ⟨o1a, o1b⟩ := (hb45 : In _ _ _); obtain ⟨o2a, o2b⟩ := (hv14_47 : In _ _ _); obtain ⟨o3a, o3b⟩ := (hv15_47 : In _ _ _); obtain ⟨o4a, o4b⟩ := (hv17_47 : In _ _ _); obtain ⟨o5a, o5b⟩ := (hv20_47 : In _ _ _); obtain ⟨o6a, o6b⟩ := (hv23_47 : In _ _ _); obtain ⟨o7a, o7b⟩ := (hv25_47 : In _ _ _); obtain ⟨o8a, o8b⟩ := (hv36_47 : In _ _ _); obtain ⟨o9a, o9b⟩ := (hv47_47 : In _ _ _); obtain ⟨o10a, o10b⟩ := (hv48_47 : In _ _ _); obtain ⟨o11a, o11b⟩ := (hv53_47 : In _ _ _); obtain ⟨o12a, o12b⟩ := (hv55_47 : In _ _ _); obtain ⟨o13a, o13b⟩ := (eL32R : In _ _ _); obtain ⟨o14a, o14b⟩ := (hb37 : In _ _ _); obtain ⟨o15a, o15b⟩ := (eL24R : In _ _ _); omega)), m6, (show zg43_z24 = 2126 * zg43_z16 from (by have ob10 : (0 : Int) ≤ (th 10) ∧ (th 10) ≤ 1 := (b0_10 hT :); have ob11 : (0 : Int) ≤ (th 11) ∧ (th 11) ≤ 9 := (b0_11 hT :); have ob12 : (0 : Int) ≤ (th 12) ∧ (th 12) ≤ 6 := (b0_12 hT :); have ob14 : (0 : Int) ≤ zg43_z14 ∧ zg43_z14 ≤ 511 := (b0_14 hT :); have ob15 : (0 : Int) ≤ (th 15) ∧ (th 15) ≤ 1 := (b0_15 hT :); have ob16 : (0 : Int) ≤ zg43_z16 ∧ zg43_z16 ≤ 20 := (b0_16 hT :); have ob17 : (0 : Int) ≤ (th 17) ∧ (th 17) ≤ 1 := (b0_17 hT :); have ob18 : (0 : Int) ≤ zg43_z18 ∧ zg43_z18 ≤ 18 := (b0_18 hT :); have ob38 : (0 : Int) ≤ (th 38) ∧ (th 38) ≤ 400 := (b0_38 hT :); have ob39 : (0 : Int) ≤ (th 39) ∧ (th 39) ≤ 200 := (b0_39 hT :); have ob44 : (0 : Int) ≤ zg43_z44 ∧ zg43_z44 ≤ 30 := (b0_44 hT :); have orn := rnd_b (th 10); obtain ⟨o0a, o0b⟩ := (hb46 : In _ _ _); obtain ⟨o1a, o1b⟩ := (hb45 : In _ _ _); obtain ⟨o2a, o2b⟩ := (hv14_47 : In _ _ _); obtain ⟨o3a, o3b⟩ := (hv15_47 : In _ _ _); obtain ⟨o4a, o4b⟩ := (hv17_47 : In _ _ _); obtain ⟨o5a, o5b⟩ := (hv20_47 : In _ _ _); obtain ⟨o6a, o6b⟩ := (hv23_47 : In _ _ _); obtain ⟨o7a, o7b⟩ := (hv25_47 : In _ _ _); obtain ⟨o8a, o8b⟩ := (hv36_47 : In _ _ _); obtain ⟨o9a, o9b⟩ := (hv47_47 : In _ _ _); obtain ⟨o10a, o10b⟩ := (hv48_47 : In _ _ _); obtain ⟨o11a, o11b⟩ := (hv53_47 : In _ _ _); obtain ⟨o12a, o12b⟩ := (hv55_47 : In _ _ _); obtain ⟨o13a, o13b⟩ := (eL32R : In _ _ _); obtain ⟨o14a, o14b⟩ := (hb37 : In _ _ _); obtain ⟨o15a, o15b⟩ := (eL24R : In _ _ _); omega)), (show 0 ≤ zg43_z16 ∧ zg43_z16 ≤ 20 from (by have ob10 : (0 : Int) ≤ (th 10) ∧ (th 10) ≤ 1 := (b0_10 hT :); have ob11 : (0 : Int) ≤ (th 11) ∧ (th 11) ≤ 9 := (b0_11 hT :); have ob12 : (0 : Int) ≤ (th 12) ∧ (th 12) ≤ 6 := (b0_12 hT :); have ob14 : (0 : Int) ≤ zg43_z14 ∧ zg43_z14 ≤ 511 := (b0_14 hT :); have ob15 : (0 : Int) ≤ (th 15) ∧ (th 15) ≤ 1 := (b0_15 hT :); have ob16 : (0 : Int) ≤ zg43_z16 ∧ zg43_z16 ≤ 20 := (b0_16 hT :); have ob17 : (0 : Int) ≤ (th 17) ∧ (th 17) ≤ 1 := (b0_17 hT :); have ob18 : (0 : Int) ≤ zg43_z18 ∧ zg43_z18 ≤ 18 := (b0_18 hT :); have ob38 : (0 : Int) ≤ (th 38) ∧ (th 38) ≤ 400 := (b0_38 hT :); have ob39 : (0 : Int) ≤ (th 39) ∧ (th 39) ≤ 200 := (b0_39 hT :); have ob44 : (0 : Int) ≤ zg43_z44 ∧ zg43_z44 ≤ 30 := (b0_44 hT :); have orn := rnd_b (th 10); obtain ⟨o0a, o0b⟩ := (hb46 : In _ _ _); obtain ⟨o1a, o1b⟩ := (hb45 : In _ _ _); obtain ⟨o2a, o2b⟩ := (hv14_47 : In _ _ _); obtain ⟨o3a, o3b⟩ := (hv15_47 : In _ _ _); obtain ⟨o4a, o4b⟩ := (hv17_47 : In _ _ _); obtain ⟨o5a, o5b⟩ := (hv20_47 : In _ _ _); obtain ⟨o6a, o6b⟩ := (hv23_47 : In _ _ _); obtain ⟨o7a, o7b⟩ := (hv25_47 : In _ _ _); obtain ⟨o8a, o8b⟩ := (hv36_47 : In _ _ _); obtain ⟨o9a, o9b⟩ := (hv47_47 : In _ _ _); obtain ⟨o10a, o10b⟩ := (hv48_47 : In _ _ _); obtain ⟨o11a, o11b⟩ := (hv53_47 : In _ _ _); obtain ⟨o12a, o12b⟩ := (hv55_47 : In _ _ _); obtain ⟨o13a, o13b⟩ := (eL32R : In _ _ _); obtain ⟨o14a, o14b⟩ := (hb37 : In _ _ _); obtain ⟨o15a, o15b⟩ := (eL24R : In _ _ _); omega)), (show 0 ≤ zg43_z19 ∧ zg43_z19 ≤ th 20 from (by have ob10 : (0 : Int) ≤ (th 10) ∧ (th 10) ≤ 1 := (b0_10 hT :); have ob11 : (0 : Int) ≤ (th 11) ∧ (th 11) ≤ 9 := (b0_11 hT :); have ob12 : (0 : Int) ≤ (th 12) ∧ (th 12) ≤ 6 := (b0_12 hT :); have ob14 : (0 : Int) ≤ zg43_z14 ∧ zg43_z14 ≤ 511 := (b0_14 hT :); have ob15 : (0 : Int) ≤ (th 15) ∧ (th 15) ≤ 1 := (b0_15 hT :); have ob16 : (0 : Int) ≤ zg43_z16 ∧ zg43_z16 ≤ 20 := (b0_16 hT :); have ob17 : (0 : Int) ≤ (th 17) ∧ (th 17) ≤ 1 := (b0_17 hT :); have ob18 : (0 : Int) ≤ zg43_z18 ∧ zg43_z18 ≤ 18 := (b0_18 hT :); have ob38 : (0 : Int) ≤ (th 38) ∧ (th 38) ≤ 400 := (b0_38 hT :); have ob39 : (0 : Int) ≤ (th 39) ∧ (th 39) ≤ 200 := (b0_39 hT :); have ob44 : (0 : Int) ≤ zg43_z44 ∧ zg43_z44 ≤ 30 := (b0_44 hT :); have orn := rnd_b (th 10); obtain ⟨o0a, o0b⟩ := (hb46 : In _ _ _); obtain ⟨o1a, o1b⟩ := (hb45 : In _ _ _); obtain ⟨o2a, o2b⟩ := (hv14_47 : In _ _ _); obtain ⟨o3a, o3b⟩ := (hv15_47 : In _ _ _); obtain ⟨o4a, o4b⟩ := (hv17_47 : In _ _ _); obtain ⟨o5a, o5b⟩ := (hv20_47 : In _ _ _); obtain ⟨o6a, o6b⟩ := (hv23_47 : In _ _ _); obtain ⟨o7a, o7b⟩ := (hv25_47 : In _ _ _); obtain ⟨o8a, o8b⟩ := (hv36_47 : In _ _ _); obtain ⟨o9a, o9b⟩ := (hv47_47 : In _ _ _); obtain ⟨o10a, o10b⟩ := (hv48_47 : In _ _ _); obtain ⟨o11a, o11b⟩ := (hv53_47 : In _ _ _); obtain ⟨o12a, o12b⟩ := (hv55_47 : In _ _ _); obtain ⟨o13a, o13b⟩ := (eL32R : In _ _ _); obtain ⟨o14a, o14b⟩ := (hb37 : In _ _ _); obtain ⟨o15a, o15b⟩ := (eL24R : In _ _ _); omega)), m10⟩) (show 3 ≤ th 11 by omega) (show zg43_z19 < (th 20) from (by have ob10 : (0 : Int) ≤ (th 10) ∧ (th 10) ≤ 1 := (b0_10 hT :); have ob11 : (0 : Int) ≤ (th 11) ∧ (th 11) ≤ 9 := (b0_11 hT :); have ob12 : (0 : Int) ≤ (th 12) ∧ (th 12) ≤ 6 := (b0_12 hT :); have ob14 : (0 : Int) ≤ zg43_z14 ∧ zg43_z14 ≤ 511 := (b0_14 hT :); have ob15 : (0 : Int) ≤ (th 15) ∧ (th 15) ≤ 1 := (b0_15 hT :); have ob16 : (0 : Int) ≤ zg43_z16 ∧ zg43_z16 ≤ 20 := (b0_16 hT :); have ob17 : (0 : Int) ≤ (th 17) ∧ (th 17) ≤ 1 := (b0_17 hT :); have ob18 : (0 : Int) ≤ zg43_z18 ∧ zg43_z18 ≤ 18 := (b0_18 hT :); have ob38 : (0 : Int) ≤ (th 38) ∧ (th 38) ≤ 400 := (b0_38 hT :); have ob39 : (0 : Int) ≤ (th 39) ∧ (th 39) ≤ 200 := (b0_39 hT :); have ob44 : (0 : Int) ≤ zg43_z44 ∧ zg43_z44 ≤ 30 := (b0_44 hT :); have orn := rnd_b (th 10); obtain ⟨o0a, o0b⟩ := (hv14_47 : In _ _ _); obtain ⟨o1a, o1b⟩ := (hv15_47 : In _ _ _); obtain ⟨o2a, o2b⟩ := (hv17_47 : In _ _ _); obtain ⟨o3a, o3b⟩ := (hv20_47 : In _ _ _); obtain ⟨o4a, o4b⟩ := (hv23_47 : In _ _ _); obtain ⟨o5a, o5b⟩ := (hv25_47 : In _ _ _); obtain ⟨o6a, o6b⟩ := (hv36_47 : In _ _ _); obtain ⟨o7a, o7b⟩ := (hv47_47 : In _ _ _); obtain ⟨o8a, o8b⟩ := (hv48_47 : In _ _ _); obtain ⟨o9a, o9b⟩ := (hv53_47 : In _ _ _); obtain ⟨o10a, o10b⟩ := (hv55_47 : In _ _ _); omega))) cV_X11_roundNow wg_1640 ⟨Nat.le_of_ble_eq_true rfl, Nat.le_of_ble_eq_true rfl⟩ hG hE hA hP hD hS (hst.1 255 (by decide)) hf48 rfl rfl hl.1 (As := []) (rest := []) rfl (Nat.le_of_ble_eq_true rfl) dX11_run_49 ⟨Nat.le_of_ble_eq_true rfl, Nat.le_of_ble_eq_true rfl⟩) hA hD hS (fun L50 f51 H locs hp52 hP hD hS => ?_)
            obtain ⟨eL53L, eL53T⟩ := hp52
            have eL53L : L50 = L := eL53L
            rw [eL53L] at hP hD
            obtain ⟨zz54, zz55, zz56, zz57, zz58, zz59, zz60, hzz54, eL53T⟩ := eL53T
            have hzz54 : zz57 = zg43_z19 + 1 ∧ zz58 = 2126 ∧ (1 ≤ zz55 ∧ zz55 ≤ 20) ∧ zz59 = 2126 * zz55 := hzz54
            have hT : TI g ad (gset (gset (gset (gset (gset (gset (gset (gset (gset (gset (gset (gset (gset (gset th 14 zg43_z14) 16 zg43_z16) 18 zg43_z18) 19 zg43_z19) 22 zg43_z22) 24 zg43_z24) 44 zg43_z44) 14 zz54) 16 zz55) 18 zz56) 19 zz57) 22 zz58) 24 zz59) 44 zz60) f51 := eL53T
            have hT : TI g ad (gset (gset (gset (gset (gset (gset (gset th 14 zz54) 16 zz55) 18 zz56) 19 zz57) 22 zz58) 24 zz59) 44 zz60) f51 := TI.cast hT (by funext q; by_cases hq0 : q = 44; (subst hq0; rfl); by_cases hq1 : q = 24; (subst hq1; rfl); by_cases hq2 : q = 22; (subst hq2; rfl); by_cases hq3 : q = 19; (subst hq3; rfl); by_cases hq4 : q = 18; (subst hq4; rfl); by_cases hq5 : q = 16; (subst hq5; rfl); by_cases hq6 : q = 14; (subst hq6; rfl); simp only [gset, if_neg hq0, if_neg hq1, if_neg hq2, if_neg hq3, if_neg hq4, if_neg hq5, if_neg hq6])
            obtain ⟨x61, ex61⟩ : ∃ y : Int32, y = y43_l2 + 1 := ⟨_, rfl⟩
            have hb62 : In x61 1 18 := ex61 ▸ In.add hb45 (⟨by decide, by decide⟩ : In 1 1 1) (by decide) (by decide) (by decide) (by decide)
            have et63 : x61.toInt = y43_l2.toInt + 1 := In.adde ex61 hb45 (k := 1) (by decide) (by decide) (by decide)
            refine lv_iinc (v := x61) (lv' := [(2, .int x61), (0, .ref (ad 255)), (1, .int x39)]) hx hb dX11_run_52 hl (k := 2) rfl (by rw [ex61]; rfl) (by decide) rfl (fun ls hl => ?_)
            refine lv_goto (tgt := 43) hx hb dX11_run_55 (by decide) ?_
            exact ih43 zz54 zz55 zz56 zz57 zz58 zz59 zz60 x61 _ _ _ _ (show (zz58 = 2126 ∧ (0 ≤ zz55 ∧ zz55 ≤ 20) ∧ zz59 = 2126 * zz55 ∧ 0 ≤ zz57 ∧ zz57 + x39.toInt ≤ th 20 + x61.toInt ∧ x61.toInt ≤ x39.toInt) from (by have ob10 : (0 : Int) ≤ (th 10) ∧ (th 10) ≤ 1 := (b0_10 hT :); have ob11 : (0 : Int) ≤ (th 11) ∧ (th 11) ≤ 9 := (b0_11 hT :); have ob12 : (0 : Int) ≤ (th 12) ∧ (th 12) ≤ 6 := (b0_12 hT :); have ob14 : (0 : Int) ≤ zz54 ∧ zz54 ≤ 511 := (b0_14 hT :); have ob15 : (0 : Int) ≤ (th 15) ∧ (th 15) ≤ 1 := (b0_15 hT :); have ob16 : (0 : Int) ≤ zz55 ∧ zz55 ≤ 20 := (b0_16 hT :); have ob17 : (0 : Int) ≤ (th 17) ∧ (th 17) ≤ 1 := (b0_17 hT :); have ob18 : (0 : Int) ≤ zz56 ∧ zz56 ≤ 18 := (b0_18 hT :); have ob38 : (0 : Int) ≤ (th 38) ∧ (th 38) ≤ 400 := (b0_38 hT :); have ob39 : (0 : Int) ≤ (th 39) ∧ (th 39) ≤ 200 := (b0_39 hT :); have ob44 : (0 : Int) ≤ zz60 ∧ zz60 ≤ 30 := (b0_44 hT :); have orn := rnd_b (th 10); obtain ⟨o0a, o0b⟩ := (hb46 : In _ _ _); obtain ⟨o1a, o1b⟩ := (hb62 : In _ _ _); obtain ⟨o2a, o2b⟩ := (eL32R : In _ _ _); obtain ⟨o3a, o3b⟩ := (hb37 : In _ _ _); obtain ⟨o4a, o4b⟩ := (hb45 : In _ _ _); obtain ⟨o5a, o5b⟩ := (eL24R : In _ _ _); omega)) (In.mono hb62 (by decide) (by decide)) hP hD hS (TI.cast hT (by funext q; by_cases hq0 : q = 44; (subst hq0; rfl); by_cases hq1 : q = 24; (subst hq1; rfl); by_cases hq2 : q = 22; (subst hq2; rfl); by_cases hq3 : q = 19; (subst hq3; rfl); by_cases hq4 : q = 18; (subst hq4; rfl); by_cases hq5 : q = 16; (subst hq5; rfl); by_cases hq6 : q = 14; (subst hq6; rfl); simp only [gset, if_neg hq0, if_neg hq1, if_neg hq2, if_neg hq3, if_neg hq4, if_neg hq5, if_neg hq6])) (lv_sub hl [1, 2, 0] rfl) (msu et63 (by decide) hmz43)
      exact hJ43 ((18 - (0 : Int32).toInt).toNat + 1) (th 14) (th 16) (th 18) (th 19) (th 22) (th 24) (th 44) 0 _ _ _ _ (show ((th 22) = 2126 ∧ (0 ≤ (th 16) ∧ (th 16) ≤ 20) ∧ (th 24) = 2126 * (th 16) ∧ 0 ≤ (th 19) ∧ (th 19) + x39.toInt ≤ th 20 + (0 : Int32).toInt ∧ (0 : Int32).toInt ≤ x39.toInt) from (by have ob10 : (0 : Int) ≤ (th 10) ∧ (th 10) ≤ 1 := (b0_10 hT :); have ob11 : (0 : Int) ≤ (th 11) ∧ (th 11) ≤ 9 := (b0_11 hT :); have ob12 : (0 : Int) ≤ (th 12) ∧ (th 12) ≤ 6 := (b0_12 hT :); have ob14 : (0 : Int) ≤ (th 14) ∧ (th 14) ≤ 511 := (b0_14 hT :); have ob15 : (0 : Int) ≤ (th 15) ∧ (th 15) ≤ 1 := (b0_15 hT :); have ob16 : (0 : Int) ≤ (th 16) ∧ (th 16) ≤ 20 := (b0_16 hT :); have ob17 : (0 : Int) ≤ (th 17) ∧ (th 17) ≤ 1 := (b0_17 hT :); have ob18 : (0 : Int) ≤ (th 18) ∧ (th 18) ≤ 18 := (b0_18 hT :); have ob38 : (0 : Int) ≤ (th 38) ∧ (th 38) ≤ 400 := (b0_38 hT :); have ob39 : (0 : Int) ≤ (th 39) ∧ (th 39) ≤ 200 := (b0_39 hT :); have ob44 : (0 : Int) ≤ (th 44) ∧ (th 44) ≤ 30 := (b0_44 hT :); have orn := rnd_b (th 10); have oc0 : (0 : Int32).toInt = 0 := (by decide); obtain ⟨o0a, o0b⟩ := (hb40 : In _ _ _); obtain ⟨o1a, o1b⟩ := (hv14_1 : In _ _ _); obtain ⟨o2a, o2b⟩ := (hv15_1 : In _ _ _); obtain ⟨o3a, o3b⟩ := (hv17_1 : In _ _ _); obtain ⟨o4a, o4b⟩ := (hv20_1 : In _ _ _); obtain ⟨o5a, o5b⟩ := (hb10 : In _ _ _); obtain ⟨o6a, o6b⟩ := (hv25_1 : In _ _ _); obtain ⟨o7a, o7b⟩ := (hv36_1 : In _ _ _); obtain ⟨o8a, o8b⟩ := (hv47_1 : In _ _ _); obtain ⟨o9a, o9b⟩ := (hv48_1 : In _ _ _); obtain ⟨o10a, o10b⟩ := (hv53_1 : In _ _ _); obtain ⟨o11a, o11b⟩ := (hv55_1 : In _ _ _); obtain ⟨o12a, o12b⟩ := (eL32R : In _ _ _); obtain ⟨o13a, o13b⟩ := (hb37 : In _ _ _); obtain ⟨o14a, o14b⟩ := (eL24R : In _ _ _); omega)) (⟨by decide, by decide⟩ : In 0 0 18) hP hD hS (TI.cast hT (by funext q; by_cases hq0 : q = 14; (subst hq0; rfl); by_cases hq1 : q = 16; (subst hq1; rfl); by_cases hq2 : q = 18; (subst hq2; rfl); by_cases hq3 : q = 19; (subst hq3; rfl); by_cases hq4 : q = 22; (subst hq4; rfl); by_cases hq5 : q = 24; (subst hq5; rfl); by_cases hq6 : q = 44; (subst hq6; rfl); simp only [gset, if_neg hq0, if_neg hq1, if_neg hq2, if_neg hq3, if_neg hq4, if_neg hq5, if_neg hq6])) (lv_sub hl [2, 1, 0] rfl) (msI _)
    ·
      have cc64 : x16.toInt = r20.toInt := congrArg Int32.toInt c26
      refine lv_iconst (v := (-1)) hx hb dX11_run_26 (by decide) ?_
      exact ret_i (ty := .int) hx hb hr hlocks (rfl) hP hD hS (Nat.le_of_ble_eq_true rfl) (Nat.le_of_ble_eq_true rfl) (⟨rfl, ⟨th, ⟨(show MI th from hM), (SBM.rf th)⟩, hT⟩⟩) dX11_run_27
