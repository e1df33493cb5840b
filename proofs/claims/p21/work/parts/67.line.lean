set_option maxHeartbeats 4000000 in
set_option maxRecDepth 100000 in
theorem k_X10_line (l : Launch) (htr : l.stackTraces = false) (g : GG) (ad : Nat → Nat) (th : Nat → Int) (L : List Nat) (f : HP) (sz : Nat) (z1 z2 : Int32) (hst : ST ad L) (hT : TI g ad th f) : MtX l g yX10_line cX10_line 3 (some .int) ({ frames := 6, cells := 1, slots := 6, locals := 81 }) [.ref (ad 0), .int z1, .int z2] L f sz (fun _ u => u.1 = L ∧ u.2 = f) := by
  refine MtX.of (by decide +kernel) (Nat.le_of_ble_eq_true rfl) ?_
  intro p e s m below meth c A hAr htab hEn hP hD hS ls hl
  obtain ⟨hx, hb, hr, hml, hown, hlocks, hts, hG, hA, hE, hnm⟩ := hEn
  have hown : s.vm.findClass "RulerWord" = some m.cls := hown
  have hl : lv_has ls 3 [(0, .ref (ad 0)), (1, .int z1), (2, .int z2)] := hl
  refine lv_iload_n hx hb dX10_line_0 rfl (lv_at hl 1 rfl) ?_
  refine lv_if_lt (tgt := 27) hx hb dX10_line_1 (by decide) (fun c1 => ?_) (fun c1 => ?_)
  ·
    have cc2 : z1.toInt < (0 : Int32).toInt := i32_lt.mp c1
    have hb3 : In z1 (-2147483648) (-1) := In.lt1 (In.full z1) (⟨by decide, by decide⟩ : In 0 0 0) cc2 (by omega) (by omega)
    exact vx_throw0 (names := nseN) (ik := 176) (ic := 178) hx hb htr hown (by decide +kernel) (by decide +kernel) (hts _ (mT wg_1264)) (hts _ (mT wg_177)) (atN_of hts hG) atN_ot hE.2.2.1 hE.2.2.2.1 hS (hl.1.trans hml.symm) dX10_line_27 dX10_line_30 dX10_line_31 dX10_line_34 (fun x hx => (htab x hx).elim) (by decide) (by decide) (by decide) (by decide) hlocks (fun t hal h1 h2 => ⟨(), trivial, ⟨rfl, pl_kept hP (fun a ha => h2 a (pl_P_at hP ha))⟩, Nat.le_trans hS.1 h1, fun q a b => (h2 q (Nat.lt_of_lt_of_le a hS.1)).trans (hS.2.1 q a (fun z => b (hAr ▸ z)))⟩) (fun z hz => hS.2.2 z hz) (by decide) (by decide)
  ·
    have cc4 : (0 : Int32).toInt ≤ z1.toInt := i32_nlt c1
    have hb5 : In z1 0 2147483647 := In.ge1 (In.full z1) (⟨by decide, by decide⟩ : In 0 0 0) cc4 (by omega) (by omega)
    refine lv_iload_n hx hb dX10_line_4 rfl (lv_at hl 1 rfl) ?_
    refine lv_aload_n hx hb dX10_line_5 rfl (lv_at hl 0 rfl) ?_
    obtain ⟨v15_6, v16_6, v17_6, hf7, hv15_6, hv16_6, hg16_6⟩ := hT.1 0 (by decide)
    refine pl_get (v := .ref (ad 13)) hx hb hts (fun w h => mT (inX10 w h)) hown hG.1 hP (hst.1 0 (by decide)) hf7 rfl 5 (by decide) (hts _ (mT wg_480)) (fun _ h => h) rfl dX10_line_6 ?_
    obtain ⟨v0_8, v1_8, hf9, hv0_8, hv1_8⟩ := hT.1 13 (by decide)
    refine pl_getN (v := .ref (ad 11)) hx hb hts (fun w h => mT (inX6 w h)) hown hG.1 hP (hst.1 13 (by decide)) hf9 rfl 2 (by decide) (hG.2.1 _ wn_289) (fun _ h => h) rfl dX10_line_9 ?_
    obtain ⟨v1_10, hf11, hv1_10⟩ := hT.1 11 (by decide)
    refine pl_getN (v := .int v1_10) hx hb hts (fun w h => mT (inX5 w h)) hown hG.1 hP (hst.1 11 (by decide)) hf11 rfl 1 (by decide) (hG.2.1 _ wn_271) (fun _ h => h) rfl dX10_line_12 ?_
    refine lv_icmp_ge (tgt := 27) hx hb dX10_line_15 (by decide) (fun c12 => ?_) (fun c12 => ?_)
    ·
      exact vx_throw0 (names := nseN) (ik := 176) (ic := 178) hx hb htr hown (by decide +kernel) (by decide +kernel) (hts _ (mT wg_1264)) (hts _ (mT wg_177)) (atN_of hts hG) atN_ot hE.2.2.1 hE.2.2.2.1 hS (hl.1.trans hml.symm) dX10_line_27 dX10_line_30 dX10_line_31 dX10_line_34 (fun x hx => (htab x hx).elim) (by decide) (by decide) (by decide) (by decide) hlocks (fun t hal h1 h2 => ⟨(), trivial, ⟨rfl, pl_kept hP (fun a ha => h2 a (pl_P_at hP ha))⟩, Nat.le_trans hS.1 h1, fun q a b => (h2 q (Nat.lt_of_lt_of_le a hS.1)).trans (hS.2.1 q a (fun z => b (hAr ▸ z)))⟩) (fun z hz => hS.2.2 z hz) (by decide) (by decide)
    ·
      have cc13 : z1.toInt < v1_10.toInt := i32_nle c12
      have hb14 : In z1 0 19 := In.lt1 hb5 hv1_10 cc13 (by omega) (by omega)
      have hb15 : In v1_10 1 20 := In.lt2 hb5 hv1_10 cc13 (by omega) (by omega)
      refine lv_iload_n hx hb dX10_line_18 rfl (lv_at hl 2 rfl) ?_
      refine lv_if_lt (tgt := 27) hx hb dX10_line_19 (by decide) (fun c16 => ?_) (fun c16 => ?_)
      ·
        have cc17 : z2.toInt < (0 : Int32).toInt := i32_lt.mp c16
        have hb18 : In z2 (-2147483648) (-1) := In.lt1 (In.full z2) (⟨by decide, by decide⟩ : In 0 0 0) cc17 (by omega) (by omega)
        exact vx_throw0 (names := nseN) (ik := 176) (ic := 178) hx hb htr hown (by decide +kernel) (by decide +kernel) (hts _ (mT wg_1264)) (hts _ (mT wg_177)) (atN_of hts hG) atN_ot hE.2.2.1 hE.2.2.2.1 hS (hl.1.trans hml.symm) dX10_line_27 dX10_line_30 dX10_line_31 dX10_line_34 (fun x hx => (htab x hx).elim) (by decide) (by decide) (by decide) (by decide) hlocks (fun t hal h1 h2 => ⟨(), trivial, ⟨rfl, pl_kept hP (fun a ha => h2 a (pl_P_at hP ha))⟩, Nat.le_trans hS.1 h1, fun q a b => (h2 q (Nat.lt_of_lt_of_le a hS.1)).trans (hS.2.1 q a (fun z => b (hAr ▸ z)))⟩) (fun z hz => hS.2.2 z hz) (by decide) (by decide)
      ·
        have cc19 : (0 : Int32).toInt ≤ z2.toInt := i32_nlt c16
        have hb20 : In z2 0 2147483647 := In.ge1 (In.full z2) (⟨by decide, by decide⟩ : In 0 0 0) cc19 (by omega) (by omega)
        refine lv_iload_n hx hb dX10_line_22 rfl (lv_at hl 2 rfl) ?_
        refine lv_iconst (v := 5) hx hb dX10_line_23 (by decide) ?_
        refine lv_icmp_lt (tgt := 35) hx hb dX10_line_24 (by decide) (fun c21 => ?_) (fun c21 => ?_)
        ·
          have cc22 : z2.toInt < (5 : Int32).toInt := i32_lt.mp c21
          have hb23 : In z2 0 4 := In.lt1 hb20 (⟨by decide, by decide⟩ : In 5 5 5) cc22 (by omega) (by omega)
          refine lv_aload_n hx hb dX10_line_35 rfl (lv_at hl 0 rfl) ?_
          refine pl_get (v := .ref (ad 13)) hx hb hts (fun w h => mT (inX10 w h)) hown hG.1 hP (hst.1 0 (by decide)) hf7 rfl 5 (by decide) (hts _ (mT wg_480)) (fun _ h => h) rfl dX10_line_36 ?_
          refine pl_getN (v := .ref (ad 11)) hx hb hts (fun w h => mT (inX6 w h)) hown hG.1 hP (hst.1 13 (by decide)) hf9 rfl 2 (by decide) (hG.2.1 _ wn_289) (fun _ h => h) rfl dX10_line_39 ?_
          refine lv_iload_n hx hb dX10_line_42 rfl (lv_at hl 1 rfl) ?_
          refine lv_iload_n hx hb dX10_line_43 rfl (lv_at hl 2 rfl) ?_
          refine call_i (run_VN (rm := rm_X5_part) hx hb hml hown hts (s_X5_part l g ad th _ _ _ z1 z2 hst hT hb14 hb23) cV_X5_part wn_1325 ⟨Nat.le_of_ble_eq_true rfl, Nat.le_of_ble_eq_true rfl⟩ hG hE hA hP hD hS (hst.1 11 (by decide)) hf11 rfl rfl hl.1 (As := [.int z1, .int z2]) (rest := []) rfl (Nat.le_of_ble_eq_true rfl) dX10_line_44 ⟨Nat.le_of_ble_eq_true rfl, Nat.le_of_ble_eq_true rfl⟩) hA hD hS (fun r24 L25 f26 H locs hp27 hP hD hS => ?_)
          obtain ⟨eL28L, eL28T⟩ := hp27
          have eL28L : L25 = L := eL28L
          have eL28T : f26 = f := eL28T
          rw [eL28L, eL28T] at hP hD
          exact vx_ret (ret_i (ty := .int) hx hb hr hlocks (rfl) hP hD hS (Nat.le_of_ble_eq_true rfl) (Nat.le_of_ble_eq_true rfl) (⟨rfl, rfl⟩) dX10_line_47)
        ·
          have cc29 : (5 : Int32).toInt ≤ z2.toInt := i32_nlt c21
          have hb30 : In z2 5 2147483647 := In.ge1 hb20 (⟨by decide, by decide⟩ : In 5 5 5) cc29 (by omega) (by omega)
          exact vx_throw0 (names := nseN) (ik := 176) (ic := 178) hx hb htr hown (by decide +kernel) (by decide +kernel) (hts _ (mT wg_1264)) (hts _ (mT wg_177)) (atN_of hts hG) atN_ot hE.2.2.1 hE.2.2.2.1 hS (hl.1.trans hml.symm) dX10_line_27 dX10_line_30 dX10_line_31 dX10_line_34 (fun x hx => (htab x hx).elim) (by decide) (by decide) (by decide) (by decide) hlocks (fun t hal h1 h2 => ⟨(), trivial, ⟨rfl, pl_kept hP (fun a ha => h2 a (pl_P_at hP ha))⟩, Nat.le_trans hS.1 h1, fun q a b => (h2 q (Nat.lt_of_lt_of_le a hS.1)).trans (hS.2.1 q a (fun z => b (hAr ▸ z)))⟩) (fun z hz => hS.2.2 z hz) (by decide) (by decide)

abbrev hhL : List (Nat × Nat × Nat × Nat) := [(0, 10, 13, 13)]
set_option maxHeartbeats 4000000 in
theorem k_L_line (l : Launch) (htr : l.stackTraces = false) (g : GG) (ad : Nat → Nat) (th : Nat → Int) (L : List Nat) (f : HP) (sz : Nat) (p0 p1 : Int32) (hst : ST ad L) (hT : TI g ad th f) : Met l yL_line (Cond.codeWith yL_line cL_line 5 (some .int) hhL :: GW) { frames := 7, cells := 1, slots := 6, locals := 103 } (va_Pc [.ref (ad 0), .int p0, .int p1, .ref (ad 278)] (PreB g L f sz)) (va_Qi (fun _ (u : List Nat × HP) => u.1 = L ∧ TI g ad th u.2) (PstB g (Rg L f sz)) (Rg L f sz)) 1 6 (Rg L f sz) := by
  refine va_MetW (cc := cL_line) (maxL := 5) (ret := some .int) (hh := hhL) (by decide +kernel) rfl ?_
  intro p e s m args below meth c s₁ B hml hv
  obtain ⟨rfl, hsz, hP, hG, hD0, hE⟩ := hv
  subst hsz
  have hD := hD0.self (sz := s.heap.size)
  have hx := B.exec
  have hb := B.bytes
  have hr := B.returns
  have hown : s.vm.findClass "RulerWordLaw" = some m.cls := findClass_of_methodNamed B.named
  have hlocks := B.notSynchronized
  have hts := atoms_spec (ws := Cond.codeWith yL_line cL_line 5 (some .int) hhL :: GW) B.pre
  have htab := vx_table (x := yL_line) B (hts _ List.mem_cons_self)
  have hA : ∀ q, s.heap.size ≤ q → Rg L f s.heap.size q := fun q h => Or.inr h
  have hS : va_S (Rg L f s.heap.size) s.heap s.heap [] := va_S.rf
  have hl := lv_entry [.ref (ad 0), .int p0, .int p1, .ref (ad 278)] (n := 5) (Nat.le_of_ble_eq_true rfl)
  rw [lg_entry_eq]
  generalize (lg_sl [Value.ref (ad 0), .int p0, .int p1, .ref (ad 278)] ++ List.replicate (5 - (lg_sl [Value.ref (ad 0), .int p0, .int p1, .ref (ad 278)]).length) Slot.unset).toArray = ls at hl ⊢
  have hl : lv_has ls 5 [(0, .ref (ad 0)), (1, .int p0), (2, .int p1), (3, .ref (ad 278))] := hl
  show W p l e { frames := 7, cells := 1, slots := 6, locals := 103 } s m _ below meth c s.heap [] 0 0 _ _
  obtain ⟨v15, v16, v17, hf_x, _, _, _⟩ := hT.1 0 (by decide)
  refine lv_aload_n hx hb dL_line_0 rfl (lv_at hl 3 rfl) ?_
  refine lv_iconst (v := 0) hx hb dL_line_1 (by decide) ?_
  refine lv_aload_n hx hb dL_line_2 rfl (lv_at hl 0 rfl) ?_
  refine lv_iload_n hx hb dL_line_3 rfl (lv_at hl 1 rfl) ?_
  refine lv_iload_n hx hb dL_line_4 rfl (lv_at hl 2 rfl) ?_
  have hF := reg_of hD hS hA
  refine vx_calli (run_VX (rm := { frames := 6, cells := 1, slots := 6, locals := 81 }) hx hb hml hown hts (k_X10_line l htr g ad th _ _ _ p0 p1 hst hT) cV_X10_line wg_1260 ⟨Nat.le_of_ble_eq_true rfl, Nat.le_of_ble_eq_true rfl⟩ hG hE hA hP hD hS (hst.1 0 (by decide)) hf_x rfl rfl hl.1 (As := [.int p0, .int p1]) (rest := [.int 0, .ref (ad 278)]) rfl (Nat.le_of_ble_eq_true rfl) dL_line_5 ⟨Nat.le_of_ble_eq_true rfl, Nat.le_of_ble_eq_true rfl⟩) hS (fun q _ h => hF q h) hF (fun q _ h => hF q h) (fun E ce q9 u t H1 locs1 ht hal _ hBX hz hk hS hce hcv hcl => ?_) (fun r u t H1 locs1 ht hal hpo hB hz hk hS => ?_)
  · obtain ⟨hE9, hP1⟩ := hBX
    obtain rfl : E = NSE := hE9
    rw [ht] at hP1
    refine vx_catch hown [] ⟨0, 10, 13, 13⟩ [] (by rw [htab]; rfl) (fun z hz => by cases hz) (by decide) (by decide) (hts _ (mT wg_1259)) (va_Nw.use rfl (hG.2.1 _ wn_1266)) hce hcv hcl ?_
    refine lv_astore (lv' := [(4, .ref q9), (0, .ref (ad 0)), (1, .int p0), (2, .int p1), (3, .ref (ad 278))]) hx hb dL_line_13 hl (by decide) rfl (fun ls hl => ?_)
    refine lv_iconst (v := 1) hx hb dL_line_15 (by decide) ?_
    exact ret_i (ty := .int) hx hb hr hlocks rfl hP1 hD hS (Nat.le_of_ble_eq_true rfl) (Nat.le_of_ble_eq_true rfl) ⟨rfl, hT⟩ dL_line_16
  · obtain ⟨u1, u2⟩ := u
    obtain ⟨hu1, hu2⟩ : u1 = L ∧ u2 = f := hpo
    subst hu1
    subst hu2
    have hP1 : va_P g.1 vwCl (va_pl u1 u2) H1 := by rw [← ht]; exact hB.1
    have hD1 : va_D (Rg u1 u2 s.heap.size) (va_pl u1 u2) := hD
    refine lv_i2l hx hb dL_line_8 rfl ?_
    obtain ⟨rw0, hf_o⟩ := hT.2.2 23 (by decide)
    refine pl_lastE hx hb hG.1 hP1 hD1 hS (hst.1 278 (by decide)) 1 hf_o rfl (by unfold vp_in; decide) dL_line_9 (fun H locs f1 r1 er1 hf1 ho1 hP hD hS => ?_)
    have hT := TI.updM hT hst (k := 23) (by decide) hf1 ho1 ⟨r1, rfl⟩
    refine lv_goto (tgt := 17) hx hb dL_line_10 (by decide) ?_
    refine lv_iconst (v := 0) hx hb dL_line_17 (by decide) ?_
    exact ret_i (ty := .int) hx hb hr hlocks rfl hP hD hS (Nat.le_of_ble_eq_true rfl) (Nat.le_of_ble_eq_true rfl) ⟨rfl, hT⟩ dL_line_18
