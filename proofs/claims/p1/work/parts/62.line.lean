set_option maxHeartbeats 4000000 in
theorem k_X10_line (l : Launch) (htr : l.stackTraces = false) (g : GG) (L : List Nat) (f : HP) (sz : Nat) (x t dr co ot dp pn ch fr nw kp tr ac se tx rf pl pb : Nat) (i w : Int32) (hm_x : x ∈ L) (hf_x : f x = .inr (9, [.ref t, .ref dr, .ref co, .ref ot, .ref dp, .ref pn, .ref ch, .ref fr, .ref nw, .ref kp, .ref tr, .ref ac, .ref se, .ref tx, .ref rf, .int 0, .int 0, .long 0])) (hm_pn : pn ∈ L) (hf_pn : f pn = .inr (6, [.int 0, .int 0, .ref pl])) (hm_pl : pl ∈ L) (hf_pl : f pl = .inr (5, [.ref pb, .int 0])) : MtX l g yX10_line cX10_line 3 (some .int) ({ frames := 6, cells := 1, slots := 6, locals := 81 }) [.ref x, .int i, .int w] L f sz (fun _ _ => False) := by
  refine MtX.of (by decide +kernel) (Nat.le_of_ble_eq_true rfl) ?_
  intro p e s m below meth c A hAr htab hEn hP hD hS ls hl
  obtain ⟨hx, hb, hr, hml, hown, hlocks, hts, hG, hA, hE, hnm⟩ := hEn
  have hown : s.vm.findClass "RulerWord" = some m.cls := hown
  have hl : lv_has ls 3 [(0, .ref x), (1, .int i), (2, .int w)] := hl
  refine lv_iload_n hx hb dX10_line_0 rfl (lv_at hl 1 rfl) ?_
  refine lv_if_lt (tgt := 27) hx hb dX10_line_1 (by decide) (fun c1 => ?_) (fun c1 => ?_)
  ·
    exact vx_throw0 (names := nseN) (ik := 176) (ic := 178) hx hb htr hown (by decide +kernel) (by decide +kernel) (hts _ (mT wg_1264)) (hts _ (mT wg_177)) (atN_of hts hG) atN_ot hE.2.2.1 hE.2.2.2 hS (hl.1.trans hml.symm) dX10_line_27 dX10_line_30 dX10_line_31 dX10_line_34 (fun x hx => (htab x hx).elim) (by decide) (by decide) (by decide) (by decide) hlocks (fun t hal h1 h2 => ⟨(), trivial, rfl, Nat.le_trans hS.1 h1, fun q a b => (h2 q (Nat.lt_of_lt_of_le a hS.1)).trans (hS.2.1 q a (fun z => b (hAr ▸ z)))⟩) (fun z hz => hS.2.2 z hz) (by decide) (by decide)
  ·
    refine lv_iload_n hx hb dX10_line_4 rfl (lv_at hl 1 rfl) ?_
    refine lv_aload_n hx hb dX10_line_5 rfl (lv_at hl 0 rfl) ?_
    refine pl_get (v := .ref pn) hx hb hts (fun w h => mT (inX10 w h)) hown hG.1 hP hm_x hf_x rfl 5 (by decide) (hts _ (mT wg_480)) (fun _ h => h) rfl dX10_line_6 ?_
    refine pl_getN (v := .ref pl) hx hb hts (fun w h => mT (inX6 w h)) hown hG.1 hP hm_pn hf_pn rfl 2 (by decide) (hG.2.1 _ wn_289) (fun _ h => h) rfl dX10_line_9 ?_
    refine pl_getN (v := .int 0) hx hb hts (fun w h => mT (inX5 w h)) hown hG.1 hP hm_pl hf_pl rfl 1 (by decide) (hG.2.1 _ wn_271) (fun _ h => h) rfl dX10_line_12 ?_
    refine lv_icmp_ge (tgt := 27) hx hb dX10_line_15 (by decide) (fun c2 => ?_) (fun c2 => cp_lt_f_ge c1 c2)
    exact vx_throw0 (names := nseN) (ik := 176) (ic := 178) hx hb htr hown (by decide +kernel) (by decide +kernel) (hts _ (mT wg_1264)) (hts _ (mT wg_177)) (atN_of hts hG) atN_ot hE.2.2.1 hE.2.2.2 hS (hl.1.trans hml.symm) dX10_line_27 dX10_line_30 dX10_line_31 dX10_line_34 (fun x hx => (htab x hx).elim) (by decide) (by decide) (by decide) (by decide) hlocks (fun t hal h1 h2 => ⟨(), trivial, rfl, Nat.le_trans hS.1 h1, fun q a b => (h2 q (Nat.lt_of_lt_of_le a hS.1)).trans (hS.2.1 q a (fun z => b (hAr ▸ z)))⟩) (fun z hz => hS.2.2 z hz) (by decide) (by decide)

abbrev hhL : List (Nat × Nat × Nat × Nat) := [(0, 10, 13, 13)]
set_option maxHeartbeats 4000000 in
theorem k_L_line (l : Launch) (htr : l.stackTraces = false) (g : GG) (L : List Nat) (f : HP) (sz : Nat) (x t dr co ot dp pn ch fr nw kp tr ac se tx rf pl pb : Nat) (p0 p1 : Int32) (o : Nat) (hm_x : x ∈ L) (hf_x : f x = .inr (9, [.ref t, .ref dr, .ref co, .ref ot, .ref dp, .ref pn, .ref ch, .ref fr, .ref nw, .ref kp, .ref tr, .ref ac, .ref se, .ref tx, .ref rf, .int 0, .int 0, .long 0])) (hm_pn : pn ∈ L) (hf_pn : f pn = .inr (6, [.int 0, .int 0, .ref pl])) (hm_pl : pl ∈ L) (hf_pl : f pl = .inr (5, [.ref pb, .int 0])) : Met l yL_line (Cond.codeWith yL_line cL_line 5 (some .int) hhL :: GW) { frames := 7, cells := 1, slots := 6, locals := 103 } (va_Pc [.ref x, .int p0, .int p1, .ref o] (PreB g L f sz)) (va_Qi (fun r (_ : Unit) => r = 1) (fun _ _ => True) (Rg L f sz)) 1 6 (Rg L f sz) := by
  refine va_MetW (cc := cL_line) (maxL := 5) (ret := some .int) (hh := hhL) (by decide +kernel) rfl ?_
  intro p e s m args below meth c s₁ B hml hv
  obtain ⟨rfl, hsz, hP, hG, hD0, hE⟩ := hv
  subst hsz
  have hD := hD0.self (sz := s.heap.size)
  have hx := B.exec
  have hb := B.bytes
  have hr := B.returns
  have hown : s.vm.findClass "RulerWordLaw" = some m.cls := findClass_of_methodNamed B.named
  have hlocks := B.notSynchronized
  have hts := atoms_spec (ws := Cond.codeWith yL_line cL_line 5 (some .int) hhL :: GW) B.pre
  have htab := vx_table (x := yL_line) B (hts _ List.mem_cons_self)
  have hA : ∀ q, s.heap.size ≤ q → Rg L f s.heap.size q := fun q h => Or.inr h
  have hS : va_S (Rg L f s.heap.size) s.heap s.heap [] := va_S.rf
  have hl := lv_entry [.ref x, .int p0, .int p1, .ref o] (n := 5) (Nat.le_of_ble_eq_true rfl)
  rw [lg_entry_eq]
  generalize (lg_sl [Value.ref x, .int p0, .int p1, .ref o] ++ List.replicate (5 - (lg_sl [Value.ref x, .int p0, .int p1, .ref o]).length) Slot.unset).toArray = ls at hl ⊢
  have hl : lv_has ls 5 [(0, .ref x), (1, .int p0), (2, .int p1), (3, .ref o)] := hl
  show W p l e { frames := 7, cells := 1, slots := 6, locals := 103 } s m _ below meth c s.heap [] 0 0 _ _
  refine lv_aload_n hx hb dL_line_0 rfl (lv_at hl 3 rfl) ?_
  refine lv_iconst (v := 0) hx hb dL_line_1 (by decide) ?_
  refine lv_aload_n hx hb dL_line_2 rfl (lv_at hl 0 rfl) ?_
  refine lv_iload_n hx hb dL_line_3 rfl (lv_at hl 1 rfl) ?_
  refine lv_iload_n hx hb dL_line_4 rfl (lv_at hl 2 rfl) ?_
  have hF := reg_of hD hS hA
  refine vx_calli (run_VX (rm := { frames := 6, cells := 1, slots := 6, locals := 81 }) hx hb hml hown hts (k_X10_line l htr g _ _ _ x t dr co ot dp pn ch fr nw kp tr ac se tx rf pl pb p0 p1 hm_x hf_x hm_pn hf_pn hm_pl hf_pl) cV_X10_line wg_1260 ⟨Nat.le_of_ble_eq_true rfl, Nat.le_of_ble_eq_true rfl⟩ hG hE hA hP hD hS hm_x hf_x rfl rfl hl.1 (As := [.int p0, .int p1]) (rest := [.int 0, .ref o]) rfl (Nat.le_of_ble_eq_true rfl) dL_line_5 ⟨Nat.le_of_ble_eq_true rfl, Nat.le_of_ble_eq_true rfl⟩) hS (fun q _ h => hF q h) hF (fun q _ h => hF q h) (fun E ce q9 u t H1 locs1 ht hal _ hBX hz hk hS hce hcv hcl => ?_) (fun r u t H1 locs1 ht hal hpo hB hz hk hS => hpo.elim)
  obtain rfl : E = NSE := hBX
  refine vx_catch hown [] ⟨0, 10, 13, 13⟩ [] (by rw [htab]; rfl) (fun z hz => by cases hz) (by decide) (by decide) (hts _ (mT wg_1259)) (va_Nw.use rfl (hG.2.1 _ wn_1266)) hce hcv hcl ?_
  refine lv_astore (lv' := [(4, .ref q9), (0, .ref x), (1, .int p0), (2, .int p1), (3, .ref o)]) hx hb dL_line_13 hl (by decide) rfl (fun ls hl => ?_)
  refine lv_iconst (v := 1) hx hb dL_line_15 (by decide) ?_
  refine W.widen (k := 1) (n := 6) (Nat.le_of_ble_eq_true rfl) (Nat.le_of_ble_eq_true rfl) ?_
  exact W.zret (v := 1) hx hb hr rfl (fun t ht hW => ⟨⟨1, (), rfl, rfl, trivial⟩, hS.F ht⟩) hS.2.2 dL_line_16 hlocks
