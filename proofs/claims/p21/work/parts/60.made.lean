set_option maxHeartbeats 4000000 in
set_option maxRecDepth 100000 in
theorem k_X9_init (l : Launch) (g : GG) (L : List Nat) (f : HP) (sz : Nat) (a : Nat)  : MtV l g yX9_init cX9_init 1 ({ frames := 1, cells := 0, slots := 0, locals := 12 }) [.ref a] L f sz (fun u => (∀ b, b ∈ L → u.2 b = f b) ∧ (∀ b, b ∈ L → b ∈ u.1)) := by
  refine MtV.of (by decide +kernel) (Nat.le_of_ble_eq_true rfl) ?_
  intro p e s m below meth c A hEn hP hD hS ls hl
  obtain ⟨hx, hb, hr, hml, hown, hlocks, hts, hG, hA, hE, hnm⟩ := hEn
  have hown : s.vm.findClass "RulerWord$Voice" = some m.cls := hown
  have hl : lv_has ls 1 [(0, .ref a)] := hl
  have hfr0 : ∀ b, b ∈ L → f b = f b := fun b hb  => rfl
  have hsb0 : ∀ b, b ∈ L → b ∈ L := fun b hb => hb
  refine lv_aload_n hx hb dX9_init_0 rfl (lv_at hl 0 rfl) ?_
  refine W.objInit hx hb hown (hts _ (mT wg_285)) (hts _ (mT wg_187)) (hts _ (mT wg_objInit)) rfl (by rw [hml]; exact hl.1) rfl dX9_init_1 (Nat.le_of_ble_eq_true rfl) (Nat.le_of_ble_eq_true rfl) ?_
  refine W.eq (g2 := F0 m 4 ls []) rfl ?_
  exact ret_v hx hb hr hlocks hP hD hS (Nat.le_of_ble_eq_true rfl) (Nat.le_of_ble_eq_true rfl) (⟨hfr0, hsb0⟩) dX9_init_4

set_option maxHeartbeats 4000000 in
set_option maxRecDepth 100000 in
theorem k_X1_init (l : Launch) (g : GG) (L : List Nat) (f : HP) (sz : Nat) (ch : Nat) (hm_ch : ch ∈ L) (hf_ch : f ch = .inr (1, [.int 0, .int 0])) : MtV l g yX1_init cX1_init 1 ({ frames := 2, cells := 0, slots := 0, locals := 32 }) [.ref ch] L f sz (fun u => (∀ b, b ∈ L → u.2 b = f b) ∧ (∀ b, b ∈ L → b ∈ u.1)) := by
  refine MtV.of (by decide +kernel) (Nat.le_of_ble_eq_true rfl) ?_
  intro p e s m below meth c A hEn hP hD hS ls hl
  obtain ⟨hx, hb, hr, hml, hown, hlocks, hts, hG, hA, hE, hnm⟩ := hEn
  have hown : s.vm.findClass "RulerWord$Chance" = some m.cls := hown
  have hl : lv_has ls 1 [(0, .ref ch)] := hl
  have hfr0 : ∀ b, b ∈ L → f b = f b := fun b hb  => rfl
  have hsb0 : ∀ b, b ∈ L → b ∈ L := fun b hb => hb
  refine lv_aload_n hx hb dX1_init_0 rfl (lv_at hl 0 rfl) ?_
  refine call_v (run_IN (rm := { frames := 1, cells := 0, slots := 0, locals := 12 }) hx hb hml hown hts (k_X9_init l g _ _ _ ch) cI_X9_init wn_308 ⟨Nat.le_of_ble_eq_true rfl, Nat.le_of_ble_eq_true rfl⟩ hG hE hA hP hD hS rfl hl.1 (As := []) (rest := []) rfl (Nat.le_of_ble_eq_true rfl) dX1_init_1 ⟨Nat.le_of_ble_eq_true rfl, Nat.le_of_ble_eq_true rfl⟩) hA hD hS (fun L2 f3 H locs hp4 hP hD hS => ?_)
  obtain ⟨fr5, sb6⟩ := hp4
  have hfr7 : ∀ b, b ∈ L → f3 b = f b := fun b hb  => (fr5 b (hsb0 b hb) ).trans (hfr0 b hb )
  have hsb8 : ∀ b, b ∈ L → b ∈ L2 := fun b hb => sb6 b (hsb0 b hb)
  have hf10 := (fr5 ch hm_ch ).trans hf_ch
  have hm9 := sb6 _ hm_ch
  exact ret_v hx hb hr hlocks hP hD hS (Nat.le_of_ble_eq_true rfl) (Nat.le_of_ble_eq_true rfl) (⟨hfr7, hsb8⟩) dX1_init_4

set_option maxHeartbeats 4000000 in
set_option maxRecDepth 100000 in
theorem k_X4_init (l : Launch) (g : GG) (L : List Nat) (f : HP) (sz : Nat) (fr : Nat) (hm_fr : fr ∈ L) (hf_fr : f fr = .inr (4, [.int 0, .int 0, .int 0, .int 0])) : MtV l g yX4_init cX4_init 1 ({ frames := 2, cells := 0, slots := 0, locals := 32 }) [.ref fr] L f sz (fun u => (∀ b, b ∈ L → u.2 b = f b) ∧ (∀ b, b ∈ L → b ∈ u.1)) := by
  refine MtV.of (by decide +kernel) (Nat.le_of_ble_eq_true rfl) ?_
  intro p e s m below meth c A hEn hP hD hS ls hl
  obtain ⟨hx, hb, hr, hml, hown, hlocks, hts, hG, hA, hE, hnm⟩ := hEn
  have hown : s.vm.findClass "RulerWord$Free" = some m.cls := hown
  have hl : lv_has ls 1 [(0, .ref fr)] := hl
  have hfr0 : ∀ b, b ∈ L → f b = f b := fun b hb  => rfl
  have hsb0 : ∀ b, b ∈ L → b ∈ L := fun b hb => hb
  refine lv_aload_n hx hb dX4_init_0 rfl (lv_at hl 0 rfl) ?_
  refine call_v (run_IN (rm := { frames := 1, cells := 0, slots := 0, locals := 12 }) hx hb hml hown hts (k_X9_init l g _ _ _ fr) cI_X9_init wn_317 ⟨Nat.le_of_ble_eq_true rfl, Nat.le_of_ble_eq_true rfl⟩ hG hE hA hP hD hS rfl hl.1 (As := []) (rest := []) rfl (Nat.le_of_ble_eq_true rfl) dX4_init_1 ⟨Nat.le_of_ble_eq_true rfl, Nat.le_of_ble_eq_true rfl⟩) hA hD hS (fun L2 f3 H locs hp4 hP hD hS => ?_)
  obtain ⟨fr5, sb6⟩ := hp4
  have hfr7 : ∀ b, b ∈ L → f3 b = f b := fun b hb  => (fr5 b (hsb0 b hb) ).trans (hfr0 b hb )
  have hsb8 : ∀ b, b ∈ L → b ∈ L2 := fun b hb => sb6 b (hsb0 b hb)
  have hf10 := (fr5 fr hm_fr ).trans hf_fr
  have hm9 := sb6 _ hm_fr
  exact ret_v hx hb hr hlocks hP hD hS (Nat.le_of_ble_eq_true rfl) (Nat.le_of_ble_eq_true rfl) (⟨hfr7, hsb8⟩) dX4_init_4

set_option maxHeartbeats 4000000 in
set_option maxRecDepth 100000 in
theorem k_X2_init (l : Launch) (g : GG) (L : List Nat) (f : HP) (sz : Nat) (co : Nat) (hm_co : co ∈ L) (hf_co : f co = .inr (2, [.int 0, .int 0, .int 0, .int 0, .int 0, .int 0, .int 0, .int 0])) : MtV l g yX2_init cX2_init 1 ({ frames := 1, cells := 0, slots := 0, locals := 12 }) [.ref co] L f sz (fun u => (∀ b, b ∈ L → u.2 b = f b) ∧ (∀ b, b ∈ L → b ∈ u.1)) := by
  refine MtV.of (by decide +kernel) (Nat.le_of_ble_eq_true rfl) ?_
  intro p e s m below meth c A hEn hP hD hS ls hl
  obtain ⟨hx, hb, hr, hml, hown, hlocks, hts, hG, hA, hE, hnm⟩ := hEn
  have hown : s.vm.findClass "RulerWord$Council" = some m.cls := hown
  have hl : lv_has ls 1 [(0, .ref co)] := hl
  have hfr0 : ∀ b, b ∈ L → f b = f b := fun b hb  => rfl
  have hsb0 : ∀ b, b ∈ L → b ∈ L := fun b hb => hb
  refine lv_aload_n hx hb dX2_init_0 rfl (lv_at hl 0 rfl) ?_
  refine W.objInit hx hb hown (hts _ (mT wg_223)) (hts _ (mT wg_187)) (hts _ (mT wg_objInit)) rfl (by rw [hml]; exact hl.1) rfl dX2_init_1 (Nat.le_of_ble_eq_true rfl) (Nat.le_of_ble_eq_true rfl) ?_
  refine W.eq (g2 := F0 m 4 ls []) rfl ?_
  exact ret_v hx hb hr hlocks hP hD hS (Nat.le_of_ble_eq_true rfl) (Nat.le_of_ble_eq_true rfl) (⟨hfr0, hsb0⟩) dX2_init_4

set_option maxHeartbeats 4000000 in
set_option maxRecDepth 100000 in
theorem k_X8_init (l : Launch) (g : GG) (L : List Nat) (f : HP) (sz : Nat) (t : Nat) (hm_t : t ∈ L) (hf_t : f t = .inr (8, [.null, .int 0, .int 0, .int 0, .int 0])) : MtV l g yX8_init cX8_init 1 ({ frames := 1, cells := 1, slots := 520, locals := 12 }) [.ref t] L f sz (fun u => ∃ (tb : Nat), tb ∉ L ∧ tb ∈ u.1 ∧ u.2 tb = .inl (g.2.1 0, 520, .inl (fun _ => 0)) ∧ u.2 t = .inr (8, [.ref tb, .int 0, .int 0, .int 0, .int 0]) ∧ [tb].Nodup ∧ (∀ b, b ∈ L → b ≠ t → u.2 b = f b) ∧ (∀ b, b ∈ L → b ∈ u.1)) := by
  refine MtV.of (by decide +kernel) (Nat.le_of_ble_eq_true rfl) ?_
  intro p e s m below meth c A hEn hP hD hS ls hl
  obtain ⟨hx, hb, hr, hml, hown, hlocks, hts, hG, hA, hE, hnm⟩ := hEn
  have hown : s.vm.findClass "RulerWord$Tape" = some m.cls := hown
  have hl : lv_has ls 1 [(0, .ref t)] := hl
  have hfr0 : ∀ b, b ∈ L → b ≠ t → f b = f b := fun b hb z0 => rfl
  have hsb0 : ∀ b, b ∈ L → b ∈ L := fun b hb => hb
  refine lv_aload_n hx hb dX8_init_0 rfl (lv_at hl 0 rfl) ?_
  refine W.objInit hx hb hown (hts _ (mT wg_194)) (hts _ (mT wg_187)) (hts _ (mT wg_objInit)) rfl (by rw [hml]; exact hl.1) rfl dX8_init_1 (Nat.le_of_ble_eq_true rfl) (Nat.le_of_ble_eq_true rfl) ?_
  refine W.eq (g2 := F0 m 4 ls []) rfl ?_
  refine lv_aload_n hx hb dX8_init_4 rfl (lv_at hl 0 rfl) ?_
  refine lv_sipush (v := 520) hx hb dX8_init_5 (by decide) ?_
  refine pl_newa (atype := .int) (ty := .int) (N' := 520) (a0 := (520, .inl (fun _ => 0))) hx hb (hts _ (mT wg_217)) rfl hG.1 hP hD hS hA 0 rfl (fun _ h => h) (fun _ => rfl) (by decide) (by decide) (Nat.le_of_ble_eq_true rfl) (Nat.le_of_ble_eq_true rfl) (Nat.le_of_ble_eq_true rfl) dX8_init_8 (fun q1 H L2 f3 hq4 hs5 hm6 hf7 ho8 hP hD hS => ?_)
  have hN9 : [q1].Nodup := List.nodup_cons.mpr ⟨fun h => hq4 (nil_in _ h), List.nodup_nil⟩
  have hNs10 : ∀ b, b ∈ [q1] → b ∈ L2 := List.forall_mem_cons.mpr ⟨hm6, fun b hb => hs5 b (nil_in b hb)⟩
  have hfr11 : ∀ b, b ∈ L → b ≠ t → f3 b = f b := fun b hb z0 => (ho8 b (hsb0 b hb)).trans (hfr0 b hb z0)
  have hnq13 : q1 ∉ L := fun h => hq4 (hsb0 _ h)
  have hsb12 : ∀ b, b ∈ L → b ∈ _ := fun b hb => hs5 b (hsb0 b hb)
  have hf14 := (ho8 t hm_t).trans hf_t
  have hn16 : t ≠ q1 := fun e => hq4 (e ▸ hm_t)
  have hm15 := hs5 _ hm_t
  refine pl_putF (ty := (.array .int)) (v := .ref q1) (fs' := [.ref q1, .int 0, .int 0, .int 0, .int 0]) hx hb hts (fun w h => mT (inX8 w h)) tyX8 tyX8_ok nmX8 hown hG.1 hP hD hS hm15 hf14 rfl 0 (by decide) (hts _ (mT wg_195)) (fun _ h => h) rfl hnm rfl (by decide +kernel) (rfl) (rfl) (Nat.le_of_ble_eq_true rfl) rfl dX8_init_10 (fun H locs f17 hf19 ho18 hP hD hS => ?_)
  have hfr20 : ∀ b, b ∈ L → b ≠ t → f17 b = f b := fun b hb z0 => (ho18 b z0).trans (hfr11 b hb z0)
  have hf21 := (ho18 q1 hn16.symm).trans hf7
  exact ret_v hx hb hr hlocks hP hD hS (Nat.le_of_ble_eq_true rfl) (Nat.le_of_ble_eq_true rfl) (⟨q1, hnq13, hm6, hf21, hf19, hN9, hfr20, hsb12⟩) dX8_init_13

set_option maxHeartbeats 4000000 in
set_option maxRecDepth 100000 in
theorem k_X5_init (l : Launch) (g : GG) (L : List Nat) (f : HP) (sz : Nat) (pl : Nat) (hm_pl : pl ∈ L) (hf_pl : f pl = .inr (5, [.null, .int 0])) : MtV l g yX5_init cX5_init 1 ({ frames := 1, cells := 1, slots := 100, locals := 12 }) [.ref pl] L f sz (fun u => ∃ (pb : Nat), pb ∉ L ∧ pb ∈ u.1 ∧ u.2 pb = .inl (g.2.1 0, 100, .inl (fun _ => 0)) ∧ u.2 pl = .inr (5, [.ref pb, .int 0]) ∧ [pb].Nodup ∧ (∀ b, b ∈ L → b ≠ pl → u.2 b = f b) ∧ (∀ b, b ∈ L → b ∈ u.1)) := by
  refine MtV.of (by decide +kernel) (Nat.le_of_ble_eq_true rfl) ?_
  intro p e s m below meth c A hEn hP hD hS ls hl
  obtain ⟨hx, hb, hr, hml, hown, hlocks, hts, hG, hA, hE, hnm⟩ := hEn
  have hown : s.vm.findClass "RulerWord$Plan" = some m.cls := hown
  have hl : lv_has ls 1 [(0, .ref pl)] := hl
  have hfr0 : ∀ b, b ∈ L → b ≠ pl → f b = f b := fun b hb z0 => rfl
  have hsb0 : ∀ b, b ∈ L → b ∈ L := fun b hb => hb
  refine lv_aload_n hx hb dX5_init_0 rfl (lv_at hl 0 rfl) ?_
  refine W.objInit hx hb hown (hts _ (mT wg_268)) (hts _ (mT wg_187)) (hts _ (mT wg_objInit)) rfl (by rw [hml]; exact hl.1) rfl dX5_init_1 (Nat.le_of_ble_eq_true rfl) (Nat.le_of_ble_eq_true rfl) ?_
  refine W.eq (g2 := F0 m 4 ls []) rfl ?_
  refine lv_aload_n hx hb dX5_init_4 rfl (lv_at hl 0 rfl) ?_
  refine lv_bipush (v := 100) hx hb dX5_init_5 (by decide) ?_
  refine pl_newa (atype := .int) (ty := .int) (N' := 100) (a0 := (100, .inl (fun _ => 0))) hx hb (hts _ (mT wg_217)) rfl hG.1 hP hD hS hA 0 rfl (fun _ h => h) (fun _ => rfl) (by decide) (by decide) (Nat.le_of_ble_eq_true rfl) (Nat.le_of_ble_eq_true rfl) (Nat.le_of_ble_eq_true rfl) dX5_init_7 (fun q1 H L2 f3 hq4 hs5 hm6 hf7 ho8 hP hD hS => ?_)
  have hN9 : [q1].Nodup := List.nodup_cons.mpr ⟨fun h => hq4 (nil_in _ h), List.nodup_nil⟩
  have hNs10 : ∀ b, b ∈ [q1] → b ∈ L2 := List.forall_mem_cons.mpr ⟨hm6, fun b hb => hs5 b (nil_in b hb)⟩
  have hfr11 : ∀ b, b ∈ L → b ≠ pl → f3 b = f b := fun b hb z0 => (ho8 b (hsb0 b hb)).trans (hfr0 b hb z0)
  have hnq13 : q1 ∉ L := fun h => hq4 (hsb0 _ h)
  have hsb12 : ∀ b, b ∈ L → b ∈ _ := fun b hb => hs5 b (hsb0 b hb)
  have hf14 := (ho8 pl hm_pl).trans hf_pl
  have hn16 : pl ≠ q1 := fun e => hq4 (e ▸ hm_pl)
  have hm15 := hs5 _ hm_pl
  refine pl_putF (ty := (.array .int)) (v := .ref q1) (fs' := [.ref q1, .int 0]) hx hb hts (fun w h => mT (inX5 w h)) tyX5 tyX5_ok nmX5 hown hG.1 hP hD hS hm15 hf14 rfl 0 (by decide) (hts _ (mT wg_269)) (fun _ h => h) rfl hnm rfl (by decide +kernel) (rfl) (rfl) (Nat.le_of_ble_eq_true rfl) rfl dX5_init_9 (fun H locs f17 hf19 ho18 hP hD hS => ?_)
  have hfr20 : ∀ b, b ∈ L → b ≠ pl → f17 b = f b := fun b hb z0 => (ho18 b z0).trans (hfr11 b hb z0)
  have hf21 := (ho18 q1 hn16.symm).trans hf7
  exact ret_v hx hb hr hlocks hP hD hS (Nat.le_of_ble_eq_true rfl) (Nat.le_of_ble_eq_true rfl) (⟨q1, hnq13, hm6, hf21, hf19, hN9, hfr20, hsb12⟩) dX5_init_12

set_option maxHeartbeats 4000000 in
set_option maxRecDepth 100000 in
theorem k_X6_init (l : Launch) (g : GG) (L : List Nat) (f : HP) (sz : Nat) (pn : Nat) (hm_pn : pn ∈ L) (hf_pn : f pn = .inr (6, [.int 0, .int 0, .null])) : MtV l g yX6_init cX6_init 1 ({ frames := 2, cells := 2, slots := 102, locals := 32 }) [.ref pn] L f sz (fun u => ∃ (pb : Nat) (pl : Nat), pb ∉ L ∧ pb ∈ u.1 ∧ u.2 pb = .inl (g.2.1 0, 100, .inl (fun _ => 0)) ∧ pl ∉ L ∧ pl ∈ u.1 ∧ u.2 pl = .inr (5, [.ref pb, .int 0]) ∧ u.2 pn = .inr (6, [.int 0, .int 0, .ref pl]) ∧ [pb, pl].Nodup ∧ (∀ b, b ∈ L → b ≠ pn → u.2 b = f b) ∧ (∀ b, b ∈ L → b ∈ u.1)) := by
  refine MtV.of (by decide +kernel) (Nat.le_of_ble_eq_true rfl) ?_
  intro p e s m below meth c A hEn hP hD hS ls hl
  obtain ⟨hx, hb, hr, hml, hown, hlocks, hts, hG, hA, hE, hnm⟩ := hEn
  have hown : s.vm.findClass "RulerWord$Planned" = some m.cls := hown
  have hl : lv_has ls 1 [(0, .ref pn)] := hl
  have hfr0 : ∀ b, b ∈ L → b ≠ pn → f b = f b := fun b hb z0 => rfl
  have hsb0 : ∀ b, b ∈ L → b ∈ L := fun b hb => hb
  refine lv_aload_n hx hb dX6_init_0 rfl (lv_at hl 0 rfl) ?_
  refine call_v (run_IN (rm := { frames := 1, cells := 0, slots := 0, locals := 12 }) hx hb hml hown hts (k_X9_init l g _ _ _ pn) cI_X9_init wn_282 ⟨Nat.le_of_ble_eq_true rfl, Nat.le_of_ble_eq_true rfl⟩ hG hE hA hP hD hS rfl hl.1 (As := []) (rest := []) rfl (Nat.le_of_ble_eq_true rfl) dX6_init_1 ⟨Nat.le_of_ble_eq_true rfl, Nat.le_of_ble_eq_true rfl⟩) hA hD hS (fun L2 f3 H locs hp4 hP hD hS => ?_)
  obtain ⟨fr5, sb6⟩ := hp4
  have hfr7 : ∀ b, b ∈ L → b ≠ pn → f3 b = f b := fun b hb z0 => (fr5 b (hsb0 b hb) ).trans (hfr0 b hb z0)
  have hsb8 : ∀ b, b ∈ L → b ∈ L2 := fun b hb => sb6 b (hsb0 b hb)
  have hf10 := (fr5 pn hm_pn ).trans hf_pn
  have hm9 := sb6 _ hm_pn
  refine lv_aload_n hx hb dX6_init_4 rfl (lv_at hl 0 rfl) ?_
  refine pl_new (ci := 5) (fs := [.null, .int 0]) (C := RX5) (T := TX5) (N := 2) hx hb hts (fun w h => mT (inX5 w h)) tyX5 tyX5_ok hown (hts _ (mT wg_286)) (hts _ (mT wg_264)) (hts _ (mT wg_160)) hG.1 hP hD hS hA rfl dvX5 (Nat.le_of_ble_eq_true rfl) (Nat.le_of_ble_eq_true rfl) dX6_init_5 (fun q11 H L12 f13 hq14 hs15 hm16 hf17 ho18 hP hD hS => ?_)
  have hN19 : [q11].Nodup := List.nodup_cons.mpr ⟨fun h => hq14 (nil_in _ h), List.nodup_nil⟩
  have hNs20 : ∀ b, b ∈ [q11] → b ∈ L12 := List.forall_mem_cons.mpr ⟨hm16, fun b hb => hs15 b (nil_in b hb)⟩
  have hfr21 : ∀ b, b ∈ L → b ≠ pn → f13 b = f b := fun b hb z0 => (ho18 b (hsb8 b hb)).trans (hfr7 b hb z0)
  have hnq23 : q11 ∉ L := fun h => hq14 (hsb8 _ h)
  have hsb22 : ∀ b, b ∈ L → b ∈ _ := fun b hb => hs15 b (hsb8 b hb)
  have hf24 := (ho18 pn hm9).trans hf10
  have hn26 : pn ≠ q11 := fun e => hq14 (e ▸ hm9)
  have hm25 := hs15 _ hm9
  refine lv_dup hx hb dX6_init_8 rfl ?_
  refine call_v (run_IN (rm := { frames := 1, cells := 1, slots := 100, locals := 12 }) hx hb hml hown hts (k_X5_init l g _ _ _ q11 hm16 hf17) cI_X5_init wn_287 ⟨Nat.le_of_ble_eq_true rfl, Nat.le_of_ble_eq_true rfl⟩ hG hE hA hP hD hS rfl hl.1 (As := []) (rest := [.ref q11, .ref pn]) rfl (Nat.le_of_ble_eq_true rfl) dX6_init_9 ⟨Nat.le_of_ble_eq_true rfl, Nat.le_of_ble_eq_true rfl⟩) hA hD hS (fun L28 f29 H locs hp30 hP hD hS => ?_)
  obtain ⟨q31, hn32, hm33, hf34, hf35, er36, fr37, sb38⟩ := hp30
  have hN39 : [q31, q11].Nodup := nd_app (l := [q31]) (k := [q11]) er36 (List.forall_mem_cons.mpr ⟨hn32, (fun _ h => absurd h List.not_mem_nil)⟩) hN19 hNs20
  have hNs40 : ∀ b, b ∈ [q31, q11] → b ∈ L28 := fm_app (l := [q31]) (k := [q11]) (List.forall_mem_cons.mpr ⟨hm33, (fun _ h => absurd h List.not_mem_nil)⟩) (fun b hb => sb38 b (hNs20 b hb))
  have hfr41 : ∀ b, b ∈ L → b ≠ pn → f29 b = f b := fun b hb z0 => (fr37 b (hsb22 b hb) (fun e => hnq23 (e ▸ hb))).trans (hfr21 b hb z0)
  have hnq43 : q31 ∉ L := fun h => hn32 (hsb22 _ h)
  have hsb42 : ∀ b, b ∈ L → b ∈ L28 := fun b hb => sb38 b (hsb22 b hb)
  have hn45 : pn ≠ q31 := fun e => hn32 (e ▸ hm25)
  have hf46 := (fr37 pn hm25 hn26).trans hf24
  have hm44 := sb38 _ hm25
  have hn48 : q11 ≠ q31 := fun e => hn32 (e ▸ hm16)
  have hm47 := sb38 _ hm16
  refine pl_putF (ty := (.object "RulerWord$Plan")) (v := .ref q11) (fs' := [.int 0, .int 0, .ref q11]) hx hb hts (fun w h => mT (inX6 w h)) tyX6 tyX6_ok nmX6 hown hG.1 hP hD hS hm44 hf46 rfl 2 (by decide) (hts _ (mT wg_288)) (fun _ h => h) rfl hnm rfl (by decide +kernel) (rfl) (rfl) (Nat.le_of_ble_eq_true rfl) rfl dX6_init_12 (fun H locs f49 hf51 ho50 hP hD hS => ?_)
  have hfr52 : ∀ b, b ∈ L → b ≠ pn → f49 b = f b := fun b hb z0 => (ho50 b z0).trans (hfr41 b hb z0)
  have hf53 := (ho50 q11 hn26.symm).trans hf35
  have hf54 := (ho50 q31 hn45.symm).trans hf34
  exact ret_v hx hb hr hlocks hP hD hS (Nat.le_of_ble_eq_true rfl) (Nat.le_of_ble_eq_true rfl) (⟨q31, q11, hnq43, hm33, hf54, hnq23, hm47, hf53, hf51, hN39, hfr52, hsb42⟩) dX6_init_15

set_option maxHeartbeats 4000000 in
set_option maxRecDepth 100000 in
theorem k_X3_init (l : Launch) (g : GG) (L : List Nat) (f : HP) (sz : Nat) (nw : Nat) (hm_nw : nw ∈ L) (hf_nw : f nw = .inr (3, [.int 0, .int 0, .int 0, .int 0, .int 0, .int 0, .int 0, .long 0, .long 0, .null, .null, .null, .null, .null, .null, .null, .null, .null])) : MtV l g yX3_init cX3_init 1 ({ frames := 1, cells := 9, slots := 258, locals := 12 }) [.ref nw] L f sz (fun u => ∃ (n8 : Nat) (n7 : Nat) (n6 : Nat) (n5 : Nat) (n4 : Nat) (n3 : Nat) (n2 : Nat) (n1 : Nat) (n0 : Nat), n8 ∉ L ∧ n8 ∈ u.1 ∧ u.2 n8 = .inl (g.2.1 0, 6, .inl (fun _ => 0)) ∧ n7 ∉ L ∧ n7 ∈ u.1 ∧ u.2 n7 = .inl (g.2.1 0, 6, .inl (fun _ => 0)) ∧ n6 ∉ L ∧ n6 ∈ u.1 ∧ u.2 n6 = .inl (g.2.1 0, 6, .inl (fun _ => 0)) ∧ n5 ∉ L ∧ n5 ∈ u.1 ∧ u.2 n5 = .inl (g.2.1 0, 6, .inl (fun _ => 0)) ∧ n4 ∉ L ∧ n4 ∈ u.1 ∧ u.2 n4 = .inl (g.2.1 1, 6, .inr (.inl (fun _ => 0))) ∧ n3 ∉ L ∧ n3 ∈ u.1 ∧ u.2 n3 = .inl (g.2.1 1, 18, .inr (.inl (fun _ => 0))) ∧ n2 ∉ L ∧ n2 ∈ u.1 ∧ u.2 n2 = .inl (g.2.1 1, 18, .inr (.inl (fun _ => 0))) ∧ n1 ∉ L ∧ n1 ∈ u.1 ∧ u.2 n1 = .inl (g.2.1 1, 162, .inr (.inl (fun _ => 0))) ∧ n0 ∉ L ∧ n0 ∈ u.1 ∧ u.2 n0 = .inl (g.2.1 0, 30, .inl (fun _ => 0)) ∧ u.2 nw = .inr (3, [.int 0, .int 0, .int 0, .int 0, .int 0, .int 0, .int 0, .long 0, .long 0, .ref n0, .ref n1, .ref n2, .ref n3, .ref n4, .ref n5, .ref n6, .ref n7, .ref n8]) ∧ [n8, n7, n6, n5, n4, n3, n2, n1, n0].Nodup ∧ (∀ b, b ∈ L → b ≠ nw → u.2 b = f b) ∧ (∀ b, b ∈ L → b ∈ u.1)) := by
  refine MtV.of (by decide +kernel) (Nat.le_of_ble_eq_true rfl) ?_
  intro p e s m below meth c A hEn hP hD hS ls hl
  obtain ⟨hx, hb, hr, hml, hown, hlocks, hts, hG, hA, hE, hnm⟩ := hEn
  have hown : s.vm.findClass "RulerWord$Course" = some m.cls := hown
  have hl : lv_has ls 1 [(0, .ref nw)] := hl
  have hfr0 : ∀ b, b ∈ L → b ≠ nw → f b = f b := fun b hb z0 => rfl
  have hsb0 : ∀ b, b ∈ L → b ∈ L := fun b hb => hb
  refine lv_aload_n hx hb dX3_init_0 rfl (lv_at hl 0 rfl) ?_
  refine W.objInit hx hb hown (hts _ (mT wg_334)) (hts _ (mT wg_187)) (hts _ (mT wg_objInit)) rfl (by rw [hml]; exact hl.1) rfl dX3_init_1 (Nat.le_of_ble_eq_true rfl) (Nat.le_of_ble_eq_true rfl) ?_
  refine W.eq (g2 := F0 m 4 ls []) rfl ?_
  refine lv_aload_n hx hb dX3_init_4 rfl (lv_at hl 0 rfl) ?_
  refine lv_bipush (v := 30) hx hb dX3_init_5 (by decide) ?_
  refine pl_newa (atype := .int) (ty := .int) (N' := 30) (a0 := (30, .inl (fun _ => 0))) hx hb (hts _ (mT wg_217)) rfl hG.1 hP hD hS hA 0 rfl (fun _ h => h) (fun _ => rfl) (by decide) (by decide) (Nat.le_of_ble_eq_true rfl) (Nat.le_of_ble_eq_true rfl) (Nat.le_of_ble_eq_true rfl) dX3_init_7 (fun q1 H L2 f3 hq4 hs5 hm6 hf7 ho8 hP hD hS => ?_)
  have hN9 : [q1].Nodup := List.nodup_cons.mpr ⟨fun h => hq4 (nil_in _ h), List.nodup_nil⟩
  have hNs10 : ∀ b, b ∈ [q1] → b ∈ L2 := List.forall_mem_cons.mpr ⟨hm6, fun b hb => hs5 b (nil_in b hb)⟩
  have hfr11 : ∀ b, b ∈ L → b ≠ nw → f3 b = f b := fun b hb z0 => (ho8 b (hsb0 b hb)).trans (hfr0 b hb z0)
  have hnq13 : q1 ∉ L := fun h => hq4 (hsb0 _ h)
  have hsb12 : ∀ b, b ∈ L → b ∈ _ := fun b hb => hs5 b (hsb0 b hb)
  have hf14 := (ho8 nw hm_nw).trans hf_nw
  have hn16 : nw ≠ q1 := fun e => hq4 (e ▸ hm_nw)
  have hm15 := hs5 _ hm_nw
  refine pl_putF (ty := (.array .int)) (v := .ref q1) (fs' := [.int 0, .int 0, .int 0, .int 0, .int 0, .int 0, .int 0, .long 0, .long 0, .ref q1, .null, .null, .null, .null, .null, .null, .null, .null]) hx hb hts (fun w h => mT (inX3 w h)) tyX3 tyX3_ok nmX3 hown hG.1 hP hD hS hm15 hf14 rfl 9 (by decide) (hts _ (mT wg_352)) (fun _ h => h) rfl hnm rfl (by decide +kernel) (rfl) (rfl) (Nat.le_of_ble_eq_true rfl) rfl dX3_init_9 (fun H locs f17 hf19 ho18 hP hD hS => ?_)
  have hfr20 : ∀ b, b ∈ L → b ≠ nw → f17 b = f b := fun b hb z0 => (ho18 b z0).trans (hfr11 b hb z0)
  have hf21 := (ho18 q1 hn16.symm).trans hf7
  refine lv_aload_n hx hb dX3_init_12 rfl (lv_at hl 0 rfl) ?_
  refine lv_sipush (v := 162) hx hb dX3_init_13 (by decide) ?_
  refine pl_newa (atype := .long) (ty := .long) (N' := 162) (a0 := (162, .inr (.inl (fun _ => 0)))) hx hb (hts _ (mT wg_403)) rfl hG.1 hP hD hS hA 1 rfl (fun _ h => h) (fun _ => rfl) (by decide) (by decide) (Nat.le_of_ble_eq_true rfl) (Nat.le_of_ble_eq_true rfl) (Nat.le_of_ble_eq_true rfl) dX3_init_16 (fun q22 H L23 f24 hq25 hs26 hm27 hf28 ho29 hP hD hS => ?_)
  have hN30 : [q22, q1].Nodup := List.nodup_cons.mpr ⟨fun h => hq25 (hNs10 _ h), hN9⟩
  have hNs31 : ∀ b, b ∈ [q22, q1] → b ∈ L23 := List.forall_mem_cons.mpr ⟨hm27, fun b hb => hs26 b (hNs10 b hb)⟩
  have hfr32 : ∀ b, b ∈ L → b ≠ nw → f24 b = f b := fun b hb z0 => (ho29 b (hsb12 b hb)).trans (hfr20 b hb z0)
  have hnq34 : q22 ∉ L := fun h => hq25 (hsb12 _ h)
  have hsb33 : ∀ b, b ∈ L → b ∈ _ := fun b hb => hs26 b (hsb12 b hb)
  have hf35 := (ho29 nw hm15).trans hf19
  have hn37 : nw ≠ q22 := fun e => hq25 (e ▸ hm15)
  have hm36 := hs26 _ hm15
  have hf38 := (ho29 q1 hm6).trans hf21
  have hn40 : q1 ≠ q22 := fun e => hq25 (e ▸ hm6)
  have hm39 := hs26 _ hm6
  refine pl_putF (ty := (.array .long)) (v := .ref q22) (fs' := [.int 0, .int 0, .int 0, .int 0, .int 0, .int 0, .int 0, .long 0, .long 0, .ref q1, .ref q22, .null, .null, .null, .null, .null, .null, .null]) hx hb hts (fun w h => mT (inX3 w h)) tyX3 tyX3_ok nmX3 hown hG.1 hP hD hS hm36 hf35 rfl 10 (by decide) (hts _ (mT wg_353)) (fun _ h => h) rfl hnm rfl (by decide +kernel) (rfl) (rfl) (Nat.le_of_ble_eq_true rfl) rfl dX3_init_18 (fun H locs f41 hf43 ho42 hP hD hS => ?_)
  have hfr44 : ∀ b, b ∈ L → b ≠ nw → f41 b = f b := fun b hb z0 => (ho42 b z0).trans (hfr32 b hb z0)
  have hf45 := (ho42 q1 hn16.symm).trans hf38
  have hf46 := (ho42 q22 hn37.symm).trans hf28
  refine lv_aload_n hx hb dX3_init_21 rfl (lv_at hl 0 rfl) ?_
  refine lv_bipush (v := 18) hx hb dX3_init_22 (by decide) ?_
  refine pl_newa (atype := .long) (ty := .long) (N' := 18) (a0 := (18, .inr (.inl (fun _ => 0)))) hx hb (hts _ (mT wg_403)) rfl hG.1 hP hD hS hA 1 rfl (fun _ h => h) (fun _ => rfl) (by decide) (by decide) (Nat.le_of_ble_eq_true rfl) (Nat.le_of_ble_eq_true rfl) (Nat.le_of_ble_eq_true rfl) dX3_init_24 (fun q47 H L48 f49 hq50 hs51 hm52 hf53 ho54 hP hD hS => ?_)
  have hN55 : [q47, q22, q1].Nodup := List.nodup_cons.mpr ⟨fun h => hq50 (hNs31 _ h), hN30⟩
  have hNs56 : ∀ b, b ∈ [q47, q22, q1] → b ∈ L48 := List.forall_mem_cons.mpr ⟨hm52, fun b hb => hs51 b (hNs31 b hb)⟩
  have hfr57 : ∀ b, b ∈ L → b ≠ nw → f49 b = f b := fun b hb z0 => (ho54 b (hsb33 b hb)).trans (hfr44 b hb z0)
  have hnq59 : q47 ∉ L := fun h => hq50 (hsb33 _ h)
  have hsb58 : ∀ b, b ∈ L → b ∈ _ := fun b hb => hs51 b (hsb33 b hb)
  have hf60 := (ho54 nw hm36).trans hf43
  have hn62 : nw ≠ q47 := fun e => hq50 (e ▸ hm36)
  have hm61 := hs51 _ hm36
  have hf63 := (ho54 q1 hm39).trans hf45
  have hn65 : q1 ≠ q47 := fun e => hq50 (e ▸ hm39)
  have hm64 := hs51 _ hm39
  have hf66 := (ho54 q22 hm27).trans hf46
  have hn68 : q22 ≠ q47 := fun e => hq50 (e ▸ hm27)
  have hm67 := hs51 _ hm27
  refine pl_putF (ty := (.array .long)) (v := .ref q47) (fs' := [.int 0, .int 0, .int 0, .int 0, .int 0, .int 0, .int 0, .long 0, .long 0, .ref q1, .ref q22, .ref q47, .null, .null, .null, .null, .null, .null]) hx hb hts (fun w h => mT (inX3 w h)) tyX3 tyX3_ok nmX3 hown hG.1 hP hD hS hm61 hf60 rfl 11 (by decide) (hts _ (mT wg_354)) (fun _ h => h) rfl hnm rfl (by decide +kernel) (rfl) (rfl) (Nat.le_of_ble_eq_true rfl) rfl dX3_init_26 (fun H locs f69 hf71 ho70 hP hD hS => ?_)
  have hfr72 : ∀ b, b ∈ L → b ≠ nw → f69 b = f b := fun b hb z0 => (ho70 b z0).trans (hfr57 b hb z0)
  have hf73 := (ho70 q1 hn16.symm).trans hf63
  have hf74 := (ho70 q22 hn37.symm).trans hf66
  have hf75 := (ho70 q47 hn62.symm).trans hf53
  refine lv_aload_n hx hb dX3_init_29 rfl (lv_at hl 0 rfl) ?_
  refine lv_bipush (v := 18) hx hb dX3_init_30 (by decide) ?_
  refine pl_newa (atype := .long) (ty := .long) (N' := 18) (a0 := (18, .inr (.inl (fun _ => 0)))) hx hb (hts _ (mT wg_403)) rfl hG.1 hP hD hS hA 1 rfl (fun _ h => h) (fun _ => rfl) (by decide) (by decide) (Nat.le_of_ble_eq_true rfl) (Nat.le_of_ble_eq_true rfl) (Nat.le_of_ble_eq_true rfl) dX3_init_32 (fun q76 H L77 f78 hq79 hs80 hm81 hf82 ho83 hP hD hS => ?_)
  have hN84 : [q76, q47, q22, q1].Nodup := List.nodup_cons.mpr ⟨fun h => hq79 (hNs56 _ h), hN55⟩
  have hNs85 : ∀ b, b ∈ [q76, q47, q22, q1] → b ∈ L77 := List.forall_mem_cons.mpr ⟨hm81, fun b hb => hs80 b (hNs56 b hb)⟩
  have hfr86 : ∀ b, b ∈ L → b ≠ nw → f78 b = f b := fun b hb z0 => (ho83 b (hsb58 b hb)).trans (hfr72 b hb z0)
  have hnq88 : q76 ∉ L := fun h => hq79 (hsb58 _ h)
  have hsb87 : ∀ b, b ∈ L → b ∈ _ := fun b hb => hs80 b (hsb58 b hb)
  have hf89 := (ho83 nw hm61).trans hf71
  have hn91 : nw ≠ q76 := fun e => hq79 (e ▸ hm61)
  have hm90 := hs80 _ hm61
  have hf92 := (ho83 q1 hm64).trans hf73
  have hn94 : q1 ≠ q76 := fun e => hq79 (e ▸ hm64)
  have hm93 := hs80 _ hm64
  have hf95 := (ho83 q22 hm67).trans hf74
  have hn97 : q22 ≠ q76 := fun e => hq79 (e ▸ hm67)
  have hm96 := hs80 _ hm67
  have hf98 := (ho83 q47 hm52).trans hf75
  have hn100 : q47 ≠ q76 := fun e => hq79 (e ▸ hm52)
  have hm99 := hs80 _ hm52
  refine pl_putF (ty := (.array .long)) (v := .ref q76) (fs' := [.int 0, .int 0, .int 0, .int 0, .int 0, .int 0, .int 0, .long 0, .long 0, .ref q1, .ref q22, .ref q47, .ref q76, .null, .null, .null, .null, .null]) hx hb hts (fun w h => mT (inX3 w h)) tyX3 tyX3_ok nmX3 hown hG.1 hP hD hS hm90 hf89 rfl 12 (by decide) (hts _ (mT wg_355)) (fun _ h => h) rfl hnm rfl (by decide +kernel) (rfl) (rfl) (Nat.le_of_ble_eq_true rfl) rfl dX3_init_34 (fun H locs f101 hf103 ho102 hP hD hS => ?_)
  have hfr104 : ∀ b, b ∈ L → b ≠ nw → f101 b = f b := fun b hb z0 => (ho102 b z0).trans (hfr86 b hb z0)
  have hf105 := (ho102 q1 hn16.symm).trans hf92
  have hf106 := (ho102 q22 hn37.symm).trans hf95
  have hf107 := (ho102 q47 hn62.symm).trans hf98
  have hf108 := (ho102 q76 hn91.symm).trans hf82
  refine lv_aload_n hx hb dX3_init_37 rfl (lv_at hl 0 rfl) ?_
  refine lv_bipush (v := 6) hx hb dX3_init_38 (by decide) ?_
  refine pl_newa (atype := .long) (ty := .long) (N' := 6) (a0 := (6, .inr (.inl (fun _ => 0)))) hx hb (hts _ (mT wg_403)) rfl hG.1 hP hD hS hA 1 rfl (fun _ h => h) (fun _ => rfl) (by decide) (by decide) (Nat.le_of_ble_eq_true rfl) (Nat.le_of_ble_eq_true rfl) (Nat.le_of_ble_eq_true rfl) dX3_init_40 (fun q109 H L110 f111 hq112 hs113 hm114 hf115 ho116 hP hD hS => ?_)
  have hN117 : [q109, q76, q47, q22, q1].Nodup := List.nodup_cons.mpr ⟨fun h => hq112 (hNs85 _ h), hN84⟩
  have hNs118 : ∀ b, b ∈ [q109, q76, q47, q22, q1] → b ∈ L110 := List.forall_mem_cons.mpr ⟨hm114, fun b hb => hs113 b (hNs85 b hb)⟩
  have hfr119 : ∀ b, b ∈ L → b ≠ nw → f111 b = f b := fun b hb z0 => (ho116 b (hsb87 b hb)).trans (hfr104 b hb z0)
  have hnq121 : q109 ∉ L := fun h => hq112 (hsb87 _ h)
  have hsb120 : ∀ b, b ∈ L → b ∈ _ := fun b hb => hs113 b (hsb87 b hb)
  have hf122 := (ho116 nw hm90).trans hf103
  have hn124 : nw ≠ q109 := fun e => hq112 (e ▸ hm90)
  have hm123 := hs113 _ hm90
  have hf125 := (ho116 q1 hm93).trans hf105
  have hn127 : q1 ≠ q109 := fun e => hq112 (e ▸ hm93)
  have hm126 := hs113 _ hm93
  have hf128 := (ho116 q22 hm96).trans hf106
  have hn130 : q22 ≠ q109 := fun e => hq112 (e ▸ hm96)
  have hm129 := hs113 _ hm96
  have hf131 := (ho116 q47 hm99).trans hf107
  have hn133 : q47 ≠ q109 := fun e => hq112 (e ▸ hm99)
  have hm132 := hs113 _ hm99
  have hf134 := (ho116 q76 hm81).trans hf108
  have hn136 : q76 ≠ q109 := fun e => hq112 (e ▸ hm81)
  have hm135 := hs113 _ hm81
  refine pl_putF (ty := (.array .long)) (v := .ref q109) (fs' := [.int 0, .int 0, .int 0, .int 0, .int 0, .int 0, .int 0, .long 0, .long 0, .ref q1, .ref q22, .ref q47, .ref q76, .ref q109, .null, .null, .null, .null]) hx hb hts (fun w h => mT (inX3 w h)) tyX3 tyX3_ok nmX3 hown hG.1 hP hD hS hm123 hf122 rfl 13 (by decide) (hts _ (mT wg_356)) (fun _ h => h) rfl hnm rfl (by decide +kernel) (rfl) (rfl) (Nat.le_of_ble_eq_true rfl) rfl dX3_init_42 (fun H locs f137 hf139 ho138 hP hD hS => ?_)
  have hfr140 : ∀ b, b ∈ L → b ≠ nw → f137 b = f b := fun b hb z0 => (ho138 b z0).trans (hfr119 b hb z0)
  have hf141 := (ho138 q1 hn16.symm).trans hf125
  have hf142 := (ho138 q22 hn37.symm).trans hf128
  have hf143 := (ho138 q47 hn62.symm).trans hf131
  have hf144 := (ho138 q76 hn91.symm).trans hf134
  have hf145 := (ho138 q109 hn124.symm).trans hf115
  refine lv_aload_n hx hb dX3_init_45 rfl (lv_at hl 0 rfl) ?_
  refine lv_bipush (v := 6) hx hb dX3_init_46 (by decide) ?_
  refine pl_newa (atype := .int) (ty := .int) (N' := 6) (a0 := (6, .inl (fun _ => 0))) hx hb (hts _ (mT wg_217)) rfl hG.1 hP hD hS hA 0 rfl (fun _ h => h) (fun _ => rfl) (by decide) (by decide) (Nat.le_of_ble_eq_true rfl) (Nat.le_of_ble_eq_true rfl) (Nat.le_of_ble_eq_true rfl) dX3_init_48 (fun q146 H L147 f148 hq149 hs150 hm151 hf152 ho153 hP hD hS => ?_)
  have hN154 : [q146, q109, q76, q47, q22, q1].Nodup := List.nodup_cons.mpr ⟨fun h => hq149 (hNs118 _ h), hN117⟩
  have hNs155 : ∀ b, b ∈ [q146, q109, q76, q47, q22, q1] → b ∈ L147 := List.forall_mem_cons.mpr ⟨hm151, fun b hb => hs150 b (hNs118 b hb)⟩
  have hfr156 : ∀ b, b ∈ L → b ≠ nw → f148 b = f b := fun b hb z0 => (ho153 b (hsb120 b hb)).trans (hfr140 b hb z0)
  have hnq158 : q146 ∉ L := fun h => hq149 (hsb120 _ h)
  have hsb157 : ∀ b, b ∈ L → b ∈ _ := fun b hb => hs150 b (hsb120 b hb)
  have hf159 := (ho153 nw hm123).trans hf139
  have hn161 : nw ≠ q146 := fun e => hq149 (e ▸ hm123)
  have hm160 := hs150 _ hm123
  have hf162 := (ho153 q1 hm126).trans hf141
  have hn164 : q1 ≠ q146 := fun e => hq149 (e ▸ hm126)
  have hm163 := hs150 _ hm126
  have hf165 := (ho153 q22 hm129).trans hf142
  have hn167 : q22 ≠ q146 := fun e => hq149 (e ▸ hm129)
  have hm166 := hs150 _ hm129
  have hf168 := (ho153 q47 hm132).trans hf143
  have hn170 : q47 ≠ q146 := fun e => hq149 (e ▸ hm132)
  have hm169 := hs150 _ hm132
  have hf171 := (ho153 q76 hm135).trans hf144
  have hn173 : q76 ≠ q146 := fun e => hq149 (e ▸ hm135)
  have hm172 := hs150 _ hm135
  have hf174 := (ho153 q109 hm114).trans hf145
  have hn176 : q109 ≠ q146 := fun e => hq149 (e ▸ hm114)
  have hm175 := hs150 _ hm114
  refine pl_putF (ty := (.array .int)) (v := .ref q146) (fs' := [.int 0, .int 0, .int 0, .int 0, .int 0, .int 0, .int 0, .long 0, .long 0, .ref q1, .ref q22, .ref q47, .ref q76, .ref q109, .ref q146, .null, .null, .null]) hx hb hts (fun w h => mT (inX3 w h)) tyX3 tyX3_ok nmX3 hown hG.1 hP hD hS hm160 hf159 rfl 14 (by decide) (hts _ (mT wg_358)) (fun _ h => h) rfl hnm rfl (by decide +kernel) (rfl) (rfl) (Nat.le_of_ble_eq_true rfl) rfl dX3_init_50 (fun H locs f177 hf179 ho178 hP hD hS => ?_)
  have hfr180 : ∀ b, b ∈ L → b ≠ nw → f177 b = f b := fun b hb z0 => (ho178 b z0).trans (hfr156 b hb z0)
  have hf181 := (ho178 q1 hn16.symm).trans hf162
  have hf182 := (ho178 q22 hn37.symm).trans hf165
  have hf183 := (ho178 q47 hn62.symm).trans hf168
  have hf184 := (ho178 q76 hn91.symm).trans hf171
  have hf185 := (ho178 q109 hn124.symm).trans hf174
  have hf186 := (ho178 q146 hn161.symm).trans hf152
  refine lv_aload_n hx hb dX3_init_53 rfl (lv_at hl 0 rfl) ?_
  refine lv_bipush (v := 6) hx hb dX3_init_54 (by decide) ?_
  refine pl_newa (atype := .int) (ty := .int) (N' := 6) (a0 := (6, .inl (fun _ => 0))) hx hb (hts _ (mT wg_217)) rfl hG.1 hP hD hS hA 0 rfl (fun _ h => h) (fun _ => rfl) (by decide) (by decide) (Nat.le_of_ble_eq_true rfl) (Nat.le_of_ble_eq_true rfl) (Nat.le_of_ble_eq_true rfl) dX3_init_56 (fun q187 H L188 f189 hq190 hs191 hm192 hf193 ho194 hP hD hS => ?_)
  have hN195 : [q187, q146, q109, q76, q47, q22, q1].Nodup := List.nodup_cons.mpr ⟨fun h => hq190 (hNs155 _ h), hN154⟩
  have hNs196 : ∀ b, b ∈ [q187, q146, q109, q76, q47, q22, q1] → b ∈ L188 := List.forall_mem_cons.mpr ⟨hm192, fun b hb => hs191 b (hNs155 b hb)⟩
  have hfr197 : ∀ b, b ∈ L → b ≠ nw → f189 b = f b := fun b hb z0 => (ho194 b (hsb157 b hb)).trans (hfr180 b hb z0)
  have hnq199 : q187 ∉ L := fun h => hq190 (hsb157 _ h)
  have hsb198 : ∀ b, b ∈ L → b ∈ _ := fun b hb => hs191 b (hsb157 b hb)
  have hf200 := (ho194 nw hm160).trans hf179
  have hn202 : nw ≠ q187 := fun e => hq190 (e ▸ hm160)
  have hm201 := hs191 _ hm160
  have hf203 := (ho194 q1 hm163).trans hf181
  have hn205 : q1 ≠ q187 := fun e => hq190 (e ▸ hm163)
  have hm204 := hs191 _ hm163
  have hf206 := (ho194 q22 hm166).trans hf182
  have hn208 : q22 ≠ q187 := fun e => hq190 (e ▸ hm166)
  have hm207 := hs191 _ hm166
  have hf209 := (ho194 q47 hm169).trans hf183
  have hn211 : q47 ≠ q187 := fun e => hq190 (e ▸ hm169)
  have hm210 := hs191 _ hm169
  have hf212 := (ho194 q76 hm172).trans hf184
  have hn214 : q76 ≠ q187 := fun e => hq190 (e ▸ hm172)
  have hm213 := hs191 _ hm172
  have hf215 := (ho194 q109 hm175).trans hf185
  have hn217 : q109 ≠ q187 := fun e => hq190 (e ▸ hm175)
  have hm216 := hs191 _ hm175
  have hf218 := (ho194 q146 hm151).trans hf186
  have hn220 : q146 ≠ q187 := fun e => hq190 (e ▸ hm151)
  have hm219 := hs191 _ hm151
  refine pl_putF (ty := (.array .int)) (v := .ref q187) (fs' := [.int 0, .int 0, .int 0, .int 0, .int 0, .int 0, .int 0, .long 0, .long 0, .ref q1, .ref q22, .ref q47, .ref q76, .ref q109, .ref q146, .ref q187, .null, .null]) hx hb hts (fun w h => mT (inX3 w h)) tyX3 tyX3_ok nmX3 hown hG.1 hP hD hS hm201 hf200 rfl 15 (by decide) (hts _ (mT wg_360)) (fun _ h => h) rfl hnm rfl (by decide +kernel) (rfl) (rfl) (Nat.le_of_ble_eq_true rfl) rfl dX3_init_58 (fun H locs f221 hf223 ho222 hP hD hS => ?_)
  have hfr224 : ∀ b, b ∈ L → b ≠ nw → f221 b = f b := fun b hb z0 => (ho222 b z0).trans (hfr197 b hb z0)
  have hf225 := (ho222 q1 hn16.symm).trans hf203
  have hf226 := (ho222 q22 hn37.symm).trans hf206
  have hf227 := (ho222 q47 hn62.symm).trans hf209
  have hf228 := (ho222 q76 hn91.symm).trans hf212
  have hf229 := (ho222 q109 hn124.symm).trans hf215
  have hf230 := (ho222 q146 hn161.symm).trans hf218
  have hf231 := (ho222 q187 hn202.symm).trans hf193
  refine lv_aload_n hx hb dX3_init_61 rfl (lv_at hl 0 rfl) ?_
  refine lv_bipush (v := 6) hx hb dX3_init_62 (by decide) ?_
  refine pl_newa (atype := .int) (ty := .int) (N' := 6) (a0 := (6, .inl (fun _ => 0))) hx hb (hts _ (mT wg_217)) rfl hG.1 hP hD hS hA 0 rfl (fun _ h => h) (fun _ => rfl) (by decide) (by decide) (Nat.le_of_ble_eq_true rfl) (Nat.le_of_ble_eq_true rfl) (Nat.le_of_ble_eq_true rfl) dX3_init_64 (fun q232 H L233 f234 hq235 hs236 hm237 hf238 ho239 hP hD hS => ?_)
  have hN240 : [q232, q187, q146, q109, q76, q47, q22, q1].Nodup := List.nodup_cons.mpr ⟨fun h => hq235 (hNs196 _ h), hN195⟩
  have hNs241 : ∀ b, b ∈ [q232, q187, q146, q109, q76, q47, q22, q1] → b ∈ L233 := List.forall_mem_cons.mpr ⟨hm237, fun b hb => hs236 b (hNs196 b hb)⟩
  have hfr242 : ∀ b, b ∈ L → b ≠ nw → f234 b = f b := fun b hb z0 => (ho239 b (hsb198 b hb)).trans (hfr224 b hb z0)
  have hnq244 : q232 ∉ L := fun h => hq235 (hsb198 _ h)
  have hsb243 : ∀ b, b ∈ L → b ∈ _ := fun b hb => hs236 b (hsb198 b hb)
  have hf245 := (ho239 nw hm201).trans hf223
  have hn247 : nw ≠ q232 := fun e => hq235 (e ▸ hm201)
  have hm246 := hs236 _ hm201
  have hf248 := (ho239 q1 hm204).trans hf225
  have hn250 : q1 ≠ q232 := fun e => hq235 (e ▸ hm204)
  have hm249 := hs236 _ hm204
  have hf251 := (ho239 q22 hm207).trans hf226
  have hn253 : q22 ≠ q232 := fun e => hq235 (e ▸ hm207)
  have hm252 := hs236 _ hm207
  have hf254 := (ho239 q47 hm210).trans hf227
  have hn256 : q47 ≠ q232 := fun e => hq235 (e ▸ hm210)
  have hm255 := hs236 _ hm210
  have hf257 := (ho239 q76 hm213).trans hf228
  have hn259 : q76 ≠ q232 := fun e => hq235 (e ▸ hm213)
  have hm258 := hs236 _ hm213
  have hf260 := (ho239 q109 hm216).trans hf229
  have hn262 : q109 ≠ q232 := fun e => hq235 (e ▸ hm216)
  have hm261 := hs236 _ hm216
  have hf263 := (ho239 q146 hm219).trans hf230
  have hn265 : q146 ≠ q232 := fun e => hq235 (e ▸ hm219)
  have hm264 := hs236 _ hm219
  have hf266 := (ho239 q187 hm192).trans hf231
  have hn268 : q187 ≠ q232 := fun e => hq235 (e ▸ hm192)
  have hm267 := hs236 _ hm192
  refine pl_putF (ty := (.array .int)) (v := .ref q232) (fs' := [.int 0, .int 0, .int 0, .int 0, .int 0, .int 0, .int 0, .long 0, .long 0, .ref q1, .ref q22, .ref q47, .ref q76, .ref q109, .ref q146, .ref q187, .ref q232, .null]) hx hb hts (fun w h => mT (inX3 w h)) tyX3 tyX3_ok nmX3 hown hG.1 hP hD hS hm246 hf245 rfl 16 (by decide) (hts _ (mT wg_362)) (fun _ h => h) rfl hnm rfl (by decide +kernel) (rfl) (rfl) (Nat.le_of_ble_eq_true rfl) rfl dX3_init_66 (fun H locs f269 hf271 ho270 hP hD hS => ?_)
  have hfr272 : ∀ b, b ∈ L → b ≠ nw → f269 b = f b := fun b hb z0 => (ho270 b z0).trans (hfr242 b hb z0)
  have hf273 := (ho270 q1 hn16.symm).trans hf248
  have hf274 := (ho270 q22 hn37.symm).trans hf251
  have hf275 := (ho270 q47 hn62.symm).trans hf254
  have hf276 := (ho270 q76 hn91.symm).trans hf257
  have hf277 := (ho270 q109 hn124.symm).trans hf260
  have hf278 := (ho270 q146 hn161.symm).trans hf263
  have hf279 := (ho270 q187 hn202.symm).trans hf266
  have hf280 := (ho270 q232 hn247.symm).trans hf238
  refine lv_aload_n hx hb dX3_init_69 rfl (lv_at hl 0 rfl) ?_
  refine lv_bipush (v := 6) hx hb dX3_init_70 (by decide) ?_
  refine pl_newa (atype := .int) (ty := .int) (N' := 6) (a0 := (6, .inl (fun _ => 0))) hx hb (hts _ (mT wg_217)) rfl hG.1 hP hD hS hA 0 rfl (fun _ h => h) (fun _ => rfl) (by decide) (by decide) (Nat.le_of_ble_eq_true rfl) (Nat.le_of_ble_eq_true rfl) (Nat.le_of_ble_eq_true rfl) dX3_init_72 (fun q281 H L282 f283 hq284 hs285 hm286 hf287 ho288 hP hD hS => ?_)
  have hN289 : [q281, q232, q187, q146, q109, q76, q47, q22, q1].Nodup := List.nodup_cons.mpr ⟨fun h => hq284 (hNs241 _ h), hN240⟩
  have hNs290 : ∀ b, b ∈ [q281, q232, q187, q146, q109, q76, q47, q22, q1] → b ∈ L282 := List.forall_mem_cons.mpr ⟨hm286, fun b hb => hs285 b (hNs241 b hb)⟩
  have hfr291 : ∀ b, b ∈ L → b ≠ nw → f283 b = f b := fun b hb z0 => (ho288 b (hsb243 b hb)).trans (hfr272 b hb z0)
  have hnq293 : q281 ∉ L := fun h => hq284 (hsb243 _ h)
  have hsb292 : ∀ b, b ∈ L → b ∈ _ := fun b hb => hs285 b (hsb243 b hb)
  have hf294 := (ho288 nw hm246).trans hf271
  have hn296 : nw ≠ q281 := fun e => hq284 (e ▸ hm246)
  have hm295 := hs285 _ hm246
  have hf297 := (ho288 q1 hm249).trans hf273
  have hn299 : q1 ≠ q281 := fun e => hq284 (e ▸ hm249)
  have hm298 := hs285 _ hm249
  have hf300 := (ho288 q22 hm252).trans hf274
  have hn302 : q22 ≠ q281 := fun e => hq284 (e ▸ hm252)
  have hm301 := hs285 _ hm252
  have hf303 := (ho288 q47 hm255).trans hf275
  have hn305 : q47 ≠ q281 := fun e => hq284 (e ▸ hm255)
  have hm304 := hs285 _ hm255
  have hf306 := (ho288 q76 hm258).trans hf276
  have hn308 : q76 ≠ q281 := fun e => hq284 (e ▸ hm258)
  have hm307 := hs285 _ hm258
  have hf309 := (ho288 q109 hm261).trans hf277
  have hn311 : q109 ≠ q281 := fun e => hq284 (e ▸ hm261)
  have hm310 := hs285 _ hm261
  have hf312 := (ho288 q146 hm264).trans hf278
  have hn314 : q146 ≠ q281 := fun e => hq284 (e ▸ hm264)
  have hm313 := hs285 _ hm264
  have hf315 := (ho288 q187 hm267).trans hf279
  have hn317 : q187 ≠ q281 := fun e => hq284 (e ▸ hm267)
  have hm316 := hs285 _ hm267
  have hf318 := (ho288 q232 hm237).trans hf280
  have hn320 : q232 ≠ q281 := fun e => hq284 (e ▸ hm237)
  have hm319 := hs285 _ hm237
  refine pl_putF (ty := (.array .int)) (v := .ref q281) (fs' := [.int 0, .int 0, .int 0, .int 0, .int 0, .int 0, .int 0, .long 0, .long 0, .ref q1, .ref q22, .ref q47, .ref q76, .ref q109, .ref q146, .ref q187, .ref q232, .ref q281]) hx hb hts (fun w h => mT (inX3 w h)) tyX3 tyX3_ok nmX3 hown hG.1 hP hD hS hm295 hf294 rfl 17 (by decide) (hts _ (mT wg_364)) (fun _ h => h) rfl hnm rfl (by decide +kernel) (rfl) (rfl) (Nat.le_of_ble_eq_true rfl) rfl dX3_init_74 (fun H locs f321 hf323 ho322 hP hD hS => ?_)
  have hfr324 : ∀ b, b ∈ L → b ≠ nw → f321 b = f b := fun b hb z0 => (ho322 b z0).trans (hfr291 b hb z0)
  have hf325 := (ho322 q1 hn16.symm).trans hf297
  have hf326 := (ho322 q22 hn37.symm).trans hf300
  have hf327 := (ho322 q47 hn62.symm).trans hf303
  have hf328 := (ho322 q76 hn91.symm).trans hf306
  have hf329 := (ho322 q109 hn124.symm).trans hf309
  have hf330 := (ho322 q146 hn161.symm).trans hf312
  have hf331 := (ho322 q187 hn202.symm).trans hf315
  have hf332 := (ho322 q232 hn247.symm).trans hf318
  have hf333 := (ho322 q281 hn296.symm).trans hf287
  exact ret_v hx hb hr hlocks hP hD hS (Nat.le_of_ble_eq_true rfl) (Nat.le_of_ble_eq_true rfl) (⟨q281, q232, q187, q146, q109, q76, q47, q22, q1, hnq293, hm286, hf333, hnq244, hm319, hf332, hnq199, hm316, hf331, hnq158, hm313, hf330, hnq121, hm310, hf329, hnq88, hm307, hf328, hnq59, hm304, hf327, hnq34, hm301, hf326, hnq13, hm298, hf325, hf323, hN289, hfr324, hsb292⟩) dX3_init_77

set_option maxHeartbeats 4000000 in
set_option maxRecDepth 100000 in
theorem k_X0_init (l : Launch) (g : GG) (L : List Nat) (f : HP) (sz : Nat) (ac : Nat) (hm_ac : ac ∈ L) (hf_ac : f ac = .inr (0, [.null, .int 0, .int 0])) : MtV l g yX0_init cX0_init 2 ({ frames := 2, cells := 201, slots := 5540, locals := 32 }) [.ref ac] L f sz (fun u => ∃ (ah : Nat) (rr : Nat → Option Nat) (aa : Nat → Nat → Nat), ah ∉ L ∧ ah ∈ u.1 ∧ u.2 ah = .inl (g.2.1 4, 20, .inr (.inr (.inr (.inr rr)))) ∧ u.2 ac = .inr (0, [.ref ah, .int 0, .int 0]) ∧ ([ah].Nodup ∧ RINGP g L u.1 u.2 20 aa ∧ (∀ j, j < 20 → ∀ k, k < 10 → aa j k ≠ ah) ∧ ∀ j, j < 20 → rr j = some (aa j 0)) ∧ (∀ b, b ∈ L → b ≠ ac → u.2 b = f b) ∧ (∀ b, b ∈ L → b ∈ u.1)) := by
  refine MtV.of (by decide +kernel) (Nat.le_of_ble_eq_true rfl) ?_
  intro p e s m below meth c A hEn hP hD hS ls hl
  obtain ⟨hx, hb, hr, hml, hown, hlocks, hts, hG, hA, hE, hnm⟩ := hEn
  have hown : s.vm.findClass "RulerWord$Acts" = some m.cls := hown
  have hl : lv_has ls 2 [(0, .ref ac)] := hl
  have hfr0 : ∀ b, b ∈ L → b ≠ ac → f b = f b := fun b hb z0 => rfl
  have hsb0 : ∀ b, b ∈ L → b ∈ L := fun b hb => hb
  refine lv_aload_n hx hb dX0_init_0 rfl (lv_at hl 0 rfl) ?_
  refine W.objInit hx hb hown (hts _ (mT wg_409)) (hts _ (mT wg_187)) (hts _ (mT wg_objInit)) rfl (by rw [hml]; exact hl.1) rfl dX0_init_1 (Nat.le_of_ble_eq_true rfl) (Nat.le_of_ble_eq_true rfl) ?_
  refine W.eq (g2 := F0 m 4 ls []) rfl ?_
  refine lv_aload_n hx hb dX0_init_4 rfl (lv_at hl 0 rfl) ?_
  refine lv_bipush (v := 20) hx hb dX0_init_5 (by decide) ?_
  refine pl_newq (N' := 20) hx hb hown (hts _ (mT wg_410)) hG.2.2.2 hG.1 hP hD hS hA 4 rfl (by decide) (by decide) (Nat.le_of_ble_eq_true rfl) (Nat.le_of_ble_eq_true rfl) (Nat.le_of_ble_eq_true rfl) dX0_init_7 (fun q1 H L2 f3 hq4 hs5 hm6 hf7 ho8 hP hD hS => ?_)
  have hN9 : [q1].Nodup := List.nodup_cons.mpr ⟨fun h => hq4 (nil_in _ h), List.nodup_nil⟩
  have hNs10 : ∀ b, b ∈ [q1] → b ∈ L2 := List.forall_mem_cons.mpr ⟨hm6, fun b hb => hs5 b (nil_in b hb)⟩
  have hfr11 : ∀ b, b ∈ L → b ≠ ac → f3 b = f b := fun b hb z0 => (ho8 b (hsb0 b hb)).trans (hfr0 b hb z0)
  have hnq13 : q1 ∉ L := fun h => hq4 (hsb0 _ h)
  have hsb12 : ∀ b, b ∈ L → b ∈ _ := fun b hb => hs5 b (hsb0 b hb)
  have hf14 := (ho8 ac hm_ac).trans hf_ac
  have hn16 : ac ≠ q1 := fun e => hq4 (e ▸ hm_ac)
  have hm15 := hs5 _ hm_ac
  refine pl_putF (ty := (.array (.object "RulerWord$Course"))) (v := .ref q1) (fs' := [.ref q1, .int 0, .int 0]) hx hb hts (fun w h => mT (inX0 w h)) tyX0 tyX0_ok nmX0 hown hG.1 hP hD hS hm15 hf14 rfl 0 (by decide) (hts _ (mT wg_413)) (fun _ h => h) rfl hnm rfl (by decide +kernel) (rfl) (rfl) (Nat.le_of_ble_eq_true rfl) rfl dX0_init_10 (fun H locs f17 hf19 ho18 hP hD hS => ?_)
  have hfr20 : ∀ b, b ∈ L → b ≠ ac → f17 b = f b := fun b hb z0 => (ho18 b z0).trans (hfr11 b hb z0)
  have hf21 := (ho18 q1 hn16.symm).trans hf7
  refine lv_iconst (v := 0) hx hb dX0_init_13 (by decide) ?_
  refine lv_istore_n (lv' := [(1, .int 0), (0, .ref ac)]) hx hb dX0_init_14 rfl hl (by decide) rfl (fun ls hl => ?_)
  have hR0 : RINGP g L2 L2 f17 0 (fun _ _ => 0) := RINGP.z
  have hrr0 : ∀ j, j < 0 → (fun _ => none : Nat → Option Nat) j = some ((fun _ _ => 0 : Nat → Nat → Nat) j 0) := fun j h => absurd h (Nat.not_lt_zero j)
  refine lv_iload_n hx hb dX0_init_15 rfl (lv_at hl 0 rfl) ?_
  refine lv_bipush (v := 20) hx hb dX0_init_16 (by decide) ?_
  refine lv_icmp_ge (tgt := 40) hx hb dX0_init_18 (by decide) (fun c22 => absurd c22 (by decide)) (fun c22 => ?_)
  refine lv_aload_n hx hb dX0_init_21 rfl (lv_at hl 1 rfl) ?_
  refine pl_get (v := .ref q1) hx hb hts (fun w h => mT (inX0 w h)) hown hG.1 hP hm15 hf19 rfl 0 (by decide) (hts _ (mT wg_413)) (fun _ h => h) rfl dX0_init_22 ?_
  refine lv_iload_n hx hb dX0_init_25 rfl (lv_at hl 0 rfl) ?_
  refine pl_new (ci := 3) (fs := [.int 0, .int 0, .int 0, .int 0, .int 0, .int 0, .int 0, .long 0, .long 0, .null, .null, .null, .null, .null, .null, .null, .null, .null]) (C := RX3) (T := TX3) (N := 18) hx hb hts (fun w h => mT (inX3 w h)) tyX3 tyX3_ok hown (hts _ (mT wg_410)) (hts _ (mT wg_330)) (hts _ (mT wg_165)) hG.1 hP hD hS hA rfl dvX3 (Nat.le_of_ble_eq_true rfl) (Nat.le_of_ble_eq_true rfl) dX0_init_26 (fun q23 H L24 f25 hq26 hs27 hm28 hf29 ho30 hP hD hS => ?_)
  have hni31 : q23 ∉ L2 := fun h => hq26 ((fun _ h => h) _ h)
  have hs032 : ∀ b, b ∈ L2 → b ∈ L24 := fun b hb => hs27 b ((fun _ h => h) b hb)
  have hN33 : [q23].Nodup := List.nodup_cons.mpr ⟨fun h => hq26 (nil_in _ h), List.nodup_nil⟩
  have hNs34 : ∀ b, b ∈ [q23] → b ∈ L24 := List.forall_mem_cons.mpr ⟨hm28, fun b hb => hs27 b (nil_in b hb)⟩
  have hRq35 : ∀ j, j < 0 → ∀ k, k < 10 → (fun _ _ => 0 : Nat → Nat → Nat) j k ≠ q23 := fun j hj k hk e => hq26 (e ▸ (hR0.1 j hj k hk).1)
  have hR36 : RINGP g L2 L24 f25 0 (fun _ _ => 0 : Nat → Nat → Nat) := RINGP.tr hR0 hRq35 hs27 (fun b hb _ => ho30 b hb)
  have hfr37 : ∀ b, b ∈ L → b ≠ ac → f25 b = f b := fun b hb z0 => (ho30 b (hsb12 b hb)).trans (hfr20 b hb z0)
  have hnq39 : q23 ∉ L := fun h => hq26 (hsb12 _ h)
  have hsb38 : ∀ b, b ∈ L → b ∈ _ := fun b hb => hs27 b (hsb12 b hb)
  have hf40 := (ho30 ac hm15).trans hf19
  have hn42 : ac ≠ q23 := fun e => hq26 (e ▸ hm15)
  have hm41 := hs27 _ hm15
  have hf43 := (ho30 q1 hm6).trans hf21
  have hn45 : q1 ≠ q23 := fun e => hq26 (e ▸ hm6)
  have hm44 := hs27 _ hm6
  refine lv_dup hx hb dX0_init_29 rfl ?_
  refine call_v (run_IN (rm := { frames := 1, cells := 9, slots := 258, locals := 12 }) hx hb hml hown hts (k_X3_init l g _ _ _ q23 hm28 hf29) cI_X3_init wn_412 ⟨Nat.le_of_ble_eq_true rfl, Nat.le_of_ble_eq_true rfl⟩ hG hE hA hP hD hS rfl hl.1 (As := []) (rest := [.ref q23, .int 0, .ref q1]) rfl (Nat.le_of_ble_eq_true rfl) dX0_init_30 ⟨Nat.le_of_ble_eq_true rfl, Nat.le_of_ble_eq_true rfl⟩) hA hD hS (fun L47 f48 H locs hp49 hP hD hS => ?_)
  obtain ⟨q50, q51, q52, q53, q54, q55, q56, q57, q58, hn59, hm60, hf61, hn62, hm63, hf64, hn65, hm66, hf67, hn68, hm69, hf70, hn71, hm72, hf73, hn74, hm75, hf76, hn77, hm78, hf79, hn80, hm81, hf82, hn83, hm84, hf85, hf86, er87, fr88, sb89⟩ := hp49
  have hN90 : [q50, q51, q52, q53, q54, q55, q56, q57, q58, q23].Nodup := nd_app (l := [q50, q51, q52, q53, q54, q55, q56, q57, q58]) (k := [q23]) er87 (List.forall_mem_cons.mpr ⟨hn59, (List.forall_mem_cons.mpr ⟨hn62, (List.forall_mem_cons.mpr ⟨hn65, (List.forall_mem_cons.mpr ⟨hn68, (List.forall_mem_cons.mpr ⟨hn71, (List.forall_mem_cons.mpr ⟨hn74, (List.forall_mem_cons.mpr ⟨hn77, (List.forall_mem_cons.mpr ⟨hn80, (List.forall_mem_cons.mpr ⟨hn83, (fun _ h => absurd h List.not_mem_nil)⟩)⟩)⟩)⟩)⟩)⟩)⟩)⟩)⟩) hN33 hNs34
  have hNs91 : ∀ b, b ∈ [q50, q51, q52, q53, q54, q55, q56, q57, q58, q23] → b ∈ L47 := fm_app (l := [q50, q51, q52, q53, q54, q55, q56, q57, q58]) (k := [q23]) (List.forall_mem_cons.mpr ⟨hm60, (List.forall_mem_cons.mpr ⟨hm63, (List.forall_mem_cons.mpr ⟨hm66, (List.forall_mem_cons.mpr ⟨hm69, (List.forall_mem_cons.mpr ⟨hm72, (List.forall_mem_cons.mpr ⟨hm75, (List.forall_mem_cons.mpr ⟨hm78, (List.forall_mem_cons.mpr ⟨hm81, (List.forall_mem_cons.mpr ⟨hm84, (fun _ h => absurd h List.not_mem_nil)⟩)⟩)⟩)⟩)⟩)⟩)⟩)⟩)⟩) (fun b hb => sb89 b (hNs34 b hb))
  have hRq92 : ∀ j, j < 0 → ∀ k, k < 10 → (fun _ _ => 0 : Nat → Nat → Nat) j k ≠ q50 := fun j hj k hk e => hn59 (e ▸ (hR36.1 j hj k hk).1)
  have hRq93 : ∀ j, j < 0 → ∀ k, k < 10 → (fun _ _ => 0 : Nat → Nat → Nat) j k ≠ q51 := fun j hj k hk e => hn62 (e ▸ (hR36.1 j hj k hk).1)
  have hRq94 : ∀ j, j < 0 → ∀ k, k < 10 → (fun _ _ => 0 : Nat → Nat → Nat) j k ≠ q52 := fun j hj k hk e => hn65 (e ▸ (hR36.1 j hj k hk).1)
  have hRq95 : ∀ j, j < 0 → ∀ k, k < 10 → (fun _ _ => 0 : Nat → Nat → Nat) j k ≠ q53 := fun j hj k hk e => hn68 (e ▸ (hR36.1 j hj k hk).1)
  have hRq96 : ∀ j, j < 0 → ∀ k, k < 10 → (fun _ _ => 0 : Nat → Nat → Nat) j k ≠ q54 := fun j hj k hk e => hn71 (e ▸ (hR36.1 j hj k hk).1)
  have hRq97 : ∀ j, j < 0 → ∀ k, k < 10 → (fun _ _ => 0 : Nat → Nat → Nat) j k ≠ q55 := fun j hj k hk e => hn74 (e ▸ (hR36.1 j hj k hk).1)
  have hRq98 : ∀ j, j < 0 → ∀ k, k < 10 → (fun _ _ => 0 : Nat → Nat → Nat) j k ≠ q56 := fun j hj k hk e => hn77 (e ▸ (hR36.1 j hj k hk).1)
  have hRq99 : ∀ j, j < 0 → ∀ k, k < 10 → (fun _ _ => 0 : Nat → Nat → Nat) j k ≠ q57 := fun j hj k hk e => hn80 (e ▸ (hR36.1 j hj k hk).1)
  have hRq100 : ∀ j, j < 0 → ∀ k, k < 10 → (fun _ _ => 0 : Nat → Nat → Nat) j k ≠ q58 := fun j hj k hk e => hn83 (e ▸ (hR36.1 j hj k hk).1)
  have hR101 : RINGP g L2 L47 f48 0 (fun _ _ => 0 : Nat → Nat → Nat) := RINGP.tr hR36 hRq35 sb89 (fun b hb hn => fr88 b hb hn)
  have hfr102 : ∀ b, b ∈ L → b ≠ ac → f48 b = f b := fun b hb z0 => (fr88 b (hsb38 b hb) (fun e => hnq39 (e ▸ hb))).trans (hfr37 b hb z0)
  have hnq104 : q50 ∉ L := fun h => hn59 (hsb38 _ h)
  have hnq105 : q51 ∉ L := fun h => hn62 (hsb38 _ h)
  have hnq106 : q52 ∉ L := fun h => hn65 (hsb38 _ h)
  have hnq107 : q53 ∉ L := fun h => hn68 (hsb38 _ h)
  have hnq108 : q54 ∉ L := fun h => hn71 (hsb38 _ h)
  have hnq109 : q55 ∉ L := fun h => hn74 (hsb38 _ h)
  have hnq110 : q56 ∉ L := fun h => hn77 (hsb38 _ h)
  have hnq111 : q57 ∉ L := fun h => hn80 (hsb38 _ h)
  have hnq112 : q58 ∉ L := fun h => hn83 (hsb38 _ h)
  have hsb103 : ∀ b, b ∈ L → b ∈ L47 := fun b hb => sb89 b (hsb38 b hb)
  have hn114 : ac ≠ q50 := fun e => hn59 (e ▸ hm41)
  have hn115 : ac ≠ q51 := fun e => hn62 (e ▸ hm41)
  have hn116 : ac ≠ q52 := fun e => hn65 (e ▸ hm41)
  have hn117 : ac ≠ q53 := fun e => hn68 (e ▸ hm41)
  have hn118 : ac ≠ q54 := fun e => hn71 (e ▸ hm41)
  have hn119 : ac ≠ q55 := fun e => hn74 (e ▸ hm41)
  have hn120 : ac ≠ q56 := fun e => hn77 (e ▸ hm41)
  have hn121 : ac ≠ q57 := fun e => hn80 (e ▸ hm41)
  have hn122 : ac ≠ q58 := fun e => hn83 (e ▸ hm41)
  have hf123 := (fr88 ac hm41 hn42).trans hf40
  have hm113 := sb89 _ hm41
  have hn125 : q1 ≠ q50 := fun e => hn59 (e ▸ hm44)
  have hn126 : q1 ≠ q51 := fun e => hn62 (e ▸ hm44)
  have hn127 : q1 ≠ q52 := fun e => hn65 (e ▸ hm44)
  have hn128 : q1 ≠ q53 := fun e => hn68 (e ▸ hm44)
  have hn129 : q1 ≠ q54 := fun e => hn71 (e ▸ hm44)
  have hn130 : q1 ≠ q55 := fun e => hn74 (e ▸ hm44)
  have hn131 : q1 ≠ q56 := fun e => hn77 (e ▸ hm44)
  have hn132 : q1 ≠ q57 := fun e => hn80 (e ▸ hm44)
  have hn133 : q1 ≠ q58 := fun e => hn83 (e ▸ hm44)
  have hf134 := (fr88 q1 hm44 hn45).trans hf43
  have hm124 := sb89 _ hm44
  have hn136 : q23 ≠ q50 := fun e => hn59 (e ▸ hm28)
  have hn137 : q23 ≠ q51 := fun e => hn62 (e ▸ hm28)
  have hn138 : q23 ≠ q52 := fun e => hn65 (e ▸ hm28)
  have hn139 : q23 ≠ q53 := fun e => hn68 (e ▸ hm28)
  have hn140 : q23 ≠ q54 := fun e => hn71 (e ▸ hm28)
  have hn141 : q23 ≠ q55 := fun e => hn74 (e ▸ hm28)
  have hn142 : q23 ≠ q56 := fun e => hn77 (e ▸ hm28)
  have hn143 : q23 ≠ q57 := fun e => hn80 (e ▸ hm28)
  have hn144 : q23 ≠ q58 := fun e => hn83 (e ▸ hm28)
  have hm135 := sb89 _ hm28
  have hni145 : q50 ∉ L2 := fun h => hn59 (hs032 _ h)
  have hni146 : q51 ∉ L2 := fun h => hn62 (hs032 _ h)
  have hni147 : q52 ∉ L2 := fun h => hn65 (hs032 _ h)
  have hni148 : q53 ∉ L2 := fun h => hn68 (hs032 _ h)
  have hni149 : q54 ∉ L2 := fun h => hn71 (hs032 _ h)
  have hni150 : q55 ∉ L2 := fun h => hn74 (hs032 _ h)
  have hni151 : q56 ∉ L2 := fun h => hn77 (hs032 _ h)
  have hni152 : q57 ∉ L2 := fun h => hn80 (hs032 _ h)
  have hni153 : q58 ∉ L2 := fun h => hn83 (hs032 _ h)
  have hs0154 : ∀ b, b ∈ L2 → b ∈ L47 := fun b hb => sb89 b (hs032 b hb)
  refine pl_astq hx hb hG.1 hP hD hS hm124 4 3 hf134 rfl hm135 hf86 rfl (by unfold vp_in; decide) dX0_init_33 (fun H locs f155 r158 er158 hf157 ho156 hP hD hS => ?_)
  have hR159 : RINGP g L2 L47 f155 0 (fun _ _ => 0 : Nat → Nat → Nat) := RINGP.tr hR101 (fun j hj k hk e => (hR101.1 j hj k hk).2 (e ▸ hm6)) (fun b hb => hb) (fun b _ hb => ho156 b hb)
  have hfr160 : ∀ b, b ∈ L → b ≠ ac → f155 b = f b := fun b hb z0 => (ho156 b (fun e => hnq13 (e ▸ hb))).trans (hfr102 b hb z0)
  have hf161 := (ho156 ac hn16).trans hf123
  have hf162 := (ho156 q23 hn45.symm).trans hf86
  have hf163 := (ho156 q50 hn125.symm).trans hf61
  have hf164 := (ho156 q51 hn126.symm).trans hf64
  have hf165 := (ho156 q52 hn127.symm).trans hf67
  have hf166 := (ho156 q53 hn128.symm).trans hf70
  have hf167 := (ho156 q54 hn129.symm).trans hf73
  have hf168 := (ho156 q55 hn130.symm).trans hf76
  have hf169 := (ho156 q56 hn131.symm).trans hf79
  have hf170 := (ho156 q57 hn132.symm).trans hf82
  have hf171 := (ho156 q58 hn133.symm).trans hf85
  obtain ⟨aa172, ea173, eb174, hR175⟩ := RINGP.add (l := [q50, q51, q52, q53, q54, q55, q56, q57, q58, q23]) hR159 rfl hN90 (List.forall_mem_cons.mpr ⟨⟨hm60, hni145⟩, (List.forall_mem_cons.mpr ⟨⟨hm63, hni146⟩, (List.forall_mem_cons.mpr ⟨⟨hm66, hni147⟩, (List.forall_mem_cons.mpr ⟨⟨hm69, hni148⟩, (List.forall_mem_cons.mpr ⟨⟨hm72, hni149⟩, (List.forall_mem_cons.mpr ⟨⟨hm75, hni150⟩, (List.forall_mem_cons.mpr ⟨⟨hm78, hni151⟩, (List.forall_mem_cons.mpr ⟨⟨hm81, hni152⟩, (List.forall_mem_cons.mpr ⟨⟨hm84, hni153⟩, (List.forall_mem_cons.mpr ⟨⟨hm135, hni31⟩, (fun _ h => absurd h List.not_mem_nil)⟩)⟩)⟩)⟩)⟩)⟩)⟩)⟩)⟩)⟩) (List.forall_mem_cons.mpr ⟨hRq92, (List.forall_mem_cons.mpr ⟨hRq93, (List.forall_mem_cons.mpr ⟨hRq94, (List.forall_mem_cons.mpr ⟨hRq95, (List.forall_mem_cons.mpr ⟨hRq96, (List.forall_mem_cons.mpr ⟨hRq97, (List.forall_mem_cons.mpr ⟨hRq98, (List.forall_mem_cons.mpr ⟨hRq99, (List.forall_mem_cons.mpr ⟨hRq100, (List.forall_mem_cons.mpr ⟨hRq35, (fun _ h => absurd h List.not_mem_nil)⟩)⟩)⟩)⟩)⟩)⟩)⟩)⟩)⟩)⟩) (fun k hk => match k, hk with | 0, _ => hf162 | 1, _ => hf171 | 2, _ => hf170 | 3, _ => hf169 | 4, _ => hf168 | 5, _ => hf167 | 6, _ => hf166 | 7, _ => hf165 | 8, _ => hf164 | 9, _ => hf163 | k + 10, h => absurd h (by omega))
  have hrr176 : ∀ j, j < 1 → r158 j = some (aa172 j 0) := rr_step hrr0 er158 (by decide) ea173 (eb174.symm ▸ rfl)
  refine lv_iinc (v := 1) (lv' := [(1, .int 1), (0, .ref ac)]) hx hb dX0_init_34 hl (k := 0) rfl (by decide) (by decide) rfl (fun ls hl => ?_)
  refine lv_goto (tgt := 15) hx hb dX0_init_37 (by decide) ?_
  refine lv_iload_n hx hb dX0_init_15 rfl (lv_at hl 0 rfl) ?_
  refine lv_bipush (v := 20) hx hb dX0_init_16 (by decide) ?_
  refine lv_icmp_ge (tgt := 40) hx hb dX0_init_18 (by decide) (fun c177 => absurd c177 (by decide)) (fun c177 => ?_)
  refine lv_aload_n hx hb dX0_init_21 rfl (lv_at hl 1 rfl) ?_
  refine pl_get (v := .ref q1) hx hb hts (fun w h => mT (inX0 w h)) hown hG.1 hP hm113 hf161 rfl 0 (by decide) (hts _ (mT wg_413)) (fun _ h => h) rfl dX0_init_22 ?_
  refine lv_iload_n hx hb dX0_init_25 rfl (lv_at hl 0 rfl) ?_
  refine pl_new (ci := 3) (fs := [.int 0, .int 0, .int 0, .int 0, .int 0, .int 0, .int 0, .long 0, .long 0, .null, .null, .null, .null, .null, .null, .null, .null, .null]) (C := RX3) (T := TX3) (N := 18) hx hb hts (fun w h => mT (inX3 w h)) tyX3 tyX3_ok hown (hts _ (mT wg_410)) (hts _ (mT wg_330)) (hts _ (mT wg_165)) hG.1 hP hD hS hA rfl dvX3 (Nat.le_of_ble_eq_true rfl) (Nat.le_of_ble_eq_true rfl) dX0_init_26 (fun q178 H L179 f180 hq181 hs182 hm183 hf184 ho185 hP hD hS => ?_)
  have hni186 : q178 ∉ L2 := fun h => hq181 (hs0154 _ h)
  have hs0187 : ∀ b, b ∈ L2 → b ∈ L179 := fun b hb => hs182 b (hs0154 b hb)
  have hN188 : [q178].Nodup := List.nodup_cons.mpr ⟨fun h => hq181 (nil_in _ h), List.nodup_nil⟩
  have hNs189 : ∀ b, b ∈ [q178] → b ∈ L179 := List.forall_mem_cons.mpr ⟨hm183, fun b hb => hs182 b (nil_in b hb)⟩
  have hRq190 : ∀ j, j < 1 → ∀ k, k < 10 → aa172 j k ≠ q178 := fun j hj k hk e => hq181 (e ▸ (hR175.1 j hj k hk).1)
  have hR191 : RINGP g L2 L179 f180 1 aa172 := RINGP.tr hR175 hRq190 hs182 (fun b hb _ => ho185 b hb)
  have hfr192 : ∀ b, b ∈ L → b ≠ ac → f180 b = f b := fun b hb z0 => (ho185 b (hsb103 b hb)).trans (hfr160 b hb z0)
  have hnq194 : q178 ∉ L := fun h => hq181 (hsb103 _ h)
  have hsb193 : ∀ b, b ∈ L → b ∈ _ := fun b hb => hs182 b (hsb103 b hb)
  have hf195 := (ho185 ac hm113).trans hf161
  have hn197 : ac ≠ q178 := fun e => hq181 (e ▸ hm113)
  have hm196 := hs182 _ hm113
  have hf198 := (ho185 q1 hm124).trans hf157
  have hn200 : q1 ≠ q178 := fun e => hq181 (e ▸ hm124)
  have hm199 := hs182 _ hm124
  refine lv_dup hx hb dX0_init_29 rfl ?_
  refine call_v (run_IN (rm := { frames := 1, cells := 9, slots := 258, locals := 12 }) hx hb hml hown hts (k_X3_init l g _ _ _ q178 hm183 hf184) cI_X3_init wn_412 ⟨Nat.le_of_ble_eq_true rfl, Nat.le_of_ble_eq_true rfl⟩ hG hE hA hP hD hS rfl hl.1 (As := []) (rest := [.ref q178, .int 1, .ref q1]) rfl (Nat.le_of_ble_eq_true rfl) dX0_init_30 ⟨Nat.le_of_ble_eq_true rfl, Nat.le_of_ble_eq_true rfl⟩) hA hD hS (fun L202 f203 H locs hp204 hP hD hS => ?_)
  obtain ⟨q205, q206, q207, q208, q209, q210, q211, q212, q213, hn214, hm215, hf216, hn217, hm218, hf219, hn220, hm221, hf222, hn223, hm224, hf225, hn226, hm227, hf228, hn229, hm230, hf231, hn232, hm233, hf234, hn235, hm236, hf237, hn238, hm239, hf240, hf241, er242, fr243, sb244⟩ := hp204
  have hN245 : [q205, q206, q207, q208, q209, q210, q211, q212, q213, q178].Nodup := nd_app (l := [q205, q206, q207, q208, q209, q210, q211, q212, q213]) (k := [q178]) er242 (List.forall_mem_cons.mpr ⟨hn214, (List.forall_mem_cons.mpr ⟨hn217, (List.forall_mem_cons.mpr ⟨hn220, (List.forall_mem_cons.mpr ⟨hn223, (List.forall_mem_cons.mpr ⟨hn226, (List.forall_mem_cons.mpr ⟨hn229, (List.forall_mem_cons.mpr ⟨hn232, (List.forall_mem_cons.mpr ⟨hn235, (List.forall_mem_cons.mpr ⟨hn238, (fun _ h => absurd h List.not_mem_nil)⟩)⟩)⟩)⟩)⟩)⟩)⟩)⟩)⟩) hN188 hNs189
  have hNs246 : ∀ b, b ∈ [q205, q206, q207, q208, q209, q210, q211, q212, q213, q178] → b ∈ L202 := fm_app (l := [q205, q206, q207, q208, q209, q210, q211, q212, q213]) (k := [q178]) (List.forall_mem_cons.mpr ⟨hm215, (List.forall_mem_cons.mpr ⟨hm218, (List.forall_mem_cons.mpr ⟨hm221, (List.forall_mem_cons.mpr ⟨hm224, (List.forall_mem_cons.mpr ⟨hm227, (List.forall_mem_cons.mpr ⟨hm230, (List.forall_mem_cons.mpr ⟨hm233, (List.forall_mem_cons.mpr ⟨hm236, (List.forall_mem_cons.mpr ⟨hm239, (fun _ h => absurd h List.not_mem_nil)⟩)⟩)⟩)⟩)⟩)⟩)⟩)⟩)⟩) (fun b hb => sb244 b (hNs189 b hb))
  have hRq247 : ∀ j, j < 1 → ∀ k, k < 10 → aa172 j k ≠ q205 := fun j hj k hk e => hn214 (e ▸ (hR191.1 j hj k hk).1)
  have hRq248 : ∀ j, j < 1 → ∀ k, k < 10 → aa172 j k ≠ q206 := fun j hj k hk e => hn217 (e ▸ (hR191.1 j hj k hk).1)
  have hRq249 : ∀ j, j < 1 → ∀ k, k < 10 → aa172 j k ≠ q207 := fun j hj k hk e => hn220 (e ▸ (hR191.1 j hj k hk).1)
  have hRq250 : ∀ j, j < 1 → ∀ k, k < 10 → aa172 j k ≠ q208 := fun j hj k hk e => hn223 (e ▸ (hR191.1 j hj k hk).1)
  have hRq251 : ∀ j, j < 1 → ∀ k, k < 10 → aa172 j k ≠ q209 := fun j hj k hk e => hn226 (e ▸ (hR191.1 j hj k hk).1)
  have hRq252 : ∀ j, j < 1 → ∀ k, k < 10 → aa172 j k ≠ q210 := fun j hj k hk e => hn229 (e ▸ (hR191.1 j hj k hk).1)
  have hRq253 : ∀ j, j < 1 → ∀ k, k < 10 → aa172 j k ≠ q211 := fun j hj k hk e => hn232 (e ▸ (hR191.1 j hj k hk).1)
  have hRq254 : ∀ j, j < 1 → ∀ k, k < 10 → aa172 j k ≠ q212 := fun j hj k hk e => hn235 (e ▸ (hR191.1 j hj k hk).1)
  have hRq255 : ∀ j, j < 1 → ∀ k, k < 10 → aa172 j k ≠ q213 := fun j hj k hk e => hn238 (e ▸ (hR191.1 j hj k hk).1)
  have hR256 : RINGP g L2 L202 f203 1 aa172 := RINGP.tr hR191 hRq190 sb244 (fun b hb hn => fr243 b hb hn)
  have hfr257 : ∀ b, b ∈ L → b ≠ ac → f203 b = f b := fun b hb z0 => (fr243 b (hsb193 b hb) (fun e => hnq194 (e ▸ hb))).trans (hfr192 b hb z0)
  have hnq259 : q205 ∉ L := fun h => hn214 (hsb193 _ h)
  have hnq260 : q206 ∉ L := fun h => hn217 (hsb193 _ h)
  have hnq261 : q207 ∉ L := fun h => hn220 (hsb193 _ h)
  have hnq262 : q208 ∉ L := fun h => hn223 (hsb193 _ h)
  have hnq263 : q209 ∉ L := fun h => hn226 (hsb193 _ h)
  have hnq264 : q210 ∉ L := fun h => hn229 (hsb193 _ h)
  have hnq265 : q211 ∉ L := fun h => hn232 (hsb193 _ h)
  have hnq266 : q212 ∉ L := fun h => hn235 (hsb193 _ h)
  have hnq267 : q213 ∉ L := fun h => hn238 (hsb193 _ h)
  have hsb258 : ∀ b, b ∈ L → b ∈ L202 := fun b hb => sb244 b (hsb193 b hb)
  have hn269 : ac ≠ q205 := fun e => hn214 (e ▸ hm196)
  have hn270 : ac ≠ q206 := fun e => hn217 (e ▸ hm196)
  have hn271 : ac ≠ q207 := fun e => hn220 (e ▸ hm196)
  have hn272 : ac ≠ q208 := fun e => hn223 (e ▸ hm196)
  have hn273 : ac ≠ q209 := fun e => hn226 (e ▸ hm196)
  have hn274 : ac ≠ q210 := fun e => hn229 (e ▸ hm196)
  have hn275 : ac ≠ q211 := fun e => hn232 (e ▸ hm196)
  have hn276 : ac ≠ q212 := fun e => hn235 (e ▸ hm196)
  have hn277 : ac ≠ q213 := fun e => hn238 (e ▸ hm196)
  have hf278 := (fr243 ac hm196 hn197).trans hf195
  have hm268 := sb244 _ hm196
  have hn280 : q1 ≠ q205 := fun e => hn214 (e ▸ hm199)
  have hn281 : q1 ≠ q206 := fun e => hn217 (e ▸ hm199)
  have hn282 : q1 ≠ q207 := fun e => hn220 (e ▸ hm199)
  have hn283 : q1 ≠ q208 := fun e => hn223 (e ▸ hm199)
  have hn284 : q1 ≠ q209 := fun e => hn226 (e ▸ hm199)
  have hn285 : q1 ≠ q210 := fun e => hn229 (e ▸ hm199)
  have hn286 : q1 ≠ q211 := fun e => hn232 (e ▸ hm199)
  have hn287 : q1 ≠ q212 := fun e => hn235 (e ▸ hm199)
  have hn288 : q1 ≠ q213 := fun e => hn238 (e ▸ hm199)
  have hf289 := (fr243 q1 hm199 hn200).trans hf198
  have hm279 := sb244 _ hm199
  have hn291 : q178 ≠ q205 := fun e => hn214 (e ▸ hm183)
  have hn292 : q178 ≠ q206 := fun e => hn217 (e ▸ hm183)
  have hn293 : q178 ≠ q207 := fun e => hn220 (e ▸ hm183)
  have hn294 : q178 ≠ q208 := fun e => hn223 (e ▸ hm183)
  have hn295 : q178 ≠ q209 := fun e => hn226 (e ▸ hm183)
  have hn296 : q178 ≠ q210 := fun e => hn229 (e ▸ hm183)
  have hn297 : q178 ≠ q211 := fun e => hn232 (e ▸ hm183)
  have hn298 : q178 ≠ q212 := fun e => hn235 (e ▸ hm183)
  have hn299 : q178 ≠ q213 := fun e => hn238 (e ▸ hm183)
  have hm290 := sb244 _ hm183
  have hni300 : q205 ∉ L2 := fun h => hn214 (hs0187 _ h)
  have hni301 : q206 ∉ L2 := fun h => hn217 (hs0187 _ h)
  have hni302 : q207 ∉ L2 := fun h => hn220 (hs0187 _ h)
  have hni303 : q208 ∉ L2 := fun h => hn223 (hs0187 _ h)
  have hni304 : q209 ∉ L2 := fun h => hn226 (hs0187 _ h)
  have hni305 : q210 ∉ L2 := fun h => hn229 (hs0187 _ h)
  have hni306 : q211 ∉ L2 := fun h => hn232 (hs0187 _ h)
  have hni307 : q212 ∉ L2 := fun h => hn235 (hs0187 _ h)
  have hni308 : q213 ∉ L2 := fun h => hn238 (hs0187 _ h)
  have hs0309 : ∀ b, b ∈ L2 → b ∈ L202 := fun b hb => sb244 b (hs0187 b hb)
  refine pl_astq hx hb hG.1 hP hD hS hm279 4 3 hf289 rfl hm290 hf241 rfl (by unfold vp_in; decide) dX0_init_33 (fun H locs f310 r313 er313 hf312 ho311 hP hD hS => ?_)
  have hR314 : RINGP g L2 L202 f310 1 aa172 := RINGP.tr hR256 (fun j hj k hk e => (hR256.1 j hj k hk).2 (e ▸ hm6)) (fun b hb => hb) (fun b _ hb => ho311 b hb)
  have hfr315 : ∀ b, b ∈ L → b ≠ ac → f310 b = f b := fun b hb z0 => (ho311 b (fun e => hnq13 (e ▸ hb))).trans (hfr257 b hb z0)
  have hf316 := (ho311 ac hn16).trans hf278
  have hf317 := (ho311 q178 hn200.symm).trans hf241
  have hf318 := (ho311 q205 hn280.symm).trans hf216
  have hf319 := (ho311 q206 hn281.symm).trans hf219
  have hf320 := (ho311 q207 hn282.symm).trans hf222
  have hf321 := (ho311 q208 hn283.symm).trans hf225
  have hf322 := (ho311 q209 hn284.symm).trans hf228
  have hf323 := (ho311 q210 hn285.symm).trans hf231
  have hf324 := (ho311 q211 hn286.symm).trans hf234
  have hf325 := (ho311 q212 hn287.symm).trans hf237
  have hf326 := (ho311 q213 hn288.symm).trans hf240
  obtain ⟨aa327, ea328, eb329, hR330⟩ := RINGP.add (l := [q205, q206, q207, q208, q209, q210, q211, q212, q213, q178]) hR314 rfl hN245 (List.forall_mem_cons.mpr ⟨⟨hm215, hni300⟩, (List.forall_mem_cons.mpr ⟨⟨hm218, hni301⟩, (List.forall_mem_cons.mpr ⟨⟨hm221, hni302⟩, (List.forall_mem_cons.mpr ⟨⟨hm224, hni303⟩, (List.forall_mem_cons.mpr ⟨⟨hm227, hni304⟩, (List.forall_mem_cons.mpr ⟨⟨hm230, hni305⟩, (List.forall_mem_cons.mpr ⟨⟨hm233, hni306⟩, (List.forall_mem_cons.mpr ⟨⟨hm236, hni307⟩, (List.forall_mem_cons.mpr ⟨⟨hm239, hni308⟩, (List.forall_mem_cons.mpr ⟨⟨hm290, hni186⟩, (fun _ h => absurd h List.not_mem_nil)⟩)⟩)⟩)⟩)⟩)⟩)⟩)⟩)⟩)⟩) (List.forall_mem_cons.mpr ⟨hRq247, (List.forall_mem_cons.mpr ⟨hRq248, (List.forall_mem_cons.mpr ⟨hRq249, (List.forall_mem_cons.mpr ⟨hRq250, (List.forall_mem_cons.mpr ⟨hRq251, (List.forall_mem_cons.mpr ⟨hRq252, (List.forall_mem_cons.mpr ⟨hRq253, (List.forall_mem_cons.mpr ⟨hRq254, (List.forall_mem_cons.mpr ⟨hRq255, (List.forall_mem_cons.mpr ⟨hRq190, (fun _ h => absurd h List.not_mem_nil)⟩)⟩)⟩)⟩)⟩)⟩)⟩)⟩)⟩)⟩) (fun k hk => match k, hk with | 0, _ => hf317 | 1, _ => hf326 | 2, _ => hf325 | 3, _ => hf324 | 4, _ => hf323 | 5, _ => hf322 | 6, _ => hf321 | 7, _ => hf320 | 8, _ => hf319 | 9, _ => hf318 | k + 10, h => absurd h (by omega))
  have hrr331 : ∀ j, j < 2 → r313 j = some (aa327 j 0) := rr_step hrr176 er313 (by decide) ea328 (eb329.symm ▸ rfl)
  refine lv_iinc (v := 2) (lv' := [(1, .int 2), (0, .ref ac)]) hx hb dX0_init_34 hl (k := 0) rfl (by decide) (by decide) rfl (fun ls hl => ?_)
  refine lv_goto (tgt := 15) hx hb dX0_init_37 (by decide) ?_
  refine lv_iload_n hx hb dX0_init_15 rfl (lv_at hl 0 rfl) ?_
  refine lv_bipush (v := 20) hx hb dX0_init_16 (by decide) ?_
  refine lv_icmp_ge (tgt := 40) hx hb dX0_init_18 (by decide) (fun c332 => absurd c332 (by decide)) (fun c332 => ?_)
  refine lv_aload_n hx hb dX0_init_21 rfl (lv_at hl 1 rfl) ?_
  refine pl_get (v := .ref q1) hx hb hts (fun w h => mT (inX0 w h)) hown hG.1 hP hm268 hf316 rfl 0 (by decide) (hts _ (mT wg_413)) (fun _ h => h) rfl dX0_init_22 ?_
  refine lv_iload_n hx hb dX0_init_25 rfl (lv_at hl 0 rfl) ?_
  refine pl_new (ci := 3) (fs := [.int 0, .int 0, .int 0, .int 0, .int 0, .int 0, .int 0, .long 0, .long 0, .null, .null, .null, .null, .null, .null, .null, .null, .null]) (C := RX3) (T := TX3) (N := 18) hx hb hts (fun w h => mT (inX3 w h)) tyX3 tyX3_ok hown (hts _ (mT wg_410)) (hts _ (mT wg_330)) (hts _ (mT wg_165)) hG.1 hP hD hS hA rfl dvX3 (Nat.le_of_ble_eq_true rfl) (Nat.le_of_ble_eq_true rfl) dX0_init_26 (fun q333 H L334 f335 hq336 hs337 hm338 hf339 ho340 hP hD hS => ?_)
  have hni341 : q333 ∉ L2 := fun h => hq336 (hs0309 _ h)
  have hs0342 : ∀ b, b ∈ L2 → b ∈ L334 := fun b hb => hs337 b (hs0309 b hb)
  have hN343 : [q333].Nodup := List.nodup_cons.mpr ⟨fun h => hq336 (nil_in _ h), List.nodup_nil⟩
  have hNs344 : ∀ b, b ∈ [q333] → b ∈ L334 := List.forall_mem_cons.mpr ⟨hm338, fun b hb => hs337 b (nil_in b hb)⟩
  have hRq345 : ∀ j, j < 2 → ∀ k, k < 10 → aa327 j k ≠ q333 := fun j hj k hk e => hq336 (e ▸ (hR330.1 j hj k hk).1)
  have hR346 : RINGP g L2 L334 f335 2 aa327 := RINGP.tr hR330 hRq345 hs337 (fun b hb _ => ho340 b hb)
  have hfr347 : ∀ b, b ∈ L → b ≠ ac → f335 b = f b := fun b hb z0 => (ho340 b (hsb258 b hb)).trans (hfr315 b hb z0)
  have hnq349 : q333 ∉ L := fun h => hq336 (hsb258 _ h)
  have hsb348 : ∀ b, b ∈ L → b ∈ _ := fun b hb => hs337 b (hsb258 b hb)
  have hf350 := (ho340 ac hm268).trans hf316
  have hn352 : ac ≠ q333 := fun e => hq336 (e ▸ hm268)
  have hm351 := hs337 _ hm268
  have hf353 := (ho340 q1 hm279).trans hf312
  have hn355 : q1 ≠ q333 := fun e => hq336 (e ▸ hm279)
  have hm354 := hs337 _ hm279
  refine lv_dup hx hb dX0_init_29 rfl ?_
  refine call_v (run_IN (rm := { frames := 1, cells := 9, slots := 258, locals := 12 }) hx hb hml hown hts (k_X3_init l g _ _ _ q333 hm338 hf339) cI_X3_init wn_412 ⟨Nat.le_of_ble_eq_true rfl, Nat.le_of_ble_eq_true rfl⟩ hG hE hA hP hD hS rfl hl.1 (As := []) (rest := [.ref q333, .int 2, .ref q1]) rfl (Nat.le_of_ble_eq_true rfl) dX0_init_30 ⟨Nat.le_of_ble_eq_true rfl, Nat.le_of_ble_eq_true rfl⟩) hA hD hS (fun L357 f358 H locs hp359 hP hD hS => ?_)
  obtain ⟨q360, q361, q362, q363, q364, q365, q366, q367, q368, hn369, hm370, hf371, hn372, hm373, hf374, hn375, hm376, hf377, hn378, hm379, hf380, hn381, hm382, hf383, hn384, hm385, hf386, hn387, hm388, hf389, hn390, hm391, hf392, hn393, hm394, hf395, hf396, er397, fr398, sb399⟩ := hp359
  have hN400 : [q360, q361, q362, q363, q364, q365, q366, q367, q368, q333].Nodup := nd_app (l := [q360, q361, q362, q363, q364, q365, q366, q367, q368]) (k := [q333]) er397 (List.forall_mem_cons.mpr ⟨hn369, (List.forall_mem_cons.mpr ⟨hn372, (List.forall_mem_cons.mpr ⟨hn375, (List.forall_mem_cons.mpr ⟨hn378, (List.forall_mem_cons.mpr ⟨hn381, (List.forall_mem_cons.mpr ⟨hn384, (List.forall_mem_cons.mpr ⟨hn387, (List.forall_mem_cons.mpr ⟨hn390, (List.forall_mem_cons.mpr ⟨hn393, (fun _ h => absurd h List.not_mem_nil)⟩)⟩)⟩)⟩)⟩)⟩)⟩)⟩)⟩) hN343 hNs344
  have hNs401 : ∀ b, b ∈ [q360, q361, q362, q363, q364, q365, q366, q367, q368, q333] → b ∈ L357 := fm_app (l := [q360, q361, q362, q363, q364, q365, q366, q367, q368]) (k := [q333]) (List.forall_mem_cons.mpr ⟨hm370, (List.forall_mem_cons.mpr ⟨hm373, (List.forall_mem_cons.mpr ⟨hm376, (List.forall_mem_cons.mpr ⟨hm379, (List.forall_mem_cons.mpr ⟨hm382, (List.forall_mem_cons.mpr ⟨hm385, (List.forall_mem_cons.mpr ⟨hm388, (List.forall_mem_cons.mpr ⟨hm391, (List.forall_mem_cons.mpr ⟨hm394, (fun _ h => absurd h List.not_mem_nil)⟩)⟩)⟩)⟩)⟩)⟩)⟩)⟩)⟩) (fun b hb => sb399 b (hNs344 b hb))
  have hRq402 : ∀ j, j < 2 → ∀ k, k < 10 → aa327 j k ≠ q360 := fun j hj k hk e => hn369 (e ▸ (hR346.1 j hj k hk).1)
  have hRq403 : ∀ j, j < 2 → ∀ k, k < 10 → aa327 j k ≠ q361 := fun j hj k hk e => hn372 (e ▸ (hR346.1 j hj k hk).1)
  have hRq404 : ∀ j, j < 2 → ∀ k, k < 10 → aa327 j k ≠ q362 := fun j hj k hk e => hn375 (e ▸ (hR346.1 j hj k hk).1)
  have hRq405 : ∀ j, j < 2 → ∀ k, k < 10 → aa327 j k ≠ q363 := fun j hj k hk e => hn378 (e ▸ (hR346.1 j hj k hk).1)
  have hRq406 : ∀ j, j < 2 → ∀ k, k < 10 → aa327 j k ≠ q364 := fun j hj k hk e => hn381 (e ▸ (hR346.1 j hj k hk).1)
  have hRq407 : ∀ j, j < 2 → ∀ k, k < 10 → aa327 j k ≠ q365 := fun j hj k hk e => hn384 (e ▸ (hR346.1 j hj k hk).1)
  have hRq408 : ∀ j, j < 2 → ∀ k, k < 10 → aa327 j k ≠ q366 := fun j hj k hk e => hn387 (e ▸ (hR346.1 j hj k hk).1)
  have hRq409 : ∀ j, j < 2 → ∀ k, k < 10 → aa327 j k ≠ q367 := fun j hj k hk e => hn390 (e ▸ (hR346.1 j hj k hk).1)
  have hRq410 : ∀ j, j < 2 → ∀ k, k < 10 → aa327 j k ≠ q368 := fun j hj k hk e => hn393 (e ▸ (hR346.1 j hj k hk).1)
  have hR411 : RINGP g L2 L357 f358 2 aa327 := RINGP.tr hR346 hRq345 sb399 (fun b hb hn => fr398 b hb hn)
  have hfr412 : ∀ b, b ∈ L → b ≠ ac → f358 b = f b := fun b hb z0 => (fr398 b (hsb348 b hb) (fun e => hnq349 (e ▸ hb))).trans (hfr347 b hb z0)
  have hnq414 : q360 ∉ L := fun h => hn369 (hsb348 _ h)
  have hnq415 : q361 ∉ L := fun h => hn372 (hsb348 _ h)
  have hnq416 : q362 ∉ L := fun h => hn375 (hsb348 _ h)
  have hnq417 : q363 ∉ L := fun h => hn378 (hsb348 _ h)
  have hnq418 : q364 ∉ L := fun h => hn381 (hsb348 _ h)
  have hnq419 : q365 ∉ L := fun h => hn384 (hsb348 _ h)
  have hnq420 : q366 ∉ L := fun h => hn387 (hsb348 _ h)
  have hnq421 : q367 ∉ L := fun h => hn390 (hsb348 _ h)
  have hnq422 : q368 ∉ L := fun h => hn393 (hsb348 _ h)
  have hsb413 : ∀ b, b ∈ L → b ∈ L357 := fun b hb => sb399 b (hsb348 b hb)
  have hn424 : ac ≠ q360 := fun e => hn369 (e ▸ hm351)
  have hn425 : ac ≠ q361 := fun e => hn372 (e ▸ hm351)
  have hn426 : ac ≠ q362 := fun e => hn375 (e ▸ hm351)
  have hn427 : ac ≠ q363 := fun e => hn378 (e ▸ hm351)
  have hn428 : ac ≠ q364 := fun e => hn381 (e ▸ hm351)
  have hn429 : ac ≠ q365 := fun e => hn384 (e ▸ hm351)
  have hn430 : ac ≠ q366 := fun e => hn387 (e ▸ hm351)
  have hn431 : ac ≠ q367 := fun e => hn390 (e ▸ hm351)
  have hn432 : ac ≠ q368 := fun e => hn393 (e ▸ hm351)
  have hf433 := (fr398 ac hm351 hn352).trans hf350
  have hm423 := sb399 _ hm351
  have hn435 : q1 ≠ q360 := fun e => hn369 (e ▸ hm354)
  have hn436 : q1 ≠ q361 := fun e => hn372 (e ▸ hm354)
  have hn437 : q1 ≠ q362 := fun e => hn375 (e ▸ hm354)
  have hn438 : q1 ≠ q363 := fun e => hn378 (e ▸ hm354)
  have hn439 : q1 ≠ q364 := fun e => hn381 (e ▸ hm354)
  have hn440 : q1 ≠ q365 := fun e => hn384 (e ▸ hm354)
  have hn441 : q1 ≠ q366 := fun e => hn387 (e ▸ hm354)
  have hn442 : q1 ≠ q367 := fun e => hn390 (e ▸ hm354)
  have hn443 : q1 ≠ q368 := fun e => hn393 (e ▸ hm354)
  have hf444 := (fr398 q1 hm354 hn355).trans hf353
  have hm434 := sb399 _ hm354
  have hn446 : q333 ≠ q360 := fun e => hn369 (e ▸ hm338)
  have hn447 : q333 ≠ q361 := fun e => hn372 (e ▸ hm338)
  have hn448 : q333 ≠ q362 := fun e => hn375 (e ▸ hm338)
  have hn449 : q333 ≠ q363 := fun e => hn378 (e ▸ hm338)
  have hn450 : q333 ≠ q364 := fun e => hn381 (e ▸ hm338)
  have hn451 : q333 ≠ q365 := fun e => hn384 (e ▸ hm338)
  have hn452 : q333 ≠ q366 := fun e => hn387 (e ▸ hm338)
  have hn453 : q333 ≠ q367 := fun e => hn390 (e ▸ hm338)
  have hn454 : q333 ≠ q368 := fun e => hn393 (e ▸ hm338)
  have hm445 := sb399 _ hm338
  have hni455 : q360 ∉ L2 := fun h => hn369 (hs0342 _ h)
  have hni456 : q361 ∉ L2 := fun h => hn372 (hs0342 _ h)
  have hni457 : q362 ∉ L2 := fun h => hn375 (hs0342 _ h)
  have hni458 : q363 ∉ L2 := fun h => hn378 (hs0342 _ h)
  have hni459 : q364 ∉ L2 := fun h => hn381 (hs0342 _ h)
  have hni460 : q365 ∉ L2 := fun h => hn384 (hs0342 _ h)
  have hni461 : q366 ∉ L2 := fun h => hn387 (hs0342 _ h)
  have hni462 : q367 ∉ L2 := fun h => hn390 (hs0342 _ h)
  have hni463 : q368 ∉ L2 := fun h => hn393 (hs0342 _ h)
  have hs0464 : ∀ b, b ∈ L2 → b ∈ L357 := fun b hb => sb399 b (hs0342 b hb)
  refine pl_astq hx hb hG.1 hP hD hS hm434 4 3 hf444 rfl hm445 hf396 rfl (by unfold vp_in; decide) dX0_init_33 (fun H locs f465 r468 er468 hf467 ho466 hP hD hS => ?_)
  have hR469 : RINGP g L2 L357 f465 2 aa327 := RINGP.tr hR411 (fun j hj k hk e => (hR411.1 j hj k hk).2 (e ▸ hm6)) (fun b hb => hb) (fun b _ hb => ho466 b hb)
  have hfr470 : ∀ b, b ∈ L → b ≠ ac → f465 b = f b := fun b hb z0 => (ho466 b (fun e => hnq13 (e ▸ hb))).trans (hfr412 b hb z0)
  have hf471 := (ho466 ac hn16).trans hf433
  have hf472 := (ho466 q333 hn355.symm).trans hf396
  have hf473 := (ho466 q360 hn435.symm).trans hf371
  have hf474 := (ho466 q361 hn436.symm).trans hf374
  have hf475 := (ho466 q362 hn437.symm).trans hf377
  have hf476 := (ho466 q363 hn438.symm).trans hf380
  have hf477 := (ho466 q364 hn439.symm).trans hf383
  have hf478 := (ho466 q365 hn440.symm).trans hf386
  have hf479 := (ho466 q366 hn441.symm).trans hf389
  have hf480 := (ho466 q367 hn442.symm).trans hf392
  have hf481 := (ho466 q368 hn443.symm).trans hf395
  obtain ⟨aa482, ea483, eb484, hR485⟩ := RINGP.add (l := [q360, q361, q362, q363, q364, q365, q366, q367, q368, q333]) hR469 rfl hN400 (List.forall_mem_cons.mpr ⟨⟨hm370, hni455⟩, (List.forall_mem_cons.mpr ⟨⟨hm373, hni456⟩, (List.forall_mem_cons.mpr ⟨⟨hm376, hni457⟩, (List.forall_mem_cons.mpr ⟨⟨hm379, hni458⟩, (List.forall_mem_cons.mpr ⟨⟨hm382, hni459⟩, (List.forall_mem_cons.mpr ⟨⟨hm385, hni460⟩, (List.forall_mem_cons.mpr ⟨⟨hm388, hni461⟩, (List.forall_mem_cons.mpr ⟨⟨hm391, hni462⟩, (List.forall_mem_cons.mpr ⟨⟨hm394, hni463⟩, (List.forall_mem_cons.mpr ⟨⟨hm445, hni341⟩, (fun _ h => absurd h List.not_mem_nil)⟩)⟩)⟩)⟩)⟩)⟩)⟩)⟩)⟩)⟩) (List.forall_mem_cons.mpr ⟨hRq402, (List.forall_mem_cons.mpr ⟨hRq403, (List.forall_mem_cons.mpr ⟨hRq404, (List.forall_mem_cons.mpr ⟨hRq405, (List.forall_mem_cons.mpr ⟨hRq406, (List.forall_mem_cons.mpr ⟨hRq407, (List.forall_mem_cons.mpr ⟨hRq408, (List.forall_mem_cons.mpr ⟨hRq409, (List.forall_mem_cons.mpr ⟨hRq410, (List.forall_mem_cons.mpr ⟨hRq345, (fun _ h => absurd h List.not_mem_nil)⟩)⟩)⟩)⟩)⟩)⟩)⟩)⟩)⟩)⟩) (fun k hk => match k, hk with | 0, _ => hf472 | 1, _ => hf481 | 2, _ => hf480 | 3, _ => hf479 | 4, _ => hf478 | 5, _ => hf477 | 6, _ => hf476 | 7, _ => hf475 | 8, _ => hf474 | 9, _ => hf473 | k + 10, h => absurd h (by omega))
  have hrr486 : ∀ j, j < 3 → r468 j = some (aa482 j 0) := rr_step hrr331 er468 (by decide) ea483 (eb484.symm ▸ rfl)
  refine lv_iinc (v := 3) (lv' := [(1, .int 3), (0, .ref ac)]) hx hb dX0_init_34 hl (k := 0) rfl (by decide) (by decide) rfl (fun ls hl => ?_)
  refine lv_goto (tgt := 15) hx hb dX0_init_37 (by decide) ?_
  refine lv_iload_n hx hb dX0_init_15 rfl (lv_at hl 0 rfl) ?_
  refine lv_bipush (v := 20) hx hb dX0_init_16 (by decide) ?_
  refine lv_icmp_ge (tgt := 40) hx hb dX0_init_18 (by decide) (fun c487 => absurd c487 (by decide)) (fun c487 => ?_)
  refine lv_aload_n hx hb dX0_init_21 rfl (lv_at hl 1 rfl) ?_
  refine pl_get (v := .ref q1) hx hb hts (fun w h => mT (inX0 w h)) hown hG.1 hP hm423 hf471 rfl 0 (by decide) (hts _ (mT wg_413)) (fun _ h => h) rfl dX0_init_22 ?_
  refine lv_iload_n hx hb dX0_init_25 rfl (lv_at hl 0 rfl) ?_
  refine pl_new (ci := 3) (fs := [.int 0, .int 0, .int 0, .int 0, .int 0, .int 0, .int 0, .long 0, .long 0, .null, .null, .null, .null, .null, .null, .null, .null, .null]) (C := RX3) (T := TX3) (N := 18) hx hb hts (fun w h => mT (inX3 w h)) tyX3 tyX3_ok hown (hts _ (mT wg_410)) (hts _ (mT wg_330)) (hts _ (mT wg_165)) hG.1 hP hD hS hA rfl dvX3 (Nat.le_of_ble_eq_true rfl) (Nat.le_of_ble_eq_true rfl) dX0_init_26 (fun q488 H L489 f490 hq491 hs492 hm493 hf494 ho495 hP hD hS => ?_)
  have hni496 : q488 ∉ L2 := fun h => hq491 (hs0464 _ h)
  have hs0497 : ∀ b, b ∈ L2 → b ∈ L489 := fun b hb => hs492 b (hs0464 b hb)
  have hN498 : [q488].Nodup := List.nodup_cons.mpr ⟨fun h => hq491 (nil_in _ h), List.nodup_nil⟩
  have hNs499 : ∀ b, b ∈ [q488] → b ∈ L489 := List.forall_mem_cons.mpr ⟨hm493, fun b hb => hs492 b (nil_in b hb)⟩
  have hRq500 : ∀ j, j < 3 → ∀ k, k < 10 → aa482 j k ≠ q488 := fun j hj k hk e => hq491 (e ▸ (hR485.1 j hj k hk).1)
  have hR501 : RINGP g L2 L489 f490 3 aa482 := RINGP.tr hR485 hRq500 hs492 (fun b hb _ => ho495 b hb)
  have hfr502 : ∀ b, b ∈ L → b ≠ ac → f490 b = f b := fun b hb z0 => (ho495 b (hsb413 b hb)).trans (hfr470 b hb z0)
  have hnq504 : q488 ∉ L := fun h => hq491 (hsb413 _ h)
  have hsb503 : ∀ b, b ∈ L → b ∈ _ := fun b hb => hs492 b (hsb413 b hb)
  have hf505 := (ho495 ac hm423).trans hf471
  have hn507 : ac ≠ q488 := fun e => hq491 (e ▸ hm423)
  have hm506 := hs492 _ hm423
  have hf508 := (ho495 q1 hm434).trans hf467
  have hn510 : q1 ≠ q488 := fun e => hq491 (e ▸ hm434)
  have hm509 := hs492 _ hm434
  refine lv_dup hx hb dX0_init_29 rfl ?_
  refine call_v (run_IN (rm := { frames := 1, cells := 9, slots := 258, locals := 12 }) hx hb hml hown hts (k_X3_init l g _ _ _ q488 hm493 hf494) cI_X3_init wn_412 ⟨Nat.le_of_ble_eq_true rfl, Nat.le_of_ble_eq_true rfl⟩ hG hE hA hP hD hS rfl hl.1 (As := []) (rest := [.ref q488, .int 3, .ref q1]) rfl (Nat.le_of_ble_eq_true rfl) dX0_init_30 ⟨Nat.le_of_ble_eq_true rfl, Nat.le_of_ble_eq_true rfl⟩) hA hD hS (fun L512 f513 H locs hp514 hP hD hS => ?_)
  obtain ⟨q515, q516, q517, q518, q519, q520, q521, q522, q523, hn524, hm525, hf526, hn527, hm528, hf529, hn530, hm531, hf532, hn533, hm534, hf535, hn536, hm537, hf538, hn539, hm540, hf541, hn542, hm543, hf544, hn545, hm546, hf547, hn548, hm549, hf550, hf551, er552, fr553, sb554⟩ := hp514
  have hN555 : [q515, q516, q517, q518, q519, q520, q521, q522, q523, q488].Nodup := nd_app (l := [q515, q516, q517, q518, q519, q520, q521, q522, q523]) (k := [q488]) er552 (List.forall_mem_cons.mpr ⟨hn524, (List.forall_mem_cons.mpr ⟨hn527, (List.forall_mem_cons.mpr ⟨hn530, (List.forall_mem_cons.mpr ⟨hn533, (List.forall_mem_cons.mpr ⟨hn536, (List.forall_mem_cons.mpr ⟨hn539, (List.forall_mem_cons.mpr ⟨hn542, (List.forall_mem_cons.mpr ⟨hn545, (List.forall_mem_cons.mpr ⟨hn548, (fun _ h => absurd h List.not_mem_nil)⟩)⟩)⟩)⟩)⟩)⟩)⟩)⟩)⟩) hN498 hNs499
  have hNs556 : ∀ b, b ∈ [q515, q516, q517, q518, q519, q520, q521, q522, q523, q488] → b ∈ L512 := fm_app (l := [q515, q516, q517, q518, q519, q520, q521, q522, q523]) (k := [q488]) (List.forall_mem_cons.mpr ⟨hm525, (List.forall_mem_cons.mpr ⟨hm528, (List.forall_mem_cons.mpr ⟨hm531, (List.forall_mem_cons.mpr ⟨hm534, (List.forall_mem_cons.mpr ⟨hm537, (List.forall_mem_cons.mpr ⟨hm540, (List.forall_mem_cons.mpr ⟨hm543, (List.forall_mem_cons.mpr ⟨hm546, (List.forall_mem_cons.mpr ⟨hm549, (fun _ h => absurd h List.not_mem_nil)⟩)⟩)⟩)⟩)⟩)⟩)⟩)⟩)⟩) (fun b hb => sb554 b (hNs499 b hb))
  have hRq557 : ∀ j, j < 3 → ∀ k, k < 10 → aa482 j k ≠ q515 := fun j hj k hk e => hn524 (e ▸ (hR501.1 j hj k hk).1)
  have hRq558 : ∀ j, j < 3 → ∀ k, k < 10 → aa482 j k ≠ q516 := fun j hj k hk e => hn527 (e ▸ (hR501.1 j hj k hk).1)
  have hRq559 : ∀ j, j < 3 → ∀ k, k < 10 → aa482 j k ≠ q517 := fun j hj k hk e => hn530 (e ▸ (hR501.1 j hj k hk).1)
  have hRq560 : ∀ j, j < 3 → ∀ k, k < 10 → aa482 j k ≠ q518 := fun j hj k hk e => hn533 (e ▸ (hR501.1 j hj k hk).1)
  have hRq561 : ∀ j, j < 3 → ∀ k, k < 10 → aa482 j k ≠ q519 := fun j hj k hk e => hn536 (e ▸ (hR501.1 j hj k hk).1)
  have hRq562 : ∀ j, j < 3 → ∀ k, k < 10 → aa482 j k ≠ q520 := fun j hj k hk e => hn539 (e ▸ (hR501.1 j hj k hk).1)
  have hRq563 : ∀ j, j < 3 → ∀ k, k < 10 → aa482 j k ≠ q521 := fun j hj k hk e => hn542 (e ▸ (hR501.1 j hj k hk).1)
  have hRq564 : ∀ j, j < 3 → ∀ k, k < 10 → aa482 j k ≠ q522 := fun j hj k hk e => hn545 (e ▸ (hR501.1 j hj k hk).1)
  have hRq565 : ∀ j, j < 3 → ∀ k, k < 10 → aa482 j k ≠ q523 := fun j hj k hk e => hn548 (e ▸ (hR501.1 j hj k hk).1)
  have hR566 : RINGP g L2 L512 f513 3 aa482 := RINGP.tr hR501 hRq500 sb554 (fun b hb hn => fr553 b hb hn)
  have hfr567 : ∀ b, b ∈ L → b ≠ ac → f513 b = f b := fun b hb z0 => (fr553 b (hsb503 b hb) (fun e => hnq504 (e ▸ hb))).trans (hfr502 b hb z0)
  have hnq569 : q515 ∉ L := fun h => hn524 (hsb503 _ h)
  have hnq570 : q516 ∉ L := fun h => hn527 (hsb503 _ h)
  have hnq571 : q517 ∉ L := fun h => hn530 (hsb503 _ h)
  have hnq572 : q518 ∉ L := fun h => hn533 (hsb503 _ h)
  have hnq573 : q519 ∉ L := fun h => hn536 (hsb503 _ h)
  have hnq574 : q520 ∉ L := fun h => hn539 (hsb503 _ h)
  have hnq575 : q521 ∉ L := fun h => hn542 (hsb503 _ h)
  have hnq576 : q522 ∉ L := fun h => hn545 (hsb503 _ h)
  have hnq577 : q523 ∉ L := fun h => hn548 (hsb503 _ h)
  have hsb568 : ∀ b, b ∈ L → b ∈ L512 := fun b hb => sb554 b (hsb503 b hb)
  have hn579 : ac ≠ q515 := fun e => hn524 (e ▸ hm506)
  have hn580 : ac ≠ q516 := fun e => hn527 (e ▸ hm506)
  have hn581 : ac ≠ q517 := fun e => hn530 (e ▸ hm506)
  have hn582 : ac ≠ q518 := fun e => hn533 (e ▸ hm506)
  have hn583 : ac ≠ q519 := fun e => hn536 (e ▸ hm506)
  have hn584 : ac ≠ q520 := fun e => hn539 (e ▸ hm506)
  have hn585 : ac ≠ q521 := fun e => hn542 (e ▸ hm506)
  have hn586 : ac ≠ q522 := fun e => hn545 (e ▸ hm506)
  have hn587 : ac ≠ q523 := fun e => hn548 (e ▸ hm506)
  have hf588 := (fr553 ac hm506 hn507).trans hf505
  have hm578 := sb554 _ hm506
  have hn590 : q1 ≠ q515 := fun e => hn524 (e ▸ hm509)
  have hn591 : q1 ≠ q516 := fun e => hn527 (e ▸ hm509)
  have hn592 : q1 ≠ q517 := fun e => hn530 (e ▸ hm509)
  have hn593 : q1 ≠ q518 := fun e => hn533 (e ▸ hm509)
  have hn594 : q1 ≠ q519 := fun e => hn536 (e ▸ hm509)
  have hn595 : q1 ≠ q520 := fun e => hn539 (e ▸ hm509)
  have hn596 : q1 ≠ q521 := fun e => hn542 (e ▸ hm509)
  have hn597 : q1 ≠ q522 := fun e => hn545 (e ▸ hm509)
  have hn598 : q1 ≠ q523 := fun e => hn548 (e ▸ hm509)
  have hf599 := (fr553 q1 hm509 hn510).trans hf508
  have hm589 := sb554 _ hm509
  have hn601 : q488 ≠ q515 := fun e => hn524 (e ▸ hm493)
  have hn602 : q488 ≠ q516 := fun e => hn527 (e ▸ hm493)
  have hn603 : q488 ≠ q517 := fun e => hn530 (e ▸ hm493)
  have hn604 : q488 ≠ q518 := fun e => hn533 (e ▸ hm493)
  have hn605 : q488 ≠ q519 := fun e => hn536 (e ▸ hm493)
  have hn606 : q488 ≠ q520 := fun e => hn539 (e ▸ hm493)
  have hn607 : q488 ≠ q521 := fun e => hn542 (e ▸ hm493)
  have hn608 : q488 ≠ q522 := fun e => hn545 (e ▸ hm493)
  have hn609 : q488 ≠ q523 := fun e => hn548 (e ▸ hm493)
  have hm600 := sb554 _ hm493
  have hni610 : q515 ∉ L2 := fun h => hn524 (hs0497 _ h)
  have hni611 : q516 ∉ L2 := fun h => hn527 (hs0497 _ h)
  have hni612 : q517 ∉ L2 := fun h => hn530 (hs0497 _ h)
  have hni613 : q518 ∉ L2 := fun h => hn533 (hs0497 _ h)
  have hni614 : q519 ∉ L2 := fun h => hn536 (hs0497 _ h)
  have hni615 : q520 ∉ L2 := fun h => hn539 (hs0497 _ h)
  have hni616 : q521 ∉ L2 := fun h => hn542 (hs0497 _ h)
  have hni617 : q522 ∉ L2 := fun h => hn545 (hs0497 _ h)
  have hni618 : q523 ∉ L2 := fun h => hn548 (hs0497 _ h)
  have hs0619 : ∀ b, b ∈ L2 → b ∈ L512 := fun b hb => sb554 b (hs0497 b hb)
  refine pl_astq hx hb hG.1 hP hD hS hm589 4 3 hf599 rfl hm600 hf551 rfl (by unfold vp_in; decide) dX0_init_33 (fun H locs f620 r623 er623 hf622 ho621 hP hD hS => ?_)
  have hR624 : RINGP g L2 L512 f620 3 aa482 := RINGP.tr hR566 (fun j hj k hk e => (hR566.1 j hj k hk).2 (e ▸ hm6)) (fun b hb => hb) (fun b _ hb => ho621 b hb)
  have hfr625 : ∀ b, b ∈ L → b ≠ ac → f620 b = f b := fun b hb z0 => (ho621 b (fun e => hnq13 (e ▸ hb))).trans (hfr567 b hb z0)
  have hf626 := (ho621 ac hn16).trans hf588
  have hf627 := (ho621 q488 hn510.symm).trans hf551
  have hf628 := (ho621 q515 hn590.symm).trans hf526
  have hf629 := (ho621 q516 hn591.symm).trans hf529
  have hf630 := (ho621 q517 hn592.symm).trans hf532
  have hf631 := (ho621 q518 hn593.symm).trans hf535
  have hf632 := (ho621 q519 hn594.symm).trans hf538
  have hf633 := (ho621 q520 hn595.symm).trans hf541
  have hf634 := (ho621 q521 hn596.symm).trans hf544
  have hf635 := (ho621 q522 hn597.symm).trans hf547
  have hf636 := (ho621 q523 hn598.symm).trans hf550
  obtain ⟨aa637, ea638, eb639, hR640⟩ := RINGP.add (l := [q515, q516, q517, q518, q519, q520, q521, q522, q523, q488]) hR624 rfl hN555 (List.forall_mem_cons.mpr ⟨⟨hm525, hni610⟩, (List.forall_mem_cons.mpr ⟨⟨hm528, hni611⟩, (List.forall_mem_cons.mpr ⟨⟨hm531, hni612⟩, (List.forall_mem_cons.mpr ⟨⟨hm534, hni613⟩, (List.forall_mem_cons.mpr ⟨⟨hm537, hni614⟩, (List.forall_mem_cons.mpr ⟨⟨hm540, hni615⟩, (List.forall_mem_cons.mpr ⟨⟨hm543, hni616⟩, (List.forall_mem_cons.mpr ⟨⟨hm546, hni617⟩, (List.forall_mem_cons.mpr ⟨⟨hm549, hni618⟩, (List.forall_mem_cons.mpr ⟨⟨hm600, hni496⟩, (fun _ h => absurd h List.not_mem_nil)⟩)⟩)⟩)⟩)⟩)⟩)⟩)⟩)⟩)⟩) (List.forall_mem_cons.mpr ⟨hRq557, (List.forall_mem_cons.mpr ⟨hRq558, (List.forall_mem_cons.mpr ⟨hRq559, (List.forall_mem_cons.mpr ⟨hRq560, (List.forall_mem_cons.mpr ⟨hRq561, (List.forall_mem_cons.mpr ⟨hRq562, (List.forall_mem_cons.mpr ⟨hRq563, (List.forall_mem_cons.mpr ⟨hRq564, (List.forall_mem_cons.mpr ⟨hRq565, (List.forall_mem_cons.mpr ⟨hRq500, (fun _ h => absurd h List.not_mem_nil)⟩)⟩)⟩)⟩)⟩)⟩)⟩)⟩)⟩)⟩) (fun k hk => match k, hk with | 0, _ => hf627 | 1, _ => hf636 | 2, _ => hf635 | 3, _ => hf634 | 4, _ => hf633 | 5, _ => hf632 | 6, _ => hf631 | 7, _ => hf630 | 8, _ => hf629 | 9, _ => hf628 | k + 10, h => absurd h (by omega))
  have hrr641 : ∀ j, j < 4 → r623 j = some (aa637 j 0) := rr_step hrr486 er623 (by decide) ea638 (eb639.symm ▸ rfl)
  refine lv_iinc (v := 4) (lv' := [(1, .int 4), (0, .ref ac)]) hx hb dX0_init_34 hl (k := 0) rfl (by decide) (by decide) rfl (fun ls hl => ?_)
  refine lv_goto (tgt := 15) hx hb dX0_init_37 (by decide) ?_
  refine lv_iload_n hx hb dX0_init_15 rfl (lv_at hl 0 rfl) ?_
  refine lv_bipush (v := 20) hx hb dX0_init_16 (by decide) ?_
  refine lv_icmp_ge (tgt := 40) hx hb dX0_init_18 (by decide) (fun c642 => absurd c642 (by decide)) (fun c642 => ?_)
  refine lv_aload_n hx hb dX0_init_21 rfl (lv_at hl 1 rfl) ?_
  refine pl_get (v := .ref q1) hx hb hts (fun w h => mT (inX0 w h)) hown hG.1 hP hm578 hf626 rfl 0 (by decide) (hts _ (mT wg_413)) (fun _ h => h) rfl dX0_init_22 ?_
  refine lv_iload_n hx hb dX0_init_25 rfl (lv_at hl 0 rfl) ?_
  refine pl_new (ci := 3) (fs := [.int 0, .int 0, .int 0, .int 0, .int 0, .int 0, .int 0, .long 0, .long 0, .null, .null, .null, .null, .null, .null, .null, .null, .null]) (C := RX3) (T := TX3) (N := 18) hx hb hts (fun w h => mT (inX3 w h)) tyX3 tyX3_ok hown (hts _ (mT wg_410)) (hts _ (mT wg_330)) (hts _ (mT wg_165)) hG.1 hP hD hS hA rfl dvX3 (Nat.le_of_ble_eq_true rfl) (Nat.le_of_ble_eq_true rfl) dX0_init_26 (fun q643 H L644 f645 hq646 hs647 hm648 hf649 ho650 hP hD hS => ?_)
  have hni651 : q643 ∉ L2 := fun h => hq646 (hs0619 _ h)
  have hs0652 : ∀ b, b ∈ L2 → b ∈ L644 := fun b hb => hs647 b (hs0619 b hb)
  have hN653 : [q643].Nodup := List.nodup_cons.mpr ⟨fun h => hq646 (nil_in _ h), List.nodup_nil⟩
  have hNs654 : ∀ b, b ∈ [q643] → b ∈ L644 := List.forall_mem_cons.mpr ⟨hm648, fun b hb => hs647 b (nil_in b hb)⟩
  have hRq655 : ∀ j, j < 4 → ∀ k, k < 10 → aa637 j k ≠ q643 := fun j hj k hk e => hq646 (e ▸ (hR640.1 j hj k hk).1)
  have hR656 : RINGP g L2 L644 f645 4 aa637 := RINGP.tr hR640 hRq655 hs647 (fun b hb _ => ho650 b hb)
  have hfr657 : ∀ b, b ∈ L → b ≠ ac → f645 b = f b := fun b hb z0 => (ho650 b (hsb568 b hb)).trans (hfr625 b hb z0)
  have hnq659 : q643 ∉ L := fun h => hq646 (hsb568 _ h)
  have hsb658 : ∀ b, b ∈ L → b ∈ _ := fun b hb => hs647 b (hsb568 b hb)
  have hf660 := (ho650 ac hm578).trans hf626
  have hn662 : ac ≠ q643 := fun e => hq646 (e ▸ hm578)
  have hm661 := hs647 _ hm578
  have hf663 := (ho650 q1 hm589).trans hf622
  have hn665 : q1 ≠ q643 := fun e => hq646 (e ▸ hm589)
  have hm664 := hs647 _ hm589
  refine lv_dup hx hb dX0_init_29 rfl ?_
  refine call_v (run_IN (rm := { frames := 1, cells := 9, slots := 258, locals := 12 }) hx hb hml hown hts (k_X3_init l g _ _ _ q643 hm648 hf649) cI_X3_init wn_412 ⟨Nat.le_of_ble_eq_true rfl, Nat.le_of_ble_eq_true rfl⟩ hG hE hA hP hD hS rfl hl.1 (As := []) (rest := [.ref q643, .int 4, .ref q1]) rfl (Nat.le_of_ble_eq_true rfl) dX0_init_30 ⟨Nat.le_of_ble_eq_true rfl, Nat.le_of_ble_eq_true rfl⟩) hA hD hS (fun L667 f668 H locs hp669 hP hD hS => ?_)
  obtain ⟨q670, q671, q672, q673, q674, q675, q676, q677, q678, hn679, hm680, hf681, hn682, hm683, hf684, hn685, hm686, hf687, hn688, hm689, hf690, hn691, hm692, hf693, hn694, hm695, hf696, hn697, hm698, hf699, hn700, hm701, hf702, hn703, hm704, hf705, hf706, er707, fr708, sb709⟩ := hp669
  have hN710 : [q670, q671, q672, q673, q674, q675, q676, q677, q678, q643].Nodup := nd_app (l := [q670, q671, q672, q673, q674, q675, q676, q677, q678]) (k := [q643]) er707 (List.forall_mem_cons.mpr ⟨hn679, (List.forall_mem_cons.mpr ⟨hn682, (List.forall_mem_cons.mpr ⟨hn685, (List.forall_mem_cons.mpr ⟨hn688, (List.forall_mem_cons.mpr ⟨hn691, (List.forall_mem_cons.mpr ⟨hn694, (List.forall_mem_cons.mpr ⟨hn697, (List.forall_mem_cons.mpr ⟨hn700, (List.forall_mem_cons.mpr ⟨hn703, (fun _ h => absurd h List.not_mem_nil)⟩)⟩)⟩)⟩)⟩)⟩)⟩)⟩)⟩) hN653 hNs654
  have hNs711 : ∀ b, b ∈ [q670, q671, q672, q673, q674, q675, q676, q677, q678, q643] → b ∈ L667 := fm_app (l := [q670, q671, q672, q673, q674, q675, q676, q677, q678]) (k := [q643]) (List.forall_mem_cons.mpr ⟨hm680, (List.forall_mem_cons.mpr ⟨hm683, (List.forall_mem_cons.mpr ⟨hm686, (List.forall_mem_cons.mpr ⟨hm689, (List.forall_mem_cons.mpr ⟨hm692, (List.forall_mem_cons.mpr ⟨hm695, (List.forall_mem_cons.mpr ⟨hm698, (List.forall_mem_cons.mpr ⟨hm701, (List.forall_mem_cons.mpr ⟨hm704, (fun _ h => absurd h List.not_mem_nil)⟩)⟩)⟩)⟩)⟩)⟩)⟩)⟩)⟩) (fun b hb => sb709 b (hNs654 b hb))
  have hRq712 : ∀ j, j < 4 → ∀ k, k < 10 → aa637 j k ≠ q670 := fun j hj k hk e => hn679 (e ▸ (hR656.1 j hj k hk).1)
  have hRq713 : ∀ j, j < 4 → ∀ k, k < 10 → aa637 j k ≠ q671 := fun j hj k hk e => hn682 (e ▸ (hR656.1 j hj k hk).1)
  have hRq714 : ∀ j, j < 4 → ∀ k, k < 10 → aa637 j k ≠ q672 := fun j hj k hk e => hn685 (e ▸ (hR656.1 j hj k hk).1)
  have hRq715 : ∀ j, j < 4 → ∀ k, k < 10 → aa637 j k ≠ q673 := fun j hj k hk e => hn688 (e ▸ (hR656.1 j hj k hk).1)
  have hRq716 : ∀ j, j < 4 → ∀ k, k < 10 → aa637 j k ≠ q674 := fun j hj k hk e => hn691 (e ▸ (hR656.1 j hj k hk).1)
  have hRq717 : ∀ j, j < 4 → ∀ k, k < 10 → aa637 j k ≠ q675 := fun j hj k hk e => hn694 (e ▸ (hR656.1 j hj k hk).1)
  have hRq718 : ∀ j, j < 4 → ∀ k, k < 10 → aa637 j k ≠ q676 := fun j hj k hk e => hn697 (e ▸ (hR656.1 j hj k hk).1)
  have hRq719 : ∀ j, j < 4 → ∀ k, k < 10 → aa637 j k ≠ q677 := fun j hj k hk e => hn700 (e ▸ (hR656.1 j hj k hk).1)
  have hRq720 : ∀ j, j < 4 → ∀ k, k < 10 → aa637 j k ≠ q678 := fun j hj k hk e => hn703 (e ▸ (hR656.1 j hj k hk).1)
  have hR721 : RINGP g L2 L667 f668 4 aa637 := RINGP.tr hR656 hRq655 sb709 (fun b hb hn => fr708 b hb hn)
  have hfr722 : ∀ b, b ∈ L → b ≠ ac → f668 b = f b := fun b hb z0 => (fr708 b (hsb658 b hb) (fun e => hnq659 (e ▸ hb))).trans (hfr657 b hb z0)
  have hnq724 : q670 ∉ L := fun h => hn679 (hsb658 _ h)
  have hnq725 : q671 ∉ L := fun h => hn682 (hsb658 _ h)
  have hnq726 : q672 ∉ L := fun h => hn685 (hsb658 _ h)
  have hnq727 : q673 ∉ L := fun h => hn688 (hsb658 _ h)
  have hnq728 : q674 ∉ L := fun h => hn691 (hsb658 _ h)
  have hnq729 : q675 ∉ L := fun h => hn694 (hsb658 _ h)
  have hnq730 : q676 ∉ L := fun h => hn697 (hsb658 _ h)
  have hnq731 : q677 ∉ L := fun h => hn700 (hsb658 _ h)
  have hnq732 : q678 ∉ L := fun h => hn703 (hsb658 _ h)
  have hsb723 : ∀ b, b ∈ L → b ∈ L667 := fun b hb => sb709 b (hsb658 b hb)
  have hn734 : ac ≠ q670 := fun e => hn679 (e ▸ hm661)
  have hn735 : ac ≠ q671 := fun e => hn682 (e ▸ hm661)
  have hn736 : ac ≠ q672 := fun e => hn685 (e ▸ hm661)
  have hn737 : ac ≠ q673 := fun e => hn688 (e ▸ hm661)
  have hn738 : ac ≠ q674 := fun e => hn691 (e ▸ hm661)
  have hn739 : ac ≠ q675 := fun e => hn694 (e ▸ hm661)
  have hn740 : ac ≠ q676 := fun e => hn697 (e ▸ hm661)
  have hn741 : ac ≠ q677 := fun e => hn700 (e ▸ hm661)
  have hn742 : ac ≠ q678 := fun e => hn703 (e ▸ hm661)
  have hf743 := (fr708 ac hm661 hn662).trans hf660
  have hm733 := sb709 _ hm661
  have hn745 : q1 ≠ q670 := fun e => hn679 (e ▸ hm664)
  have hn746 : q1 ≠ q671 := fun e => hn682 (e ▸ hm664)
  have hn747 : q1 ≠ q672 := fun e => hn685 (e ▸ hm664)
  have hn748 : q1 ≠ q673 := fun e => hn688 (e ▸ hm664)
  have hn749 : q1 ≠ q674 := fun e => hn691 (e ▸ hm664)
  have hn750 : q1 ≠ q675 := fun e => hn694 (e ▸ hm664)
  have hn751 : q1 ≠ q676 := fun e => hn697 (e ▸ hm664)
  have hn752 : q1 ≠ q677 := fun e => hn700 (e ▸ hm664)
  have hn753 : q1 ≠ q678 := fun e => hn703 (e ▸ hm664)
  have hf754 := (fr708 q1 hm664 hn665).trans hf663
  have hm744 := sb709 _ hm664
  have hn756 : q643 ≠ q670 := fun e => hn679 (e ▸ hm648)
  have hn757 : q643 ≠ q671 := fun e => hn682 (e ▸ hm648)
  have hn758 : q643 ≠ q672 := fun e => hn685 (e ▸ hm648)
  have hn759 : q643 ≠ q673 := fun e => hn688 (e ▸ hm648)
  have hn760 : q643 ≠ q674 := fun e => hn691 (e ▸ hm648)
  have hn761 : q643 ≠ q675 := fun e => hn694 (e ▸ hm648)
  have hn762 : q643 ≠ q676 := fun e => hn697 (e ▸ hm648)
  have hn763 : q643 ≠ q677 := fun e => hn700 (e ▸ hm648)
  have hn764 : q643 ≠ q678 := fun e => hn703 (e ▸ hm648)
  have hm755 := sb709 _ hm648
  have hni765 : q670 ∉ L2 := fun h => hn679 (hs0652 _ h)
  have hni766 : q671 ∉ L2 := fun h => hn682 (hs0652 _ h)
  have hni767 : q672 ∉ L2 := fun h => hn685 (hs0652 _ h)
  have hni768 : q673 ∉ L2 := fun h => hn688 (hs0652 _ h)
  have hni769 : q674 ∉ L2 := fun h => hn691 (hs0652 _ h)
  have hni770 : q675 ∉ L2 := fun h => hn694 (hs0652 _ h)
  have hni771 : q676 ∉ L2 := fun h => hn697 (hs0652 _ h)
  have hni772 : q677 ∉ L2 := fun h => hn700 (hs0652 _ h)
  have hni773 : q678 ∉ L2 := fun h => hn703 (hs0652 _ h)
  have hs0774 : ∀ b, b ∈ L2 → b ∈ L667 := fun b hb => sb709 b (hs0652 b hb)
  refine pl_astq hx hb hG.1 hP hD hS hm744 4 3 hf754 rfl hm755 hf706 rfl (by unfold vp_in; decide) dX0_init_33 (fun H locs f775 r778 er778 hf777 ho776 hP hD hS => ?_)
  have hR779 : RINGP g L2 L667 f775 4 aa637 := RINGP.tr hR721 (fun j hj k hk e => (hR721.1 j hj k hk).2 (e ▸ hm6)) (fun b hb => hb) (fun b _ hb => ho776 b hb)
  have hfr780 : ∀ b, b ∈ L → b ≠ ac → f775 b = f b := fun b hb z0 => (ho776 b (fun e => hnq13 (e ▸ hb))).trans (hfr722 b hb z0)
  have hf781 := (ho776 ac hn16).trans hf743
  have hf782 := (ho776 q643 hn665.symm).trans hf706
  have hf783 := (ho776 q670 hn745.symm).trans hf681
  have hf784 := (ho776 q671 hn746.symm).trans hf684
  have hf785 := (ho776 q672 hn747.symm).trans hf687
  have hf786 := (ho776 q673 hn748.symm).trans hf690
  have hf787 := (ho776 q674 hn749.symm).trans hf693
  have hf788 := (ho776 q675 hn750.symm).trans hf696
  have hf789 := (ho776 q676 hn751.symm).trans hf699
  have hf790 := (ho776 q677 hn752.symm).trans hf702
  have hf791 := (ho776 q678 hn753.symm).trans hf705
  obtain ⟨aa792, ea793, eb794, hR795⟩ := RINGP.add (l := [q670, q671, q672, q673, q674, q675, q676, q677, q678, q643]) hR779 rfl hN710 (List.forall_mem_cons.mpr ⟨⟨hm680, hni765⟩, (List.forall_mem_cons.mpr ⟨⟨hm683, hni766⟩, (List.forall_mem_cons.mpr ⟨⟨hm686, hni767⟩, (List.forall_mem_cons.mpr ⟨⟨hm689, hni768⟩, (List.forall_mem_cons.mpr ⟨⟨hm692, hni769⟩, (List.forall_mem_cons.mpr ⟨⟨hm695, hni770⟩, (List.forall_mem_cons.mpr ⟨⟨hm698, hni771⟩, (List.forall_mem_cons.mpr ⟨⟨hm701, hni772⟩, (List.forall_mem_cons.mpr ⟨⟨hm704, hni773⟩, (List.forall_mem_cons.mpr ⟨⟨hm755, hni651⟩, (fun _ h => absurd h List.not_mem_nil)⟩)⟩)⟩)⟩)⟩)⟩)⟩)⟩)⟩)⟩) (List.forall_mem_cons.mpr ⟨hRq712, (List.forall_mem_cons.mpr ⟨hRq713, (List.forall_mem_cons.mpr ⟨hRq714, (List.forall_mem_cons.mpr ⟨hRq715, (List.forall_mem_cons.mpr ⟨hRq716, (List.forall_mem_cons.mpr ⟨hRq717, (List.forall_mem_cons.mpr ⟨hRq718, (List.forall_mem_cons.mpr ⟨hRq719, (List.forall_mem_cons.mpr ⟨hRq720, (List.forall_mem_cons.mpr ⟨hRq655, (fun _ h => absurd h List.not_mem_nil)⟩)⟩)⟩)⟩)⟩)⟩)⟩)⟩)⟩)⟩) (fun k hk => match k, hk with | 0, _ => hf782 | 1, _ => hf791 | 2, _ => hf790 | 3, _ => hf789 | 4, _ => hf788 | 5, _ => hf787 | 6, _ => hf786 | 7, _ => hf785 | 8, _ => hf784 | 9, _ => hf783 | k + 10, h => absurd h (by omega))
  have hrr796 : ∀ j, j < 5 → r778 j = some (aa792 j 0) := rr_step hrr641 er778 (by decide) ea793 (eb794.symm ▸ rfl)
  refine lv_iinc (v := 5) (lv' := [(1, .int 5), (0, .ref ac)]) hx hb dX0_init_34 hl (k := 0) rfl (by decide) (by decide) rfl (fun ls hl => ?_)
  refine lv_goto (tgt := 15) hx hb dX0_init_37 (by decide) ?_
  refine lv_iload_n hx hb dX0_init_15 rfl (lv_at hl 0 rfl) ?_
  refine lv_bipush (v := 20) hx hb dX0_init_16 (by decide) ?_
  refine lv_icmp_ge (tgt := 40) hx hb dX0_init_18 (by decide) (fun c797 => absurd c797 (by decide)) (fun c797 => ?_)
  refine lv_aload_n hx hb dX0_init_21 rfl (lv_at hl 1 rfl) ?_
  refine pl_get (v := .ref q1) hx hb hts (fun w h => mT (inX0 w h)) hown hG.1 hP hm733 hf781 rfl 0 (by decide) (hts _ (mT wg_413)) (fun _ h => h) rfl dX0_init_22 ?_
  refine lv_iload_n hx hb dX0_init_25 rfl (lv_at hl 0 rfl) ?_
  refine pl_new (ci := 3) (fs := [.int 0, .int 0, .int 0, .int 0, .int 0, .int 0, .int 0, .long 0, .long 0, .null, .null, .null, .null, .null, .null, .null, .null, .null]) (C := RX3) (T := TX3) (N := 18) hx hb hts (fun w h => mT (inX3 w h)) tyX3 tyX3_ok hown (hts _ (mT wg_410)) (hts _ (mT wg_330)) (hts _ (mT wg_165)) hG.1 hP hD hS hA rfl dvX3 (Nat.le_of_ble_eq_true rfl) (Nat.le_of_ble_eq_true rfl) dX0_init_26 (fun q798 H L799 f800 hq801 hs802 hm803 hf804 ho805 hP hD hS => ?_)
  have hni806 : q798 ∉ L2 := fun h => hq801 (hs0774 _ h)
  have hs0807 : ∀ b, b ∈ L2 → b ∈ L799 := fun b hb => hs802 b (hs0774 b hb)
  have hN808 : [q798].Nodup := List.nodup_cons.mpr ⟨fun h => hq801 (nil_in _ h), List.nodup_nil⟩
  have hNs809 : ∀ b, b ∈ [q798] → b ∈ L799 := List.forall_mem_cons.mpr ⟨hm803, fun b hb => hs802 b (nil_in b hb)⟩
  have hRq810 : ∀ j, j < 5 → ∀ k, k < 10 → aa792 j k ≠ q798 := fun j hj k hk e => hq801 (e ▸ (hR795.1 j hj k hk).1)
  have hR811 : RINGP g L2 L799 f800 5 aa792 := RINGP.tr hR795 hRq810 hs802 (fun b hb _ => ho805 b hb)
  have hfr812 : ∀ b, b ∈ L → b ≠ ac → f800 b = f b := fun b hb z0 => (ho805 b (hsb723 b hb)).trans (hfr780 b hb z0)
  have hnq814 : q798 ∉ L := fun h => hq801 (hsb723 _ h)
  have hsb813 : ∀ b, b ∈ L → b ∈ _ := fun b hb => hs802 b (hsb723 b hb)
  have hf815 := (ho805 ac hm733).trans hf781
  have hn817 : ac ≠ q798 := fun e => hq801 (e ▸ hm733)
  have hm816 := hs802 _ hm733
  have hf818 := (ho805 q1 hm744).trans hf777
  have hn820 : q1 ≠ q798 := fun e => hq801 (e ▸ hm744)
  have hm819 := hs802 _ hm744
  refine lv_dup hx hb dX0_init_29 rfl ?_
  refine call_v (run_IN (rm := { frames := 1, cells := 9, slots := 258, locals := 12 }) hx hb hml hown hts (k_X3_init l g _ _ _ q798 hm803 hf804) cI_X3_init wn_412 ⟨Nat.le_of_ble_eq_true rfl, Nat.le_of_ble_eq_true rfl⟩ hG hE hA hP hD hS rfl hl.1 (As := []) (rest := [.ref q798, .int 5, .ref q1]) rfl (Nat.le_of_ble_eq_true rfl) dX0_init_30 ⟨Nat.le_of_ble_eq_true rfl, Nat.le_of_ble_eq_true rfl⟩) hA hD hS (fun L822 f823 H locs hp824 hP hD hS => ?_)
  obtain ⟨q825, q826, q827, q828, q829, q830, q831, q832, q833, hn834, hm835, hf836, hn837, hm838, hf839, hn840, hm841, hf842, hn843, hm844, hf845, hn846, hm847, hf848, hn849, hm850, hf851, hn852, hm853, hf854, hn855, hm856, hf857, hn858, hm859, hf860, hf861, er862, fr863, sb864⟩ := hp824
  have hN865 : [q825, q826, q827, q828, q829, q830, q831, q832, q833, q798].Nodup := nd_app (l := [q825, q826, q827, q828, q829, q830, q831, q832, q833]) (k := [q798]) er862 (List.forall_mem_cons.mpr ⟨hn834, (List.forall_mem_cons.mpr ⟨hn837, (List.forall_mem_cons.mpr ⟨hn840, (List.forall_mem_cons.mpr ⟨hn843, (List.forall_mem_cons.mpr ⟨hn846, (List.forall_mem_cons.mpr ⟨hn849, (List.forall_mem_cons.mpr ⟨hn852, (List.forall_mem_cons.mpr ⟨hn855, (List.forall_mem_cons.mpr ⟨hn858, (fun _ h => absurd h List.not_mem_nil)⟩)⟩)⟩)⟩)⟩)⟩)⟩)⟩)⟩) hN808 hNs809
  have hNs866 : ∀ b, b ∈ [q825, q826, q827, q828, q829, q830, q831, q832, q833, q798] → b ∈ L822 := fm_app (l := [q825, q826, q827, q828, q829, q830, q831, q832, q833]) (k := [q798]) (List.forall_mem_cons.mpr ⟨hm835, (List.forall_mem_cons.mpr ⟨hm838, (List.forall_mem_cons.mpr ⟨hm841, (List.forall_mem_cons.mpr ⟨hm844, (List.forall_mem_cons.mpr ⟨hm847, (List.forall_mem_cons.mpr ⟨hm850, (List.forall_mem_cons.mpr ⟨hm853, (List.forall_mem_cons.mpr ⟨hm856, (List.forall_mem_cons.mpr ⟨hm859, (fun _ h => absurd h List.not_mem_nil)⟩)⟩)⟩)⟩)⟩)⟩)⟩)⟩)⟩) (fun b hb => sb864 b (hNs809 b hb))
  have hRq867 : ∀ j, j < 5 → ∀ k, k < 10 → aa792 j k ≠ q825 := fun j hj k hk e => hn834 (e ▸ (hR811.1 j hj k hk).1)
  have hRq868 : ∀ j, j < 5 → ∀ k, k < 10 → aa792 j k ≠ q826 := fun j hj k hk e => hn837 (e ▸ (hR811.1 j hj k hk).1)
  have hRq869 : ∀ j, j < 5 → ∀ k, k < 10 → aa792 j k ≠ q827 := fun j hj k hk e => hn840 (e ▸ (hR811.1 j hj k hk).1)
  have hRq870 : ∀ j, j < 5 → ∀ k, k < 10 → aa792 j k ≠ q828 := fun j hj k hk e => hn843 (e ▸ (hR811.1 j hj k hk).1)
  have hRq871 : ∀ j, j < 5 → ∀ k, k < 10 → aa792 j k ≠ q829 := fun j hj k hk e => hn846 (e ▸ (hR811.1 j hj k hk).1)
  have hRq872 : ∀ j, j < 5 → ∀ k, k < 10 → aa792 j k ≠ q830 := fun j hj k hk e => hn849 (e ▸ (hR811.1 j hj k hk).1)
  have hRq873 : ∀ j, j < 5 → ∀ k, k < 10 → aa792 j k ≠ q831 := fun j hj k hk e => hn852 (e ▸ (hR811.1 j hj k hk).1)
  have hRq874 : ∀ j, j < 5 → ∀ k, k < 10 → aa792 j k ≠ q832 := fun j hj k hk e => hn855 (e ▸ (hR811.1 j hj k hk).1)
  have hRq875 : ∀ j, j < 5 → ∀ k, k < 10 → aa792 j k ≠ q833 := fun j hj k hk e => hn858 (e ▸ (hR811.1 j hj k hk).1)
  have hR876 : RINGP g L2 L822 f823 5 aa792 := RINGP.tr hR811 hRq810 sb864 (fun b hb hn => fr863 b hb hn)
  have hfr877 : ∀ b, b ∈ L → b ≠ ac → f823 b = f b := fun b hb z0 => (fr863 b (hsb813 b hb) (fun e => hnq814 (e ▸ hb))).trans (hfr812 b hb z0)
  have hnq879 : q825 ∉ L := fun h => hn834 (hsb813 _ h)
  have hnq880 : q826 ∉ L := fun h => hn837 (hsb813 _ h)
  have hnq881 : q827 ∉ L := fun h => hn840 (hsb813 _ h)
  have hnq882 : q828 ∉ L := fun h => hn843 (hsb813 _ h)
  have hnq883 : q829 ∉ L := fun h => hn846 (hsb813 _ h)
  have hnq884 : q830 ∉ L := fun h => hn849 (hsb813 _ h)
  have hnq885 : q831 ∉ L := fun h => hn852 (hsb813 _ h)
  have hnq886 : q832 ∉ L := fun h => hn855 (hsb813 _ h)
  have hnq887 : q833 ∉ L := fun h => hn858 (hsb813 _ h)
  have hsb878 : ∀ b, b ∈ L → b ∈ L822 := fun b hb => sb864 b (hsb813 b hb)
  have hn889 : ac ≠ q825 := fun e => hn834 (e ▸ hm816)
  have hn890 : ac ≠ q826 := fun e => hn837 (e ▸ hm816)
  have hn891 : ac ≠ q827 := fun e => hn840 (e ▸ hm816)
  have hn892 : ac ≠ q828 := fun e => hn843 (e ▸ hm816)
  have hn893 : ac ≠ q829 := fun e => hn846 (e ▸ hm816)
  have hn894 : ac ≠ q830 := fun e => hn849 (e ▸ hm816)
  have hn895 : ac ≠ q831 := fun e => hn852 (e ▸ hm816)
  have hn896 : ac ≠ q832 := fun e => hn855 (e ▸ hm816)
  have hn897 : ac ≠ q833 := fun e => hn858 (e ▸ hm816)
  have hf898 := (fr863 ac hm816 hn817).trans hf815
  have hm888 := sb864 _ hm816
  have hn900 : q1 ≠ q825 := fun e => hn834 (e ▸ hm819)
  have hn901 : q1 ≠ q826 := fun e => hn837 (e ▸ hm819)
  have hn902 : q1 ≠ q827 := fun e => hn840 (e ▸ hm819)
  have hn903 : q1 ≠ q828 := fun e => hn843 (e ▸ hm819)
  have hn904 : q1 ≠ q829 := fun e => hn846 (e ▸ hm819)
  have hn905 : q1 ≠ q830 := fun e => hn849 (e ▸ hm819)
  have hn906 : q1 ≠ q831 := fun e => hn852 (e ▸ hm819)
  have hn907 : q1 ≠ q832 := fun e => hn855 (e ▸ hm819)
  have hn908 : q1 ≠ q833 := fun e => hn858 (e ▸ hm819)
  have hf909 := (fr863 q1 hm819 hn820).trans hf818
  have hm899 := sb864 _ hm819
  have hn911 : q798 ≠ q825 := fun e => hn834 (e ▸ hm803)
  have hn912 : q798 ≠ q826 := fun e => hn837 (e ▸ hm803)
  have hn913 : q798 ≠ q827 := fun e => hn840 (e ▸ hm803)
  have hn914 : q798 ≠ q828 := fun e => hn843 (e ▸ hm803)
  have hn915 : q798 ≠ q829 := fun e => hn846 (e ▸ hm803)
  have hn916 : q798 ≠ q830 := fun e => hn849 (e ▸ hm803)
  have hn917 : q798 ≠ q831 := fun e => hn852 (e ▸ hm803)
  have hn918 : q798 ≠ q832 := fun e => hn855 (e ▸ hm803)
  have hn919 : q798 ≠ q833 := fun e => hn858 (e ▸ hm803)
  have hm910 := sb864 _ hm803
  have hni920 : q825 ∉ L2 := fun h => hn834 (hs0807 _ h)
  have hni921 : q826 ∉ L2 := fun h => hn837 (hs0807 _ h)
  have hni922 : q827 ∉ L2 := fun h => hn840 (hs0807 _ h)
  have hni923 : q828 ∉ L2 := fun h => hn843 (hs0807 _ h)
  have hni924 : q829 ∉ L2 := fun h => hn846 (hs0807 _ h)
  have hni925 : q830 ∉ L2 := fun h => hn849 (hs0807 _ h)
  have hni926 : q831 ∉ L2 := fun h => hn852 (hs0807 _ h)
  have hni927 : q832 ∉ L2 := fun h => hn855 (hs0807 _ h)
  have hni928 : q833 ∉ L2 := fun h => hn858 (hs0807 _ h)
  have hs0929 : ∀ b, b ∈ L2 → b ∈ L822 := fun b hb => sb864 b (hs0807 b hb)
  refine pl_astq hx hb hG.1 hP hD hS hm899 4 3 hf909 rfl hm910 hf861 rfl (by unfold vp_in; decide) dX0_init_33 (fun H locs f930 r933 er933 hf932 ho931 hP hD hS => ?_)
  have hR934 : RINGP g L2 L822 f930 5 aa792 := RINGP.tr hR876 (fun j hj k hk e => (hR876.1 j hj k hk).2 (e ▸ hm6)) (fun b hb => hb) (fun b _ hb => ho931 b hb)
  have hfr935 : ∀ b, b ∈ L → b ≠ ac → f930 b = f b := fun b hb z0 => (ho931 b (fun e => hnq13 (e ▸ hb))).trans (hfr877 b hb z0)
  have hf936 := (ho931 ac hn16).trans hf898
  have hf937 := (ho931 q798 hn820.symm).trans hf861
  have hf938 := (ho931 q825 hn900.symm).trans hf836
  have hf939 := (ho931 q826 hn901.symm).trans hf839
  have hf940 := (ho931 q827 hn902.symm).trans hf842
  have hf941 := (ho931 q828 hn903.symm).trans hf845
  have hf942 := (ho931 q829 hn904.symm).trans hf848
  have hf943 := (ho931 q830 hn905.symm).trans hf851
  have hf944 := (ho931 q831 hn906.symm).trans hf854
  have hf945 := (ho931 q832 hn907.symm).trans hf857
  have hf946 := (ho931 q833 hn908.symm).trans hf860
  obtain ⟨aa947, ea948, eb949, hR950⟩ := RINGP.add (l := [q825, q826, q827, q828, q829, q830, q831, q832, q833, q798]) hR934 rfl hN865 (List.forall_mem_cons.mpr ⟨⟨hm835, hni920⟩, (List.forall_mem_cons.mpr ⟨⟨hm838, hni921⟩, (List.forall_mem_cons.mpr ⟨⟨hm841, hni922⟩, (List.forall_mem_cons.mpr ⟨⟨hm844, hni923⟩, (List.forall_mem_cons.mpr ⟨⟨hm847, hni924⟩, (List.forall_mem_cons.mpr ⟨⟨hm850, hni925⟩, (List.forall_mem_cons.mpr ⟨⟨hm853, hni926⟩, (List.forall_mem_cons.mpr ⟨⟨hm856, hni927⟩, (List.forall_mem_cons.mpr ⟨⟨hm859, hni928⟩, (List.forall_mem_cons.mpr ⟨⟨hm910, hni806⟩, (fun _ h => absurd h List.not_mem_nil)⟩)⟩)⟩)⟩)⟩)⟩)⟩)⟩)⟩)⟩) (List.forall_mem_cons.mpr ⟨hRq867, (List.forall_mem_cons.mpr ⟨hRq868, (List.forall_mem_cons.mpr ⟨hRq869, (List.forall_mem_cons.mpr ⟨hRq870, (List.forall_mem_cons.mpr ⟨hRq871, (List.forall_mem_cons.mpr ⟨hRq872, (List.forall_mem_cons.mpr ⟨hRq873, (List.forall_mem_cons.mpr ⟨hRq874, (List.forall_mem_cons.mpr ⟨hRq875, (List.forall_mem_cons.mpr ⟨hRq810, (fun _ h => absurd h List.not_mem_nil)⟩)⟩)⟩)⟩)⟩)⟩)⟩)⟩)⟩)⟩) (fun k hk => match k, hk with | 0, _ => hf937 | 1, _ => hf946 | 2, _ => hf945 | 3, _ => hf944 | 4, _ => hf943 | 5, _ => hf942 | 6, _ => hf941 | 7, _ => hf940 | 8, _ => hf939 | 9, _ => hf938 | k + 10, h => absurd h (by omega))
  have hrr951 : ∀ j, j < 6 → r933 j = some (aa947 j 0) := rr_step hrr796 er933 (by decide) ea948 (eb949.symm ▸ rfl)
  refine lv_iinc (v := 6) (lv' := [(1, .int 6), (0, .ref ac)]) hx hb dX0_init_34 hl (k := 0) rfl (by decide) (by decide) rfl (fun ls hl => ?_)
  refine lv_goto (tgt := 15) hx hb dX0_init_37 (by decide) ?_
  refine lv_iload_n hx hb dX0_init_15 rfl (lv_at hl 0 rfl) ?_
  refine lv_bipush (v := 20) hx hb dX0_init_16 (by decide) ?_
  refine lv_icmp_ge (tgt := 40) hx hb dX0_init_18 (by decide) (fun c952 => absurd c952 (by decide)) (fun c952 => ?_)
  refine lv_aload_n hx hb dX0_init_21 rfl (lv_at hl 1 rfl) ?_
  refine pl_get (v := .ref q1) hx hb hts (fun w h => mT (inX0 w h)) hown hG.1 hP hm888 hf936 rfl 0 (by decide) (hts _ (mT wg_413)) (fun _ h => h) rfl dX0_init_22 ?_
  refine lv_iload_n hx hb dX0_init_25 rfl (lv_at hl 0 rfl) ?_
  refine pl_new (ci := 3) (fs := [.int 0, .int 0, .int 0, .int 0, .int 0, .int 0, .int 0, .long 0, .long 0, .null, .null, .null, .null, .null, .null, .null, .null, .null]) (C := RX3) (T := TX3) (N := 18) hx hb hts (fun w h => mT (inX3 w h)) tyX3 tyX3_ok hown (hts _ (mT wg_410)) (hts _ (mT wg_330)) (hts _ (mT wg_165)) hG.1 hP hD hS hA rfl dvX3 (Nat.le_of_ble_eq_true rfl) (Nat.le_of_ble_eq_true rfl) dX0_init_26 (fun q953 H L954 f955 hq956 hs957 hm958 hf959 ho960 hP hD hS => ?_)
  have hni961 : q953 ∉ L2 := fun h => hq956 (hs0929 _ h)
  have hs0962 : ∀ b, b ∈ L2 → b ∈ L954 := fun b hb => hs957 b (hs0929 b hb)
  have hN963 : [q953].Nodup := List.nodup_cons.mpr ⟨fun h => hq956 (nil_in _ h), List.nodup_nil⟩
  have hNs964 : ∀ b, b ∈ [q953] → b ∈ L954 := List.forall_mem_cons.mpr ⟨hm958, fun b hb => hs957 b (nil_in b hb)⟩
  have hRq965 : ∀ j, j < 6 → ∀ k, k < 10 → aa947 j k ≠ q953 := fun j hj k hk e => hq956 (e ▸ (hR950.1 j hj k hk).1)
  have hR966 : RINGP g L2 L954 f955 6 aa947 := RINGP.tr hR950 hRq965 hs957 (fun b hb _ => ho960 b hb)
  have hfr967 : ∀ b, b ∈ L → b ≠ ac → f955 b = f b := fun b hb z0 => (ho960 b (hsb878 b hb)).trans (hfr935 b hb z0)
  have hnq969 : q953 ∉ L := fun h => hq956 (hsb878 _ h)
  have hsb968 : ∀ b, b ∈ L → b ∈ _ := fun b hb => hs957 b (hsb878 b hb)
  have hf970 := (ho960 ac hm888).trans hf936
  have hn972 : ac ≠ q953 := fun e => hq956 (e ▸ hm888)
  have hm971 := hs957 _ hm888
  have hf973 := (ho960 q1 hm899).trans hf932
  have hn975 : q1 ≠ q953 := fun e => hq956 (e ▸ hm899)
  have hm974 := hs957 _ hm899
  refine lv_dup hx hb dX0_init_29 rfl ?_
  refine call_v (run_IN (rm := { frames := 1, cells := 9, slots := 258, locals := 12 }) hx hb hml hown hts (k_X3_init l g _ _ _ q953 hm958 hf959) cI_X3_init wn_412 ⟨Nat.le_of_ble_eq_true rfl, Nat.le_of_ble_eq_true rfl⟩ hG hE hA hP hD hS rfl hl.1 (As := []) (rest := [.ref q953, .int 6, .ref q1]) rfl (Nat.le_of_ble_eq_true rfl) dX0_init_30 ⟨Nat.le_of_ble_eq_true rfl, Nat.le_of_ble_eq_true rfl⟩) hA hD hS (fun L977 f978 H locs hp979 hP hD hS => ?_)
  obtain ⟨q980, q981, q982, q983, q984, q985, q986, q987, q988, hn989, hm990, hf991, hn992, hm993, hf994, hn995, hm996, hf997, hn998, hm999, hf1000, hn1001, hm1002, hf1003, hn1004, hm1005, hf1006, hn1007, hm1008, hf1009, hn1010, hm1011, hf1012, hn1013, hm1014, hf1015, hf1016, er1017, fr1018, sb1019⟩ := hp979
  have hN1020 : [q980, q981, q982, q983, q984, q985, q986, q987, q988, q953].Nodup := nd_app (l := [q980, q981, q982, q983, q984, q985, q986, q987, q988]) (k := [q953]) er1017 (List.forall_mem_cons.mpr ⟨hn989, (List.forall_mem_cons.mpr ⟨hn992, (List.forall_mem_cons.mpr ⟨hn995, (List.forall_mem_cons.mpr ⟨hn998, (List.forall_mem_cons.mpr ⟨hn1001, (List.forall_mem_cons.mpr ⟨hn1004, (List.forall_mem_cons.mpr ⟨hn1007, (List.forall_mem_cons.mpr ⟨hn1010, (List.forall_mem_cons.mpr ⟨hn1013, (fun _ h => absurd h List.not_mem_nil)⟩)⟩)⟩)⟩)⟩)⟩)⟩)⟩)⟩) hN963 hNs964
  have hNs1021 : ∀ b, b ∈ [q980, q981, q982, q983, q984, q985, q986, q987, q988, q953] → b ∈ L977 := fm_app (l := [q980, q981, q982, q983, q984, q985, q986, q987, q988]) (k := [q953]) (List.forall_mem_cons.mpr ⟨hm990, (List.forall_mem_cons.mpr ⟨hm993, (List.forall_mem_cons.mpr ⟨hm996, (List.forall_mem_cons.mpr ⟨hm999, (List.forall_mem_cons.mpr ⟨hm1002, (List.forall_mem_cons.mpr ⟨hm1005, (List.forall_mem_cons.mpr ⟨hm1008, (List.forall_mem_cons.mpr ⟨hm1011, (List.forall_mem_cons.mpr ⟨hm1014, (fun _ h => absurd h List.not_mem_nil)⟩)⟩)⟩)⟩)⟩)⟩)⟩)⟩)⟩) (fun b hb => sb1019 b (hNs964 b hb))
  have hRq1022 : ∀ j, j < 6 → ∀ k, k < 10 → aa947 j k ≠ q980 := fun j hj k hk e => hn989 (e ▸ (hR966.1 j hj k hk).1)
  have hRq1023 : ∀ j, j < 6 → ∀ k, k < 10 → aa947 j k ≠ q981 := fun j hj k hk e => hn992 (e ▸ (hR966.1 j hj k hk).1)
  have hRq1024 : ∀ j, j < 6 → ∀ k, k < 10 → aa947 j k ≠ q982 := fun j hj k hk e => hn995 (e ▸ (hR966.1 j hj k hk).1)
  have hRq1025 : ∀ j, j < 6 → ∀ k, k < 10 → aa947 j k ≠ q983 := fun j hj k hk e => hn998 (e ▸ (hR966.1 j hj k hk).1)
  have hRq1026 : ∀ j, j < 6 → ∀ k, k < 10 → aa947 j k ≠ q984 := fun j hj k hk e => hn1001 (e ▸ (hR966.1 j hj k hk).1)
  have hRq1027 : ∀ j, j < 6 → ∀ k, k < 10 → aa947 j k ≠ q985 := fun j hj k hk e => hn1004 (e ▸ (hR966.1 j hj k hk).1)
  have hRq1028 : ∀ j, j < 6 → ∀ k, k < 10 → aa947 j k ≠ q986 := fun j hj k hk e => hn1007 (e ▸ (hR966.1 j hj k hk).1)
  have hRq1029 : ∀ j, j < 6 → ∀ k, k < 10 → aa947 j k ≠ q987 := fun j hj k hk e => hn1010 (e ▸ (hR966.1 j hj k hk).1)
  have hRq1030 : ∀ j, j < 6 → ∀ k, k < 10 → aa947 j k ≠ q988 := fun j hj k hk e => hn1013 (e ▸ (hR966.1 j hj k hk).1)
  have hR1031 : RINGP g L2 L977 f978 6 aa947 := RINGP.tr hR966 hRq965 sb1019 (fun b hb hn => fr1018 b hb hn)
  have hfr1032 : ∀ b, b ∈ L → b ≠ ac → f978 b = f b := fun b hb z0 => (fr1018 b (hsb968 b hb) (fun e => hnq969 (e ▸ hb))).trans (hfr967 b hb z0)
  have hnq1034 : q980 ∉ L := fun h => hn989 (hsb968 _ h)
  have hnq1035 : q981 ∉ L := fun h => hn992 (hsb968 _ h)
  have hnq1036 : q982 ∉ L := fun h => hn995 (hsb968 _ h)
  have hnq1037 : q983 ∉ L := fun h => hn998 (hsb968 _ h)
  have hnq1038 : q984 ∉ L := fun h => hn1001 (hsb968 _ h)
  have hnq1039 : q985 ∉ L := fun h => hn1004 (hsb968 _ h)
  have hnq1040 : q986 ∉ L := fun h => hn1007 (hsb968 _ h)
  have hnq1041 : q987 ∉ L := fun h => hn1010 (hsb968 _ h)
  have hnq1042 : q988 ∉ L := fun h => hn1013 (hsb968 _ h)
  have hsb1033 : ∀ b, b ∈ L → b ∈ L977 := fun b hb => sb1019 b (hsb968 b hb)
  have hn1044 : ac ≠ q980 := fun e => hn989 (e ▸ hm971)
  have hn1045 : ac ≠ q981 := fun e => hn992 (e ▸ hm971)
  have hn1046 : ac ≠ q982 := fun e => hn995 (e ▸ hm971)
  have hn1047 : ac ≠ q983 := fun e => hn998 (e ▸ hm971)
  have hn1048 : ac ≠ q984 := fun e => hn1001 (e ▸ hm971)
  have hn1049 : ac ≠ q985 := fun e => hn1004 (e ▸ hm971)
  have hn1050 : ac ≠ q986 := fun e => hn1007 (e ▸ hm971)
  have hn1051 : ac ≠ q987 := fun e => hn1010 (e ▸ hm971)
  have hn1052 : ac ≠ q988 := fun e => hn1013 (e ▸ hm971)
  have hf1053 := (fr1018 ac hm971 hn972).trans hf970
  have hm1043 := sb1019 _ hm971
  have hn1055 : q1 ≠ q980 := fun e => hn989 (e ▸ hm974)
  have hn1056 : q1 ≠ q981 := fun e => hn992 (e ▸ hm974)
  have hn1057 : q1 ≠ q982 := fun e => hn995 (e ▸ hm974)
  have hn1058 : q1 ≠ q983 := fun e => hn998 (e ▸ hm974)
  have hn1059 : q1 ≠ q984 := fun e => hn1001 (e ▸ hm974)
  have hn1060 : q1 ≠ q985 := fun e => hn1004 (e ▸ hm974)
  have hn1061 : q1 ≠ q986 := fun e => hn1007 (e ▸ hm974)
  have hn1062 : q1 ≠ q987 := fun e => hn1010 (e ▸ hm974)
  have hn1063 : q1 ≠ q988 := fun e => hn1013 (e ▸ hm974)
  have hf1064 := (fr1018 q1 hm974 hn975).trans hf973
  have hm1054 := sb1019 _ hm974
  have hn1066 : q953 ≠ q980 := fun e => hn989 (e ▸ hm958)
  have hn1067 : q953 ≠ q981 := fun e => hn992 (e ▸ hm958)
  have hn1068 : q953 ≠ q982 := fun e => hn995 (e ▸ hm958)
  have hn1069 : q953 ≠ q983 := fun e => hn998 (e ▸ hm958)
  have hn1070 : q953 ≠ q984 := fun e => hn1001 (e ▸ hm958)
  have hn1071 : q953 ≠ q985 := fun e => hn1004 (e ▸ hm958)
  have hn1072 : q953 ≠ q986 := fun e => hn1007 (e ▸ hm958)
  have hn1073 : q953 ≠ q987 := fun e => hn1010 (e ▸ hm958)
  have hn1074 : q953 ≠ q988 := fun e => hn1013 (e ▸ hm958)
  have hm1065 := sb1019 _ hm958
  have hni1075 : q980 ∉ L2 := fun h => hn989 (hs0962 _ h)
  have hni1076 : q981 ∉ L2 := fun h => hn992 (hs0962 _ h)
  have hni1077 : q982 ∉ L2 := fun h => hn995 (hs0962 _ h)
  have hni1078 : q983 ∉ L2 := fun h => hn998 (hs0962 _ h)
  have hni1079 : q984 ∉ L2 := fun h => hn1001 (hs0962 _ h)
  have hni1080 : q985 ∉ L2 := fun h => hn1004 (hs0962 _ h)
  have hni1081 : q986 ∉ L2 := fun h => hn1007 (hs0962 _ h)
  have hni1082 : q987 ∉ L2 := fun h => hn1010 (hs0962 _ h)
  have hni1083 : q988 ∉ L2 := fun h => hn1013 (hs0962 _ h)
  have hs01084 : ∀ b, b ∈ L2 → b ∈ L977 := fun b hb => sb1019 b (hs0962 b hb)
  refine pl_astq hx hb hG.1 hP hD hS hm1054 4 3 hf1064 rfl hm1065 hf1016 rfl (by unfold vp_in; decide) dX0_init_33 (fun H locs f1085 r1088 er1088 hf1087 ho1086 hP hD hS => ?_)
  have hR1089 : RINGP g L2 L977 f1085 6 aa947 := RINGP.tr hR1031 (fun j hj k hk e => (hR1031.1 j hj k hk).2 (e ▸ hm6)) (fun b hb => hb) (fun b _ hb => ho1086 b hb)
  have hfr1090 : ∀ b, b ∈ L → b ≠ ac → f1085 b = f b := fun b hb z0 => (ho1086 b (fun e => hnq13 (e ▸ hb))).trans (hfr1032 b hb z0)
  have hf1091 := (ho1086 ac hn16).trans hf1053
  have hf1092 := (ho1086 q953 hn975.symm).trans hf1016
  have hf1093 := (ho1086 q980 hn1055.symm).trans hf991
  have hf1094 := (ho1086 q981 hn1056.symm).trans hf994
  have hf1095 := (ho1086 q982 hn1057.symm).trans hf997
  have hf1096 := (ho1086 q983 hn1058.symm).trans hf1000
  have hf1097 := (ho1086 q984 hn1059.symm).trans hf1003
  have hf1098 := (ho1086 q985 hn1060.symm).trans hf1006
  have hf1099 := (ho1086 q986 hn1061.symm).trans hf1009
  have hf1100 := (ho1086 q987 hn1062.symm).trans hf1012
  have hf1101 := (ho1086 q988 hn1063.symm).trans hf1015
  obtain ⟨aa1102, ea1103, eb1104, hR1105⟩ := RINGP.add (l := [q980, q981, q982, q983, q984, q985, q986, q987, q988, q953]) hR1089 rfl hN1020 (List.forall_mem_cons.mpr ⟨⟨hm990, hni1075⟩, (List.forall_mem_cons.mpr ⟨⟨hm993, hni1076⟩, (List.forall_mem_cons.mpr ⟨⟨hm996, hni1077⟩, (List.forall_mem_cons.mpr ⟨⟨hm999, hni1078⟩, (List.forall_mem_cons.mpr ⟨⟨hm1002, hni1079⟩, (List.forall_mem_cons.mpr ⟨⟨hm1005, hni1080⟩, (List.forall_mem_cons.mpr ⟨⟨hm1008, hni1081⟩, (List.forall_mem_cons.mpr ⟨⟨hm1011, hni1082⟩, (List.forall_mem_cons.mpr ⟨⟨hm1014, hni1083⟩, (List.forall_mem_cons.mpr ⟨⟨hm1065, hni961⟩, (fun _ h => absurd h List.not_mem_nil)⟩)⟩)⟩)⟩)⟩)⟩)⟩)⟩)⟩)⟩) (List.forall_mem_cons.mpr ⟨hRq1022, (List.forall_mem_cons.mpr ⟨hRq1023, (List.forall_mem_cons.mpr ⟨hRq1024, (List.forall_mem_cons.mpr ⟨hRq1025, (List.forall_mem_cons.mpr ⟨hRq1026, (List.forall_mem_cons.mpr ⟨hRq1027, (List.forall_mem_cons.mpr ⟨hRq1028, (List.forall_mem_cons.mpr ⟨hRq1029, (List.forall_mem_cons.mpr ⟨hRq1030, (List.forall_mem_cons.mpr ⟨hRq965, (fun _ h => absurd h List.not_mem_nil)⟩)⟩)⟩)⟩)⟩)⟩)⟩)⟩)⟩)⟩) (fun k hk => match k, hk with | 0, _ => hf1092 | 1, _ => hf1101 | 2, _ => hf1100 | 3, _ => hf1099 | 4, _ => hf1098 | 5, _ => hf1097 | 6, _ => hf1096 | 7, _ => hf1095 | 8, _ => hf1094 | 9, _ => hf1093 | k + 10, h => absurd h (by omega))
  have hrr1106 : ∀ j, j < 7 → r1088 j = some (aa1102 j 0) := rr_step hrr951 er1088 (by decide) ea1103 (eb1104.symm ▸ rfl)
  refine lv_iinc (v := 7) (lv' := [(1, .int 7), (0, .ref ac)]) hx hb dX0_init_34 hl (k := 0) rfl (by decide) (by decide) rfl (fun ls hl => ?_)
  refine lv_goto (tgt := 15) hx hb dX0_init_37 (by decide) ?_
  refine lv_iload_n hx hb dX0_init_15 rfl (lv_at hl 0 rfl) ?_
  refine lv_bipush (v := 20) hx hb dX0_init_16 (by decide) ?_
  refine lv_icmp_ge (tgt := 40) hx hb dX0_init_18 (by decide) (fun c1107 => absurd c1107 (by decide)) (fun c1107 => ?_)
  refine lv_aload_n hx hb dX0_init_21 rfl (lv_at hl 1 rfl) ?_
  refine pl_get (v := .ref q1) hx hb hts (fun w h => mT (inX0 w h)) hown hG.1 hP hm1043 hf1091 rfl 0 (by decide) (hts _ (mT wg_413)) (fun _ h => h) rfl dX0_init_22 ?_
  refine lv_iload_n hx hb dX0_init_25 rfl (lv_at hl 0 rfl) ?_
  refine pl_new (ci := 3) (fs := [.int 0, .int 0, .int 0, .int 0, .int 0, .int 0, .int 0, .long 0, .long 0, .null, .null, .null, .null, .null, .null, .null, .null, .null]) (C := RX3) (T := TX3) (N := 18) hx hb hts (fun w h => mT (inX3 w h)) tyX3 tyX3_ok hown (hts _ (mT wg_410)) (hts _ (mT wg_330)) (hts _ (mT wg_165)) hG.1 hP hD hS hA rfl dvX3 (Nat.le_of_ble_eq_true rfl) (Nat.le_of_ble_eq_true rfl) dX0_init_26 (fun q1108 H L1109 f1110 hq1111 hs1112 hm1113 hf1114 ho1115 hP hD hS => ?_)
  have hni1116 : q1108 ∉ L2 := fun h => hq1111 (hs01084 _ h)
  have hs01117 : ∀ b, b ∈ L2 → b ∈ L1109 := fun b hb => hs1112 b (hs01084 b hb)
  have hN1118 : [q1108].Nodup := List.nodup_cons.mpr ⟨fun h => hq1111 (nil_in _ h), List.nodup_nil⟩
  have hNs1119 : ∀ b, b ∈ [q1108] → b ∈ L1109 := List.forall_mem_cons.mpr ⟨hm1113, fun b hb => hs1112 b (nil_in b hb)⟩
  have hRq1120 : ∀ j, j < 7 → ∀ k, k < 10 → aa1102 j k ≠ q1108 := fun j hj k hk e => hq1111 (e ▸ (hR1105.1 j hj k hk).1)
  have hR1121 : RINGP g L2 L1109 f1110 7 aa1102 := RINGP.tr hR1105 hRq1120 hs1112 (fun b hb _ => ho1115 b hb)
  have hfr1122 : ∀ b, b ∈ L → b ≠ ac → f1110 b = f b := fun b hb z0 => (ho1115 b (hsb1033 b hb)).trans (hfr1090 b hb z0)
  have hnq1124 : q1108 ∉ L := fun h => hq1111 (hsb1033 _ h)
  have hsb1123 : ∀ b, b ∈ L → b ∈ _ := fun b hb => hs1112 b (hsb1033 b hb)
  have hf1125 := (ho1115 ac hm1043).trans hf1091
  have hn1127 : ac ≠ q1108 := fun e => hq1111 (e ▸ hm1043)
  have hm1126 := hs1112 _ hm1043
  have hf1128 := (ho1115 q1 hm1054).trans hf1087
  have hn1130 : q1 ≠ q1108 := fun e => hq1111 (e ▸ hm1054)
  have hm1129 := hs1112 _ hm1054
  refine lv_dup hx hb dX0_init_29 rfl ?_
  refine call_v (run_IN (rm := { frames := 1, cells := 9, slots := 258, locals := 12 }) hx hb hml hown hts (k_X3_init l g _ _ _ q1108 hm1113 hf1114) cI_X3_init wn_412 ⟨Nat.le_of_ble_eq_true rfl, Nat.le_of_ble_eq_true rfl⟩ hG hE hA hP hD hS rfl hl.1 (As := []) (rest := [.ref q1108, .int 7, .ref q1]) rfl (Nat.le_of_ble_eq_true rfl) dX0_init_30 ⟨Nat.le_of_ble_eq_true rfl, Nat.le_of_ble_eq_true rfl⟩) hA hD hS (fun L1132 f1133 H locs hp1134 hP hD hS => ?_)
  obtain ⟨q1135, q1136, q1137, q1138, q1139, q1140, q1141, q1142, q1143, hn1144, hm1145, hf1146, hn1147, hm1148, hf1149, hn1150, hm1151, hf1152, hn1153, hm1154, hf1155, hn1156, hm1157, hf1158, hn1159, hm1160, hf1161, hn1162, hm1163, hf1164, hn1165, hm1166, hf1167, hn1168, hm1169, hf1170, hf1171, er1172, fr1173, sb1174⟩ := hp1134
  have hN1175 : [q1135, q1136, q1137, q1138, q1139, q1140, q1141, q1142, q1143, q1108].Nodup := nd_app (l := [q1135, q1136, q1137, q1138, q1139, q1140, q1141, q1142, q1143]) (k := [q1108]) er1172 (List.forall_mem_cons.mpr ⟨hn1144, (List.forall_mem_cons.mpr ⟨hn1147, (List.forall_mem_cons.mpr ⟨hn1150, (List.forall_mem_cons.mpr ⟨hn1153, (List.forall_mem_cons.mpr ⟨hn1156, (List.forall_mem_cons.mpr ⟨hn1159, (List.forall_mem_cons.mpr ⟨hn1162, (List.forall_mem_cons.mpr ⟨hn1165, (List.forall_mem_cons.mpr ⟨hn1168, (fun _ h => absurd h List.not_mem_nil)⟩)⟩)⟩)⟩)⟩)⟩)⟩)⟩)⟩) hN1118 hNs1119
  have hNs1176 : ∀ b, b ∈ [q1135, q1136, q1137, q1138, q1139, q1140, q1141, q1142, q1143, q1108] → b ∈ L1132 := fm_app (l := [q1135, q1136, q1137, q1138, q1139, q1140, q1141, q1142, q1143]) (k := [q1108]) (List.forall_mem_cons.mpr ⟨hm1145, (List.forall_mem_cons.mpr ⟨hm1148, (List.forall_mem_cons.mpr ⟨hm1151, (List.forall_mem_cons.mpr ⟨hm1154, (List.forall_mem_cons.mpr ⟨hm1157, (List.forall_mem_cons.mpr ⟨hm1160, (List.forall_mem_cons.mpr ⟨hm1163, (List.forall_mem_cons.mpr ⟨hm1166, (List.forall_mem_cons.mpr ⟨hm1169, (fun _ h => absurd h List.not_mem_nil)⟩)⟩)⟩)⟩)⟩)⟩)⟩)⟩)⟩) (fun b hb => sb1174 b (hNs1119 b hb))
  have hRq1177 : ∀ j, j < 7 → ∀ k, k < 10 → aa1102 j k ≠ q1135 := fun j hj k hk e => hn1144 (e ▸ (hR1121.1 j hj k hk).1)
  have hRq1178 : ∀ j, j < 7 → ∀ k, k < 10 → aa1102 j k ≠ q1136 := fun j hj k hk e => hn1147 (e ▸ (hR1121.1 j hj k hk).1)
  have hRq1179 : ∀ j, j < 7 → ∀ k, k < 10 → aa1102 j k ≠ q1137 := fun j hj k hk e => hn1150 (e ▸ (hR1121.1 j hj k hk).1)
  have hRq1180 : ∀ j, j < 7 → ∀ k, k < 10 → aa1102 j k ≠ q1138 := fun j hj k hk e => hn1153 (e ▸ (hR1121.1 j hj k hk).1)
  have hRq1181 : ∀ j, j < 7 → ∀ k, k < 10 → aa1102 j k ≠ q1139 := fun j hj k hk e => hn1156 (e ▸ (hR1121.1 j hj k hk).1)
  have hRq1182 : ∀ j, j < 7 → ∀ k, k < 10 → aa1102 j k ≠ q1140 := fun j hj k hk e => hn1159 (e ▸ (hR1121.1 j hj k hk).1)
  have hRq1183 : ∀ j, j < 7 → ∀ k, k < 10 → aa1102 j k ≠ q1141 := fun j hj k hk e => hn1162 (e ▸ (hR1121.1 j hj k hk).1)
  have hRq1184 : ∀ j, j < 7 → ∀ k, k < 10 → aa1102 j k ≠ q1142 := fun j hj k hk e => hn1165 (e ▸ (hR1121.1 j hj k hk).1)
  have hRq1185 : ∀ j, j < 7 → ∀ k, k < 10 → aa1102 j k ≠ q1143 := fun j hj k hk e => hn1168 (e ▸ (hR1121.1 j hj k hk).1)
  have hR1186 : RINGP g L2 L1132 f1133 7 aa1102 := RINGP.tr hR1121 hRq1120 sb1174 (fun b hb hn => fr1173 b hb hn)
  have hfr1187 : ∀ b, b ∈ L → b ≠ ac → f1133 b = f b := fun b hb z0 => (fr1173 b (hsb1123 b hb) (fun e => hnq1124 (e ▸ hb))).trans (hfr1122 b hb z0)
  have hnq1189 : q1135 ∉ L := fun h => hn1144 (hsb1123 _ h)
  have hnq1190 : q1136 ∉ L := fun h => hn1147 (hsb1123 _ h)
  have hnq1191 : q1137 ∉ L := fun h => hn1150 (hsb1123 _ h)
  have hnq1192 : q1138 ∉ L := fun h => hn1153 (hsb1123 _ h)
  have hnq1193 : q1139 ∉ L := fun h => hn1156 (hsb1123 _ h)
  have hnq1194 : q1140 ∉ L := fun h => hn1159 (hsb1123 _ h)
  have hnq1195 : q1141 ∉ L := fun h => hn1162 (hsb1123 _ h)
  have hnq1196 : q1142 ∉ L := fun h => hn1165 (hsb1123 _ h)
  have hnq1197 : q1143 ∉ L := fun h => hn1168 (hsb1123 _ h)
  have hsb1188 : ∀ b, b ∈ L → b ∈ L1132 := fun b hb => sb1174 b (hsb1123 b hb)
  have hn1199 : ac ≠ q1135 := fun e => hn1144 (e ▸ hm1126)
  have hn1200 : ac ≠ q1136 := fun e => hn1147 (e ▸ hm1126)
  have hn1201 : ac ≠ q1137 := fun e => hn1150 (e ▸ hm1126)
  have hn1202 : ac ≠ q1138 := fun e => hn1153 (e ▸ hm1126)
  have hn1203 : ac ≠ q1139 := fun e => hn1156 (e ▸ hm1126)
  have hn1204 : ac ≠ q1140 := fun e => hn1159 (e ▸ hm1126)
  have hn1205 : ac ≠ q1141 := fun e => hn1162 (e ▸ hm1126)
  have hn1206 : ac ≠ q1142 := fun e => hn1165 (e ▸ hm1126)
  have hn1207 : ac ≠ q1143 := fun e => hn1168 (e ▸ hm1126)
  have hf1208 := (fr1173 ac hm1126 hn1127).trans hf1125
  have hm1198 := sb1174 _ hm1126
  have hn1210 : q1 ≠ q1135 := fun e => hn1144 (e ▸ hm1129)
  have hn1211 : q1 ≠ q1136 := fun e => hn1147 (e ▸ hm1129)
  have hn1212 : q1 ≠ q1137 := fun e => hn1150 (e ▸ hm1129)
  have hn1213 : q1 ≠ q1138 := fun e => hn1153 (e ▸ hm1129)
  have hn1214 : q1 ≠ q1139 := fun e => hn1156 (e ▸ hm1129)
  have hn1215 : q1 ≠ q1140 := fun e => hn1159 (e ▸ hm1129)
  have hn1216 : q1 ≠ q1141 := fun e => hn1162 (e ▸ hm1129)
  have hn1217 : q1 ≠ q1142 := fun e => hn1165 (e ▸ hm1129)
  have hn1218 : q1 ≠ q1143 := fun e => hn1168 (e ▸ hm1129)
  have hf1219 := (fr1173 q1 hm1129 hn1130).trans hf1128
  have hm1209 := sb1174 _ hm1129
  have hn1221 : q1108 ≠ q1135 := fun e => hn1144 (e ▸ hm1113)
  have hn1222 : q1108 ≠ q1136 := fun e => hn1147 (e ▸ hm1113)
  have hn1223 : q1108 ≠ q1137 := fun e => hn1150 (e ▸ hm1113)
  have hn1224 : q1108 ≠ q1138 := fun e => hn1153 (e ▸ hm1113)
  have hn1225 : q1108 ≠ q1139 := fun e => hn1156 (e ▸ hm1113)
  have hn1226 : q1108 ≠ q1140 := fun e => hn1159 (e ▸ hm1113)
  have hn1227 : q1108 ≠ q1141 := fun e => hn1162 (e ▸ hm1113)
  have hn1228 : q1108 ≠ q1142 := fun e => hn1165 (e ▸ hm1113)
  have hn1229 : q1108 ≠ q1143 := fun e => hn1168 (e ▸ hm1113)
  have hm1220 := sb1174 _ hm1113
  have hni1230 : q1135 ∉ L2 := fun h => hn1144 (hs01117 _ h)
  have hni1231 : q1136 ∉ L2 := fun h => hn1147 (hs01117 _ h)
  have hni1232 : q1137 ∉ L2 := fun h => hn1150 (hs01117 _ h)
  have hni1233 : q1138 ∉ L2 := fun h => hn1153 (hs01117 _ h)
  have hni1234 : q1139 ∉ L2 := fun h => hn1156 (hs01117 _ h)
  have hni1235 : q1140 ∉ L2 := fun h => hn1159 (hs01117 _ h)
  have hni1236 : q1141 ∉ L2 := fun h => hn1162 (hs01117 _ h)
  have hni1237 : q1142 ∉ L2 := fun h => hn1165 (hs01117 _ h)
  have hni1238 : q1143 ∉ L2 := fun h => hn1168 (hs01117 _ h)
  have hs01239 : ∀ b, b ∈ L2 → b ∈ L1132 := fun b hb => sb1174 b (hs01117 b hb)
  refine pl_astq hx hb hG.1 hP hD hS hm1209 4 3 hf1219 rfl hm1220 hf1171 rfl (by unfold vp_in; decide) dX0_init_33 (fun H locs f1240 r1243 er1243 hf1242 ho1241 hP hD hS => ?_)
  have hR1244 : RINGP g L2 L1132 f1240 7 aa1102 := RINGP.tr hR1186 (fun j hj k hk e => (hR1186.1 j hj k hk).2 (e ▸ hm6)) (fun b hb => hb) (fun b _ hb => ho1241 b hb)
  have hfr1245 : ∀ b, b ∈ L → b ≠ ac → f1240 b = f b := fun b hb z0 => (ho1241 b (fun e => hnq13 (e ▸ hb))).trans (hfr1187 b hb z0)
  have hf1246 := (ho1241 ac hn16).trans hf1208
  have hf1247 := (ho1241 q1108 hn1130.symm).trans hf1171
  have hf1248 := (ho1241 q1135 hn1210.symm).trans hf1146
  have hf1249 := (ho1241 q1136 hn1211.symm).trans hf1149
  have hf1250 := (ho1241 q1137 hn1212.symm).trans hf1152
  have hf1251 := (ho1241 q1138 hn1213.symm).trans hf1155
  have hf1252 := (ho1241 q1139 hn1214.symm).trans hf1158
  have hf1253 := (ho1241 q1140 hn1215.symm).trans hf1161
  have hf1254 := (ho1241 q1141 hn1216.symm).trans hf1164
  have hf1255 := (ho1241 q1142 hn1217.symm).trans hf1167
  have hf1256 := (ho1241 q1143 hn1218.symm).trans hf1170
  obtain ⟨aa1257, ea1258, eb1259, hR1260⟩ := RINGP.add (l := [q1135, q1136, q1137, q1138, q1139, q1140, q1141, q1142, q1143, q1108]) hR1244 rfl hN1175 (List.forall_mem_cons.mpr ⟨⟨hm1145, hni1230⟩, (List.forall_mem_cons.mpr ⟨⟨hm1148, hni1231⟩, (List.forall_mem_cons.mpr ⟨⟨hm1151, hni1232⟩, (List.forall_mem_cons.mpr ⟨⟨hm1154, hni1233⟩, (List.forall_mem_cons.mpr ⟨⟨hm1157, hni1234⟩, (List.forall_mem_cons.mpr ⟨⟨hm1160, hni1235⟩, (List.forall_mem_cons.mpr ⟨⟨hm1163, hni1236⟩, (List.forall_mem_cons.mpr ⟨⟨hm1166, hni1237⟩, (List.forall_mem_cons.mpr ⟨⟨hm1169, hni1238⟩, (List.forall_mem_cons.mpr ⟨⟨hm1220, hni1116⟩, (fun _ h => absurd h List.not_mem_nil)⟩)⟩)⟩)⟩)⟩)⟩)⟩)⟩)⟩)⟩) (List.forall_mem_cons.mpr ⟨hRq1177, (List.forall_mem_cons.mpr ⟨hRq1178, (List.forall_mem_cons.mpr ⟨hRq1179, (List.forall_mem_cons.mpr ⟨hRq1180, (List.forall_mem_cons.mpr ⟨hRq1181, (List.forall_mem_cons.mpr ⟨hRq1182, (List.forall_mem_cons.mpr ⟨hRq1183, (List.forall_mem_cons.mpr ⟨hRq1184, (List.forall_mem_cons.mpr ⟨hRq1185, (List.forall_mem_cons.mpr ⟨hRq1120, (fun _ h => absurd h List.not_mem_nil)⟩)⟩)⟩)⟩)⟩)⟩)⟩)⟩)⟩)⟩) (fun k hk => match k, hk with | 0, _ => hf1247 | 1, _ => hf1256 | 2, _ => hf1255 | 3, _ => hf1254 | 4, _ => hf1253 | 5, _ => hf1252 | 6, _ => hf1251 | 7, _ => hf1250 | 8, _ => hf1249 | 9, _ => hf1248 | k + 10, h => absurd h (by omega))
  have hrr1261 : ∀ j, j < 8 → r1243 j = some (aa1257 j 0) := rr_step hrr1106 er1243 (by decide) ea1258 (eb1259.symm ▸ rfl)
  refine lv_iinc (v := 8) (lv' := [(1, .int 8), (0, .ref ac)]) hx hb dX0_init_34 hl (k := 0) rfl (by decide) (by decide) rfl (fun ls hl => ?_)
  refine lv_goto (tgt := 15) hx hb dX0_init_37 (by decide) ?_
  refine lv_iload_n hx hb dX0_init_15 rfl (lv_at hl 0 rfl) ?_
  refine lv_bipush (v := 20) hx hb dX0_init_16 (by decide) ?_
  refine lv_icmp_ge (tgt := 40) hx hb dX0_init_18 (by decide) (fun c1262 => absurd c1262 (by decide)) (fun c1262 => ?_)
  refine lv_aload_n hx hb dX0_init_21 rfl (lv_at hl 1 rfl) ?_
  refine pl_get (v := .ref q1) hx hb hts (fun w h => mT (inX0 w h)) hown hG.1 hP hm1198 hf1246 rfl 0 (by decide) (hts _ (mT wg_413)) (fun _ h => h) rfl dX0_init_22 ?_
  refine lv_iload_n hx hb dX0_init_25 rfl (lv_at hl 0 rfl) ?_
  refine pl_new (ci := 3) (fs := [.int 0, .int 0, .int 0, .int 0, .int 0, .int 0, .int 0, .long 0, .long 0, .null, .null, .null, .null, .null, .null, .null, .null, .null]) (C := RX3) (T := TX3) (N := 18) hx hb hts (fun w h => mT (inX3 w h)) tyX3 tyX3_ok hown (hts _ (mT wg_410)) (hts _ (mT wg_330)) (hts _ (mT wg_165)) hG.1 hP hD hS hA rfl dvX3 (Nat.le_of_ble_eq_true rfl) (Nat.le_of_ble_eq_true rfl) dX0_init_26 (fun q1263 H L1264 f1265 hq1266 hs1267 hm1268 hf1269 ho1270 hP hD hS => ?_)
  have hni1271 : q1263 ∉ L2 := fun h => hq1266 (hs01239 _ h)
  have hs01272 : ∀ b, b ∈ L2 → b ∈ L1264 := fun b hb => hs1267 b (hs01239 b hb)
  have hN1273 : [q1263].Nodup := List.nodup_cons.mpr ⟨fun h => hq1266 (nil_in _ h), List.nodup_nil⟩
  have hNs1274 : ∀ b, b ∈ [q1263] → b ∈ L1264 := List.forall_mem_cons.mpr ⟨hm1268, fun b hb => hs1267 b (nil_in b hb)⟩
  have hRq1275 : ∀ j, j < 8 → ∀ k, k < 10 → aa1257 j k ≠ q1263 := fun j hj k hk e => hq1266 (e ▸ (hR1260.1 j hj k hk).1)
  have hR1276 : RINGP g L2 L1264 f1265 8 aa1257 := RINGP.tr hR1260 hRq1275 hs1267 (fun b hb _ => ho1270 b hb)
  have hfr1277 : ∀ b, b ∈ L → b ≠ ac → f1265 b = f b := fun b hb z0 => (ho1270 b (hsb1188 b hb)).trans (hfr1245 b hb z0)
  have hnq1279 : q1263 ∉ L := fun h => hq1266 (hsb1188 _ h)
  have hsb1278 : ∀ b, b ∈ L → b ∈ _ := fun b hb => hs1267 b (hsb1188 b hb)
  have hf1280 := (ho1270 ac hm1198).trans hf1246
  have hn1282 : ac ≠ q1263 := fun e => hq1266 (e ▸ hm1198)
  have hm1281 := hs1267 _ hm1198
  have hf1283 := (ho1270 q1 hm1209).trans hf1242
  have hn1285 : q1 ≠ q1263 := fun e => hq1266 (e ▸ hm1209)
  have hm1284 := hs1267 _ hm1209
  refine lv_dup hx hb dX0_init_29 rfl ?_
  refine call_v (run_IN (rm := { frames := 1, cells := 9, slots := 258, locals := 12 }) hx hb hml hown hts (k_X3_init l g _ _ _ q1263 hm1268 hf1269) cI_X3_init wn_412 ⟨Nat.le_of_ble_eq_true rfl, Nat.le_of_ble_eq_true rfl⟩ hG hE hA hP hD hS rfl hl.1 (As := []) (rest := [.ref q1263, .int 8, .ref q1]) rfl (Nat.le_of_ble_eq_true rfl) dX0_init_30 ⟨Nat.le_of_ble_eq_true rfl, Nat.le_of_ble_eq_true rfl⟩) hA hD hS (fun L1287 f1288 H locs hp1289 hP hD hS => ?_)
  obtain ⟨q1290, q1291, q1292, q1293, q1294, q1295, q1296, q1297, q1298, hn1299, hm1300, hf1301, hn1302, hm1303, hf1304, hn1305, hm1306, hf1307, hn1308, hm1309, hf1310, hn1311, hm1312, hf1313, hn1314, hm1315, hf1316, hn1317, hm1318, hf1319, hn1320, hm1321, hf1322, hn1323, hm1324, hf1325, hf1326, er1327, fr1328, sb1329⟩ := hp1289
  have hN1330 : [q1290, q1291, q1292, q1293, q1294, q1295, q1296, q1297, q1298, q1263].Nodup := nd_app (l := [q1290, q1291, q1292, q1293, q1294, q1295, q1296, q1297, q1298]) (k := [q1263]) er1327 (List.forall_mem_cons.mpr ⟨hn1299, (List.forall_mem_cons.mpr ⟨hn1302, (List.forall_mem_cons.mpr ⟨hn1305, (List.forall_mem_cons.mpr ⟨hn1308, (List.forall_mem_cons.mpr ⟨hn1311, (List.forall_mem_cons.mpr ⟨hn1314, (List.forall_mem_cons.mpr ⟨hn1317, (List.forall_mem_cons.mpr ⟨hn1320, (List.forall_mem_cons.mpr ⟨hn1323, (fun _ h => absurd h List.not_mem_nil)⟩)⟩)⟩)⟩)⟩)⟩)⟩)⟩)⟩) hN1273 hNs1274
  have hNs1331 : ∀ b, b ∈ [q1290, q1291, q1292, q1293, q1294, q1295, q1296, q1297, q1298, q1263] → b ∈ L1287 := fm_app (l := [q1290, q1291, q1292, q1293, q1294, q1295, q1296, q1297, q1298]) (k := [q1263]) (List.forall_mem_cons.mpr ⟨hm1300, (List.forall_mem_cons.mpr ⟨hm1303, (List.forall_mem_cons.mpr ⟨hm1306, (List.forall_mem_cons.mpr ⟨hm1309, (List.forall_mem_cons.mpr ⟨hm1312, (List.forall_mem_cons.mpr ⟨hm1315, (List.forall_mem_cons.mpr ⟨hm1318, (List.forall_mem_cons.mpr ⟨hm1321, (List.forall_mem_cons.mpr ⟨hm1324, (fun _ h => absurd h List.not_mem_nil)⟩)⟩)⟩)⟩)⟩)⟩)⟩)⟩)⟩) (fun b hb => sb1329 b (hNs1274 b hb))
  have hRq1332 : ∀ j, j < 8 → ∀ k, k < 10 → aa1257 j k ≠ q1290 := fun j hj k hk e => hn1299 (e ▸ (hR1276.1 j hj k hk).1)
  have hRq1333 : ∀ j, j < 8 → ∀ k, k < 10 → aa1257 j k ≠ q1291 := fun j hj k hk e => hn1302 (e ▸ (hR1276.1 j hj k hk).1)
  have hRq1334 : ∀ j, j < 8 → ∀ k, k < 10 → aa1257 j k ≠ q1292 := fun j hj k hk e => hn1305 (e ▸ (hR1276.1 j hj k hk).1)
  have hRq1335 : ∀ j, j < 8 → ∀ k, k < 10 → aa1257 j k ≠ q1293 := fun j hj k hk e => hn1308 (e ▸ (hR1276.1 j hj k hk).1)
  have hRq1336 : ∀ j, j < 8 → ∀ k, k < 10 → aa1257 j k ≠ q1294 := fun j hj k hk e => hn1311 (e ▸ (hR1276.1 j hj k hk).1)
  have hRq1337 : ∀ j, j < 8 → ∀ k, k < 10 → aa1257 j k ≠ q1295 := fun j hj k hk e => hn1314 (e ▸ (hR1276.1 j hj k hk).1)
  have hRq1338 : ∀ j, j < 8 → ∀ k, k < 10 → aa1257 j k ≠ q1296 := fun j hj k hk e => hn1317 (e ▸ (hR1276.1 j hj k hk).1)
  have hRq1339 : ∀ j, j < 8 → ∀ k, k < 10 → aa1257 j k ≠ q1297 := fun j hj k hk e => hn1320 (e ▸ (hR1276.1 j hj k hk).1)
  have hRq1340 : ∀ j, j < 8 → ∀ k, k < 10 → aa1257 j k ≠ q1298 := fun j hj k hk e => hn1323 (e ▸ (hR1276.1 j hj k hk).1)
  have hR1341 : RINGP g L2 L1287 f1288 8 aa1257 := RINGP.tr hR1276 hRq1275 sb1329 (fun b hb hn => fr1328 b hb hn)
  have hfr1342 : ∀ b, b ∈ L → b ≠ ac → f1288 b = f b := fun b hb z0 => (fr1328 b (hsb1278 b hb) (fun e => hnq1279 (e ▸ hb))).trans (hfr1277 b hb z0)
  have hnq1344 : q1290 ∉ L := fun h => hn1299 (hsb1278 _ h)
  have hnq1345 : q1291 ∉ L := fun h => hn1302 (hsb1278 _ h)
  have hnq1346 : q1292 ∉ L := fun h => hn1305 (hsb1278 _ h)
  have hnq1347 : q1293 ∉ L := fun h => hn1308 (hsb1278 _ h)
  have hnq1348 : q1294 ∉ L := fun h => hn1311 (hsb1278 _ h)
  have hnq1349 : q1295 ∉ L := fun h => hn1314 (hsb1278 _ h)
  have hnq1350 : q1296 ∉ L := fun h => hn1317 (hsb1278 _ h)
  have hnq1351 : q1297 ∉ L := fun h => hn1320 (hsb1278 _ h)
  have hnq1352 : q1298 ∉ L := fun h => hn1323 (hsb1278 _ h)
  have hsb1343 : ∀ b, b ∈ L → b ∈ L1287 := fun b hb => sb1329 b (hsb1278 b hb)
  have hn1354 : ac ≠ q1290 := fun e => hn1299 (e ▸ hm1281)
  have hn1355 : ac ≠ q1291 := fun e => hn1302 (e ▸ hm1281)
  have hn1356 : ac ≠ q1292 := fun e => hn1305 (e ▸ hm1281)
  have hn1357 : ac ≠ q1293 := fun e => hn1308 (e ▸ hm1281)
  have hn1358 : ac ≠ q1294 := fun e => hn1311 (e ▸ hm1281)
  have hn1359 : ac ≠ q1295 := fun e => hn1314 (e ▸ hm1281)
  have hn1360 : ac ≠ q1296 := fun e => hn1317 (e ▸ hm1281)
  have hn1361 : ac ≠ q1297 := fun e => hn1320 (e ▸ hm1281)
  have hn1362 : ac ≠ q1298 := fun e => hn1323 (e ▸ hm1281)
  have hf1363 := (fr1328 ac hm1281 hn1282).trans hf1280
  have hm1353 := sb1329 _ hm1281
  have hn1365 : q1 ≠ q1290 := fun e => hn1299 (e ▸ hm1284)
  have hn1366 : q1 ≠ q1291 := fun e => hn1302 (e ▸ hm1284)
  have hn1367 : q1 ≠ q1292 := fun e => hn1305 (e ▸ hm1284)
  have hn1368 : q1 ≠ q1293 := fun e => hn1308 (e ▸ hm1284)
  have hn1369 : q1 ≠ q1294 := fun e => hn1311 (e ▸ hm1284)
  have hn1370 : q1 ≠ q1295 := fun e => hn1314 (e ▸ hm1284)
  have hn1371 : q1 ≠ q1296 := fun e => hn1317 (e ▸ hm1284)
  have hn1372 : q1 ≠ q1297 := fun e => hn1320 (e ▸ hm1284)
  have hn1373 : q1 ≠ q1298 := fun e => hn1323 (e ▸ hm1284)
  have hf1374 := (fr1328 q1 hm1284 hn1285).trans hf1283
  have hm1364 := sb1329 _ hm1284
  have hn1376 : q1263 ≠ q1290 := fun e => hn1299 (e ▸ hm1268)
  have hn1377 : q1263 ≠ q1291 := fun e => hn1302 (e ▸ hm1268)
  have hn1378 : q1263 ≠ q1292 := fun e => hn1305 (e ▸ hm1268)
  have hn1379 : q1263 ≠ q1293 := fun e => hn1308 (e ▸ hm1268)
  have hn1380 : q1263 ≠ q1294 := fun e => hn1311 (e ▸ hm1268)
  have hn1381 : q1263 ≠ q1295 := fun e => hn1314 (e ▸ hm1268)
  have hn1382 : q1263 ≠ q1296 := fun e => hn1317 (e ▸ hm1268)
  have hn1383 : q1263 ≠ q1297 := fun e => hn1320 (e ▸ hm1268)
  have hn1384 : q1263 ≠ q1298 := fun e => hn1323 (e ▸ hm1268)
  have hm1375 := sb1329 _ hm1268
  have hni1385 : q1290 ∉ L2 := fun h => hn1299 (hs01272 _ h)
  have hni1386 : q1291 ∉ L2 := fun h => hn1302 (hs01272 _ h)
  have hni1387 : q1292 ∉ L2 := fun h => hn1305 (hs01272 _ h)
  have hni1388 : q1293 ∉ L2 := fun h => hn1308 (hs01272 _ h)
  have hni1389 : q1294 ∉ L2 := fun h => hn1311 (hs01272 _ h)
  have hni1390 : q1295 ∉ L2 := fun h => hn1314 (hs01272 _ h)
  have hni1391 : q1296 ∉ L2 := fun h => hn1317 (hs01272 _ h)
  have hni1392 : q1297 ∉ L2 := fun h => hn1320 (hs01272 _ h)
  have hni1393 : q1298 ∉ L2 := fun h => hn1323 (hs01272 _ h)
  have hs01394 : ∀ b, b ∈ L2 → b ∈ L1287 := fun b hb => sb1329 b (hs01272 b hb)
  refine pl_astq hx hb hG.1 hP hD hS hm1364 4 3 hf1374 rfl hm1375 hf1326 rfl (by unfold vp_in; decide) dX0_init_33 (fun H locs f1395 r1398 er1398 hf1397 ho1396 hP hD hS => ?_)
  have hR1399 : RINGP g L2 L1287 f1395 8 aa1257 := RINGP.tr hR1341 (fun j hj k hk e => (hR1341.1 j hj k hk).2 (e ▸ hm6)) (fun b hb => hb) (fun b _ hb => ho1396 b hb)
  have hfr1400 : ∀ b, b ∈ L → b ≠ ac → f1395 b = f b := fun b hb z0 => (ho1396 b (fun e => hnq13 (e ▸ hb))).trans (hfr1342 b hb z0)
  have hf1401 := (ho1396 ac hn16).trans hf1363
  have hf1402 := (ho1396 q1263 hn1285.symm).trans hf1326
  have hf1403 := (ho1396 q1290 hn1365.symm).trans hf1301
  have hf1404 := (ho1396 q1291 hn1366.symm).trans hf1304
  have hf1405 := (ho1396 q1292 hn1367.symm).trans hf1307
  have hf1406 := (ho1396 q1293 hn1368.symm).trans hf1310
  have hf1407 := (ho1396 q1294 hn1369.symm).trans hf1313
  have hf1408 := (ho1396 q1295 hn1370.symm).trans hf1316
  have hf1409 := (ho1396 q1296 hn1371.symm).trans hf1319
  have hf1410 := (ho1396 q1297 hn1372.symm).trans hf1322
  have hf1411 := (ho1396 q1298 hn1373.symm).trans hf1325
  obtain ⟨aa1412, ea1413, eb1414, hR1415⟩ := RINGP.add (l := [q1290, q1291, q1292, q1293, q1294, q1295, q1296, q1297, q1298, q1263]) hR1399 rfl hN1330 (List.forall_mem_cons.mpr ⟨⟨hm1300, hni1385⟩, (List.forall_mem_cons.mpr ⟨⟨hm1303, hni1386⟩, (List.forall_mem_cons.mpr ⟨⟨hm1306, hni1387⟩, (List.forall_mem_cons.mpr ⟨⟨hm1309, hni1388⟩, (List.forall_mem_cons.mpr ⟨⟨hm1312, hni1389⟩, (List.forall_mem_cons.mpr ⟨⟨hm1315, hni1390⟩, (List.forall_mem_cons.mpr ⟨⟨hm1318, hni1391⟩, (List.forall_mem_cons.mpr ⟨⟨hm1321, hni1392⟩, (List.forall_mem_cons.mpr ⟨⟨hm1324, hni1393⟩, (List.forall_mem_cons.mpr ⟨⟨hm1375, hni1271⟩, (fun _ h => absurd h List.not_mem_nil)⟩)⟩)⟩)⟩)⟩)⟩)⟩)⟩)⟩)⟩) (List.forall_mem_cons.mpr ⟨hRq1332, (List.forall_mem_cons.mpr ⟨hRq1333, (List.forall_mem_cons.mpr ⟨hRq1334, (List.forall_mem_cons.mpr ⟨hRq1335, (List.forall_mem_cons.mpr ⟨hRq1336, (List.forall_mem_cons.mpr ⟨hRq1337, (List.forall_mem_cons.mpr ⟨hRq1338, (List.forall_mem_cons.mpr ⟨hRq1339, (List.forall_mem_cons.mpr ⟨hRq1340, (List.forall_mem_cons.mpr ⟨hRq1275, (fun _ h => absurd h List.not_mem_nil)⟩)⟩)⟩)⟩)⟩)⟩)⟩)⟩)⟩)⟩) (fun k hk => match k, hk with | 0, _ => hf1402 | 1, _ => hf1411 | 2, _ => hf1410 | 3, _ => hf1409 | 4, _ => hf1408 | 5, _ => hf1407 | 6, _ => hf1406 | 7, _ => hf1405 | 8, _ => hf1404 | 9, _ => hf1403 | k + 10, h => absurd h (by omega))
  have hrr1416 : ∀ j, j < 9 → r1398 j = some (aa1412 j 0) := rr_step hrr1261 er1398 (by decide) ea1413 (eb1414.symm ▸ rfl)
  refine lv_iinc (v := 9) (lv' := [(1, .int 9), (0, .ref ac)]) hx hb dX0_init_34 hl (k := 0) rfl (by decide) (by decide) rfl (fun ls hl => ?_)
  refine lv_goto (tgt := 15) hx hb dX0_init_37 (by decide) ?_
  refine lv_iload_n hx hb dX0_init_15 rfl (lv_at hl 0 rfl) ?_
  refine lv_bipush (v := 20) hx hb dX0_init_16 (by decide) ?_
  refine lv_icmp_ge (tgt := 40) hx hb dX0_init_18 (by decide) (fun c1417 => absurd c1417 (by decide)) (fun c1417 => ?_)
  refine lv_aload_n hx hb dX0_init_21 rfl (lv_at hl 1 rfl) ?_
  refine pl_get (v := .ref q1) hx hb hts (fun w h => mT (inX0 w h)) hown hG.1 hP hm1353 hf1401 rfl 0 (by decide) (hts _ (mT wg_413)) (fun _ h => h) rfl dX0_init_22 ?_
  refine lv_iload_n hx hb dX0_init_25 rfl (lv_at hl 0 rfl) ?_
  refine pl_new (ci := 3) (fs := [.int 0, .int 0, .int 0, .int 0, .int 0, .int 0, .int 0, .long 0, .long 0, .null, .null, .null, .null, .null, .null, .null, .null, .null]) (C := RX3) (T := TX3) (N := 18) hx hb hts (fun w h => mT (inX3 w h)) tyX3 tyX3_ok hown (hts _ (mT wg_410)) (hts _ (mT wg_330)) (hts _ (mT wg_165)) hG.1 hP hD hS hA rfl dvX3 (Nat.le_of_ble_eq_true rfl) (Nat.le_of_ble_eq_true rfl) dX0_init_26 (fun q1418 H L1419 f1420 hq1421 hs1422 hm1423 hf1424 ho1425 hP hD hS => ?_)
  have hni1426 : q1418 ∉ L2 := fun h => hq1421 (hs01394 _ h)
  have hs01427 : ∀ b, b ∈ L2 → b ∈ L1419 := fun b hb => hs1422 b (hs01394 b hb)
  have hN1428 : [q1418].Nodup := List.nodup_cons.mpr ⟨fun h => hq1421 (nil_in _ h), List.nodup_nil⟩
  have hNs1429 : ∀ b, b ∈ [q1418] → b ∈ L1419 := List.forall_mem_cons.mpr ⟨hm1423, fun b hb => hs1422 b (nil_in b hb)⟩
  have hRq1430 : ∀ j, j < 9 → ∀ k, k < 10 → aa1412 j k ≠ q1418 := fun j hj k hk e => hq1421 (e ▸ (hR1415.1 j hj k hk).1)
  have hR1431 : RINGP g L2 L1419 f1420 9 aa1412 := RINGP.tr hR1415 hRq1430 hs1422 (fun b hb _ => ho1425 b hb)
  have hfr1432 : ∀ b, b ∈ L → b ≠ ac → f1420 b = f b := fun b hb z0 => (ho1425 b (hsb1343 b hb)).trans (hfr1400 b hb z0)
  have hnq1434 : q1418 ∉ L := fun h => hq1421 (hsb1343 _ h)
  have hsb1433 : ∀ b, b ∈ L → b ∈ _ := fun b hb => hs1422 b (hsb1343 b hb)
  have hf1435 := (ho1425 ac hm1353).trans hf1401
  have hn1437 : ac ≠ q1418 := fun e => hq1421 (e ▸ hm1353)
  have hm1436 := hs1422 _ hm1353
  have hf1438 := (ho1425 q1 hm1364).trans hf1397
  have hn1440 : q1 ≠ q1418 := fun e => hq1421 (e ▸ hm1364)
  have hm1439 := hs1422 _ hm1364
  refine lv_dup hx hb dX0_init_29 rfl ?_
  refine call_v (run_IN (rm := { frames := 1, cells := 9, slots := 258, locals := 12 }) hx hb hml hown hts (k_X3_init l g _ _ _ q1418 hm1423 hf1424) cI_X3_init wn_412 ⟨Nat.le_of_ble_eq_true rfl, Nat.le_of_ble_eq_true rfl⟩ hG hE hA hP hD hS rfl hl.1 (As := []) (rest := [.ref q1418, .int 9, .ref q1]) rfl (Nat.le_of_ble_eq_true rfl) dX0_init_30 ⟨Nat.le_of_ble_eq_true rfl, Nat.le_of_ble_eq_true rfl⟩) hA hD hS (fun L1442 f1443 H locs hp1444 hP hD hS => ?_)
  obtain ⟨q1445, q1446, q1447, q1448, q1449, q1450, q1451, q1452, q1453, hn1454, hm1455, hf1456, hn1457, hm1458, hf1459, hn1460, hm1461, hf1462, hn1463, hm1464, hf1465, hn1466, hm1467, hf1468, hn1469, hm1470, hf1471, hn1472, hm1473, hf1474, hn1475, hm1476, hf1477, hn1478, hm1479, hf1480, hf1481, er1482, fr1483, sb1484⟩ := hp1444
  have hN1485 : [q1445, q1446, q1447, q1448, q1449, q1450, q1451, q1452, q1453, q1418].Nodup := nd_app (l := [q1445, q1446, q1447, q1448, q1449, q1450, q1451, q1452, q1453]) (k := [q1418]) er1482 (List.forall_mem_cons.mpr ⟨hn1454, (List.forall_mem_cons.mpr ⟨hn1457, (List.forall_mem_cons.mpr ⟨hn1460, (List.forall_mem_cons.mpr ⟨hn1463, (List.forall_mem_cons.mpr ⟨hn1466, (List.forall_mem_cons.mpr ⟨hn1469, (List.forall_mem_cons.mpr ⟨hn1472, (List.forall_mem_cons.mpr ⟨hn1475, (List.forall_mem_cons.mpr ⟨hn1478, (fun _ h => absurd h List.not_mem_nil)⟩)⟩)⟩)⟩)⟩)⟩)⟩)⟩)⟩) hN1428 hNs1429
  have hNs1486 : ∀ b, b ∈ [q1445, q1446, q1447, q1448, q1449, q1450, q1451, q1452, q1453, q1418] → b ∈ L1442 := fm_app (l := [q1445, q1446, q1447, q1448, q1449, q1450, q1451, q1452, q1453]) (k := [q1418]) (List.forall_mem_cons.mpr ⟨hm1455, (List.forall_mem_cons.mpr ⟨hm1458, (List.forall_mem_cons.mpr ⟨hm1461, (List.forall_mem_cons.mpr ⟨hm1464, (List.forall_mem_cons.mpr ⟨hm1467, (List.forall_mem_cons.mpr ⟨hm1470, (List.forall_mem_cons.mpr ⟨hm1473, (List.forall_mem_cons.mpr ⟨hm1476, (List.forall_mem_cons.mpr ⟨hm1479, (fun _ h => absurd h List.not_mem_nil)⟩)⟩)⟩)⟩)⟩)⟩)⟩)⟩)⟩) (fun b hb => sb1484 b (hNs1429 b hb))
  have hRq1487 : ∀ j, j < 9 → ∀ k, k < 10 → aa1412 j k ≠ q1445 := fun j hj k hk e => hn1454 (e ▸ (hR1431.1 j hj k hk).1)
  have hRq1488 : ∀ j, j < 9 → ∀ k, k < 10 → aa1412 j k ≠ q1446 := fun j hj k hk e => hn1457 (e ▸ (hR1431.1 j hj k hk).1)
  have hRq1489 : ∀ j, j < 9 → ∀ k, k < 10 → aa1412 j k ≠ q1447 := fun j hj k hk e => hn1460 (e ▸ (hR1431.1 j hj k hk).1)
  have hRq1490 : ∀ j, j < 9 → ∀ k, k < 10 → aa1412 j k ≠ q1448 := fun j hj k hk e => hn1463 (e ▸ (hR1431.1 j hj k hk).1)
  have hRq1491 : ∀ j, j < 9 → ∀ k, k < 10 → aa1412 j k ≠ q1449 := fun j hj k hk e => hn1466 (e ▸ (hR1431.1 j hj k hk).1)
  have hRq1492 : ∀ j, j < 9 → ∀ k, k < 10 → aa1412 j k ≠ q1450 := fun j hj k hk e => hn1469 (e ▸ (hR1431.1 j hj k hk).1)
  have hRq1493 : ∀ j, j < 9 → ∀ k, k < 10 → aa1412 j k ≠ q1451 := fun j hj k hk e => hn1472 (e ▸ (hR1431.1 j hj k hk).1)
  have hRq1494 : ∀ j, j < 9 → ∀ k, k < 10 → aa1412 j k ≠ q1452 := fun j hj k hk e => hn1475 (e ▸ (hR1431.1 j hj k hk).1)
  have hRq1495 : ∀ j, j < 9 → ∀ k, k < 10 → aa1412 j k ≠ q1453 := fun j hj k hk e => hn1478 (e ▸ (hR1431.1 j hj k hk).1)
  have hR1496 : RINGP g L2 L1442 f1443 9 aa1412 := RINGP.tr hR1431 hRq1430 sb1484 (fun b hb hn => fr1483 b hb hn)
  have hfr1497 : ∀ b, b ∈ L → b ≠ ac → f1443 b = f b := fun b hb z0 => (fr1483 b (hsb1433 b hb) (fun e => hnq1434 (e ▸ hb))).trans (hfr1432 b hb z0)
  have hnq1499 : q1445 ∉ L := fun h => hn1454 (hsb1433 _ h)
  have hnq1500 : q1446 ∉ L := fun h => hn1457 (hsb1433 _ h)
  have hnq1501 : q1447 ∉ L := fun h => hn1460 (hsb1433 _ h)
  have hnq1502 : q1448 ∉ L := fun h => hn1463 (hsb1433 _ h)
  have hnq1503 : q1449 ∉ L := fun h => hn1466 (hsb1433 _ h)
  have hnq1504 : q1450 ∉ L := fun h => hn1469 (hsb1433 _ h)
  have hnq1505 : q1451 ∉ L := fun h => hn1472 (hsb1433 _ h)
  have hnq1506 : q1452 ∉ L := fun h => hn1475 (hsb1433 _ h)
  have hnq1507 : q1453 ∉ L := fun h => hn1478 (hsb1433 _ h)
  have hsb1498 : ∀ b, b ∈ L → b ∈ L1442 := fun b hb => sb1484 b (hsb1433 b hb)
  have hn1509 : ac ≠ q1445 := fun e => hn1454 (e ▸ hm1436)
  have hn1510 : ac ≠ q1446 := fun e => hn1457 (e ▸ hm1436)
  have hn1511 : ac ≠ q1447 := fun e => hn1460 (e ▸ hm1436)
  have hn1512 : ac ≠ q1448 := fun e => hn1463 (e ▸ hm1436)
  have hn1513 : ac ≠ q1449 := fun e => hn1466 (e ▸ hm1436)
  have hn1514 : ac ≠ q1450 := fun e => hn1469 (e ▸ hm1436)
  have hn1515 : ac ≠ q1451 := fun e => hn1472 (e ▸ hm1436)
  have hn1516 : ac ≠ q1452 := fun e => hn1475 (e ▸ hm1436)
  have hn1517 : ac ≠ q1453 := fun e => hn1478 (e ▸ hm1436)
  have hf1518 := (fr1483 ac hm1436 hn1437).trans hf1435
  have hm1508 := sb1484 _ hm1436
  have hn1520 : q1 ≠ q1445 := fun e => hn1454 (e ▸ hm1439)
  have hn1521 : q1 ≠ q1446 := fun e => hn1457 (e ▸ hm1439)
  have hn1522 : q1 ≠ q1447 := fun e => hn1460 (e ▸ hm1439)
  have hn1523 : q1 ≠ q1448 := fun e => hn1463 (e ▸ hm1439)
  have hn1524 : q1 ≠ q1449 := fun e => hn1466 (e ▸ hm1439)
  have hn1525 : q1 ≠ q1450 := fun e => hn1469 (e ▸ hm1439)
  have hn1526 : q1 ≠ q1451 := fun e => hn1472 (e ▸ hm1439)
  have hn1527 : q1 ≠ q1452 := fun e => hn1475 (e ▸ hm1439)
  have hn1528 : q1 ≠ q1453 := fun e => hn1478 (e ▸ hm1439)
  have hf1529 := (fr1483 q1 hm1439 hn1440).trans hf1438
  have hm1519 := sb1484 _ hm1439
  have hn1531 : q1418 ≠ q1445 := fun e => hn1454 (e ▸ hm1423)
  have hn1532 : q1418 ≠ q1446 := fun e => hn1457 (e ▸ hm1423)
  have hn1533 : q1418 ≠ q1447 := fun e => hn1460 (e ▸ hm1423)
  have hn1534 : q1418 ≠ q1448 := fun e => hn1463 (e ▸ hm1423)
  have hn1535 : q1418 ≠ q1449 := fun e => hn1466 (e ▸ hm1423)
  have hn1536 : q1418 ≠ q1450 := fun e => hn1469 (e ▸ hm1423)
  have hn1537 : q1418 ≠ q1451 := fun e => hn1472 (e ▸ hm1423)
  have hn1538 : q1418 ≠ q1452 := fun e => hn1475 (e ▸ hm1423)
  have hn1539 : q1418 ≠ q1453 := fun e => hn1478 (e ▸ hm1423)
  have hm1530 := sb1484 _ hm1423
  have hni1540 : q1445 ∉ L2 := fun h => hn1454 (hs01427 _ h)
  have hni1541 : q1446 ∉ L2 := fun h => hn1457 (hs01427 _ h)
  have hni1542 : q1447 ∉ L2 := fun h => hn1460 (hs01427 _ h)
  have hni1543 : q1448 ∉ L2 := fun h => hn1463 (hs01427 _ h)
  have hni1544 : q1449 ∉ L2 := fun h => hn1466 (hs01427 _ h)
  have hni1545 : q1450 ∉ L2 := fun h => hn1469 (hs01427 _ h)
  have hni1546 : q1451 ∉ L2 := fun h => hn1472 (hs01427 _ h)
  have hni1547 : q1452 ∉ L2 := fun h => hn1475 (hs01427 _ h)
  have hni1548 : q1453 ∉ L2 := fun h => hn1478 (hs01427 _ h)
  have hs01549 : ∀ b, b ∈ L2 → b ∈ L1442 := fun b hb => sb1484 b (hs01427 b hb)
  refine pl_astq hx hb hG.1 hP hD hS hm1519 4 3 hf1529 rfl hm1530 hf1481 rfl (by unfold vp_in; decide) dX0_init_33 (fun H locs f1550 r1553 er1553 hf1552 ho1551 hP hD hS => ?_)
  have hR1554 : RINGP g L2 L1442 f1550 9 aa1412 := RINGP.tr hR1496 (fun j hj k hk e => (hR1496.1 j hj k hk).2 (e ▸ hm6)) (fun b hb => hb) (fun b _ hb => ho1551 b hb)
  have hfr1555 : ∀ b, b ∈ L → b ≠ ac → f1550 b = f b := fun b hb z0 => (ho1551 b (fun e => hnq13 (e ▸ hb))).trans (hfr1497 b hb z0)
  have hf1556 := (ho1551 ac hn16).trans hf1518
  have hf1557 := (ho1551 q1418 hn1440.symm).trans hf1481
  have hf1558 := (ho1551 q1445 hn1520.symm).trans hf1456
  have hf1559 := (ho1551 q1446 hn1521.symm).trans hf1459
  have hf1560 := (ho1551 q1447 hn1522.symm).trans hf1462
  have hf1561 := (ho1551 q1448 hn1523.symm).trans hf1465
  have hf1562 := (ho1551 q1449 hn1524.symm).trans hf1468
  have hf1563 := (ho1551 q1450 hn1525.symm).trans hf1471
  have hf1564 := (ho1551 q1451 hn1526.symm).trans hf1474
  have hf1565 := (ho1551 q1452 hn1527.symm).trans hf1477
  have hf1566 := (ho1551 q1453 hn1528.symm).trans hf1480
  obtain ⟨aa1567, ea1568, eb1569, hR1570⟩ := RINGP.add (l := [q1445, q1446, q1447, q1448, q1449, q1450, q1451, q1452, q1453, q1418]) hR1554 rfl hN1485 (List.forall_mem_cons.mpr ⟨⟨hm1455, hni1540⟩, (List.forall_mem_cons.mpr ⟨⟨hm1458, hni1541⟩, (List.forall_mem_cons.mpr ⟨⟨hm1461, hni1542⟩, (List.forall_mem_cons.mpr ⟨⟨hm1464, hni1543⟩, (List.forall_mem_cons.mpr ⟨⟨hm1467, hni1544⟩, (List.forall_mem_cons.mpr ⟨⟨hm1470, hni1545⟩, (List.forall_mem_cons.mpr ⟨⟨hm1473, hni1546⟩, (List.forall_mem_cons.mpr ⟨⟨hm1476, hni1547⟩, (List.forall_mem_cons.mpr ⟨⟨hm1479, hni1548⟩, (List.forall_mem_cons.mpr ⟨⟨hm1530, hni1426⟩, (fun _ h => absurd h List.not_mem_nil)⟩)⟩)⟩)⟩)⟩)⟩)⟩)⟩)⟩)⟩) (List.forall_mem_cons.mpr ⟨hRq1487, (List.forall_mem_cons.mpr ⟨hRq1488, (List.forall_mem_cons.mpr ⟨hRq1489, (List.forall_mem_cons.mpr ⟨hRq1490, (List.forall_mem_cons.mpr ⟨hRq1491, (List.forall_mem_cons.mpr ⟨hRq1492, (List.forall_mem_cons.mpr ⟨hRq1493, (List.forall_mem_cons.mpr ⟨hRq1494, (List.forall_mem_cons.mpr ⟨hRq1495, (List.forall_mem_cons.mpr ⟨hRq1430, (fun _ h => absurd h List.not_mem_nil)⟩)⟩)⟩)⟩)⟩)⟩)⟩)⟩)⟩)⟩) (fun k hk => match k, hk with | 0, _ => hf1557 | 1, _ => hf1566 | 2, _ => hf1565 | 3, _ => hf1564 | 4, _ => hf1563 | 5, _ => hf1562 | 6, _ => hf1561 | 7, _ => hf1560 | 8, _ => hf1559 | 9, _ => hf1558 | k + 10, h => absurd h (by omega))
  have hrr1571 : ∀ j, j < 10 → r1553 j = some (aa1567 j 0) := rr_step hrr1416 er1553 (by decide) ea1568 (eb1569.symm ▸ rfl)
  refine lv_iinc (v := 10) (lv' := [(1, .int 10), (0, .ref ac)]) hx hb dX0_init_34 hl (k := 0) rfl (by decide) (by decide) rfl (fun ls hl => ?_)
  refine lv_goto (tgt := 15) hx hb dX0_init_37 (by decide) ?_
  refine lv_iload_n hx hb dX0_init_15 rfl (lv_at hl 0 rfl) ?_
  refine lv_bipush (v := 20) hx hb dX0_init_16 (by decide) ?_
  refine lv_icmp_ge (tgt := 40) hx hb dX0_init_18 (by decide) (fun c1572 => absurd c1572 (by decide)) (fun c1572 => ?_)
  refine lv_aload_n hx hb dX0_init_21 rfl (lv_at hl 1 rfl) ?_
  refine pl_get (v := .ref q1) hx hb hts (fun w h => mT (inX0 w h)) hown hG.1 hP hm1508 hf1556 rfl 0 (by decide) (hts _ (mT wg_413)) (fun _ h => h) rfl dX0_init_22 ?_
  refine lv_iload_n hx hb dX0_init_25 rfl (lv_at hl 0 rfl) ?_
  refine pl_new (ci := 3) (fs := [.int 0, .int 0, .int 0, .int 0, .int 0, .int 0, .int 0, .long 0, .long 0, .null, .null, .null, .null, .null, .null, .null, .null, .null]) (C := RX3) (T := TX3) (N := 18) hx hb hts (fun w h => mT (inX3 w h)) tyX3 tyX3_ok hown (hts _ (mT wg_410)) (hts _ (mT wg_330)) (hts _ (mT wg_165)) hG.1 hP hD hS hA rfl dvX3 (Nat.le_of_ble_eq_true rfl) (Nat.le_of_ble_eq_true rfl) dX0_init_26 (fun q1573 H L1574 f1575 hq1576 hs1577 hm1578 hf1579 ho1580 hP hD hS => ?_)
  have hni1581 : q1573 ∉ L2 := fun h => hq1576 (hs01549 _ h)
  have hs01582 : ∀ b, b ∈ L2 → b ∈ L1574 := fun b hb => hs1577 b (hs01549 b hb)
  have hN1583 : [q1573].Nodup := List.nodup_cons.mpr ⟨fun h => hq1576 (nil_in _ h), List.nodup_nil⟩
  have hNs1584 : ∀ b, b ∈ [q1573] → b ∈ L1574 := List.forall_mem_cons.mpr ⟨hm1578, fun b hb => hs1577 b (nil_in b hb)⟩
  have hRq1585 : ∀ j, j < 10 → ∀ k, k < 10 → aa1567 j k ≠ q1573 := fun j hj k hk e => hq1576 (e ▸ (hR1570.1 j hj k hk).1)
  have hR1586 : RINGP g L2 L1574 f1575 10 aa1567 := RINGP.tr hR1570 hRq1585 hs1577 (fun b hb _ => ho1580 b hb)
  have hfr1587 : ∀ b, b ∈ L → b ≠ ac → f1575 b = f b := fun b hb z0 => (ho1580 b (hsb1498 b hb)).trans (hfr1555 b hb z0)
  have hnq1589 : q1573 ∉ L := fun h => hq1576 (hsb1498 _ h)
  have hsb1588 : ∀ b, b ∈ L → b ∈ _ := fun b hb => hs1577 b (hsb1498 b hb)
  have hf1590 := (ho1580 ac hm1508).trans hf1556
  have hn1592 : ac ≠ q1573 := fun e => hq1576 (e ▸ hm1508)
  have hm1591 := hs1577 _ hm1508
  have hf1593 := (ho1580 q1 hm1519).trans hf1552
  have hn1595 : q1 ≠ q1573 := fun e => hq1576 (e ▸ hm1519)
  have hm1594 := hs1577 _ hm1519
  refine lv_dup hx hb dX0_init_29 rfl ?_
  refine call_v (run_IN (rm := { frames := 1, cells := 9, slots := 258, locals := 12 }) hx hb hml hown hts (k_X3_init l g _ _ _ q1573 hm1578 hf1579) cI_X3_init wn_412 ⟨Nat.le_of_ble_eq_true rfl, Nat.le_of_ble_eq_true rfl⟩ hG hE hA hP hD hS rfl hl.1 (As := []) (rest := [.ref q1573, .int 10, .ref q1]) rfl (Nat.le_of_ble_eq_true rfl) dX0_init_30 ⟨Nat.le_of_ble_eq_true rfl, Nat.le_of_ble_eq_true rfl⟩) hA hD hS (fun L1597 f1598 H locs hp1599 hP hD hS => ?_)
  obtain ⟨q1600, q1601, q1602, q1603, q1604, q1605, q1606, q1607, q1608, hn1609, hm1610, hf1611, hn1612, hm1613, hf1614, hn1615, hm1616, hf1617, hn1618, hm1619, hf1620, hn1621, hm1622, hf1623, hn1624, hm1625, hf1626, hn1627, hm1628, hf1629, hn1630, hm1631, hf1632, hn1633, hm1634, hf1635, hf1636, er1637, fr1638, sb1639⟩ := hp1599
  have hN1640 : [q1600, q1601, q1602, q1603, q1604, q1605, q1606, q1607, q1608, q1573].Nodup := nd_app (l := [q1600, q1601, q1602, q1603, q1604, q1605, q1606, q1607, q1608]) (k := [q1573]) er1637 (List.forall_mem_cons.mpr ⟨hn1609, (List.forall_mem_cons.mpr ⟨hn1612, (List.forall_mem_cons.mpr ⟨hn1615, (List.forall_mem_cons.mpr ⟨hn1618, (List.forall_mem_cons.mpr ⟨hn1621, (List.forall_mem_cons.mpr ⟨hn1624, (List.forall_mem_cons.mpr ⟨hn1627, (List.forall_mem_cons.mpr ⟨hn1630, (List.forall_mem_cons.mpr ⟨hn1633, (fun _ h => absurd h List.not_mem_nil)⟩)⟩)⟩)⟩)⟩)⟩)⟩)⟩)⟩) hN1583 hNs1584
  have hNs1641 : ∀ b, b ∈ [q1600, q1601, q1602, q1603, q1604, q1605, q1606, q1607, q1608, q1573] → b ∈ L1597 := fm_app (l := [q1600, q1601, q1602, q1603, q1604, q1605, q1606, q1607, q1608]) (k := [q1573]) (List.forall_mem_cons.mpr ⟨hm1610, (List.forall_mem_cons.mpr ⟨hm1613, (List.forall_mem_cons.mpr ⟨hm1616, (List.forall_mem_cons.mpr ⟨hm1619, (List.forall_mem_cons.mpr ⟨hm1622, (List.forall_mem_cons.mpr ⟨hm1625, (List.forall_mem_cons.mpr ⟨hm1628, (List.forall_mem_cons.mpr ⟨hm1631, (List.forall_mem_cons.mpr ⟨hm1634, (fun _ h => absurd h List.not_mem_nil)⟩)⟩)⟩)⟩)⟩)⟩)⟩)⟩)⟩) (fun b hb => sb1639 b (hNs1584 b hb))
  have hRq1642 : ∀ j, j < 10 → ∀ k, k < 10 → aa1567 j k ≠ q1600 := fun j hj k hk e => hn1609 (e ▸ (hR1586.1 j hj k hk).1)
  have hRq1643 : ∀ j, j < 10 → ∀ k, k < 10 → aa1567 j k ≠ q1601 := fun j hj k hk e => hn1612 (e ▸ (hR1586.1 j hj k hk).1)
  have hRq1644 : ∀ j, j < 10 → ∀ k, k < 10 → aa1567 j k ≠ q1602 := fun j hj k hk e => hn1615 (e ▸ (hR1586.1 j hj k hk).1)
  have hRq1645 : ∀ j, j < 10 → ∀ k, k < 10 → aa1567 j k ≠ q1603 := fun j hj k hk e => hn1618 (e ▸ (hR1586.1 j hj k hk).1)
  have hRq1646 : ∀ j, j < 10 → ∀ k, k < 10 → aa1567 j k ≠ q1604 := fun j hj k hk e => hn1621 (e ▸ (hR1586.1 j hj k hk).1)
  have hRq1647 : ∀ j, j < 10 → ∀ k, k < 10 → aa1567 j k ≠ q1605 := fun j hj k hk e => hn1624 (e ▸ (hR1586.1 j hj k hk).1)
  have hRq1648 : ∀ j, j < 10 → ∀ k, k < 10 → aa1567 j k ≠ q1606 := fun j hj k hk e => hn1627 (e ▸ (hR1586.1 j hj k hk).1)
  have hRq1649 : ∀ j, j < 10 → ∀ k, k < 10 → aa1567 j k ≠ q1607 := fun j hj k hk e => hn1630 (e ▸ (hR1586.1 j hj k hk).1)
  have hRq1650 : ∀ j, j < 10 → ∀ k, k < 10 → aa1567 j k ≠ q1608 := fun j hj k hk e => hn1633 (e ▸ (hR1586.1 j hj k hk).1)
  have hR1651 : RINGP g L2 L1597 f1598 10 aa1567 := RINGP.tr hR1586 hRq1585 sb1639 (fun b hb hn => fr1638 b hb hn)
  have hfr1652 : ∀ b, b ∈ L → b ≠ ac → f1598 b = f b := fun b hb z0 => (fr1638 b (hsb1588 b hb) (fun e => hnq1589 (e ▸ hb))).trans (hfr1587 b hb z0)
  have hnq1654 : q1600 ∉ L := fun h => hn1609 (hsb1588 _ h)
  have hnq1655 : q1601 ∉ L := fun h => hn1612 (hsb1588 _ h)
  have hnq1656 : q1602 ∉ L := fun h => hn1615 (hsb1588 _ h)
  have hnq1657 : q1603 ∉ L := fun h => hn1618 (hsb1588 _ h)
  have hnq1658 : q1604 ∉ L := fun h => hn1621 (hsb1588 _ h)
  have hnq1659 : q1605 ∉ L := fun h => hn1624 (hsb1588 _ h)
  have hnq1660 : q1606 ∉ L := fun h => hn1627 (hsb1588 _ h)
  have hnq1661 : q1607 ∉ L := fun h => hn1630 (hsb1588 _ h)
  have hnq1662 : q1608 ∉ L := fun h => hn1633 (hsb1588 _ h)
  have hsb1653 : ∀ b, b ∈ L → b ∈ L1597 := fun b hb => sb1639 b (hsb1588 b hb)
  have hn1664 : ac ≠ q1600 := fun e => hn1609 (e ▸ hm1591)
  have hn1665 : ac ≠ q1601 := fun e => hn1612 (e ▸ hm1591)
  have hn1666 : ac ≠ q1602 := fun e => hn1615 (e ▸ hm1591)
  have hn1667 : ac ≠ q1603 := fun e => hn1618 (e ▸ hm1591)
  have hn1668 : ac ≠ q1604 := fun e => hn1621 (e ▸ hm1591)
  have hn1669 : ac ≠ q1605 := fun e => hn1624 (e ▸ hm1591)
  have hn1670 : ac ≠ q1606 := fun e => hn1627 (e ▸ hm1591)
  have hn1671 : ac ≠ q1607 := fun e => hn1630 (e ▸ hm1591)
  have hn1672 : ac ≠ q1608 := fun e => hn1633 (e ▸ hm1591)
  have hf1673 := (fr1638 ac hm1591 hn1592).trans hf1590
  have hm1663 := sb1639 _ hm1591
  have hn1675 : q1 ≠ q1600 := fun e => hn1609 (e ▸ hm1594)
  have hn1676 : q1 ≠ q1601 := fun e => hn1612 (e ▸ hm1594)
  have hn1677 : q1 ≠ q1602 := fun e => hn1615 (e ▸ hm1594)
  have hn1678 : q1 ≠ q1603 := fun e => hn1618 (e ▸ hm1594)
  have hn1679 : q1 ≠ q1604 := fun e => hn1621 (e ▸ hm1594)
  have hn1680 : q1 ≠ q1605 := fun e => hn1624 (e ▸ hm1594)
  have hn1681 : q1 ≠ q1606 := fun e => hn1627 (e ▸ hm1594)
  have hn1682 : q1 ≠ q1607 := fun e => hn1630 (e ▸ hm1594)
  have hn1683 : q1 ≠ q1608 := fun e => hn1633 (e ▸ hm1594)
  have hf1684 := (fr1638 q1 hm1594 hn1595).trans hf1593
  have hm1674 := sb1639 _ hm1594
  have hn1686 : q1573 ≠ q1600 := fun e => hn1609 (e ▸ hm1578)
  have hn1687 : q1573 ≠ q1601 := fun e => hn1612 (e ▸ hm1578)
  have hn1688 : q1573 ≠ q1602 := fun e => hn1615 (e ▸ hm1578)
  have hn1689 : q1573 ≠ q1603 := fun e => hn1618 (e ▸ hm1578)
  have hn1690 : q1573 ≠ q1604 := fun e => hn1621 (e ▸ hm1578)
  have hn1691 : q1573 ≠ q1605 := fun e => hn1624 (e ▸ hm1578)
  have hn1692 : q1573 ≠ q1606 := fun e => hn1627 (e ▸ hm1578)
  have hn1693 : q1573 ≠ q1607 := fun e => hn1630 (e ▸ hm1578)
  have hn1694 : q1573 ≠ q1608 := fun e => hn1633 (e ▸ hm1578)
  have hm1685 := sb1639 _ hm1578
  have hni1695 : q1600 ∉ L2 := fun h => hn1609 (hs01582 _ h)
  have hni1696 : q1601 ∉ L2 := fun h => hn1612 (hs01582 _ h)
  have hni1697 : q1602 ∉ L2 := fun h => hn1615 (hs01582 _ h)
  have hni1698 : q1603 ∉ L2 := fun h => hn1618 (hs01582 _ h)
  have hni1699 : q1604 ∉ L2 := fun h => hn1621 (hs01582 _ h)
  have hni1700 : q1605 ∉ L2 := fun h => hn1624 (hs01582 _ h)
  have hni1701 : q1606 ∉ L2 := fun h => hn1627 (hs01582 _ h)
  have hni1702 : q1607 ∉ L2 := fun h => hn1630 (hs01582 _ h)
  have hni1703 : q1608 ∉ L2 := fun h => hn1633 (hs01582 _ h)
  have hs01704 : ∀ b, b ∈ L2 → b ∈ L1597 := fun b hb => sb1639 b (hs01582 b hb)
  refine pl_astq hx hb hG.1 hP hD hS hm1674 4 3 hf1684 rfl hm1685 hf1636 rfl (by unfold vp_in; decide) dX0_init_33 (fun H locs f1705 r1708 er1708 hf1707 ho1706 hP hD hS => ?_)
  have hR1709 : RINGP g L2 L1597 f1705 10 aa1567 := RINGP.tr hR1651 (fun j hj k hk e => (hR1651.1 j hj k hk).2 (e ▸ hm6)) (fun b hb => hb) (fun b _ hb => ho1706 b hb)
  have hfr1710 : ∀ b, b ∈ L → b ≠ ac → f1705 b = f b := fun b hb z0 => (ho1706 b (fun e => hnq13 (e ▸ hb))).trans (hfr1652 b hb z0)
  have hf1711 := (ho1706 ac hn16).trans hf1673
  have hf1712 := (ho1706 q1573 hn1595.symm).trans hf1636
  have hf1713 := (ho1706 q1600 hn1675.symm).trans hf1611
  have hf1714 := (ho1706 q1601 hn1676.symm).trans hf1614
  have hf1715 := (ho1706 q1602 hn1677.symm).trans hf1617
  have hf1716 := (ho1706 q1603 hn1678.symm).trans hf1620
  have hf1717 := (ho1706 q1604 hn1679.symm).trans hf1623
  have hf1718 := (ho1706 q1605 hn1680.symm).trans hf1626
  have hf1719 := (ho1706 q1606 hn1681.symm).trans hf1629
  have hf1720 := (ho1706 q1607 hn1682.symm).trans hf1632
  have hf1721 := (ho1706 q1608 hn1683.symm).trans hf1635
  obtain ⟨aa1722, ea1723, eb1724, hR1725⟩ := RINGP.add (l := [q1600, q1601, q1602, q1603, q1604, q1605, q1606, q1607, q1608, q1573]) hR1709 rfl hN1640 (List.forall_mem_cons.mpr ⟨⟨hm1610, hni1695⟩, (List.forall_mem_cons.mpr ⟨⟨hm1613, hni1696⟩, (List.forall_mem_cons.mpr ⟨⟨hm1616, hni1697⟩, (List.forall_mem_cons.mpr ⟨⟨hm1619, hni1698⟩, (List.forall_mem_cons.mpr ⟨⟨hm1622, hni1699⟩, (List.forall_mem_cons.mpr ⟨⟨hm1625, hni1700⟩, (List.forall_mem_cons.mpr ⟨⟨hm1628, hni1701⟩, (List.forall_mem_cons.mpr ⟨⟨hm1631, hni1702⟩, (List.forall_mem_cons.mpr ⟨⟨hm1634, hni1703⟩, (List.forall_mem_cons.mpr ⟨⟨hm1685, hni1581⟩, (fun _ h => absurd h List.not_mem_nil)⟩)⟩)⟩)⟩)⟩)⟩)⟩)⟩)⟩)⟩) (List.forall_mem_cons.mpr ⟨hRq1642, (List.forall_mem_cons.mpr ⟨hRq1643, (List.forall_mem_cons.mpr ⟨hRq1644, (List.forall_mem_cons.mpr ⟨hRq1645, (List.forall_mem_cons.mpr ⟨hRq1646, (List.forall_mem_cons.mpr ⟨hRq1647, (List.forall_mem_cons.mpr ⟨hRq1648, (List.forall_mem_cons.mpr ⟨hRq1649, (List.forall_mem_cons.mpr ⟨hRq1650, (List.forall_mem_cons.mpr ⟨hRq1585, (fun _ h => absurd h List.not_mem_nil)⟩)⟩)⟩)⟩)⟩)⟩)⟩)⟩)⟩)⟩) (fun k hk => match k, hk with | 0, _ => hf1712 | 1, _ => hf1721 | 2, _ => hf1720 | 3, _ => hf1719 | 4, _ => hf1718 | 5, _ => hf1717 | 6, _ => hf1716 | 7, _ => hf1715 | 8, _ => hf1714 | 9, _ => hf1713 | k + 10, h => absurd h (by omega))
  have hrr1726 : ∀ j, j < 11 → r1708 j = some (aa1722 j 0) := rr_step hrr1571 er1708 (by decide) ea1723 (eb1724.symm ▸ rfl)
  refine lv_iinc (v := 11) (lv' := [(1, .int 11), (0, .ref ac)]) hx hb dX0_init_34 hl (k := 0) rfl (by decide) (by decide) rfl (fun ls hl => ?_)
  refine lv_goto (tgt := 15) hx hb dX0_init_37 (by decide) ?_
  refine lv_iload_n hx hb dX0_init_15 rfl (lv_at hl 0 rfl) ?_
  refine lv_bipush (v := 20) hx hb dX0_init_16 (by decide) ?_
  refine lv_icmp_ge (tgt := 40) hx hb dX0_init_18 (by decide) (fun c1727 => absurd c1727 (by decide)) (fun c1727 => ?_)
  refine lv_aload_n hx hb dX0_init_21 rfl (lv_at hl 1 rfl) ?_
  refine pl_get (v := .ref q1) hx hb hts (fun w h => mT (inX0 w h)) hown hG.1 hP hm1663 hf1711 rfl 0 (by decide) (hts _ (mT wg_413)) (fun _ h => h) rfl dX0_init_22 ?_
  refine lv_iload_n hx hb dX0_init_25 rfl (lv_at hl 0 rfl) ?_
  refine pl_new (ci := 3) (fs := [.int 0, .int 0, .int 0, .int 0, .int 0, .int 0, .int 0, .long 0, .long 0, .null, .null, .null, .null, .null, .null, .null, .null, .null]) (C := RX3) (T := TX3) (N := 18) hx hb hts (fun w h => mT (inX3 w h)) tyX3 tyX3_ok hown (hts _ (mT wg_410)) (hts _ (mT wg_330)) (hts _ (mT wg_165)) hG.1 hP hD hS hA rfl dvX3 (Nat.le_of_ble_eq_true rfl) (Nat.le_of_ble_eq_true rfl) dX0_init_26 (fun q1728 H L1729 f1730 hq1731 hs1732 hm1733 hf1734 ho1735 hP hD hS => ?_)
  have hni1736 : q1728 ∉ L2 := fun h => hq1731 (hs01704 _ h)
  have hs01737 : ∀ b, b ∈ L2 → b ∈ L1729 := fun b hb => hs1732 b (hs01704 b hb)
  have hN1738 : [q1728].Nodup := List.nodup_cons.mpr ⟨fun h => hq1731 (nil_in _ h), List.nodup_nil⟩
  have hNs1739 : ∀ b, b ∈ [q1728] → b ∈ L1729 := List.forall_mem_cons.mpr ⟨hm1733, fun b hb => hs1732 b (nil_in b hb)⟩
  have hRq1740 : ∀ j, j < 11 → ∀ k, k < 10 → aa1722 j k ≠ q1728 := fun j hj k hk e => hq1731 (e ▸ (hR1725.1 j hj k hk).1)
  have hR1741 : RINGP g L2 L1729 f1730 11 aa1722 := RINGP.tr hR1725 hRq1740 hs1732 (fun b hb _ => ho1735 b hb)
  have hfr1742 : ∀ b, b ∈ L → b ≠ ac → f1730 b = f b := fun b hb z0 => (ho1735 b (hsb1653 b hb)).trans (hfr1710 b hb z0)
  have hnq1744 : q1728 ∉ L := fun h => hq1731 (hsb1653 _ h)
  have hsb1743 : ∀ b, b ∈ L → b ∈ _ := fun b hb => hs1732 b (hsb1653 b hb)
  have hf1745 := (ho1735 ac hm1663).trans hf1711
  have hn1747 : ac ≠ q1728 := fun e => hq1731 (e ▸ hm1663)
  have hm1746 := hs1732 _ hm1663
  have hf1748 := (ho1735 q1 hm1674).trans hf1707
  have hn1750 : q1 ≠ q1728 := fun e => hq1731 (e ▸ hm1674)
  have hm1749 := hs1732 _ hm1674
  refine lv_dup hx hb dX0_init_29 rfl ?_
  refine call_v (run_IN (rm := { frames := 1, cells := 9, slots := 258, locals := 12 }) hx hb hml hown hts (k_X3_init l g _ _ _ q1728 hm1733 hf1734) cI_X3_init wn_412 ⟨Nat.le_of_ble_eq_true rfl, Nat.le_of_ble_eq_true rfl⟩ hG hE hA hP hD hS rfl hl.1 (As := []) (rest := [.ref q1728, .int 11, .ref q1]) rfl (Nat.le_of_ble_eq_true rfl) dX0_init_30 ⟨Nat.le_of_ble_eq_true rfl, Nat.le_of_ble_eq_true rfl⟩) hA hD hS (fun L1752 f1753 H locs hp1754 hP hD hS => ?_)
  obtain ⟨q1755, q1756, q1757, q1758, q1759, q1760, q1761, q1762, q1763, hn1764, hm1765, hf1766, hn1767, hm1768, hf1769, hn1770, hm1771, hf1772, hn1773, hm1774, hf1775, hn1776, hm1777, hf1778, hn1779, hm1780, hf1781, hn1782, hm1783, hf1784, hn1785, hm1786, hf1787, hn1788, hm1789, hf1790, hf1791, er1792, fr1793, sb1794⟩ := hp1754
  have hN1795 : [q1755, q1756, q1757, q1758, q1759, q1760, q1761, q1762, q1763, q1728].Nodup := nd_app (l := [q1755, q1756, q1757, q1758, q1759, q1760, q1761, q1762, q1763]) (k := [q1728]) er1792 (List.forall_mem_cons.mpr ⟨hn1764, (List.forall_mem_cons.mpr ⟨hn1767, (List.forall_mem_cons.mpr ⟨hn1770, (List.forall_mem_cons.mpr ⟨hn1773, (List.forall_mem_cons.mpr ⟨hn1776, (List.forall_mem_cons.mpr ⟨hn1779, (List.forall_mem_cons.mpr ⟨hn1782, (List.forall_mem_cons.mpr ⟨hn1785, (List.forall_mem_cons.mpr ⟨hn1788, (fun _ h => absurd h List.not_mem_nil)⟩)⟩)⟩)⟩)⟩)⟩)⟩)⟩)⟩) hN1738 hNs1739
  have hNs1796 : ∀ b, b ∈ [q1755, q1756, q1757, q1758, q1759, q1760, q1761, q1762, q1763, q1728] → b ∈ L1752 := fm_app (l := [q1755, q1756, q1757, q1758, q1759, q1760, q1761, q1762, q1763]) (k := [q1728]) (List.forall_mem_cons.mpr ⟨hm1765, (List.forall_mem_cons.mpr ⟨hm1768, (List.forall_mem_cons.mpr ⟨hm1771, (List.forall_mem_cons.mpr ⟨hm1774, (List.forall_mem_cons.mpr ⟨hm1777, (List.forall_mem_cons.mpr ⟨hm1780, (List.forall_mem_cons.mpr ⟨hm1783, (List.forall_mem_cons.mpr ⟨hm1786, (List.forall_mem_cons.mpr ⟨hm1789, (fun _ h => absurd h List.not_mem_nil)⟩)⟩)⟩)⟩)⟩)⟩)⟩)⟩)⟩) (fun b hb => sb1794 b (hNs1739 b hb))
  have hRq1797 : ∀ j, j < 11 → ∀ k, k < 10 → aa1722 j k ≠ q1755 := fun j hj k hk e => hn1764 (e ▸ (hR1741.1 j hj k hk).1)
  have hRq1798 : ∀ j, j < 11 → ∀ k, k < 10 → aa1722 j k ≠ q1756 := fun j hj k hk e => hn1767 (e ▸ (hR1741.1 j hj k hk).1)
  have hRq1799 : ∀ j, j < 11 → ∀ k, k < 10 → aa1722 j k ≠ q1757 := fun j hj k hk e => hn1770 (e ▸ (hR1741.1 j hj k hk).1)
  have hRq1800 : ∀ j, j < 11 → ∀ k, k < 10 → aa1722 j k ≠ q1758 := fun j hj k hk e => hn1773 (e ▸ (hR1741.1 j hj k hk).1)
  have hRq1801 : ∀ j, j < 11 → ∀ k, k < 10 → aa1722 j k ≠ q1759 := fun j hj k hk e => hn1776 (e ▸ (hR1741.1 j hj k hk).1)
  have hRq1802 : ∀ j, j < 11 → ∀ k, k < 10 → aa1722 j k ≠ q1760 := fun j hj k hk e => hn1779 (e ▸ (hR1741.1 j hj k hk).1)
  have hRq1803 : ∀ j, j < 11 → ∀ k, k < 10 → aa1722 j k ≠ q1761 := fun j hj k hk e => hn1782 (e ▸ (hR1741.1 j hj k hk).1)
  have hRq1804 : ∀ j, j < 11 → ∀ k, k < 10 → aa1722 j k ≠ q1762 := fun j hj k hk e => hn1785 (e ▸ (hR1741.1 j hj k hk).1)
  have hRq1805 : ∀ j, j < 11 → ∀ k, k < 10 → aa1722 j k ≠ q1763 := fun j hj k hk e => hn1788 (e ▸ (hR1741.1 j hj k hk).1)
  have hR1806 : RINGP g L2 L1752 f1753 11 aa1722 := RINGP.tr hR1741 hRq1740 sb1794 (fun b hb hn => fr1793 b hb hn)
  have hfr1807 : ∀ b, b ∈ L → b ≠ ac → f1753 b = f b := fun b hb z0 => (fr1793 b (hsb1743 b hb) (fun e => hnq1744 (e ▸ hb))).trans (hfr1742 b hb z0)
  have hnq1809 : q1755 ∉ L := fun h => hn1764 (hsb1743 _ h)
  have hnq1810 : q1756 ∉ L := fun h => hn1767 (hsb1743 _ h)
  have hnq1811 : q1757 ∉ L := fun h => hn1770 (hsb1743 _ h)
  have hnq1812 : q1758 ∉ L := fun h => hn1773 (hsb1743 _ h)
  have hnq1813 : q1759 ∉ L := fun h => hn1776 (hsb1743 _ h)
  have hnq1814 : q1760 ∉ L := fun h => hn1779 (hsb1743 _ h)
  have hnq1815 : q1761 ∉ L := fun h => hn1782 (hsb1743 _ h)
  have hnq1816 : q1762 ∉ L := fun h => hn1785 (hsb1743 _ h)
  have hnq1817 : q1763 ∉ L := fun h => hn1788 (hsb1743 _ h)
  have hsb1808 : ∀ b, b ∈ L → b ∈ L1752 := fun b hb => sb1794 b (hsb1743 b hb)
  have hn1819 : ac ≠ q1755 := fun e => hn1764 (e ▸ hm1746)
  have hn1820 : ac ≠ q1756 := fun e => hn1767 (e ▸ hm1746)
  have hn1821 : ac ≠ q1757 := fun e => hn1770 (e ▸ hm1746)
  have hn1822 : ac ≠ q1758 := fun e => hn1773 (e ▸ hm1746)
  have hn1823 : ac ≠ q1759 := fun e => hn1776 (e ▸ hm1746)
  have hn1824 : ac ≠ q1760 := fun e => hn1779 (e ▸ hm1746)
  have hn1825 : ac ≠ q1761 := fun e => hn1782 (e ▸ hm1746)
  have hn1826 : ac ≠ q1762 := fun e => hn1785 (e ▸ hm1746)
  have hn1827 : ac ≠ q1763 := fun e => hn1788 (e ▸ hm1746)
  have hf1828 := (fr1793 ac hm1746 hn1747).trans hf1745
  have hm1818 := sb1794 _ hm1746
  have hn1830 : q1 ≠ q1755 := fun e => hn1764 (e ▸ hm1749)
  have hn1831 : q1 ≠ q1756 := fun e => hn1767 (e ▸ hm1749)
  have hn1832 : q1 ≠ q1757 := fun e => hn1770 (e ▸ hm1749)
  have hn1833 : q1 ≠ q1758 := fun e => hn1773 (e ▸ hm1749)
  have hn1834 : q1 ≠ q1759 := fun e => hn1776 (e ▸ hm1749)
  have hn1835 : q1 ≠ q1760 := fun e => hn1779 (e ▸ hm1749)
  have hn1836 : q1 ≠ q1761 := fun e => hn1782 (e ▸ hm1749)
  have hn1837 : q1 ≠ q1762 := fun e => hn1785 (e ▸ hm1749)
  have hn1838 : q1 ≠ q1763 := fun e => hn1788 (e ▸ hm1749)
  have hf1839 := (fr1793 q1 hm1749 hn1750).trans hf1748
  have hm1829 := sb1794 _ hm1749
  have hn1841 : q1728 ≠ q1755 := fun e => hn1764 (e ▸ hm1733)
  have hn1842 : q1728 ≠ q1756 := fun e => hn1767 (e ▸ hm1733)
  have hn1843 : q1728 ≠ q1757 := fun e => hn1770 (e ▸ hm1733)
  have hn1844 : q1728 ≠ q1758 := fun e => hn1773 (e ▸ hm1733)
  have hn1845 : q1728 ≠ q1759 := fun e => hn1776 (e ▸ hm1733)
  have hn1846 : q1728 ≠ q1760 := fun e => hn1779 (e ▸ hm1733)
  have hn1847 : q1728 ≠ q1761 := fun e => hn1782 (e ▸ hm1733)
  have hn1848 : q1728 ≠ q1762 := fun e => hn1785 (e ▸ hm1733)
  have hn1849 : q1728 ≠ q1763 := fun e => hn1788 (e ▸ hm1733)
  have hm1840 := sb1794 _ hm1733
  have hni1850 : q1755 ∉ L2 := fun h => hn1764 (hs01737 _ h)
  have hni1851 : q1756 ∉ L2 := fun h => hn1767 (hs01737 _ h)
  have hni1852 : q1757 ∉ L2 := fun h => hn1770 (hs01737 _ h)
  have hni1853 : q1758 ∉ L2 := fun h => hn1773 (hs01737 _ h)
  have hni1854 : q1759 ∉ L2 := fun h => hn1776 (hs01737 _ h)
  have hni1855 : q1760 ∉ L2 := fun h => hn1779 (hs01737 _ h)
  have hni1856 : q1761 ∉ L2 := fun h => hn1782 (hs01737 _ h)
  have hni1857 : q1762 ∉ L2 := fun h => hn1785 (hs01737 _ h)
  have hni1858 : q1763 ∉ L2 := fun h => hn1788 (hs01737 _ h)
  have hs01859 : ∀ b, b ∈ L2 → b ∈ L1752 := fun b hb => sb1794 b (hs01737 b hb)
  refine pl_astq hx hb hG.1 hP hD hS hm1829 4 3 hf1839 rfl hm1840 hf1791 rfl (by unfold vp_in; decide) dX0_init_33 (fun H locs f1860 r1863 er1863 hf1862 ho1861 hP hD hS => ?_)
  have hR1864 : RINGP g L2 L1752 f1860 11 aa1722 := RINGP.tr hR1806 (fun j hj k hk e => (hR1806.1 j hj k hk).2 (e ▸ hm6)) (fun b hb => hb) (fun b _ hb => ho1861 b hb)
  have hfr1865 : ∀ b, b ∈ L → b ≠ ac → f1860 b = f b := fun b hb z0 => (ho1861 b (fun e => hnq13 (e ▸ hb))).trans (hfr1807 b hb z0)
  have hf1866 := (ho1861 ac hn16).trans hf1828
  have hf1867 := (ho1861 q1728 hn1750.symm).trans hf1791
  have hf1868 := (ho1861 q1755 hn1830.symm).trans hf1766
  have hf1869 := (ho1861 q1756 hn1831.symm).trans hf1769
  have hf1870 := (ho1861 q1757 hn1832.symm).trans hf1772
  have hf1871 := (ho1861 q1758 hn1833.symm).trans hf1775
  have hf1872 := (ho1861 q1759 hn1834.symm).trans hf1778
  have hf1873 := (ho1861 q1760 hn1835.symm).trans hf1781
  have hf1874 := (ho1861 q1761 hn1836.symm).trans hf1784
  have hf1875 := (ho1861 q1762 hn1837.symm).trans hf1787
  have hf1876 := (ho1861 q1763 hn1838.symm).trans hf1790
  obtain ⟨aa1877, ea1878, eb1879, hR1880⟩ := RINGP.add (l := [q1755, q1756, q1757, q1758, q1759, q1760, q1761, q1762, q1763, q1728]) hR1864 rfl hN1795 (List.forall_mem_cons.mpr ⟨⟨hm1765, hni1850⟩, (List.forall_mem_cons.mpr ⟨⟨hm1768, hni1851⟩, (List.forall_mem_cons.mpr ⟨⟨hm1771, hni1852⟩, (List.forall_mem_cons.mpr ⟨⟨hm1774, hni1853⟩, (List.forall_mem_cons.mpr ⟨⟨hm1777, hni1854⟩, (List.forall_mem_cons.mpr ⟨⟨hm1780, hni1855⟩, (List.forall_mem_cons.mpr ⟨⟨hm1783, hni1856⟩, (List.forall_mem_cons.mpr ⟨⟨hm1786, hni1857⟩, (List.forall_mem_cons.mpr ⟨⟨hm1789, hni1858⟩, (List.forall_mem_cons.mpr ⟨⟨hm1840, hni1736⟩, (fun _ h => absurd h List.not_mem_nil)⟩)⟩)⟩)⟩)⟩)⟩)⟩)⟩)⟩)⟩) (List.forall_mem_cons.mpr ⟨hRq1797, (List.forall_mem_cons.mpr ⟨hRq1798, (List.forall_mem_cons.mpr ⟨hRq1799, (List.forall_mem_cons.mpr ⟨hRq1800, (List.forall_mem_cons.mpr ⟨hRq1801, (List.forall_mem_cons.mpr ⟨hRq1802, (List.forall_mem_cons.mpr ⟨hRq1803, (List.forall_mem_cons.mpr ⟨hRq1804, (List.forall_mem_cons.mpr ⟨hRq1805, (List.forall_mem_cons.mpr ⟨hRq1740, (fun _ h => absurd h List.not_mem_nil)⟩)⟩)⟩)⟩)⟩)⟩)⟩)⟩)⟩)⟩) (fun k hk => match k, hk with | 0, _ => hf1867 | 1, _ => hf1876 | 2, _ => hf1875 | 3, _ => hf1874 | 4, _ => hf1873 | 5, _ => hf1872 | 6, _ => hf1871 | 7, _ => hf1870 | 8, _ => hf1869 | 9, _ => hf1868 | k + 10, h => absurd h (by omega))
  have hrr1881 : ∀ j, j < 12 → r1863 j = some (aa1877 j 0) := rr_step hrr1726 er1863 (by decide) ea1878 (eb1879.symm ▸ rfl)
  refine lv_iinc (v := 12) (lv' := [(1, .int 12), (0, .ref ac)]) hx hb dX0_init_34 hl (k := 0) rfl (by decide) (by decide) rfl (fun ls hl => ?_)
  refine lv_goto (tgt := 15) hx hb dX0_init_37 (by decide) ?_
  refine lv_iload_n hx hb dX0_init_15 rfl (lv_at hl 0 rfl) ?_
  refine lv_bipush (v := 20) hx hb dX0_init_16 (by decide) ?_
  refine lv_icmp_ge (tgt := 40) hx hb dX0_init_18 (by decide) (fun c1882 => absurd c1882 (by decide)) (fun c1882 => ?_)
  refine lv_aload_n hx hb dX0_init_21 rfl (lv_at hl 1 rfl) ?_
  refine pl_get (v := .ref q1) hx hb hts (fun w h => mT (inX0 w h)) hown hG.1 hP hm1818 hf1866 rfl 0 (by decide) (hts _ (mT wg_413)) (fun _ h => h) rfl dX0_init_22 ?_
  refine lv_iload_n hx hb dX0_init_25 rfl (lv_at hl 0 rfl) ?_
  refine pl_new (ci := 3) (fs := [.int 0, .int 0, .int 0, .int 0, .int 0, .int 0, .int 0, .long 0, .long 0, .null, .null, .null, .null, .null, .null, .null, .null, .null]) (C := RX3) (T := TX3) (N := 18) hx hb hts (fun w h => mT (inX3 w h)) tyX3 tyX3_ok hown (hts _ (mT wg_410)) (hts _ (mT wg_330)) (hts _ (mT wg_165)) hG.1 hP hD hS hA rfl dvX3 (Nat.le_of_ble_eq_true rfl) (Nat.le_of_ble_eq_true rfl) dX0_init_26 (fun q1883 H L1884 f1885 hq1886 hs1887 hm1888 hf1889 ho1890 hP hD hS => ?_)
  have hni1891 : q1883 ∉ L2 := fun h => hq1886 (hs01859 _ h)
  have hs01892 : ∀ b, b ∈ L2 → b ∈ L1884 := fun b hb => hs1887 b (hs01859 b hb)
  have hN1893 : [q1883].Nodup := List.nodup_cons.mpr ⟨fun h => hq1886 (nil_in _ h), List.nodup_nil⟩
  have hNs1894 : ∀ b, b ∈ [q1883] → b ∈ L1884 := List.forall_mem_cons.mpr ⟨hm1888, fun b hb => hs1887 b (nil_in b hb)⟩
  have hRq1895 : ∀ j, j < 12 → ∀ k, k < 10 → aa1877 j k ≠ q1883 := fun j hj k hk e => hq1886 (e ▸ (hR1880.1 j hj k hk).1)
  have hR1896 : RINGP g L2 L1884 f1885 12 aa1877 := RINGP.tr hR1880 hRq1895 hs1887 (fun b hb _ => ho1890 b hb)
  have hfr1897 : ∀ b, b ∈ L → b ≠ ac → f1885 b = f b := fun b hb z0 => (ho1890 b (hsb1808 b hb)).trans (hfr1865 b hb z0)
  have hnq1899 : q1883 ∉ L := fun h => hq1886 (hsb1808 _ h)
  have hsb1898 : ∀ b, b ∈ L → b ∈ _ := fun b hb => hs1887 b (hsb1808 b hb)
  have hf1900 := (ho1890 ac hm1818).trans hf1866
  have hn1902 : ac ≠ q1883 := fun e => hq1886 (e ▸ hm1818)
  have hm1901 := hs1887 _ hm1818
  have hf1903 := (ho1890 q1 hm1829).trans hf1862
  have hn1905 : q1 ≠ q1883 := fun e => hq1886 (e ▸ hm1829)
  have hm1904 := hs1887 _ hm1829
  refine lv_dup hx hb dX0_init_29 rfl ?_
  refine call_v (run_IN (rm := { frames := 1, cells := 9, slots := 258, locals := 12 }) hx hb hml hown hts (k_X3_init l g _ _ _ q1883 hm1888 hf1889) cI_X3_init wn_412 ⟨Nat.le_of_ble_eq_true rfl, Nat.le_of_ble_eq_true rfl⟩ hG hE hA hP hD hS rfl hl.1 (As := []) (rest := [.ref q1883, .int 12, .ref q1]) rfl (Nat.le_of_ble_eq_true rfl) dX0_init_30 ⟨Nat.le_of_ble_eq_true rfl, Nat.le_of_ble_eq_true rfl⟩) hA hD hS (fun L1907 f1908 H locs hp1909 hP hD hS => ?_)
  obtain ⟨q1910, q1911, q1912, q1913, q1914, q1915, q1916, q1917, q1918, hn1919, hm1920, hf1921, hn1922, hm1923, hf1924, hn1925, hm1926, hf1927, hn1928, hm1929, hf1930, hn1931, hm1932, hf1933, hn1934, hm1935, hf1936, hn1937, hm1938, hf1939, hn1940, hm1941, hf1942, hn1943, hm1944, hf1945, hf1946, er1947, fr1948, sb1949⟩ := hp1909
  have hN1950 : [q1910, q1911, q1912, q1913, q1914, q1915, q1916, q1917, q1918, q1883].Nodup := nd_app (l := [q1910, q1911, q1912, q1913, q1914, q1915, q1916, q1917, q1918]) (k := [q1883]) er1947 (List.forall_mem_cons.mpr ⟨hn1919, (List.forall_mem_cons.mpr ⟨hn1922, (List.forall_mem_cons.mpr ⟨hn1925, (List.forall_mem_cons.mpr ⟨hn1928, (List.forall_mem_cons.mpr ⟨hn1931, (List.forall_mem_cons.mpr ⟨hn1934, (List.forall_mem_cons.mpr ⟨hn1937, (List.forall_mem_cons.mpr ⟨hn1940, (List.forall_mem_cons.mpr ⟨hn1943, (fun _ h => absurd h List.not_mem_nil)⟩)⟩)⟩)⟩)⟩)⟩)⟩)⟩)⟩) hN1893 hNs1894
  have hNs1951 : ∀ b, b ∈ [q1910, q1911, q1912, q1913, q1914, q1915, q1916, q1917, q1918, q1883] → b ∈ L1907 := fm_app (l := [q1910, q1911, q1912, q1913, q1914, q1915, q1916, q1917, q1918]) (k := [q1883]) (List.forall_mem_cons.mpr ⟨hm1920, (List.forall_mem_cons.mpr ⟨hm1923, (List.forall_mem_cons.mpr ⟨hm1926, (List.forall_mem_cons.mpr ⟨hm1929, (List.forall_mem_cons.mpr ⟨hm1932, (List.forall_mem_cons.mpr ⟨hm1935, (List.forall_mem_cons.mpr ⟨hm1938, (List.forall_mem_cons.mpr ⟨hm1941, (List.forall_mem_cons.mpr ⟨hm1944, (fun _ h => absurd h List.not_mem_nil)⟩)⟩)⟩)⟩)⟩)⟩)⟩)⟩)⟩) (fun b hb => sb1949 b (hNs1894 b hb))
  have hRq1952 : ∀ j, j < 12 → ∀ k, k < 10 → aa1877 j k ≠ q1910 := fun j hj k hk e => hn1919 (e ▸ (hR1896.1 j hj k hk).1)
  have hRq1953 : ∀ j, j < 12 → ∀ k, k < 10 → aa1877 j k ≠ q1911 := fun j hj k hk e => hn1922 (e ▸ (hR1896.1 j hj k hk).1)
  have hRq1954 : ∀ j, j < 12 → ∀ k, k < 10 → aa1877 j k ≠ q1912 := fun j hj k hk e => hn1925 (e ▸ (hR1896.1 j hj k hk).1)
  have hRq1955 : ∀ j, j < 12 → ∀ k, k < 10 → aa1877 j k ≠ q1913 := fun j hj k hk e => hn1928 (e ▸ (hR1896.1 j hj k hk).1)
  have hRq1956 : ∀ j, j < 12 → ∀ k, k < 10 → aa1877 j k ≠ q1914 := fun j hj k hk e => hn1931 (e ▸ (hR1896.1 j hj k hk).1)
  have hRq1957 : ∀ j, j < 12 → ∀ k, k < 10 → aa1877 j k ≠ q1915 := fun j hj k hk e => hn1934 (e ▸ (hR1896.1 j hj k hk).1)
  have hRq1958 : ∀ j, j < 12 → ∀ k, k < 10 → aa1877 j k ≠ q1916 := fun j hj k hk e => hn1937 (e ▸ (hR1896.1 j hj k hk).1)
  have hRq1959 : ∀ j, j < 12 → ∀ k, k < 10 → aa1877 j k ≠ q1917 := fun j hj k hk e => hn1940 (e ▸ (hR1896.1 j hj k hk).1)
  have hRq1960 : ∀ j, j < 12 → ∀ k, k < 10 → aa1877 j k ≠ q1918 := fun j hj k hk e => hn1943 (e ▸ (hR1896.1 j hj k hk).1)
  have hR1961 : RINGP g L2 L1907 f1908 12 aa1877 := RINGP.tr hR1896 hRq1895 sb1949 (fun b hb hn => fr1948 b hb hn)
  have hfr1962 : ∀ b, b ∈ L → b ≠ ac → f1908 b = f b := fun b hb z0 => (fr1948 b (hsb1898 b hb) (fun e => hnq1899 (e ▸ hb))).trans (hfr1897 b hb z0)
  have hnq1964 : q1910 ∉ L := fun h => hn1919 (hsb1898 _ h)
  have hnq1965 : q1911 ∉ L := fun h => hn1922 (hsb1898 _ h)
  have hnq1966 : q1912 ∉ L := fun h => hn1925 (hsb1898 _ h)
  have hnq1967 : q1913 ∉ L := fun h => hn1928 (hsb1898 _ h)
  have hnq1968 : q1914 ∉ L := fun h => hn1931 (hsb1898 _ h)
  have hnq1969 : q1915 ∉ L := fun h => hn1934 (hsb1898 _ h)
  have hnq1970 : q1916 ∉ L := fun h => hn1937 (hsb1898 _ h)
  have hnq1971 : q1917 ∉ L := fun h => hn1940 (hsb1898 _ h)
  have hnq1972 : q1918 ∉ L := fun h => hn1943 (hsb1898 _ h)
  have hsb1963 : ∀ b, b ∈ L → b ∈ L1907 := fun b hb => sb1949 b (hsb1898 b hb)
  have hn1974 : ac ≠ q1910 := fun e => hn1919 (e ▸ hm1901)
  have hn1975 : ac ≠ q1911 := fun e => hn1922 (e ▸ hm1901)
  have hn1976 : ac ≠ q1912 := fun e => hn1925 (e ▸ hm1901)
  have hn1977 : ac ≠ q1913 := fun e => hn1928 (e ▸ hm1901)
  have hn1978 : ac ≠ q1914 := fun e => hn1931 (e ▸ hm1901)
  have hn1979 : ac ≠ q1915 := fun e => hn1934 (e ▸ hm1901)
  have hn1980 : ac ≠ q1916 := fun e => hn1937 (e ▸ hm1901)
  have hn1981 : ac ≠ q1917 := fun e => hn1940 (e ▸ hm1901)
  have hn1982 : ac ≠ q1918 := fun e => hn1943 (e ▸ hm1901)
  have hf1983 := (fr1948 ac hm1901 hn1902).trans hf1900
  have hm1973 := sb1949 _ hm1901
  have hn1985 : q1 ≠ q1910 := fun e => hn1919 (e ▸ hm1904)
  have hn1986 : q1 ≠ q1911 := fun e => hn1922 (e ▸ hm1904)
  have hn1987 : q1 ≠ q1912 := fun e => hn1925 (e ▸ hm1904)
  have hn1988 : q1 ≠ q1913 := fun e => hn1928 (e ▸ hm1904)
  have hn1989 : q1 ≠ q1914 := fun e => hn1931 (e ▸ hm1904)
  have hn1990 : q1 ≠ q1915 := fun e => hn1934 (e ▸ hm1904)
  have hn1991 : q1 ≠ q1916 := fun e => hn1937 (e ▸ hm1904)
  have hn1992 : q1 ≠ q1917 := fun e => hn1940 (e ▸ hm1904)
  have hn1993 : q1 ≠ q1918 := fun e => hn1943 (e ▸ hm1904)
  have hf1994 := (fr1948 q1 hm1904 hn1905).trans hf1903
  have hm1984 := sb1949 _ hm1904
  have hn1996 : q1883 ≠ q1910 := fun e => hn1919 (e ▸ hm1888)
  have hn1997 : q1883 ≠ q1911 := fun e => hn1922 (e ▸ hm1888)
  have hn1998 : q1883 ≠ q1912 := fun e => hn1925 (e ▸ hm1888)
  have hn1999 : q1883 ≠ q1913 := fun e => hn1928 (e ▸ hm1888)
  have hn2000 : q1883 ≠ q1914 := fun e => hn1931 (e ▸ hm1888)
  have hn2001 : q1883 ≠ q1915 := fun e => hn1934 (e ▸ hm1888)
  have hn2002 : q1883 ≠ q1916 := fun e => hn1937 (e ▸ hm1888)
  have hn2003 : q1883 ≠ q1917 := fun e => hn1940 (e ▸ hm1888)
  have hn2004 : q1883 ≠ q1918 := fun e => hn1943 (e ▸ hm1888)
  have hm1995 := sb1949 _ hm1888
  have hni2005 : q1910 ∉ L2 := fun h => hn1919 (hs01892 _ h)
  have hni2006 : q1911 ∉ L2 := fun h => hn1922 (hs01892 _ h)
  have hni2007 : q1912 ∉ L2 := fun h => hn1925 (hs01892 _ h)
  have hni2008 : q1913 ∉ L2 := fun h => hn1928 (hs01892 _ h)
  have hni2009 : q1914 ∉ L2 := fun h => hn1931 (hs01892 _ h)
  have hni2010 : q1915 ∉ L2 := fun h => hn1934 (hs01892 _ h)
  have hni2011 : q1916 ∉ L2 := fun h => hn1937 (hs01892 _ h)
  have hni2012 : q1917 ∉ L2 := fun h => hn1940 (hs01892 _ h)
  have hni2013 : q1918 ∉ L2 := fun h => hn1943 (hs01892 _ h)
  have hs02014 : ∀ b, b ∈ L2 → b ∈ L1907 := fun b hb => sb1949 b (hs01892 b hb)
  refine pl_astq hx hb hG.1 hP hD hS hm1984 4 3 hf1994 rfl hm1995 hf1946 rfl (by unfold vp_in; decide) dX0_init_33 (fun H locs f2015 r2018 er2018 hf2017 ho2016 hP hD hS => ?_)
  have hR2019 : RINGP g L2 L1907 f2015 12 aa1877 := RINGP.tr hR1961 (fun j hj k hk e => (hR1961.1 j hj k hk).2 (e ▸ hm6)) (fun b hb => hb) (fun b _ hb => ho2016 b hb)
  have hfr2020 : ∀ b, b ∈ L → b ≠ ac → f2015 b = f b := fun b hb z0 => (ho2016 b (fun e => hnq13 (e ▸ hb))).trans (hfr1962 b hb z0)
  have hf2021 := (ho2016 ac hn16).trans hf1983
  have hf2022 := (ho2016 q1883 hn1905.symm).trans hf1946
  have hf2023 := (ho2016 q1910 hn1985.symm).trans hf1921
  have hf2024 := (ho2016 q1911 hn1986.symm).trans hf1924
  have hf2025 := (ho2016 q1912 hn1987.symm).trans hf1927
  have hf2026 := (ho2016 q1913 hn1988.symm).trans hf1930
  have hf2027 := (ho2016 q1914 hn1989.symm).trans hf1933
  have hf2028 := (ho2016 q1915 hn1990.symm).trans hf1936
  have hf2029 := (ho2016 q1916 hn1991.symm).trans hf1939
  have hf2030 := (ho2016 q1917 hn1992.symm).trans hf1942
  have hf2031 := (ho2016 q1918 hn1993.symm).trans hf1945
  obtain ⟨aa2032, ea2033, eb2034, hR2035⟩ := RINGP.add (l := [q1910, q1911, q1912, q1913, q1914, q1915, q1916, q1917, q1918, q1883]) hR2019 rfl hN1950 (List.forall_mem_cons.mpr ⟨⟨hm1920, hni2005⟩, (List.forall_mem_cons.mpr ⟨⟨hm1923, hni2006⟩, (List.forall_mem_cons.mpr ⟨⟨hm1926, hni2007⟩, (List.forall_mem_cons.mpr ⟨⟨hm1929, hni2008⟩, (List.forall_mem_cons.mpr ⟨⟨hm1932, hni2009⟩, (List.forall_mem_cons.mpr ⟨⟨hm1935, hni2010⟩, (List.forall_mem_cons.mpr ⟨⟨hm1938, hni2011⟩, (List.forall_mem_cons.mpr ⟨⟨hm1941, hni2012⟩, (List.forall_mem_cons.mpr ⟨⟨hm1944, hni2013⟩, (List.forall_mem_cons.mpr ⟨⟨hm1995, hni1891⟩, (fun _ h => absurd h List.not_mem_nil)⟩)⟩)⟩)⟩)⟩)⟩)⟩)⟩)⟩)⟩) (List.forall_mem_cons.mpr ⟨hRq1952, (List.forall_mem_cons.mpr ⟨hRq1953, (List.forall_mem_cons.mpr ⟨hRq1954, (List.forall_mem_cons.mpr ⟨hRq1955, (List.forall_mem_cons.mpr ⟨hRq1956, (List.forall_mem_cons.mpr ⟨hRq1957, (List.forall_mem_cons.mpr ⟨hRq1958, (List.forall_mem_cons.mpr ⟨hRq1959, (List.forall_mem_cons.mpr ⟨hRq1960, (List.forall_mem_cons.mpr ⟨hRq1895, (fun _ h => absurd h List.not_mem_nil)⟩)⟩)⟩)⟩)⟩)⟩)⟩)⟩)⟩)⟩) (fun k hk => match k, hk with | 0, _ => hf2022 | 1, _ => hf2031 | 2, _ => hf2030 | 3, _ => hf2029 | 4, _ => hf2028 | 5, _ => hf2027 | 6, _ => hf2026 | 7, _ => hf2025 | 8, _ => hf2024 | 9, _ => hf2023 | k + 10, h => absurd h (by omega))
  have hrr2036 : ∀ j, j < 13 → r2018 j = some (aa2032 j 0) := rr_step hrr1881 er2018 (by decide) ea2033 (eb2034.symm ▸ rfl)
  refine lv_iinc (v := 13) (lv' := [(1, .int 13), (0, .ref ac)]) hx hb dX0_init_34 hl (k := 0) rfl (by decide) (by decide) rfl (fun ls hl => ?_)
  refine lv_goto (tgt := 15) hx hb dX0_init_37 (by decide) ?_
  refine lv_iload_n hx hb dX0_init_15 rfl (lv_at hl 0 rfl) ?_
  refine lv_bipush (v := 20) hx hb dX0_init_16 (by decide) ?_
  refine lv_icmp_ge (tgt := 40) hx hb dX0_init_18 (by decide) (fun c2037 => absurd c2037 (by decide)) (fun c2037 => ?_)
  refine lv_aload_n hx hb dX0_init_21 rfl (lv_at hl 1 rfl) ?_
  refine pl_get (v := .ref q1) hx hb hts (fun w h => mT (inX0 w h)) hown hG.1 hP hm1973 hf2021 rfl 0 (by decide) (hts _ (mT wg_413)) (fun _ h => h) rfl dX0_init_22 ?_
  refine lv_iload_n hx hb dX0_init_25 rfl (lv_at hl 0 rfl) ?_
  refine pl_new (ci := 3) (fs := [.int 0, .int 0, .int 0, .int 0, .int 0, .int 0, .int 0, .long 0, .long 0, .null, .null, .null, .null, .null, .null, .null, .null, .null]) (C := RX3) (T := TX3) (N := 18) hx hb hts (fun w h => mT (inX3 w h)) tyX3 tyX3_ok hown (hts _ (mT wg_410)) (hts _ (mT wg_330)) (hts _ (mT wg_165)) hG.1 hP hD hS hA rfl dvX3 (Nat.le_of_ble_eq_true rfl) (Nat.le_of_ble_eq_true rfl) dX0_init_26 (fun q2038 H L2039 f2040 hq2041 hs2042 hm2043 hf2044 ho2045 hP hD hS => ?_)
  have hni2046 : q2038 ∉ L2 := fun h => hq2041 (hs02014 _ h)
  have hs02047 : ∀ b, b ∈ L2 → b ∈ L2039 := fun b hb => hs2042 b (hs02014 b hb)
  have hN2048 : [q2038].Nodup := List.nodup_cons.mpr ⟨fun h => hq2041 (nil_in _ h), List.nodup_nil⟩
  have hNs2049 : ∀ b, b ∈ [q2038] → b ∈ L2039 := List.forall_mem_cons.mpr ⟨hm2043, fun b hb => hs2042 b (nil_in b hb)⟩
  have hRq2050 : ∀ j, j < 13 → ∀ k, k < 10 → aa2032 j k ≠ q2038 := fun j hj k hk e => hq2041 (e ▸ (hR2035.1 j hj k hk).1)
  have hR2051 : RINGP g L2 L2039 f2040 13 aa2032 := RINGP.tr hR2035 hRq2050 hs2042 (fun b hb _ => ho2045 b hb)
  have hfr2052 : ∀ b, b ∈ L → b ≠ ac → f2040 b = f b := fun b hb z0 => (ho2045 b (hsb1963 b hb)).trans (hfr2020 b hb z0)
  have hnq2054 : q2038 ∉ L := fun h => hq2041 (hsb1963 _ h)
  have hsb2053 : ∀ b, b ∈ L → b ∈ _ := fun b hb => hs2042 b (hsb1963 b hb)
  have hf2055 := (ho2045 ac hm1973).trans hf2021
  have hn2057 : ac ≠ q2038 := fun e => hq2041 (e ▸ hm1973)
  have hm2056 := hs2042 _ hm1973
  have hf2058 := (ho2045 q1 hm1984).trans hf2017
  have hn2060 : q1 ≠ q2038 := fun e => hq2041 (e ▸ hm1984)
  have hm2059 := hs2042 _ hm1984
  refine lv_dup hx hb dX0_init_29 rfl ?_
  refine call_v (run_IN (rm := { frames := 1, cells := 9, slots := 258, locals := 12 }) hx hb hml hown hts (k_X3_init l g _ _ _ q2038 hm2043 hf2044) cI_X3_init wn_412 ⟨Nat.le_of_ble_eq_true rfl, Nat.le_of_ble_eq_true rfl⟩ hG hE hA hP hD hS rfl hl.1 (As := []) (rest := [.ref q2038, .int 13, .ref q1]) rfl (Nat.le_of_ble_eq_true rfl) dX0_init_30 ⟨Nat.le_of_ble_eq_true rfl, Nat.le_of_ble_eq_true rfl⟩) hA hD hS (fun L2062 f2063 H locs hp2064 hP hD hS => ?_)
  obtain ⟨q2065, q2066, q2067, q2068, q2069, q2070, q2071, q2072, q2073, hn2074, hm2075, hf2076, hn2077, hm2078, hf2079, hn2080, hm2081, hf2082, hn2083, hm2084, hf2085, hn2086, hm2087, hf2088, hn2089, hm2090, hf2091, hn2092, hm2093, hf2094, hn2095, hm2096, hf2097, hn2098, hm2099, hf2100, hf2101, er2102, fr2103, sb2104⟩ := hp2064
  have hN2105 : [q2065, q2066, q2067, q2068, q2069, q2070, q2071, q2072, q2073, q2038].Nodup := nd_app (l := [q2065, q2066, q2067, q2068, q2069, q2070, q2071, q2072, q2073]) (k := [q2038]) er2102 (List.forall_mem_cons.mpr ⟨hn2074, (List.forall_mem_cons.mpr ⟨hn2077, (List.forall_mem_cons.mpr ⟨hn2080, (List.forall_mem_cons.mpr ⟨hn2083, (List.forall_mem_cons.mpr ⟨hn2086, (List.forall_mem_cons.mpr ⟨hn2089, (List.forall_mem_cons.mpr ⟨hn2092, (List.forall_mem_cons.mpr ⟨hn2095, (List.forall_mem_cons.mpr ⟨hn2098, (fun _ h => absurd h List.not_mem_nil)⟩)⟩)⟩)⟩)⟩)⟩)⟩)⟩)⟩) hN2048 hNs2049
  have hNs2106 : ∀ b, b ∈ [q2065, q2066, q2067, q2068, q2069, q2070, q2071, q2072, q2073, q2038] → b ∈ L2062 := fm_app (l := [q2065, q2066, q2067, q2068, q2069, q2070, q2071, q2072, q2073]) (k := [q2038]) (List.forall_mem_cons.mpr ⟨hm2075, (List.forall_mem_cons.mpr ⟨hm2078, (List.forall_mem_cons.mpr ⟨hm2081, (List.forall_mem_cons.mpr ⟨hm2084, (List.forall_mem_cons.mpr ⟨hm2087, (List.forall_mem_cons.mpr ⟨hm2090, (List.forall_mem_cons.mpr ⟨hm2093, (List.forall_mem_cons.mpr ⟨hm2096, (List.forall_mem_cons.mpr ⟨hm2099, (fun _ h => absurd h List.not_mem_nil)⟩)⟩)⟩)⟩)⟩)⟩)⟩)⟩)⟩) (fun b hb => sb2104 b (hNs2049 b hb))
  have hRq2107 : ∀ j, j < 13 → ∀ k, k < 10 → aa2032 j k ≠ q2065 := fun j hj k hk e => hn2074 (e ▸ (hR2051.1 j hj k hk).1)
  have hRq2108 : ∀ j, j < 13 → ∀ k, k < 10 → aa2032 j k ≠ q2066 := fun j hj k hk e => hn2077 (e ▸ (hR2051.1 j hj k hk).1)
  have hRq2109 : ∀ j, j < 13 → ∀ k, k < 10 → aa2032 j k ≠ q2067 := fun j hj k hk e => hn2080 (e ▸ (hR2051.1 j hj k hk).1)
  have hRq2110 : ∀ j, j < 13 → ∀ k, k < 10 → aa2032 j k ≠ q2068 := fun j hj k hk e => hn2083 (e ▸ (hR2051.1 j hj k hk).1)
  have hRq2111 : ∀ j, j < 13 → ∀ k, k < 10 → aa2032 j k ≠ q2069 := fun j hj k hk e => hn2086 (e ▸ (hR2051.1 j hj k hk).1)
  have hRq2112 : ∀ j, j < 13 → ∀ k, k < 10 → aa2032 j k ≠ q2070 := fun j hj k hk e => hn2089 (e ▸ (hR2051.1 j hj k hk).1)
  have hRq2113 : ∀ j, j < 13 → ∀ k, k < 10 → aa2032 j k ≠ q2071 := fun j hj k hk e => hn2092 (e ▸ (hR2051.1 j hj k hk).1)
  have hRq2114 : ∀ j, j < 13 → ∀ k, k < 10 → aa2032 j k ≠ q2072 := fun j hj k hk e => hn2095 (e ▸ (hR2051.1 j hj k hk).1)
  have hRq2115 : ∀ j, j < 13 → ∀ k, k < 10 → aa2032 j k ≠ q2073 := fun j hj k hk e => hn2098 (e ▸ (hR2051.1 j hj k hk).1)
  have hR2116 : RINGP g L2 L2062 f2063 13 aa2032 := RINGP.tr hR2051 hRq2050 sb2104 (fun b hb hn => fr2103 b hb hn)
  have hfr2117 : ∀ b, b ∈ L → b ≠ ac → f2063 b = f b := fun b hb z0 => (fr2103 b (hsb2053 b hb) (fun e => hnq2054 (e ▸ hb))).trans (hfr2052 b hb z0)
  have hnq2119 : q2065 ∉ L := fun h => hn2074 (hsb2053 _ h)
  have hnq2120 : q2066 ∉ L := fun h => hn2077 (hsb2053 _ h)
  have hnq2121 : q2067 ∉ L := fun h => hn2080 (hsb2053 _ h)
  have hnq2122 : q2068 ∉ L := fun h => hn2083 (hsb2053 _ h)
  have hnq2123 : q2069 ∉ L := fun h => hn2086 (hsb2053 _ h)
  have hnq2124 : q2070 ∉ L := fun h => hn2089 (hsb2053 _ h)
  have hnq2125 : q2071 ∉ L := fun h => hn2092 (hsb2053 _ h)
  have hnq2126 : q2072 ∉ L := fun h => hn2095 (hsb2053 _ h)
  have hnq2127 : q2073 ∉ L := fun h => hn2098 (hsb2053 _ h)
  have hsb2118 : ∀ b, b ∈ L → b ∈ L2062 := fun b hb => sb2104 b (hsb2053 b hb)
  have hn2129 : ac ≠ q2065 := fun e => hn2074 (e ▸ hm2056)
  have hn2130 : ac ≠ q2066 := fun e => hn2077 (e ▸ hm2056)
  have hn2131 : ac ≠ q2067 := fun e => hn2080 (e ▸ hm2056)
  have hn2132 : ac ≠ q2068 := fun e => hn2083 (e ▸ hm2056)
  have hn2133 : ac ≠ q2069 := fun e => hn2086 (e ▸ hm2056)
  have hn2134 : ac ≠ q2070 := fun e => hn2089 (e ▸ hm2056)
  have hn2135 : ac ≠ q2071 := fun e => hn2092 (e ▸ hm2056)
  have hn2136 : ac ≠ q2072 := fun e => hn2095 (e ▸ hm2056)
  have hn2137 : ac ≠ q2073 := fun e => hn2098 (e ▸ hm2056)
  have hf2138 := (fr2103 ac hm2056 hn2057).trans hf2055
  have hm2128 := sb2104 _ hm2056
  have hn2140 : q1 ≠ q2065 := fun e => hn2074 (e ▸ hm2059)
  have hn2141 : q1 ≠ q2066 := fun e => hn2077 (e ▸ hm2059)
  have hn2142 : q1 ≠ q2067 := fun e => hn2080 (e ▸ hm2059)
  have hn2143 : q1 ≠ q2068 := fun e => hn2083 (e ▸ hm2059)
  have hn2144 : q1 ≠ q2069 := fun e => hn2086 (e ▸ hm2059)
  have hn2145 : q1 ≠ q2070 := fun e => hn2089 (e ▸ hm2059)
  have hn2146 : q1 ≠ q2071 := fun e => hn2092 (e ▸ hm2059)
  have hn2147 : q1 ≠ q2072 := fun e => hn2095 (e ▸ hm2059)
  have hn2148 : q1 ≠ q2073 := fun e => hn2098 (e ▸ hm2059)
  have hf2149 := (fr2103 q1 hm2059 hn2060).trans hf2058
  have hm2139 := sb2104 _ hm2059
  have hn2151 : q2038 ≠ q2065 := fun e => hn2074 (e ▸ hm2043)
  have hn2152 : q2038 ≠ q2066 := fun e => hn2077 (e ▸ hm2043)
  have hn2153 : q2038 ≠ q2067 := fun e => hn2080 (e ▸ hm2043)
  have hn2154 : q2038 ≠ q2068 := fun e => hn2083 (e ▸ hm2043)
  have hn2155 : q2038 ≠ q2069 := fun e => hn2086 (e ▸ hm2043)
  have hn2156 : q2038 ≠ q2070 := fun e => hn2089 (e ▸ hm2043)
  have hn2157 : q2038 ≠ q2071 := fun e => hn2092 (e ▸ hm2043)
  have hn2158 : q2038 ≠ q2072 := fun e => hn2095 (e ▸ hm2043)
  have hn2159 : q2038 ≠ q2073 := fun e => hn2098 (e ▸ hm2043)
  have hm2150 := sb2104 _ hm2043
  have hni2160 : q2065 ∉ L2 := fun h => hn2074 (hs02047 _ h)
  have hni2161 : q2066 ∉ L2 := fun h => hn2077 (hs02047 _ h)
  have hni2162 : q2067 ∉ L2 := fun h => hn2080 (hs02047 _ h)
  have hni2163 : q2068 ∉ L2 := fun h => hn2083 (hs02047 _ h)
  have hni2164 : q2069 ∉ L2 := fun h => hn2086 (hs02047 _ h)
  have hni2165 : q2070 ∉ L2 := fun h => hn2089 (hs02047 _ h)
  have hni2166 : q2071 ∉ L2 := fun h => hn2092 (hs02047 _ h)
  have hni2167 : q2072 ∉ L2 := fun h => hn2095 (hs02047 _ h)
  have hni2168 : q2073 ∉ L2 := fun h => hn2098 (hs02047 _ h)
  have hs02169 : ∀ b, b ∈ L2 → b ∈ L2062 := fun b hb => sb2104 b (hs02047 b hb)
  refine pl_astq hx hb hG.1 hP hD hS hm2139 4 3 hf2149 rfl hm2150 hf2101 rfl (by unfold vp_in; decide) dX0_init_33 (fun H locs f2170 r2173 er2173 hf2172 ho2171 hP hD hS => ?_)
  have hR2174 : RINGP g L2 L2062 f2170 13 aa2032 := RINGP.tr hR2116 (fun j hj k hk e => (hR2116.1 j hj k hk).2 (e ▸ hm6)) (fun b hb => hb) (fun b _ hb => ho2171 b hb)
  have hfr2175 : ∀ b, b ∈ L → b ≠ ac → f2170 b = f b := fun b hb z0 => (ho2171 b (fun e => hnq13 (e ▸ hb))).trans (hfr2117 b hb z0)
  have hf2176 := (ho2171 ac hn16).trans hf2138
  have hf2177 := (ho2171 q2038 hn2060.symm).trans hf2101
  have hf2178 := (ho2171 q2065 hn2140.symm).trans hf2076
  have hf2179 := (ho2171 q2066 hn2141.symm).trans hf2079
  have hf2180 := (ho2171 q2067 hn2142.symm).trans hf2082
  have hf2181 := (ho2171 q2068 hn2143.symm).trans hf2085
  have hf2182 := (ho2171 q2069 hn2144.symm).trans hf2088
  have hf2183 := (ho2171 q2070 hn2145.symm).trans hf2091
  have hf2184 := (ho2171 q2071 hn2146.symm).trans hf2094
  have hf2185 := (ho2171 q2072 hn2147.symm).trans hf2097
  have hf2186 := (ho2171 q2073 hn2148.symm).trans hf2100
  obtain ⟨aa2187, ea2188, eb2189, hR2190⟩ := RINGP.add (l := [q2065, q2066, q2067, q2068, q2069, q2070, q2071, q2072, q2073, q2038]) hR2174 rfl hN2105 (List.forall_mem_cons.mpr ⟨⟨hm2075, hni2160⟩, (List.forall_mem_cons.mpr ⟨⟨hm2078, hni2161⟩, (List.forall_mem_cons.mpr ⟨⟨hm2081, hni2162⟩, (List.forall_mem_cons.mpr ⟨⟨hm2084, hni2163⟩, (List.forall_mem_cons.mpr ⟨⟨hm2087, hni2164⟩, (List.forall_mem_cons.mpr ⟨⟨hm2090, hni2165⟩, (List.forall_mem_cons.mpr ⟨⟨hm2093, hni2166⟩, (List.forall_mem_cons.mpr ⟨⟨hm2096, hni2167⟩, (List.forall_mem_cons.mpr ⟨⟨hm2099, hni2168⟩, (List.forall_mem_cons.mpr ⟨⟨hm2150, hni2046⟩, (fun _ h => absurd h List.not_mem_nil)⟩)⟩)⟩)⟩)⟩)⟩)⟩)⟩)⟩)⟩) (List.forall_mem_cons.mpr ⟨hRq2107, (List.forall_mem_cons.mpr ⟨hRq2108, (List.forall_mem_cons.mpr ⟨hRq2109, (List.forall_mem_cons.mpr ⟨hRq2110, (List.forall_mem_cons.mpr ⟨hRq2111, (List.forall_mem_cons.mpr ⟨hRq2112, (List.forall_mem_cons.mpr ⟨hRq2113, (List.forall_mem_cons.mpr ⟨hRq2114, (List.forall_mem_cons.mpr ⟨hRq2115, (List.forall_mem_cons.mpr ⟨hRq2050, (fun _ h => absurd h List.not_mem_nil)⟩)⟩)⟩)⟩)⟩)⟩)⟩)⟩)⟩)⟩) (fun k hk => match k, hk with | 0, _ => hf2177 | 1, _ => hf2186 | 2, _ => hf2185 | 3, _ => hf2184 | 4, _ => hf2183 | 5, _ => hf2182 | 6, _ => hf2181 | 7, _ => hf2180 | 8, _ => hf2179 | 9, _ => hf2178 | k + 10, h => absurd h (by omega))
  have hrr2191 : ∀ j, j < 14 → r2173 j = some (aa2187 j 0) := rr_step hrr2036 er2173 (by decide) ea2188 (eb2189.symm ▸ rfl)
  refine lv_iinc (v := 14) (lv' := [(1, .int 14), (0, .ref ac)]) hx hb dX0_init_34 hl (k := 0) rfl (by decide) (by decide) rfl (fun ls hl => ?_)
  refine lv_goto (tgt := 15) hx hb dX0_init_37 (by decide) ?_
  refine lv_iload_n hx hb dX0_init_15 rfl (lv_at hl 0 rfl) ?_
  refine lv_bipush (v := 20) hx hb dX0_init_16 (by decide) ?_
  refine lv_icmp_ge (tgt := 40) hx hb dX0_init_18 (by decide) (fun c2192 => absurd c2192 (by decide)) (fun c2192 => ?_)
  refine lv_aload_n hx hb dX0_init_21 rfl (lv_at hl 1 rfl) ?_
  refine pl_get (v := .ref q1) hx hb hts (fun w h => mT (inX0 w h)) hown hG.1 hP hm2128 hf2176 rfl 0 (by decide) (hts _ (mT wg_413)) (fun _ h => h) rfl dX0_init_22 ?_
  refine lv_iload_n hx hb dX0_init_25 rfl (lv_at hl 0 rfl) ?_
  refine pl_new (ci := 3) (fs := [.int 0, .int 0, .int 0, .int 0, .int 0, .int 0, .int 0, .long 0, .long 0, .null, .null, .null, .null, .null, .null, .null, .null, .null]) (C := RX3) (T := TX3) (N := 18) hx hb hts (fun w h => mT (inX3 w h)) tyX3 tyX3_ok hown (hts _ (mT wg_410)) (hts _ (mT wg_330)) (hts _ (mT wg_165)) hG.1 hP hD hS hA rfl dvX3 (Nat.le_of_ble_eq_true rfl) (Nat.le_of_ble_eq_true rfl) dX0_init_26 (fun q2193 H L2194 f2195 hq2196 hs2197 hm2198 hf2199 ho2200 hP hD hS => ?_)
  have hni2201 : q2193 ∉ L2 := fun h => hq2196 (hs02169 _ h)
  have hs02202 : ∀ b, b ∈ L2 → b ∈ L2194 := fun b hb => hs2197 b (hs02169 b hb)
  have hN2203 : [q2193].Nodup := List.nodup_cons.mpr ⟨fun h => hq2196 (nil_in _ h), List.nodup_nil⟩
  have hNs2204 : ∀ b, b ∈ [q2193] → b ∈ L2194 := List.forall_mem_cons.mpr ⟨hm2198, fun b hb => hs2197 b (nil_in b hb)⟩
  have hRq2205 : ∀ j, j < 14 → ∀ k, k < 10 → aa2187 j k ≠ q2193 := fun j hj k hk e => hq2196 (e ▸ (hR2190.1 j hj k hk).1)
  have hR2206 : RINGP g L2 L2194 f2195 14 aa2187 := RINGP.tr hR2190 hRq2205 hs2197 (fun b hb _ => ho2200 b hb)
  have hfr2207 : ∀ b, b ∈ L → b ≠ ac → f2195 b = f b := fun b hb z0 => (ho2200 b (hsb2118 b hb)).trans (hfr2175 b hb z0)
  have hnq2209 : q2193 ∉ L := fun h => hq2196 (hsb2118 _ h)
  have hsb2208 : ∀ b, b ∈ L → b ∈ _ := fun b hb => hs2197 b (hsb2118 b hb)
  have hf2210 := (ho2200 ac hm2128).trans hf2176
  have hn2212 : ac ≠ q2193 := fun e => hq2196 (e ▸ hm2128)
  have hm2211 := hs2197 _ hm2128
  have hf2213 := (ho2200 q1 hm2139).trans hf2172
  have hn2215 : q1 ≠ q2193 := fun e => hq2196 (e ▸ hm2139)
  have hm2214 := hs2197 _ hm2139
  refine lv_dup hx hb dX0_init_29 rfl ?_
  refine call_v (run_IN (rm := { frames := 1, cells := 9, slots := 258, locals := 12 }) hx hb hml hown hts (k_X3_init l g _ _ _ q2193 hm2198 hf2199) cI_X3_init wn_412 ⟨Nat.le_of_ble_eq_true rfl, Nat.le_of_ble_eq_true rfl⟩ hG hE hA hP hD hS rfl hl.1 (As := []) (rest := [.ref q2193, .int 14, .ref q1]) rfl (Nat.le_of_ble_eq_true rfl) dX0_init_30 ⟨Nat.le_of_ble_eq_true rfl, Nat.le_of_ble_eq_true rfl⟩) hA hD hS (fun L2217 f2218 H locs hp2219 hP hD hS => ?_)
  obtain ⟨q2220, q2221, q2222, q2223, q2224, q2225, q2226, q2227, q2228, hn2229, hm2230, hf2231, hn2232, hm2233, hf2234, hn2235, hm2236, hf2237, hn2238, hm2239, hf2240, hn2241, hm2242, hf2243, hn2244, hm2245, hf2246, hn2247, hm2248, hf2249, hn2250, hm2251, hf2252, hn2253, hm2254, hf2255, hf2256, er2257, fr2258, sb2259⟩ := hp2219
  have hN2260 : [q2220, q2221, q2222, q2223, q2224, q2225, q2226, q2227, q2228, q2193].Nodup := nd_app (l := [q2220, q2221, q2222, q2223, q2224, q2225, q2226, q2227, q2228]) (k := [q2193]) er2257 (List.forall_mem_cons.mpr ⟨hn2229, (List.forall_mem_cons.mpr ⟨hn2232, (List.forall_mem_cons.mpr ⟨hn2235, (List.forall_mem_cons.mpr ⟨hn2238, (List.forall_mem_cons.mpr ⟨hn2241, (List.forall_mem_cons.mpr ⟨hn2244, (List.forall_mem_cons.mpr ⟨hn2247, (List.forall_mem_cons.mpr ⟨hn2250, (List.forall_mem_cons.mpr ⟨hn2253, (fun _ h => absurd h List.not_mem_nil)⟩)⟩)⟩)⟩)⟩)⟩)⟩)⟩)⟩) hN2203 hNs2204
  have hNs2261 : ∀ b, b ∈ [q2220, q2221, q2222, q2223, q2224, q2225, q2226, q2227, q2228, q2193] → b ∈ L2217 := fm_app (l := [q2220, q2221, q2222, q2223, q2224, q2225, q2226, q2227, q2228]) (k := [q2193]) (List.forall_mem_cons.mpr ⟨hm2230, (List.forall_mem_cons.mpr ⟨hm2233, (List.forall_mem_cons.mpr ⟨hm2236, (List.forall_mem_cons.mpr ⟨hm2239, (List.forall_mem_cons.mpr ⟨hm2242, (List.forall_mem_cons.mpr ⟨hm2245, (List.forall_mem_cons.mpr ⟨hm2248, (List.forall_mem_cons.mpr ⟨hm2251, (List.forall_mem_cons.mpr ⟨hm2254, (fun _ h => absurd h List.not_mem_nil)⟩)⟩)⟩)⟩)⟩)⟩)⟩)⟩)⟩) (fun b hb => sb2259 b (hNs2204 b hb))
  have hRq2262 : ∀ j, j < 14 → ∀ k, k < 10 → aa2187 j k ≠ q2220 := fun j hj k hk e => hn2229 (e ▸ (hR2206.1 j hj k hk).1)
  have hRq2263 : ∀ j, j < 14 → ∀ k, k < 10 → aa2187 j k ≠ q2221 := fun j hj k hk e => hn2232 (e ▸ (hR2206.1 j hj k hk).1)
  have hRq2264 : ∀ j, j < 14 → ∀ k, k < 10 → aa2187 j k ≠ q2222 := fun j hj k hk e => hn2235 (e ▸ (hR2206.1 j hj k hk).1)
  have hRq2265 : ∀ j, j < 14 → ∀ k, k < 10 → aa2187 j k ≠ q2223 := fun j hj k hk e => hn2238 (e ▸ (hR2206.1 j hj k hk).1)
  have hRq2266 : ∀ j, j < 14 → ∀ k, k < 10 → aa2187 j k ≠ q2224 := fun j hj k hk e => hn2241 (e ▸ (hR2206.1 j hj k hk).1)
  have hRq2267 : ∀ j, j < 14 → ∀ k, k < 10 → aa2187 j k ≠ q2225 := fun j hj k hk e => hn2244 (e ▸ (hR2206.1 j hj k hk).1)
  have hRq2268 : ∀ j, j < 14 → ∀ k, k < 10 → aa2187 j k ≠ q2226 := fun j hj k hk e => hn2247 (e ▸ (hR2206.1 j hj k hk).1)
  have hRq2269 : ∀ j, j < 14 → ∀ k, k < 10 → aa2187 j k ≠ q2227 := fun j hj k hk e => hn2250 (e ▸ (hR2206.1 j hj k hk).1)
  have hRq2270 : ∀ j, j < 14 → ∀ k, k < 10 → aa2187 j k ≠ q2228 := fun j hj k hk e => hn2253 (e ▸ (hR2206.1 j hj k hk).1)
  have hR2271 : RINGP g L2 L2217 f2218 14 aa2187 := RINGP.tr hR2206 hRq2205 sb2259 (fun b hb hn => fr2258 b hb hn)
  have hfr2272 : ∀ b, b ∈ L → b ≠ ac → f2218 b = f b := fun b hb z0 => (fr2258 b (hsb2208 b hb) (fun e => hnq2209 (e ▸ hb))).trans (hfr2207 b hb z0)
  have hnq2274 : q2220 ∉ L := fun h => hn2229 (hsb2208 _ h)
  have hnq2275 : q2221 ∉ L := fun h => hn2232 (hsb2208 _ h)
  have hnq2276 : q2222 ∉ L := fun h => hn2235 (hsb2208 _ h)
  have hnq2277 : q2223 ∉ L := fun h => hn2238 (hsb2208 _ h)
  have hnq2278 : q2224 ∉ L := fun h => hn2241 (hsb2208 _ h)
  have hnq2279 : q2225 ∉ L := fun h => hn2244 (hsb2208 _ h)
  have hnq2280 : q2226 ∉ L := fun h => hn2247 (hsb2208 _ h)
  have hnq2281 : q2227 ∉ L := fun h => hn2250 (hsb2208 _ h)
  have hnq2282 : q2228 ∉ L := fun h => hn2253 (hsb2208 _ h)
  have hsb2273 : ∀ b, b ∈ L → b ∈ L2217 := fun b hb => sb2259 b (hsb2208 b hb)
  have hn2284 : ac ≠ q2220 := fun e => hn2229 (e ▸ hm2211)
  have hn2285 : ac ≠ q2221 := fun e => hn2232 (e ▸ hm2211)
  have hn2286 : ac ≠ q2222 := fun e => hn2235 (e ▸ hm2211)
  have hn2287 : ac ≠ q2223 := fun e => hn2238 (e ▸ hm2211)
  have hn2288 : ac ≠ q2224 := fun e => hn2241 (e ▸ hm2211)
  have hn2289 : ac ≠ q2225 := fun e => hn2244 (e ▸ hm2211)
  have hn2290 : ac ≠ q2226 := fun e => hn2247 (e ▸ hm2211)
  have hn2291 : ac ≠ q2227 := fun e => hn2250 (e ▸ hm2211)
  have hn2292 : ac ≠ q2228 := fun e => hn2253 (e ▸ hm2211)
  have hf2293 := (fr2258 ac hm2211 hn2212).trans hf2210
  have hm2283 := sb2259 _ hm2211
  have hn2295 : q1 ≠ q2220 := fun e => hn2229 (e ▸ hm2214)
  have hn2296 : q1 ≠ q2221 := fun e => hn2232 (e ▸ hm2214)
  have hn2297 : q1 ≠ q2222 := fun e => hn2235 (e ▸ hm2214)
  have hn2298 : q1 ≠ q2223 := fun e => hn2238 (e ▸ hm2214)
  have hn2299 : q1 ≠ q2224 := fun e => hn2241 (e ▸ hm2214)
  have hn2300 : q1 ≠ q2225 := fun e => hn2244 (e ▸ hm2214)
  have hn2301 : q1 ≠ q2226 := fun e => hn2247 (e ▸ hm2214)
  have hn2302 : q1 ≠ q2227 := fun e => hn2250 (e ▸ hm2214)
  have hn2303 : q1 ≠ q2228 := fun e => hn2253 (e ▸ hm2214)
  have hf2304 := (fr2258 q1 hm2214 hn2215).trans hf2213
  have hm2294 := sb2259 _ hm2214
  have hn2306 : q2193 ≠ q2220 := fun e => hn2229 (e ▸ hm2198)
  have hn2307 : q2193 ≠ q2221 := fun e => hn2232 (e ▸ hm2198)
  have hn2308 : q2193 ≠ q2222 := fun e => hn2235 (e ▸ hm2198)
  have hn2309 : q2193 ≠ q2223 := fun e => hn2238 (e ▸ hm2198)
  have hn2310 : q2193 ≠ q2224 := fun e => hn2241 (e ▸ hm2198)
  have hn2311 : q2193 ≠ q2225 := fun e => hn2244 (e ▸ hm2198)
  have hn2312 : q2193 ≠ q2226 := fun e => hn2247 (e ▸ hm2198)
  have hn2313 : q2193 ≠ q2227 := fun e => hn2250 (e ▸ hm2198)
  have hn2314 : q2193 ≠ q2228 := fun e => hn2253 (e ▸ hm2198)
  have hm2305 := sb2259 _ hm2198
  have hni2315 : q2220 ∉ L2 := fun h => hn2229 (hs02202 _ h)
  have hni2316 : q2221 ∉ L2 := fun h => hn2232 (hs02202 _ h)
  have hni2317 : q2222 ∉ L2 := fun h => hn2235 (hs02202 _ h)
  have hni2318 : q2223 ∉ L2 := fun h => hn2238 (hs02202 _ h)
  have hni2319 : q2224 ∉ L2 := fun h => hn2241 (hs02202 _ h)
  have hni2320 : q2225 ∉ L2 := fun h => hn2244 (hs02202 _ h)
  have hni2321 : q2226 ∉ L2 := fun h => hn2247 (hs02202 _ h)
  have hni2322 : q2227 ∉ L2 := fun h => hn2250 (hs02202 _ h)
  have hni2323 : q2228 ∉ L2 := fun h => hn2253 (hs02202 _ h)
  have hs02324 : ∀ b, b ∈ L2 → b ∈ L2217 := fun b hb => sb2259 b (hs02202 b hb)
  refine pl_astq hx hb hG.1 hP hD hS hm2294 4 3 hf2304 rfl hm2305 hf2256 rfl (by unfold vp_in; decide) dX0_init_33 (fun H locs f2325 r2328 er2328 hf2327 ho2326 hP hD hS => ?_)
  have hR2329 : RINGP g L2 L2217 f2325 14 aa2187 := RINGP.tr hR2271 (fun j hj k hk e => (hR2271.1 j hj k hk).2 (e ▸ hm6)) (fun b hb => hb) (fun b _ hb => ho2326 b hb)
  have hfr2330 : ∀ b, b ∈ L → b ≠ ac → f2325 b = f b := fun b hb z0 => (ho2326 b (fun e => hnq13 (e ▸ hb))).trans (hfr2272 b hb z0)
  have hf2331 := (ho2326 ac hn16).trans hf2293
  have hf2332 := (ho2326 q2193 hn2215.symm).trans hf2256
  have hf2333 := (ho2326 q2220 hn2295.symm).trans hf2231
  have hf2334 := (ho2326 q2221 hn2296.symm).trans hf2234
  have hf2335 := (ho2326 q2222 hn2297.symm).trans hf2237
  have hf2336 := (ho2326 q2223 hn2298.symm).trans hf2240
  have hf2337 := (ho2326 q2224 hn2299.symm).trans hf2243
  have hf2338 := (ho2326 q2225 hn2300.symm).trans hf2246
  have hf2339 := (ho2326 q2226 hn2301.symm).trans hf2249
  have hf2340 := (ho2326 q2227 hn2302.symm).trans hf2252
  have hf2341 := (ho2326 q2228 hn2303.symm).trans hf2255
  obtain ⟨aa2342, ea2343, eb2344, hR2345⟩ := RINGP.add (l := [q2220, q2221, q2222, q2223, q2224, q2225, q2226, q2227, q2228, q2193]) hR2329 rfl hN2260 (List.forall_mem_cons.mpr ⟨⟨hm2230, hni2315⟩, (List.forall_mem_cons.mpr ⟨⟨hm2233, hni2316⟩, (List.forall_mem_cons.mpr ⟨⟨hm2236, hni2317⟩, (List.forall_mem_cons.mpr ⟨⟨hm2239, hni2318⟩, (List.forall_mem_cons.mpr ⟨⟨hm2242, hni2319⟩, (List.forall_mem_cons.mpr ⟨⟨hm2245, hni2320⟩, (List.forall_mem_cons.mpr ⟨⟨hm2248, hni2321⟩, (List.forall_mem_cons.mpr ⟨⟨hm2251, hni2322⟩, (List.forall_mem_cons.mpr ⟨⟨hm2254, hni2323⟩, (List.forall_mem_cons.mpr ⟨⟨hm2305, hni2201⟩, (fun _ h => absurd h List.not_mem_nil)⟩)⟩)⟩)⟩)⟩)⟩)⟩)⟩)⟩)⟩) (List.forall_mem_cons.mpr ⟨hRq2262, (List.forall_mem_cons.mpr ⟨hRq2263, (List.forall_mem_cons.mpr ⟨hRq2264, (List.forall_mem_cons.mpr ⟨hRq2265, (List.forall_mem_cons.mpr ⟨hRq2266, (List.forall_mem_cons.mpr ⟨hRq2267, (List.forall_mem_cons.mpr ⟨hRq2268, (List.forall_mem_cons.mpr ⟨hRq2269, (List.forall_mem_cons.mpr ⟨hRq2270, (List.forall_mem_cons.mpr ⟨hRq2205, (fun _ h => absurd h List.not_mem_nil)⟩)⟩)⟩)⟩)⟩)⟩)⟩)⟩)⟩)⟩) (fun k hk => match k, hk with | 0, _ => hf2332 | 1, _ => hf2341 | 2, _ => hf2340 | 3, _ => hf2339 | 4, _ => hf2338 | 5, _ => hf2337 | 6, _ => hf2336 | 7, _ => hf2335 | 8, _ => hf2334 | 9, _ => hf2333 | k + 10, h => absurd h (by omega))
  have hrr2346 : ∀ j, j < 15 → r2328 j = some (aa2342 j 0) := rr_step hrr2191 er2328 (by decide) ea2343 (eb2344.symm ▸ rfl)
  refine lv_iinc (v := 15) (lv' := [(1, .int 15), (0, .ref ac)]) hx hb dX0_init_34 hl (k := 0) rfl (by decide) (by decide) rfl (fun ls hl => ?_)
  refine lv_goto (tgt := 15) hx hb dX0_init_37 (by decide) ?_
  refine lv_iload_n hx hb dX0_init_15 rfl (lv_at hl 0 rfl) ?_
  refine lv_bipush (v := 20) hx hb dX0_init_16 (by decide) ?_
  refine lv_icmp_ge (tgt := 40) hx hb dX0_init_18 (by decide) (fun c2347 => absurd c2347 (by decide)) (fun c2347 => ?_)
  refine lv_aload_n hx hb dX0_init_21 rfl (lv_at hl 1 rfl) ?_
  refine pl_get (v := .ref q1) hx hb hts (fun w h => mT (inX0 w h)) hown hG.1 hP hm2283 hf2331 rfl 0 (by decide) (hts _ (mT wg_413)) (fun _ h => h) rfl dX0_init_22 ?_
  refine lv_iload_n hx hb dX0_init_25 rfl (lv_at hl 0 rfl) ?_
  refine pl_new (ci := 3) (fs := [.int 0, .int 0, .int 0, .int 0, .int 0, .int 0, .int 0, .long 0, .long 0, .null, .null, .null, .null, .null, .null, .null, .null, .null]) (C := RX3) (T := TX3) (N := 18) hx hb hts (fun w h => mT (inX3 w h)) tyX3 tyX3_ok hown (hts _ (mT wg_410)) (hts _ (mT wg_330)) (hts _ (mT wg_165)) hG.1 hP hD hS hA rfl dvX3 (Nat.le_of_ble_eq_true rfl) (Nat.le_of_ble_eq_true rfl) dX0_init_26 (fun q2348 H L2349 f2350 hq2351 hs2352 hm2353 hf2354 ho2355 hP hD hS => ?_)
  have hni2356 : q2348 ∉ L2 := fun h => hq2351 (hs02324 _ h)
  have hs02357 : ∀ b, b ∈ L2 → b ∈ L2349 := fun b hb => hs2352 b (hs02324 b hb)
  have hN2358 : [q2348].Nodup := List.nodup_cons.mpr ⟨fun h => hq2351 (nil_in _ h), List.nodup_nil⟩
  have hNs2359 : ∀ b, b ∈ [q2348] → b ∈ L2349 := List.forall_mem_cons.mpr ⟨hm2353, fun b hb => hs2352 b (nil_in b hb)⟩
  have hRq2360 : ∀ j, j < 15 → ∀ k, k < 10 → aa2342 j k ≠ q2348 := fun j hj k hk e => hq2351 (e ▸ (hR2345.1 j hj k hk).1)
  have hR2361 : RINGP g L2 L2349 f2350 15 aa2342 := RINGP.tr hR2345 hRq2360 hs2352 (fun b hb _ => ho2355 b hb)
  have hfr2362 : ∀ b, b ∈ L → b ≠ ac → f2350 b = f b := fun b hb z0 => (ho2355 b (hsb2273 b hb)).trans (hfr2330 b hb z0)
  have hnq2364 : q2348 ∉ L := fun h => hq2351 (hsb2273 _ h)
  have hsb2363 : ∀ b, b ∈ L → b ∈ _ := fun b hb => hs2352 b (hsb2273 b hb)
  have hf2365 := (ho2355 ac hm2283).trans hf2331
  have hn2367 : ac ≠ q2348 := fun e => hq2351 (e ▸ hm2283)
  have hm2366 := hs2352 _ hm2283
  have hf2368 := (ho2355 q1 hm2294).trans hf2327
  have hn2370 : q1 ≠ q2348 := fun e => hq2351 (e ▸ hm2294)
  have hm2369 := hs2352 _ hm2294
  refine lv_dup hx hb dX0_init_29 rfl ?_
  refine call_v (run_IN (rm := { frames := 1, cells := 9, slots := 258, locals := 12 }) hx hb hml hown hts (k_X3_init l g _ _ _ q2348 hm2353 hf2354) cI_X3_init wn_412 ⟨Nat.le_of_ble_eq_true rfl, Nat.le_of_ble_eq_true rfl⟩ hG hE hA hP hD hS rfl hl.1 (As := []) (rest := [.ref q2348, .int 15, .ref q1]) rfl (Nat.le_of_ble_eq_true rfl) dX0_init_30 ⟨Nat.le_of_ble_eq_true rfl, Nat.le_of_ble_eq_true rfl⟩) hA hD hS (fun L2372 f2373 H locs hp2374 hP hD hS => ?_)
  obtain ⟨q2375, q2376, q2377, q2378, q2379, q2380, q2381, q2382, q2383, hn2384, hm2385, hf2386, hn2387, hm2388, hf2389, hn2390, hm2391, hf2392, hn2393, hm2394, hf2395, hn2396, hm2397, hf2398, hn2399, hm2400, hf2401, hn2402, hm2403, hf2404, hn2405, hm2406, hf2407, hn2408, hm2409, hf2410, hf2411, er2412, fr2413, sb2414⟩ := hp2374
  have hN2415 : [q2375, q2376, q2377, q2378, q2379, q2380, q2381, q2382, q2383, q2348].Nodup := nd_app (l := [q2375, q2376, q2377, q2378, q2379, q2380, q2381, q2382, q2383]) (k := [q2348]) er2412 (List.forall_mem_cons.mpr ⟨hn2384, (List.forall_mem_cons.mpr ⟨hn2387, (List.forall_mem_cons.mpr ⟨hn2390, (List.forall_mem_cons.mpr ⟨hn2393, (List.forall_mem_cons.mpr ⟨hn2396, (List.forall_mem_cons.mpr ⟨hn2399, (List.forall_mem_cons.mpr ⟨hn2402, (List.forall_mem_cons.mpr ⟨hn2405, (List.forall_mem_cons.mpr ⟨hn2408, (fun _ h => absurd h List.not_mem_nil)⟩)⟩)⟩)⟩)⟩)⟩)⟩)⟩)⟩) hN2358 hNs2359
  have hNs2416 : ∀ b, b ∈ [q2375, q2376, q2377, q2378, q2379, q2380, q2381, q2382, q2383, q2348] → b ∈ L2372 := fm_app (l := [q2375, q2376, q2377, q2378, q2379, q2380, q2381, q2382, q2383]) (k := [q2348]) (List.forall_mem_cons.mpr ⟨hm2385, (List.forall_mem_cons.mpr ⟨hm2388, (List.forall_mem_cons.mpr ⟨hm2391, (List.forall_mem_cons.mpr ⟨hm2394, (List.forall_mem_cons.mpr ⟨hm2397, (List.forall_mem_cons.mpr ⟨hm2400, (List.forall_mem_cons.mpr ⟨hm2403, (List.forall_mem_cons.mpr ⟨hm2406, (List.forall_mem_cons.mpr ⟨hm2409, (fun _ h => absurd h List.not_mem_nil)⟩)⟩)⟩)⟩)⟩)⟩)⟩)⟩)⟩) (fun b hb => sb2414 b (hNs2359 b hb))
  have hRq2417 : ∀ j, j < 15 → ∀ k, k < 10 → aa2342 j k ≠ q2375 := fun j hj k hk e => hn2384 (e ▸ (hR2361.1 j hj k hk).1)
  have hRq2418 : ∀ j, j < 15 → ∀ k, k < 10 → aa2342 j k ≠ q2376 := fun j hj k hk e => hn2387 (e ▸ (hR2361.1 j hj k hk).1)
  have hRq2419 : ∀ j, j < 15 → ∀ k, k < 10 → aa2342 j k ≠ q2377 := fun j hj k hk e => hn2390 (e ▸ (hR2361.1 j hj k hk).1)
  have hRq2420 : ∀ j, j < 15 → ∀ k, k < 10 → aa2342 j k ≠ q2378 := fun j hj k hk e => hn2393 (e ▸ (hR2361.1 j hj k hk).1)
  have hRq2421 : ∀ j, j < 15 → ∀ k, k < 10 → aa2342 j k ≠ q2379 := fun j hj k hk e => hn2396 (e ▸ (hR2361.1 j hj k hk).1)
  have hRq2422 : ∀ j, j < 15 → ∀ k, k < 10 → aa2342 j k ≠ q2380 := fun j hj k hk e => hn2399 (e ▸ (hR2361.1 j hj k hk).1)
  have hRq2423 : ∀ j, j < 15 → ∀ k, k < 10 → aa2342 j k ≠ q2381 := fun j hj k hk e => hn2402 (e ▸ (hR2361.1 j hj k hk).1)
  have hRq2424 : ∀ j, j < 15 → ∀ k, k < 10 → aa2342 j k ≠ q2382 := fun j hj k hk e => hn2405 (e ▸ (hR2361.1 j hj k hk).1)
  have hRq2425 : ∀ j, j < 15 → ∀ k, k < 10 → aa2342 j k ≠ q2383 := fun j hj k hk e => hn2408 (e ▸ (hR2361.1 j hj k hk).1)
  have hR2426 : RINGP g L2 L2372 f2373 15 aa2342 := RINGP.tr hR2361 hRq2360 sb2414 (fun b hb hn => fr2413 b hb hn)
  have hfr2427 : ∀ b, b ∈ L → b ≠ ac → f2373 b = f b := fun b hb z0 => (fr2413 b (hsb2363 b hb) (fun e => hnq2364 (e ▸ hb))).trans (hfr2362 b hb z0)
  have hnq2429 : q2375 ∉ L := fun h => hn2384 (hsb2363 _ h)
  have hnq2430 : q2376 ∉ L := fun h => hn2387 (hsb2363 _ h)
  have hnq2431 : q2377 ∉ L := fun h => hn2390 (hsb2363 _ h)
  have hnq2432 : q2378 ∉ L := fun h => hn2393 (hsb2363 _ h)
  have hnq2433 : q2379 ∉ L := fun h => hn2396 (hsb2363 _ h)
  have hnq2434 : q2380 ∉ L := fun h => hn2399 (hsb2363 _ h)
  have hnq2435 : q2381 ∉ L := fun h => hn2402 (hsb2363 _ h)
  have hnq2436 : q2382 ∉ L := fun h => hn2405 (hsb2363 _ h)
  have hnq2437 : q2383 ∉ L := fun h => hn2408 (hsb2363 _ h)
  have hsb2428 : ∀ b, b ∈ L → b ∈ L2372 := fun b hb => sb2414 b (hsb2363 b hb)
  have hn2439 : ac ≠ q2375 := fun e => hn2384 (e ▸ hm2366)
  have hn2440 : ac ≠ q2376 := fun e => hn2387 (e ▸ hm2366)
  have hn2441 : ac ≠ q2377 := fun e => hn2390 (e ▸ hm2366)
  have hn2442 : ac ≠ q2378 := fun e => hn2393 (e ▸ hm2366)
  have hn2443 : ac ≠ q2379 := fun e => hn2396 (e ▸ hm2366)
  have hn2444 : ac ≠ q2380 := fun e => hn2399 (e ▸ hm2366)
  have hn2445 : ac ≠ q2381 := fun e => hn2402 (e ▸ hm2366)
  have hn2446 : ac ≠ q2382 := fun e => hn2405 (e ▸ hm2366)
  have hn2447 : ac ≠ q2383 := fun e => hn2408 (e ▸ hm2366)
  have hf2448 := (fr2413 ac hm2366 hn2367).trans hf2365
  have hm2438 := sb2414 _ hm2366
  have hn2450 : q1 ≠ q2375 := fun e => hn2384 (e ▸ hm2369)
  have hn2451 : q1 ≠ q2376 := fun e => hn2387 (e ▸ hm2369)
  have hn2452 : q1 ≠ q2377 := fun e => hn2390 (e ▸ hm2369)
  have hn2453 : q1 ≠ q2378 := fun e => hn2393 (e ▸ hm2369)
  have hn2454 : q1 ≠ q2379 := fun e => hn2396 (e ▸ hm2369)
  have hn2455 : q1 ≠ q2380 := fun e => hn2399 (e ▸ hm2369)
  have hn2456 : q1 ≠ q2381 := fun e => hn2402 (e ▸ hm2369)
  have hn2457 : q1 ≠ q2382 := fun e => hn2405 (e ▸ hm2369)
  have hn2458 : q1 ≠ q2383 := fun e => hn2408 (e ▸ hm2369)
  have hf2459 := (fr2413 q1 hm2369 hn2370).trans hf2368
  have hm2449 := sb2414 _ hm2369
  have hn2461 : q2348 ≠ q2375 := fun e => hn2384 (e ▸ hm2353)
  have hn2462 : q2348 ≠ q2376 := fun e => hn2387 (e ▸ hm2353)
  have hn2463 : q2348 ≠ q2377 := fun e => hn2390 (e ▸ hm2353)
  have hn2464 : q2348 ≠ q2378 := fun e => hn2393 (e ▸ hm2353)
  have hn2465 : q2348 ≠ q2379 := fun e => hn2396 (e ▸ hm2353)
  have hn2466 : q2348 ≠ q2380 := fun e => hn2399 (e ▸ hm2353)
  have hn2467 : q2348 ≠ q2381 := fun e => hn2402 (e ▸ hm2353)
  have hn2468 : q2348 ≠ q2382 := fun e => hn2405 (e ▸ hm2353)
  have hn2469 : q2348 ≠ q2383 := fun e => hn2408 (e ▸ hm2353)
  have hm2460 := sb2414 _ hm2353
  have hni2470 : q2375 ∉ L2 := fun h => hn2384 (hs02357 _ h)
  have hni2471 : q2376 ∉ L2 := fun h => hn2387 (hs02357 _ h)
  have hni2472 : q2377 ∉ L2 := fun h => hn2390 (hs02357 _ h)
  have hni2473 : q2378 ∉ L2 := fun h => hn2393 (hs02357 _ h)
  have hni2474 : q2379 ∉ L2 := fun h => hn2396 (hs02357 _ h)
  have hni2475 : q2380 ∉ L2 := fun h => hn2399 (hs02357 _ h)
  have hni2476 : q2381 ∉ L2 := fun h => hn2402 (hs02357 _ h)
  have hni2477 : q2382 ∉ L2 := fun h => hn2405 (hs02357 _ h)
  have hni2478 : q2383 ∉ L2 := fun h => hn2408 (hs02357 _ h)
  have hs02479 : ∀ b, b ∈ L2 → b ∈ L2372 := fun b hb => sb2414 b (hs02357 b hb)
  refine pl_astq hx hb hG.1 hP hD hS hm2449 4 3 hf2459 rfl hm2460 hf2411 rfl (by unfold vp_in; decide) dX0_init_33 (fun H locs f2480 r2483 er2483 hf2482 ho2481 hP hD hS => ?_)
  have hR2484 : RINGP g L2 L2372 f2480 15 aa2342 := RINGP.tr hR2426 (fun j hj k hk e => (hR2426.1 j hj k hk).2 (e ▸ hm6)) (fun b hb => hb) (fun b _ hb => ho2481 b hb)
  have hfr2485 : ∀ b, b ∈ L → b ≠ ac → f2480 b = f b := fun b hb z0 => (ho2481 b (fun e => hnq13 (e ▸ hb))).trans (hfr2427 b hb z0)
  have hf2486 := (ho2481 ac hn16).trans hf2448
  have hf2487 := (ho2481 q2348 hn2370.symm).trans hf2411
  have hf2488 := (ho2481 q2375 hn2450.symm).trans hf2386
  have hf2489 := (ho2481 q2376 hn2451.symm).trans hf2389
  have hf2490 := (ho2481 q2377 hn2452.symm).trans hf2392
  have hf2491 := (ho2481 q2378 hn2453.symm).trans hf2395
  have hf2492 := (ho2481 q2379 hn2454.symm).trans hf2398
  have hf2493 := (ho2481 q2380 hn2455.symm).trans hf2401
  have hf2494 := (ho2481 q2381 hn2456.symm).trans hf2404
  have hf2495 := (ho2481 q2382 hn2457.symm).trans hf2407
  have hf2496 := (ho2481 q2383 hn2458.symm).trans hf2410
  obtain ⟨aa2497, ea2498, eb2499, hR2500⟩ := RINGP.add (l := [q2375, q2376, q2377, q2378, q2379, q2380, q2381, q2382, q2383, q2348]) hR2484 rfl hN2415 (List.forall_mem_cons.mpr ⟨⟨hm2385, hni2470⟩, (List.forall_mem_cons.mpr ⟨⟨hm2388, hni2471⟩, (List.forall_mem_cons.mpr ⟨⟨hm2391, hni2472⟩, (List.forall_mem_cons.mpr ⟨⟨hm2394, hni2473⟩, (List.forall_mem_cons.mpr ⟨⟨hm2397, hni2474⟩, (List.forall_mem_cons.mpr ⟨⟨hm2400, hni2475⟩, (List.forall_mem_cons.mpr ⟨⟨hm2403, hni2476⟩, (List.forall_mem_cons.mpr ⟨⟨hm2406, hni2477⟩, (List.forall_mem_cons.mpr ⟨⟨hm2409, hni2478⟩, (List.forall_mem_cons.mpr ⟨⟨hm2460, hni2356⟩, (fun _ h => absurd h List.not_mem_nil)⟩)⟩)⟩)⟩)⟩)⟩)⟩)⟩)⟩)⟩) (List.forall_mem_cons.mpr ⟨hRq2417, (List.forall_mem_cons.mpr ⟨hRq2418, (List.forall_mem_cons.mpr ⟨hRq2419, (List.forall_mem_cons.mpr ⟨hRq2420, (List.forall_mem_cons.mpr ⟨hRq2421, (List.forall_mem_cons.mpr ⟨hRq2422, (List.forall_mem_cons.mpr ⟨hRq2423, (List.forall_mem_cons.mpr ⟨hRq2424, (List.forall_mem_cons.mpr ⟨hRq2425, (List.forall_mem_cons.mpr ⟨hRq2360, (fun _ h => absurd h List.not_mem_nil)⟩)⟩)⟩)⟩)⟩)⟩)⟩)⟩)⟩)⟩) (fun k hk => match k, hk with | 0, _ => hf2487 | 1, _ => hf2496 | 2, _ => hf2495 | 3, _ => hf2494 | 4, _ => hf2493 | 5, _ => hf2492 | 6, _ => hf2491 | 7, _ => hf2490 | 8, _ => hf2489 | 9, _ => hf2488 | k + 10, h => absurd h (by omega))
  have hrr2501 : ∀ j, j < 16 → r2483 j = some (aa2497 j 0) := rr_step hrr2346 er2483 (by decide) ea2498 (eb2499.symm ▸ rfl)
  refine lv_iinc (v := 16) (lv' := [(1, .int 16), (0, .ref ac)]) hx hb dX0_init_34 hl (k := 0) rfl (by decide) (by decide) rfl (fun ls hl => ?_)
  refine lv_goto (tgt := 15) hx hb dX0_init_37 (by decide) ?_
  refine lv_iload_n hx hb dX0_init_15 rfl (lv_at hl 0 rfl) ?_
  refine lv_bipush (v := 20) hx hb dX0_init_16 (by decide) ?_
  refine lv_icmp_ge (tgt := 40) hx hb dX0_init_18 (by decide) (fun c2502 => absurd c2502 (by decide)) (fun c2502 => ?_)
  refine lv_aload_n hx hb dX0_init_21 rfl (lv_at hl 1 rfl) ?_
  refine pl_get (v := .ref q1) hx hb hts (fun w h => mT (inX0 w h)) hown hG.1 hP hm2438 hf2486 rfl 0 (by decide) (hts _ (mT wg_413)) (fun _ h => h) rfl dX0_init_22 ?_
  refine lv_iload_n hx hb dX0_init_25 rfl (lv_at hl 0 rfl) ?_
  refine pl_new (ci := 3) (fs := [.int 0, .int 0, .int 0, .int 0, .int 0, .int 0, .int 0, .long 0, .long 0, .null, .null, .null, .null, .null, .null, .null, .null, .null]) (C := RX3) (T := TX3) (N := 18) hx hb hts (fun w h => mT (inX3 w h)) tyX3 tyX3_ok hown (hts _ (mT wg_410)) (hts _ (mT wg_330)) (hts _ (mT wg_165)) hG.1 hP hD hS hA rfl dvX3 (Nat.le_of_ble_eq_true rfl) (Nat.le_of_ble_eq_true rfl) dX0_init_26 (fun q2503 H L2504 f2505 hq2506 hs2507 hm2508 hf2509 ho2510 hP hD hS => ?_)
  have hni2511 : q2503 ∉ L2 := fun h => hq2506 (hs02479 _ h)
  have hs02512 : ∀ b, b ∈ L2 → b ∈ L2504 := fun b hb => hs2507 b (hs02479 b hb)
  have hN2513 : [q2503].Nodup := List.nodup_cons.mpr ⟨fun h => hq2506 (nil_in _ h), List.nodup_nil⟩
  have hNs2514 : ∀ b, b ∈ [q2503] → b ∈ L2504 := List.forall_mem_cons.mpr ⟨hm2508, fun b hb => hs2507 b (nil_in b hb)⟩
  have hRq2515 : ∀ j, j < 16 → ∀ k, k < 10 → aa2497 j k ≠ q2503 := fun j hj k hk e => hq2506 (e ▸ (hR2500.1 j hj k hk).1)
  have hR2516 : RINGP g L2 L2504 f2505 16 aa2497 := RINGP.tr hR2500 hRq2515 hs2507 (fun b hb _ => ho2510 b hb)
  have hfr2517 : ∀ b, b ∈ L → b ≠ ac → f2505 b = f b := fun b hb z0 => (ho2510 b (hsb2428 b hb)).trans (hfr2485 b hb z0)
  have hnq2519 : q2503 ∉ L := fun h => hq2506 (hsb2428 _ h)
  have hsb2518 : ∀ b, b ∈ L → b ∈ _ := fun b hb => hs2507 b (hsb2428 b hb)
  have hf2520 := (ho2510 ac hm2438).trans hf2486
  have hn2522 : ac ≠ q2503 := fun e => hq2506 (e ▸ hm2438)
  have hm2521 := hs2507 _ hm2438
  have hf2523 := (ho2510 q1 hm2449).trans hf2482
  have hn2525 : q1 ≠ q2503 := fun e => hq2506 (e ▸ hm2449)
  have hm2524 := hs2507 _ hm2449
  refine lv_dup hx hb dX0_init_29 rfl ?_
  refine call_v (run_IN (rm := { frames := 1, cells := 9, slots := 258, locals := 12 }) hx hb hml hown hts (k_X3_init l g _ _ _ q2503 hm2508 hf2509) cI_X3_init wn_412 ⟨Nat.le_of_ble_eq_true rfl, Nat.le_of_ble_eq_true rfl⟩ hG hE hA hP hD hS rfl hl.1 (As := []) (rest := [.ref q2503, .int 16, .ref q1]) rfl (Nat.le_of_ble_eq_true rfl) dX0_init_30 ⟨Nat.le_of_ble_eq_true rfl, Nat.le_of_ble_eq_true rfl⟩) hA hD hS (fun L2527 f2528 H locs hp2529 hP hD hS => ?_)
  obtain ⟨q2530, q2531, q2532, q2533, q2534, q2535, q2536, q2537, q2538, hn2539, hm2540, hf2541, hn2542, hm2543, hf2544, hn2545, hm2546, hf2547, hn2548, hm2549, hf2550, hn2551, hm2552, hf2553, hn2554, hm2555, hf2556, hn2557, hm2558, hf2559, hn2560, hm2561, hf2562, hn2563, hm2564, hf2565, hf2566, er2567, fr2568, sb2569⟩ := hp2529
  have hN2570 : [q2530, q2531, q2532, q2533, q2534, q2535, q2536, q2537, q2538, q2503].Nodup := nd_app (l := [q2530, q2531, q2532, q2533, q2534, q2535, q2536, q2537, q2538]) (k := [q2503]) er2567 (List.forall_mem_cons.mpr ⟨hn2539, (List.forall_mem_cons.mpr ⟨hn2542, (List.forall_mem_cons.mpr ⟨hn2545, (List.forall_mem_cons.mpr ⟨hn2548, (List.forall_mem_cons.mpr ⟨hn2551, (List.forall_mem_cons.mpr ⟨hn2554, (List.forall_mem_cons.mpr ⟨hn2557, (List.forall_mem_cons.mpr ⟨hn2560, (List.forall_mem_cons.mpr ⟨hn2563, (fun _ h => absurd h List.not_mem_nil)⟩)⟩)⟩)⟩)⟩)⟩)⟩)⟩)⟩) hN2513 hNs2514
  have hNs2571 : ∀ b, b ∈ [q2530, q2531, q2532, q2533, q2534, q2535, q2536, q2537, q2538, q2503] → b ∈ L2527 := fm_app (l := [q2530, q2531, q2532, q2533, q2534, q2535, q2536, q2537, q2538]) (k := [q2503]) (List.forall_mem_cons.mpr ⟨hm2540, (List.forall_mem_cons.mpr ⟨hm2543, (List.forall_mem_cons.mpr ⟨hm2546, (List.forall_mem_cons.mpr ⟨hm2549, (List.forall_mem_cons.mpr ⟨hm2552, (List.forall_mem_cons.mpr ⟨hm2555, (List.forall_mem_cons.mpr ⟨hm2558, (List.forall_mem_cons.mpr ⟨hm2561, (List.forall_mem_cons.mpr ⟨hm2564, (fun _ h => absurd h List.not_mem_nil)⟩)⟩)⟩)⟩)⟩)⟩)⟩)⟩)⟩) (fun b hb => sb2569 b (hNs2514 b hb))
  have hRq2572 : ∀ j, j < 16 → ∀ k, k < 10 → aa2497 j k ≠ q2530 := fun j hj k hk e => hn2539 (e ▸ (hR2516.1 j hj k hk).1)
  have hRq2573 : ∀ j, j < 16 → ∀ k, k < 10 → aa2497 j k ≠ q2531 := fun j hj k hk e => hn2542 (e ▸ (hR2516.1 j hj k hk).1)
  have hRq2574 : ∀ j, j < 16 → ∀ k, k < 10 → aa2497 j k ≠ q2532 := fun j hj k hk e => hn2545 (e ▸ (hR2516.1 j hj k hk).1)
  have hRq2575 : ∀ j, j < 16 → ∀ k, k < 10 → aa2497 j k ≠ q2533 := fun j hj k hk e => hn2548 (e ▸ (hR2516.1 j hj k hk).1)
  have hRq2576 : ∀ j, j < 16 → ∀ k, k < 10 → aa2497 j k ≠ q2534 := fun j hj k hk e => hn2551 (e ▸ (hR2516.1 j hj k hk).1)
  have hRq2577 : ∀ j, j < 16 → ∀ k, k < 10 → aa2497 j k ≠ q2535 := fun j hj k hk e => hn2554 (e ▸ (hR2516.1 j hj k hk).1)
  have hRq2578 : ∀ j, j < 16 → ∀ k, k < 10 → aa2497 j k ≠ q2536 := fun j hj k hk e => hn2557 (e ▸ (hR2516.1 j hj k hk).1)
  have hRq2579 : ∀ j, j < 16 → ∀ k, k < 10 → aa2497 j k ≠ q2537 := fun j hj k hk e => hn2560 (e ▸ (hR2516.1 j hj k hk).1)
  have hRq2580 : ∀ j, j < 16 → ∀ k, k < 10 → aa2497 j k ≠ q2538 := fun j hj k hk e => hn2563 (e ▸ (hR2516.1 j hj k hk).1)
  have hR2581 : RINGP g L2 L2527 f2528 16 aa2497 := RINGP.tr hR2516 hRq2515 sb2569 (fun b hb hn => fr2568 b hb hn)
  have hfr2582 : ∀ b, b ∈ L → b ≠ ac → f2528 b = f b := fun b hb z0 => (fr2568 b (hsb2518 b hb) (fun e => hnq2519 (e ▸ hb))).trans (hfr2517 b hb z0)
  have hnq2584 : q2530 ∉ L := fun h => hn2539 (hsb2518 _ h)
  have hnq2585 : q2531 ∉ L := fun h => hn2542 (hsb2518 _ h)
  have hnq2586 : q2532 ∉ L := fun h => hn2545 (hsb2518 _ h)
  have hnq2587 : q2533 ∉ L := fun h => hn2548 (hsb2518 _ h)
  have hnq2588 : q2534 ∉ L := fun h => hn2551 (hsb2518 _ h)
  have hnq2589 : q2535 ∉ L := fun h => hn2554 (hsb2518 _ h)
  have hnq2590 : q2536 ∉ L := fun h => hn2557 (hsb2518 _ h)
  have hnq2591 : q2537 ∉ L := fun h => hn2560 (hsb2518 _ h)
  have hnq2592 : q2538 ∉ L := fun h => hn2563 (hsb2518 _ h)
  have hsb2583 : ∀ b, b ∈ L → b ∈ L2527 := fun b hb => sb2569 b (hsb2518 b hb)
  have hn2594 : ac ≠ q2530 := fun e => hn2539 (e ▸ hm2521)
  have hn2595 : ac ≠ q2531 := fun e => hn2542 (e ▸ hm2521)
  have hn2596 : ac ≠ q2532 := fun e => hn2545 (e ▸ hm2521)
  have hn2597 : ac ≠ q2533 := fun e => hn2548 (e ▸ hm2521)
  have hn2598 : ac ≠ q2534 := fun e => hn2551 (e ▸ hm2521)
  have hn2599 : ac ≠ q2535 := fun e => hn2554 (e ▸ hm2521)
  have hn2600 : ac ≠ q2536 := fun e => hn2557 (e ▸ hm2521)
  have hn2601 : ac ≠ q2537 := fun e => hn2560 (e ▸ hm2521)
  have hn2602 : ac ≠ q2538 := fun e => hn2563 (e ▸ hm2521)
  have hf2603 := (fr2568 ac hm2521 hn2522).trans hf2520
  have hm2593 := sb2569 _ hm2521
  have hn2605 : q1 ≠ q2530 := fun e => hn2539 (e ▸ hm2524)
  have hn2606 : q1 ≠ q2531 := fun e => hn2542 (e ▸ hm2524)
  have hn2607 : q1 ≠ q2532 := fun e => hn2545 (e ▸ hm2524)
  have hn2608 : q1 ≠ q2533 := fun e => hn2548 (e ▸ hm2524)
  have hn2609 : q1 ≠ q2534 := fun e => hn2551 (e ▸ hm2524)
  have hn2610 : q1 ≠ q2535 := fun e => hn2554 (e ▸ hm2524)
  have hn2611 : q1 ≠ q2536 := fun e => hn2557 (e ▸ hm2524)
  have hn2612 : q1 ≠ q2537 := fun e => hn2560 (e ▸ hm2524)
  have hn2613 : q1 ≠ q2538 := fun e => hn2563 (e ▸ hm2524)
  have hf2614 := (fr2568 q1 hm2524 hn2525).trans hf2523
  have hm2604 := sb2569 _ hm2524
  have hn2616 : q2503 ≠ q2530 := fun e => hn2539 (e ▸ hm2508)
  have hn2617 : q2503 ≠ q2531 := fun e => hn2542 (e ▸ hm2508)
  have hn2618 : q2503 ≠ q2532 := fun e => hn2545 (e ▸ hm2508)
  have hn2619 : q2503 ≠ q2533 := fun e => hn2548 (e ▸ hm2508)
  have hn2620 : q2503 ≠ q2534 := fun e => hn2551 (e ▸ hm2508)
  have hn2621 : q2503 ≠ q2535 := fun e => hn2554 (e ▸ hm2508)
  have hn2622 : q2503 ≠ q2536 := fun e => hn2557 (e ▸ hm2508)
  have hn2623 : q2503 ≠ q2537 := fun e => hn2560 (e ▸ hm2508)
  have hn2624 : q2503 ≠ q2538 := fun e => hn2563 (e ▸ hm2508)
  have hm2615 := sb2569 _ hm2508
  have hni2625 : q2530 ∉ L2 := fun h => hn2539 (hs02512 _ h)
  have hni2626 : q2531 ∉ L2 := fun h => hn2542 (hs02512 _ h)
  have hni2627 : q2532 ∉ L2 := fun h => hn2545 (hs02512 _ h)
  have hni2628 : q2533 ∉ L2 := fun h => hn2548 (hs02512 _ h)
  have hni2629 : q2534 ∉ L2 := fun h => hn2551 (hs02512 _ h)
  have hni2630 : q2535 ∉ L2 := fun h => hn2554 (hs02512 _ h)
  have hni2631 : q2536 ∉ L2 := fun h => hn2557 (hs02512 _ h)
  have hni2632 : q2537 ∉ L2 := fun h => hn2560 (hs02512 _ h)
  have hni2633 : q2538 ∉ L2 := fun h => hn2563 (hs02512 _ h)
  have hs02634 : ∀ b, b ∈ L2 → b ∈ L2527 := fun b hb => sb2569 b (hs02512 b hb)
  refine pl_astq hx hb hG.1 hP hD hS hm2604 4 3 hf2614 rfl hm2615 hf2566 rfl (by unfold vp_in; decide) dX0_init_33 (fun H locs f2635 r2638 er2638 hf2637 ho2636 hP hD hS => ?_)
  have hR2639 : RINGP g L2 L2527 f2635 16 aa2497 := RINGP.tr hR2581 (fun j hj k hk e => (hR2581.1 j hj k hk).2 (e ▸ hm6)) (fun b hb => hb) (fun b _ hb => ho2636 b hb)
  have hfr2640 : ∀ b, b ∈ L → b ≠ ac → f2635 b = f b := fun b hb z0 => (ho2636 b (fun e => hnq13 (e ▸ hb))).trans (hfr2582 b hb z0)
  have hf2641 := (ho2636 ac hn16).trans hf2603
  have hf2642 := (ho2636 q2503 hn2525.symm).trans hf2566
  have hf2643 := (ho2636 q2530 hn2605.symm).trans hf2541
  have hf2644 := (ho2636 q2531 hn2606.symm).trans hf2544
  have hf2645 := (ho2636 q2532 hn2607.symm).trans hf2547
  have hf2646 := (ho2636 q2533 hn2608.symm).trans hf2550
  have hf2647 := (ho2636 q2534 hn2609.symm).trans hf2553
  have hf2648 := (ho2636 q2535 hn2610.symm).trans hf2556
  have hf2649 := (ho2636 q2536 hn2611.symm).trans hf2559
  have hf2650 := (ho2636 q2537 hn2612.symm).trans hf2562
  have hf2651 := (ho2636 q2538 hn2613.symm).trans hf2565
  obtain ⟨aa2652, ea2653, eb2654, hR2655⟩ := RINGP.add (l := [q2530, q2531, q2532, q2533, q2534, q2535, q2536, q2537, q2538, q2503]) hR2639 rfl hN2570 (List.forall_mem_cons.mpr ⟨⟨hm2540, hni2625⟩, (List.forall_mem_cons.mpr ⟨⟨hm2543, hni2626⟩, (List.forall_mem_cons.mpr ⟨⟨hm2546, hni2627⟩, (List.forall_mem_cons.mpr ⟨⟨hm2549, hni2628⟩, (List.forall_mem_cons.mpr ⟨⟨hm2552, hni2629⟩, (List.forall_mem_cons.mpr ⟨⟨hm2555, hni2630⟩, (List.forall_mem_cons.mpr ⟨⟨hm2558, hni2631⟩, (List.forall_mem_cons.mpr ⟨⟨hm2561, hni2632⟩, (List.forall_mem_cons.mpr ⟨⟨hm2564, hni2633⟩, (List.forall_mem_cons.mpr ⟨⟨hm2615, hni2511⟩, (fun _ h => absurd h List.not_mem_nil)⟩)⟩)⟩)⟩)⟩)⟩)⟩)⟩)⟩)⟩) (List.forall_mem_cons.mpr ⟨hRq2572, (List.forall_mem_cons.mpr ⟨hRq2573, (List.forall_mem_cons.mpr ⟨hRq2574, (List.forall_mem_cons.mpr ⟨hRq2575, (List.forall_mem_cons.mpr ⟨hRq2576, (List.forall_mem_cons.mpr ⟨hRq2577, (List.forall_mem_cons.mpr ⟨hRq2578, (List.forall_mem_cons.mpr ⟨hRq2579, (List.forall_mem_cons.mpr ⟨hRq2580, (List.forall_mem_cons.mpr ⟨hRq2515, (fun _ h => absurd h List.not_mem_nil)⟩)⟩)⟩)⟩)⟩)⟩)⟩)⟩)⟩)⟩) (fun k hk => match k, hk with | 0, _ => hf2642 | 1, _ => hf2651 | 2, _ => hf2650 | 3, _ => hf2649 | 4, _ => hf2648 | 5, _ => hf2647 | 6, _ => hf2646 | 7, _ => hf2645 | 8, _ => hf2644 | 9, _ => hf2643 | k + 10, h => absurd h (by omega))
  have hrr2656 : ∀ j, j < 17 → r2638 j = some (aa2652 j 0) := rr_step hrr2501 er2638 (by decide) ea2653 (eb2654.symm ▸ rfl)
  refine lv_iinc (v := 17) (lv' := [(1, .int 17), (0, .ref ac)]) hx hb dX0_init_34 hl (k := 0) rfl (by decide) (by decide) rfl (fun ls hl => ?_)
  refine lv_goto (tgt := 15) hx hb dX0_init_37 (by decide) ?_
  refine lv_iload_n hx hb dX0_init_15 rfl (lv_at hl 0 rfl) ?_
  refine lv_bipush (v := 20) hx hb dX0_init_16 (by decide) ?_
  refine lv_icmp_ge (tgt := 40) hx hb dX0_init_18 (by decide) (fun c2657 => absurd c2657 (by decide)) (fun c2657 => ?_)
  refine lv_aload_n hx hb dX0_init_21 rfl (lv_at hl 1 rfl) ?_
  refine pl_get (v := .ref q1) hx hb hts (fun w h => mT (inX0 w h)) hown hG.1 hP hm2593 hf2641 rfl 0 (by decide) (hts _ (mT wg_413)) (fun _ h => h) rfl dX0_init_22 ?_
  refine lv_iload_n hx hb dX0_init_25 rfl (lv_at hl 0 rfl) ?_
  refine pl_new (ci := 3) (fs := [.int 0, .int 0, .int 0, .int 0, .int 0, .int 0, .int 0, .long 0, .long 0, .null, .null, .null, .null, .null, .null, .null, .null, .null]) (C := RX3) (T := TX3) (N := 18) hx hb hts (fun w h => mT (inX3 w h)) tyX3 tyX3_ok hown (hts _ (mT wg_410)) (hts _ (mT wg_330)) (hts _ (mT wg_165)) hG.1 hP hD hS hA rfl dvX3 (Nat.le_of_ble_eq_true rfl) (Nat.le_of_ble_eq_true rfl) dX0_init_26 (fun q2658 H L2659 f2660 hq2661 hs2662 hm2663 hf2664 ho2665 hP hD hS => ?_)
  have hni2666 : q2658 ∉ L2 := fun h => hq2661 (hs02634 _ h)
  have hs02667 : ∀ b, b ∈ L2 → b ∈ L2659 := fun b hb => hs2662 b (hs02634 b hb)
  have hN2668 : [q2658].Nodup := List.nodup_cons.mpr ⟨fun h => hq2661 (nil_in _ h), List.nodup_nil⟩
  have hNs2669 : ∀ b, b ∈ [q2658] → b ∈ L2659 := List.forall_mem_cons.mpr ⟨hm2663, fun b hb => hs2662 b (nil_in b hb)⟩
  have hRq2670 : ∀ j, j < 17 → ∀ k, k < 10 → aa2652 j k ≠ q2658 := fun j hj k hk e => hq2661 (e ▸ (hR2655.1 j hj k hk).1)
  have hR2671 : RINGP g L2 L2659 f2660 17 aa2652 := RINGP.tr hR2655 hRq2670 hs2662 (fun b hb _ => ho2665 b hb)
  have hfr2672 : ∀ b, b ∈ L → b ≠ ac → f2660 b = f b := fun b hb z0 => (ho2665 b (hsb2583 b hb)).trans (hfr2640 b hb z0)
  have hnq2674 : q2658 ∉ L := fun h => hq2661 (hsb2583 _ h)
  have hsb2673 : ∀ b, b ∈ L → b ∈ _ := fun b hb => hs2662 b (hsb2583 b hb)
  have hf2675 := (ho2665 ac hm2593).trans hf2641
  have hn2677 : ac ≠ q2658 := fun e => hq2661 (e ▸ hm2593)
  have hm2676 := hs2662 _ hm2593
  have hf2678 := (ho2665 q1 hm2604).trans hf2637
  have hn2680 : q1 ≠ q2658 := fun e => hq2661 (e ▸ hm2604)
  have hm2679 := hs2662 _ hm2604
  refine lv_dup hx hb dX0_init_29 rfl ?_
  refine call_v (run_IN (rm := { frames := 1, cells := 9, slots := 258, locals := 12 }) hx hb hml hown hts (k_X3_init l g _ _ _ q2658 hm2663 hf2664) cI_X3_init wn_412 ⟨Nat.le_of_ble_eq_true rfl, Nat.le_of_ble_eq_true rfl⟩ hG hE hA hP hD hS rfl hl.1 (As := []) (rest := [.ref q2658, .int 17, .ref q1]) rfl (Nat.le_of_ble_eq_true rfl) dX0_init_30 ⟨Nat.le_of_ble_eq_true rfl, Nat.le_of_ble_eq_true rfl⟩) hA hD hS (fun L2682 f2683 H locs hp2684 hP hD hS => ?_)
  obtain ⟨q2685, q2686, q2687, q2688, q2689, q2690, q2691, q2692, q2693, hn2694, hm2695, hf2696, hn2697, hm2698, hf2699, hn2700, hm2701, hf2702, hn2703, hm2704, hf2705, hn2706, hm2707, hf2708, hn2709, hm2710, hf2711, hn2712, hm2713, hf2714, hn2715, hm2716, hf2717, hn2718, hm2719, hf2720, hf2721, er2722, fr2723, sb2724⟩ := hp2684
  have hN2725 : [q2685, q2686, q2687, q2688, q2689, q2690, q2691, q2692, q2693, q2658].Nodup := nd_app (l := [q2685, q2686, q2687, q2688, q2689, q2690, q2691, q2692, q2693]) (k := [q2658]) er2722 (List.forall_mem_cons.mpr ⟨hn2694, (List.forall_mem_cons.mpr ⟨hn2697, (List.forall_mem_cons.mpr ⟨hn2700, (List.forall_mem_cons.mpr ⟨hn2703, (List.forall_mem_cons.mpr ⟨hn2706, (List.forall_mem_cons.mpr ⟨hn2709, (List.forall_mem_cons.mpr ⟨hn2712, (List.forall_mem_cons.mpr ⟨hn2715, (List.forall_mem_cons.mpr ⟨hn2718, (fun _ h => absurd h List.not_mem_nil)⟩)⟩)⟩)⟩)⟩)⟩)⟩)⟩)⟩) hN2668 hNs2669
  have hNs2726 : ∀ b, b ∈ [q2685, q2686, q2687, q2688, q2689, q2690, q2691, q2692, q2693, q2658] → b ∈ L2682 := fm_app (l := [q2685, q2686, q2687, q2688, q2689, q2690, q2691, q2692, q2693]) (k := [q2658]) (List.forall_mem_cons.mpr ⟨hm2695, (List.forall_mem_cons.mpr ⟨hm2698, (List.forall_mem_cons.mpr ⟨hm2701, (List.forall_mem_cons.mpr ⟨hm2704, (List.forall_mem_cons.mpr ⟨hm2707, (List.forall_mem_cons.mpr ⟨hm2710, (List.forall_mem_cons.mpr ⟨hm2713, (List.forall_mem_cons.mpr ⟨hm2716, (List.forall_mem_cons.mpr ⟨hm2719, (fun _ h => absurd h List.not_mem_nil)⟩)⟩)⟩)⟩)⟩)⟩)⟩)⟩)⟩) (fun b hb => sb2724 b (hNs2669 b hb))
  have hRq2727 : ∀ j, j < 17 → ∀ k, k < 10 → aa2652 j k ≠ q2685 := fun j hj k hk e => hn2694 (e ▸ (hR2671.1 j hj k hk).1)
  have hRq2728 : ∀ j, j < 17 → ∀ k, k < 10 → aa2652 j k ≠ q2686 := fun j hj k hk e => hn2697 (e ▸ (hR2671.1 j hj k hk).1)
  have hRq2729 : ∀ j, j < 17 → ∀ k, k < 10 → aa2652 j k ≠ q2687 := fun j hj k hk e => hn2700 (e ▸ (hR2671.1 j hj k hk).1)
  have hRq2730 : ∀ j, j < 17 → ∀ k, k < 10 → aa2652 j k ≠ q2688 := fun j hj k hk e => hn2703 (e ▸ (hR2671.1 j hj k hk).1)
  have hRq2731 : ∀ j, j < 17 → ∀ k, k < 10 → aa2652 j k ≠ q2689 := fun j hj k hk e => hn2706 (e ▸ (hR2671.1 j hj k hk).1)
  have hRq2732 : ∀ j, j < 17 → ∀ k, k < 10 → aa2652 j k ≠ q2690 := fun j hj k hk e => hn2709 (e ▸ (hR2671.1 j hj k hk).1)
  have hRq2733 : ∀ j, j < 17 → ∀ k, k < 10 → aa2652 j k ≠ q2691 := fun j hj k hk e => hn2712 (e ▸ (hR2671.1 j hj k hk).1)
  have hRq2734 : ∀ j, j < 17 → ∀ k, k < 10 → aa2652 j k ≠ q2692 := fun j hj k hk e => hn2715 (e ▸ (hR2671.1 j hj k hk).1)
  have hRq2735 : ∀ j, j < 17 → ∀ k, k < 10 → aa2652 j k ≠ q2693 := fun j hj k hk e => hn2718 (e ▸ (hR2671.1 j hj k hk).1)
  have hR2736 : RINGP g L2 L2682 f2683 17 aa2652 := RINGP.tr hR2671 hRq2670 sb2724 (fun b hb hn => fr2723 b hb hn)
  have hfr2737 : ∀ b, b ∈ L → b ≠ ac → f2683 b = f b := fun b hb z0 => (fr2723 b (hsb2673 b hb) (fun e => hnq2674 (e ▸ hb))).trans (hfr2672 b hb z0)
  have hnq2739 : q2685 ∉ L := fun h => hn2694 (hsb2673 _ h)
  have hnq2740 : q2686 ∉ L := fun h => hn2697 (hsb2673 _ h)
  have hnq2741 : q2687 ∉ L := fun h => hn2700 (hsb2673 _ h)
  have hnq2742 : q2688 ∉ L := fun h => hn2703 (hsb2673 _ h)
  have hnq2743 : q2689 ∉ L := fun h => hn2706 (hsb2673 _ h)
  have hnq2744 : q2690 ∉ L := fun h => hn2709 (hsb2673 _ h)
  have hnq2745 : q2691 ∉ L := fun h => hn2712 (hsb2673 _ h)
  have hnq2746 : q2692 ∉ L := fun h => hn2715 (hsb2673 _ h)
  have hnq2747 : q2693 ∉ L := fun h => hn2718 (hsb2673 _ h)
  have hsb2738 : ∀ b, b ∈ L → b ∈ L2682 := fun b hb => sb2724 b (hsb2673 b hb)
  have hn2749 : ac ≠ q2685 := fun e => hn2694 (e ▸ hm2676)
  have hn2750 : ac ≠ q2686 := fun e => hn2697 (e ▸ hm2676)
  have hn2751 : ac ≠ q2687 := fun e => hn2700 (e ▸ hm2676)
  have hn2752 : ac ≠ q2688 := fun e => hn2703 (e ▸ hm2676)
  have hn2753 : ac ≠ q2689 := fun e => hn2706 (e ▸ hm2676)
  have hn2754 : ac ≠ q2690 := fun e => hn2709 (e ▸ hm2676)
  have hn2755 : ac ≠ q2691 := fun e => hn2712 (e ▸ hm2676)
  have hn2756 : ac ≠ q2692 := fun e => hn2715 (e ▸ hm2676)
  have hn2757 : ac ≠ q2693 := fun e => hn2718 (e ▸ hm2676)
  have hf2758 := (fr2723 ac hm2676 hn2677).trans hf2675
  have hm2748 := sb2724 _ hm2676
  have hn2760 : q1 ≠ q2685 := fun e => hn2694 (e ▸ hm2679)
  have hn2761 : q1 ≠ q2686 := fun e => hn2697 (e ▸ hm2679)
  have hn2762 : q1 ≠ q2687 := fun e => hn2700 (e ▸ hm2679)
  have hn2763 : q1 ≠ q2688 := fun e => hn2703 (e ▸ hm2679)
  have hn2764 : q1 ≠ q2689 := fun e => hn2706 (e ▸ hm2679)
  have hn2765 : q1 ≠ q2690 := fun e => hn2709 (e ▸ hm2679)
  have hn2766 : q1 ≠ q2691 := fun e => hn2712 (e ▸ hm2679)
  have hn2767 : q1 ≠ q2692 := fun e => hn2715 (e ▸ hm2679)
  have hn2768 : q1 ≠ q2693 := fun e => hn2718 (e ▸ hm2679)
  have hf2769 := (fr2723 q1 hm2679 hn2680).trans hf2678
  have hm2759 := sb2724 _ hm2679
  have hn2771 : q2658 ≠ q2685 := fun e => hn2694 (e ▸ hm2663)
  have hn2772 : q2658 ≠ q2686 := fun e => hn2697 (e ▸ hm2663)
  have hn2773 : q2658 ≠ q2687 := fun e => hn2700 (e ▸ hm2663)
  have hn2774 : q2658 ≠ q2688 := fun e => hn2703 (e ▸ hm2663)
  have hn2775 : q2658 ≠ q2689 := fun e => hn2706 (e ▸ hm2663)
  have hn2776 : q2658 ≠ q2690 := fun e => hn2709 (e ▸ hm2663)
  have hn2777 : q2658 ≠ q2691 := fun e => hn2712 (e ▸ hm2663)
  have hn2778 : q2658 ≠ q2692 := fun e => hn2715 (e ▸ hm2663)
  have hn2779 : q2658 ≠ q2693 := fun e => hn2718 (e ▸ hm2663)
  have hm2770 := sb2724 _ hm2663
  have hni2780 : q2685 ∉ L2 := fun h => hn2694 (hs02667 _ h)
  have hni2781 : q2686 ∉ L2 := fun h => hn2697 (hs02667 _ h)
  have hni2782 : q2687 ∉ L2 := fun h => hn2700 (hs02667 _ h)
  have hni2783 : q2688 ∉ L2 := fun h => hn2703 (hs02667 _ h)
  have hni2784 : q2689 ∉ L2 := fun h => hn2706 (hs02667 _ h)
  have hni2785 : q2690 ∉ L2 := fun h => hn2709 (hs02667 _ h)
  have hni2786 : q2691 ∉ L2 := fun h => hn2712 (hs02667 _ h)
  have hni2787 : q2692 ∉ L2 := fun h => hn2715 (hs02667 _ h)
  have hni2788 : q2693 ∉ L2 := fun h => hn2718 (hs02667 _ h)
  have hs02789 : ∀ b, b ∈ L2 → b ∈ L2682 := fun b hb => sb2724 b (hs02667 b hb)
  refine pl_astq hx hb hG.1 hP hD hS hm2759 4 3 hf2769 rfl hm2770 hf2721 rfl (by unfold vp_in; decide) dX0_init_33 (fun H locs f2790 r2793 er2793 hf2792 ho2791 hP hD hS => ?_)
  have hR2794 : RINGP g L2 L2682 f2790 17 aa2652 := RINGP.tr hR2736 (fun j hj k hk e => (hR2736.1 j hj k hk).2 (e ▸ hm6)) (fun b hb => hb) (fun b _ hb => ho2791 b hb)
  have hfr2795 : ∀ b, b ∈ L → b ≠ ac → f2790 b = f b := fun b hb z0 => (ho2791 b (fun e => hnq13 (e ▸ hb))).trans (hfr2737 b hb z0)
  have hf2796 := (ho2791 ac hn16).trans hf2758
  have hf2797 := (ho2791 q2658 hn2680.symm).trans hf2721
  have hf2798 := (ho2791 q2685 hn2760.symm).trans hf2696
  have hf2799 := (ho2791 q2686 hn2761.symm).trans hf2699
  have hf2800 := (ho2791 q2687 hn2762.symm).trans hf2702
  have hf2801 := (ho2791 q2688 hn2763.symm).trans hf2705
  have hf2802 := (ho2791 q2689 hn2764.symm).trans hf2708
  have hf2803 := (ho2791 q2690 hn2765.symm).trans hf2711
  have hf2804 := (ho2791 q2691 hn2766.symm).trans hf2714
  have hf2805 := (ho2791 q2692 hn2767.symm).trans hf2717
  have hf2806 := (ho2791 q2693 hn2768.symm).trans hf2720
  obtain ⟨aa2807, ea2808, eb2809, hR2810⟩ := RINGP.add (l := [q2685, q2686, q2687, q2688, q2689, q2690, q2691, q2692, q2693, q2658]) hR2794 rfl hN2725 (List.forall_mem_cons.mpr ⟨⟨hm2695, hni2780⟩, (List.forall_mem_cons.mpr ⟨⟨hm2698, hni2781⟩, (List.forall_mem_cons.mpr ⟨⟨hm2701, hni2782⟩, (List.forall_mem_cons.mpr ⟨⟨hm2704, hni2783⟩, (List.forall_mem_cons.mpr ⟨⟨hm2707, hni2784⟩, (List.forall_mem_cons.mpr ⟨⟨hm2710, hni2785⟩, (List.forall_mem_cons.mpr ⟨⟨hm2713, hni2786⟩, (List.forall_mem_cons.mpr ⟨⟨hm2716, hni2787⟩, (List.forall_mem_cons.mpr ⟨⟨hm2719, hni2788⟩, (List.forall_mem_cons.mpr ⟨⟨hm2770, hni2666⟩, (fun _ h => absurd h List.not_mem_nil)⟩)⟩)⟩)⟩)⟩)⟩)⟩)⟩)⟩)⟩) (List.forall_mem_cons.mpr ⟨hRq2727, (List.forall_mem_cons.mpr ⟨hRq2728, (List.forall_mem_cons.mpr ⟨hRq2729, (List.forall_mem_cons.mpr ⟨hRq2730, (List.forall_mem_cons.mpr ⟨hRq2731, (List.forall_mem_cons.mpr ⟨hRq2732, (List.forall_mem_cons.mpr ⟨hRq2733, (List.forall_mem_cons.mpr ⟨hRq2734, (List.forall_mem_cons.mpr ⟨hRq2735, (List.forall_mem_cons.mpr ⟨hRq2670, (fun _ h => absurd h List.not_mem_nil)⟩)⟩)⟩)⟩)⟩)⟩)⟩)⟩)⟩)⟩) (fun k hk => match k, hk with | 0, _ => hf2797 | 1, _ => hf2806 | 2, _ => hf2805 | 3, _ => hf2804 | 4, _ => hf2803 | 5, _ => hf2802 | 6, _ => hf2801 | 7, _ => hf2800 | 8, _ => hf2799 | 9, _ => hf2798 | k + 10, h => absurd h (by omega))
  have hrr2811 : ∀ j, j < 18 → r2793 j = some (aa2807 j 0) := rr_step hrr2656 er2793 (by decide) ea2808 (eb2809.symm ▸ rfl)
  refine lv_iinc (v := 18) (lv' := [(1, .int 18), (0, .ref ac)]) hx hb dX0_init_34 hl (k := 0) rfl (by decide) (by decide) rfl (fun ls hl => ?_)
  refine lv_goto (tgt := 15) hx hb dX0_init_37 (by decide) ?_
  refine lv_iload_n hx hb dX0_init_15 rfl (lv_at hl 0 rfl) ?_
  refine lv_bipush (v := 20) hx hb dX0_init_16 (by decide) ?_
  refine lv_icmp_ge (tgt := 40) hx hb dX0_init_18 (by decide) (fun c2812 => absurd c2812 (by decide)) (fun c2812 => ?_)
  refine lv_aload_n hx hb dX0_init_21 rfl (lv_at hl 1 rfl) ?_
  refine pl_get (v := .ref q1) hx hb hts (fun w h => mT (inX0 w h)) hown hG.1 hP hm2748 hf2796 rfl 0 (by decide) (hts _ (mT wg_413)) (fun _ h => h) rfl dX0_init_22 ?_
  refine lv_iload_n hx hb dX0_init_25 rfl (lv_at hl 0 rfl) ?_
  refine pl_new (ci := 3) (fs := [.int 0, .int 0, .int 0, .int 0, .int 0, .int 0, .int 0, .long 0, .long 0, .null, .null, .null, .null, .null, .null, .null, .null, .null]) (C := RX3) (T := TX3) (N := 18) hx hb hts (fun w h => mT (inX3 w h)) tyX3 tyX3_ok hown (hts _ (mT wg_410)) (hts _ (mT wg_330)) (hts _ (mT wg_165)) hG.1 hP hD hS hA rfl dvX3 (Nat.le_of_ble_eq_true rfl) (Nat.le_of_ble_eq_true rfl) dX0_init_26 (fun q2813 H L2814 f2815 hq2816 hs2817 hm2818 hf2819 ho2820 hP hD hS => ?_)
  have hni2821 : q2813 ∉ L2 := fun h => hq2816 (hs02789 _ h)
  have hs02822 : ∀ b, b ∈ L2 → b ∈ L2814 := fun b hb => hs2817 b (hs02789 b hb)
  have hN2823 : [q2813].Nodup := List.nodup_cons.mpr ⟨fun h => hq2816 (nil_in _ h), List.nodup_nil⟩
  have hNs2824 : ∀ b, b ∈ [q2813] → b ∈ L2814 := List.forall_mem_cons.mpr ⟨hm2818, fun b hb => hs2817 b (nil_in b hb)⟩
  have hRq2825 : ∀ j, j < 18 → ∀ k, k < 10 → aa2807 j k ≠ q2813 := fun j hj k hk e => hq2816 (e ▸ (hR2810.1 j hj k hk).1)
  have hR2826 : RINGP g L2 L2814 f2815 18 aa2807 := RINGP.tr hR2810 hRq2825 hs2817 (fun b hb _ => ho2820 b hb)
  have hfr2827 : ∀ b, b ∈ L → b ≠ ac → f2815 b = f b := fun b hb z0 => (ho2820 b (hsb2738 b hb)).trans (hfr2795 b hb z0)
  have hnq2829 : q2813 ∉ L := fun h => hq2816 (hsb2738 _ h)
  have hsb2828 : ∀ b, b ∈ L → b ∈ _ := fun b hb => hs2817 b (hsb2738 b hb)
  have hf2830 := (ho2820 ac hm2748).trans hf2796
  have hn2832 : ac ≠ q2813 := fun e => hq2816 (e ▸ hm2748)
  have hm2831 := hs2817 _ hm2748
  have hf2833 := (ho2820 q1 hm2759).trans hf2792
  have hn2835 : q1 ≠ q2813 := fun e => hq2816 (e ▸ hm2759)
  have hm2834 := hs2817 _ hm2759
  refine lv_dup hx hb dX0_init_29 rfl ?_
  refine call_v (run_IN (rm := { frames := 1, cells := 9, slots := 258, locals := 12 }) hx hb hml hown hts (k_X3_init l g _ _ _ q2813 hm2818 hf2819) cI_X3_init wn_412 ⟨Nat.le_of_ble_eq_true rfl, Nat.le_of_ble_eq_true rfl⟩ hG hE hA hP hD hS rfl hl.1 (As := []) (rest := [.ref q2813, .int 18, .ref q1]) rfl (Nat.le_of_ble_eq_true rfl) dX0_init_30 ⟨Nat.le_of_ble_eq_true rfl, Nat.le_of_ble_eq_true rfl⟩) hA hD hS (fun L2837 f2838 H locs hp2839 hP hD hS => ?_)
  obtain ⟨q2840, q2841, q2842, q2843, q2844, q2845, q2846, q2847, q2848, hn2849, hm2850, hf2851, hn2852, hm2853, hf2854, hn2855, hm2856, hf2857, hn2858, hm2859, hf2860, hn2861, hm2862, hf2863, hn2864, hm2865, hf2866, hn2867, hm2868, hf2869, hn2870, hm2871, hf2872, hn2873, hm2874, hf2875, hf2876, er2877, fr2878, sb2879⟩ := hp2839
  have hN2880 : [q2840, q2841, q2842, q2843, q2844, q2845, q2846, q2847, q2848, q2813].Nodup := nd_app (l := [q2840, q2841, q2842, q2843, q2844, q2845, q2846, q2847, q2848]) (k := [q2813]) er2877 (List.forall_mem_cons.mpr ⟨hn2849, (List.forall_mem_cons.mpr ⟨hn2852, (List.forall_mem_cons.mpr ⟨hn2855, (List.forall_mem_cons.mpr ⟨hn2858, (List.forall_mem_cons.mpr ⟨hn2861, (List.forall_mem_cons.mpr ⟨hn2864, (List.forall_mem_cons.mpr ⟨hn2867, (List.forall_mem_cons.mpr ⟨hn2870, (List.forall_mem_cons.mpr ⟨hn2873, (fun _ h => absurd h List.not_mem_nil)⟩)⟩)⟩)⟩)⟩)⟩)⟩)⟩)⟩) hN2823 hNs2824
  have hNs2881 : ∀ b, b ∈ [q2840, q2841, q2842, q2843, q2844, q2845, q2846, q2847, q2848, q2813] → b ∈ L2837 := fm_app (l := [q2840, q2841, q2842, q2843, q2844, q2845, q2846, q2847, q2848]) (k := [q2813]) (List.forall_mem_cons.mpr ⟨hm2850, (List.forall_mem_cons.mpr ⟨hm2853, (List.forall_mem_cons.mpr ⟨hm2856, (List.forall_mem_cons.mpr ⟨hm2859, (List.forall_mem_cons.mpr ⟨hm2862, (List.forall_mem_cons.mpr ⟨hm2865, (List.forall_mem_cons.mpr ⟨hm2868, (List.forall_mem_cons.mpr ⟨hm2871, (List.forall_mem_cons.mpr ⟨hm2874, (fun _ h => absurd h List.not_mem_nil)⟩)⟩)⟩)⟩)⟩)⟩)⟩)⟩)⟩) (fun b hb => sb2879 b (hNs2824 b hb))
  have hRq2882 : ∀ j, j < 18 → ∀ k, k < 10 → aa2807 j k ≠ q2840 := fun j hj k hk e => hn2849 (e ▸ (hR2826.1 j hj k hk).1)
  have hRq2883 : ∀ j, j < 18 → ∀ k, k < 10 → aa2807 j k ≠ q2841 := fun j hj k hk e => hn2852 (e ▸ (hR2826.1 j hj k hk).1)
  have hRq2884 : ∀ j, j < 18 → ∀ k, k < 10 → aa2807 j k ≠ q2842 := fun j hj k hk e => hn2855 (e ▸ (hR2826.1 j hj k hk).1)
  have hRq2885 : ∀ j, j < 18 → ∀ k, k < 10 → aa2807 j k ≠ q2843 := fun j hj k hk e => hn2858 (e ▸ (hR2826.1 j hj k hk).1)
  have hRq2886 : ∀ j, j < 18 → ∀ k, k < 10 → aa2807 j k ≠ q2844 := fun j hj k hk e => hn2861 (e ▸ (hR2826.1 j hj k hk).1)
  have hRq2887 : ∀ j, j < 18 → ∀ k, k < 10 → aa2807 j k ≠ q2845 := fun j hj k hk e => hn2864 (e ▸ (hR2826.1 j hj k hk).1)
  have hRq2888 : ∀ j, j < 18 → ∀ k, k < 10 → aa2807 j k ≠ q2846 := fun j hj k hk e => hn2867 (e ▸ (hR2826.1 j hj k hk).1)
  have hRq2889 : ∀ j, j < 18 → ∀ k, k < 10 → aa2807 j k ≠ q2847 := fun j hj k hk e => hn2870 (e ▸ (hR2826.1 j hj k hk).1)
  have hRq2890 : ∀ j, j < 18 → ∀ k, k < 10 → aa2807 j k ≠ q2848 := fun j hj k hk e => hn2873 (e ▸ (hR2826.1 j hj k hk).1)
  have hR2891 : RINGP g L2 L2837 f2838 18 aa2807 := RINGP.tr hR2826 hRq2825 sb2879 (fun b hb hn => fr2878 b hb hn)
  have hfr2892 : ∀ b, b ∈ L → b ≠ ac → f2838 b = f b := fun b hb z0 => (fr2878 b (hsb2828 b hb) (fun e => hnq2829 (e ▸ hb))).trans (hfr2827 b hb z0)
  have hnq2894 : q2840 ∉ L := fun h => hn2849 (hsb2828 _ h)
  have hnq2895 : q2841 ∉ L := fun h => hn2852 (hsb2828 _ h)
  have hnq2896 : q2842 ∉ L := fun h => hn2855 (hsb2828 _ h)
  have hnq2897 : q2843 ∉ L := fun h => hn2858 (hsb2828 _ h)
  have hnq2898 : q2844 ∉ L := fun h => hn2861 (hsb2828 _ h)
  have hnq2899 : q2845 ∉ L := fun h => hn2864 (hsb2828 _ h)
  have hnq2900 : q2846 ∉ L := fun h => hn2867 (hsb2828 _ h)
  have hnq2901 : q2847 ∉ L := fun h => hn2870 (hsb2828 _ h)
  have hnq2902 : q2848 ∉ L := fun h => hn2873 (hsb2828 _ h)
  have hsb2893 : ∀ b, b ∈ L → b ∈ L2837 := fun b hb => sb2879 b (hsb2828 b hb)
  have hn2904 : ac ≠ q2840 := fun e => hn2849 (e ▸ hm2831)
  have hn2905 : ac ≠ q2841 := fun e => hn2852 (e ▸ hm2831)
  have hn2906 : ac ≠ q2842 := fun e => hn2855 (e ▸ hm2831)
  have hn2907 : ac ≠ q2843 := fun e => hn2858 (e ▸ hm2831)
  have hn2908 : ac ≠ q2844 := fun e => hn2861 (e ▸ hm2831)
  have hn2909 : ac ≠ q2845 := fun e => hn2864 (e ▸ hm2831)
  have hn2910 : ac ≠ q2846 := fun e => hn2867 (e ▸ hm2831)
  have hn2911 : ac ≠ q2847 := fun e => hn2870 (e ▸ hm2831)
  have hn2912 : ac ≠ q2848 := fun e => hn2873 (e ▸ hm2831)
  have hf2913 := (fr2878 ac hm2831 hn2832).trans hf2830
  have hm2903 := sb2879 _ hm2831
  have hn2915 : q1 ≠ q2840 := fun e => hn2849 (e ▸ hm2834)
  have hn2916 : q1 ≠ q2841 := fun e => hn2852 (e ▸ hm2834)
  have hn2917 : q1 ≠ q2842 := fun e => hn2855 (e ▸ hm2834)
  have hn2918 : q1 ≠ q2843 := fun e => hn2858 (e ▸ hm2834)
  have hn2919 : q1 ≠ q2844 := fun e => hn2861 (e ▸ hm2834)
  have hn2920 : q1 ≠ q2845 := fun e => hn2864 (e ▸ hm2834)
  have hn2921 : q1 ≠ q2846 := fun e => hn2867 (e ▸ hm2834)
  have hn2922 : q1 ≠ q2847 := fun e => hn2870 (e ▸ hm2834)
  have hn2923 : q1 ≠ q2848 := fun e => hn2873 (e ▸ hm2834)
  have hf2924 := (fr2878 q1 hm2834 hn2835).trans hf2833
  have hm2914 := sb2879 _ hm2834
  have hn2926 : q2813 ≠ q2840 := fun e => hn2849 (e ▸ hm2818)
  have hn2927 : q2813 ≠ q2841 := fun e => hn2852 (e ▸ hm2818)
  have hn2928 : q2813 ≠ q2842 := fun e => hn2855 (e ▸ hm2818)
  have hn2929 : q2813 ≠ q2843 := fun e => hn2858 (e ▸ hm2818)
  have hn2930 : q2813 ≠ q2844 := fun e => hn2861 (e ▸ hm2818)
  have hn2931 : q2813 ≠ q2845 := fun e => hn2864 (e ▸ hm2818)
  have hn2932 : q2813 ≠ q2846 := fun e => hn2867 (e ▸ hm2818)
  have hn2933 : q2813 ≠ q2847 := fun e => hn2870 (e ▸ hm2818)
  have hn2934 : q2813 ≠ q2848 := fun e => hn2873 (e ▸ hm2818)
  have hm2925 := sb2879 _ hm2818
  have hni2935 : q2840 ∉ L2 := fun h => hn2849 (hs02822 _ h)
  have hni2936 : q2841 ∉ L2 := fun h => hn2852 (hs02822 _ h)
  have hni2937 : q2842 ∉ L2 := fun h => hn2855 (hs02822 _ h)
  have hni2938 : q2843 ∉ L2 := fun h => hn2858 (hs02822 _ h)
  have hni2939 : q2844 ∉ L2 := fun h => hn2861 (hs02822 _ h)
  have hni2940 : q2845 ∉ L2 := fun h => hn2864 (hs02822 _ h)
  have hni2941 : q2846 ∉ L2 := fun h => hn2867 (hs02822 _ h)
  have hni2942 : q2847 ∉ L2 := fun h => hn2870 (hs02822 _ h)
  have hni2943 : q2848 ∉ L2 := fun h => hn2873 (hs02822 _ h)
  have hs02944 : ∀ b, b ∈ L2 → b ∈ L2837 := fun b hb => sb2879 b (hs02822 b hb)
  refine pl_astq hx hb hG.1 hP hD hS hm2914 4 3 hf2924 rfl hm2925 hf2876 rfl (by unfold vp_in; decide) dX0_init_33 (fun H locs f2945 r2948 er2948 hf2947 ho2946 hP hD hS => ?_)
  have hR2949 : RINGP g L2 L2837 f2945 18 aa2807 := RINGP.tr hR2891 (fun j hj k hk e => (hR2891.1 j hj k hk).2 (e ▸ hm6)) (fun b hb => hb) (fun b _ hb => ho2946 b hb)
  have hfr2950 : ∀ b, b ∈ L → b ≠ ac → f2945 b = f b := fun b hb z0 => (ho2946 b (fun e => hnq13 (e ▸ hb))).trans (hfr2892 b hb z0)
  have hf2951 := (ho2946 ac hn16).trans hf2913
  have hf2952 := (ho2946 q2813 hn2835.symm).trans hf2876
  have hf2953 := (ho2946 q2840 hn2915.symm).trans hf2851
  have hf2954 := (ho2946 q2841 hn2916.symm).trans hf2854
  have hf2955 := (ho2946 q2842 hn2917.symm).trans hf2857
  have hf2956 := (ho2946 q2843 hn2918.symm).trans hf2860
  have hf2957 := (ho2946 q2844 hn2919.symm).trans hf2863
  have hf2958 := (ho2946 q2845 hn2920.symm).trans hf2866
  have hf2959 := (ho2946 q2846 hn2921.symm).trans hf2869
  have hf2960 := (ho2946 q2847 hn2922.symm).trans hf2872
  have hf2961 := (ho2946 q2848 hn2923.symm).trans hf2875
  obtain ⟨aa2962, ea2963, eb2964, hR2965⟩ := RINGP.add (l := [q2840, q2841, q2842, q2843, q2844, q2845, q2846, q2847, q2848, q2813]) hR2949 rfl hN2880 (List.forall_mem_cons.mpr ⟨⟨hm2850, hni2935⟩, (List.forall_mem_cons.mpr ⟨⟨hm2853, hni2936⟩, (List.forall_mem_cons.mpr ⟨⟨hm2856, hni2937⟩, (List.forall_mem_cons.mpr ⟨⟨hm2859, hni2938⟩, (List.forall_mem_cons.mpr ⟨⟨hm2862, hni2939⟩, (List.forall_mem_cons.mpr ⟨⟨hm2865, hni2940⟩, (List.forall_mem_cons.mpr ⟨⟨hm2868, hni2941⟩, (List.forall_mem_cons.mpr ⟨⟨hm2871, hni2942⟩, (List.forall_mem_cons.mpr ⟨⟨hm2874, hni2943⟩, (List.forall_mem_cons.mpr ⟨⟨hm2925, hni2821⟩, (fun _ h => absurd h List.not_mem_nil)⟩)⟩)⟩)⟩)⟩)⟩)⟩)⟩)⟩)⟩) (List.forall_mem_cons.mpr ⟨hRq2882, (List.forall_mem_cons.mpr ⟨hRq2883, (List.forall_mem_cons.mpr ⟨hRq2884, (List.forall_mem_cons.mpr ⟨hRq2885, (List.forall_mem_cons.mpr ⟨hRq2886, (List.forall_mem_cons.mpr ⟨hRq2887, (List.forall_mem_cons.mpr ⟨hRq2888, (List.forall_mem_cons.mpr ⟨hRq2889, (List.forall_mem_cons.mpr ⟨hRq2890, (List.forall_mem_cons.mpr ⟨hRq2825, (fun _ h => absurd h List.not_mem_nil)⟩)⟩)⟩)⟩)⟩)⟩)⟩)⟩)⟩)⟩) (fun k hk => match k, hk with | 0, _ => hf2952 | 1, _ => hf2961 | 2, _ => hf2960 | 3, _ => hf2959 | 4, _ => hf2958 | 5, _ => hf2957 | 6, _ => hf2956 | 7, _ => hf2955 | 8, _ => hf2954 | 9, _ => hf2953 | k + 10, h => absurd h (by omega))
  have hrr2966 : ∀ j, j < 19 → r2948 j = some (aa2962 j 0) := rr_step hrr2811 er2948 (by decide) ea2963 (eb2964.symm ▸ rfl)
  refine lv_iinc (v := 19) (lv' := [(1, .int 19), (0, .ref ac)]) hx hb dX0_init_34 hl (k := 0) rfl (by decide) (by decide) rfl (fun ls hl => ?_)
  refine lv_goto (tgt := 15) hx hb dX0_init_37 (by decide) ?_
  refine lv_iload_n hx hb dX0_init_15 rfl (lv_at hl 0 rfl) ?_
  refine lv_bipush (v := 20) hx hb dX0_init_16 (by decide) ?_
  refine lv_icmp_ge (tgt := 40) hx hb dX0_init_18 (by decide) (fun c2967 => absurd c2967 (by decide)) (fun c2967 => ?_)
  refine lv_aload_n hx hb dX0_init_21 rfl (lv_at hl 1 rfl) ?_
  refine pl_get (v := .ref q1) hx hb hts (fun w h => mT (inX0 w h)) hown hG.1 hP hm2903 hf2951 rfl 0 (by decide) (hts _ (mT wg_413)) (fun _ h => h) rfl dX0_init_22 ?_
  refine lv_iload_n hx hb dX0_init_25 rfl (lv_at hl 0 rfl) ?_
  refine pl_new (ci := 3) (fs := [.int 0, .int 0, .int 0, .int 0, .int 0, .int 0, .int 0, .long 0, .long 0, .null, .null, .null, .null, .null, .null, .null, .null, .null]) (C := RX3) (T := TX3) (N := 18) hx hb hts (fun w h => mT (inX3 w h)) tyX3 tyX3_ok hown (hts _ (mT wg_410)) (hts _ (mT wg_330)) (hts _ (mT wg_165)) hG.1 hP hD hS hA rfl dvX3 (Nat.le_of_ble_eq_true rfl) (Nat.le_of_ble_eq_true rfl) dX0_init_26 (fun q2968 H L2969 f2970 hq2971 hs2972 hm2973 hf2974 ho2975 hP hD hS => ?_)
  have hni2976 : q2968 ∉ L2 := fun h => hq2971 (hs02944 _ h)
  have hs02977 : ∀ b, b ∈ L2 → b ∈ L2969 := fun b hb => hs2972 b (hs02944 b hb)
  have hN2978 : [q2968].Nodup := List.nodup_cons.mpr ⟨fun h => hq2971 (nil_in _ h), List.nodup_nil⟩
  have hNs2979 : ∀ b, b ∈ [q2968] → b ∈ L2969 := List.forall_mem_cons.mpr ⟨hm2973, fun b hb => hs2972 b (nil_in b hb)⟩
  have hRq2980 : ∀ j, j < 19 → ∀ k, k < 10 → aa2962 j k ≠ q2968 := fun j hj k hk e => hq2971 (e ▸ (hR2965.1 j hj k hk).1)
  have hR2981 : RINGP g L2 L2969 f2970 19 aa2962 := RINGP.tr hR2965 hRq2980 hs2972 (fun b hb _ => ho2975 b hb)
  have hfr2982 : ∀ b, b ∈ L → b ≠ ac → f2970 b = f b := fun b hb z0 => (ho2975 b (hsb2893 b hb)).trans (hfr2950 b hb z0)
  have hnq2984 : q2968 ∉ L := fun h => hq2971 (hsb2893 _ h)
  have hsb2983 : ∀ b, b ∈ L → b ∈ _ := fun b hb => hs2972 b (hsb2893 b hb)
  have hf2985 := (ho2975 ac hm2903).trans hf2951
  have hn2987 : ac ≠ q2968 := fun e => hq2971 (e ▸ hm2903)
  have hm2986 := hs2972 _ hm2903
  have hf2988 := (ho2975 q1 hm2914).trans hf2947
  have hn2990 : q1 ≠ q2968 := fun e => hq2971 (e ▸ hm2914)
  have hm2989 := hs2972 _ hm2914
  refine lv_dup hx hb dX0_init_29 rfl ?_
  refine call_v (run_IN (rm := { frames := 1, cells := 9, slots := 258, locals := 12 }) hx hb hml hown hts (k_X3_init l g _ _ _ q2968 hm2973 hf2974) cI_X3_init wn_412 ⟨Nat.le_of_ble_eq_true rfl, Nat.le_of_ble_eq_true rfl⟩ hG hE hA hP hD hS rfl hl.1 (As := []) (rest := [.ref q2968, .int 19, .ref q1]) rfl (Nat.le_of_ble_eq_true rfl) dX0_init_30 ⟨Nat.le_of_ble_eq_true rfl, Nat.le_of_ble_eq_true rfl⟩) hA hD hS (fun L2992 f2993 H locs hp2994 hP hD hS => ?_)
  obtain ⟨q2995, q2996, q2997, q2998, q2999, q3000, q3001, q3002, q3003, hn3004, hm3005, hf3006, hn3007, hm3008, hf3009, hn3010, hm3011, hf3012, hn3013, hm3014, hf3015, hn3016, hm3017, hf3018, hn3019, hm3020, hf3021, hn3022, hm3023, hf3024, hn3025, hm3026, hf3027, hn3028, hm3029, hf3030, hf3031, er3032, fr3033, sb3034⟩ := hp2994
  have hN3035 : [q2995, q2996, q2997, q2998, q2999, q3000, q3001, q3002, q3003, q2968].Nodup := nd_app (l := [q2995, q2996, q2997, q2998, q2999, q3000, q3001, q3002, q3003]) (k := [q2968]) er3032 (List.forall_mem_cons.mpr ⟨hn3004, (List.forall_mem_cons.mpr ⟨hn3007, (List.forall_mem_cons.mpr ⟨hn3010, (List.forall_mem_cons.mpr ⟨hn3013, (List.forall_mem_cons.mpr ⟨hn3016, (List.forall_mem_cons.mpr ⟨hn3019, (List.forall_mem_cons.mpr ⟨hn3022, (List.forall_mem_cons.mpr ⟨hn3025, (List.forall_mem_cons.mpr ⟨hn3028, (fun _ h => absurd h List.not_mem_nil)⟩)⟩)⟩)⟩)⟩)⟩)⟩)⟩)⟩) hN2978 hNs2979
  have hNs3036 : ∀ b, b ∈ [q2995, q2996, q2997, q2998, q2999, q3000, q3001, q3002, q3003, q2968] → b ∈ L2992 := fm_app (l := [q2995, q2996, q2997, q2998, q2999, q3000, q3001, q3002, q3003]) (k := [q2968]) (List.forall_mem_cons.mpr ⟨hm3005, (List.forall_mem_cons.mpr ⟨hm3008, (List.forall_mem_cons.mpr ⟨hm3011, (List.forall_mem_cons.mpr ⟨hm3014, (List.forall_mem_cons.mpr ⟨hm3017, (List.forall_mem_cons.mpr ⟨hm3020, (List.forall_mem_cons.mpr ⟨hm3023, (List.forall_mem_cons.mpr ⟨hm3026, (List.forall_mem_cons.mpr ⟨hm3029, (fun _ h => absurd h List.not_mem_nil)⟩)⟩)⟩)⟩)⟩)⟩)⟩)⟩)⟩) (fun b hb => sb3034 b (hNs2979 b hb))
  have hRq3037 : ∀ j, j < 19 → ∀ k, k < 10 → aa2962 j k ≠ q2995 := fun j hj k hk e => hn3004 (e ▸ (hR2981.1 j hj k hk).1)
  have hRq3038 : ∀ j, j < 19 → ∀ k, k < 10 → aa2962 j k ≠ q2996 := fun j hj k hk e => hn3007 (e ▸ (hR2981.1 j hj k hk).1)
  have hRq3039 : ∀ j, j < 19 → ∀ k, k < 10 → aa2962 j k ≠ q2997 := fun j hj k hk e => hn3010 (e ▸ (hR2981.1 j hj k hk).1)
  have hRq3040 : ∀ j, j < 19 → ∀ k, k < 10 → aa2962 j k ≠ q2998 := fun j hj k hk e => hn3013 (e ▸ (hR2981.1 j hj k hk).1)
  have hRq3041 : ∀ j, j < 19 → ∀ k, k < 10 → aa2962 j k ≠ q2999 := fun j hj k hk e => hn3016 (e ▸ (hR2981.1 j hj k hk).1)
  have hRq3042 : ∀ j, j < 19 → ∀ k, k < 10 → aa2962 j k ≠ q3000 := fun j hj k hk e => hn3019 (e ▸ (hR2981.1 j hj k hk).1)
  have hRq3043 : ∀ j, j < 19 → ∀ k, k < 10 → aa2962 j k ≠ q3001 := fun j hj k hk e => hn3022 (e ▸ (hR2981.1 j hj k hk).1)
  have hRq3044 : ∀ j, j < 19 → ∀ k, k < 10 → aa2962 j k ≠ q3002 := fun j hj k hk e => hn3025 (e ▸ (hR2981.1 j hj k hk).1)
  have hRq3045 : ∀ j, j < 19 → ∀ k, k < 10 → aa2962 j k ≠ q3003 := fun j hj k hk e => hn3028 (e ▸ (hR2981.1 j hj k hk).1)
  have hR3046 : RINGP g L2 L2992 f2993 19 aa2962 := RINGP.tr hR2981 hRq2980 sb3034 (fun b hb hn => fr3033 b hb hn)
  have hfr3047 : ∀ b, b ∈ L → b ≠ ac → f2993 b = f b := fun b hb z0 => (fr3033 b (hsb2983 b hb) (fun e => hnq2984 (e ▸ hb))).trans (hfr2982 b hb z0)
  have hnq3049 : q2995 ∉ L := fun h => hn3004 (hsb2983 _ h)
  have hnq3050 : q2996 ∉ L := fun h => hn3007 (hsb2983 _ h)
  have hnq3051 : q2997 ∉ L := fun h => hn3010 (hsb2983 _ h)
  have hnq3052 : q2998 ∉ L := fun h => hn3013 (hsb2983 _ h)
  have hnq3053 : q2999 ∉ L := fun h => hn3016 (hsb2983 _ h)
  have hnq3054 : q3000 ∉ L := fun h => hn3019 (hsb2983 _ h)
  have hnq3055 : q3001 ∉ L := fun h => hn3022 (hsb2983 _ h)
  have hnq3056 : q3002 ∉ L := fun h => hn3025 (hsb2983 _ h)
  have hnq3057 : q3003 ∉ L := fun h => hn3028 (hsb2983 _ h)
  have hsb3048 : ∀ b, b ∈ L → b ∈ L2992 := fun b hb => sb3034 b (hsb2983 b hb)
  have hn3059 : ac ≠ q2995 := fun e => hn3004 (e ▸ hm2986)
  have hn3060 : ac ≠ q2996 := fun e => hn3007 (e ▸ hm2986)
  have hn3061 : ac ≠ q2997 := fun e => hn3010 (e ▸ hm2986)
  have hn3062 : ac ≠ q2998 := fun e => hn3013 (e ▸ hm2986)
  have hn3063 : ac ≠ q2999 := fun e => hn3016 (e ▸ hm2986)
  have hn3064 : ac ≠ q3000 := fun e => hn3019 (e ▸ hm2986)
  have hn3065 : ac ≠ q3001 := fun e => hn3022 (e ▸ hm2986)
  have hn3066 : ac ≠ q3002 := fun e => hn3025 (e ▸ hm2986)
  have hn3067 : ac ≠ q3003 := fun e => hn3028 (e ▸ hm2986)
  have hf3068 := (fr3033 ac hm2986 hn2987).trans hf2985
  have hm3058 := sb3034 _ hm2986
  have hn3070 : q1 ≠ q2995 := fun e => hn3004 (e ▸ hm2989)
  have hn3071 : q1 ≠ q2996 := fun e => hn3007 (e ▸ hm2989)
  have hn3072 : q1 ≠ q2997 := fun e => hn3010 (e ▸ hm2989)
  have hn3073 : q1 ≠ q2998 := fun e => hn3013 (e ▸ hm2989)
  have hn3074 : q1 ≠ q2999 := fun e => hn3016 (e ▸ hm2989)
  have hn3075 : q1 ≠ q3000 := fun e => hn3019 (e ▸ hm2989)
  have hn3076 : q1 ≠ q3001 := fun e => hn3022 (e ▸ hm2989)
  have hn3077 : q1 ≠ q3002 := fun e => hn3025 (e ▸ hm2989)
  have hn3078 : q1 ≠ q3003 := fun e => hn3028 (e ▸ hm2989)
  have hf3079 := (fr3033 q1 hm2989 hn2990).trans hf2988
  have hm3069 := sb3034 _ hm2989
  have hn3081 : q2968 ≠ q2995 := fun e => hn3004 (e ▸ hm2973)
  have hn3082 : q2968 ≠ q2996 := fun e => hn3007 (e ▸ hm2973)
  have hn3083 : q2968 ≠ q2997 := fun e => hn3010 (e ▸ hm2973)
  have hn3084 : q2968 ≠ q2998 := fun e => hn3013 (e ▸ hm2973)
  have hn3085 : q2968 ≠ q2999 := fun e => hn3016 (e ▸ hm2973)
  have hn3086 : q2968 ≠ q3000 := fun e => hn3019 (e ▸ hm2973)
  have hn3087 : q2968 ≠ q3001 := fun e => hn3022 (e ▸ hm2973)
  have hn3088 : q2968 ≠ q3002 := fun e => hn3025 (e ▸ hm2973)
  have hn3089 : q2968 ≠ q3003 := fun e => hn3028 (e ▸ hm2973)
  have hm3080 := sb3034 _ hm2973
  have hni3090 : q2995 ∉ L2 := fun h => hn3004 (hs02977 _ h)
  have hni3091 : q2996 ∉ L2 := fun h => hn3007 (hs02977 _ h)
  have hni3092 : q2997 ∉ L2 := fun h => hn3010 (hs02977 _ h)
  have hni3093 : q2998 ∉ L2 := fun h => hn3013 (hs02977 _ h)
  have hni3094 : q2999 ∉ L2 := fun h => hn3016 (hs02977 _ h)
  have hni3095 : q3000 ∉ L2 := fun h => hn3019 (hs02977 _ h)
  have hni3096 : q3001 ∉ L2 := fun h => hn3022 (hs02977 _ h)
  have hni3097 : q3002 ∉ L2 := fun h => hn3025 (hs02977 _ h)
  have hni3098 : q3003 ∉ L2 := fun h => hn3028 (hs02977 _ h)
  have hs03099 : ∀ b, b ∈ L2 → b ∈ L2992 := fun b hb => sb3034 b (hs02977 b hb)
  refine pl_astq hx hb hG.1 hP hD hS hm3069 4 3 hf3079 rfl hm3080 hf3031 rfl (by unfold vp_in; decide) dX0_init_33 (fun H locs f3100 r3103 er3103 hf3102 ho3101 hP hD hS => ?_)
  have hR3104 : RINGP g L2 L2992 f3100 19 aa2962 := RINGP.tr hR3046 (fun j hj k hk e => (hR3046.1 j hj k hk).2 (e ▸ hm6)) (fun b hb => hb) (fun b _ hb => ho3101 b hb)
  have hfr3105 : ∀ b, b ∈ L → b ≠ ac → f3100 b = f b := fun b hb z0 => (ho3101 b (fun e => hnq13 (e ▸ hb))).trans (hfr3047 b hb z0)
  have hf3106 := (ho3101 ac hn16).trans hf3068
  have hf3107 := (ho3101 q2968 hn2990.symm).trans hf3031
  have hf3108 := (ho3101 q2995 hn3070.symm).trans hf3006
  have hf3109 := (ho3101 q2996 hn3071.symm).trans hf3009
  have hf3110 := (ho3101 q2997 hn3072.symm).trans hf3012
  have hf3111 := (ho3101 q2998 hn3073.symm).trans hf3015
  have hf3112 := (ho3101 q2999 hn3074.symm).trans hf3018
  have hf3113 := (ho3101 q3000 hn3075.symm).trans hf3021
  have hf3114 := (ho3101 q3001 hn3076.symm).trans hf3024
  have hf3115 := (ho3101 q3002 hn3077.symm).trans hf3027
  have hf3116 := (ho3101 q3003 hn3078.symm).trans hf3030
  obtain ⟨aa3117, ea3118, eb3119, hR3120⟩ := RINGP.add (l := [q2995, q2996, q2997, q2998, q2999, q3000, q3001, q3002, q3003, q2968]) hR3104 rfl hN3035 (List.forall_mem_cons.mpr ⟨⟨hm3005, hni3090⟩, (List.forall_mem_cons.mpr ⟨⟨hm3008, hni3091⟩, (List.forall_mem_cons.mpr ⟨⟨hm3011, hni3092⟩, (List.forall_mem_cons.mpr ⟨⟨hm3014, hni3093⟩, (List.forall_mem_cons.mpr ⟨⟨hm3017, hni3094⟩, (List.forall_mem_cons.mpr ⟨⟨hm3020, hni3095⟩, (List.forall_mem_cons.mpr ⟨⟨hm3023, hni3096⟩, (List.forall_mem_cons.mpr ⟨⟨hm3026, hni3097⟩, (List.forall_mem_cons.mpr ⟨⟨hm3029, hni3098⟩, (List.forall_mem_cons.mpr ⟨⟨hm3080, hni2976⟩, (fun _ h => absurd h List.not_mem_nil)⟩)⟩)⟩)⟩)⟩)⟩)⟩)⟩)⟩)⟩) (List.forall_mem_cons.mpr ⟨hRq3037, (List.forall_mem_cons.mpr ⟨hRq3038, (List.forall_mem_cons.mpr ⟨hRq3039, (List.forall_mem_cons.mpr ⟨hRq3040, (List.forall_mem_cons.mpr ⟨hRq3041, (List.forall_mem_cons.mpr ⟨hRq3042, (List.forall_mem_cons.mpr ⟨hRq3043, (List.forall_mem_cons.mpr ⟨hRq3044, (List.forall_mem_cons.mpr ⟨hRq3045, (List.forall_mem_cons.mpr ⟨hRq2980, (fun _ h => absurd h List.not_mem_nil)⟩)⟩)⟩)⟩)⟩)⟩)⟩)⟩)⟩)⟩) (fun k hk => match k, hk with | 0, _ => hf3107 | 1, _ => hf3116 | 2, _ => hf3115 | 3, _ => hf3114 | 4, _ => hf3113 | 5, _ => hf3112 | 6, _ => hf3111 | 7, _ => hf3110 | 8, _ => hf3109 | 9, _ => hf3108 | k + 10, h => absurd h (by omega))
  have hrr3121 : ∀ j, j < 20 → r3103 j = some (aa3117 j 0) := rr_step hrr2966 er3103 (by decide) ea3118 (eb3119.symm ▸ rfl)
  refine lv_iinc (v := 20) (lv' := [(1, .int 20), (0, .ref ac)]) hx hb dX0_init_34 hl (k := 0) rfl (by decide) (by decide) rfl (fun ls hl => ?_)
  refine lv_goto (tgt := 15) hx hb dX0_init_37 (by decide) ?_
  refine lv_iload_n hx hb dX0_init_15 rfl (lv_at hl 0 rfl) ?_
  refine lv_bipush (v := 20) hx hb dX0_init_16 (by decide) ?_
  refine lv_icmp_ge (tgt := 40) hx hb dX0_init_18 (by decide) (fun c3122 => ?_) (fun c3122 => absurd (by decide) c3122)
  exact ret_v hx hb hr hlocks hP hD hS (Nat.le_of_ble_eq_true rfl) (Nat.le_of_ble_eq_true rfl) (⟨q1, r3103, aa3117, hnq13, hm3069, hf3102, hf3106, ⟨hN9, RINGP.sub hR3120 hsb12, fun j hj k hk e => (hR3120.1 j hj k hk).2 (e ▸ hm6), hrr3121⟩, hfr3105, hsb3048⟩) dX0_init_40

set_option maxHeartbeats 4000000 in
set_option maxRecDepth 100000 in
theorem k_X7_init (l : Launch) (g : GG) (L : List Nat) (f : HP) (sz : Nat) (se : Nat) (hm_se : se ∈ L) (hf_se : f se = .inr (7, [.null, .null, .null, .null, .null, .null, .int 0, .int 0, .int 0, .int 0, .int 0, .int 0, .int 0, .int 0])) : MtV l g yX7_init cX7_init 1 ({ frames := 2, cells := 6, slots := 288, locals := 32 }) [.ref se] L f sz (fun u => ∃ (s5 : Nat) (s4 : Nat) (s3 : Nat) (s2 : Nat) (s1 : Nat) (s0 : Nat), s5 ∉ L ∧ s5 ∈ u.1 ∧ u.2 s5 = .inl (g.2.1 1, 48, .inr (.inl (fun _ => 0))) ∧ s4 ∉ L ∧ s4 ∈ u.1 ∧ u.2 s4 = .inl (g.2.1 0, 108, .inl (fun _ => 0)) ∧ s3 ∉ L ∧ s3 ∈ u.1 ∧ u.2 s3 = .inl (g.2.1 0, 108, .inl (fun _ => 0)) ∧ s2 ∉ L ∧ s2 ∈ u.1 ∧ u.2 s2 = .inl (g.2.1 0, 7, .inl (fun _ => 0)) ∧ s1 ∉ L ∧ s1 ∈ u.1 ∧ u.2 s1 = .inl (g.2.1 0, 9, .inl (fun _ => 0)) ∧ s0 ∉ L ∧ s0 ∈ u.1 ∧ u.2 s0 = .inr (2, [.int 0, .int 0, .int 0, .int 0, .int 0, .int 0, .int 0, .int 0]) ∧ u.2 se = .inr (7, [.ref s0, .ref s1, .ref s2, .ref s3, .ref s4, .ref s5, .int 0, .int 0, .int 0, .int 0, .int 0, .int 0, .int 0, .int 0]) ∧ [s5, s4, s3, s2, s1, s0].Nodup ∧ (∀ b, b ∈ L → b ≠ se → u.2 b = f b) ∧ (∀ b, b ∈ L → b ∈ u.1)) := by
  refine MtV.of (by decide +kernel) (Nat.le_of_ble_eq_true rfl) ?_
  intro p e s m below meth c A hEn hP hD hS ls hl
  obtain ⟨hx, hb, hr, hml, hown, hlocks, hts, hG, hA, hE, hnm⟩ := hEn
  have hown : s.vm.findClass "RulerWord$Search" = some m.cls := hown
  have hl : lv_has ls 1 [(0, .ref se)] := hl
  have hfr0 : ∀ b, b ∈ L → b ≠ se → f b = f b := fun b hb z0 => rfl
  have hsb0 : ∀ b, b ∈ L → b ∈ L := fun b hb => hb
  refine lv_aload_n hx hb dX7_init_0 rfl (lv_at hl 0 rfl) ?_
  refine W.objInit hx hb hown (hts _ (mT wg_429)) (hts _ (mT wg_187)) (hts _ (mT wg_objInit)) rfl (by rw [hml]; exact hl.1) rfl dX7_init_1 (Nat.le_of_ble_eq_true rfl) (Nat.le_of_ble_eq_true rfl) ?_
  refine W.eq (g2 := F0 m 4 ls []) rfl ?_
  refine lv_aload_n hx hb dX7_init_4 rfl (lv_at hl 0 rfl) ?_
  refine pl_new (ci := 2) (fs := [.int 0, .int 0, .int 0, .int 0, .int 0, .int 0, .int 0, .int 0]) (C := RX2) (T := TX2) (N := 8) hx hb hts (fun w h => mT (inX2 w h)) tyX2 tyX2_ok hown (hts _ (mT wg_430)) (hts _ (mT wg_219)) (hts _ (mT wg_159)) hG.1 hP hD hS hA rfl dvX2 (Nat.le_of_ble_eq_true rfl) (Nat.le_of_ble_eq_true rfl) dX7_init_5 (fun q1 H L2 f3 hq4 hs5 hm6 hf7 ho8 hP hD hS => ?_)
  have hN9 : [q1].Nodup := List.nodup_cons.mpr ⟨fun h => hq4 (nil_in _ h), List.nodup_nil⟩
  have hNs10 : ∀ b, b ∈ [q1] → b ∈ L2 := List.forall_mem_cons.mpr ⟨hm6, fun b hb => hs5 b (nil_in b hb)⟩
  have hfr11 : ∀ b, b ∈ L → b ≠ se → f3 b = f b := fun b hb z0 => (ho8 b (hsb0 b hb)).trans (hfr0 b hb z0)
  have hnq13 : q1 ∉ L := fun h => hq4 (hsb0 _ h)
  have hsb12 : ∀ b, b ∈ L → b ∈ _ := fun b hb => hs5 b (hsb0 b hb)
  have hf14 := (ho8 se hm_se).trans hf_se
  have hn16 : se ≠ q1 := fun e => hq4 (e ▸ hm_se)
  have hm15 := hs5 _ hm_se
  refine lv_dup hx hb dX7_init_8 rfl ?_
  refine call_v (run_IN (rm := { frames := 1, cells := 0, slots := 0, locals := 12 }) hx hb hml hown hts (k_X2_init l g _ _ _ q1 hm6 hf7) cI_X2_init wn_431 ⟨Nat.le_of_ble_eq_true rfl, Nat.le_of_ble_eq_true rfl⟩ hG hE hA hP hD hS rfl hl.1 (As := []) (rest := [.ref q1, .ref se]) rfl (Nat.le_of_ble_eq_true rfl) dX7_init_9 ⟨Nat.le_of_ble_eq_true rfl, Nat.le_of_ble_eq_true rfl⟩) hA hD hS (fun L18 f19 H locs hp20 hP hD hS => ?_)
  obtain ⟨fr21, sb22⟩ := hp20
  have hNs23 : ∀ b, b ∈ [q1] → b ∈ L18 := fun b hb => sb22 b (hNs10 b hb)
  have hfr24 : ∀ b, b ∈ L → b ≠ se → f19 b = f b := fun b hb z0 => (fr21 b (hsb12 b hb) ).trans (hfr11 b hb z0)
  have hsb25 : ∀ b, b ∈ L → b ∈ L18 := fun b hb => sb22 b (hsb12 b hb)
  have hf27 := (fr21 se hm15 ).trans hf14
  have hm26 := sb22 _ hm15
  have hf29 := (fr21 q1 hm6 ).trans hf7
  have hm28 := sb22 _ hm6
  refine pl_putF (ty := (.object "RulerWord$Council")) (v := .ref q1) (fs' := [.ref q1, .null, .null, .null, .null, .null, .int 0, .int 0, .int 0, .int 0, .int 0, .int 0, .int 0, .int 0]) hx hb hts (fun w h => mT (inX7 w h)) tyX7 tyX7_ok nmX7 hown hG.1 hP hD hS hm26 hf27 rfl 0 (by decide) (hts _ (mT wg_432)) (fun _ h => h) rfl hnm rfl (by decide +kernel) (rfl) (rfl) (Nat.le_of_ble_eq_true rfl) rfl dX7_init_12 (fun H locs f30 hf32 ho31 hP hD hS => ?_)
  have hfr33 : ∀ b, b ∈ L → b ≠ se → f30 b = f b := fun b hb z0 => (ho31 b z0).trans (hfr24 b hb z0)
  have hf34 := (ho31 q1 hn16.symm).trans hf29
  refine lv_aload_n hx hb dX7_init_15 rfl (lv_at hl 0 rfl) ?_
  refine lv_bipush (v := 9) hx hb dX7_init_16 (by decide) ?_
  refine pl_newa (atype := .int) (ty := .int) (N' := 9) (a0 := (9, .inl (fun _ => 0))) hx hb (hts _ (mT wg_217)) rfl hG.1 hP hD hS hA 0 rfl (fun _ h => h) (fun _ => rfl) (by decide) (by decide) (Nat.le_of_ble_eq_true rfl) (Nat.le_of_ble_eq_true rfl) (Nat.le_of_ble_eq_true rfl) dX7_init_18 (fun q35 H L36 f37 hq38 hs39 hm40 hf41 ho42 hP hD hS => ?_)
  have hN43 : [q35, q1].Nodup := List.nodup_cons.mpr ⟨fun h => hq38 (hNs23 _ h), hN9⟩
  have hNs44 : ∀ b, b ∈ [q35, q1] → b ∈ L36 := List.forall_mem_cons.mpr ⟨hm40, fun b hb => hs39 b (hNs23 b hb)⟩
  have hfr45 : ∀ b, b ∈ L → b ≠ se → f37 b = f b := fun b hb z0 => (ho42 b (hsb25 b hb)).trans (hfr33 b hb z0)
  have hnq47 : q35 ∉ L := fun h => hq38 (hsb25 _ h)
  have hsb46 : ∀ b, b ∈ L → b ∈ _ := fun b hb => hs39 b (hsb25 b hb)
  have hf48 := (ho42 se hm26).trans hf32
  have hn50 : se ≠ q35 := fun e => hq38 (e ▸ hm26)
  have hm49 := hs39 _ hm26
  have hf51 := (ho42 q1 hm28).trans hf34
  have hn53 : q1 ≠ q35 := fun e => hq38 (e ▸ hm28)
  have hm52 := hs39 _ hm28
  refine pl_putF (ty := (.array .int)) (v := .ref q35) (fs' := [.ref q1, .ref q35, .null, .null, .null, .null, .int 0, .int 0, .int 0, .int 0, .int 0, .int 0, .int 0, .int 0]) hx hb hts (fun w h => mT (inX7 w h)) tyX7 tyX7_ok nmX7 hown hG.1 hP hD hS hm49 hf48 rfl 1 (by decide) (hts _ (mT wg_433)) (fun _ h => h) rfl hnm rfl (by decide +kernel) (rfl) (rfl) (Nat.le_of_ble_eq_true rfl) rfl dX7_init_20 (fun H locs f54 hf56 ho55 hP hD hS => ?_)
  have hfr57 : ∀ b, b ∈ L → b ≠ se → f54 b = f b := fun b hb z0 => (ho55 b z0).trans (hfr45 b hb z0)
  have hf58 := (ho55 q1 hn16.symm).trans hf51
  have hf59 := (ho55 q35 hn50.symm).trans hf41
  refine lv_aload_n hx hb dX7_init_23 rfl (lv_at hl 0 rfl) ?_
  refine lv_bipush (v := 7) hx hb dX7_init_24 (by decide) ?_
  refine pl_newa (atype := .int) (ty := .int) (N' := 7) (a0 := (7, .inl (fun _ => 0))) hx hb (hts _ (mT wg_217)) rfl hG.1 hP hD hS hA 0 rfl (fun _ h => h) (fun _ => rfl) (by decide) (by decide) (Nat.le_of_ble_eq_true rfl) (Nat.le_of_ble_eq_true rfl) (Nat.le_of_ble_eq_true rfl) dX7_init_26 (fun q60 H L61 f62 hq63 hs64 hm65 hf66 ho67 hP hD hS => ?_)
  have hN68 : [q60, q35, q1].Nodup := List.nodup_cons.mpr ⟨fun h => hq63 (hNs44 _ h), hN43⟩
  have hNs69 : ∀ b, b ∈ [q60, q35, q1] → b ∈ L61 := List.forall_mem_cons.mpr ⟨hm65, fun b hb => hs64 b (hNs44 b hb)⟩
  have hfr70 : ∀ b, b ∈ L → b ≠ se → f62 b = f b := fun b hb z0 => (ho67 b (hsb46 b hb)).trans (hfr57 b hb z0)
  have hnq72 : q60 ∉ L := fun h => hq63 (hsb46 _ h)
  have hsb71 : ∀ b, b ∈ L → b ∈ _ := fun b hb => hs64 b (hsb46 b hb)
  have hf73 := (ho67 se hm49).trans hf56
  have hn75 : se ≠ q60 := fun e => hq63 (e ▸ hm49)
  have hm74 := hs64 _ hm49
  have hf76 := (ho67 q1 hm52).trans hf58
  have hn78 : q1 ≠ q60 := fun e => hq63 (e ▸ hm52)
  have hm77 := hs64 _ hm52
  have hf79 := (ho67 q35 hm40).trans hf59
  have hn81 : q35 ≠ q60 := fun e => hq63 (e ▸ hm40)
  have hm80 := hs64 _ hm40
  refine pl_putF (ty := (.array .int)) (v := .ref q60) (fs' := [.ref q1, .ref q35, .ref q60, .null, .null, .null, .int 0, .int 0, .int 0, .int 0, .int 0, .int 0, .int 0, .int 0]) hx hb hts (fun w h => mT (inX7 w h)) tyX7 tyX7_ok nmX7 hown hG.1 hP hD hS hm74 hf73 rfl 2 (by decide) (hts _ (mT wg_434)) (fun _ h => h) rfl hnm rfl (by decide +kernel) (rfl) (rfl) (Nat.le_of_ble_eq_true rfl) rfl dX7_init_28 (fun H locs f82 hf84 ho83 hP hD hS => ?_)
  have hfr85 : ∀ b, b ∈ L → b ≠ se → f82 b = f b := fun b hb z0 => (ho83 b z0).trans (hfr70 b hb z0)
  have hf86 := (ho83 q1 hn16.symm).trans hf76
  have hf87 := (ho83 q35 hn50.symm).trans hf79
  have hf88 := (ho83 q60 hn75.symm).trans hf66
  refine lv_aload_n hx hb dX7_init_31 rfl (lv_at hl 0 rfl) ?_
  refine lv_bipush (v := 108) hx hb dX7_init_32 (by decide) ?_
  refine pl_newa (atype := .int) (ty := .int) (N' := 108) (a0 := (108, .inl (fun _ => 0))) hx hb (hts _ (mT wg_217)) rfl hG.1 hP hD hS hA 0 rfl (fun _ h => h) (fun _ => rfl) (by decide) (by decide) (Nat.le_of_ble_eq_true rfl) (Nat.le_of_ble_eq_true rfl) (Nat.le_of_ble_eq_true rfl) dX7_init_34 (fun q89 H L90 f91 hq92 hs93 hm94 hf95 ho96 hP hD hS => ?_)
  have hN97 : [q89, q60, q35, q1].Nodup := List.nodup_cons.mpr ⟨fun h => hq92 (hNs69 _ h), hN68⟩
  have hNs98 : ∀ b, b ∈ [q89, q60, q35, q1] → b ∈ L90 := List.forall_mem_cons.mpr ⟨hm94, fun b hb => hs93 b (hNs69 b hb)⟩
  have hfr99 : ∀ b, b ∈ L → b ≠ se → f91 b = f b := fun b hb z0 => (ho96 b (hsb71 b hb)).trans (hfr85 b hb z0)
  have hnq101 : q89 ∉ L := fun h => hq92 (hsb71 _ h)
  have hsb100 : ∀ b, b ∈ L → b ∈ _ := fun b hb => hs93 b (hsb71 b hb)
  have hf102 := (ho96 se hm74).trans hf84
  have hn104 : se ≠ q89 := fun e => hq92 (e ▸ hm74)
  have hm103 := hs93 _ hm74
  have hf105 := (ho96 q1 hm77).trans hf86
  have hn107 : q1 ≠ q89 := fun e => hq92 (e ▸ hm77)
  have hm106 := hs93 _ hm77
  have hf108 := (ho96 q35 hm80).trans hf87
  have hn110 : q35 ≠ q89 := fun e => hq92 (e ▸ hm80)
  have hm109 := hs93 _ hm80
  have hf111 := (ho96 q60 hm65).trans hf88
  have hn113 : q60 ≠ q89 := fun e => hq92 (e ▸ hm65)
  have hm112 := hs93 _ hm65
  refine pl_putF (ty := (.array .int)) (v := .ref q89) (fs' := [.ref q1, .ref q35, .ref q60, .ref q89, .null, .null, .int 0, .int 0, .int 0, .int 0, .int 0, .int 0, .int 0, .int 0]) hx hb hts (fun w h => mT (inX7 w h)) tyX7 tyX7_ok nmX7 hown hG.1 hP hD hS hm103 hf102 rfl 3 (by decide) (hts _ (mT wg_435)) (fun _ h => h) rfl hnm rfl (by decide +kernel) (rfl) (rfl) (Nat.le_of_ble_eq_true rfl) rfl dX7_init_36 (fun H locs f114 hf116 ho115 hP hD hS => ?_)
  have hfr117 : ∀ b, b ∈ L → b ≠ se → f114 b = f b := fun b hb z0 => (ho115 b z0).trans (hfr99 b hb z0)
  have hf118 := (ho115 q1 hn16.symm).trans hf105
  have hf119 := (ho115 q35 hn50.symm).trans hf108
  have hf120 := (ho115 q60 hn75.symm).trans hf111
  have hf121 := (ho115 q89 hn104.symm).trans hf95
  refine lv_aload_n hx hb dX7_init_39 rfl (lv_at hl 0 rfl) ?_
  refine lv_bipush (v := 108) hx hb dX7_init_40 (by decide) ?_
  refine pl_newa (atype := .int) (ty := .int) (N' := 108) (a0 := (108, .inl (fun _ => 0))) hx hb (hts _ (mT wg_217)) rfl hG.1 hP hD hS hA 0 rfl (fun _ h => h) (fun _ => rfl) (by decide) (by decide) (Nat.le_of_ble_eq_true rfl) (Nat.le_of_ble_eq_true rfl) (Nat.le_of_ble_eq_true rfl) dX7_init_42 (fun q122 H L123 f124 hq125 hs126 hm127 hf128 ho129 hP hD hS => ?_)
  have hN130 : [q122, q89, q60, q35, q1].Nodup := List.nodup_cons.mpr ⟨fun h => hq125 (hNs98 _ h), hN97⟩
  have hNs131 : ∀ b, b ∈ [q122, q89, q60, q35, q1] → b ∈ L123 := List.forall_mem_cons.mpr ⟨hm127, fun b hb => hs126 b (hNs98 b hb)⟩
  have hfr132 : ∀ b, b ∈ L → b ≠ se → f124 b = f b := fun b hb z0 => (ho129 b (hsb100 b hb)).trans (hfr117 b hb z0)
  have hnq134 : q122 ∉ L := fun h => hq125 (hsb100 _ h)
  have hsb133 : ∀ b, b ∈ L → b ∈ _ := fun b hb => hs126 b (hsb100 b hb)
  have hf135 := (ho129 se hm103).trans hf116
  have hn137 : se ≠ q122 := fun e => hq125 (e ▸ hm103)
  have hm136 := hs126 _ hm103
  have hf138 := (ho129 q1 hm106).trans hf118
  have hn140 : q1 ≠ q122 := fun e => hq125 (e ▸ hm106)
  have hm139 := hs126 _ hm106
  have hf141 := (ho129 q35 hm109).trans hf119
  have hn143 : q35 ≠ q122 := fun e => hq125 (e ▸ hm109)
  have hm142 := hs126 _ hm109
  have hf144 := (ho129 q60 hm112).trans hf120
  have hn146 : q60 ≠ q122 := fun e => hq125 (e ▸ hm112)
  have hm145 := hs126 _ hm112
  have hf147 := (ho129 q89 hm94).trans hf121
  have hn149 : q89 ≠ q122 := fun e => hq125 (e ▸ hm94)
  have hm148 := hs126 _ hm94
  refine pl_putF (ty := (.array .int)) (v := .ref q122) (fs' := [.ref q1, .ref q35, .ref q60, .ref q89, .ref q122, .null, .int 0, .int 0, .int 0, .int 0, .int 0, .int 0, .int 0, .int 0]) hx hb hts (fun w h => mT (inX7 w h)) tyX7 tyX7_ok nmX7 hown hG.1 hP hD hS hm136 hf135 rfl 4 (by decide) (hts _ (mT wg_436)) (fun _ h => h) rfl hnm rfl (by decide +kernel) (rfl) (rfl) (Nat.le_of_ble_eq_true rfl) rfl dX7_init_44 (fun H locs f150 hf152 ho151 hP hD hS => ?_)
  have hfr153 : ∀ b, b ∈ L → b ≠ se → f150 b = f b := fun b hb z0 => (ho151 b z0).trans (hfr132 b hb z0)
  have hf154 := (ho151 q1 hn16.symm).trans hf138
  have hf155 := (ho151 q35 hn50.symm).trans hf141
  have hf156 := (ho151 q60 hn75.symm).trans hf144
  have hf157 := (ho151 q89 hn104.symm).trans hf147
  have hf158 := (ho151 q122 hn137.symm).trans hf128
  refine lv_aload_n hx hb dX7_init_47 rfl (lv_at hl 0 rfl) ?_
  refine lv_bipush (v := 48) hx hb dX7_init_48 (by decide) ?_
  refine pl_newa (atype := .long) (ty := .long) (N' := 48) (a0 := (48, .inr (.inl (fun _ => 0)))) hx hb (hts _ (mT wg_403)) rfl hG.1 hP hD hS hA 1 rfl (fun _ h => h) (fun _ => rfl) (by decide) (by decide) (Nat.le_of_ble_eq_true rfl) (Nat.le_of_ble_eq_true rfl) (Nat.le_of_ble_eq_true rfl) dX7_init_50 (fun q159 H L160 f161 hq162 hs163 hm164 hf165 ho166 hP hD hS => ?_)
  have hN167 : [q159, q122, q89, q60, q35, q1].Nodup := List.nodup_cons.mpr ⟨fun h => hq162 (hNs131 _ h), hN130⟩
  have hNs168 : ∀ b, b ∈ [q159, q122, q89, q60, q35, q1] → b ∈ L160 := List.forall_mem_cons.mpr ⟨hm164, fun b hb => hs163 b (hNs131 b hb)⟩
  have hfr169 : ∀ b, b ∈ L → b ≠ se → f161 b = f b := fun b hb z0 => (ho166 b (hsb133 b hb)).trans (hfr153 b hb z0)
  have hnq171 : q159 ∉ L := fun h => hq162 (hsb133 _ h)
  have hsb170 : ∀ b, b ∈ L → b ∈ _ := fun b hb => hs163 b (hsb133 b hb)
  have hf172 := (ho166 se hm136).trans hf152
  have hn174 : se ≠ q159 := fun e => hq162 (e ▸ hm136)
  have hm173 := hs163 _ hm136
  have hf175 := (ho166 q1 hm139).trans hf154
  have hn177 : q1 ≠ q159 := fun e => hq162 (e ▸ hm139)
  have hm176 := hs163 _ hm139
  have hf178 := (ho166 q35 hm142).trans hf155
  have hn180 : q35 ≠ q159 := fun e => hq162 (e ▸ hm142)
  have hm179 := hs163 _ hm142
  have hf181 := (ho166 q60 hm145).trans hf156
  have hn183 : q60 ≠ q159 := fun e => hq162 (e ▸ hm145)
  have hm182 := hs163 _ hm145
  have hf184 := (ho166 q89 hm148).trans hf157
  have hn186 : q89 ≠ q159 := fun e => hq162 (e ▸ hm148)
  have hm185 := hs163 _ hm148
  have hf187 := (ho166 q122 hm127).trans hf158
  have hn189 : q122 ≠ q159 := fun e => hq162 (e ▸ hm127)
  have hm188 := hs163 _ hm127
  refine pl_putF (ty := (.array .long)) (v := .ref q159) (fs' := [.ref q1, .ref q35, .ref q60, .ref q89, .ref q122, .ref q159, .int 0, .int 0, .int 0, .int 0, .int 0, .int 0, .int 0, .int 0]) hx hb hts (fun w h => mT (inX7 w h)) tyX7 tyX7_ok nmX7 hown hG.1 hP hD hS hm173 hf172 rfl 5 (by decide) (hts _ (mT wg_437)) (fun _ h => h) rfl hnm rfl (by decide +kernel) (rfl) (rfl) (Nat.le_of_ble_eq_true rfl) rfl dX7_init_52 (fun H locs f190 hf192 ho191 hP hD hS => ?_)
  have hfr193 : ∀ b, b ∈ L → b ≠ se → f190 b = f b := fun b hb z0 => (ho191 b z0).trans (hfr169 b hb z0)
  have hf194 := (ho191 q1 hn16.symm).trans hf175
  have hf195 := (ho191 q35 hn50.symm).trans hf178
  have hf196 := (ho191 q60 hn75.symm).trans hf181
  have hf197 := (ho191 q89 hn104.symm).trans hf184
  have hf198 := (ho191 q122 hn137.symm).trans hf187
  have hf199 := (ho191 q159 hn174.symm).trans hf165
  exact ret_v hx hb hr hlocks hP hD hS (Nat.le_of_ble_eq_true rfl) (Nat.le_of_ble_eq_true rfl) (⟨q159, q122, q89, q60, q35, q1, hnq171, hm164, hf199, hnq134, hm188, hf198, hnq101, hm185, hf197, hnq72, hm182, hf196, hnq47, hm179, hf195, hnq13, hm176, hf194, hf192, hN167, hfr193, hsb170⟩) dX7_init_55
