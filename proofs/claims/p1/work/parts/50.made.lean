set_option maxHeartbeats 4000000 in
set_option maxRecDepth 100000 in
theorem k_X9_init (l : Launch) (g : GG) (L : List Nat) (f : HP) (sz : Nat) (a : Nat)  : MtV l g yX9_init cX9_init 1 ({ frames := 1, cells := 0, slots := 0, locals := 12 }) [.ref a] L f sz (fun u => (∀ b, b ∈ L → u.2 b = f b) ∧ (∀ b, b ∈ L → b ∈ u.1)) := by
  refine MtV.of (by decide +kernel) (Nat.le_of_ble_eq_true rfl) ?_
  intro p e s m below meth c A hEn hP hD hS ls hl
  obtain ⟨hx, hb, hr, hml, hown, hlocks, hts, hG, hA, hE, hnm⟩ := hEn
  have hown : s.vm.findClass "RulerWord$Voice" = some m.cls := hown
  have hl : lv_has ls 1 [(0, .ref a)] := hl
  have hfr0 : ∀ b, b ∈ L → f b = f b := fun b hb  => rfl
  have hsb0 : ∀ b, b ∈ L → b ∈ L := fun b hb => hb
  refine lv_aload_n hx hb dX9_init_0 rfl (lv_at hl 0 rfl) ?_
  refine W.objInit hx hb hown (hts _ (mT wg_285)) (hts _ (mT wg_187)) (hts _ (mT wg_objInit)) rfl (by rw [hml]; exact hl.1) rfl dX9_init_1 (Nat.le_of_ble_eq_true rfl) (Nat.le_of_ble_eq_true rfl) ?_
  refine W.eq (g2 := F0 m 4 ls []) rfl ?_
  exact ret_v hx hb hr hlocks hP hD hS (Nat.le_of_ble_eq_true rfl) (Nat.le_of_ble_eq_true rfl) (⟨hfr0, hsb0⟩) dX9_init_4

set_option maxHeartbeats 4000000 in
set_option maxRecDepth 100000 in
theorem k_X1_init (l : Launch) (g : GG) (L : List Nat) (f : HP) (sz : Nat) (ch : Nat) (hm_ch : ch ∈ L) (hf_ch : f ch = .inr (1, [.int 0, .int 0])) : MtV l g yX1_init cX1_init 1 ({ frames := 2, cells := 0, slots := 0, locals := 32 }) [.ref ch] L f sz (fun u => (∀ b, b ∈ L → u.2 b = f b) ∧ (∀ b, b ∈ L → b ∈ u.1)) := by
  refine MtV.of (by decide +kernel) (Nat.le_of_ble_eq_true rfl) ?_
  intro p e s m below meth c A hEn hP hD hS ls hl
  obtain ⟨hx, hb, hr, hml, hown, hlocks, hts, hG, hA, hE, hnm⟩ := hEn
  have hown : s.vm.findClass "RulerWord$Chance" = some m.cls := hown
  have hl : lv_has ls 1 [(0, .ref ch)] := hl
  have hfr0 : ∀ b, b ∈ L → f b = f b := fun b hb  => rfl
  have hsb0 : ∀ b, b ∈ L → b ∈ L := fun b hb => hb
  refine lv_aload_n hx hb dX1_init_0 rfl (lv_at hl 0 rfl) ?_
  refine call_v (run_IN (rm := { frames := 1, cells := 0, slots := 0, locals := 12 }) hx hb hml hown hts (k_X9_init l g _ _ _ ch) cI_X9_init wn_308 ⟨Nat.le_of_ble_eq_true rfl, Nat.le_of_ble_eq_true rfl⟩ hG hE hA hP hD hS rfl hl.1 (As := []) (rest := []) rfl (Nat.le_of_ble_eq_true rfl) dX1_init_1 ⟨Nat.le_of_ble_eq_true rfl, Nat.le_of_ble_eq_true rfl⟩) hA hD hS (fun L2 f3 H locs hp4 hP hD hS => ?_)
  obtain ⟨fr5, sb6⟩ := hp4
  have hfr7 : ∀ b, b ∈ L → f3 b = f b := fun b hb  => (fr5 b (hsb0 b hb) ).trans (hfr0 b hb )
  have hsb8 : ∀ b, b ∈ L → b ∈ L2 := fun b hb => sb6 b (hsb0 b hb)
  have hf10 := (fr5 ch hm_ch ).trans hf_ch
  have hm9 := sb6 _ hm_ch
  exact ret_v hx hb hr hlocks hP hD hS (Nat.le_of_ble_eq_true rfl) (Nat.le_of_ble_eq_true rfl) (⟨hfr7, hsb8⟩) dX1_init_4

set_option maxHeartbeats 4000000 in
set_option maxRecDepth 100000 in
theorem k_X4_init (l : Launch) (g : GG) (L : List Nat) (f : HP) (sz : Nat) (fr : Nat) (hm_fr : fr ∈ L) (hf_fr : f fr = .inr (4, [.int 0, .int 0, .int 0, .int 0])) : MtV l g yX4_init cX4_init 1 ({ frames := 2, cells := 0, slots := 0, locals := 32 }) [.ref fr] L f sz (fun u => (∀ b, b ∈ L → u.2 b = f b) ∧ (∀ b, b ∈ L → b ∈ u.1)) := by
  refine MtV.of (by decide +kernel) (Nat.le_of_ble_eq_true rfl) ?_
  intro p e s m below meth c A hEn hP hD hS ls hl
  obtain ⟨hx, hb, hr, hml, hown, hlocks, hts, hG, hA, hE, hnm⟩ := hEn
  have hown : s.vm.findClass "RulerWord$Free" = some m.cls := hown
  have hl : lv_has ls 1 [(0, .ref fr)] := hl
  have hfr0 : ∀ b, b ∈ L → f b = f b := fun b hb  => rfl
  have hsb0 : ∀ b, b ∈ L → b ∈ L := fun b hb => hb
  refine lv_aload_n hx hb dX4_init_0 rfl (lv_at hl 0 rfl) ?_
  refine call_v (run_IN (rm := { frames := 1, cells := 0, slots := 0, locals := 12 }) hx hb hml hown hts (k_X9_init l g _ _ _ fr) cI_X9_init wn_317 ⟨Nat.le_of_ble_eq_true rfl, Nat.le_of_ble_eq_true rfl⟩ hG hE hA hP hD hS rfl hl.1 (As := []) (rest := []) rfl (Nat.le_of_ble_eq_true rfl) dX4_init_1 ⟨Nat.le_of_ble_eq_true rfl, Nat.le_of_ble_eq_true rfl⟩) hA hD hS (fun L2 f3 H locs hp4 hP hD hS => ?_)
  obtain ⟨fr5, sb6⟩ := hp4
  have hfr7 : ∀ b, b ∈ L → f3 b = f b := fun b hb  => (fr5 b (hsb0 b hb) ).trans (hfr0 b hb )
  have hsb8 : ∀ b, b ∈ L → b ∈ L2 := fun b hb => sb6 b (hsb0 b hb)
  have hf10 := (fr5 fr hm_fr ).trans hf_fr
  have hm9 := sb6 _ hm_fr
  exact ret_v hx hb hr hlocks hP hD hS (Nat.le_of_ble_eq_true rfl) (Nat.le_of_ble_eq_true rfl) (⟨hfr7, hsb8⟩) dX4_init_4

set_option maxHeartbeats 4000000 in
set_option maxRecDepth 100000 in
theorem k_X2_init (l : Launch) (g : GG) (L : List Nat) (f : HP) (sz : Nat) (co : Nat) (hm_co : co ∈ L) (hf_co : f co = .inr (2, [.int 0, .int 0, .int 0, .int 0, .int 0, .int 0, .int 0, .int 0])) : MtV l g yX2_init cX2_init 1 ({ frames := 1, cells := 0, slots := 0, locals := 12 }) [.ref co] L f sz (fun u => (∀ b, b ∈ L → u.2 b = f b) ∧ (∀ b, b ∈ L → b ∈ u.1)) := by
  refine MtV.of (by decide +kernel) (Nat.le_of_ble_eq_true rfl) ?_
  intro p e s m below meth c A hEn hP hD hS ls hl
  obtain ⟨hx, hb, hr, hml, hown, hlocks, hts, hG, hA, hE, hnm⟩ := hEn
  have hown : s.vm.findClass "RulerWord$Council" = some m.cls := hown
  have hl : lv_has ls 1 [(0, .ref co)] := hl
  have hfr0 : ∀ b, b ∈ L → f b = f b := fun b hb  => rfl
  have hsb0 : ∀ b, b ∈ L → b ∈ L := fun b hb => hb
  refine lv_aload_n hx hb dX2_init_0 rfl (lv_at hl 0 rfl) ?_
  refine W.objInit hx hb hown (hts _ (mT wg_223)) (hts _ (mT wg_187)) (hts _ (mT wg_objInit)) rfl (by rw [hml]; exact hl.1) rfl dX2_init_1 (Nat.le_of_ble_eq_true rfl) (Nat.le_of_ble_eq_true rfl) ?_
  refine W.eq (g2 := F0 m 4 ls []) rfl ?_
  exact ret_v hx hb hr hlocks hP hD hS (Nat.le_of_ble_eq_true rfl) (Nat.le_of_ble_eq_true rfl) (⟨hfr0, hsb0⟩) dX2_init_4

set_option maxHeartbeats 4000000 in
set_option maxRecDepth 100000 in
theorem k_X8_init (l : Launch) (g : GG) (L : List Nat) (f : HP) (sz : Nat) (t : Nat) (hm_t : t ∈ L) (hf_t : f t = .inr (8, [.null, .int 0, .int 0, .int 0, .int 0])) : MtV l g yX8_init cX8_init 1 ({ frames := 1, cells := 1, slots := 520, locals := 12 }) [.ref t] L f sz (fun u => ∃ (tb : Nat), tb ∉ L ∧ tb ∈ u.1 ∧ u.2 tb = .inl (g.2.1 0, 520, .inl (fun _ => 0)) ∧ u.2 t = .inr (8, [.ref tb, .int 0, .int 0, .int 0, .int 0]) ∧ (∀ b, b ∈ L → b ≠ t → u.2 b = f b) ∧ (∀ b, b ∈ L → b ∈ u.1)) := by
  refine MtV.of (by decide +kernel) (Nat.le_of_ble_eq_true rfl) ?_
  intro p e s m below meth c A hEn hP hD hS ls hl
  obtain ⟨hx, hb, hr, hml, hown, hlocks, hts, hG, hA, hE, hnm⟩ := hEn
  have hown : s.vm.findClass "RulerWord$Tape" = some m.cls := hown
  have hl : lv_has ls 1 [(0, .ref t)] := hl
  have hfr0 : ∀ b, b ∈ L → b ≠ t → f b = f b := fun b hb z0 => rfl
  have hsb0 : ∀ b, b ∈ L → b ∈ L := fun b hb => hb
  refine lv_aload_n hx hb dX8_init_0 rfl (lv_at hl 0 rfl) ?_
  refine W.objInit hx hb hown (hts _ (mT wg_194)) (hts _ (mT wg_187)) (hts _ (mT wg_objInit)) rfl (by rw [hml]; exact hl.1) rfl dX8_init_1 (Nat.le_of_ble_eq_true rfl) (Nat.le_of_ble_eq_true rfl) ?_
  refine W.eq (g2 := F0 m 4 ls []) rfl ?_
  refine lv_aload_n hx hb dX8_init_4 rfl (lv_at hl 0 rfl) ?_
  refine lv_sipush (v := 520) hx hb dX8_init_5 (by decide) ?_
  refine pl_newa (atype := .int) (ty := .int) (N' := 520) (a0 := (520, .inl (fun _ => 0))) hx hb (hts _ (mT wg_217)) rfl hG.1 hP hD hS hA 0 rfl (fun _ h => h) (fun _ => rfl) (by decide) (by decide) (Nat.le_of_ble_eq_true rfl) (Nat.le_of_ble_eq_true rfl) (Nat.le_of_ble_eq_true rfl) dX8_init_8 (fun q1 H L2 f3 hq4 hs5 hm6 hf7 ho8 hP hD hS => ?_)
  have hfr9 : ∀ b, b ∈ L → b ≠ t → f3 b = f b := fun b hb z0 => (ho8 b (hsb0 b hb)).trans (hfr0 b hb z0)
  have hnq11 : q1 ∉ L := fun h => hq4 (hsb0 _ h)
  have hsb10 : ∀ b, b ∈ L → b ∈ _ := fun b hb => hs5 b (hsb0 b hb)
  have hf12 := (ho8 t hm_t).trans hf_t
  have hn14 : t ≠ q1 := fun e => hq4 (e ▸ hm_t)
  have hm13 := hs5 _ hm_t
  refine pl_putF (ty := (.array .int)) (v := .ref q1) (fs' := [.ref q1, .int 0, .int 0, .int 0, .int 0]) hx hb hts (fun w h => mT (inX8 w h)) tyX8 tyX8_ok nmX8 hown hG.1 hP hD hS hm13 hf12 rfl 0 (by decide) (hts _ (mT wg_195)) (fun _ h => h) rfl hnm rfl (by decide +kernel) (rfl) (rfl) (Nat.le_of_ble_eq_true rfl) rfl dX8_init_10 (fun H locs f15 hf17 ho16 hP hD hS => ?_)
  have hfr18 : ∀ b, b ∈ L → b ≠ t → f15 b = f b := fun b hb z0 => (ho16 b z0).trans (hfr9 b hb z0)
  have hf19 := (ho16 q1 hn14.symm).trans hf7
  exact ret_v hx hb hr hlocks hP hD hS (Nat.le_of_ble_eq_true rfl) (Nat.le_of_ble_eq_true rfl) (⟨q1, hnq11, hm6, hf19, hf17, hfr18, hsb10⟩) dX8_init_13

set_option maxHeartbeats 4000000 in
set_option maxRecDepth 100000 in
theorem k_X5_init (l : Launch) (g : GG) (L : List Nat) (f : HP) (sz : Nat) (pl : Nat) (hm_pl : pl ∈ L) (hf_pl : f pl = .inr (5, [.null, .int 0])) : MtV l g yX5_init cX5_init 1 ({ frames := 1, cells := 1, slots := 100, locals := 12 }) [.ref pl] L f sz (fun u => ∃ (pb : Nat), pb ∉ L ∧ pb ∈ u.1 ∧ u.2 pb = .inl (g.2.1 0, 100, .inl (fun _ => 0)) ∧ u.2 pl = .inr (5, [.ref pb, .int 0]) ∧ (∀ b, b ∈ L → b ≠ pl → u.2 b = f b) ∧ (∀ b, b ∈ L → b ∈ u.1)) := by
  refine MtV.of (by decide +kernel) (Nat.le_of_ble_eq_true rfl) ?_
  intro p e s m below meth c A hEn hP hD hS ls hl
  obtain ⟨hx, hb, hr, hml, hown, hlocks, hts, hG, hA, hE, hnm⟩ := hEn
  have hown : s.vm.findClass "RulerWord$Plan" = some m.cls := hown
  have hl : lv_has ls 1 [(0, .ref pl)] := hl
  have hfr0 : ∀ b, b ∈ L → b ≠ pl → f b = f b := fun b hb z0 => rfl
  have hsb0 : ∀ b, b ∈ L → b ∈ L := fun b hb => hb
  refine lv_aload_n hx hb dX5_init_0 rfl (lv_at hl 0 rfl) ?_
  refine W.objInit hx hb hown (hts _ (mT wg_268)) (hts _ (mT wg_187)) (hts _ (mT wg_objInit)) rfl (by rw [hml]; exact hl.1) rfl dX5_init_1 (Nat.le_of_ble_eq_true rfl) (Nat.le_of_ble_eq_true rfl) ?_
  refine W.eq (g2 := F0 m 4 ls []) rfl ?_
  refine lv_aload_n hx hb dX5_init_4 rfl (lv_at hl 0 rfl) ?_
  refine lv_bipush (v := 100) hx hb dX5_init_5 (by decide) ?_
  refine pl_newa (atype := .int) (ty := .int) (N' := 100) (a0 := (100, .inl (fun _ => 0))) hx hb (hts _ (mT wg_217)) rfl hG.1 hP hD hS hA 0 rfl (fun _ h => h) (fun _ => rfl) (by decide) (by decide) (Nat.le_of_ble_eq_true rfl) (Nat.le_of_ble_eq_true rfl) (Nat.le_of_ble_eq_true rfl) dX5_init_7 (fun q1 H L2 f3 hq4 hs5 hm6 hf7 ho8 hP hD hS => ?_)
  have hfr9 : ∀ b, b ∈ L → b ≠ pl → f3 b = f b := fun b hb z0 => (ho8 b (hsb0 b hb)).trans (hfr0 b hb z0)
  have hnq11 : q1 ∉ L := fun h => hq4 (hsb0 _ h)
  have hsb10 : ∀ b, b ∈ L → b ∈ _ := fun b hb => hs5 b (hsb0 b hb)
  have hf12 := (ho8 pl hm_pl).trans hf_pl
  have hn14 : pl ≠ q1 := fun e => hq4 (e ▸ hm_pl)
  have hm13 := hs5 _ hm_pl
  refine pl_putF (ty := (.array .int)) (v := .ref q1) (fs' := [.ref q1, .int 0]) hx hb hts (fun w h => mT (inX5 w h)) tyX5 tyX5_ok nmX5 hown hG.1 hP hD hS hm13 hf12 rfl 0 (by decide) (hts _ (mT wg_269)) (fun _ h => h) rfl hnm rfl (by decide +kernel) (rfl) (rfl) (Nat.le_of_ble_eq_true rfl) rfl dX5_init_9 (fun H locs f15 hf17 ho16 hP hD hS => ?_)
  have hfr18 : ∀ b, b ∈ L → b ≠ pl → f15 b = f b := fun b hb z0 => (ho16 b z0).trans (hfr9 b hb z0)
  have hf19 := (ho16 q1 hn14.symm).trans hf7
  exact ret_v hx hb hr hlocks hP hD hS (Nat.le_of_ble_eq_true rfl) (Nat.le_of_ble_eq_true rfl) (⟨q1, hnq11, hm6, hf19, hf17, hfr18, hsb10⟩) dX5_init_12

set_option maxHeartbeats 4000000 in
set_option maxRecDepth 100000 in
theorem k_X6_init (l : Launch) (g : GG) (L : List Nat) (f : HP) (sz : Nat) (pn : Nat) (hm_pn : pn ∈ L) (hf_pn : f pn = .inr (6, [.int 0, .int 0, .null])) : MtV l g yX6_init cX6_init 1 ({ frames := 2, cells := 2, slots := 102, locals := 32 }) [.ref pn] L f sz (fun u => ∃ (pl : Nat) (pb : Nat), pl ∉ L ∧ pl ∈ u.1 ∧ u.2 pl = .inr (5, [.ref pb, .int 0]) ∧ u.2 pn = .inr (6, [.int 0, .int 0, .ref pl]) ∧ (∀ b, b ∈ L → b ≠ pn → u.2 b = f b) ∧ (∀ b, b ∈ L → b ∈ u.1)) := by
  refine MtV.of (by decide +kernel) (Nat.le_of_ble_eq_true rfl) ?_
  intro p e s m below meth c A hEn hP hD hS ls hl
  obtain ⟨hx, hb, hr, hml, hown, hlocks, hts, hG, hA, hE, hnm⟩ := hEn
  have hown : s.vm.findClass "RulerWord$Planned" = some m.cls := hown
  have hl : lv_has ls 1 [(0, .ref pn)] := hl
  have hfr0 : ∀ b, b ∈ L → b ≠ pn → f b = f b := fun b hb z0 => rfl
  have hsb0 : ∀ b, b ∈ L → b ∈ L := fun b hb => hb
  refine lv_aload_n hx hb dX6_init_0 rfl (lv_at hl 0 rfl) ?_
  refine call_v (run_IN (rm := { frames := 1, cells := 0, slots := 0, locals := 12 }) hx hb hml hown hts (k_X9_init l g _ _ _ pn) cI_X9_init wn_282 ⟨Nat.le_of_ble_eq_true rfl, Nat.le_of_ble_eq_true rfl⟩ hG hE hA hP hD hS rfl hl.1 (As := []) (rest := []) rfl (Nat.le_of_ble_eq_true rfl) dX6_init_1 ⟨Nat.le_of_ble_eq_true rfl, Nat.le_of_ble_eq_true rfl⟩) hA hD hS (fun L2 f3 H locs hp4 hP hD hS => ?_)
  obtain ⟨fr5, sb6⟩ := hp4
  have hfr7 : ∀ b, b ∈ L → b ≠ pn → f3 b = f b := fun b hb z0 => (fr5 b (hsb0 b hb) ).trans (hfr0 b hb z0)
  have hsb8 : ∀ b, b ∈ L → b ∈ L2 := fun b hb => sb6 b (hsb0 b hb)
  have hf10 := (fr5 pn hm_pn ).trans hf_pn
  have hm9 := sb6 _ hm_pn
  refine lv_aload_n hx hb dX6_init_4 rfl (lv_at hl 0 rfl) ?_
  refine pl_new (ci := 5) (fs := [.null, .int 0]) (C := RX5) (T := TX5) (N := 2) hx hb hts (fun w h => mT (inX5 w h)) tyX5 tyX5_ok hown (hts _ (mT wg_286)) (hts _ (mT wg_264)) (hts _ (mT wg_160)) hG.1 hP hD hS hA rfl dvX5 (Nat.le_of_ble_eq_true rfl) (Nat.le_of_ble_eq_true rfl) dX6_init_5 (fun q11 H L12 f13 hq14 hs15 hm16 hf17 ho18 hP hD hS => ?_)
  have hfr19 : ∀ b, b ∈ L → b ≠ pn → f13 b = f b := fun b hb z0 => (ho18 b (hsb8 b hb)).trans (hfr7 b hb z0)
  have hnq21 : q11 ∉ L := fun h => hq14 (hsb8 _ h)
  have hsb20 : ∀ b, b ∈ L → b ∈ _ := fun b hb => hs15 b (hsb8 b hb)
  have hf22 := (ho18 pn hm9).trans hf10
  have hn24 : pn ≠ q11 := fun e => hq14 (e ▸ hm9)
  have hm23 := hs15 _ hm9
  refine lv_dup hx hb dX6_init_8 rfl ?_
  refine call_v (run_IN (rm := { frames := 1, cells := 1, slots := 100, locals := 12 }) hx hb hml hown hts (k_X5_init l g _ _ _ q11 hm16 hf17) cI_X5_init wn_287 ⟨Nat.le_of_ble_eq_true rfl, Nat.le_of_ble_eq_true rfl⟩ hG hE hA hP hD hS rfl hl.1 (As := []) (rest := [.ref q11, .ref pn]) rfl (Nat.le_of_ble_eq_true rfl) dX6_init_9 ⟨Nat.le_of_ble_eq_true rfl, Nat.le_of_ble_eq_true rfl⟩) hA hD hS (fun L26 f27 H locs hp28 hP hD hS => ?_)
  obtain ⟨q29, hn30, hm31, hf32, hf33, fr34, sb35⟩ := hp28
  have hfr36 : ∀ b, b ∈ L → b ≠ pn → f27 b = f b := fun b hb z0 => (fr34 b (hsb20 b hb) (fun e => hnq21 (e ▸ hb))).trans (hfr19 b hb z0)
  have hnq38 : q29 ∉ L := fun h => hn30 (hsb20 _ h)
  have hsb37 : ∀ b, b ∈ L → b ∈ L26 := fun b hb => sb35 b (hsb20 b hb)
  have hn40 : pn ≠ q29 := fun e => hn30 (e ▸ hm23)
  have hf41 := (fr34 pn hm23 hn24).trans hf22
  have hm39 := sb35 _ hm23
  have hn43 : q11 ≠ q29 := fun e => hn30 (e ▸ hm16)
  have hm42 := sb35 _ hm16
  refine pl_putF (ty := (.object "RulerWord$Plan")) (v := .ref q11) (fs' := [.int 0, .int 0, .ref q11]) hx hb hts (fun w h => mT (inX6 w h)) tyX6 tyX6_ok nmX6 hown hG.1 hP hD hS hm39 hf41 rfl 2 (by decide) (hts _ (mT wg_288)) (fun _ h => h) rfl hnm rfl (by decide +kernel) (rfl) (rfl) (Nat.le_of_ble_eq_true rfl) rfl dX6_init_12 (fun H locs f44 hf46 ho45 hP hD hS => ?_)
  have hfr47 : ∀ b, b ∈ L → b ≠ pn → f44 b = f b := fun b hb z0 => (ho45 b z0).trans (hfr36 b hb z0)
  have hf48 := (ho45 q11 hn24.symm).trans hf33
  have hf49 := (ho45 q29 hn40.symm).trans hf32
  exact ret_v hx hb hr hlocks hP hD hS (Nat.le_of_ble_eq_true rfl) (Nat.le_of_ble_eq_true rfl) (⟨q11, q29, hnq21, hm42, hf48, hf46, hfr47, hsb37⟩) dX6_init_15

set_option maxHeartbeats 4000000 in
set_option maxRecDepth 100000 in
theorem k_X3_init (l : Launch) (g : GG) (L : List Nat) (f : HP) (sz : Nat) (nw : Nat) (hm_nw : nw ∈ L) (hf_nw : f nw = .inr (3, [.int 0, .int 0, .int 0, .int 0, .int 0, .int 0, .int 0, .long 0, .long 0, .null, .null, .null, .null, .null, .null, .null, .null, .null])) : MtV l g yX3_init cX3_init 1 ({ frames := 1, cells := 9, slots := 258, locals := 12 }) [.ref nw] L f sz (fun u => ∃ (n0 : Nat) (n1 : Nat) (n2 : Nat) (n3 : Nat) (n4 : Nat) (n5 : Nat) (n6 : Nat) (n7 : Nat) (n8 : Nat), u.2 nw = .inr (3, [.int 0, .int 0, .int 0, .int 0, .int 0, .int 0, .int 0, .long 0, .long 0, .ref n0, .ref n1, .ref n2, .ref n3, .ref n4, .ref n5, .ref n6, .ref n7, .ref n8]) ∧ (∀ b, b ∈ L → b ≠ nw → u.2 b = f b) ∧ (∀ b, b ∈ L → b ∈ u.1)) := by
  refine MtV.of (by decide +kernel) (Nat.le_of_ble_eq_true rfl) ?_
  intro p e s m below meth c A hEn hP hD hS ls hl
  obtain ⟨hx, hb, hr, hml, hown, hlocks, hts, hG, hA, hE, hnm⟩ := hEn
  have hown : s.vm.findClass "RulerWord$Course" = some m.cls := hown
  have hl : lv_has ls 1 [(0, .ref nw)] := hl
  have hfr0 : ∀ b, b ∈ L → b ≠ nw → f b = f b := fun b hb z0 => rfl
  have hsb0 : ∀ b, b ∈ L → b ∈ L := fun b hb => hb
  refine lv_aload_n hx hb dX3_init_0 rfl (lv_at hl 0 rfl) ?_
  refine W.objInit hx hb hown (hts _ (mT wg_334)) (hts _ (mT wg_187)) (hts _ (mT wg_objInit)) rfl (by rw [hml]; exact hl.1) rfl dX3_init_1 (Nat.le_of_ble_eq_true rfl) (Nat.le_of_ble_eq_true rfl) ?_
  refine W.eq (g2 := F0 m 4 ls []) rfl ?_
  refine lv_aload_n hx hb dX3_init_4 rfl (lv_at hl 0 rfl) ?_
  refine lv_bipush (v := 30) hx hb dX3_init_5 (by decide) ?_
  refine pl_newa (atype := .int) (ty := .int) (N' := 30) (a0 := (30, .inl (fun _ => 0))) hx hb (hts _ (mT wg_217)) rfl hG.1 hP hD hS hA 0 rfl (fun _ h => h) (fun _ => rfl) (by decide) (by decide) (Nat.le_of_ble_eq_true rfl) (Nat.le_of_ble_eq_true rfl) (Nat.le_of_ble_eq_true rfl) dX3_init_7 (fun q1 H L2 f3 hq4 hs5 hm6 hf7 ho8 hP hD hS => ?_)
  have hfr9 : ∀ b, b ∈ L → b ≠ nw → f3 b = f b := fun b hb z0 => (ho8 b (hsb0 b hb)).trans (hfr0 b hb z0)
  have hnq11 : q1 ∉ L := fun h => hq4 (hsb0 _ h)
  have hsb10 : ∀ b, b ∈ L → b ∈ _ := fun b hb => hs5 b (hsb0 b hb)
  have hf12 := (ho8 nw hm_nw).trans hf_nw
  have hn14 : nw ≠ q1 := fun e => hq4 (e ▸ hm_nw)
  have hm13 := hs5 _ hm_nw
  refine pl_putF (ty := (.array .int)) (v := .ref q1) (fs' := [.int 0, .int 0, .int 0, .int 0, .int 0, .int 0, .int 0, .long 0, .long 0, .ref q1, .null, .null, .null, .null, .null, .null, .null, .null]) hx hb hts (fun w h => mT (inX3 w h)) tyX3 tyX3_ok nmX3 hown hG.1 hP hD hS hm13 hf12 rfl 9 (by decide) (hts _ (mT wg_352)) (fun _ h => h) rfl hnm rfl (by decide +kernel) (rfl) (rfl) (Nat.le_of_ble_eq_true rfl) rfl dX3_init_9 (fun H locs f15 hf17 ho16 hP hD hS => ?_)
  have hfr18 : ∀ b, b ∈ L → b ≠ nw → f15 b = f b := fun b hb z0 => (ho16 b z0).trans (hfr9 b hb z0)
  have hf19 := (ho16 q1 hn14.symm).trans hf7
  refine lv_aload_n hx hb dX3_init_12 rfl (lv_at hl 0 rfl) ?_
  refine lv_sipush (v := 162) hx hb dX3_init_13 (by decide) ?_
  refine pl_newa (atype := .long) (ty := .long) (N' := 162) (a0 := (162, .inr (.inl (fun _ => 0)))) hx hb (hts _ (mT wg_403)) rfl hG.1 hP hD hS hA 1 rfl (fun _ h => h) (fun _ => rfl) (by decide) (by decide) (Nat.le_of_ble_eq_true rfl) (Nat.le_of_ble_eq_true rfl) (Nat.le_of_ble_eq_true rfl) dX3_init_16 (fun q20 H L21 f22 hq23 hs24 hm25 hf26 ho27 hP hD hS => ?_)
  have hfr28 : ∀ b, b ∈ L → b ≠ nw → f22 b = f b := fun b hb z0 => (ho27 b (hsb10 b hb)).trans (hfr18 b hb z0)
  have hnq30 : q20 ∉ L := fun h => hq23 (hsb10 _ h)
  have hsb29 : ∀ b, b ∈ L → b ∈ _ := fun b hb => hs24 b (hsb10 b hb)
  have hf31 := (ho27 nw hm13).trans hf17
  have hn33 : nw ≠ q20 := fun e => hq23 (e ▸ hm13)
  have hm32 := hs24 _ hm13
  refine pl_putF (ty := (.array .long)) (v := .ref q20) (fs' := [.int 0, .int 0, .int 0, .int 0, .int 0, .int 0, .int 0, .long 0, .long 0, .ref q1, .ref q20, .null, .null, .null, .null, .null, .null, .null]) hx hb hts (fun w h => mT (inX3 w h)) tyX3 tyX3_ok nmX3 hown hG.1 hP hD hS hm32 hf31 rfl 10 (by decide) (hts _ (mT wg_353)) (fun _ h => h) rfl hnm rfl (by decide +kernel) (rfl) (rfl) (Nat.le_of_ble_eq_true rfl) rfl dX3_init_18 (fun H locs f34 hf36 ho35 hP hD hS => ?_)
  have hfr37 : ∀ b, b ∈ L → b ≠ nw → f34 b = f b := fun b hb z0 => (ho35 b z0).trans (hfr28 b hb z0)
  have hf38 := (ho35 q20 hn33.symm).trans hf26
  refine lv_aload_n hx hb dX3_init_21 rfl (lv_at hl 0 rfl) ?_
  refine lv_bipush (v := 18) hx hb dX3_init_22 (by decide) ?_
  refine pl_newa (atype := .long) (ty := .long) (N' := 18) (a0 := (18, .inr (.inl (fun _ => 0)))) hx hb (hts _ (mT wg_403)) rfl hG.1 hP hD hS hA 1 rfl (fun _ h => h) (fun _ => rfl) (by decide) (by decide) (Nat.le_of_ble_eq_true rfl) (Nat.le_of_ble_eq_true rfl) (Nat.le_of_ble_eq_true rfl) dX3_init_24 (fun q39 H L40 f41 hq42 hs43 hm44 hf45 ho46 hP hD hS => ?_)
  have hfr47 : ∀ b, b ∈ L → b ≠ nw → f41 b = f b := fun b hb z0 => (ho46 b (hsb29 b hb)).trans (hfr37 b hb z0)
  have hnq49 : q39 ∉ L := fun h => hq42 (hsb29 _ h)
  have hsb48 : ∀ b, b ∈ L → b ∈ _ := fun b hb => hs43 b (hsb29 b hb)
  have hf50 := (ho46 nw hm32).trans hf36
  have hn52 : nw ≠ q39 := fun e => hq42 (e ▸ hm32)
  have hm51 := hs43 _ hm32
  refine pl_putF (ty := (.array .long)) (v := .ref q39) (fs' := [.int 0, .int 0, .int 0, .int 0, .int 0, .int 0, .int 0, .long 0, .long 0, .ref q1, .ref q20, .ref q39, .null, .null, .null, .null, .null, .null]) hx hb hts (fun w h => mT (inX3 w h)) tyX3 tyX3_ok nmX3 hown hG.1 hP hD hS hm51 hf50 rfl 11 (by decide) (hts _ (mT wg_354)) (fun _ h => h) rfl hnm rfl (by decide +kernel) (rfl) (rfl) (Nat.le_of_ble_eq_true rfl) rfl dX3_init_26 (fun H locs f53 hf55 ho54 hP hD hS => ?_)
  have hfr56 : ∀ b, b ∈ L → b ≠ nw → f53 b = f b := fun b hb z0 => (ho54 b z0).trans (hfr47 b hb z0)
  have hf57 := (ho54 q39 hn52.symm).trans hf45
  refine lv_aload_n hx hb dX3_init_29 rfl (lv_at hl 0 rfl) ?_
  refine lv_bipush (v := 18) hx hb dX3_init_30 (by decide) ?_
  refine pl_newa (atype := .long) (ty := .long) (N' := 18) (a0 := (18, .inr (.inl (fun _ => 0)))) hx hb (hts _ (mT wg_403)) rfl hG.1 hP hD hS hA 1 rfl (fun _ h => h) (fun _ => rfl) (by decide) (by decide) (Nat.le_of_ble_eq_true rfl) (Nat.le_of_ble_eq_true rfl) (Nat.le_of_ble_eq_true rfl) dX3_init_32 (fun q58 H L59 f60 hq61 hs62 hm63 hf64 ho65 hP hD hS => ?_)
  have hfr66 : ∀ b, b ∈ L → b ≠ nw → f60 b = f b := fun b hb z0 => (ho65 b (hsb48 b hb)).trans (hfr56 b hb z0)
  have hnq68 : q58 ∉ L := fun h => hq61 (hsb48 _ h)
  have hsb67 : ∀ b, b ∈ L → b ∈ _ := fun b hb => hs62 b (hsb48 b hb)
  have hf69 := (ho65 nw hm51).trans hf55
  have hn71 : nw ≠ q58 := fun e => hq61 (e ▸ hm51)
  have hm70 := hs62 _ hm51
  refine pl_putF (ty := (.array .long)) (v := .ref q58) (fs' := [.int 0, .int 0, .int 0, .int 0, .int 0, .int 0, .int 0, .long 0, .long 0, .ref q1, .ref q20, .ref q39, .ref q58, .null, .null, .null, .null, .null]) hx hb hts (fun w h => mT (inX3 w h)) tyX3 tyX3_ok nmX3 hown hG.1 hP hD hS hm70 hf69 rfl 12 (by decide) (hts _ (mT wg_355)) (fun _ h => h) rfl hnm rfl (by decide +kernel) (rfl) (rfl) (Nat.le_of_ble_eq_true rfl) rfl dX3_init_34 (fun H locs f72 hf74 ho73 hP hD hS => ?_)
  have hfr75 : ∀ b, b ∈ L → b ≠ nw → f72 b = f b := fun b hb z0 => (ho73 b z0).trans (hfr66 b hb z0)
  have hf76 := (ho73 q58 hn71.symm).trans hf64
  refine lv_aload_n hx hb dX3_init_37 rfl (lv_at hl 0 rfl) ?_
  refine lv_bipush (v := 6) hx hb dX3_init_38 (by decide) ?_
  refine pl_newa (atype := .long) (ty := .long) (N' := 6) (a0 := (6, .inr (.inl (fun _ => 0)))) hx hb (hts _ (mT wg_403)) rfl hG.1 hP hD hS hA 1 rfl (fun _ h => h) (fun _ => rfl) (by decide) (by decide) (Nat.le_of_ble_eq_true rfl) (Nat.le_of_ble_eq_true rfl) (Nat.le_of_ble_eq_true rfl) dX3_init_40 (fun q77 H L78 f79 hq80 hs81 hm82 hf83 ho84 hP hD hS => ?_)
  have hfr85 : ∀ b, b ∈ L → b ≠ nw → f79 b = f b := fun b hb z0 => (ho84 b (hsb67 b hb)).trans (hfr75 b hb z0)
  have hnq87 : q77 ∉ L := fun h => hq80 (hsb67 _ h)
  have hsb86 : ∀ b, b ∈ L → b ∈ _ := fun b hb => hs81 b (hsb67 b hb)
  have hf88 := (ho84 nw hm70).trans hf74
  have hn90 : nw ≠ q77 := fun e => hq80 (e ▸ hm70)
  have hm89 := hs81 _ hm70
  refine pl_putF (ty := (.array .long)) (v := .ref q77) (fs' := [.int 0, .int 0, .int 0, .int 0, .int 0, .int 0, .int 0, .long 0, .long 0, .ref q1, .ref q20, .ref q39, .ref q58, .ref q77, .null, .null, .null, .null]) hx hb hts (fun w h => mT (inX3 w h)) tyX3 tyX3_ok nmX3 hown hG.1 hP hD hS hm89 hf88 rfl 13 (by decide) (hts _ (mT wg_356)) (fun _ h => h) rfl hnm rfl (by decide +kernel) (rfl) (rfl) (Nat.le_of_ble_eq_true rfl) rfl dX3_init_42 (fun H locs f91 hf93 ho92 hP hD hS => ?_)
  have hfr94 : ∀ b, b ∈ L → b ≠ nw → f91 b = f b := fun b hb z0 => (ho92 b z0).trans (hfr85 b hb z0)
  have hf95 := (ho92 q77 hn90.symm).trans hf83
  refine lv_aload_n hx hb dX3_init_45 rfl (lv_at hl 0 rfl) ?_
  refine lv_bipush (v := 6) hx hb dX3_init_46 (by decide) ?_
  refine pl_newa (atype := .int) (ty := .int) (N' := 6) (a0 := (6, .inl (fun _ => 0))) hx hb (hts _ (mT wg_217)) rfl hG.1 hP hD hS hA 0 rfl (fun _ h => h) (fun _ => rfl) (by decide) (by decide) (Nat.le_of_ble_eq_true rfl) (Nat.le_of_ble_eq_true rfl) (Nat.le_of_ble_eq_true rfl) dX3_init_48 (fun q96 H L97 f98 hq99 hs100 hm101 hf102 ho103 hP hD hS => ?_)
  have hfr104 : ∀ b, b ∈ L → b ≠ nw → f98 b = f b := fun b hb z0 => (ho103 b (hsb86 b hb)).trans (hfr94 b hb z0)
  have hnq106 : q96 ∉ L := fun h => hq99 (hsb86 _ h)
  have hsb105 : ∀ b, b ∈ L → b ∈ _ := fun b hb => hs100 b (hsb86 b hb)
  have hf107 := (ho103 nw hm89).trans hf93
  have hn109 : nw ≠ q96 := fun e => hq99 (e ▸ hm89)
  have hm108 := hs100 _ hm89
  refine pl_putF (ty := (.array .int)) (v := .ref q96) (fs' := [.int 0, .int 0, .int 0, .int 0, .int 0, .int 0, .int 0, .long 0, .long 0, .ref q1, .ref q20, .ref q39, .ref q58, .ref q77, .ref q96, .null, .null, .null]) hx hb hts (fun w h => mT (inX3 w h)) tyX3 tyX3_ok nmX3 hown hG.1 hP hD hS hm108 hf107 rfl 14 (by decide) (hts _ (mT wg_358)) (fun _ h => h) rfl hnm rfl (by decide +kernel) (rfl) (rfl) (Nat.le_of_ble_eq_true rfl) rfl dX3_init_50 (fun H locs f110 hf112 ho111 hP hD hS => ?_)
  have hfr113 : ∀ b, b ∈ L → b ≠ nw → f110 b = f b := fun b hb z0 => (ho111 b z0).trans (hfr104 b hb z0)
  have hf114 := (ho111 q96 hn109.symm).trans hf102
  refine lv_aload_n hx hb dX3_init_53 rfl (lv_at hl 0 rfl) ?_
  refine lv_bipush (v := 6) hx hb dX3_init_54 (by decide) ?_
  refine pl_newa (atype := .int) (ty := .int) (N' := 6) (a0 := (6, .inl (fun _ => 0))) hx hb (hts _ (mT wg_217)) rfl hG.1 hP hD hS hA 0 rfl (fun _ h => h) (fun _ => rfl) (by decide) (by decide) (Nat.le_of_ble_eq_true rfl) (Nat.le_of_ble_eq_true rfl) (Nat.le_of_ble_eq_true rfl) dX3_init_56 (fun q115 H L116 f117 hq118 hs119 hm120 hf121 ho122 hP hD hS => ?_)
  have hfr123 : ∀ b, b ∈ L → b ≠ nw → f117 b = f b := fun b hb z0 => (ho122 b (hsb105 b hb)).trans (hfr113 b hb z0)
  have hnq125 : q115 ∉ L := fun h => hq118 (hsb105 _ h)
  have hsb124 : ∀ b, b ∈ L → b ∈ _ := fun b hb => hs119 b (hsb105 b hb)
  have hf126 := (ho122 nw hm108).trans hf112
  have hn128 : nw ≠ q115 := fun e => hq118 (e ▸ hm108)
  have hm127 := hs119 _ hm108
  refine pl_putF (ty := (.array .int)) (v := .ref q115) (fs' := [.int 0, .int 0, .int 0, .int 0, .int 0, .int 0, .int 0, .long 0, .long 0, .ref q1, .ref q20, .ref q39, .ref q58, .ref q77, .ref q96, .ref q115, .null, .null]) hx hb hts (fun w h => mT (inX3 w h)) tyX3 tyX3_ok nmX3 hown hG.1 hP hD hS hm127 hf126 rfl 15 (by decide) (hts _ (mT wg_360)) (fun _ h => h) rfl hnm rfl (by decide +kernel) (rfl) (rfl) (Nat.le_of_ble_eq_true rfl) rfl dX3_init_58 (fun H locs f129 hf131 ho130 hP hD hS => ?_)
  have hfr132 : ∀ b, b ∈ L → b ≠ nw → f129 b = f b := fun b hb z0 => (ho130 b z0).trans (hfr123 b hb z0)
  have hf133 := (ho130 q115 hn128.symm).trans hf121
  refine lv_aload_n hx hb dX3_init_61 rfl (lv_at hl 0 rfl) ?_
  refine lv_bipush (v := 6) hx hb dX3_init_62 (by decide) ?_
  refine pl_newa (atype := .int) (ty := .int) (N' := 6) (a0 := (6, .inl (fun _ => 0))) hx hb (hts _ (mT wg_217)) rfl hG.1 hP hD hS hA 0 rfl (fun _ h => h) (fun _ => rfl) (by decide) (by decide) (Nat.le_of_ble_eq_true rfl) (Nat.le_of_ble_eq_true rfl) (Nat.le_of_ble_eq_true rfl) dX3_init_64 (fun q134 H L135 f136 hq137 hs138 hm139 hf140 ho141 hP hD hS => ?_)
  have hfr142 : ∀ b, b ∈ L → b ≠ nw → f136 b = f b := fun b hb z0 => (ho141 b (hsb124 b hb)).trans (hfr132 b hb z0)
  have hnq144 : q134 ∉ L := fun h => hq137 (hsb124 _ h)
  have hsb143 : ∀ b, b ∈ L → b ∈ _ := fun b hb => hs138 b (hsb124 b hb)
  have hf145 := (ho141 nw hm127).trans hf131
  have hn147 : nw ≠ q134 := fun e => hq137 (e ▸ hm127)
  have hm146 := hs138 _ hm127
  refine pl_putF (ty := (.array .int)) (v := .ref q134) (fs' := [.int 0, .int 0, .int 0, .int 0, .int 0, .int 0, .int 0, .long 0, .long 0, .ref q1, .ref q20, .ref q39, .ref q58, .ref q77, .ref q96, .ref q115, .ref q134, .null]) hx hb hts (fun w h => mT (inX3 w h)) tyX3 tyX3_ok nmX3 hown hG.1 hP hD hS hm146 hf145 rfl 16 (by decide) (hts _ (mT wg_362)) (fun _ h => h) rfl hnm rfl (by decide +kernel) (rfl) (rfl) (Nat.le_of_ble_eq_true rfl) rfl dX3_init_66 (fun H locs f148 hf150 ho149 hP hD hS => ?_)
  have hfr151 : ∀ b, b ∈ L → b ≠ nw → f148 b = f b := fun b hb z0 => (ho149 b z0).trans (hfr142 b hb z0)
  have hf152 := (ho149 q134 hn147.symm).trans hf140
  refine lv_aload_n hx hb dX3_init_69 rfl (lv_at hl 0 rfl) ?_
  refine lv_bipush (v := 6) hx hb dX3_init_70 (by decide) ?_
  refine pl_newa (atype := .int) (ty := .int) (N' := 6) (a0 := (6, .inl (fun _ => 0))) hx hb (hts _ (mT wg_217)) rfl hG.1 hP hD hS hA 0 rfl (fun _ h => h) (fun _ => rfl) (by decide) (by decide) (Nat.le_of_ble_eq_true rfl) (Nat.le_of_ble_eq_true rfl) (Nat.le_of_ble_eq_true rfl) dX3_init_72 (fun q153 H L154 f155 hq156 hs157 hm158 hf159 ho160 hP hD hS => ?_)
  have hfr161 : ∀ b, b ∈ L → b ≠ nw → f155 b = f b := fun b hb z0 => (ho160 b (hsb143 b hb)).trans (hfr151 b hb z0)
  have hnq163 : q153 ∉ L := fun h => hq156 (hsb143 _ h)
  have hsb162 : ∀ b, b ∈ L → b ∈ _ := fun b hb => hs157 b (hsb143 b hb)
  have hf164 := (ho160 nw hm146).trans hf150
  have hn166 : nw ≠ q153 := fun e => hq156 (e ▸ hm146)
  have hm165 := hs157 _ hm146
  refine pl_putF (ty := (.array .int)) (v := .ref q153) (fs' := [.int 0, .int 0, .int 0, .int 0, .int 0, .int 0, .int 0, .long 0, .long 0, .ref q1, .ref q20, .ref q39, .ref q58, .ref q77, .ref q96, .ref q115, .ref q134, .ref q153]) hx hb hts (fun w h => mT (inX3 w h)) tyX3 tyX3_ok nmX3 hown hG.1 hP hD hS hm165 hf164 rfl 17 (by decide) (hts _ (mT wg_364)) (fun _ h => h) rfl hnm rfl (by decide +kernel) (rfl) (rfl) (Nat.le_of_ble_eq_true rfl) rfl dX3_init_74 (fun H locs f167 hf169 ho168 hP hD hS => ?_)
  have hfr170 : ∀ b, b ∈ L → b ≠ nw → f167 b = f b := fun b hb z0 => (ho168 b z0).trans (hfr161 b hb z0)
  have hf171 := (ho168 q153 hn166.symm).trans hf159
  exact ret_v hx hb hr hlocks hP hD hS (Nat.le_of_ble_eq_true rfl) (Nat.le_of_ble_eq_true rfl) (⟨q1, q20, q39, q58, q77, q96, q115, q134, q153, hf169, hfr170, hsb162⟩) dX3_init_77

set_option maxHeartbeats 4000000 in
set_option maxRecDepth 100000 in
theorem k_X0_init (l : Launch) (g : GG) (L : List Nat) (f : HP) (sz : Nat) (ac : Nat) (hm_ac : ac ∈ L) (hf_ac : f ac = .inr (0, [.null, .int 0, .int 0])) : MtV l g yX0_init cX0_init 2 ({ frames := 2, cells := 201, slots := 5540, locals := 32 }) [.ref ac] L f sz (fun u => ∃ (ah : Nat), u.2 ac = .inr (0, [.ref ah, .int 0, .int 0]) ∧ (∀ b, b ∈ L → b ≠ ac → u.2 b = f b) ∧ (∀ b, b ∈ L → b ∈ u.1)) := by
  refine MtV.of (by decide +kernel) (Nat.le_of_ble_eq_true rfl) ?_
  intro p e s m below meth c A hEn hP hD hS ls hl
  obtain ⟨hx, hb, hr, hml, hown, hlocks, hts, hG, hA, hE, hnm⟩ := hEn
  have hown : s.vm.findClass "RulerWord$Acts" = some m.cls := hown
  have hl : lv_has ls 2 [(0, .ref ac)] := hl
  have hfr0 : ∀ b, b ∈ L → b ≠ ac → f b = f b := fun b hb z0 => rfl
  have hsb0 : ∀ b, b ∈ L → b ∈ L := fun b hb => hb
  refine lv_aload_n hx hb dX0_init_0 rfl (lv_at hl 0 rfl) ?_
  refine W.objInit hx hb hown (hts _ (mT wg_409)) (hts _ (mT wg_187)) (hts _ (mT wg_objInit)) rfl (by rw [hml]; exact hl.1) rfl dX0_init_1 (Nat.le_of_ble_eq_true rfl) (Nat.le_of_ble_eq_true rfl) ?_
  refine W.eq (g2 := F0 m 4 ls []) rfl ?_
  refine lv_aload_n hx hb dX0_init_4 rfl (lv_at hl 0 rfl) ?_
  refine lv_bipush (v := 20) hx hb dX0_init_5 (by decide) ?_
  refine pl_newq (N' := 20) hx hb hown (hts _ (mT wg_410)) hG.2.2.2 hG.1 hP hD hS hA 4 rfl (by decide) (by decide) (Nat.le_of_ble_eq_true rfl) (Nat.le_of_ble_eq_true rfl) (Nat.le_of_ble_eq_true rfl) dX0_init_7 (fun q1 H L2 f3 hq4 hs5 hm6 hf7 ho8 hP hD hS => ?_)
  have hfr9 : ∀ b, b ∈ L → b ≠ ac → f3 b = f b := fun b hb z0 => (ho8 b (hsb0 b hb)).trans (hfr0 b hb z0)
  have hnq11 : q1 ∉ L := fun h => hq4 (hsb0 _ h)
  have hsb10 : ∀ b, b ∈ L → b ∈ _ := fun b hb => hs5 b (hsb0 b hb)
  have hf12 := (ho8 ac hm_ac).trans hf_ac
  have hn14 : ac ≠ q1 := fun e => hq4 (e ▸ hm_ac)
  have hm13 := hs5 _ hm_ac
  refine pl_putF (ty := (.array (.object "RulerWord$Course"))) (v := .ref q1) (fs' := [.ref q1, .int 0, .int 0]) hx hb hts (fun w h => mT (inX0 w h)) tyX0 tyX0_ok nmX0 hown hG.1 hP hD hS hm13 hf12 rfl 0 (by decide) (hts _ (mT wg_413)) (fun _ h => h) rfl hnm rfl (by decide +kernel) (rfl) (rfl) (Nat.le_of_ble_eq_true rfl) rfl dX0_init_10 (fun H locs f15 hf17 ho16 hP hD hS => ?_)
  have hfr18 : ∀ b, b ∈ L → b ≠ ac → f15 b = f b := fun b hb z0 => (ho16 b z0).trans (hfr9 b hb z0)
  have hf19 := (ho16 q1 hn14.symm).trans hf7
  refine lv_iconst (v := 0) hx hb dX0_init_13 (by decide) ?_
  refine lv_istore_n (lv' := [(1, .int 0), (0, .ref ac)]) hx hb dX0_init_14 rfl hl (by decide) rfl (fun ls hl => ?_)
  refine lv_iload_n hx hb dX0_init_15 rfl (lv_at hl 0 rfl) ?_
  refine lv_bipush (v := 20) hx hb dX0_init_16 (by decide) ?_
  refine lv_icmp_ge (tgt := 40) hx hb dX0_init_18 (by decide) (fun c20 => absurd c20 (by decide)) (fun c20 => ?_)
  refine lv_aload_n hx hb dX0_init_21 rfl (lv_at hl 1 rfl) ?_
  refine pl_get (v := .ref q1) hx hb hts (fun w h => mT (inX0 w h)) hown hG.1 hP hm13 hf17 rfl 0 (by decide) (hts _ (mT wg_413)) (fun _ h => h) rfl dX0_init_22 ?_
  refine lv_iload_n hx hb dX0_init_25 rfl (lv_at hl 0 rfl) ?_
  refine pl_new (ci := 3) (fs := [.int 0, .int 0, .int 0, .int 0, .int 0, .int 0, .int 0, .long 0, .long 0, .null, .null, .null, .null, .null, .null, .null, .null, .null]) (C := RX3) (T := TX3) (N := 18) hx hb hts (fun w h => mT (inX3 w h)) tyX3 tyX3_ok hown (hts _ (mT wg_410)) (hts _ (mT wg_330)) (hts _ (mT wg_165)) hG.1 hP hD hS hA rfl dvX3 (Nat.le_of_ble_eq_true rfl) (Nat.le_of_ble_eq_true rfl) dX0_init_26 (fun q21 H L22 f23 hq24 hs25 hm26 hf27 ho28 hP hD hS => ?_)
  have hfr29 : ∀ b, b ∈ L → b ≠ ac → f23 b = f b := fun b hb z0 => (ho28 b (hsb10 b hb)).trans (hfr18 b hb z0)
  have hnq31 : q21 ∉ L := fun h => hq24 (hsb10 _ h)
  have hsb30 : ∀ b, b ∈ L → b ∈ _ := fun b hb => hs25 b (hsb10 b hb)
  have hf32 := (ho28 ac hm13).trans hf17
  have hn34 : ac ≠ q21 := fun e => hq24 (e ▸ hm13)
  have hm33 := hs25 _ hm13
  have hf35 := (ho28 q1 hm6).trans hf19
  have hn37 : q1 ≠ q21 := fun e => hq24 (e ▸ hm6)
  have hm36 := hs25 _ hm6
  refine lv_dup hx hb dX0_init_29 rfl ?_
  refine call_v (run_IN (rm := { frames := 1, cells := 9, slots := 258, locals := 12 }) hx hb hml hown hts (k_X3_init l g _ _ _ q21 hm26 hf27) cI_X3_init wn_412 ⟨Nat.le_of_ble_eq_true rfl, Nat.le_of_ble_eq_true rfl⟩ hG hE hA hP hD hS rfl hl.1 (As := []) (rest := [.ref q21, .int 0, .ref q1]) rfl (Nat.le_of_ble_eq_true rfl) dX0_init_30 ⟨Nat.le_of_ble_eq_true rfl, Nat.le_of_ble_eq_true rfl⟩) hA hD hS (fun L39 f40 H locs hp41 hP hD hS => ?_)
  obtain ⟨q42, q43, q44, q45, q46, q47, q48, q49, q50, hf51, fr52, sb53⟩ := hp41
  have hfr54 : ∀ b, b ∈ L → b ≠ ac → f40 b = f b := fun b hb z0 => (fr52 b (hsb30 b hb) (fun e => hnq31 (e ▸ hb))).trans (hfr29 b hb z0)
  have hsb55 : ∀ b, b ∈ L → b ∈ L39 := fun b hb => sb53 b (hsb30 b hb)
  have hf57 := (fr52 ac hm33 hn34).trans hf32
  have hm56 := sb53 _ hm33
  have hf59 := (fr52 q1 hm36 hn37).trans hf35
  have hm58 := sb53 _ hm36
  have hm60 := sb53 _ hm26
  refine pl_astq hx hb hG.1 hP hD hS hm58 4 3 hf59 rfl hm60 hf51 rfl (by unfold vp_in; decide) dX0_init_33 (fun H locs f61 r64 er64 hf63 ho62 hP hD hS => ?_)
  have hfr65 : ∀ b, b ∈ L → b ≠ ac → f61 b = f b := fun b hb z0 => (ho62 b (fun e => hnq11 (e ▸ hb))).trans (hfr54 b hb z0)
  have hf66 := (ho62 ac hn14).trans hf57
  have hf67 := (ho62 q21 hn37.symm).trans hf51
  refine lv_iinc (v := 1) (lv' := [(1, .int 1), (0, .ref ac)]) hx hb dX0_init_34 hl (k := 0) rfl (by decide) (by decide) rfl (fun ls hl => ?_)
  refine lv_goto (tgt := 15) hx hb dX0_init_37 (by decide) ?_
  refine lv_iload_n hx hb dX0_init_15 rfl (lv_at hl 0 rfl) ?_
  refine lv_bipush (v := 20) hx hb dX0_init_16 (by decide) ?_
  refine lv_icmp_ge (tgt := 40) hx hb dX0_init_18 (by decide) (fun c68 => absurd c68 (by decide)) (fun c68 => ?_)
  refine lv_aload_n hx hb dX0_init_21 rfl (lv_at hl 1 rfl) ?_
  refine pl_get (v := .ref q1) hx hb hts (fun w h => mT (inX0 w h)) hown hG.1 hP hm56 hf66 rfl 0 (by decide) (hts _ (mT wg_413)) (fun _ h => h) rfl dX0_init_22 ?_
  refine lv_iload_n hx hb dX0_init_25 rfl (lv_at hl 0 rfl) ?_
  refine pl_new (ci := 3) (fs := [.int 0, .int 0, .int 0, .int 0, .int 0, .int 0, .int 0, .long 0, .long 0, .null, .null, .null, .null, .null, .null, .null, .null, .null]) (C := RX3) (T := TX3) (N := 18) hx hb hts (fun w h => mT (inX3 w h)) tyX3 tyX3_ok hown (hts _ (mT wg_410)) (hts _ (mT wg_330)) (hts _ (mT wg_165)) hG.1 hP hD hS hA rfl dvX3 (Nat.le_of_ble_eq_true rfl) (Nat.le_of_ble_eq_true rfl) dX0_init_26 (fun q69 H L70 f71 hq72 hs73 hm74 hf75 ho76 hP hD hS => ?_)
  have hfr77 : ∀ b, b ∈ L → b ≠ ac → f71 b = f b := fun b hb z0 => (ho76 b (hsb55 b hb)).trans (hfr65 b hb z0)
  have hnq79 : q69 ∉ L := fun h => hq72 (hsb55 _ h)
  have hsb78 : ∀ b, b ∈ L → b ∈ _ := fun b hb => hs73 b (hsb55 b hb)
  have hf80 := (ho76 ac hm56).trans hf66
  have hn82 : ac ≠ q69 := fun e => hq72 (e ▸ hm56)
  have hm81 := hs73 _ hm56
  have hf83 := (ho76 q1 hm58).trans hf63
  have hn85 : q1 ≠ q69 := fun e => hq72 (e ▸ hm58)
  have hm84 := hs73 _ hm58
  refine lv_dup hx hb dX0_init_29 rfl ?_
  refine call_v (run_IN (rm := { frames := 1, cells := 9, slots := 258, locals := 12 }) hx hb hml hown hts (k_X3_init l g _ _ _ q69 hm74 hf75) cI_X3_init wn_412 ⟨Nat.le_of_ble_eq_true rfl, Nat.le_of_ble_eq_true rfl⟩ hG hE hA hP hD hS rfl hl.1 (As := []) (rest := [.ref q69, .int 1, .ref q1]) rfl (Nat.le_of_ble_eq_true rfl) dX0_init_30 ⟨Nat.le_of_ble_eq_true rfl, Nat.le_of_ble_eq_true rfl⟩) hA hD hS (fun L87 f88 H locs hp89 hP hD hS => ?_)
  obtain ⟨q90, q91, q92, q93, q94, q95, q96, q97, q98, hf99, fr100, sb101⟩ := hp89
  have hfr102 : ∀ b, b ∈ L → b ≠ ac → f88 b = f b := fun b hb z0 => (fr100 b (hsb78 b hb) (fun e => hnq79 (e ▸ hb))).trans (hfr77 b hb z0)
  have hsb103 : ∀ b, b ∈ L → b ∈ L87 := fun b hb => sb101 b (hsb78 b hb)
  have hf105 := (fr100 ac hm81 hn82).trans hf80
  have hm104 := sb101 _ hm81
  have hf107 := (fr100 q1 hm84 hn85).trans hf83
  have hm106 := sb101 _ hm84
  have hm108 := sb101 _ hm74
  refine pl_astq hx hb hG.1 hP hD hS hm106 4 3 hf107 rfl hm108 hf99 rfl (by unfold vp_in; decide) dX0_init_33 (fun H locs f109 r112 er112 hf111 ho110 hP hD hS => ?_)
  have hfr113 : ∀ b, b ∈ L → b ≠ ac → f109 b = f b := fun b hb z0 => (ho110 b (fun e => hnq11 (e ▸ hb))).trans (hfr102 b hb z0)
  have hf114 := (ho110 ac hn14).trans hf105
  have hf115 := (ho110 q69 hn85.symm).trans hf99
  refine lv_iinc (v := 2) (lv' := [(1, .int 2), (0, .ref ac)]) hx hb dX0_init_34 hl (k := 0) rfl (by decide) (by decide) rfl (fun ls hl => ?_)
  refine lv_goto (tgt := 15) hx hb dX0_init_37 (by decide) ?_
  refine lv_iload_n hx hb dX0_init_15 rfl (lv_at hl 0 rfl) ?_
  refine lv_bipush (v := 20) hx hb dX0_init_16 (by decide) ?_
  refine lv_icmp_ge (tgt := 40) hx hb dX0_init_18 (by decide) (fun c116 => absurd c116 (by decide)) (fun c116 => ?_)
  refine lv_aload_n hx hb dX0_init_21 rfl (lv_at hl 1 rfl) ?_
  refine pl_get (v := .ref q1) hx hb hts (fun w h => mT (inX0 w h)) hown hG.1 hP hm104 hf114 rfl 0 (by decide) (hts _ (mT wg_413)) (fun _ h => h) rfl dX0_init_22 ?_
  refine lv_iload_n hx hb dX0_init_25 rfl (lv_at hl 0 rfl) ?_
  refine pl_new (ci := 3) (fs := [.int 0, .int 0, .int 0, .int 0, .int 0, .int 0, .int 0, .long 0, .long 0, .null, .null, .null, .null, .null, .null, .null, .null, .null]) (C := RX3) (T := TX3) (N := 18) hx hb hts (fun w h => mT (inX3 w h)) tyX3 tyX3_ok hown (hts _ (mT wg_410)) (hts _ (mT wg_330)) (hts _ (mT wg_165)) hG.1 hP hD hS hA rfl dvX3 (Nat.le_of_ble_eq_true rfl) (Nat.le_of_ble_eq_true rfl) dX0_init_26 (fun q117 H L118 f119 hq120 hs121 hm122 hf123 ho124 hP hD hS => ?_)
  have hfr125 : ∀ b, b ∈ L → b ≠ ac → f119 b = f b := fun b hb z0 => (ho124 b (hsb103 b hb)).trans (hfr113 b hb z0)
  have hnq127 : q117 ∉ L := fun h => hq120 (hsb103 _ h)
  have hsb126 : ∀ b, b ∈ L → b ∈ _ := fun b hb => hs121 b (hsb103 b hb)
  have hf128 := (ho124 ac hm104).trans hf114
  have hn130 : ac ≠ q117 := fun e => hq120 (e ▸ hm104)
  have hm129 := hs121 _ hm104
  have hf131 := (ho124 q1 hm106).trans hf111
  have hn133 : q1 ≠ q117 := fun e => hq120 (e ▸ hm106)
  have hm132 := hs121 _ hm106
  refine lv_dup hx hb dX0_init_29 rfl ?_
  refine call_v (run_IN (rm := { frames := 1, cells := 9, slots := 258, locals := 12 }) hx hb hml hown hts (k_X3_init l g _ _ _ q117 hm122 hf123) cI_X3_init wn_412 ⟨Nat.le_of_ble_eq_true rfl, Nat.le_of_ble_eq_true rfl⟩ hG hE hA hP hD hS rfl hl.1 (As := []) (rest := [.ref q117, .int 2, .ref q1]) rfl (Nat.le_of_ble_eq_true rfl) dX0_init_30 ⟨Nat.le_of_ble_eq_true rfl, Nat.le_of_ble_eq_true rfl⟩) hA hD hS (fun L135 f136 H locs hp137 hP hD hS => ?_)
  obtain ⟨q138, q139, q140, q141, q142, q143, q144, q145, q146, hf147, fr148, sb149⟩ := hp137
  have hfr150 : ∀ b, b ∈ L → b ≠ ac → f136 b = f b := fun b hb z0 => (fr148 b (hsb126 b hb) (fun e => hnq127 (e ▸ hb))).trans (hfr125 b hb z0)
  have hsb151 : ∀ b, b ∈ L → b ∈ L135 := fun b hb => sb149 b (hsb126 b hb)
  have hf153 := (fr148 ac hm129 hn130).trans hf128
  have hm152 := sb149 _ hm129
  have hf155 := (fr148 q1 hm132 hn133).trans hf131
  have hm154 := sb149 _ hm132
  have hm156 := sb149 _ hm122
  refine pl_astq hx hb hG.1 hP hD hS hm154 4 3 hf155 rfl hm156 hf147 rfl (by unfold vp_in; decide) dX0_init_33 (fun H locs f157 r160 er160 hf159 ho158 hP hD hS => ?_)
  have hfr161 : ∀ b, b ∈ L → b ≠ ac → f157 b = f b := fun b hb z0 => (ho158 b (fun e => hnq11 (e ▸ hb))).trans (hfr150 b hb z0)
  have hf162 := (ho158 ac hn14).trans hf153
  have hf163 := (ho158 q117 hn133.symm).trans hf147
  refine lv_iinc (v := 3) (lv' := [(1, .int 3), (0, .ref ac)]) hx hb dX0_init_34 hl (k := 0) rfl (by decide) (by decide) rfl (fun ls hl => ?_)
  refine lv_goto (tgt := 15) hx hb dX0_init_37 (by decide) ?_
  refine lv_iload_n hx hb dX0_init_15 rfl (lv_at hl 0 rfl) ?_
  refine lv_bipush (v := 20) hx hb dX0_init_16 (by decide) ?_
  refine lv_icmp_ge (tgt := 40) hx hb dX0_init_18 (by decide) (fun c164 => absurd c164 (by decide)) (fun c164 => ?_)
  refine lv_aload_n hx hb dX0_init_21 rfl (lv_at hl 1 rfl) ?_
  refine pl_get (v := .ref q1) hx hb hts (fun w h => mT (inX0 w h)) hown hG.1 hP hm152 hf162 rfl 0 (by decide) (hts _ (mT wg_413)) (fun _ h => h) rfl dX0_init_22 ?_
  refine lv_iload_n hx hb dX0_init_25 rfl (lv_at hl 0 rfl) ?_
  refine pl_new (ci := 3) (fs := [.int 0, .int 0, .int 0, .int 0, .int 0, .int 0, .int 0, .long 0, .long 0, .null, .null, .null, .null, .null, .null, .null, .null, .null]) (C := RX3) (T := TX3) (N := 18) hx hb hts (fun w h => mT (inX3 w h)) tyX3 tyX3_ok hown (hts _ (mT wg_410)) (hts _ (mT wg_330)) (hts _ (mT wg_165)) hG.1 hP hD hS hA rfl dvX3 (Nat.le_of_ble_eq_true rfl) (Nat.le_of_ble_eq_true rfl) dX0_init_26 (fun q165 H L166 f167 hq168 hs169 hm170 hf171 ho172 hP hD hS => ?_)
  have hfr173 : ∀ b, b ∈ L → b ≠ ac → f167 b = f b := fun b hb z0 => (ho172 b (hsb151 b hb)).trans (hfr161 b hb z0)
  have hnq175 : q165 ∉ L := fun h => hq168 (hsb151 _ h)
  have hsb174 : ∀ b, b ∈ L → b ∈ _ := fun b hb => hs169 b (hsb151 b hb)
  have hf176 := (ho172 ac hm152).trans hf162
  have hn178 : ac ≠ q165 := fun e => hq168 (e ▸ hm152)
  have hm177 := hs169 _ hm152
  have hf179 := (ho172 q1 hm154).trans hf159
  have hn181 : q1 ≠ q165 := fun e => hq168 (e ▸ hm154)
  have hm180 := hs169 _ hm154
  refine lv_dup hx hb dX0_init_29 rfl ?_
  refine call_v (run_IN (rm := { frames := 1, cells := 9, slots := 258, locals := 12 }) hx hb hml hown hts (k_X3_init l g _ _ _ q165 hm170 hf171) cI_X3_init wn_412 ⟨Nat.le_of_ble_eq_true rfl, Nat.le_of_ble_eq_true rfl⟩ hG hE hA hP hD hS rfl hl.1 (As := []) (rest := [.ref q165, .int 3, .ref q1]) rfl (Nat.le_of_ble_eq_true rfl) dX0_init_30 ⟨Nat.le_of_ble_eq_true rfl, Nat.le_of_ble_eq_true rfl⟩) hA hD hS (fun L183 f184 H locs hp185 hP hD hS => ?_)
  obtain ⟨q186, q187, q188, q189, q190, q191, q192, q193, q194, hf195, fr196, sb197⟩ := hp185
  have hfr198 : ∀ b, b ∈ L → b ≠ ac → f184 b = f b := fun b hb z0 => (fr196 b (hsb174 b hb) (fun e => hnq175 (e ▸ hb))).trans (hfr173 b hb z0)
  have hsb199 : ∀ b, b ∈ L → b ∈ L183 := fun b hb => sb197 b (hsb174 b hb)
  have hf201 := (fr196 ac hm177 hn178).trans hf176
  have hm200 := sb197 _ hm177
  have hf203 := (fr196 q1 hm180 hn181).trans hf179
  have hm202 := sb197 _ hm180
  have hm204 := sb197 _ hm170
  refine pl_astq hx hb hG.1 hP hD hS hm202 4 3 hf203 rfl hm204 hf195 rfl (by unfold vp_in; decide) dX0_init_33 (fun H locs f205 r208 er208 hf207 ho206 hP hD hS => ?_)
  have hfr209 : ∀ b, b ∈ L → b ≠ ac → f205 b = f b := fun b hb z0 => (ho206 b (fun e => hnq11 (e ▸ hb))).trans (hfr198 b hb z0)
  have hf210 := (ho206 ac hn14).trans hf201
  have hf211 := (ho206 q165 hn181.symm).trans hf195
  refine lv_iinc (v := 4) (lv' := [(1, .int 4), (0, .ref ac)]) hx hb dX0_init_34 hl (k := 0) rfl (by decide) (by decide) rfl (fun ls hl => ?_)
  refine lv_goto (tgt := 15) hx hb dX0_init_37 (by decide) ?_
  refine lv_iload_n hx hb dX0_init_15 rfl (lv_at hl 0 rfl) ?_
  refine lv_bipush (v := 20) hx hb dX0_init_16 (by decide) ?_
  refine lv_icmp_ge (tgt := 40) hx hb dX0_init_18 (by decide) (fun c212 => absurd c212 (by decide)) (fun c212 => ?_)
  refine lv_aload_n hx hb dX0_init_21 rfl (lv_at hl 1 rfl) ?_
  refine pl_get (v := .ref q1) hx hb hts (fun w h => mT (inX0 w h)) hown hG.1 hP hm200 hf210 rfl 0 (by decide) (hts _ (mT wg_413)) (fun _ h => h) rfl dX0_init_22 ?_
  refine lv_iload_n hx hb dX0_init_25 rfl (lv_at hl 0 rfl) ?_
  refine pl_new (ci := 3) (fs := [.int 0, .int 0, .int 0, .int 0, .int 0, .int 0, .int 0, .long 0, .long 0, .null, .null, .null, .null, .null, .null, .null, .null, .null]) (C := RX3) (T := TX3) (N := 18) hx hb hts (fun w h => mT (inX3 w h)) tyX3 tyX3_ok hown (hts _ (mT wg_410)) (hts _ (mT wg_330)) (hts _ (mT wg_165)) hG.1 hP hD hS hA rfl dvX3 (Nat.le_of_ble_eq_true rfl) (Nat.le_of_ble_eq_true rfl) dX0_init_26 (fun q213 H L214 f215 hq216 hs217 hm218 hf219 ho220 hP hD hS => ?_)
  have hfr221 : ∀ b, b ∈ L → b ≠ ac → f215 b = f b := fun b hb z0 => (ho220 b (hsb199 b hb)).trans (hfr209 b hb z0)
  have hnq223 : q213 ∉ L := fun h => hq216 (hsb199 _ h)
  have hsb222 : ∀ b, b ∈ L → b ∈ _ := fun b hb => hs217 b (hsb199 b hb)
  have hf224 := (ho220 ac hm200).trans hf210
  have hn226 : ac ≠ q213 := fun e => hq216 (e ▸ hm200)
  have hm225 := hs217 _ hm200
  have hf227 := (ho220 q1 hm202).trans hf207
  have hn229 : q1 ≠ q213 := fun e => hq216 (e ▸ hm202)
  have hm228 := hs217 _ hm202
  refine lv_dup hx hb dX0_init_29 rfl ?_
  refine call_v (run_IN (rm := { frames := 1, cells := 9, slots := 258, locals := 12 }) hx hb hml hown hts (k_X3_init l g _ _ _ q213 hm218 hf219) cI_X3_init wn_412 ⟨Nat.le_of_ble_eq_true rfl, Nat.le_of_ble_eq_true rfl⟩ hG hE hA hP hD hS rfl hl.1 (As := []) (rest := [.ref q213, .int 4, .ref q1]) rfl (Nat.le_of_ble_eq_true rfl) dX0_init_30 ⟨Nat.le_of_ble_eq_true rfl, Nat.le_of_ble_eq_true rfl⟩) hA hD hS (fun L231 f232 H locs hp233 hP hD hS => ?_)
  obtain ⟨q234, q235, q236, q237, q238, q239, q240, q241, q242, hf243, fr244, sb245⟩ := hp233
  have hfr246 : ∀ b, b ∈ L → b ≠ ac → f232 b = f b := fun b hb z0 => (fr244 b (hsb222 b hb) (fun e => hnq223 (e ▸ hb))).trans (hfr221 b hb z0)
  have hsb247 : ∀ b, b ∈ L → b ∈ L231 := fun b hb => sb245 b (hsb222 b hb)
  have hf249 := (fr244 ac hm225 hn226).trans hf224
  have hm248 := sb245 _ hm225
  have hf251 := (fr244 q1 hm228 hn229).trans hf227
  have hm250 := sb245 _ hm228
  have hm252 := sb245 _ hm218
  refine pl_astq hx hb hG.1 hP hD hS hm250 4 3 hf251 rfl hm252 hf243 rfl (by unfold vp_in; decide) dX0_init_33 (fun H locs f253 r256 er256 hf255 ho254 hP hD hS => ?_)
  have hfr257 : ∀ b, b ∈ L → b ≠ ac → f253 b = f b := fun b hb z0 => (ho254 b (fun e => hnq11 (e ▸ hb))).trans (hfr246 b hb z0)
  have hf258 := (ho254 ac hn14).trans hf249
  have hf259 := (ho254 q213 hn229.symm).trans hf243
  refine lv_iinc (v := 5) (lv' := [(1, .int 5), (0, .ref ac)]) hx hb dX0_init_34 hl (k := 0) rfl (by decide) (by decide) rfl (fun ls hl => ?_)
  refine lv_goto (tgt := 15) hx hb dX0_init_37 (by decide) ?_
  refine lv_iload_n hx hb dX0_init_15 rfl (lv_at hl 0 rfl) ?_
  refine lv_bipush (v := 20) hx hb dX0_init_16 (by decide) ?_
  refine lv_icmp_ge (tgt := 40) hx hb dX0_init_18 (by decide) (fun c260 => absurd c260 (by decide)) (fun c260 => ?_)
  refine lv_aload_n hx hb dX0_init_21 rfl (lv_at hl 1 rfl) ?_
  refine pl_get (v := .ref q1) hx hb hts (fun w h => mT (inX0 w h)) hown hG.1 hP hm248 hf258 rfl 0 (by decide) (hts _ (mT wg_413)) (fun _ h => h) rfl dX0_init_22 ?_
  refine lv_iload_n hx hb dX0_init_25 rfl (lv_at hl 0 rfl) ?_
  refine pl_new (ci := 3) (fs := [.int 0, .int 0, .int 0, .int 0, .int 0, .int 0, .int 0, .long 0, .long 0, .null, .null, .null, .null, .null, .null, .null, .null, .null]) (C := RX3) (T := TX3) (N := 18) hx hb hts (fun w h => mT (inX3 w h)) tyX3 tyX3_ok hown (hts _ (mT wg_410)) (hts _ (mT wg_330)) (hts _ (mT wg_165)) hG.1 hP hD hS hA rfl dvX3 (Nat.le_of_ble_eq_true rfl) (Nat.le_of_ble_eq_true rfl) dX0_init_26 (fun q261 H L262 f263 hq264 hs265 hm266 hf267 ho268 hP hD hS => ?_)
  have hfr269 : ∀ b, b ∈ L → b ≠ ac → f263 b = f b := fun b hb z0 => (ho268 b (hsb247 b hb)).trans (hfr257 b hb z0)
  have hnq271 : q261 ∉ L := fun h => hq264 (hsb247 _ h)
  have hsb270 : ∀ b, b ∈ L → b ∈ _ := fun b hb => hs265 b (hsb247 b hb)
  have hf272 := (ho268 ac hm248).trans hf258
  have hn274 : ac ≠ q261 := fun e => hq264 (e ▸ hm248)
  have hm273 := hs265 _ hm248
  have hf275 := (ho268 q1 hm250).trans hf255
  have hn277 : q1 ≠ q261 := fun e => hq264 (e ▸ hm250)
  have hm276 := hs265 _ hm250
  refine lv_dup hx hb dX0_init_29 rfl ?_
  refine call_v (run_IN (rm := { frames := 1, cells := 9, slots := 258, locals := 12 }) hx hb hml hown hts (k_X3_init l g _ _ _ q261 hm266 hf267) cI_X3_init wn_412 ⟨Nat.le_of_ble_eq_true rfl, Nat.le_of_ble_eq_true rfl⟩ hG hE hA hP hD hS rfl hl.1 (As := []) (rest := [.ref q261, .int 5, .ref q1]) rfl (Nat.le_of_ble_eq_true rfl) dX0_init_30 ⟨Nat.le_of_ble_eq_true rfl, Nat.le_of_ble_eq_true rfl⟩) hA hD hS (fun L279 f280 H locs hp281 hP hD hS => ?_)
  obtain ⟨q282, q283, q284, q285, q286, q287, q288, q289, q290, hf291, fr292, sb293⟩ := hp281
  have hfr294 : ∀ b, b ∈ L → b ≠ ac → f280 b = f b := fun b hb z0 => (fr292 b (hsb270 b hb) (fun e => hnq271 (e ▸ hb))).trans (hfr269 b hb z0)
  have hsb295 : ∀ b, b ∈ L → b ∈ L279 := fun b hb => sb293 b (hsb270 b hb)
  have hf297 := (fr292 ac hm273 hn274).trans hf272
  have hm296 := sb293 _ hm273
  have hf299 := (fr292 q1 hm276 hn277).trans hf275
  have hm298 := sb293 _ hm276
  have hm300 := sb293 _ hm266
  refine pl_astq hx hb hG.1 hP hD hS hm298 4 3 hf299 rfl hm300 hf291 rfl (by unfold vp_in; decide) dX0_init_33 (fun H locs f301 r304 er304 hf303 ho302 hP hD hS => ?_)
  have hfr305 : ∀ b, b ∈ L → b ≠ ac → f301 b = f b := fun b hb z0 => (ho302 b (fun e => hnq11 (e ▸ hb))).trans (hfr294 b hb z0)
  have hf306 := (ho302 ac hn14).trans hf297
  have hf307 := (ho302 q261 hn277.symm).trans hf291
  refine lv_iinc (v := 6) (lv' := [(1, .int 6), (0, .ref ac)]) hx hb dX0_init_34 hl (k := 0) rfl (by decide) (by decide) rfl (fun ls hl => ?_)
  refine lv_goto (tgt := 15) hx hb dX0_init_37 (by decide) ?_
  refine lv_iload_n hx hb dX0_init_15 rfl (lv_at hl 0 rfl) ?_
  refine lv_bipush (v := 20) hx hb dX0_init_16 (by decide) ?_
  refine lv_icmp_ge (tgt := 40) hx hb dX0_init_18 (by decide) (fun c308 => absurd c308 (by decide)) (fun c308 => ?_)
  refine lv_aload_n hx hb dX0_init_21 rfl (lv_at hl 1 rfl) ?_
  refine pl_get (v := .ref q1) hx hb hts (fun w h => mT (inX0 w h)) hown hG.1 hP hm296 hf306 rfl 0 (by decide) (hts _ (mT wg_413)) (fun _ h => h) rfl dX0_init_22 ?_
  refine lv_iload_n hx hb dX0_init_25 rfl (lv_at hl 0 rfl) ?_
  refine pl_new (ci := 3) (fs := [.int 0, .int 0, .int 0, .int 0, .int 0, .int 0, .int 0, .long 0, .long 0, .null, .null, .null, .null, .null, .null, .null, .null, .null]) (C := RX3) (T := TX3) (N := 18) hx hb hts (fun w h => mT (inX3 w h)) tyX3 tyX3_ok hown (hts _ (mT wg_410)) (hts _ (mT wg_330)) (hts _ (mT wg_165)) hG.1 hP hD hS hA rfl dvX3 (Nat.le_of_ble_eq_true rfl) (Nat.le_of_ble_eq_true rfl) dX0_init_26 (fun q309 H L310 f311 hq312 hs313 hm314 hf315 ho316 hP hD hS => ?_)
  have hfr317 : ∀ b, b ∈ L → b ≠ ac → f311 b = f b := fun b hb z0 => (ho316 b (hsb295 b hb)).trans (hfr305 b hb z0)
  have hnq319 : q309 ∉ L := fun h => hq312 (hsb295 _ h)
  have hsb318 : ∀ b, b ∈ L → b ∈ _ := fun b hb => hs313 b (hsb295 b hb)
  have hf320 := (ho316 ac hm296).trans hf306
  have hn322 : ac ≠ q309 := fun e => hq312 (e ▸ hm296)
  have hm321 := hs313 _ hm296
  have hf323 := (ho316 q1 hm298).trans hf303
  have hn325 : q1 ≠ q309 := fun e => hq312 (e ▸ hm298)
  have hm324 := hs313 _ hm298
  refine lv_dup hx hb dX0_init_29 rfl ?_
  refine call_v (run_IN (rm := { frames := 1, cells := 9, slots := 258, locals := 12 }) hx hb hml hown hts (k_X3_init l g _ _ _ q309 hm314 hf315) cI_X3_init wn_412 ⟨Nat.le_of_ble_eq_true rfl, Nat.le_of_ble_eq_true rfl⟩ hG hE hA hP hD hS rfl hl.1 (As := []) (rest := [.ref q309, .int 6, .ref q1]) rfl (Nat.le_of_ble_eq_true rfl) dX0_init_30 ⟨Nat.le_of_ble_eq_true rfl, Nat.le_of_ble_eq_true rfl⟩) hA hD hS (fun L327 f328 H locs hp329 hP hD hS => ?_)
  obtain ⟨q330, q331, q332, q333, q334, q335, q336, q337, q338, hf339, fr340, sb341⟩ := hp329
  have hfr342 : ∀ b, b ∈ L → b ≠ ac → f328 b = f b := fun b hb z0 => (fr340 b (hsb318 b hb) (fun e => hnq319 (e ▸ hb))).trans (hfr317 b hb z0)
  have hsb343 : ∀ b, b ∈ L → b ∈ L327 := fun b hb => sb341 b (hsb318 b hb)
  have hf345 := (fr340 ac hm321 hn322).trans hf320
  have hm344 := sb341 _ hm321
  have hf347 := (fr340 q1 hm324 hn325).trans hf323
  have hm346 := sb341 _ hm324
  have hm348 := sb341 _ hm314
  refine pl_astq hx hb hG.1 hP hD hS hm346 4 3 hf347 rfl hm348 hf339 rfl (by unfold vp_in; decide) dX0_init_33 (fun H locs f349 r352 er352 hf351 ho350 hP hD hS => ?_)
  have hfr353 : ∀ b, b ∈ L → b ≠ ac → f349 b = f b := fun b hb z0 => (ho350 b (fun e => hnq11 (e ▸ hb))).trans (hfr342 b hb z0)
  have hf354 := (ho350 ac hn14).trans hf345
  have hf355 := (ho350 q309 hn325.symm).trans hf339
  refine lv_iinc (v := 7) (lv' := [(1, .int 7), (0, .ref ac)]) hx hb dX0_init_34 hl (k := 0) rfl (by decide) (by decide) rfl (fun ls hl => ?_)
  refine lv_goto (tgt := 15) hx hb dX0_init_37 (by decide) ?_
  refine lv_iload_n hx hb dX0_init_15 rfl (lv_at hl 0 rfl) ?_
  refine lv_bipush (v := 20) hx hb dX0_init_16 (by decide) ?_
  refine lv_icmp_ge (tgt := 40) hx hb dX0_init_18 (by decide) (fun c356 => absurd c356 (by decide)) (fun c356 => ?_)
  refine lv_aload_n hx hb dX0_init_21 rfl (lv_at hl 1 rfl) ?_
  refine pl_get (v := .ref q1) hx hb hts (fun w h => mT (inX0 w h)) hown hG.1 hP hm344 hf354 rfl 0 (by decide) (hts _ (mT wg_413)) (fun _ h => h) rfl dX0_init_22 ?_
  refine lv_iload_n hx hb dX0_init_25 rfl (lv_at hl 0 rfl) ?_
  refine pl_new (ci := 3) (fs := [.int 0, .int 0, .int 0, .int 0, .int 0, .int 0, .int 0, .long 0, .long 0, .null, .null, .null, .null, .null, .null, .null, .null, .null]) (C := RX3) (T := TX3) (N := 18) hx hb hts (fun w h => mT (inX3 w h)) tyX3 tyX3_ok hown (hts _ (mT wg_410)) (hts _ (mT wg_330)) (hts _ (mT wg_165)) hG.1 hP hD hS hA rfl dvX3 (Nat.le_of_ble_eq_true rfl) (Nat.le_of_ble_eq_true rfl) dX0_init_26 (fun q357 H L358 f359 hq360 hs361 hm362 hf363 ho364 hP hD hS => ?_)
  have hfr365 : ∀ b, b ∈ L → b ≠ ac → f359 b = f b := fun b hb z0 => (ho364 b (hsb343 b hb)).trans (hfr353 b hb z0)
  have hnq367 : q357 ∉ L := fun h => hq360 (hsb343 _ h)
  have hsb366 : ∀ b, b ∈ L → b ∈ _ := fun b hb => hs361 b (hsb343 b hb)
  have hf368 := (ho364 ac hm344).trans hf354
  have hn370 : ac ≠ q357 := fun e => hq360 (e ▸ hm344)
  have hm369 := hs361 _ hm344
  have hf371 := (ho364 q1 hm346).trans hf351
  have hn373 : q1 ≠ q357 := fun e => hq360 (e ▸ hm346)
  have hm372 := hs361 _ hm346
  refine lv_dup hx hb dX0_init_29 rfl ?_
  refine call_v (run_IN (rm := { frames := 1, cells := 9, slots := 258, locals := 12 }) hx hb hml hown hts (k_X3_init l g _ _ _ q357 hm362 hf363) cI_X3_init wn_412 ⟨Nat.le_of_ble_eq_true rfl, Nat.le_of_ble_eq_true rfl⟩ hG hE hA hP hD hS rfl hl.1 (As := []) (rest := [.ref q357, .int 7, .ref q1]) rfl (Nat.le_of_ble_eq_true rfl) dX0_init_30 ⟨Nat.le_of_ble_eq_true rfl, Nat.le_of_ble_eq_true rfl⟩) hA hD hS (fun L375 f376 H locs hp377 hP hD hS => ?_)
  obtain ⟨q378, q379, q380, q381, q382, q383, q384, q385, q386, hf387, fr388, sb389⟩ := hp377
  have hfr390 : ∀ b, b ∈ L → b ≠ ac → f376 b = f b := fun b hb z0 => (fr388 b (hsb366 b hb) (fun e => hnq367 (e ▸ hb))).trans (hfr365 b hb z0)
  have hsb391 : ∀ b, b ∈ L → b ∈ L375 := fun b hb => sb389 b (hsb366 b hb)
  have hf393 := (fr388 ac hm369 hn370).trans hf368
  have hm392 := sb389 _ hm369
  have hf395 := (fr388 q1 hm372 hn373).trans hf371
  have hm394 := sb389 _ hm372
  have hm396 := sb389 _ hm362
  refine pl_astq hx hb hG.1 hP hD hS hm394 4 3 hf395 rfl hm396 hf387 rfl (by unfold vp_in; decide) dX0_init_33 (fun H locs f397 r400 er400 hf399 ho398 hP hD hS => ?_)
  have hfr401 : ∀ b, b ∈ L → b ≠ ac → f397 b = f b := fun b hb z0 => (ho398 b (fun e => hnq11 (e ▸ hb))).trans (hfr390 b hb z0)
  have hf402 := (ho398 ac hn14).trans hf393
  have hf403 := (ho398 q357 hn373.symm).trans hf387
  refine lv_iinc (v := 8) (lv' := [(1, .int 8), (0, .ref ac)]) hx hb dX0_init_34 hl (k := 0) rfl (by decide) (by decide) rfl (fun ls hl => ?_)
  refine lv_goto (tgt := 15) hx hb dX0_init_37 (by decide) ?_
  refine lv_iload_n hx hb dX0_init_15 rfl (lv_at hl 0 rfl) ?_
  refine lv_bipush (v := 20) hx hb dX0_init_16 (by decide) ?_
  refine lv_icmp_ge (tgt := 40) hx hb dX0_init_18 (by decide) (fun c404 => absurd c404 (by decide)) (fun c404 => ?_)
  refine lv_aload_n hx hb dX0_init_21 rfl (lv_at hl 1 rfl) ?_
  refine pl_get (v := .ref q1) hx hb hts (fun w h => mT (inX0 w h)) hown hG.1 hP hm392 hf402 rfl 0 (by decide) (hts _ (mT wg_413)) (fun _ h => h) rfl dX0_init_22 ?_
  refine lv_iload_n hx hb dX0_init_25 rfl (lv_at hl 0 rfl) ?_
  refine pl_new (ci := 3) (fs := [.int 0, .int 0, .int 0, .int 0, .int 0, .int 0, .int 0, .long 0, .long 0, .null, .null, .null, .null, .null, .null, .null, .null, .null]) (C := RX3) (T := TX3) (N := 18) hx hb hts (fun w h => mT (inX3 w h)) tyX3 tyX3_ok hown (hts _ (mT wg_410)) (hts _ (mT wg_330)) (hts _ (mT wg_165)) hG.1 hP hD hS hA rfl dvX3 (Nat.le_of_ble_eq_true rfl) (Nat.le_of_ble_eq_true rfl) dX0_init_26 (fun q405 H L406 f407 hq408 hs409 hm410 hf411 ho412 hP hD hS => ?_)
  have hfr413 : ∀ b, b ∈ L → b ≠ ac → f407 b = f b := fun b hb z0 => (ho412 b (hsb391 b hb)).trans (hfr401 b hb z0)
  have hnq415 : q405 ∉ L := fun h => hq408 (hsb391 _ h)
  have hsb414 : ∀ b, b ∈ L → b ∈ _ := fun b hb => hs409 b (hsb391 b hb)
  have hf416 := (ho412 ac hm392).trans hf402
  have hn418 : ac ≠ q405 := fun e => hq408 (e ▸ hm392)
  have hm417 := hs409 _ hm392
  have hf419 := (ho412 q1 hm394).trans hf399
  have hn421 : q1 ≠ q405 := fun e => hq408 (e ▸ hm394)
  have hm420 := hs409 _ hm394
  refine lv_dup hx hb dX0_init_29 rfl ?_
  refine call_v (run_IN (rm := { frames := 1, cells := 9, slots := 258, locals := 12 }) hx hb hml hown hts (k_X3_init l g _ _ _ q405 hm410 hf411) cI_X3_init wn_412 ⟨Nat.le_of_ble_eq_true rfl, Nat.le_of_ble_eq_true rfl⟩ hG hE hA hP hD hS rfl hl.1 (As := []) (rest := [.ref q405, .int 8, .ref q1]) rfl (Nat.le_of_ble_eq_true rfl) dX0_init_30 ⟨Nat.le_of_ble_eq_true rfl, Nat.le_of_ble_eq_true rfl⟩) hA hD hS (fun L423 f424 H locs hp425 hP hD hS => ?_)
  obtain ⟨q426, q427, q428, q429, q430, q431, q432, q433, q434, hf435, fr436, sb437⟩ := hp425
  have hfr438 : ∀ b, b ∈ L → b ≠ ac → f424 b = f b := fun b hb z0 => (fr436 b (hsb414 b hb) (fun e => hnq415 (e ▸ hb))).trans (hfr413 b hb z0)
  have hsb439 : ∀ b, b ∈ L → b ∈ L423 := fun b hb => sb437 b (hsb414 b hb)
  have hf441 := (fr436 ac hm417 hn418).trans hf416
  have hm440 := sb437 _ hm417
  have hf443 := (fr436 q1 hm420 hn421).trans hf419
  have hm442 := sb437 _ hm420
  have hm444 := sb437 _ hm410
  refine pl_astq hx hb hG.1 hP hD hS hm442 4 3 hf443 rfl hm444 hf435 rfl (by unfold vp_in; decide) dX0_init_33 (fun H locs f445 r448 er448 hf447 ho446 hP hD hS => ?_)
  have hfr449 : ∀ b, b ∈ L → b ≠ ac → f445 b = f b := fun b hb z0 => (ho446 b (fun e => hnq11 (e ▸ hb))).trans (hfr438 b hb z0)
  have hf450 := (ho446 ac hn14).trans hf441
  have hf451 := (ho446 q405 hn421.symm).trans hf435
  refine lv_iinc (v := 9) (lv' := [(1, .int 9), (0, .ref ac)]) hx hb dX0_init_34 hl (k := 0) rfl (by decide) (by decide) rfl (fun ls hl => ?_)
  refine lv_goto (tgt := 15) hx hb dX0_init_37 (by decide) ?_
  refine lv_iload_n hx hb dX0_init_15 rfl (lv_at hl 0 rfl) ?_
  refine lv_bipush (v := 20) hx hb dX0_init_16 (by decide) ?_
  refine lv_icmp_ge (tgt := 40) hx hb dX0_init_18 (by decide) (fun c452 => absurd c452 (by decide)) (fun c452 => ?_)
  refine lv_aload_n hx hb dX0_init_21 rfl (lv_at hl 1 rfl) ?_
  refine pl_get (v := .ref q1) hx hb hts (fun w h => mT (inX0 w h)) hown hG.1 hP hm440 hf450 rfl 0 (by decide) (hts _ (mT wg_413)) (fun _ h => h) rfl dX0_init_22 ?_
  refine lv_iload_n hx hb dX0_init_25 rfl (lv_at hl 0 rfl) ?_
  refine pl_new (ci := 3) (fs := [.int 0, .int 0, .int 0, .int 0, .int 0, .int 0, .int 0, .long 0, .long 0, .null, .null, .null, .null, .null, .null, .null, .null, .null]) (C := RX3) (T := TX3) (N := 18) hx hb hts (fun w h => mT (inX3 w h)) tyX3 tyX3_ok hown (hts _ (mT wg_410)) (hts _ (mT wg_330)) (hts _ (mT wg_165)) hG.1 hP hD hS hA rfl dvX3 (Nat.le_of_ble_eq_true rfl) (Nat.le_of_ble_eq_true rfl) dX0_init_26 (fun q453 H L454 f455 hq456 hs457 hm458 hf459 ho460 hP hD hS => ?_)
  have hfr461 : ∀ b, b ∈ L → b ≠ ac → f455 b = f b := fun b hb z0 => (ho460 b (hsb439 b hb)).trans (hfr449 b hb z0)
  have hnq463 : q453 ∉ L := fun h => hq456 (hsb439 _ h)
  have hsb462 : ∀ b, b ∈ L → b ∈ _ := fun b hb => hs457 b (hsb439 b hb)
  have hf464 := (ho460 ac hm440).trans hf450
  have hn466 : ac ≠ q453 := fun e => hq456 (e ▸ hm440)
  have hm465 := hs457 _ hm440
  have hf467 := (ho460 q1 hm442).trans hf447
  have hn469 : q1 ≠ q453 := fun e => hq456 (e ▸ hm442)
  have hm468 := hs457 _ hm442
  refine lv_dup hx hb dX0_init_29 rfl ?_
  refine call_v (run_IN (rm := { frames := 1, cells := 9, slots := 258, locals := 12 }) hx hb hml hown hts (k_X3_init l g _ _ _ q453 hm458 hf459) cI_X3_init wn_412 ⟨Nat.le_of_ble_eq_true rfl, Nat.le_of_ble_eq_true rfl⟩ hG hE hA hP hD hS rfl hl.1 (As := []) (rest := [.ref q453, .int 9, .ref q1]) rfl (Nat.le_of_ble_eq_true rfl) dX0_init_30 ⟨Nat.le_of_ble_eq_true rfl, Nat.le_of_ble_eq_true rfl⟩) hA hD hS (fun L471 f472 H locs hp473 hP hD hS => ?_)
  obtain ⟨q474, q475, q476, q477, q478, q479, q480, q481, q482, hf483, fr484, sb485⟩ := hp473
  have hfr486 : ∀ b, b ∈ L → b ≠ ac → f472 b = f b := fun b hb z0 => (fr484 b (hsb462 b hb) (fun e => hnq463 (e ▸ hb))).trans (hfr461 b hb z0)
  have hsb487 : ∀ b, b ∈ L → b ∈ L471 := fun b hb => sb485 b (hsb462 b hb)
  have hf489 := (fr484 ac hm465 hn466).trans hf464
  have hm488 := sb485 _ hm465
  have hf491 := (fr484 q1 hm468 hn469).trans hf467
  have hm490 := sb485 _ hm468
  have hm492 := sb485 _ hm458
  refine pl_astq hx hb hG.1 hP hD hS hm490 4 3 hf491 rfl hm492 hf483 rfl (by unfold vp_in; decide) dX0_init_33 (fun H locs f493 r496 er496 hf495 ho494 hP hD hS => ?_)
  have hfr497 : ∀ b, b ∈ L → b ≠ ac → f493 b = f b := fun b hb z0 => (ho494 b (fun e => hnq11 (e ▸ hb))).trans (hfr486 b hb z0)
  have hf498 := (ho494 ac hn14).trans hf489
  have hf499 := (ho494 q453 hn469.symm).trans hf483
  refine lv_iinc (v := 10) (lv' := [(1, .int 10), (0, .ref ac)]) hx hb dX0_init_34 hl (k := 0) rfl (by decide) (by decide) rfl (fun ls hl => ?_)
  refine lv_goto (tgt := 15) hx hb dX0_init_37 (by decide) ?_
  refine lv_iload_n hx hb dX0_init_15 rfl (lv_at hl 0 rfl) ?_
  refine lv_bipush (v := 20) hx hb dX0_init_16 (by decide) ?_
  refine lv_icmp_ge (tgt := 40) hx hb dX0_init_18 (by decide) (fun c500 => absurd c500 (by decide)) (fun c500 => ?_)
  refine lv_aload_n hx hb dX0_init_21 rfl (lv_at hl 1 rfl) ?_
  refine pl_get (v := .ref q1) hx hb hts (fun w h => mT (inX0 w h)) hown hG.1 hP hm488 hf498 rfl 0 (by decide) (hts _ (mT wg_413)) (fun _ h => h) rfl dX0_init_22 ?_
  refine lv_iload_n hx hb dX0_init_25 rfl (lv_at hl 0 rfl) ?_
  refine pl_new (ci := 3) (fs := [.int 0, .int 0, .int 0, .int 0, .int 0, .int 0, .int 0, .long 0, .long 0, .null, .null, .null, .null, .null, .null, .null, .null, .null]) (C := RX3) (T := TX3) (N := 18) hx hb hts (fun w h => mT (inX3 w h)) tyX3 tyX3_ok hown (hts _ (mT wg_410)) (hts _ (mT wg_330)) (hts _ (mT wg_165)) hG.1 hP hD hS hA rfl dvX3 (Nat.le_of_ble_eq_true rfl) (Nat.le_of_ble_eq_true rfl) dX0_init_26 (fun q501 H L502 f503 hq504 hs505 hm506 hf507 ho508 hP hD hS => ?_)
  have hfr509 : ∀ b, b ∈ L → b ≠ ac → f503 b = f b := fun b hb z0 => (ho508 b (hsb487 b hb)).trans (hfr497 b hb z0)
  have hnq511 : q501 ∉ L := fun h => hq504 (hsb487 _ h)
  have hsb510 : ∀ b, b ∈ L → b ∈ _ := fun b hb => hs505 b (hsb487 b hb)
  have hf512 := (ho508 ac hm488).trans hf498
  have hn514 : ac ≠ q501 := fun e => hq504 (e ▸ hm488)
  have hm513 := hs505 _ hm488
  have hf515 := (ho508 q1 hm490).trans hf495
  have hn517 : q1 ≠ q501 := fun e => hq504 (e ▸ hm490)
  have hm516 := hs505 _ hm490
  refine lv_dup hx hb dX0_init_29 rfl ?_
  refine call_v (run_IN (rm := { frames := 1, cells := 9, slots := 258, locals := 12 }) hx hb hml hown hts (k_X3_init l g _ _ _ q501 hm506 hf507) cI_X3_init wn_412 ⟨Nat.le_of_ble_eq_true rfl, Nat.le_of_ble_eq_true rfl⟩ hG hE hA hP hD hS rfl hl.1 (As := []) (rest := [.ref q501, .int 10, .ref q1]) rfl (Nat.le_of_ble_eq_true rfl) dX0_init_30 ⟨Nat.le_of_ble_eq_true rfl, Nat.le_of_ble_eq_true rfl⟩) hA hD hS (fun L519 f520 H locs hp521 hP hD hS => ?_)
  obtain ⟨q522, q523, q524, q525, q526, q527, q528, q529, q530, hf531, fr532, sb533⟩ := hp521
  have hfr534 : ∀ b, b ∈ L → b ≠ ac → f520 b = f b := fun b hb z0 => (fr532 b (hsb510 b hb) (fun e => hnq511 (e ▸ hb))).trans (hfr509 b hb z0)
  have hsb535 : ∀ b, b ∈ L → b ∈ L519 := fun b hb => sb533 b (hsb510 b hb)
  have hf537 := (fr532 ac hm513 hn514).trans hf512
  have hm536 := sb533 _ hm513
  have hf539 := (fr532 q1 hm516 hn517).trans hf515
  have hm538 := sb533 _ hm516
  have hm540 := sb533 _ hm506
  refine pl_astq hx hb hG.1 hP hD hS hm538 4 3 hf539 rfl hm540 hf531 rfl (by unfold vp_in; decide) dX0_init_33 (fun H locs f541 r544 er544 hf543 ho542 hP hD hS => ?_)
  have hfr545 : ∀ b, b ∈ L → b ≠ ac → f541 b = f b := fun b hb z0 => (ho542 b (fun e => hnq11 (e ▸ hb))).trans (hfr534 b hb z0)
  have hf546 := (ho542 ac hn14).trans hf537
  have hf547 := (ho542 q501 hn517.symm).trans hf531
  refine lv_iinc (v := 11) (lv' := [(1, .int 11), (0, .ref ac)]) hx hb dX0_init_34 hl (k := 0) rfl (by decide) (by decide) rfl (fun ls hl => ?_)
  refine lv_goto (tgt := 15) hx hb dX0_init_37 (by decide) ?_
  refine lv_iload_n hx hb dX0_init_15 rfl (lv_at hl 0 rfl) ?_
  refine lv_bipush (v := 20) hx hb dX0_init_16 (by decide) ?_
  refine lv_icmp_ge (tgt := 40) hx hb dX0_init_18 (by decide) (fun c548 => absurd c548 (by decide)) (fun c548 => ?_)
  refine lv_aload_n hx hb dX0_init_21 rfl (lv_at hl 1 rfl) ?_
  refine pl_get (v := .ref q1) hx hb hts (fun w h => mT (inX0 w h)) hown hG.1 hP hm536 hf546 rfl 0 (by decide) (hts _ (mT wg_413)) (fun _ h => h) rfl dX0_init_22 ?_
  refine lv_iload_n hx hb dX0_init_25 rfl (lv_at hl 0 rfl) ?_
  refine pl_new (ci := 3) (fs := [.int 0, .int 0, .int 0, .int 0, .int 0, .int 0, .int 0, .long 0, .long 0, .null, .null, .null, .null, .null, .null, .null, .null, .null]) (C := RX3) (T := TX3) (N := 18) hx hb hts (fun w h => mT (inX3 w h)) tyX3 tyX3_ok hown (hts _ (mT wg_410)) (hts _ (mT wg_330)) (hts _ (mT wg_165)) hG.1 hP hD hS hA rfl dvX3 (Nat.le_of_ble_eq_true rfl) (Nat.le_of_ble_eq_true rfl) dX0_init_26 (fun q549 H L550 f551 hq552 hs553 hm554 hf555 ho556 hP hD hS => ?_)
  have hfr557 : ∀ b, b ∈ L → b ≠ ac → f551 b = f b := fun b hb z0 => (ho556 b (hsb535 b hb)).trans (hfr545 b hb z0)
  have hnq559 : q549 ∉ L := fun h => hq552 (hsb535 _ h)
  have hsb558 : ∀ b, b ∈ L → b ∈ _ := fun b hb => hs553 b (hsb535 b hb)
  have hf560 := (ho556 ac hm536).trans hf546
  have hn562 : ac ≠ q549 := fun e => hq552 (e ▸ hm536)
  have hm561 := hs553 _ hm536
  have hf563 := (ho556 q1 hm538).trans hf543
  have hn565 : q1 ≠ q549 := fun e => hq552 (e ▸ hm538)
  have hm564 := hs553 _ hm538
  refine lv_dup hx hb dX0_init_29 rfl ?_
  refine call_v (run_IN (rm := { frames := 1, cells := 9, slots := 258, locals := 12 }) hx hb hml hown hts (k_X3_init l g _ _ _ q549 hm554 hf555) cI_X3_init wn_412 ⟨Nat.le_of_ble_eq_true rfl, Nat.le_of_ble_eq_true rfl⟩ hG hE hA hP hD hS rfl hl.1 (As := []) (rest := [.ref q549, .int 11, .ref q1]) rfl (Nat.le_of_ble_eq_true rfl) dX0_init_30 ⟨Nat.le_of_ble_eq_true rfl, Nat.le_of_ble_eq_true rfl⟩) hA hD hS (fun L567 f568 H locs hp569 hP hD hS => ?_)
  obtain ⟨q570, q571, q572, q573, q574, q575, q576, q577, q578, hf579, fr580, sb581⟩ := hp569
  have hfr582 : ∀ b, b ∈ L → b ≠ ac → f568 b = f b := fun b hb z0 => (fr580 b (hsb558 b hb) (fun e => hnq559 (e ▸ hb))).trans (hfr557 b hb z0)
  have hsb583 : ∀ b, b ∈ L → b ∈ L567 := fun b hb => sb581 b (hsb558 b hb)
  have hf585 := (fr580 ac hm561 hn562).trans hf560
  have hm584 := sb581 _ hm561
  have hf587 := (fr580 q1 hm564 hn565).trans hf563
  have hm586 := sb581 _ hm564
  have hm588 := sb581 _ hm554
  refine pl_astq hx hb hG.1 hP hD hS hm586 4 3 hf587 rfl hm588 hf579 rfl (by unfold vp_in; decide) dX0_init_33 (fun H locs f589 r592 er592 hf591 ho590 hP hD hS => ?_)
  have hfr593 : ∀ b, b ∈ L → b ≠ ac → f589 b = f b := fun b hb z0 => (ho590 b (fun e => hnq11 (e ▸ hb))).trans (hfr582 b hb z0)
  have hf594 := (ho590 ac hn14).trans hf585
  have hf595 := (ho590 q549 hn565.symm).trans hf579
  refine lv_iinc (v := 12) (lv' := [(1, .int 12), (0, .ref ac)]) hx hb dX0_init_34 hl (k := 0) rfl (by decide) (by decide) rfl (fun ls hl => ?_)
  refine lv_goto (tgt := 15) hx hb dX0_init_37 (by decide) ?_
  refine lv_iload_n hx hb dX0_init_15 rfl (lv_at hl 0 rfl) ?_
  refine lv_bipush (v := 20) hx hb dX0_init_16 (by decide) ?_
  refine lv_icmp_ge (tgt := 40) hx hb dX0_init_18 (by decide) (fun c596 => absurd c596 (by decide)) (fun c596 => ?_)
  refine lv_aload_n hx hb dX0_init_21 rfl (lv_at hl 1 rfl) ?_
  refine pl_get (v := .ref q1) hx hb hts (fun w h => mT (inX0 w h)) hown hG.1 hP hm584 hf594 rfl 0 (by decide) (hts _ (mT wg_413)) (fun _ h => h) rfl dX0_init_22 ?_
  refine lv_iload_n hx hb dX0_init_25 rfl (lv_at hl 0 rfl) ?_
  refine pl_new (ci := 3) (fs := [.int 0, .int 0, .int 0, .int 0, .int 0, .int 0, .int 0, .long 0, .long 0, .null, .null, .null, .null, .null, .null, .null, .null, .null]) (C := RX3) (T := TX3) (N := 18) hx hb hts (fun w h => mT (inX3 w h)) tyX3 tyX3_ok hown (hts _ (mT wg_410)) (hts _ (mT wg_330)) (hts _ (mT wg_165)) hG.1 hP hD hS hA rfl dvX3 (Nat.le_of_ble_eq_true rfl) (Nat.le_of_ble_eq_true rfl) dX0_init_26 (fun q597 H L598 f599 hq600 hs601 hm602 hf603 ho604 hP hD hS => ?_)
  have hfr605 : ∀ b, b ∈ L → b ≠ ac → f599 b = f b := fun b hb z0 => (ho604 b (hsb583 b hb)).trans (hfr593 b hb z0)
  have hnq607 : q597 ∉ L := fun h => hq600 (hsb583 _ h)
  have hsb606 : ∀ b, b ∈ L → b ∈ _ := fun b hb => hs601 b (hsb583 b hb)
  have hf608 := (ho604 ac hm584).trans hf594
  have hn610 : ac ≠ q597 := fun e => hq600 (e ▸ hm584)
  have hm609 := hs601 _ hm584
  have hf611 := (ho604 q1 hm586).trans hf591
  have hn613 : q1 ≠ q597 := fun e => hq600 (e ▸ hm586)
  have hm612 := hs601 _ hm586
  refine lv_dup hx hb dX0_init_29 rfl ?_
  refine call_v (run_IN (rm := { frames := 1, cells := 9, slots := 258, locals := 12 }) hx hb hml hown hts (k_X3_init l g _ _ _ q597 hm602 hf603) cI_X3_init wn_412 ⟨Nat.le_of_ble_eq_true rfl, Nat.le_of_ble_eq_true rfl⟩ hG hE hA hP hD hS rfl hl.1 (As := []) (rest := [.ref q597, .int 12, .ref q1]) rfl (Nat.le_of_ble_eq_true rfl) dX0_init_30 ⟨Nat.le_of_ble_eq_true rfl, Nat.le_of_ble_eq_true rfl⟩) hA hD hS (fun L615 f616 H locs hp617 hP hD hS => ?_)
  obtain ⟨q618, q619, q620, q621, q622, q623, q624, q625, q626, hf627, fr628, sb629⟩ := hp617
  have hfr630 : ∀ b, b ∈ L → b ≠ ac → f616 b = f b := fun b hb z0 => (fr628 b (hsb606 b hb) (fun e => hnq607 (e ▸ hb))).trans (hfr605 b hb z0)
  have hsb631 : ∀ b, b ∈ L → b ∈ L615 := fun b hb => sb629 b (hsb606 b hb)
  have hf633 := (fr628 ac hm609 hn610).trans hf608
  have hm632 := sb629 _ hm609
  have hf635 := (fr628 q1 hm612 hn613).trans hf611
  have hm634 := sb629 _ hm612
  have hm636 := sb629 _ hm602
  refine pl_astq hx hb hG.1 hP hD hS hm634 4 3 hf635 rfl hm636 hf627 rfl (by unfold vp_in; decide) dX0_init_33 (fun H locs f637 r640 er640 hf639 ho638 hP hD hS => ?_)
  have hfr641 : ∀ b, b ∈ L → b ≠ ac → f637 b = f b := fun b hb z0 => (ho638 b (fun e => hnq11 (e ▸ hb))).trans (hfr630 b hb z0)
  have hf642 := (ho638 ac hn14).trans hf633
  have hf643 := (ho638 q597 hn613.symm).trans hf627
  refine lv_iinc (v := 13) (lv' := [(1, .int 13), (0, .ref ac)]) hx hb dX0_init_34 hl (k := 0) rfl (by decide) (by decide) rfl (fun ls hl => ?_)
  refine lv_goto (tgt := 15) hx hb dX0_init_37 (by decide) ?_
  refine lv_iload_n hx hb dX0_init_15 rfl (lv_at hl 0 rfl) ?_
  refine lv_bipush (v := 20) hx hb dX0_init_16 (by decide) ?_
  refine lv_icmp_ge (tgt := 40) hx hb dX0_init_18 (by decide) (fun c644 => absurd c644 (by decide)) (fun c644 => ?_)
  refine lv_aload_n hx hb dX0_init_21 rfl (lv_at hl 1 rfl) ?_
  refine pl_get (v := .ref q1) hx hb hts (fun w h => mT (inX0 w h)) hown hG.1 hP hm632 hf642 rfl 0 (by decide) (hts _ (mT wg_413)) (fun _ h => h) rfl dX0_init_22 ?_
  refine lv_iload_n hx hb dX0_init_25 rfl (lv_at hl 0 rfl) ?_
  refine pl_new (ci := 3) (fs := [.int 0, .int 0, .int 0, .int 0, .int 0, .int 0, .int 0, .long 0, .long 0, .null, .null, .null, .null, .null, .null, .null, .null, .null]) (C := RX3) (T := TX3) (N := 18) hx hb hts (fun w h => mT (inX3 w h)) tyX3 tyX3_ok hown (hts _ (mT wg_410)) (hts _ (mT wg_330)) (hts _ (mT wg_165)) hG.1 hP hD hS hA rfl dvX3 (Nat.le_of_ble_eq_true rfl) (Nat.le_of_ble_eq_true rfl) dX0_init_26 (fun q645 H L646 f647 hq648 hs649 hm650 hf651 ho652 hP hD hS => ?_)
  have hfr653 : ∀ b, b ∈ L → b ≠ ac → f647 b = f b := fun b hb z0 => (ho652 b (hsb631 b hb)).trans (hfr641 b hb z0)
  have hnq655 : q645 ∉ L := fun h => hq648 (hsb631 _ h)
  have hsb654 : ∀ b, b ∈ L → b ∈ _ := fun b hb => hs649 b (hsb631 b hb)
  have hf656 := (ho652 ac hm632).trans hf642
  have hn658 : ac ≠ q645 := fun e => hq648 (e ▸ hm632)
  have hm657 := hs649 _ hm632
  have hf659 := (ho652 q1 hm634).trans hf639
  have hn661 : q1 ≠ q645 := fun e => hq648 (e ▸ hm634)
  have hm660 := hs649 _ hm634
  refine lv_dup hx hb dX0_init_29 rfl ?_
  refine call_v (run_IN (rm := { frames := 1, cells := 9, slots := 258, locals := 12 }) hx hb hml hown hts (k_X3_init l g _ _ _ q645 hm650 hf651) cI_X3_init wn_412 ⟨Nat.le_of_ble_eq_true rfl, Nat.le_of_ble_eq_true rfl⟩ hG hE hA hP hD hS rfl hl.1 (As := []) (rest := [.ref q645, .int 13, .ref q1]) rfl (Nat.le_of_ble_eq_true rfl) dX0_init_30 ⟨Nat.le_of_ble_eq_true rfl, Nat.le_of_ble_eq_true rfl⟩) hA hD hS (fun L663 f664 H locs hp665 hP hD hS => ?_)
  obtain ⟨q666, q667, q668, q669, q670, q671, q672, q673, q674, hf675, fr676, sb677⟩ := hp665
  have hfr678 : ∀ b, b ∈ L → b ≠ ac → f664 b = f b := fun b hb z0 => (fr676 b (hsb654 b hb) (fun e => hnq655 (e ▸ hb))).trans (hfr653 b hb z0)
  have hsb679 : ∀ b, b ∈ L → b ∈ L663 := fun b hb => sb677 b (hsb654 b hb)
  have hf681 := (fr676 ac hm657 hn658).trans hf656
  have hm680 := sb677 _ hm657
  have hf683 := (fr676 q1 hm660 hn661).trans hf659
  have hm682 := sb677 _ hm660
  have hm684 := sb677 _ hm650
  refine pl_astq hx hb hG.1 hP hD hS hm682 4 3 hf683 rfl hm684 hf675 rfl (by unfold vp_in; decide) dX0_init_33 (fun H locs f685 r688 er688 hf687 ho686 hP hD hS => ?_)
  have hfr689 : ∀ b, b ∈ L → b ≠ ac → f685 b = f b := fun b hb z0 => (ho686 b (fun e => hnq11 (e ▸ hb))).trans (hfr678 b hb z0)
  have hf690 := (ho686 ac hn14).trans hf681
  have hf691 := (ho686 q645 hn661.symm).trans hf675
  refine lv_iinc (v := 14) (lv' := [(1, .int 14), (0, .ref ac)]) hx hb dX0_init_34 hl (k := 0) rfl (by decide) (by decide) rfl (fun ls hl => ?_)
  refine lv_goto (tgt := 15) hx hb dX0_init_37 (by decide) ?_
  refine lv_iload_n hx hb dX0_init_15 rfl (lv_at hl 0 rfl) ?_
  refine lv_bipush (v := 20) hx hb dX0_init_16 (by decide) ?_
  refine lv_icmp_ge (tgt := 40) hx hb dX0_init_18 (by decide) (fun c692 => absurd c692 (by decide)) (fun c692 => ?_)
  refine lv_aload_n hx hb dX0_init_21 rfl (lv_at hl 1 rfl) ?_
  refine pl_get (v := .ref q1) hx hb hts (fun w h => mT (inX0 w h)) hown hG.1 hP hm680 hf690 rfl 0 (by decide) (hts _ (mT wg_413)) (fun _ h => h) rfl dX0_init_22 ?_
  refine lv_iload_n hx hb dX0_init_25 rfl (lv_at hl 0 rfl) ?_
  refine pl_new (ci := 3) (fs := [.int 0, .int 0, .int 0, .int 0, .int 0, .int 0, .int 0, .long 0, .long 0, .null, .null, .null, .null, .null, .null, .null, .null, .null]) (C := RX3) (T := TX3) (N := 18) hx hb hts (fun w h => mT (inX3 w h)) tyX3 tyX3_ok hown (hts _ (mT wg_410)) (hts _ (mT wg_330)) (hts _ (mT wg_165)) hG.1 hP hD hS hA rfl dvX3 (Nat.le_of_ble_eq_true rfl) (Nat.le_of_ble_eq_true rfl) dX0_init_26 (fun q693 H L694 f695 hq696 hs697 hm698 hf699 ho700 hP hD hS => ?_)
  have hfr701 : ∀ b, b ∈ L → b ≠ ac → f695 b = f b := fun b hb z0 => (ho700 b (hsb679 b hb)).trans (hfr689 b hb z0)
  have hnq703 : q693 ∉ L := fun h => hq696 (hsb679 _ h)
  have hsb702 : ∀ b, b ∈ L → b ∈ _ := fun b hb => hs697 b (hsb679 b hb)
  have hf704 := (ho700 ac hm680).trans hf690
  have hn706 : ac ≠ q693 := fun e => hq696 (e ▸ hm680)
  have hm705 := hs697 _ hm680
  have hf707 := (ho700 q1 hm682).trans hf687
  have hn709 : q1 ≠ q693 := fun e => hq696 (e ▸ hm682)
  have hm708 := hs697 _ hm682
  refine lv_dup hx hb dX0_init_29 rfl ?_
  refine call_v (run_IN (rm := { frames := 1, cells := 9, slots := 258, locals := 12 }) hx hb hml hown hts (k_X3_init l g _ _ _ q693 hm698 hf699) cI_X3_init wn_412 ⟨Nat.le_of_ble_eq_true rfl, Nat.le_of_ble_eq_true rfl⟩ hG hE hA hP hD hS rfl hl.1 (As := []) (rest := [.ref q693, .int 14, .ref q1]) rfl (Nat.le_of_ble_eq_true rfl) dX0_init_30 ⟨Nat.le_of_ble_eq_true rfl, Nat.le_of_ble_eq_true rfl⟩) hA hD hS (fun L711 f712 H locs hp713 hP hD hS => ?_)
  obtain ⟨q714, q715, q716, q717, q718, q719, q720, q721, q722, hf723, fr724, sb725⟩ := hp713
  have hfr726 : ∀ b, b ∈ L → b ≠ ac → f712 b = f b := fun b hb z0 => (fr724 b (hsb702 b hb) (fun e => hnq703 (e ▸ hb))).trans (hfr701 b hb z0)
  have hsb727 : ∀ b, b ∈ L → b ∈ L711 := fun b hb => sb725 b (hsb702 b hb)
  have hf729 := (fr724 ac hm705 hn706).trans hf704
  have hm728 := sb725 _ hm705
  have hf731 := (fr724 q1 hm708 hn709).trans hf707
  have hm730 := sb725 _ hm708
  have hm732 := sb725 _ hm698
  refine pl_astq hx hb hG.1 hP hD hS hm730 4 3 hf731 rfl hm732 hf723 rfl (by unfold vp_in; decide) dX0_init_33 (fun H locs f733 r736 er736 hf735 ho734 hP hD hS => ?_)
  have hfr737 : ∀ b, b ∈ L → b ≠ ac → f733 b = f b := fun b hb z0 => (ho734 b (fun e => hnq11 (e ▸ hb))).trans (hfr726 b hb z0)
  have hf738 := (ho734 ac hn14).trans hf729
  have hf739 := (ho734 q693 hn709.symm).trans hf723
  refine lv_iinc (v := 15) (lv' := [(1, .int 15), (0, .ref ac)]) hx hb dX0_init_34 hl (k := 0) rfl (by decide) (by decide) rfl (fun ls hl => ?_)
  refine lv_goto (tgt := 15) hx hb dX0_init_37 (by decide) ?_
  refine lv_iload_n hx hb dX0_init_15 rfl (lv_at hl 0 rfl) ?_
  refine lv_bipush (v := 20) hx hb dX0_init_16 (by decide) ?_
  refine lv_icmp_ge (tgt := 40) hx hb dX0_init_18 (by decide) (fun c740 => absurd c740 (by decide)) (fun c740 => ?_)
  refine lv_aload_n hx hb dX0_init_21 rfl (lv_at hl 1 rfl) ?_
  refine pl_get (v := .ref q1) hx hb hts (fun w h => mT (inX0 w h)) hown hG.1 hP hm728 hf738 rfl 0 (by decide) (hts _ (mT wg_413)) (fun _ h => h) rfl dX0_init_22 ?_
  refine lv_iload_n hx hb dX0_init_25 rfl (lv_at hl 0 rfl) ?_
  refine pl_new (ci := 3) (fs := [.int 0, .int 0, .int 0, .int 0, .int 0, .int 0, .int 0, .long 0, .long 0, .null, .null, .null, .null, .null, .null, .null, .null, .null]) (C := RX3) (T := TX3) (N := 18) hx hb hts (fun w h => mT (inX3 w h)) tyX3 tyX3_ok hown (hts _ (mT wg_410)) (hts _ (mT wg_330)) (hts _ (mT wg_165)) hG.1 hP hD hS hA rfl dvX3 (Nat.le_of_ble_eq_true rfl) (Nat.le_of_ble_eq_true rfl) dX0_init_26 (fun q741 H L742 f743 hq744 hs745 hm746 hf747 ho748 hP hD hS => ?_)
  have hfr749 : ∀ b, b ∈ L → b ≠ ac → f743 b = f b := fun b hb z0 => (ho748 b (hsb727 b hb)).trans (hfr737 b hb z0)
  have hnq751 : q741 ∉ L := fun h => hq744 (hsb727 _ h)
  have hsb750 : ∀ b, b ∈ L → b ∈ _ := fun b hb => hs745 b (hsb727 b hb)
  have hf752 := (ho748 ac hm728).trans hf738
  have hn754 : ac ≠ q741 := fun e => hq744 (e ▸ hm728)
  have hm753 := hs745 _ hm728
  have hf755 := (ho748 q1 hm730).trans hf735
  have hn757 : q1 ≠ q741 := fun e => hq744 (e ▸ hm730)
  have hm756 := hs745 _ hm730
  refine lv_dup hx hb dX0_init_29 rfl ?_
  refine call_v (run_IN (rm := { frames := 1, cells := 9, slots := 258, locals := 12 }) hx hb hml hown hts (k_X3_init l g _ _ _ q741 hm746 hf747) cI_X3_init wn_412 ⟨Nat.le_of_ble_eq_true rfl, Nat.le_of_ble_eq_true rfl⟩ hG hE hA hP hD hS rfl hl.1 (As := []) (rest := [.ref q741, .int 15, .ref q1]) rfl (Nat.le_of_ble_eq_true rfl) dX0_init_30 ⟨Nat.le_of_ble_eq_true rfl, Nat.le_of_ble_eq_true rfl⟩) hA hD hS (fun L759 f760 H locs hp761 hP hD hS => ?_)
  obtain ⟨q762, q763, q764, q765, q766, q767, q768, q769, q770, hf771, fr772, sb773⟩ := hp761
  have hfr774 : ∀ b, b ∈ L → b ≠ ac → f760 b = f b := fun b hb z0 => (fr772 b (hsb750 b hb) (fun e => hnq751 (e ▸ hb))).trans (hfr749 b hb z0)
  have hsb775 : ∀ b, b ∈ L → b ∈ L759 := fun b hb => sb773 b (hsb750 b hb)
  have hf777 := (fr772 ac hm753 hn754).trans hf752
  have hm776 := sb773 _ hm753
  have hf779 := (fr772 q1 hm756 hn757).trans hf755
  have hm778 := sb773 _ hm756
  have hm780 := sb773 _ hm746
  refine pl_astq hx hb hG.1 hP hD hS hm778 4 3 hf779 rfl hm780 hf771 rfl (by unfold vp_in; decide) dX0_init_33 (fun H locs f781 r784 er784 hf783 ho782 hP hD hS => ?_)
  have hfr785 : ∀ b, b ∈ L → b ≠ ac → f781 b = f b := fun b hb z0 => (ho782 b (fun e => hnq11 (e ▸ hb))).trans (hfr774 b hb z0)
  have hf786 := (ho782 ac hn14).trans hf777
  have hf787 := (ho782 q741 hn757.symm).trans hf771
  refine lv_iinc (v := 16) (lv' := [(1, .int 16), (0, .ref ac)]) hx hb dX0_init_34 hl (k := 0) rfl (by decide) (by decide) rfl (fun ls hl => ?_)
  refine lv_goto (tgt := 15) hx hb dX0_init_37 (by decide) ?_
  refine lv_iload_n hx hb dX0_init_15 rfl (lv_at hl 0 rfl) ?_
  refine lv_bipush (v := 20) hx hb dX0_init_16 (by decide) ?_
  refine lv_icmp_ge (tgt := 40) hx hb dX0_init_18 (by decide) (fun c788 => absurd c788 (by decide)) (fun c788 => ?_)
  refine lv_aload_n hx hb dX0_init_21 rfl (lv_at hl 1 rfl) ?_
  refine pl_get (v := .ref q1) hx hb hts (fun w h => mT (inX0 w h)) hown hG.1 hP hm776 hf786 rfl 0 (by decide) (hts _ (mT wg_413)) (fun _ h => h) rfl dX0_init_22 ?_
  refine lv_iload_n hx hb dX0_init_25 rfl (lv_at hl 0 rfl) ?_
  refine pl_new (ci := 3) (fs := [.int 0, .int 0, .int 0, .int 0, .int 0, .int 0, .int 0, .long 0, .long 0, .null, .null, .null, .null, .null, .null, .null, .null, .null]) (C := RX3) (T := TX3) (N := 18) hx hb hts (fun w h => mT (inX3 w h)) tyX3 tyX3_ok hown (hts _ (mT wg_410)) (hts _ (mT wg_330)) (hts _ (mT wg_165)) hG.1 hP hD hS hA rfl dvX3 (Nat.le_of_ble_eq_true rfl) (Nat.le_of_ble_eq_true rfl) dX0_init_26 (fun q789 H L790 f791 hq792 hs793 hm794 hf795 ho796 hP hD hS => ?_)
  have hfr797 : ∀ b, b ∈ L → b ≠ ac → f791 b = f b := fun b hb z0 => (ho796 b (hsb775 b hb)).trans (hfr785 b hb z0)
  have hnq799 : q789 ∉ L := fun h => hq792 (hsb775 _ h)
  have hsb798 : ∀ b, b ∈ L → b ∈ _ := fun b hb => hs793 b (hsb775 b hb)
  have hf800 := (ho796 ac hm776).trans hf786
  have hn802 : ac ≠ q789 := fun e => hq792 (e ▸ hm776)
  have hm801 := hs793 _ hm776
  have hf803 := (ho796 q1 hm778).trans hf783
  have hn805 : q1 ≠ q789 := fun e => hq792 (e ▸ hm778)
  have hm804 := hs793 _ hm778
  refine lv_dup hx hb dX0_init_29 rfl ?_
  refine call_v (run_IN (rm := { frames := 1, cells := 9, slots := 258, locals := 12 }) hx hb hml hown hts (k_X3_init l g _ _ _ q789 hm794 hf795) cI_X3_init wn_412 ⟨Nat.le_of_ble_eq_true rfl, Nat.le_of_ble_eq_true rfl⟩ hG hE hA hP hD hS rfl hl.1 (As := []) (rest := [.ref q789, .int 16, .ref q1]) rfl (Nat.le_of_ble_eq_true rfl) dX0_init_30 ⟨Nat.le_of_ble_eq_true rfl, Nat.le_of_ble_eq_true rfl⟩) hA hD hS (fun L807 f808 H locs hp809 hP hD hS => ?_)
  obtain ⟨q810, q811, q812, q813, q814, q815, q816, q817, q818, hf819, fr820, sb821⟩ := hp809
  have hfr822 : ∀ b, b ∈ L → b ≠ ac → f808 b = f b := fun b hb z0 => (fr820 b (hsb798 b hb) (fun e => hnq799 (e ▸ hb))).trans (hfr797 b hb z0)
  have hsb823 : ∀ b, b ∈ L → b ∈ L807 := fun b hb => sb821 b (hsb798 b hb)
  have hf825 := (fr820 ac hm801 hn802).trans hf800
  have hm824 := sb821 _ hm801
  have hf827 := (fr820 q1 hm804 hn805).trans hf803
  have hm826 := sb821 _ hm804
  have hm828 := sb821 _ hm794
  refine pl_astq hx hb hG.1 hP hD hS hm826 4 3 hf827 rfl hm828 hf819 rfl (by unfold vp_in; decide) dX0_init_33 (fun H locs f829 r832 er832 hf831 ho830 hP hD hS => ?_)
  have hfr833 : ∀ b, b ∈ L → b ≠ ac → f829 b = f b := fun b hb z0 => (ho830 b (fun e => hnq11 (e ▸ hb))).trans (hfr822 b hb z0)
  have hf834 := (ho830 ac hn14).trans hf825
  have hf835 := (ho830 q789 hn805.symm).trans hf819
  refine lv_iinc (v := 17) (lv' := [(1, .int 17), (0, .ref ac)]) hx hb dX0_init_34 hl (k := 0) rfl (by decide) (by decide) rfl (fun ls hl => ?_)
  refine lv_goto (tgt := 15) hx hb dX0_init_37 (by decide) ?_
  refine lv_iload_n hx hb dX0_init_15 rfl (lv_at hl 0 rfl) ?_
  refine lv_bipush (v := 20) hx hb dX0_init_16 (by decide) ?_
  refine lv_icmp_ge (tgt := 40) hx hb dX0_init_18 (by decide) (fun c836 => absurd c836 (by decide)) (fun c836 => ?_)
  refine lv_aload_n hx hb dX0_init_21 rfl (lv_at hl 1 rfl) ?_
  refine pl_get (v := .ref q1) hx hb hts (fun w h => mT (inX0 w h)) hown hG.1 hP hm824 hf834 rfl 0 (by decide) (hts _ (mT wg_413)) (fun _ h => h) rfl dX0_init_22 ?_
  refine lv_iload_n hx hb dX0_init_25 rfl (lv_at hl 0 rfl) ?_
  refine pl_new (ci := 3) (fs := [.int 0, .int 0, .int 0, .int 0, .int 0, .int 0, .int 0, .long 0, .long 0, .null, .null, .null, .null, .null, .null, .null, .null, .null]) (C := RX3) (T := TX3) (N := 18) hx hb hts (fun w h => mT (inX3 w h)) tyX3 tyX3_ok hown (hts _ (mT wg_410)) (hts _ (mT wg_330)) (hts _ (mT wg_165)) hG.1 hP hD hS hA rfl dvX3 (Nat.le_of_ble_eq_true rfl) (Nat.le_of_ble_eq_true rfl) dX0_init_26 (fun q837 H L838 f839 hq840 hs841 hm842 hf843 ho844 hP hD hS => ?_)
  have hfr845 : ∀ b, b ∈ L → b ≠ ac → f839 b = f b := fun b hb z0 => (ho844 b (hsb823 b hb)).trans (hfr833 b hb z0)
  have hnq847 : q837 ∉ L := fun h => hq840 (hsb823 _ h)
  have hsb846 : ∀ b, b ∈ L → b ∈ _ := fun b hb => hs841 b (hsb823 b hb)
  have hf848 := (ho844 ac hm824).trans hf834
  have hn850 : ac ≠ q837 := fun e => hq840 (e ▸ hm824)
  have hm849 := hs841 _ hm824
  have hf851 := (ho844 q1 hm826).trans hf831
  have hn853 : q1 ≠ q837 := fun e => hq840 (e ▸ hm826)
  have hm852 := hs841 _ hm826
  refine lv_dup hx hb dX0_init_29 rfl ?_
  refine call_v (run_IN (rm := { frames := 1, cells := 9, slots := 258, locals := 12 }) hx hb hml hown hts (k_X3_init l g _ _ _ q837 hm842 hf843) cI_X3_init wn_412 ⟨Nat.le_of_ble_eq_true rfl, Nat.le_of_ble_eq_true rfl⟩ hG hE hA hP hD hS rfl hl.1 (As := []) (rest := [.ref q837, .int 17, .ref q1]) rfl (Nat.le_of_ble_eq_true rfl) dX0_init_30 ⟨Nat.le_of_ble_eq_true rfl, Nat.le_of_ble_eq_true rfl⟩) hA hD hS (fun L855 f856 H locs hp857 hP hD hS => ?_)
  obtain ⟨q858, q859, q860, q861, q862, q863, q864, q865, q866, hf867, fr868, sb869⟩ := hp857
  have hfr870 : ∀ b, b ∈ L → b ≠ ac → f856 b = f b := fun b hb z0 => (fr868 b (hsb846 b hb) (fun e => hnq847 (e ▸ hb))).trans (hfr845 b hb z0)
  have hsb871 : ∀ b, b ∈ L → b ∈ L855 := fun b hb => sb869 b (hsb846 b hb)
  have hf873 := (fr868 ac hm849 hn850).trans hf848
  have hm872 := sb869 _ hm849
  have hf875 := (fr868 q1 hm852 hn853).trans hf851
  have hm874 := sb869 _ hm852
  have hm876 := sb869 _ hm842
  refine pl_astq hx hb hG.1 hP hD hS hm874 4 3 hf875 rfl hm876 hf867 rfl (by unfold vp_in; decide) dX0_init_33 (fun H locs f877 r880 er880 hf879 ho878 hP hD hS => ?_)
  have hfr881 : ∀ b, b ∈ L → b ≠ ac → f877 b = f b := fun b hb z0 => (ho878 b (fun e => hnq11 (e ▸ hb))).trans (hfr870 b hb z0)
  have hf882 := (ho878 ac hn14).trans hf873
  have hf883 := (ho878 q837 hn853.symm).trans hf867
  refine lv_iinc (v := 18) (lv' := [(1, .int 18), (0, .ref ac)]) hx hb dX0_init_34 hl (k := 0) rfl (by decide) (by decide) rfl (fun ls hl => ?_)
  refine lv_goto (tgt := 15) hx hb dX0_init_37 (by decide) ?_
  refine lv_iload_n hx hb dX0_init_15 rfl (lv_at hl 0 rfl) ?_
  refine lv_bipush (v := 20) hx hb dX0_init_16 (by decide) ?_
  refine lv_icmp_ge (tgt := 40) hx hb dX0_init_18 (by decide) (fun c884 => absurd c884 (by decide)) (fun c884 => ?_)
  refine lv_aload_n hx hb dX0_init_21 rfl (lv_at hl 1 rfl) ?_
  refine pl_get (v := .ref q1) hx hb hts (fun w h => mT (inX0 w h)) hown hG.1 hP hm872 hf882 rfl 0 (by decide) (hts _ (mT wg_413)) (fun _ h => h) rfl dX0_init_22 ?_
  refine lv_iload_n hx hb dX0_init_25 rfl (lv_at hl 0 rfl) ?_
  refine pl_new (ci := 3) (fs := [.int 0, .int 0, .int 0, .int 0, .int 0, .int 0, .int 0, .long 0, .long 0, .null, .null, .null, .null, .null, .null, .null, .null, .null]) (C := RX3) (T := TX3) (N := 18) hx hb hts (fun w h => mT (inX3 w h)) tyX3 tyX3_ok hown (hts _ (mT wg_410)) (hts _ (mT wg_330)) (hts _ (mT wg_165)) hG.1 hP hD hS hA rfl dvX3 (Nat.le_of_ble_eq_true rfl) (Nat.le_of_ble_eq_true rfl) dX0_init_26 (fun q885 H L886 f887 hq888 hs889 hm890 hf891 ho892 hP hD hS => ?_)
  have hfr893 : ∀ b, b ∈ L → b ≠ ac → f887 b = f b := fun b hb z0 => (ho892 b (hsb871 b hb)).trans (hfr881 b hb z0)
  have hnq895 : q885 ∉ L := fun h => hq888 (hsb871 _ h)
  have hsb894 : ∀ b, b ∈ L → b ∈ _ := fun b hb => hs889 b (hsb871 b hb)
  have hf896 := (ho892 ac hm872).trans hf882
  have hn898 : ac ≠ q885 := fun e => hq888 (e ▸ hm872)
  have hm897 := hs889 _ hm872
  have hf899 := (ho892 q1 hm874).trans hf879
  have hn901 : q1 ≠ q885 := fun e => hq888 (e ▸ hm874)
  have hm900 := hs889 _ hm874
  refine lv_dup hx hb dX0_init_29 rfl ?_
  refine call_v (run_IN (rm := { frames := 1, cells := 9, slots := 258, locals := 12 }) hx hb hml hown hts (k_X3_init l g _ _ _ q885 hm890 hf891) cI_X3_init wn_412 ⟨Nat.le_of_ble_eq_true rfl, Nat.le_of_ble_eq_true rfl⟩ hG hE hA hP hD hS rfl hl.1 (As := []) (rest := [.ref q885, .int 18, .ref q1]) rfl (Nat.le_of_ble_eq_true rfl) dX0_init_30 ⟨Nat.le_of_ble_eq_true rfl, Nat.le_of_ble_eq_true rfl⟩) hA hD hS (fun L903 f904 H locs hp905 hP hD hS => ?_)
  obtain ⟨q906, q907, q908, q909, q910, q911, q912, q913, q914, hf915, fr916, sb917⟩ := hp905
  have hfr918 : ∀ b, b ∈ L → b ≠ ac → f904 b = f b := fun b hb z0 => (fr916 b (hsb894 b hb) (fun e => hnq895 (e ▸ hb))).trans (hfr893 b hb z0)
  have hsb919 : ∀ b, b ∈ L → b ∈ L903 := fun b hb => sb917 b (hsb894 b hb)
  have hf921 := (fr916 ac hm897 hn898).trans hf896
  have hm920 := sb917 _ hm897
  have hf923 := (fr916 q1 hm900 hn901).trans hf899
  have hm922 := sb917 _ hm900
  have hm924 := sb917 _ hm890
  refine pl_astq hx hb hG.1 hP hD hS hm922 4 3 hf923 rfl hm924 hf915 rfl (by unfold vp_in; decide) dX0_init_33 (fun H locs f925 r928 er928 hf927 ho926 hP hD hS => ?_)
  have hfr929 : ∀ b, b ∈ L → b ≠ ac → f925 b = f b := fun b hb z0 => (ho926 b (fun e => hnq11 (e ▸ hb))).trans (hfr918 b hb z0)
  have hf930 := (ho926 ac hn14).trans hf921
  have hf931 := (ho926 q885 hn901.symm).trans hf915
  refine lv_iinc (v := 19) (lv' := [(1, .int 19), (0, .ref ac)]) hx hb dX0_init_34 hl (k := 0) rfl (by decide) (by decide) rfl (fun ls hl => ?_)
  refine lv_goto (tgt := 15) hx hb dX0_init_37 (by decide) ?_
  refine lv_iload_n hx hb dX0_init_15 rfl (lv_at hl 0 rfl) ?_
  refine lv_bipush (v := 20) hx hb dX0_init_16 (by decide) ?_
  refine lv_icmp_ge (tgt := 40) hx hb dX0_init_18 (by decide) (fun c932 => absurd c932 (by decide)) (fun c932 => ?_)
  refine lv_aload_n hx hb dX0_init_21 rfl (lv_at hl 1 rfl) ?_
  refine pl_get (v := .ref q1) hx hb hts (fun w h => mT (inX0 w h)) hown hG.1 hP hm920 hf930 rfl 0 (by decide) (hts _ (mT wg_413)) (fun _ h => h) rfl dX0_init_22 ?_
  refine lv_iload_n hx hb dX0_init_25 rfl (lv_at hl 0 rfl) ?_
  refine pl_new (ci := 3) (fs := [.int 0, .int 0, .int 0, .int 0, .int 0, .int 0, .int 0, .long 0, .long 0, .null, .null, .null, .null, .null, .null, .null, .null, .null]) (C := RX3) (T := TX3) (N := 18) hx hb hts (fun w h => mT (inX3 w h)) tyX3 tyX3_ok hown (hts _ (mT wg_410)) (hts _ (mT wg_330)) (hts _ (mT wg_165)) hG.1 hP hD hS hA rfl dvX3 (Nat.le_of_ble_eq_true rfl) (Nat.le_of_ble_eq_true rfl) dX0_init_26 (fun q933 H L934 f935 hq936 hs937 hm938 hf939 ho940 hP hD hS => ?_)
  have hfr941 : ∀ b, b ∈ L → b ≠ ac → f935 b = f b := fun b hb z0 => (ho940 b (hsb919 b hb)).trans (hfr929 b hb z0)
  have hnq943 : q933 ∉ L := fun h => hq936 (hsb919 _ h)
  have hsb942 : ∀ b, b ∈ L → b ∈ _ := fun b hb => hs937 b (hsb919 b hb)
  have hf944 := (ho940 ac hm920).trans hf930
  have hn946 : ac ≠ q933 := fun e => hq936 (e ▸ hm920)
  have hm945 := hs937 _ hm920
  have hf947 := (ho940 q1 hm922).trans hf927
  have hn949 : q1 ≠ q933 := fun e => hq936 (e ▸ hm922)
  have hm948 := hs937 _ hm922
  refine lv_dup hx hb dX0_init_29 rfl ?_
  refine call_v (run_IN (rm := { frames := 1, cells := 9, slots := 258, locals := 12 }) hx hb hml hown hts (k_X3_init l g _ _ _ q933 hm938 hf939) cI_X3_init wn_412 ⟨Nat.le_of_ble_eq_true rfl, Nat.le_of_ble_eq_true rfl⟩ hG hE hA hP hD hS rfl hl.1 (As := []) (rest := [.ref q933, .int 19, .ref q1]) rfl (Nat.le_of_ble_eq_true rfl) dX0_init_30 ⟨Nat.le_of_ble_eq_true rfl, Nat.le_of_ble_eq_true rfl⟩) hA hD hS (fun L951 f952 H locs hp953 hP hD hS => ?_)
  obtain ⟨q954, q955, q956, q957, q958, q959, q960, q961, q962, hf963, fr964, sb965⟩ := hp953
  have hfr966 : ∀ b, b ∈ L → b ≠ ac → f952 b = f b := fun b hb z0 => (fr964 b (hsb942 b hb) (fun e => hnq943 (e ▸ hb))).trans (hfr941 b hb z0)
  have hsb967 : ∀ b, b ∈ L → b ∈ L951 := fun b hb => sb965 b (hsb942 b hb)
  have hf969 := (fr964 ac hm945 hn946).trans hf944
  have hm968 := sb965 _ hm945
  have hf971 := (fr964 q1 hm948 hn949).trans hf947
  have hm970 := sb965 _ hm948
  have hm972 := sb965 _ hm938
  refine pl_astq hx hb hG.1 hP hD hS hm970 4 3 hf971 rfl hm972 hf963 rfl (by unfold vp_in; decide) dX0_init_33 (fun H locs f973 r976 er976 hf975 ho974 hP hD hS => ?_)
  have hfr977 : ∀ b, b ∈ L → b ≠ ac → f973 b = f b := fun b hb z0 => (ho974 b (fun e => hnq11 (e ▸ hb))).trans (hfr966 b hb z0)
  have hf978 := (ho974 ac hn14).trans hf969
  have hf979 := (ho974 q933 hn949.symm).trans hf963
  refine lv_iinc (v := 20) (lv' := [(1, .int 20), (0, .ref ac)]) hx hb dX0_init_34 hl (k := 0) rfl (by decide) (by decide) rfl (fun ls hl => ?_)
  refine lv_goto (tgt := 15) hx hb dX0_init_37 (by decide) ?_
  refine lv_iload_n hx hb dX0_init_15 rfl (lv_at hl 0 rfl) ?_
  refine lv_bipush (v := 20) hx hb dX0_init_16 (by decide) ?_
  refine lv_icmp_ge (tgt := 40) hx hb dX0_init_18 (by decide) (fun c980 => ?_) (fun c980 => absurd (by decide) c980)
  exact ret_v hx hb hr hlocks hP hD hS (Nat.le_of_ble_eq_true rfl) (Nat.le_of_ble_eq_true rfl) (⟨q1, hf978, hfr977, hsb967⟩) dX0_init_40

set_option maxHeartbeats 4000000 in
set_option maxRecDepth 100000 in
theorem k_X7_init (l : Launch) (g : GG) (L : List Nat) (f : HP) (sz : Nat) (se : Nat) (hm_se : se ∈ L) (hf_se : f se = .inr (7, [.null, .null, .null, .null, .null, .null, .int 0, .int 0, .int 0, .int 0, .int 0, .int 0, .int 0, .int 0])) : MtV l g yX7_init cX7_init 1 ({ frames := 2, cells := 6, slots := 288, locals := 32 }) [.ref se] L f sz (fun u => ∃ (s0 : Nat) (s1 : Nat) (s2 : Nat) (s3 : Nat) (s4 : Nat) (s5 : Nat), u.2 se = .inr (7, [.ref s0, .ref s1, .ref s2, .ref s3, .ref s4, .ref s5, .int 0, .int 0, .int 0, .int 0, .int 0, .int 0, .int 0, .int 0]) ∧ (∀ b, b ∈ L → b ≠ se → u.2 b = f b) ∧ (∀ b, b ∈ L → b ∈ u.1)) := by
  refine MtV.of (by decide +kernel) (Nat.le_of_ble_eq_true rfl) ?_
  intro p e s m below meth c A hEn hP hD hS ls hl
  obtain ⟨hx, hb, hr, hml, hown, hlocks, hts, hG, hA, hE, hnm⟩ := hEn
  have hown : s.vm.findClass "RulerWord$Search" = some m.cls := hown
  have hl : lv_has ls 1 [(0, .ref se)] := hl
  have hfr0 : ∀ b, b ∈ L → b ≠ se → f b = f b := fun b hb z0 => rfl
  have hsb0 : ∀ b, b ∈ L → b ∈ L := fun b hb => hb
  refine lv_aload_n hx hb dX7_init_0 rfl (lv_at hl 0 rfl) ?_
  refine W.objInit hx hb hown (hts _ (mT wg_429)) (hts _ (mT wg_187)) (hts _ (mT wg_objInit)) rfl (by rw [hml]; exact hl.1) rfl dX7_init_1 (Nat.le_of_ble_eq_true rfl) (Nat.le_of_ble_eq_true rfl) ?_
  refine W.eq (g2 := F0 m 4 ls []) rfl ?_
  refine lv_aload_n hx hb dX7_init_4 rfl (lv_at hl 0 rfl) ?_
  refine pl_new (ci := 2) (fs := [.int 0, .int 0, .int 0, .int 0, .int 0, .int 0, .int 0, .int 0]) (C := RX2) (T := TX2) (N := 8) hx hb hts (fun w h => mT (inX2 w h)) tyX2 tyX2_ok hown (hts _ (mT wg_430)) (hts _ (mT wg_219)) (hts _ (mT wg_159)) hG.1 hP hD hS hA rfl dvX2 (Nat.le_of_ble_eq_true rfl) (Nat.le_of_ble_eq_true rfl) dX7_init_5 (fun q1 H L2 f3 hq4 hs5 hm6 hf7 ho8 hP hD hS => ?_)
  have hfr9 : ∀ b, b ∈ L → b ≠ se → f3 b = f b := fun b hb z0 => (ho8 b (hsb0 b hb)).trans (hfr0 b hb z0)
  have hnq11 : q1 ∉ L := fun h => hq4 (hsb0 _ h)
  have hsb10 : ∀ b, b ∈ L → b ∈ _ := fun b hb => hs5 b (hsb0 b hb)
  have hf12 := (ho8 se hm_se).trans hf_se
  have hn14 : se ≠ q1 := fun e => hq4 (e ▸ hm_se)
  have hm13 := hs5 _ hm_se
  refine lv_dup hx hb dX7_init_8 rfl ?_
  refine call_v (run_IN (rm := { frames := 1, cells := 0, slots := 0, locals := 12 }) hx hb hml hown hts (k_X2_init l g _ _ _ q1 hm6 hf7) cI_X2_init wn_431 ⟨Nat.le_of_ble_eq_true rfl, Nat.le_of_ble_eq_true rfl⟩ hG hE hA hP hD hS rfl hl.1 (As := []) (rest := [.ref q1, .ref se]) rfl (Nat.le_of_ble_eq_true rfl) dX7_init_9 ⟨Nat.le_of_ble_eq_true rfl, Nat.le_of_ble_eq_true rfl⟩) hA hD hS (fun L16 f17 H locs hp18 hP hD hS => ?_)
  obtain ⟨fr19, sb20⟩ := hp18
  have hfr21 : ∀ b, b ∈ L → b ≠ se → f17 b = f b := fun b hb z0 => (fr19 b (hsb10 b hb) ).trans (hfr9 b hb z0)
  have hsb22 : ∀ b, b ∈ L → b ∈ L16 := fun b hb => sb20 b (hsb10 b hb)
  have hf24 := (fr19 se hm13 ).trans hf12
  have hm23 := sb20 _ hm13
  have hf26 := (fr19 q1 hm6 ).trans hf7
  have hm25 := sb20 _ hm6
  refine pl_putF (ty := (.object "RulerWord$Council")) (v := .ref q1) (fs' := [.ref q1, .null, .null, .null, .null, .null, .int 0, .int 0, .int 0, .int 0, .int 0, .int 0, .int 0, .int 0]) hx hb hts (fun w h => mT (inX7 w h)) tyX7 tyX7_ok nmX7 hown hG.1 hP hD hS hm23 hf24 rfl 0 (by decide) (hts _ (mT wg_432)) (fun _ h => h) rfl hnm rfl (by decide +kernel) (rfl) (rfl) (Nat.le_of_ble_eq_true rfl) rfl dX7_init_12 (fun H locs f27 hf29 ho28 hP hD hS => ?_)
  have hfr30 : ∀ b, b ∈ L → b ≠ se → f27 b = f b := fun b hb z0 => (ho28 b z0).trans (hfr21 b hb z0)
  have hf31 := (ho28 q1 hn14.symm).trans hf26
  refine lv_aload_n hx hb dX7_init_15 rfl (lv_at hl 0 rfl) ?_
  refine lv_bipush (v := 9) hx hb dX7_init_16 (by decide) ?_
  refine pl_newa (atype := .int) (ty := .int) (N' := 9) (a0 := (9, .inl (fun _ => 0))) hx hb (hts _ (mT wg_217)) rfl hG.1 hP hD hS hA 0 rfl (fun _ h => h) (fun _ => rfl) (by decide) (by decide) (Nat.le_of_ble_eq_true rfl) (Nat.le_of_ble_eq_true rfl) (Nat.le_of_ble_eq_true rfl) dX7_init_18 (fun q32 H L33 f34 hq35 hs36 hm37 hf38 ho39 hP hD hS => ?_)
  have hfr40 : ∀ b, b ∈ L → b ≠ se → f34 b = f b := fun b hb z0 => (ho39 b (hsb22 b hb)).trans (hfr30 b hb z0)
  have hnq42 : q32 ∉ L := fun h => hq35 (hsb22 _ h)
  have hsb41 : ∀ b, b ∈ L → b ∈ _ := fun b hb => hs36 b (hsb22 b hb)
  have hf43 := (ho39 se hm23).trans hf29
  have hn45 : se ≠ q32 := fun e => hq35 (e ▸ hm23)
  have hm44 := hs36 _ hm23
  refine pl_putF (ty := (.array .int)) (v := .ref q32) (fs' := [.ref q1, .ref q32, .null, .null, .null, .null, .int 0, .int 0, .int 0, .int 0, .int 0, .int 0, .int 0, .int 0]) hx hb hts (fun w h => mT (inX7 w h)) tyX7 tyX7_ok nmX7 hown hG.1 hP hD hS hm44 hf43 rfl 1 (by decide) (hts _ (mT wg_433)) (fun _ h => h) rfl hnm rfl (by decide +kernel) (rfl) (rfl) (Nat.le_of_ble_eq_true rfl) rfl dX7_init_20 (fun H locs f46 hf48 ho47 hP hD hS => ?_)
  have hfr49 : ∀ b, b ∈ L → b ≠ se → f46 b = f b := fun b hb z0 => (ho47 b z0).trans (hfr40 b hb z0)
  have hf50 := (ho47 q32 hn45.symm).trans hf38
  refine lv_aload_n hx hb dX7_init_23 rfl (lv_at hl 0 rfl) ?_
  refine lv_bipush (v := 7) hx hb dX7_init_24 (by decide) ?_
  refine pl_newa (atype := .int) (ty := .int) (N' := 7) (a0 := (7, .inl (fun _ => 0))) hx hb (hts _ (mT wg_217)) rfl hG.1 hP hD hS hA 0 rfl (fun _ h => h) (fun _ => rfl) (by decide) (by decide) (Nat.le_of_ble_eq_true rfl) (Nat.le_of_ble_eq_true rfl) (Nat.le_of_ble_eq_true rfl) dX7_init_26 (fun q51 H L52 f53 hq54 hs55 hm56 hf57 ho58 hP hD hS => ?_)
  have hfr59 : ∀ b, b ∈ L → b ≠ se → f53 b = f b := fun b hb z0 => (ho58 b (hsb41 b hb)).trans (hfr49 b hb z0)
  have hnq61 : q51 ∉ L := fun h => hq54 (hsb41 _ h)
  have hsb60 : ∀ b, b ∈ L → b ∈ _ := fun b hb => hs55 b (hsb41 b hb)
  have hf62 := (ho58 se hm44).trans hf48
  have hn64 : se ≠ q51 := fun e => hq54 (e ▸ hm44)
  have hm63 := hs55 _ hm44
  refine pl_putF (ty := (.array .int)) (v := .ref q51) (fs' := [.ref q1, .ref q32, .ref q51, .null, .null, .null, .int 0, .int 0, .int 0, .int 0, .int 0, .int 0, .int 0, .int 0]) hx hb hts (fun w h => mT (inX7 w h)) tyX7 tyX7_ok nmX7 hown hG.1 hP hD hS hm63 hf62 rfl 2 (by decide) (hts _ (mT wg_434)) (fun _ h => h) rfl hnm rfl (by decide +kernel) (rfl) (rfl) (Nat.le_of_ble_eq_true rfl) rfl dX7_init_28 (fun H locs f65 hf67 ho66 hP hD hS => ?_)
  have hfr68 : ∀ b, b ∈ L → b ≠ se → f65 b = f b := fun b hb z0 => (ho66 b z0).trans (hfr59 b hb z0)
  have hf69 := (ho66 q51 hn64.symm).trans hf57
  refine lv_aload_n hx hb dX7_init_31 rfl (lv_at hl 0 rfl) ?_
  refine lv_bipush (v := 108) hx hb dX7_init_32 (by decide) ?_
  refine pl_newa (atype := .int) (ty := .int) (N' := 108) (a0 := (108, .inl (fun _ => 0))) hx hb (hts _ (mT wg_217)) rfl hG.1 hP hD hS hA 0 rfl (fun _ h => h) (fun _ => rfl) (by decide) (by decide) (Nat.le_of_ble_eq_true rfl) (Nat.le_of_ble_eq_true rfl) (Nat.le_of_ble_eq_true rfl) dX7_init_34 (fun q70 H L71 f72 hq73 hs74 hm75 hf76 ho77 hP hD hS => ?_)
  have hfr78 : ∀ b, b ∈ L → b ≠ se → f72 b = f b := fun b hb z0 => (ho77 b (hsb60 b hb)).trans (hfr68 b hb z0)
  have hnq80 : q70 ∉ L := fun h => hq73 (hsb60 _ h)
  have hsb79 : ∀ b, b ∈ L → b ∈ _ := fun b hb => hs74 b (hsb60 b hb)
  have hf81 := (ho77 se hm63).trans hf67
  have hn83 : se ≠ q70 := fun e => hq73 (e ▸ hm63)
  have hm82 := hs74 _ hm63
  refine pl_putF (ty := (.array .int)) (v := .ref q70) (fs' := [.ref q1, .ref q32, .ref q51, .ref q70, .null, .null, .int 0, .int 0, .int 0, .int 0, .int 0, .int 0, .int 0, .int 0]) hx hb hts (fun w h => mT (inX7 w h)) tyX7 tyX7_ok nmX7 hown hG.1 hP hD hS hm82 hf81 rfl 3 (by decide) (hts _ (mT wg_435)) (fun _ h => h) rfl hnm rfl (by decide +kernel) (rfl) (rfl) (Nat.le_of_ble_eq_true rfl) rfl dX7_init_36 (fun H locs f84 hf86 ho85 hP hD hS => ?_)
  have hfr87 : ∀ b, b ∈ L → b ≠ se → f84 b = f b := fun b hb z0 => (ho85 b z0).trans (hfr78 b hb z0)
  have hf88 := (ho85 q70 hn83.symm).trans hf76
  refine lv_aload_n hx hb dX7_init_39 rfl (lv_at hl 0 rfl) ?_
  refine lv_bipush (v := 108) hx hb dX7_init_40 (by decide) ?_
  refine pl_newa (atype := .int) (ty := .int) (N' := 108) (a0 := (108, .inl (fun _ => 0))) hx hb (hts _ (mT wg_217)) rfl hG.1 hP hD hS hA 0 rfl (fun _ h => h) (fun _ => rfl) (by decide) (by decide) (Nat.le_of_ble_eq_true rfl) (Nat.le_of_ble_eq_true rfl) (Nat.le_of_ble_eq_true rfl) dX7_init_42 (fun q89 H L90 f91 hq92 hs93 hm94 hf95 ho96 hP hD hS => ?_)
  have hfr97 : ∀ b, b ∈ L → b ≠ se → f91 b = f b := fun b hb z0 => (ho96 b (hsb79 b hb)).trans (hfr87 b hb z0)
  have hnq99 : q89 ∉ L := fun h => hq92 (hsb79 _ h)
  have hsb98 : ∀ b, b ∈ L → b ∈ _ := fun b hb => hs93 b (hsb79 b hb)
  have hf100 := (ho96 se hm82).trans hf86
  have hn102 : se ≠ q89 := fun e => hq92 (e ▸ hm82)
  have hm101 := hs93 _ hm82
  refine pl_putF (ty := (.array .int)) (v := .ref q89) (fs' := [.ref q1, .ref q32, .ref q51, .ref q70, .ref q89, .null, .int 0, .int 0, .int 0, .int 0, .int 0, .int 0, .int 0, .int 0]) hx hb hts (fun w h => mT (inX7 w h)) tyX7 tyX7_ok nmX7 hown hG.1 hP hD hS hm101 hf100 rfl 4 (by decide) (hts _ (mT wg_436)) (fun _ h => h) rfl hnm rfl (by decide +kernel) (rfl) (rfl) (Nat.le_of_ble_eq_true rfl) rfl dX7_init_44 (fun H locs f103 hf105 ho104 hP hD hS => ?_)
  have hfr106 : ∀ b, b ∈ L → b ≠ se → f103 b = f b := fun b hb z0 => (ho104 b z0).trans (hfr97 b hb z0)
  have hf107 := (ho104 q89 hn102.symm).trans hf95
  refine lv_aload_n hx hb dX7_init_47 rfl (lv_at hl 0 rfl) ?_
  refine lv_bipush (v := 48) hx hb dX7_init_48 (by decide) ?_
  refine pl_newa (atype := .long) (ty := .long) (N' := 48) (a0 := (48, .inr (.inl (fun _ => 0)))) hx hb (hts _ (mT wg_403)) rfl hG.1 hP hD hS hA 1 rfl (fun _ h => h) (fun _ => rfl) (by decide) (by decide) (Nat.le_of_ble_eq_true rfl) (Nat.le_of_ble_eq_true rfl) (Nat.le_of_ble_eq_true rfl) dX7_init_50 (fun q108 H L109 f110 hq111 hs112 hm113 hf114 ho115 hP hD hS => ?_)
  have hfr116 : ∀ b, b ∈ L → b ≠ se → f110 b = f b := fun b hb z0 => (ho115 b (hsb98 b hb)).trans (hfr106 b hb z0)
  have hnq118 : q108 ∉ L := fun h => hq111 (hsb98 _ h)
  have hsb117 : ∀ b, b ∈ L → b ∈ _ := fun b hb => hs112 b (hsb98 b hb)
  have hf119 := (ho115 se hm101).trans hf105
  have hn121 : se ≠ q108 := fun e => hq111 (e ▸ hm101)
  have hm120 := hs112 _ hm101
  refine pl_putF (ty := (.array .long)) (v := .ref q108) (fs' := [.ref q1, .ref q32, .ref q51, .ref q70, .ref q89, .ref q108, .int 0, .int 0, .int 0, .int 0, .int 0, .int 0, .int 0, .int 0]) hx hb hts (fun w h => mT (inX7 w h)) tyX7 tyX7_ok nmX7 hown hG.1 hP hD hS hm120 hf119 rfl 5 (by decide) (hts _ (mT wg_437)) (fun _ h => h) rfl hnm rfl (by decide +kernel) (rfl) (rfl) (Nat.le_of_ble_eq_true rfl) rfl dX7_init_52 (fun H locs f122 hf124 ho123 hP hD hS => ?_)
  have hfr125 : ∀ b, b ∈ L → b ≠ se → f122 b = f b := fun b hb z0 => (ho123 b z0).trans (hfr116 b hb z0)
  have hf126 := (ho123 q108 hn121.symm).trans hf114
  exact ret_v hx hb hr hlocks hP hD hS (Nat.le_of_ble_eq_true rfl) (Nat.le_of_ble_eq_true rfl) (⟨q1, q32, q51, q70, q89, q108, hf124, hfr125, hsb117⟩) dX7_init_55

set_option maxHeartbeats 4000000 in
set_option maxRecDepth 100000 in
theorem k_X10_init (l : Launch) (g : GG) (L : List Nat) (f : HP) (sz : Nat) (x : Nat) (hm_x : x ∈ L) (hf_x : f x = .inr (9, [.null, .null, .null, .null, .null, .null, .null, .null, .null, .null, .null, .null, .null, .null, .null, .int 0, .int 0, .long 0])) : MtV l g yX10_init cX10_init 1 ({ frames := 3, cells := 254, slots := 7965, locals := 53 }) [.ref x] L f sz (fun u => ∃ (t : Nat) (tb : Nat) (dr : Nat) (co : Nat) (dp : Nat) (pa : Nat) (pn : Nat) (pl : Nat) (nw : Nat) (ac : Nat) (rf : Nat) (ot : Nat) (ch : Nat) (fr : Nat) (kp : Nat) (tr : Nat) (se : Nat) (tx : Nat) (pb : Nat) (n0 : Nat) (n1 : Nat) (n2 : Nat) (n3 : Nat) (n4 : Nat) (n5 : Nat) (n6 : Nat) (n7 : Nat) (n8 : Nat) (ah : Nat), t ∉ L ∧ t ∈ u.1 ∧ u.2 t = .inr (8, [.ref tb, .int 0, .int 0, .int 0, .int 0]) ∧ tb ∉ L ∧ tb ∈ u.1 ∧ u.2 tb = .inl (g.2.1 0, 520, .inl (fun _ => 0)) ∧ dr ∉ L ∧ dr ∈ u.1 ∧ u.2 dr = .inr (2, [.int 0, .int 0, .int 0, .int 0, .int 0, .int 0, .int 0, .int 0]) ∧ co ∉ L ∧ co ∈ u.1 ∧ u.2 co = .inr (2, [.int 0, .int 0, .int 0, .int 0, .int 0, .int 0, .int 0, .int 0]) ∧ dp ∉ L ∧ dp ∈ u.1 ∧ u.2 dp = .inr (5, [.ref pa, .int 0]) ∧ pa ∉ L ∧ pa ∈ u.1 ∧ u.2 pa = .inl (g.2.1 0, 100, .inl (fun _ => 0)) ∧ pn ∉ L ∧ pn ∈ u.1 ∧ u.2 pn = .inr (6, [.int 0, .int 0, .ref pl]) ∧ pl ∉ L ∧ pl ∈ u.1 ∧ u.2 pl = .inr (5, [.ref pb, .int 0]) ∧ nw ∉ L ∧ nw ∈ u.1 ∧ u.2 nw = .inr (3, [.int 0, .int 0, .int 0, .int 0, .int 0, .int 0, .int 0, .long 0, .long 0, .ref n0, .ref n1, .ref n2, .ref n3, .ref n4, .ref n5, .ref n6, .ref n7, .ref n8]) ∧ ac ∉ L ∧ ac ∈ u.1 ∧ u.2 ac = .inr (0, [.ref ah, .int 0, .int 0]) ∧ rf ∉ L ∧ rf ∈ u.1 ∧ u.2 rf = .inl (g.2.1 0, 5, .inl (fun _ => 0)) ∧ u.2 x = .inr (9, [.ref t, .ref dr, .ref co, .ref ot, .ref dp, .ref pn, .ref ch, .ref fr, .ref nw, .ref kp, .ref tr, .ref ac, .ref se, .ref tx, .ref rf, .int 0, .int 0, .long 0]) ∧ (∀ b, b ∈ L → b ≠ x → u.2 b = f b) ∧ (∀ b, b ∈ L → b ∈ u.1)) := by
  refine MtV.of (by decide +kernel) (Nat.le_of_ble_eq_true rfl) ?_
  intro p e s m below meth c A hEn hP hD hS ls hl
  obtain ⟨hx, hb, hr, hml, hown, hlocks, hts, hG, hA, hE, hnm⟩ := hEn
  have hown : s.vm.findClass "RulerWord" = some m.cls := hown
  have hl : lv_has ls 1 [(0, .ref x)] := hl
  have hfr0 : ∀ b, b ∈ L → b ≠ x → f b = f b := fun b hb z0 => rfl
  have hsb0 : ∀ b, b ∈ L → b ∈ L := fun b hb => hb
  refine lv_aload_n hx hb dX10_init_0 rfl (lv_at hl 0 rfl) ?_
  refine W.objInit hx hb hown (hts _ (mT wg_186)) (hts _ (mT wg_187)) (hts _ (mT wg_objInit)) rfl (by rw [hml]; exact hl.1) rfl dX10_init_1 (Nat.le_of_ble_eq_true rfl) (Nat.le_of_ble_eq_true rfl) ?_
  refine W.eq (g2 := F0 m 4 ls []) rfl ?_
  refine lv_aload_n hx hb dX10_init_4 rfl (lv_at hl 0 rfl) ?_
  refine pl_new (ci := 8) (fs := [.null, .int 0, .int 0, .int 0, .int 0]) (C := RX8) (T := TX8) (N := 5) hx hb hts (fun w h => mT (inX8 w h)) tyX8 tyX8_ok hown (hts _ (mT wg_189)) (hts _ (mT wg_190)) (hts _ (mT wg_158)) hG.1 hP hD hS hA rfl dvX8 (Nat.le_of_ble_eq_true rfl) (Nat.le_of_ble_eq_true rfl) dX10_init_5 (fun q1 H L2 f3 hq4 hs5 hm6 hf7 ho8 hP hD hS => ?_)
  have hfr9 : ∀ b, b ∈ L → b ≠ x → f3 b = f b := fun b hb z0 => (ho8 b (hsb0 b hb)).trans (hfr0 b hb z0)
  have hnq11 : q1 ∉ L := fun h => hq4 (hsb0 _ h)
  have hsb10 : ∀ b, b ∈ L → b ∈ _ := fun b hb => hs5 b (hsb0 b hb)
  have hf12 := (ho8 x hm_x).trans hf_x
  have hn14 : x ≠ q1 := fun e => hq4 (e ▸ hm_x)
  have hm13 := hs5 _ hm_x
  refine lv_dup hx hb dX10_init_8 rfl ?_
  refine call_v (run_IN (rm := { frames := 1, cells := 1, slots := 520, locals := 12 }) hx hb hml hown hts (k_X8_init l g _ _ _ q1 hm6 hf7) cI_X8_init wn_191 ⟨Nat.le_of_ble_eq_true rfl, Nat.le_of_ble_eq_true rfl⟩ hG hE hA hP hD hS rfl hl.1 (As := []) (rest := [.ref q1, .ref x]) rfl (Nat.le_of_ble_eq_true rfl) dX10_init_9 ⟨Nat.le_of_ble_eq_true rfl, Nat.le_of_ble_eq_true rfl⟩) hA hD hS (fun L16 f17 H locs hp18 hP hD hS => ?_)
  obtain ⟨q19, hn20, hm21, hf22, hf23, fr24, sb25⟩ := hp18
  have hfr26 : ∀ b, b ∈ L → b ≠ x → f17 b = f b := fun b hb z0 => (fr24 b (hsb10 b hb) (fun e => hnq11 (e ▸ hb))).trans (hfr9 b hb z0)
  have hnq28 : q19 ∉ L := fun h => hn20 (hsb10 _ h)
  have hsb27 : ∀ b, b ∈ L → b ∈ L16 := fun b hb => sb25 b (hsb10 b hb)
  have hn30 : x ≠ q19 := fun e => hn20 (e ▸ hm13)
  have hf31 := (fr24 x hm13 hn14).trans hf12
  have hm29 := sb25 _ hm13
  have hn33 : q1 ≠ q19 := fun e => hn20 (e ▸ hm6)
  have hm32 := sb25 _ hm6
  refine pl_putF (ty := (.object "RulerWord$Tape")) (v := .ref q1) (fs' := [.ref q1, .null, .null, .null, .null, .null, .null, .null, .null, .null, .null, .null, .null, .null, .null, .int 0, .int 0, .long 0]) hx hb hts (fun w h => mT (inX10 w h)) tyX10 tyX10_ok nmX10 hown hG.1 hP hD hS hm29 hf31 rfl 0 (by decide) (hts _ (mT wg_475)) (fun _ h => h) rfl hnm rfl (by decide +kernel) (rfl) (rfl) (Nat.le_of_ble_eq_true rfl) rfl dX10_init_12 (fun H locs f34 hf36 ho35 hP hD hS => ?_)
  have hfr37 : ∀ b, b ∈ L → b ≠ x → f34 b = f b := fun b hb z0 => (ho35 b z0).trans (hfr26 b hb z0)
  have hf38 := (ho35 q1 hn14.symm).trans hf23
  have hf39 := (ho35 q19 hn30.symm).trans hf22
  refine lv_aload_n hx hb dX10_init_15 rfl (lv_at hl 0 rfl) ?_
  refine pl_new (ci := 2) (fs := [.int 0, .int 0, .int 0, .int 0, .int 0, .int 0, .int 0, .int 0]) (C := RX2) (T := TX2) (N := 8) hx hb hts (fun w h => mT (inX2 w h)) tyX2 tyX2_ok hown (hts _ (mT wg_218)) (hts _ (mT wg_219)) (hts _ (mT wg_159)) hG.1 hP hD hS hA rfl dvX2 (Nat.le_of_ble_eq_true rfl) (Nat.le_of_ble_eq_true rfl) dX10_init_16 (fun q40 H L41 f42 hq43 hs44 hm45 hf46 ho47 hP hD hS => ?_)
  have hfr48 : ∀ b, b ∈ L → b ≠ x → f42 b = f b := fun b hb z0 => (ho47 b (hsb27 b hb)).trans (hfr37 b hb z0)
  have hnq50 : q40 ∉ L := fun h => hq43 (hsb27 _ h)
  have hsb49 : ∀ b, b ∈ L → b ∈ _ := fun b hb => hs44 b (hsb27 b hb)
  have hf51 := (ho47 x hm29).trans hf36
  have hn53 : x ≠ q40 := fun e => hq43 (e ▸ hm29)
  have hm52 := hs44 _ hm29
  have hf54 := (ho47 q1 hm32).trans hf38
  have hn56 : q1 ≠ q40 := fun e => hq43 (e ▸ hm32)
  have hm55 := hs44 _ hm32
  have hf57 := (ho47 q19 hm21).trans hf39
  have hn59 : q19 ≠ q40 := fun e => hq43 (e ▸ hm21)
  have hm58 := hs44 _ hm21
  refine lv_dup hx hb dX10_init_19 rfl ?_
  refine call_v (run_IN (rm := { frames := 1, cells := 0, slots := 0, locals := 12 }) hx hb hml hown hts (k_X2_init l g _ _ _ q40 hm45 hf46) cI_X2_init wn_220 ⟨Nat.le_of_ble_eq_true rfl, Nat.le_of_ble_eq_true rfl⟩ hG hE hA hP hD hS rfl hl.1 (As := []) (rest := [.ref q40, .ref x]) rfl (Nat.le_of_ble_eq_true rfl) dX10_init_20 ⟨Nat.le_of_ble_eq_true rfl, Nat.le_of_ble_eq_true rfl⟩) hA hD hS (fun L61 f62 H locs hp63 hP hD hS => ?_)
  obtain ⟨fr64, sb65⟩ := hp63
  have hfr66 : ∀ b, b ∈ L → b ≠ x → f62 b = f b := fun b hb z0 => (fr64 b (hsb49 b hb) ).trans (hfr48 b hb z0)
  have hsb67 : ∀ b, b ∈ L → b ∈ L61 := fun b hb => sb65 b (hsb49 b hb)
  have hf69 := (fr64 x hm52 ).trans hf51
  have hm68 := sb65 _ hm52
  have hf71 := (fr64 q1 hm55 ).trans hf54
  have hm70 := sb65 _ hm55
  have hf73 := (fr64 q19 hm58 ).trans hf57
  have hm72 := sb65 _ hm58
  have hf75 := (fr64 q40 hm45 ).trans hf46
  have hm74 := sb65 _ hm45
  refine pl_putF (ty := (.object "RulerWord$Council")) (v := .ref q40) (fs' := [.ref q1, .ref q40, .null, .null, .null, .null, .null, .null, .null, .null, .null, .null, .null, .null, .null, .int 0, .int 0, .long 0]) hx hb hts (fun w h => mT (inX10 w h)) tyX10 tyX10_ok nmX10 hown hG.1 hP hD hS hm68 hf69 rfl 1 (by decide) (hts _ (mT wg_476)) (fun _ h => h) rfl hnm rfl (by decide +kernel) (rfl) (rfl) (Nat.le_of_ble_eq_true rfl) rfl dX10_init_23 (fun H locs f76 hf78 ho77 hP hD hS => ?_)
  have hfr79 : ∀ b, b ∈ L → b ≠ x → f76 b = f b := fun b hb z0 => (ho77 b z0).trans (hfr66 b hb z0)
  have hf80 := (ho77 q1 hn14.symm).trans hf71
  have hf81 := (ho77 q19 hn30.symm).trans hf73
  have hf82 := (ho77 q40 hn53.symm).trans hf75
  refine lv_aload_n hx hb dX10_init_26 rfl (lv_at hl 0 rfl) ?_
  refine pl_new (ci := 2) (fs := [.int 0, .int 0, .int 0, .int 0, .int 0, .int 0, .int 0, .int 0]) (C := RX2) (T := TX2) (N := 8) hx hb hts (fun w h => mT (inX2 w h)) tyX2 tyX2_ok hown (hts _ (mT wg_218)) (hts _ (mT wg_219)) (hts _ (mT wg_159)) hG.1 hP hD hS hA rfl dvX2 (Nat.le_of_ble_eq_true rfl) (Nat.le_of_ble_eq_true rfl) dX10_init_27 (fun q83 H L84 f85 hq86 hs87 hm88 hf89 ho90 hP hD hS => ?_)
  have hfr91 : ∀ b, b ∈ L → b ≠ x → f85 b = f b := fun b hb z0 => (ho90 b (hsb67 b hb)).trans (hfr79 b hb z0)
  have hnq93 : q83 ∉ L := fun h => hq86 (hsb67 _ h)
  have hsb92 : ∀ b, b ∈ L → b ∈ _ := fun b hb => hs87 b (hsb67 b hb)
  have hf94 := (ho90 x hm68).trans hf78
  have hn96 : x ≠ q83 := fun e => hq86 (e ▸ hm68)
  have hm95 := hs87 _ hm68
  have hf97 := (ho90 q1 hm70).trans hf80
  have hn99 : q1 ≠ q83 := fun e => hq86 (e ▸ hm70)
  have hm98 := hs87 _ hm70
  have hf100 := (ho90 q19 hm72).trans hf81
  have hn102 : q19 ≠ q83 := fun e => hq86 (e ▸ hm72)
  have hm101 := hs87 _ hm72
  have hf103 := (ho90 q40 hm74).trans hf82
  have hn105 : q40 ≠ q83 := fun e => hq86 (e ▸ hm74)
  have hm104 := hs87 _ hm74
  refine lv_dup hx hb dX10_init_30 rfl ?_
  refine call_v (run_IN (rm := { frames := 1, cells := 0, slots := 0, locals := 12 }) hx hb hml hown hts (k_X2_init l g _ _ _ q83 hm88 hf89) cI_X2_init wn_220 ⟨Nat.le_of_ble_eq_true rfl, Nat.le_of_ble_eq_true rfl⟩ hG hE hA hP hD hS rfl hl.1 (As := []) (rest := [.ref q83, .ref x]) rfl (Nat.le_of_ble_eq_true rfl) dX10_init_31 ⟨Nat.le_of_ble_eq_true rfl, Nat.le_of_ble_eq_true rfl⟩) hA hD hS (fun L107 f108 H locs hp109 hP hD hS => ?_)
  obtain ⟨fr110, sb111⟩ := hp109
  have hfr112 : ∀ b, b ∈ L → b ≠ x → f108 b = f b := fun b hb z0 => (fr110 b (hsb92 b hb) ).trans (hfr91 b hb z0)
  have hsb113 : ∀ b, b ∈ L → b ∈ L107 := fun b hb => sb111 b (hsb92 b hb)
  have hf115 := (fr110 x hm95 ).trans hf94
  have hm114 := sb111 _ hm95
  have hf117 := (fr110 q1 hm98 ).trans hf97
  have hm116 := sb111 _ hm98
  have hf119 := (fr110 q19 hm101 ).trans hf100
  have hm118 := sb111 _ hm101
  have hf121 := (fr110 q40 hm104 ).trans hf103
  have hm120 := sb111 _ hm104
  have hf123 := (fr110 q83 hm88 ).trans hf89
  have hm122 := sb111 _ hm88
  refine pl_putF (ty := (.object "RulerWord$Council")) (v := .ref q83) (fs' := [.ref q1, .ref q40, .ref q83, .null, .null, .null, .null, .null, .null, .null, .null, .null, .null, .null, .null, .int 0, .int 0, .long 0]) hx hb hts (fun w h => mT (inX10 w h)) tyX10 tyX10_ok nmX10 hown hG.1 hP hD hS hm114 hf115 rfl 2 (by decide) (hts _ (mT wg_477)) (fun _ h => h) rfl hnm rfl (by decide +kernel) (rfl) (rfl) (Nat.le_of_ble_eq_true rfl) rfl dX10_init_34 (fun H locs f124 hf126 ho125 hP hD hS => ?_)
  have hfr127 : ∀ b, b ∈ L → b ≠ x → f124 b = f b := fun b hb z0 => (ho125 b z0).trans (hfr112 b hb z0)
  have hf128 := (ho125 q1 hn14.symm).trans hf117
  have hf129 := (ho125 q19 hn30.symm).trans hf119
  have hf130 := (ho125 q40 hn53.symm).trans hf121
  have hf131 := (ho125 q83 hn96.symm).trans hf123
  refine lv_aload_n hx hb dX10_init_37 rfl (lv_at hl 0 rfl) ?_
  refine pl_new (ci := 2) (fs := [.int 0, .int 0, .int 0, .int 0, .int 0, .int 0, .int 0, .int 0]) (C := RX2) (T := TX2) (N := 8) hx hb hts (fun w h => mT (inX2 w h)) tyX2 tyX2_ok hown (hts _ (mT wg_218)) (hts _ (mT wg_219)) (hts _ (mT wg_159)) hG.1 hP hD hS hA rfl dvX2 (Nat.le_of_ble_eq_true rfl) (Nat.le_of_ble_eq_true rfl) dX10_init_38 (fun q132 H L133 f134 hq135 hs136 hm137 hf138 ho139 hP hD hS => ?_)
  have hfr140 : ∀ b, b ∈ L → b ≠ x → f134 b = f b := fun b hb z0 => (ho139 b (hsb113 b hb)).trans (hfr127 b hb z0)
  have hnq142 : q132 ∉ L := fun h => hq135 (hsb113 _ h)
  have hsb141 : ∀ b, b ∈ L → b ∈ _ := fun b hb => hs136 b (hsb113 b hb)
  have hf143 := (ho139 x hm114).trans hf126
  have hn145 : x ≠ q132 := fun e => hq135 (e ▸ hm114)
  have hm144 := hs136 _ hm114
  have hf146 := (ho139 q1 hm116).trans hf128
  have hn148 : q1 ≠ q132 := fun e => hq135 (e ▸ hm116)
  have hm147 := hs136 _ hm116
  have hf149 := (ho139 q19 hm118).trans hf129
  have hn151 : q19 ≠ q132 := fun e => hq135 (e ▸ hm118)
  have hm150 := hs136 _ hm118
  have hf152 := (ho139 q40 hm120).trans hf130
  have hn154 : q40 ≠ q132 := fun e => hq135 (e ▸ hm120)
  have hm153 := hs136 _ hm120
  have hf155 := (ho139 q83 hm122).trans hf131
  have hn157 : q83 ≠ q132 := fun e => hq135 (e ▸ hm122)
  have hm156 := hs136 _ hm122
  refine lv_dup hx hb dX10_init_41 rfl ?_
  refine call_v (run_IN (rm := { frames := 1, cells := 0, slots := 0, locals := 12 }) hx hb hml hown hts (k_X2_init l g _ _ _ q132 hm137 hf138) cI_X2_init wn_220 ⟨Nat.le_of_ble_eq_true rfl, Nat.le_of_ble_eq_true rfl⟩ hG hE hA hP hD hS rfl hl.1 (As := []) (rest := [.ref q132, .ref x]) rfl (Nat.le_of_ble_eq_true rfl) dX10_init_42 ⟨Nat.le_of_ble_eq_true rfl, Nat.le_of_ble_eq_true rfl⟩) hA hD hS (fun L159 f160 H locs hp161 hP hD hS => ?_)
  obtain ⟨fr162, sb163⟩ := hp161
  have hfr164 : ∀ b, b ∈ L → b ≠ x → f160 b = f b := fun b hb z0 => (fr162 b (hsb141 b hb) ).trans (hfr140 b hb z0)
  have hsb165 : ∀ b, b ∈ L → b ∈ L159 := fun b hb => sb163 b (hsb141 b hb)
  have hf167 := (fr162 x hm144 ).trans hf143
  have hm166 := sb163 _ hm144
  have hf169 := (fr162 q1 hm147 ).trans hf146
  have hm168 := sb163 _ hm147
  have hf171 := (fr162 q19 hm150 ).trans hf149
  have hm170 := sb163 _ hm150
  have hf173 := (fr162 q40 hm153 ).trans hf152
  have hm172 := sb163 _ hm153
  have hf175 := (fr162 q83 hm156 ).trans hf155
  have hm174 := sb163 _ hm156
  have hf177 := (fr162 q132 hm137 ).trans hf138
  have hm176 := sb163 _ hm137
  refine pl_putF (ty := (.object "RulerWord$Council")) (v := .ref q132) (fs' := [.ref q1, .ref q40, .ref q83, .ref q132, .null, .null, .null, .null, .null, .null, .null, .null, .null, .null, .null, .int 0, .int 0, .long 0]) hx hb hts (fun w h => mT (inX10 w h)) tyX10 tyX10_ok nmX10 hown hG.1 hP hD hS hm166 hf167 rfl 3 (by decide) (hts _ (mT wg_478)) (fun _ h => h) rfl hnm rfl (by decide +kernel) (rfl) (rfl) (Nat.le_of_ble_eq_true rfl) rfl dX10_init_45 (fun H locs f178 hf180 ho179 hP hD hS => ?_)
  have hfr181 : ∀ b, b ∈ L → b ≠ x → f178 b = f b := fun b hb z0 => (ho179 b z0).trans (hfr164 b hb z0)
  have hf182 := (ho179 q1 hn14.symm).trans hf169
  have hf183 := (ho179 q19 hn30.symm).trans hf171
  have hf184 := (ho179 q40 hn53.symm).trans hf173
  have hf185 := (ho179 q83 hn96.symm).trans hf175
  have hf186 := (ho179 q132 hn145.symm).trans hf177
  refine lv_aload_n hx hb dX10_init_48 rfl (lv_at hl 0 rfl) ?_
  refine pl_new (ci := 5) (fs := [.null, .int 0]) (C := RX5) (T := TX5) (N := 2) hx hb hts (fun w h => mT (inX5 w h)) tyX5 tyX5_ok hown (hts _ (mT wg_263)) (hts _ (mT wg_264)) (hts _ (mT wg_160)) hG.1 hP hD hS hA rfl dvX5 (Nat.le_of_ble_eq_true rfl) (Nat.le_of_ble_eq_true rfl) dX10_init_49 (fun q187 H L188 f189 hq190 hs191 hm192 hf193 ho194 hP hD hS => ?_)
  have hfr195 : ∀ b, b ∈ L → b ≠ x → f189 b = f b := fun b hb z0 => (ho194 b (hsb165 b hb)).trans (hfr181 b hb z0)
  have hnq197 : q187 ∉ L := fun h => hq190 (hsb165 _ h)
  have hsb196 : ∀ b, b ∈ L → b ∈ _ := fun b hb => hs191 b (hsb165 b hb)
  have hf198 := (ho194 x hm166).trans hf180
  have hn200 : x ≠ q187 := fun e => hq190 (e ▸ hm166)
  have hm199 := hs191 _ hm166
  have hf201 := (ho194 q1 hm168).trans hf182
  have hn203 : q1 ≠ q187 := fun e => hq190 (e ▸ hm168)
  have hm202 := hs191 _ hm168
  have hf204 := (ho194 q19 hm170).trans hf183
  have hn206 : q19 ≠ q187 := fun e => hq190 (e ▸ hm170)
  have hm205 := hs191 _ hm170
  have hf207 := (ho194 q40 hm172).trans hf184
  have hn209 : q40 ≠ q187 := fun e => hq190 (e ▸ hm172)
  have hm208 := hs191 _ hm172
  have hf210 := (ho194 q83 hm174).trans hf185
  have hn212 : q83 ≠ q187 := fun e => hq190 (e ▸ hm174)
  have hm211 := hs191 _ hm174
  refine lv_dup hx hb dX10_init_52 rfl ?_
  refine call_v (run_IN (rm := { frames := 1, cells := 1, slots := 100, locals := 12 }) hx hb hml hown hts (k_X5_init l g _ _ _ q187 hm192 hf193) cI_X5_init wn_265 ⟨Nat.le_of_ble_eq_true rfl, Nat.le_of_ble_eq_true rfl⟩ hG hE hA hP hD hS rfl hl.1 (As := []) (rest := [.ref q187, .ref x]) rfl (Nat.le_of_ble_eq_true rfl) dX10_init_53 ⟨Nat.le_of_ble_eq_true rfl, Nat.le_of_ble_eq_true rfl⟩) hA hD hS (fun L214 f215 H locs hp216 hP hD hS => ?_)
  obtain ⟨q217, hn218, hm219, hf220, hf221, fr222, sb223⟩ := hp216
  have hfr224 : ∀ b, b ∈ L → b ≠ x → f215 b = f b := fun b hb z0 => (fr222 b (hsb196 b hb) (fun e => hnq197 (e ▸ hb))).trans (hfr195 b hb z0)
  have hnq226 : q217 ∉ L := fun h => hn218 (hsb196 _ h)
  have hsb225 : ∀ b, b ∈ L → b ∈ L214 := fun b hb => sb223 b (hsb196 b hb)
  have hn228 : x ≠ q217 := fun e => hn218 (e ▸ hm199)
  have hf229 := (fr222 x hm199 hn200).trans hf198
  have hm227 := sb223 _ hm199
  have hn231 : q1 ≠ q217 := fun e => hn218 (e ▸ hm202)
  have hf232 := (fr222 q1 hm202 hn203).trans hf201
  have hm230 := sb223 _ hm202
  have hn234 : q19 ≠ q217 := fun e => hn218 (e ▸ hm205)
  have hf235 := (fr222 q19 hm205 hn206).trans hf204
  have hm233 := sb223 _ hm205
  have hn237 : q40 ≠ q217 := fun e => hn218 (e ▸ hm208)
  have hf238 := (fr222 q40 hm208 hn209).trans hf207
  have hm236 := sb223 _ hm208
  have hn240 : q83 ≠ q217 := fun e => hn218 (e ▸ hm211)
  have hf241 := (fr222 q83 hm211 hn212).trans hf210
  have hm239 := sb223 _ hm211
  have hn243 : q187 ≠ q217 := fun e => hn218 (e ▸ hm192)
  have hm242 := sb223 _ hm192
  refine pl_putF (ty := (.object "RulerWord$Plan")) (v := .ref q187) (fs' := [.ref q1, .ref q40, .ref q83, .ref q132, .ref q187, .null, .null, .null, .null, .null, .null, .null, .null, .null, .null, .int 0, .int 0, .long 0]) hx hb hts (fun w h => mT (inX10 w h)) tyX10 tyX10_ok nmX10 hown hG.1 hP hD hS hm227 hf229 rfl 4 (by decide) (hts _ (mT wg_479)) (fun _ h => h) rfl hnm rfl (by decide +kernel) (rfl) (rfl) (Nat.le_of_ble_eq_true rfl) rfl dX10_init_56 (fun H locs f244 hf246 ho245 hP hD hS => ?_)
  have hfr247 : ∀ b, b ∈ L → b ≠ x → f244 b = f b := fun b hb z0 => (ho245 b z0).trans (hfr224 b hb z0)
  have hf248 := (ho245 q1 hn14.symm).trans hf232
  have hf249 := (ho245 q19 hn30.symm).trans hf235
  have hf250 := (ho245 q40 hn53.symm).trans hf238
  have hf251 := (ho245 q83 hn96.symm).trans hf241
  have hf252 := (ho245 q187 hn200.symm).trans hf221
  have hf253 := (ho245 q217 hn228.symm).trans hf220
  refine lv_aload_n hx hb dX10_init_59 rfl (lv_at hl 0 rfl) ?_
  refine pl_new (ci := 6) (fs := [.int 0, .int 0, .null]) (C := RX6) (T := TX6) (N := 3) hx hb hts (fun w h => mT (inX6 w h)) tyX6 tyX6_ok hown (hts _ (mT wg_277)) (hts _ (mT wg_278)) (hts _ (mT wg_162)) hG.1 hP hD hS hA rfl dvX6 (Nat.le_of_ble_eq_true rfl) (Nat.le_of_ble_eq_true rfl) dX10_init_60 (fun q254 H L255 f256 hq257 hs258 hm259 hf260 ho261 hP hD hS => ?_)
  have hfr262 : ∀ b, b ∈ L → b ≠ x → f256 b = f b := fun b hb z0 => (ho261 b (hsb225 b hb)).trans (hfr247 b hb z0)
  have hnq264 : q254 ∉ L := fun h => hq257 (hsb225 _ h)
  have hsb263 : ∀ b, b ∈ L → b ∈ _ := fun b hb => hs258 b (hsb225 b hb)
  have hf265 := (ho261 x hm227).trans hf246
  have hn267 : x ≠ q254 := fun e => hq257 (e ▸ hm227)
  have hm266 := hs258 _ hm227
  have hf268 := (ho261 q1 hm230).trans hf248
  have hn270 : q1 ≠ q254 := fun e => hq257 (e ▸ hm230)
  have hm269 := hs258 _ hm230
  have hf271 := (ho261 q19 hm233).trans hf249
  have hn273 : q19 ≠ q254 := fun e => hq257 (e ▸ hm233)
  have hm272 := hs258 _ hm233
  have hf274 := (ho261 q40 hm236).trans hf250
  have hn276 : q40 ≠ q254 := fun e => hq257 (e ▸ hm236)
  have hm275 := hs258 _ hm236
  have hf277 := (ho261 q83 hm239).trans hf251
  have hn279 : q83 ≠ q254 := fun e => hq257 (e ▸ hm239)
  have hm278 := hs258 _ hm239
  have hf280 := (ho261 q187 hm242).trans hf252
  have hn282 : q187 ≠ q254 := fun e => hq257 (e ▸ hm242)
  have hm281 := hs258 _ hm242
  have hf283 := (ho261 q217 hm219).trans hf253
  have hn285 : q217 ≠ q254 := fun e => hq257 (e ▸ hm219)
  have hm284 := hs258 _ hm219
  refine lv_dup hx hb dX10_init_63 rfl ?_
  refine call_v (run_IN (rm := { frames := 2, cells := 2, slots := 102, locals := 32 }) hx hb hml hown hts (k_X6_init l g _ _ _ q254 hm259 hf260) cI_X6_init wn_279 ⟨Nat.le_of_ble_eq_true rfl, Nat.le_of_ble_eq_true rfl⟩ hG hE hA hP hD hS rfl hl.1 (As := []) (rest := [.ref q254, .ref x]) rfl (Nat.le_of_ble_eq_true rfl) dX10_init_64 ⟨Nat.le_of_ble_eq_true rfl, Nat.le_of_ble_eq_true rfl⟩) hA hD hS (fun L287 f288 H locs hp289 hP hD hS => ?_)
  obtain ⟨q290, q291, hn292, hm293, hf294, hf295, fr296, sb297⟩ := hp289
  have hfr298 : ∀ b, b ∈ L → b ≠ x → f288 b = f b := fun b hb z0 => (fr296 b (hsb263 b hb) (fun e => hnq264 (e ▸ hb))).trans (hfr262 b hb z0)
  have hnq300 : q290 ∉ L := fun h => hn292 (hsb263 _ h)
  have hsb299 : ∀ b, b ∈ L → b ∈ L287 := fun b hb => sb297 b (hsb263 b hb)
  have hn302 : x ≠ q290 := fun e => hn292 (e ▸ hm266)
  have hf303 := (fr296 x hm266 hn267).trans hf265
  have hm301 := sb297 _ hm266
  have hn305 : q1 ≠ q290 := fun e => hn292 (e ▸ hm269)
  have hf306 := (fr296 q1 hm269 hn270).trans hf268
  have hm304 := sb297 _ hm269
  have hn308 : q19 ≠ q290 := fun e => hn292 (e ▸ hm272)
  have hf309 := (fr296 q19 hm272 hn273).trans hf271
  have hm307 := sb297 _ hm272
  have hn311 : q40 ≠ q290 := fun e => hn292 (e ▸ hm275)
  have hf312 := (fr296 q40 hm275 hn276).trans hf274
  have hm310 := sb297 _ hm275
  have hn314 : q83 ≠ q290 := fun e => hn292 (e ▸ hm278)
  have hf315 := (fr296 q83 hm278 hn279).trans hf277
  have hm313 := sb297 _ hm278
  have hn317 : q187 ≠ q290 := fun e => hn292 (e ▸ hm281)
  have hf318 := (fr296 q187 hm281 hn282).trans hf280
  have hm316 := sb297 _ hm281
  have hn320 : q217 ≠ q290 := fun e => hn292 (e ▸ hm284)
  have hf321 := (fr296 q217 hm284 hn285).trans hf283
  have hm319 := sb297 _ hm284
  have hn323 : q254 ≠ q290 := fun e => hn292 (e ▸ hm259)
  have hm322 := sb297 _ hm259
  refine pl_putF (ty := (.object "RulerWord$Planned")) (v := .ref q254) (fs' := [.ref q1, .ref q40, .ref q83, .ref q132, .ref q187, .ref q254, .null, .null, .null, .null, .null, .null, .null, .null, .null, .int 0, .int 0, .long 0]) hx hb hts (fun w h => mT (inX10 w h)) tyX10 tyX10_ok nmX10 hown hG.1 hP hD hS hm301 hf303 rfl 5 (by decide) (hts _ (mT wg_480)) (fun _ h => h) rfl hnm rfl (by decide +kernel) (rfl) (rfl) (Nat.le_of_ble_eq_true rfl) rfl dX10_init_67 (fun H locs f324 hf326 ho325 hP hD hS => ?_)
  have hfr327 : ∀ b, b ∈ L → b ≠ x → f324 b = f b := fun b hb z0 => (ho325 b z0).trans (hfr298 b hb z0)
  have hf328 := (ho325 q1 hn14.symm).trans hf306
  have hf329 := (ho325 q19 hn30.symm).trans hf309
  have hf330 := (ho325 q40 hn53.symm).trans hf312
  have hf331 := (ho325 q83 hn96.symm).trans hf315
  have hf332 := (ho325 q187 hn200.symm).trans hf318
  have hf333 := (ho325 q217 hn228.symm).trans hf321
  have hf334 := (ho325 q254 hn267.symm).trans hf295
  have hf335 := (ho325 q290 hn302.symm).trans hf294
  refine lv_aload_n hx hb dX10_init_70 rfl (lv_at hl 0 rfl) ?_
  refine pl_new (ci := 1) (fs := [.int 0, .int 0]) (C := RX1) (T := TX1) (N := 2) hx hb hts (fun w h => mT (inX1 w h)) tyX1 tyX1_ok hown (hts _ (mT wg_303)) (hts _ (mT wg_304)) (hts _ (mT wg_163)) hG.1 hP hD hS hA rfl dvX1 (Nat.le_of_ble_eq_true rfl) (Nat.le_of_ble_eq_true rfl) dX10_init_71 (fun q336 H L337 f338 hq339 hs340 hm341 hf342 ho343 hP hD hS => ?_)
  have hfr344 : ∀ b, b ∈ L → b ≠ x → f338 b = f b := fun b hb z0 => (ho343 b (hsb299 b hb)).trans (hfr327 b hb z0)
  have hnq346 : q336 ∉ L := fun h => hq339 (hsb299 _ h)
  have hsb345 : ∀ b, b ∈ L → b ∈ _ := fun b hb => hs340 b (hsb299 b hb)
  have hf347 := (ho343 x hm301).trans hf326
  have hn349 : x ≠ q336 := fun e => hq339 (e ▸ hm301)
  have hm348 := hs340 _ hm301
  have hf350 := (ho343 q1 hm304).trans hf328
  have hn352 : q1 ≠ q336 := fun e => hq339 (e ▸ hm304)
  have hm351 := hs340 _ hm304
  have hf353 := (ho343 q19 hm307).trans hf329
  have hn355 : q19 ≠ q336 := fun e => hq339 (e ▸ hm307)
  have hm354 := hs340 _ hm307
  have hf356 := (ho343 q40 hm310).trans hf330
  have hn358 : q40 ≠ q336 := fun e => hq339 (e ▸ hm310)
  have hm357 := hs340 _ hm310
  have hf359 := (ho343 q83 hm313).trans hf331
  have hn361 : q83 ≠ q336 := fun e => hq339 (e ▸ hm313)
  have hm360 := hs340 _ hm313
  have hf362 := (ho343 q187 hm316).trans hf332
  have hn364 : q187 ≠ q336 := fun e => hq339 (e ▸ hm316)
  have hm363 := hs340 _ hm316
  have hf365 := (ho343 q217 hm319).trans hf333
  have hn367 : q217 ≠ q336 := fun e => hq339 (e ▸ hm319)
  have hm366 := hs340 _ hm319
  have hf368 := (ho343 q254 hm322).trans hf334
  have hn370 : q254 ≠ q336 := fun e => hq339 (e ▸ hm322)
  have hm369 := hs340 _ hm322
  have hf371 := (ho343 q290 hm293).trans hf335
  have hn373 : q290 ≠ q336 := fun e => hq339 (e ▸ hm293)
  have hm372 := hs340 _ hm293
  refine lv_dup hx hb dX10_init_74 rfl ?_
  refine call_v (run_IN (rm := { frames := 2, cells := 0, slots := 0, locals := 32 }) hx hb hml hown hts (k_X1_init l g _ _ _ q336 hm341 hf342) cI_X1_init wn_305 ⟨Nat.le_of_ble_eq_true rfl, Nat.le_of_ble_eq_true rfl⟩ hG hE hA hP hD hS rfl hl.1 (As := []) (rest := [.ref q336, .ref x]) rfl (Nat.le_of_ble_eq_true rfl) dX10_init_75 ⟨Nat.le_of_ble_eq_true rfl, Nat.le_of_ble_eq_true rfl⟩) hA hD hS (fun L375 f376 H locs hp377 hP hD hS => ?_)
  obtain ⟨fr378, sb379⟩ := hp377
  have hfr380 : ∀ b, b ∈ L → b ≠ x → f376 b = f b := fun b hb z0 => (fr378 b (hsb345 b hb) ).trans (hfr344 b hb z0)
  have hsb381 : ∀ b, b ∈ L → b ∈ L375 := fun b hb => sb379 b (hsb345 b hb)
  have hf383 := (fr378 x hm348 ).trans hf347
  have hm382 := sb379 _ hm348
  have hf385 := (fr378 q1 hm351 ).trans hf350
  have hm384 := sb379 _ hm351
  have hf387 := (fr378 q19 hm354 ).trans hf353
  have hm386 := sb379 _ hm354
  have hf389 := (fr378 q40 hm357 ).trans hf356
  have hm388 := sb379 _ hm357
  have hf391 := (fr378 q83 hm360 ).trans hf359
  have hm390 := sb379 _ hm360
  have hf393 := (fr378 q187 hm363 ).trans hf362
  have hm392 := sb379 _ hm363
  have hf395 := (fr378 q217 hm366 ).trans hf365
  have hm394 := sb379 _ hm366
  have hf397 := (fr378 q254 hm369 ).trans hf368
  have hm396 := sb379 _ hm369
  have hf399 := (fr378 q290 hm372 ).trans hf371
  have hm398 := sb379 _ hm372
  have hf401 := (fr378 q336 hm341 ).trans hf342
  have hm400 := sb379 _ hm341
  refine pl_putF (ty := (.object "RulerWord$Chance")) (v := .ref q336) (fs' := [.ref q1, .ref q40, .ref q83, .ref q132, .ref q187, .ref q254, .ref q336, .null, .null, .null, .null, .null, .null, .null, .null, .int 0, .int 0, .long 0]) hx hb hts (fun w h => mT (inX10 w h)) tyX10 tyX10_ok nmX10 hown hG.1 hP hD hS hm382 hf383 rfl 6 (by decide) (hts _ (mT wg_481)) (fun _ h => h) rfl hnm rfl (by decide +kernel) (rfl) (rfl) (Nat.le_of_ble_eq_true rfl) rfl dX10_init_78 (fun H locs f402 hf404 ho403 hP hD hS => ?_)
  have hfr405 : ∀ b, b ∈ L → b ≠ x → f402 b = f b := fun b hb z0 => (ho403 b z0).trans (hfr380 b hb z0)
  have hf406 := (ho403 q1 hn14.symm).trans hf385
  have hf407 := (ho403 q19 hn30.symm).trans hf387
  have hf408 := (ho403 q40 hn53.symm).trans hf389
  have hf409 := (ho403 q83 hn96.symm).trans hf391
  have hf410 := (ho403 q187 hn200.symm).trans hf393
  have hf411 := (ho403 q217 hn228.symm).trans hf395
  have hf412 := (ho403 q254 hn267.symm).trans hf397
  have hf413 := (ho403 q290 hn302.symm).trans hf399
  have hf414 := (ho403 q336 hn349.symm).trans hf401
  refine lv_aload_n hx hb dX10_init_81 rfl (lv_at hl 0 rfl) ?_
  refine pl_new (ci := 4) (fs := [.int 0, .int 0, .int 0, .int 0]) (C := RX4) (T := TX4) (N := 4) hx hb hts (fun w h => mT (inX4 w h)) tyX4 tyX4_ok hown (hts _ (mT wg_312)) (hts _ (mT wg_313)) (hts _ (mT wg_164)) hG.1 hP hD hS hA rfl dvX4 (Nat.le_of_ble_eq_true rfl) (Nat.le_of_ble_eq_true rfl) dX10_init_82 (fun q415 H L416 f417 hq418 hs419 hm420 hf421 ho422 hP hD hS => ?_)
  have hfr423 : ∀ b, b ∈ L → b ≠ x → f417 b = f b := fun b hb z0 => (ho422 b (hsb381 b hb)).trans (hfr405 b hb z0)
  have hnq425 : q415 ∉ L := fun h => hq418 (hsb381 _ h)
  have hsb424 : ∀ b, b ∈ L → b ∈ _ := fun b hb => hs419 b (hsb381 b hb)
  have hf426 := (ho422 x hm382).trans hf404
  have hn428 : x ≠ q415 := fun e => hq418 (e ▸ hm382)
  have hm427 := hs419 _ hm382
  have hf429 := (ho422 q1 hm384).trans hf406
  have hn431 : q1 ≠ q415 := fun e => hq418 (e ▸ hm384)
  have hm430 := hs419 _ hm384
  have hf432 := (ho422 q19 hm386).trans hf407
  have hn434 : q19 ≠ q415 := fun e => hq418 (e ▸ hm386)
  have hm433 := hs419 _ hm386
  have hf435 := (ho422 q40 hm388).trans hf408
  have hn437 : q40 ≠ q415 := fun e => hq418 (e ▸ hm388)
  have hm436 := hs419 _ hm388
  have hf438 := (ho422 q83 hm390).trans hf409
  have hn440 : q83 ≠ q415 := fun e => hq418 (e ▸ hm390)
  have hm439 := hs419 _ hm390
  have hf441 := (ho422 q187 hm392).trans hf410
  have hn443 : q187 ≠ q415 := fun e => hq418 (e ▸ hm392)
  have hm442 := hs419 _ hm392
  have hf444 := (ho422 q217 hm394).trans hf411
  have hn446 : q217 ≠ q415 := fun e => hq418 (e ▸ hm394)
  have hm445 := hs419 _ hm394
  have hf447 := (ho422 q254 hm396).trans hf412
  have hn449 : q254 ≠ q415 := fun e => hq418 (e ▸ hm396)
  have hm448 := hs419 _ hm396
  have hf450 := (ho422 q290 hm398).trans hf413
  have hn452 : q290 ≠ q415 := fun e => hq418 (e ▸ hm398)
  have hm451 := hs419 _ hm398
  refine lv_dup hx hb dX10_init_85 rfl ?_
  refine call_v (run_IN (rm := { frames := 2, cells := 0, slots := 0, locals := 32 }) hx hb hml hown hts (k_X4_init l g _ _ _ q415 hm420 hf421) cI_X4_init wn_314 ⟨Nat.le_of_ble_eq_true rfl, Nat.le_of_ble_eq_true rfl⟩ hG hE hA hP hD hS rfl hl.1 (As := []) (rest := [.ref q415, .ref x]) rfl (Nat.le_of_ble_eq_true rfl) dX10_init_86 ⟨Nat.le_of_ble_eq_true rfl, Nat.le_of_ble_eq_true rfl⟩) hA hD hS (fun L454 f455 H locs hp456 hP hD hS => ?_)
  obtain ⟨fr457, sb458⟩ := hp456
  have hfr459 : ∀ b, b ∈ L → b ≠ x → f455 b = f b := fun b hb z0 => (fr457 b (hsb424 b hb) ).trans (hfr423 b hb z0)
  have hsb460 : ∀ b, b ∈ L → b ∈ L454 := fun b hb => sb458 b (hsb424 b hb)
  have hf462 := (fr457 x hm427 ).trans hf426
  have hm461 := sb458 _ hm427
  have hf464 := (fr457 q1 hm430 ).trans hf429
  have hm463 := sb458 _ hm430
  have hf466 := (fr457 q19 hm433 ).trans hf432
  have hm465 := sb458 _ hm433
  have hf468 := (fr457 q40 hm436 ).trans hf435
  have hm467 := sb458 _ hm436
  have hf470 := (fr457 q83 hm439 ).trans hf438
  have hm469 := sb458 _ hm439
  have hf472 := (fr457 q187 hm442 ).trans hf441
  have hm471 := sb458 _ hm442
  have hf474 := (fr457 q217 hm445 ).trans hf444
  have hm473 := sb458 _ hm445
  have hf476 := (fr457 q254 hm448 ).trans hf447
  have hm475 := sb458 _ hm448
  have hf478 := (fr457 q290 hm451 ).trans hf450
  have hm477 := sb458 _ hm451
  have hf480 := (fr457 q415 hm420 ).trans hf421
  have hm479 := sb458 _ hm420
  refine pl_putF (ty := (.object "RulerWord$Free")) (v := .ref q415) (fs' := [.ref q1, .ref q40, .ref q83, .ref q132, .ref q187, .ref q254, .ref q336, .ref q415, .null, .null, .null, .null, .null, .null, .null, .int 0, .int 0, .long 0]) hx hb hts (fun w h => mT (inX10 w h)) tyX10 tyX10_ok nmX10 hown hG.1 hP hD hS hm461 hf462 rfl 7 (by decide) (hts _ (mT wg_482)) (fun _ h => h) rfl hnm rfl (by decide +kernel) (rfl) (rfl) (Nat.le_of_ble_eq_true rfl) rfl dX10_init_89 (fun H locs f481 hf483 ho482 hP hD hS => ?_)
  have hfr484 : ∀ b, b ∈ L → b ≠ x → f481 b = f b := fun b hb z0 => (ho482 b z0).trans (hfr459 b hb z0)
  have hf485 := (ho482 q1 hn14.symm).trans hf464
  have hf486 := (ho482 q19 hn30.symm).trans hf466
  have hf487 := (ho482 q40 hn53.symm).trans hf468
  have hf488 := (ho482 q83 hn96.symm).trans hf470
  have hf489 := (ho482 q187 hn200.symm).trans hf472
  have hf490 := (ho482 q217 hn228.symm).trans hf474
  have hf491 := (ho482 q254 hn267.symm).trans hf476
  have hf492 := (ho482 q290 hn302.symm).trans hf478
  have hf493 := (ho482 q415 hn428.symm).trans hf480
  refine lv_aload_n hx hb dX10_init_92 rfl (lv_at hl 0 rfl) ?_
  refine pl_new (ci := 3) (fs := [.int 0, .int 0, .int 0, .int 0, .int 0, .int 0, .int 0, .long 0, .long 0, .null, .null, .null, .null, .null, .null, .null, .null, .null]) (C := RX3) (T := TX3) (N := 18) hx hb hts (fun w h => mT (inX3 w h)) tyX3 tyX3_ok hown (hts _ (mT wg_329)) (hts _ (mT wg_330)) (hts _ (mT wg_165)) hG.1 hP hD hS hA rfl dvX3 (Nat.le_of_ble_eq_true rfl) (Nat.le_of_ble_eq_true rfl) dX10_init_93 (fun q494 H L495 f496 hq497 hs498 hm499 hf500 ho501 hP hD hS => ?_)
  have hfr502 : ∀ b, b ∈ L → b ≠ x → f496 b = f b := fun b hb z0 => (ho501 b (hsb460 b hb)).trans (hfr484 b hb z0)
  have hnq504 : q494 ∉ L := fun h => hq497 (hsb460 _ h)
  have hsb503 : ∀ b, b ∈ L → b ∈ _ := fun b hb => hs498 b (hsb460 b hb)
  have hf505 := (ho501 x hm461).trans hf483
  have hn507 : x ≠ q494 := fun e => hq497 (e ▸ hm461)
  have hm506 := hs498 _ hm461
  have hf508 := (ho501 q1 hm463).trans hf485
  have hn510 : q1 ≠ q494 := fun e => hq497 (e ▸ hm463)
  have hm509 := hs498 _ hm463
  have hf511 := (ho501 q19 hm465).trans hf486
  have hn513 : q19 ≠ q494 := fun e => hq497 (e ▸ hm465)
  have hm512 := hs498 _ hm465
  have hf514 := (ho501 q40 hm467).trans hf487
  have hn516 : q40 ≠ q494 := fun e => hq497 (e ▸ hm467)
  have hm515 := hs498 _ hm467
  have hf517 := (ho501 q83 hm469).trans hf488
  have hn519 : q83 ≠ q494 := fun e => hq497 (e ▸ hm469)
  have hm518 := hs498 _ hm469
  have hf520 := (ho501 q187 hm471).trans hf489
  have hn522 : q187 ≠ q494 := fun e => hq497 (e ▸ hm471)
  have hm521 := hs498 _ hm471
  have hf523 := (ho501 q217 hm473).trans hf490
  have hn525 : q217 ≠ q494 := fun e => hq497 (e ▸ hm473)
  have hm524 := hs498 _ hm473
  have hf526 := (ho501 q254 hm475).trans hf491
  have hn528 : q254 ≠ q494 := fun e => hq497 (e ▸ hm475)
  have hm527 := hs498 _ hm475
  have hf529 := (ho501 q290 hm477).trans hf492
  have hn531 : q290 ≠ q494 := fun e => hq497 (e ▸ hm477)
  have hm530 := hs498 _ hm477
  refine lv_dup hx hb dX10_init_96 rfl ?_
  refine call_v (run_IN (rm := { frames := 1, cells := 9, slots := 258, locals := 12 }) hx hb hml hown hts (k_X3_init l g _ _ _ q494 hm499 hf500) cI_X3_init wn_331 ⟨Nat.le_of_ble_eq_true rfl, Nat.le_of_ble_eq_true rfl⟩ hG hE hA hP hD hS rfl hl.1 (As := []) (rest := [.ref q494, .ref x]) rfl (Nat.le_of_ble_eq_true rfl) dX10_init_97 ⟨Nat.le_of_ble_eq_true rfl, Nat.le_of_ble_eq_true rfl⟩) hA hD hS (fun L533 f534 H locs hp535 hP hD hS => ?_)
  obtain ⟨q536, q537, q538, q539, q540, q541, q542, q543, q544, hf545, fr546, sb547⟩ := hp535
  have hfr548 : ∀ b, b ∈ L → b ≠ x → f534 b = f b := fun b hb z0 => (fr546 b (hsb503 b hb) (fun e => hnq504 (e ▸ hb))).trans (hfr502 b hb z0)
  have hsb549 : ∀ b, b ∈ L → b ∈ L533 := fun b hb => sb547 b (hsb503 b hb)
  have hf551 := (fr546 x hm506 hn507).trans hf505
  have hm550 := sb547 _ hm506
  have hf553 := (fr546 q1 hm509 hn510).trans hf508
  have hm552 := sb547 _ hm509
  have hf555 := (fr546 q19 hm512 hn513).trans hf511
  have hm554 := sb547 _ hm512
  have hf557 := (fr546 q40 hm515 hn516).trans hf514
  have hm556 := sb547 _ hm515
  have hf559 := (fr546 q83 hm518 hn519).trans hf517
  have hm558 := sb547 _ hm518
  have hf561 := (fr546 q187 hm521 hn522).trans hf520
  have hm560 := sb547 _ hm521
  have hf563 := (fr546 q217 hm524 hn525).trans hf523
  have hm562 := sb547 _ hm524
  have hf565 := (fr546 q254 hm527 hn528).trans hf526
  have hm564 := sb547 _ hm527
  have hf567 := (fr546 q290 hm530 hn531).trans hf529
  have hm566 := sb547 _ hm530
  have hm568 := sb547 _ hm499
  refine pl_putF (ty := (.object "RulerWord$Course")) (v := .ref q494) (fs' := [.ref q1, .ref q40, .ref q83, .ref q132, .ref q187, .ref q254, .ref q336, .ref q415, .ref q494, .null, .null, .null, .null, .null, .null, .int 0, .int 0, .long 0]) hx hb hts (fun w h => mT (inX10 w h)) tyX10 tyX10_ok nmX10 hown hG.1 hP hD hS hm550 hf551 rfl 8 (by decide) (hts _ (mT wg_483)) (fun _ h => h) rfl hnm rfl (by decide +kernel) (rfl) (rfl) (Nat.le_of_ble_eq_true rfl) rfl dX10_init_100 (fun H locs f569 hf571 ho570 hP hD hS => ?_)
  have hfr572 : ∀ b, b ∈ L → b ≠ x → f569 b = f b := fun b hb z0 => (ho570 b z0).trans (hfr548 b hb z0)
  have hf573 := (ho570 q1 hn14.symm).trans hf553
  have hf574 := (ho570 q19 hn30.symm).trans hf555
  have hf575 := (ho570 q40 hn53.symm).trans hf557
  have hf576 := (ho570 q83 hn96.symm).trans hf559
  have hf577 := (ho570 q187 hn200.symm).trans hf561
  have hf578 := (ho570 q217 hn228.symm).trans hf563
  have hf579 := (ho570 q254 hn267.symm).trans hf565
  have hf580 := (ho570 q290 hn302.symm).trans hf567
  have hf581 := (ho570 q494 hn507.symm).trans hf545
  refine lv_aload_n hx hb dX10_init_103 rfl (lv_at hl 0 rfl) ?_
  refine pl_new (ci := 3) (fs := [.int 0, .int 0, .int 0, .int 0, .int 0, .int 0, .int 0, .long 0, .long 0, .null, .null, .null, .null, .null, .null, .null, .null, .null]) (C := RX3) (T := TX3) (N := 18) hx hb hts (fun w h => mT (inX3 w h)) tyX3 tyX3_ok hown (hts _ (mT wg_329)) (hts _ (mT wg_330)) (hts _ (mT wg_165)) hG.1 hP hD hS hA rfl dvX3 (Nat.le_of_ble_eq_true rfl) (Nat.le_of_ble_eq_true rfl) dX10_init_104 (fun q582 H L583 f584 hq585 hs586 hm587 hf588 ho589 hP hD hS => ?_)
  have hfr590 : ∀ b, b ∈ L → b ≠ x → f584 b = f b := fun b hb z0 => (ho589 b (hsb549 b hb)).trans (hfr572 b hb z0)
  have hnq592 : q582 ∉ L := fun h => hq585 (hsb549 _ h)
  have hsb591 : ∀ b, b ∈ L → b ∈ _ := fun b hb => hs586 b (hsb549 b hb)
  have hf593 := (ho589 x hm550).trans hf571
  have hn595 : x ≠ q582 := fun e => hq585 (e ▸ hm550)
  have hm594 := hs586 _ hm550
  have hf596 := (ho589 q1 hm552).trans hf573
  have hn598 : q1 ≠ q582 := fun e => hq585 (e ▸ hm552)
  have hm597 := hs586 _ hm552
  have hf599 := (ho589 q19 hm554).trans hf574
  have hn601 : q19 ≠ q582 := fun e => hq585 (e ▸ hm554)
  have hm600 := hs586 _ hm554
  have hf602 := (ho589 q40 hm556).trans hf575
  have hn604 : q40 ≠ q582 := fun e => hq585 (e ▸ hm556)
  have hm603 := hs586 _ hm556
  have hf605 := (ho589 q83 hm558).trans hf576
  have hn607 : q83 ≠ q582 := fun e => hq585 (e ▸ hm558)
  have hm606 := hs586 _ hm558
  have hf608 := (ho589 q187 hm560).trans hf577
  have hn610 : q187 ≠ q582 := fun e => hq585 (e ▸ hm560)
  have hm609 := hs586 _ hm560
  have hf611 := (ho589 q217 hm562).trans hf578
  have hn613 : q217 ≠ q582 := fun e => hq585 (e ▸ hm562)
  have hm612 := hs586 _ hm562
  have hf614 := (ho589 q254 hm564).trans hf579
  have hn616 : q254 ≠ q582 := fun e => hq585 (e ▸ hm564)
  have hm615 := hs586 _ hm564
  have hf617 := (ho589 q290 hm566).trans hf580
  have hn619 : q290 ≠ q582 := fun e => hq585 (e ▸ hm566)
  have hm618 := hs586 _ hm566
  have hf620 := (ho589 q494 hm568).trans hf581
  have hn622 : q494 ≠ q582 := fun e => hq585 (e ▸ hm568)
  have hm621 := hs586 _ hm568
  refine lv_dup hx hb dX10_init_107 rfl ?_
  refine call_v (run_IN (rm := { frames := 1, cells := 9, slots := 258, locals := 12 }) hx hb hml hown hts (k_X3_init l g _ _ _ q582 hm587 hf588) cI_X3_init wn_331 ⟨Nat.le_of_ble_eq_true rfl, Nat.le_of_ble_eq_true rfl⟩ hG hE hA hP hD hS rfl hl.1 (As := []) (rest := [.ref q582, .ref x]) rfl (Nat.le_of_ble_eq_true rfl) dX10_init_108 ⟨Nat.le_of_ble_eq_true rfl, Nat.le_of_ble_eq_true rfl⟩) hA hD hS (fun L624 f625 H locs hp626 hP hD hS => ?_)
  obtain ⟨q627, q628, q629, q630, q631, q632, q633, q634, q635, hf636, fr637, sb638⟩ := hp626
  have hfr639 : ∀ b, b ∈ L → b ≠ x → f625 b = f b := fun b hb z0 => (fr637 b (hsb591 b hb) (fun e => hnq592 (e ▸ hb))).trans (hfr590 b hb z0)
  have hsb640 : ∀ b, b ∈ L → b ∈ L624 := fun b hb => sb638 b (hsb591 b hb)
  have hf642 := (fr637 x hm594 hn595).trans hf593
  have hm641 := sb638 _ hm594
  have hf644 := (fr637 q1 hm597 hn598).trans hf596
  have hm643 := sb638 _ hm597
  have hf646 := (fr637 q19 hm600 hn601).trans hf599
  have hm645 := sb638 _ hm600
  have hf648 := (fr637 q40 hm603 hn604).trans hf602
  have hm647 := sb638 _ hm603
  have hf650 := (fr637 q83 hm606 hn607).trans hf605
  have hm649 := sb638 _ hm606
  have hf652 := (fr637 q187 hm609 hn610).trans hf608
  have hm651 := sb638 _ hm609
  have hf654 := (fr637 q217 hm612 hn613).trans hf611
  have hm653 := sb638 _ hm612
  have hf656 := (fr637 q254 hm615 hn616).trans hf614
  have hm655 := sb638 _ hm615
  have hf658 := (fr637 q290 hm618 hn619).trans hf617
  have hm657 := sb638 _ hm618
  have hf660 := (fr637 q494 hm621 hn622).trans hf620
  have hm659 := sb638 _ hm621
  have hm661 := sb638 _ hm587
  refine pl_putF (ty := (.object "RulerWord$Course")) (v := .ref q582) (fs' := [.ref q1, .ref q40, .ref q83, .ref q132, .ref q187, .ref q254, .ref q336, .ref q415, .ref q494, .ref q582, .null, .null, .null, .null, .null, .int 0, .int 0, .long 0]) hx hb hts (fun w h => mT (inX10 w h)) tyX10 tyX10_ok nmX10 hown hG.1 hP hD hS hm641 hf642 rfl 9 (by decide) (hts _ (mT wg_484)) (fun _ h => h) rfl hnm rfl (by decide +kernel) (rfl) (rfl) (Nat.le_of_ble_eq_true rfl) rfl dX10_init_111 (fun H locs f662 hf664 ho663 hP hD hS => ?_)
  have hfr665 : ∀ b, b ∈ L → b ≠ x → f662 b = f b := fun b hb z0 => (ho663 b z0).trans (hfr639 b hb z0)
  have hf666 := (ho663 q1 hn14.symm).trans hf644
  have hf667 := (ho663 q19 hn30.symm).trans hf646
  have hf668 := (ho663 q40 hn53.symm).trans hf648
  have hf669 := (ho663 q83 hn96.symm).trans hf650
  have hf670 := (ho663 q187 hn200.symm).trans hf652
  have hf671 := (ho663 q217 hn228.symm).trans hf654
  have hf672 := (ho663 q254 hn267.symm).trans hf656
  have hf673 := (ho663 q290 hn302.symm).trans hf658
  have hf674 := (ho663 q494 hn507.symm).trans hf660
  have hf675 := (ho663 q582 hn595.symm).trans hf636
  refine lv_aload_n hx hb dX10_init_114 rfl (lv_at hl 0 rfl) ?_
  refine pl_new (ci := 3) (fs := [.int 0, .int 0, .int 0, .int 0, .int 0, .int 0, .int 0, .long 0, .long 0, .null, .null, .null, .null, .null, .null, .null, .null, .null]) (C := RX3) (T := TX3) (N := 18) hx hb hts (fun w h => mT (inX3 w h)) tyX3 tyX3_ok hown (hts _ (mT wg_329)) (hts _ (mT wg_330)) (hts _ (mT wg_165)) hG.1 hP hD hS hA rfl dvX3 (Nat.le_of_ble_eq_true rfl) (Nat.le_of_ble_eq_true rfl) dX10_init_115 (fun q676 H L677 f678 hq679 hs680 hm681 hf682 ho683 hP hD hS => ?_)
  have hfr684 : ∀ b, b ∈ L → b ≠ x → f678 b = f b := fun b hb z0 => (ho683 b (hsb640 b hb)).trans (hfr665 b hb z0)
  have hnq686 : q676 ∉ L := fun h => hq679 (hsb640 _ h)
  have hsb685 : ∀ b, b ∈ L → b ∈ _ := fun b hb => hs680 b (hsb640 b hb)
  have hf687 := (ho683 x hm641).trans hf664
  have hn689 : x ≠ q676 := fun e => hq679 (e ▸ hm641)
  have hm688 := hs680 _ hm641
  have hf690 := (ho683 q1 hm643).trans hf666
  have hn692 : q1 ≠ q676 := fun e => hq679 (e ▸ hm643)
  have hm691 := hs680 _ hm643
  have hf693 := (ho683 q19 hm645).trans hf667
  have hn695 : q19 ≠ q676 := fun e => hq679 (e ▸ hm645)
  have hm694 := hs680 _ hm645
  have hf696 := (ho683 q40 hm647).trans hf668
  have hn698 : q40 ≠ q676 := fun e => hq679 (e ▸ hm647)
  have hm697 := hs680 _ hm647
  have hf699 := (ho683 q83 hm649).trans hf669
  have hn701 : q83 ≠ q676 := fun e => hq679 (e ▸ hm649)
  have hm700 := hs680 _ hm649
  have hf702 := (ho683 q187 hm651).trans hf670
  have hn704 : q187 ≠ q676 := fun e => hq679 (e ▸ hm651)
  have hm703 := hs680 _ hm651
  have hf705 := (ho683 q217 hm653).trans hf671
  have hn707 : q217 ≠ q676 := fun e => hq679 (e ▸ hm653)
  have hm706 := hs680 _ hm653
  have hf708 := (ho683 q254 hm655).trans hf672
  have hn710 : q254 ≠ q676 := fun e => hq679 (e ▸ hm655)
  have hm709 := hs680 _ hm655
  have hf711 := (ho683 q290 hm657).trans hf673
  have hn713 : q290 ≠ q676 := fun e => hq679 (e ▸ hm657)
  have hm712 := hs680 _ hm657
  have hf714 := (ho683 q494 hm659).trans hf674
  have hn716 : q494 ≠ q676 := fun e => hq679 (e ▸ hm659)
  have hm715 := hs680 _ hm659
  refine lv_dup hx hb dX10_init_118 rfl ?_
  refine call_v (run_IN (rm := { frames := 1, cells := 9, slots := 258, locals := 12 }) hx hb hml hown hts (k_X3_init l g _ _ _ q676 hm681 hf682) cI_X3_init wn_331 ⟨Nat.le_of_ble_eq_true rfl, Nat.le_of_ble_eq_true rfl⟩ hG hE hA hP hD hS rfl hl.1 (As := []) (rest := [.ref q676, .ref x]) rfl (Nat.le_of_ble_eq_true rfl) dX10_init_119 ⟨Nat.le_of_ble_eq_true rfl, Nat.le_of_ble_eq_true rfl⟩) hA hD hS (fun L718 f719 H locs hp720 hP hD hS => ?_)
  obtain ⟨q721, q722, q723, q724, q725, q726, q727, q728, q729, hf730, fr731, sb732⟩ := hp720
  have hfr733 : ∀ b, b ∈ L → b ≠ x → f719 b = f b := fun b hb z0 => (fr731 b (hsb685 b hb) (fun e => hnq686 (e ▸ hb))).trans (hfr684 b hb z0)
  have hsb734 : ∀ b, b ∈ L → b ∈ L718 := fun b hb => sb732 b (hsb685 b hb)
  have hf736 := (fr731 x hm688 hn689).trans hf687
  have hm735 := sb732 _ hm688
  have hf738 := (fr731 q1 hm691 hn692).trans hf690
  have hm737 := sb732 _ hm691
  have hf740 := (fr731 q19 hm694 hn695).trans hf693
  have hm739 := sb732 _ hm694
  have hf742 := (fr731 q40 hm697 hn698).trans hf696
  have hm741 := sb732 _ hm697
  have hf744 := (fr731 q83 hm700 hn701).trans hf699
  have hm743 := sb732 _ hm700
  have hf746 := (fr731 q187 hm703 hn704).trans hf702
  have hm745 := sb732 _ hm703
  have hf748 := (fr731 q217 hm706 hn707).trans hf705
  have hm747 := sb732 _ hm706
  have hf750 := (fr731 q254 hm709 hn710).trans hf708
  have hm749 := sb732 _ hm709
  have hf752 := (fr731 q290 hm712 hn713).trans hf711
  have hm751 := sb732 _ hm712
  have hf754 := (fr731 q494 hm715 hn716).trans hf714
  have hm753 := sb732 _ hm715
  have hm755 := sb732 _ hm681
  refine pl_putF (ty := (.object "RulerWord$Course")) (v := .ref q676) (fs' := [.ref q1, .ref q40, .ref q83, .ref q132, .ref q187, .ref q254, .ref q336, .ref q415, .ref q494, .ref q582, .ref q676, .null, .null, .null, .null, .int 0, .int 0, .long 0]) hx hb hts (fun w h => mT (inX10 w h)) tyX10 tyX10_ok nmX10 hown hG.1 hP hD hS hm735 hf736 rfl 10 (by decide) (hts _ (mT wg_485)) (fun _ h => h) rfl hnm rfl (by decide +kernel) (rfl) (rfl) (Nat.le_of_ble_eq_true rfl) rfl dX10_init_122 (fun H locs f756 hf758 ho757 hP hD hS => ?_)
  have hfr759 : ∀ b, b ∈ L → b ≠ x → f756 b = f b := fun b hb z0 => (ho757 b z0).trans (hfr733 b hb z0)
  have hf760 := (ho757 q1 hn14.symm).trans hf738
  have hf761 := (ho757 q19 hn30.symm).trans hf740
  have hf762 := (ho757 q40 hn53.symm).trans hf742
  have hf763 := (ho757 q83 hn96.symm).trans hf744
  have hf764 := (ho757 q187 hn200.symm).trans hf746
  have hf765 := (ho757 q217 hn228.symm).trans hf748
  have hf766 := (ho757 q254 hn267.symm).trans hf750
  have hf767 := (ho757 q290 hn302.symm).trans hf752
  have hf768 := (ho757 q494 hn507.symm).trans hf754
  have hf769 := (ho757 q676 hn689.symm).trans hf730
  refine lv_aload_n hx hb dX10_init_125 rfl (lv_at hl 0 rfl) ?_
  refine pl_new (ci := 0) (fs := [.null, .int 0, .int 0]) (C := RX0) (T := TX0) (N := 3) hx hb hts (fun w h => mT (inX0 w h)) tyX0 tyX0_ok hown (hts _ (mT wg_404)) (hts _ (mT wg_405)) (hts _ (mT wg_166)) hG.1 hP hD hS hA rfl dvX0 (Nat.le_of_ble_eq_true rfl) (Nat.le_of_ble_eq_true rfl) dX10_init_126 (fun q770 H L771 f772 hq773 hs774 hm775 hf776 ho777 hP hD hS => ?_)
  have hfr778 : ∀ b, b ∈ L → b ≠ x → f772 b = f b := fun b hb z0 => (ho777 b (hsb734 b hb)).trans (hfr759 b hb z0)
  have hnq780 : q770 ∉ L := fun h => hq773 (hsb734 _ h)
  have hsb779 : ∀ b, b ∈ L → b ∈ _ := fun b hb => hs774 b (hsb734 b hb)
  have hf781 := (ho777 x hm735).trans hf758
  have hn783 : x ≠ q770 := fun e => hq773 (e ▸ hm735)
  have hm782 := hs774 _ hm735
  have hf784 := (ho777 q1 hm737).trans hf760
  have hn786 : q1 ≠ q770 := fun e => hq773 (e ▸ hm737)
  have hm785 := hs774 _ hm737
  have hf787 := (ho777 q19 hm739).trans hf761
  have hn789 : q19 ≠ q770 := fun e => hq773 (e ▸ hm739)
  have hm788 := hs774 _ hm739
  have hf790 := (ho777 q40 hm741).trans hf762
  have hn792 : q40 ≠ q770 := fun e => hq773 (e ▸ hm741)
  have hm791 := hs774 _ hm741
  have hf793 := (ho777 q83 hm743).trans hf763
  have hn795 : q83 ≠ q770 := fun e => hq773 (e ▸ hm743)
  have hm794 := hs774 _ hm743
  have hf796 := (ho777 q187 hm745).trans hf764
  have hn798 : q187 ≠ q770 := fun e => hq773 (e ▸ hm745)
  have hm797 := hs774 _ hm745
  have hf799 := (ho777 q217 hm747).trans hf765
  have hn801 : q217 ≠ q770 := fun e => hq773 (e ▸ hm747)
  have hm800 := hs774 _ hm747
  have hf802 := (ho777 q254 hm749).trans hf766
  have hn804 : q254 ≠ q770 := fun e => hq773 (e ▸ hm749)
  have hm803 := hs774 _ hm749
  have hf805 := (ho777 q290 hm751).trans hf767
  have hn807 : q290 ≠ q770 := fun e => hq773 (e ▸ hm751)
  have hm806 := hs774 _ hm751
  have hf808 := (ho777 q494 hm753).trans hf768
  have hn810 : q494 ≠ q770 := fun e => hq773 (e ▸ hm753)
  have hm809 := hs774 _ hm753
  refine lv_dup hx hb dX10_init_129 rfl ?_
  refine call_v (run_IN (rm := { frames := 2, cells := 201, slots := 5540, locals := 32 }) hx hb hml hown hts (k_X0_init l g _ _ _ q770 hm775 hf776) cI_X0_init wn_406 ⟨Nat.le_of_ble_eq_true rfl, Nat.le_of_ble_eq_true rfl⟩ hG hE hA hP hD hS rfl hl.1 (As := []) (rest := [.ref q770, .ref x]) rfl (Nat.le_of_ble_eq_true rfl) dX10_init_130 ⟨Nat.le_of_ble_eq_true rfl, Nat.le_of_ble_eq_true rfl⟩) hA hD hS (fun L812 f813 H locs hp814 hP hD hS => ?_)
  obtain ⟨q815, hf816, fr817, sb818⟩ := hp814
  have hfr819 : ∀ b, b ∈ L → b ≠ x → f813 b = f b := fun b hb z0 => (fr817 b (hsb779 b hb) (fun e => hnq780 (e ▸ hb))).trans (hfr778 b hb z0)
  have hsb820 : ∀ b, b ∈ L → b ∈ L812 := fun b hb => sb818 b (hsb779 b hb)
  have hf822 := (fr817 x hm782 hn783).trans hf781
  have hm821 := sb818 _ hm782
  have hf824 := (fr817 q1 hm785 hn786).trans hf784
  have hm823 := sb818 _ hm785
  have hf826 := (fr817 q19 hm788 hn789).trans hf787
  have hm825 := sb818 _ hm788
  have hf828 := (fr817 q40 hm791 hn792).trans hf790
  have hm827 := sb818 _ hm791
  have hf830 := (fr817 q83 hm794 hn795).trans hf793
  have hm829 := sb818 _ hm794
  have hf832 := (fr817 q187 hm797 hn798).trans hf796
  have hm831 := sb818 _ hm797
  have hf834 := (fr817 q217 hm800 hn801).trans hf799
  have hm833 := sb818 _ hm800
  have hf836 := (fr817 q254 hm803 hn804).trans hf802
  have hm835 := sb818 _ hm803
  have hf838 := (fr817 q290 hm806 hn807).trans hf805
  have hm837 := sb818 _ hm806
  have hf840 := (fr817 q494 hm809 hn810).trans hf808
  have hm839 := sb818 _ hm809
  have hm841 := sb818 _ hm775
  refine pl_putF (ty := (.object "RulerWord$Acts")) (v := .ref q770) (fs' := [.ref q1, .ref q40, .ref q83, .ref q132, .ref q187, .ref q254, .ref q336, .ref q415, .ref q494, .ref q582, .ref q676, .ref q770, .null, .null, .null, .int 0, .int 0, .long 0]) hx hb hts (fun w h => mT (inX10 w h)) tyX10 tyX10_ok nmX10 hown hG.1 hP hD hS hm821 hf822 rfl 11 (by decide) (hts _ (mT wg_486)) (fun _ h => h) rfl hnm rfl (by decide +kernel) (rfl) (rfl) (Nat.le_of_ble_eq_true rfl) rfl dX10_init_133 (fun H locs f842 hf844 ho843 hP hD hS => ?_)
  have hfr845 : ∀ b, b ∈ L → b ≠ x → f842 b = f b := fun b hb z0 => (ho843 b z0).trans (hfr819 b hb z0)
  have hf846 := (ho843 q1 hn14.symm).trans hf824
  have hf847 := (ho843 q19 hn30.symm).trans hf826
  have hf848 := (ho843 q40 hn53.symm).trans hf828
  have hf849 := (ho843 q83 hn96.symm).trans hf830
  have hf850 := (ho843 q187 hn200.symm).trans hf832
  have hf851 := (ho843 q217 hn228.symm).trans hf834
  have hf852 := (ho843 q254 hn267.symm).trans hf836
  have hf853 := (ho843 q290 hn302.symm).trans hf838
  have hf854 := (ho843 q494 hn507.symm).trans hf840
  have hf855 := (ho843 q770 hn783.symm).trans hf816
  refine lv_aload_n hx hb dX10_init_136 rfl (lv_at hl 0 rfl) ?_
  refine pl_new (ci := 7) (fs := [.null, .null, .null, .null, .null, .null, .int 0, .int 0, .int 0, .int 0, .int 0, .int 0, .int 0, .int 0]) (C := RX7) (T := TX7) (N := 14) hx hb hts (fun w h => mT (inX7 w h)) tyX7 tyX7_ok hown (hts _ (mT wg_424)) (hts _ (mT wg_425)) (hts _ (mT wg_167)) hG.1 hP hD hS hA rfl dvX7 (Nat.le_of_ble_eq_true rfl) (Nat.le_of_ble_eq_true rfl) dX10_init_137 (fun q856 H L857 f858 hq859 hs860 hm861 hf862 ho863 hP hD hS => ?_)
  have hfr864 : ∀ b, b ∈ L → b ≠ x → f858 b = f b := fun b hb z0 => (ho863 b (hsb820 b hb)).trans (hfr845 b hb z0)
  have hnq866 : q856 ∉ L := fun h => hq859 (hsb820 _ h)
  have hsb865 : ∀ b, b ∈ L → b ∈ _ := fun b hb => hs860 b (hsb820 b hb)
  have hf867 := (ho863 x hm821).trans hf844
  have hn869 : x ≠ q856 := fun e => hq859 (e ▸ hm821)
  have hm868 := hs860 _ hm821
  have hf870 := (ho863 q1 hm823).trans hf846
  have hn872 : q1 ≠ q856 := fun e => hq859 (e ▸ hm823)
  have hm871 := hs860 _ hm823
  have hf873 := (ho863 q19 hm825).trans hf847
  have hn875 : q19 ≠ q856 := fun e => hq859 (e ▸ hm825)
  have hm874 := hs860 _ hm825
  have hf876 := (ho863 q40 hm827).trans hf848
  have hn878 : q40 ≠ q856 := fun e => hq859 (e ▸ hm827)
  have hm877 := hs860 _ hm827
  have hf879 := (ho863 q83 hm829).trans hf849
  have hn881 : q83 ≠ q856 := fun e => hq859 (e ▸ hm829)
  have hm880 := hs860 _ hm829
  have hf882 := (ho863 q187 hm831).trans hf850
  have hn884 : q187 ≠ q856 := fun e => hq859 (e ▸ hm831)
  have hm883 := hs860 _ hm831
  have hf885 := (ho863 q217 hm833).trans hf851
  have hn887 : q217 ≠ q856 := fun e => hq859 (e ▸ hm833)
  have hm886 := hs860 _ hm833
  have hf888 := (ho863 q254 hm835).trans hf852
  have hn890 : q254 ≠ q856 := fun e => hq859 (e ▸ hm835)
  have hm889 := hs860 _ hm835
  have hf891 := (ho863 q290 hm837).trans hf853
  have hn893 : q290 ≠ q856 := fun e => hq859 (e ▸ hm837)
  have hm892 := hs860 _ hm837
  have hf894 := (ho863 q494 hm839).trans hf854
  have hn896 : q494 ≠ q856 := fun e => hq859 (e ▸ hm839)
  have hm895 := hs860 _ hm839
  have hf897 := (ho863 q770 hm841).trans hf855
  have hn899 : q770 ≠ q856 := fun e => hq859 (e ▸ hm841)
  have hm898 := hs860 _ hm841
  refine lv_dup hx hb dX10_init_140 rfl ?_
  refine call_v (run_IN (rm := { frames := 2, cells := 6, slots := 288, locals := 32 }) hx hb hml hown hts (k_X7_init l g _ _ _ q856 hm861 hf862) cI_X7_init wn_426 ⟨Nat.le_of_ble_eq_true rfl, Nat.le_of_ble_eq_true rfl⟩ hG hE hA hP hD hS rfl hl.1 (As := []) (rest := [.ref q856, .ref x]) rfl (Nat.le_of_ble_eq_true rfl) dX10_init_141 ⟨Nat.le_of_ble_eq_true rfl, Nat.le_of_ble_eq_true rfl⟩) hA hD hS (fun L901 f902 H locs hp903 hP hD hS => ?_)
  obtain ⟨q904, q905, q906, q907, q908, q909, hf910, fr911, sb912⟩ := hp903
  have hfr913 : ∀ b, b ∈ L → b ≠ x → f902 b = f b := fun b hb z0 => (fr911 b (hsb865 b hb) (fun e => hnq866 (e ▸ hb))).trans (hfr864 b hb z0)
  have hsb914 : ∀ b, b ∈ L → b ∈ L901 := fun b hb => sb912 b (hsb865 b hb)
  have hf916 := (fr911 x hm868 hn869).trans hf867
  have hm915 := sb912 _ hm868
  have hf918 := (fr911 q1 hm871 hn872).trans hf870
  have hm917 := sb912 _ hm871
  have hf920 := (fr911 q19 hm874 hn875).trans hf873
  have hm919 := sb912 _ hm874
  have hf922 := (fr911 q40 hm877 hn878).trans hf876
  have hm921 := sb912 _ hm877
  have hf924 := (fr911 q83 hm880 hn881).trans hf879
  have hm923 := sb912 _ hm880
  have hf926 := (fr911 q187 hm883 hn884).trans hf882
  have hm925 := sb912 _ hm883
  have hf928 := (fr911 q217 hm886 hn887).trans hf885
  have hm927 := sb912 _ hm886
  have hf930 := (fr911 q254 hm889 hn890).trans hf888
  have hm929 := sb912 _ hm889
  have hf932 := (fr911 q290 hm892 hn893).trans hf891
  have hm931 := sb912 _ hm892
  have hf934 := (fr911 q494 hm895 hn896).trans hf894
  have hm933 := sb912 _ hm895
  have hf936 := (fr911 q770 hm898 hn899).trans hf897
  have hm935 := sb912 _ hm898
  have hm937 := sb912 _ hm861
  refine pl_putF (ty := (.object "RulerWord$Search")) (v := .ref q856) (fs' := [.ref q1, .ref q40, .ref q83, .ref q132, .ref q187, .ref q254, .ref q336, .ref q415, .ref q494, .ref q582, .ref q676, .ref q770, .ref q856, .null, .null, .int 0, .int 0, .long 0]) hx hb hts (fun w h => mT (inX10 w h)) tyX10 tyX10_ok nmX10 hown hG.1 hP hD hS hm915 hf916 rfl 12 (by decide) (hts _ (mT wg_487)) (fun _ h => h) rfl hnm rfl (by decide +kernel) (rfl) (rfl) (Nat.le_of_ble_eq_true rfl) rfl dX10_init_144 (fun H locs f938 hf940 ho939 hP hD hS => ?_)
  have hfr941 : ∀ b, b ∈ L → b ≠ x → f938 b = f b := fun b hb z0 => (ho939 b z0).trans (hfr913 b hb z0)
  have hf942 := (ho939 q1 hn14.symm).trans hf918
  have hf943 := (ho939 q19 hn30.symm).trans hf920
  have hf944 := (ho939 q40 hn53.symm).trans hf922
  have hf945 := (ho939 q83 hn96.symm).trans hf924
  have hf946 := (ho939 q187 hn200.symm).trans hf926
  have hf947 := (ho939 q217 hn228.symm).trans hf928
  have hf948 := (ho939 q254 hn267.symm).trans hf930
  have hf949 := (ho939 q290 hn302.symm).trans hf932
  have hf950 := (ho939 q494 hn507.symm).trans hf934
  have hf951 := (ho939 q770 hn783.symm).trans hf936
  have hf952 := (ho939 q856 hn869.symm).trans hf910
  refine lv_aload_n hx hb dX10_init_147 rfl (lv_at hl 0 rfl) ?_
  refine pl_new (ci := 8) (fs := [.null, .int 0, .int 0, .int 0, .int 0]) (C := RX8) (T := TX8) (N := 5) hx hb hts (fun w h => mT (inX8 w h)) tyX8 tyX8_ok hown (hts _ (mT wg_189)) (hts _ (mT wg_190)) (hts _ (mT wg_158)) hG.1 hP hD hS hA rfl dvX8 (Nat.le_of_ble_eq_true rfl) (Nat.le_of_ble_eq_true rfl) dX10_init_148 (fun q953 H L954 f955 hq956 hs957 hm958 hf959 ho960 hP hD hS => ?_)
  have hfr961 : ∀ b, b ∈ L → b ≠ x → f955 b = f b := fun b hb z0 => (ho960 b (hsb914 b hb)).trans (hfr941 b hb z0)
  have hnq963 : q953 ∉ L := fun h => hq956 (hsb914 _ h)
  have hsb962 : ∀ b, b ∈ L → b ∈ _ := fun b hb => hs957 b (hsb914 b hb)
  have hf964 := (ho960 x hm915).trans hf940
  have hn966 : x ≠ q953 := fun e => hq956 (e ▸ hm915)
  have hm965 := hs957 _ hm915
  have hf967 := (ho960 q1 hm917).trans hf942
  have hn969 : q1 ≠ q953 := fun e => hq956 (e ▸ hm917)
  have hm968 := hs957 _ hm917
  have hf970 := (ho960 q19 hm919).trans hf943
  have hn972 : q19 ≠ q953 := fun e => hq956 (e ▸ hm919)
  have hm971 := hs957 _ hm919
  have hf973 := (ho960 q40 hm921).trans hf944
  have hn975 : q40 ≠ q953 := fun e => hq956 (e ▸ hm921)
  have hm974 := hs957 _ hm921
  have hf976 := (ho960 q83 hm923).trans hf945
  have hn978 : q83 ≠ q953 := fun e => hq956 (e ▸ hm923)
  have hm977 := hs957 _ hm923
  have hf979 := (ho960 q187 hm925).trans hf946
  have hn981 : q187 ≠ q953 := fun e => hq956 (e ▸ hm925)
  have hm980 := hs957 _ hm925
  have hf982 := (ho960 q217 hm927).trans hf947
  have hn984 : q217 ≠ q953 := fun e => hq956 (e ▸ hm927)
  have hm983 := hs957 _ hm927
  have hf985 := (ho960 q254 hm929).trans hf948
  have hn987 : q254 ≠ q953 := fun e => hq956 (e ▸ hm929)
  have hm986 := hs957 _ hm929
  have hf988 := (ho960 q290 hm931).trans hf949
  have hn990 : q290 ≠ q953 := fun e => hq956 (e ▸ hm931)
  have hm989 := hs957 _ hm931
  have hf991 := (ho960 q494 hm933).trans hf950
  have hn993 : q494 ≠ q953 := fun e => hq956 (e ▸ hm933)
  have hm992 := hs957 _ hm933
  have hf994 := (ho960 q770 hm935).trans hf951
  have hn996 : q770 ≠ q953 := fun e => hq956 (e ▸ hm935)
  have hm995 := hs957 _ hm935
  refine lv_dup hx hb dX10_init_151 rfl ?_
  refine call_v (run_IN (rm := { frames := 1, cells := 1, slots := 520, locals := 12 }) hx hb hml hown hts (k_X8_init l g _ _ _ q953 hm958 hf959) cI_X8_init wn_191 ⟨Nat.le_of_ble_eq_true rfl, Nat.le_of_ble_eq_true rfl⟩ hG hE hA hP hD hS rfl hl.1 (As := []) (rest := [.ref q953, .ref x]) rfl (Nat.le_of_ble_eq_true rfl) dX10_init_152 ⟨Nat.le_of_ble_eq_true rfl, Nat.le_of_ble_eq_true rfl⟩) hA hD hS (fun L998 f999 H locs hp1000 hP hD hS => ?_)
  obtain ⟨q1001, hn1002, hm1003, hf1004, hf1005, fr1006, sb1007⟩ := hp1000
  have hfr1008 : ∀ b, b ∈ L → b ≠ x → f999 b = f b := fun b hb z0 => (fr1006 b (hsb962 b hb) (fun e => hnq963 (e ▸ hb))).trans (hfr961 b hb z0)
  have hnq1010 : q1001 ∉ L := fun h => hn1002 (hsb962 _ h)
  have hsb1009 : ∀ b, b ∈ L → b ∈ L998 := fun b hb => sb1007 b (hsb962 b hb)
  have hn1012 : x ≠ q1001 := fun e => hn1002 (e ▸ hm965)
  have hf1013 := (fr1006 x hm965 hn966).trans hf964
  have hm1011 := sb1007 _ hm965
  have hn1015 : q1 ≠ q1001 := fun e => hn1002 (e ▸ hm968)
  have hf1016 := (fr1006 q1 hm968 hn969).trans hf967
  have hm1014 := sb1007 _ hm968
  have hn1018 : q19 ≠ q1001 := fun e => hn1002 (e ▸ hm971)
  have hf1019 := (fr1006 q19 hm971 hn972).trans hf970
  have hm1017 := sb1007 _ hm971
  have hn1021 : q40 ≠ q1001 := fun e => hn1002 (e ▸ hm974)
  have hf1022 := (fr1006 q40 hm974 hn975).trans hf973
  have hm1020 := sb1007 _ hm974
  have hn1024 : q83 ≠ q1001 := fun e => hn1002 (e ▸ hm977)
  have hf1025 := (fr1006 q83 hm977 hn978).trans hf976
  have hm1023 := sb1007 _ hm977
  have hn1027 : q187 ≠ q1001 := fun e => hn1002 (e ▸ hm980)
  have hf1028 := (fr1006 q187 hm980 hn981).trans hf979
  have hm1026 := sb1007 _ hm980
  have hn1030 : q217 ≠ q1001 := fun e => hn1002 (e ▸ hm983)
  have hf1031 := (fr1006 q217 hm983 hn984).trans hf982
  have hm1029 := sb1007 _ hm983
  have hn1033 : q254 ≠ q1001 := fun e => hn1002 (e ▸ hm986)
  have hf1034 := (fr1006 q254 hm986 hn987).trans hf985
  have hm1032 := sb1007 _ hm986
  have hn1036 : q290 ≠ q1001 := fun e => hn1002 (e ▸ hm989)
  have hf1037 := (fr1006 q290 hm989 hn990).trans hf988
  have hm1035 := sb1007 _ hm989
  have hn1039 : q494 ≠ q1001 := fun e => hn1002 (e ▸ hm992)
  have hf1040 := (fr1006 q494 hm992 hn993).trans hf991
  have hm1038 := sb1007 _ hm992
  have hn1042 : q770 ≠ q1001 := fun e => hn1002 (e ▸ hm995)
  have hf1043 := (fr1006 q770 hm995 hn996).trans hf994
  have hm1041 := sb1007 _ hm995
  have hn1045 : q953 ≠ q1001 := fun e => hn1002 (e ▸ hm958)
  have hm1044 := sb1007 _ hm958
  refine pl_putF (ty := (.object "RulerWord$Tape")) (v := .ref q953) (fs' := [.ref q1, .ref q40, .ref q83, .ref q132, .ref q187, .ref q254, .ref q336, .ref q415, .ref q494, .ref q582, .ref q676, .ref q770, .ref q856, .ref q953, .null, .int 0, .int 0, .long 0]) hx hb hts (fun w h => mT (inX10 w h)) tyX10 tyX10_ok nmX10 hown hG.1 hP hD hS hm1011 hf1013 rfl 13 (by decide) (hts _ (mT wg_488)) (fun _ h => h) rfl hnm rfl (by decide +kernel) (rfl) (rfl) (Nat.le_of_ble_eq_true rfl) rfl dX10_init_155 (fun H locs f1046 hf1048 ho1047 hP hD hS => ?_)
  have hfr1049 : ∀ b, b ∈ L → b ≠ x → f1046 b = f b := fun b hb z0 => (ho1047 b z0).trans (hfr1008 b hb z0)
  have hf1050 := (ho1047 q1 hn14.symm).trans hf1016
  have hf1051 := (ho1047 q19 hn30.symm).trans hf1019
  have hf1052 := (ho1047 q40 hn53.symm).trans hf1022
  have hf1053 := (ho1047 q83 hn96.symm).trans hf1025
  have hf1054 := (ho1047 q187 hn200.symm).trans hf1028
  have hf1055 := (ho1047 q217 hn228.symm).trans hf1031
  have hf1056 := (ho1047 q254 hn267.symm).trans hf1034
  have hf1057 := (ho1047 q290 hn302.symm).trans hf1037
  have hf1058 := (ho1047 q494 hn507.symm).trans hf1040
  have hf1059 := (ho1047 q770 hn783.symm).trans hf1043
  have hf1060 := (ho1047 q953 hn966.symm).trans hf1005
  have hf1061 := (ho1047 q1001 hn1012.symm).trans hf1004
  refine lv_aload_n hx hb dX10_init_158 rfl (lv_at hl 0 rfl) ?_
  refine lv_iconst (v := 5) hx hb dX10_init_159 (by decide) ?_
  refine pl_newa (atype := .int) (ty := .int) (N' := 5) (a0 := (5, .inl (fun _ => 0))) hx hb (hts _ (mT wg_217)) rfl hG.1 hP hD hS hA 0 rfl (fun _ h => h) (fun _ => rfl) (by decide) (by decide) (Nat.le_of_ble_eq_true rfl) (Nat.le_of_ble_eq_true rfl) (Nat.le_of_ble_eq_true rfl) dX10_init_160 (fun q1062 H L1063 f1064 hq1065 hs1066 hm1067 hf1068 ho1069 hP hD hS => ?_)
  have hfr1070 : ∀ b, b ∈ L → b ≠ x → f1064 b = f b := fun b hb z0 => (ho1069 b (hsb1009 b hb)).trans (hfr1049 b hb z0)
  have hnq1072 : q1062 ∉ L := fun h => hq1065 (hsb1009 _ h)
  have hsb1071 : ∀ b, b ∈ L → b ∈ _ := fun b hb => hs1066 b (hsb1009 b hb)
  have hf1073 := (ho1069 x hm1011).trans hf1048
  have hn1075 : x ≠ q1062 := fun e => hq1065 (e ▸ hm1011)
  have hm1074 := hs1066 _ hm1011
  have hf1076 := (ho1069 q1 hm1014).trans hf1050
  have hn1078 : q1 ≠ q1062 := fun e => hq1065 (e ▸ hm1014)
  have hm1077 := hs1066 _ hm1014
  have hf1079 := (ho1069 q19 hm1017).trans hf1051
  have hn1081 : q19 ≠ q1062 := fun e => hq1065 (e ▸ hm1017)
  have hm1080 := hs1066 _ hm1017
  have hf1082 := (ho1069 q40 hm1020).trans hf1052
  have hn1084 : q40 ≠ q1062 := fun e => hq1065 (e ▸ hm1020)
  have hm1083 := hs1066 _ hm1020
  have hf1085 := (ho1069 q83 hm1023).trans hf1053
  have hn1087 : q83 ≠ q1062 := fun e => hq1065 (e ▸ hm1023)
  have hm1086 := hs1066 _ hm1023
  have hf1088 := (ho1069 q187 hm1026).trans hf1054
  have hn1090 : q187 ≠ q1062 := fun e => hq1065 (e ▸ hm1026)
  have hm1089 := hs1066 _ hm1026
  have hf1091 := (ho1069 q217 hm1029).trans hf1055
  have hn1093 : q217 ≠ q1062 := fun e => hq1065 (e ▸ hm1029)
  have hm1092 := hs1066 _ hm1029
  have hf1094 := (ho1069 q254 hm1032).trans hf1056
  have hn1096 : q254 ≠ q1062 := fun e => hq1065 (e ▸ hm1032)
  have hm1095 := hs1066 _ hm1032
  have hf1097 := (ho1069 q290 hm1035).trans hf1057
  have hn1099 : q290 ≠ q1062 := fun e => hq1065 (e ▸ hm1035)
  have hm1098 := hs1066 _ hm1035
  have hf1100 := (ho1069 q494 hm1038).trans hf1058
  have hn1102 : q494 ≠ q1062 := fun e => hq1065 (e ▸ hm1038)
  have hm1101 := hs1066 _ hm1038
  have hf1103 := (ho1069 q770 hm1041).trans hf1059
  have hn1105 : q770 ≠ q1062 := fun e => hq1065 (e ▸ hm1041)
  have hm1104 := hs1066 _ hm1041
  have hf1106 := (ho1069 q1001 hm1003).trans hf1061
  have hn1108 : q1001 ≠ q1062 := fun e => hq1065 (e ▸ hm1003)
  have hm1107 := hs1066 _ hm1003
  refine pl_putF (ty := (.array .int)) (v := .ref q1062) (fs' := [.ref q1, .ref q40, .ref q83, .ref q132, .ref q187, .ref q254, .ref q336, .ref q415, .ref q494, .ref q582, .ref q676, .ref q770, .ref q856, .ref q953, .ref q1062, .int 0, .int 0, .long 0]) hx hb hts (fun w h => mT (inX10 w h)) tyX10 tyX10_ok nmX10 hown hG.1 hP hD hS hm1074 hf1073 rfl 14 (by decide) (hts _ (mT wg_489)) (fun _ h => h) rfl hnm rfl (by decide +kernel) (rfl) (rfl) (Nat.le_of_ble_eq_true rfl) rfl dX10_init_162 (fun H locs f1109 hf1111 ho1110 hP hD hS => ?_)
  have hfr1112 : ∀ b, b ∈ L → b ≠ x → f1109 b = f b := fun b hb z0 => (ho1110 b z0).trans (hfr1070 b hb z0)
  have hf1113 := (ho1110 q1 hn14.symm).trans hf1076
  have hf1114 := (ho1110 q19 hn30.symm).trans hf1079
  have hf1115 := (ho1110 q40 hn53.symm).trans hf1082
  have hf1116 := (ho1110 q83 hn96.symm).trans hf1085
  have hf1117 := (ho1110 q187 hn200.symm).trans hf1088
  have hf1118 := (ho1110 q217 hn228.symm).trans hf1091
  have hf1119 := (ho1110 q254 hn267.symm).trans hf1094
  have hf1120 := (ho1110 q290 hn302.symm).trans hf1097
  have hf1121 := (ho1110 q494 hn507.symm).trans hf1100
  have hf1122 := (ho1110 q770 hn783.symm).trans hf1103
  have hf1123 := (ho1110 q1001 hn1012.symm).trans hf1106
  have hf1124 := (ho1110 q1062 hn1075.symm).trans hf1068
  exact ret_v hx hb hr hlocks hP hD hS (Nat.le_of_ble_eq_true rfl) (Nat.le_of_ble_eq_true rfl) (⟨q1, q19, q40, q83, q187, q217, q254, q290, q494, q770, q1062, q132, q336, q415, q582, q676, q856, q953, q291, q536, q537, q538, q539, q540, q541, q542, q543, q544, q815, hnq11, hm1077, hf1113, hnq28, hm1080, hf1114, hnq50, hm1083, hf1115, hnq93, hm1086, hf1116, hnq197, hm1089, hf1117, hnq226, hm1092, hf1118, hnq264, hm1095, hf1119, hnq300, hm1098, hf1120, hnq504, hm1101, hf1121, hnq780, hm1104, hf1122, hnq1072, hm1067, hf1124, hf1111, hfr1112, hsb1071⟩) dX10_init_165

set_option maxHeartbeats 4000000 in
set_option maxRecDepth 100000 in
theorem k_X11_init (l : Launch) (g : GG) (L : List Nat) (f : HP) (sz : Nat) (mo : Nat) (hm_mo : mo ∈ L) (hf_mo : f mo = .inr (10, [.int 0, .null, .int 0, .int 0, .int 0, .int 0, .int 0, .null, .int 0, .int 0, .null, .null, .int 0, .int 0, .int 0, .int 0, .int 0, .int 0, .int 0, .int 0, .int 0, .long 0, .long 0, .int 0, .null, .int 0, .null, .null, .null, .null, .null, .null, .null, .null, .null, .null, .int 0, .int 0, .int 0, .int 0, .int 0, .null, .null, .null, .null, .long 0, .long 0, .int 0, .int 0, .null, .int 0, .int 0, .null, .int 0, .null, .int 0])) : MtV l g yX11_init cX11_init 1 ({ frames := 1, cells := 22, slots := 48415, locals := 12 }) [.ref mo] L f sz (fun u => ∃ (ar1 : Nat) (ar7 : Nat) (ar11 : Nat) (ar49 : Nat) (ar10 : Nat) (ar24 : Nat) (ar26 : Nat) (ar27 : Nat) (ar28 : Nat) (ar29 : Nat) (ar30 : Nat) (ar31 : Nat) (ar32 : Nat) (ar33 : Nat) (ar34 : Nat) (ar35 : Nat) (ar41 : Nat) (ar42 : Nat) (ar43 : Nat) (ar44 : Nat) (ar52 : Nat) (ar54 : Nat), ar1 ∉ L ∧ ar1 ∈ u.1 ∧ u.2 ar1 = .inl (g.2.1 2, 500, .inl (fun _ => 0)) ∧ ar7 ∉ L ∧ ar7 ∈ u.1 ∧ u.2 ar7 = .inl (g.2.1 0, 6, .inl (fun _ => 0)) ∧ ar11 ∉ L ∧ ar11 ∈ u.1 ∧ u.2 ar11 = .inl (g.2.1 0, 100, .inl (fun _ => 0)) ∧ ar49 ∉ L ∧ ar49 ∈ u.1 ∧ u.2 ar49 = .inl (g.2.1 0, 5, .inl (fun _ => 0)) ∧ u.2 mo = .inr (10, [.int 0, .ref ar1, .int 0, .int 0, .int 0, .int 0, .int 0, .ref ar7, .int 0, .int 0, .ref ar10, .ref ar11, .int 0, .int 0, .int 0, .int 0, .int 0, .int 0, .int 0, .int 0, .int 0, .long 0, .long 0, .int 0, .ref ar24, .int 0, .ref ar26, .ref ar27, .ref ar28, .ref ar29, .ref ar30, .ref ar31, .ref ar32, .ref ar33, .ref ar34, .ref ar35, .int 0, .int 0, .int 0, .int 0, .int 0, .ref ar41, .ref ar42, .ref ar43, .ref ar44, .long 0, .long 0, .int 0, .int 0, .ref ar49, .int 0, .int 0, .ref ar52, .int 0, .ref ar54, .int 0]) ∧ (∀ b, b ∈ L → b ≠ mo → u.2 b = f b) ∧ (∀ b, b ∈ L → b ∈ u.1)) := by
  refine MtV.of (by decide +kernel) (Nat.le_of_ble_eq_true rfl) ?_
  intro p e s m below meth c A hEn hP hD hS ls hl
  obtain ⟨hx, hb, hr, hml, hown, hlocks, hts, hG, hA, hE, hnm⟩ := hEn
  have hown : s.vm.findClass "RulerWordModel" = some m.cls := hown
  have hl : lv_has ls 1 [(0, .ref mo)] := hl
  have hfr0 : ∀ b, b ∈ L → b ≠ mo → f b = f b := fun b hb z0 => rfl
  have hsb0 : ∀ b, b ∈ L → b ∈ L := fun b hb => hb
  refine lv_aload_n hx hb dX11_init_0 rfl (lv_at hl 0 rfl) ?_
  refine W.objInit hx hb hown (hts _ (mT wg_1334)) (hts _ (mT wg_187)) (hts _ (mT wg_objInit)) rfl (by rw [hml]; exact hl.1) rfl dX11_init_1 (Nat.le_of_ble_eq_true rfl) (Nat.le_of_ble_eq_true rfl) ?_
  refine W.eq (g2 := F0 m 4 ls []) rfl ?_
  refine lv_aload_n hx hb dX11_init_4 rfl (lv_at hl 0 rfl) ?_
  refine lv_sipush (v := 500) hx hb dX11_init_5 (by decide) ?_
  refine pl_newa (atype := .byte) (ty := .byte) (N' := 500) (a0 := (500, .inl (fun _ => 0))) hx hb (hts _ (mT wg_705)) rfl hG.1 hP hD hS hA 2 rfl (fun _ h => h) (fun _ => rfl) (by decide) (by decide) (Nat.le_of_ble_eq_true rfl) (Nat.le_of_ble_eq_true rfl) (Nat.le_of_ble_eq_true rfl) dX11_init_8 (fun q1 H L2 f3 hq4 hs5 hm6 hf7 ho8 hP hD hS => ?_)
  have hfr9 : ∀ b, b ∈ L → b ≠ mo → f3 b = f b := fun b hb z0 => (ho8 b (hsb0 b hb)).trans (hfr0 b hb z0)
  have hnq11 : q1 ∉ L := fun h => hq4 (hsb0 _ h)
  have hsb10 : ∀ b, b ∈ L → b ∈ _ := fun b hb => hs5 b (hsb0 b hb)
  have hf12 := (ho8 mo hm_mo).trans hf_mo
  have hn14 : mo ≠ q1 := fun e => hq4 (e ▸ hm_mo)
  have hm13 := hs5 _ hm_mo
  refine pl_putF (ty := (.array .byte)) (v := .ref q1) (fs' := [.int 0, .ref q1, .int 0, .int 0, .int 0, .int 0, .int 0, .null, .int 0, .int 0, .null, .null, .int 0, .int 0, .int 0, .int 0, .int 0, .int 0, .int 0, .int 0, .int 0, .long 0, .long 0, .int 0, .null, .int 0, .null, .null, .null, .null, .null, .null, .null, .null, .null, .null, .int 0, .int 0, .int 0, .int 0, .int 0, .null, .null, .null, .null, .long 0, .long 0, .int 0, .int 0, .null, .int 0, .int 0, .null, .int 0, .null, .int 0]) hx hb hts (fun w h => mT (inX11 w h)) tyX11 tyX11_ok nmX11 hown hG.1 hP hD hS hm13 hf12 rfl 1 (by decide) (hts _ (mT wg_1337)) (fun _ h => h) rfl hnm rfl (by decide +kernel) (rfl) (rfl) (Nat.le_of_ble_eq_true rfl) rfl dX11_init_10 (fun H locs f15 hf17 ho16 hP hD hS => ?_)
  have hfr18 : ∀ b, b ∈ L → b ≠ mo → f15 b = f b := fun b hb z0 => (ho16 b z0).trans (hfr9 b hb z0)
  have hf19 := (ho16 q1 hn14.symm).trans hf7
  refine lv_aload_n hx hb dX11_init_13 rfl (lv_at hl 0 rfl) ?_
  refine lv_bipush (v := 6) hx hb dX11_init_14 (by decide) ?_
  refine pl_newa (atype := .int) (ty := .int) (N' := 6) (a0 := (6, .inl (fun _ => 0))) hx hb (hts _ (mT wg_217)) rfl hG.1 hP hD hS hA 0 rfl (fun _ h => h) (fun _ => rfl) (by decide) (by decide) (Nat.le_of_ble_eq_true rfl) (Nat.le_of_ble_eq_true rfl) (Nat.le_of_ble_eq_true rfl) dX11_init_16 (fun q20 H L21 f22 hq23 hs24 hm25 hf26 ho27 hP hD hS => ?_)
  have hfr28 : ∀ b, b ∈ L → b ≠ mo → f22 b = f b := fun b hb z0 => (ho27 b (hsb10 b hb)).trans (hfr18 b hb z0)
  have hnq30 : q20 ∉ L := fun h => hq23 (hsb10 _ h)
  have hsb29 : ∀ b, b ∈ L → b ∈ _ := fun b hb => hs24 b (hsb10 b hb)
  have hf31 := (ho27 mo hm13).trans hf17
  have hn33 : mo ≠ q20 := fun e => hq23 (e ▸ hm13)
  have hm32 := hs24 _ hm13
  have hf34 := (ho27 q1 hm6).trans hf19
  have hn36 : q1 ≠ q20 := fun e => hq23 (e ▸ hm6)
  have hm35 := hs24 _ hm6
  refine pl_putF (ty := (.array .int)) (v := .ref q20) (fs' := [.int 0, .ref q1, .int 0, .int 0, .int 0, .int 0, .int 0, .ref q20, .int 0, .int 0, .null, .null, .int 0, .int 0, .int 0, .int 0, .int 0, .int 0, .int 0, .int 0, .int 0, .long 0, .long 0, .int 0, .null, .int 0, .null, .null, .null, .null, .null, .null, .null, .null, .null, .null, .int 0, .int 0, .int 0, .int 0, .int 0, .null, .null, .null, .null, .long 0, .long 0, .int 0, .int 0, .null, .int 0, .int 0, .null, .int 0, .null, .int 0]) hx hb hts (fun w h => mT (inX11 w h)) tyX11 tyX11_ok nmX11 hown hG.1 hP hD hS hm32 hf31 rfl 7 (by decide) (hts _ (mT wg_1343)) (fun _ h => h) rfl hnm rfl (by decide +kernel) (rfl) (rfl) (Nat.le_of_ble_eq_true rfl) rfl dX11_init_18 (fun H locs f37 hf39 ho38 hP hD hS => ?_)
  have hfr40 : ∀ b, b ∈ L → b ≠ mo → f37 b = f b := fun b hb z0 => (ho38 b z0).trans (hfr28 b hb z0)
  have hf41 := (ho38 q1 hn14.symm).trans hf34
  have hf42 := (ho38 q20 hn33.symm).trans hf26
  refine lv_aload_n hx hb dX11_init_21 rfl (lv_at hl 0 rfl) ?_
  refine lv_bipush (v := 100) hx hb dX11_init_22 (by decide) ?_
  refine pl_newa (atype := .int) (ty := .int) (N' := 100) (a0 := (100, .inl (fun _ => 0))) hx hb (hts _ (mT wg_217)) rfl hG.1 hP hD hS hA 0 rfl (fun _ h => h) (fun _ => rfl) (by decide) (by decide) (Nat.le_of_ble_eq_true rfl) (Nat.le_of_ble_eq_true rfl) (Nat.le_of_ble_eq_true rfl) dX11_init_24 (fun q43 H L44 f45 hq46 hs47 hm48 hf49 ho50 hP hD hS => ?_)
  have hfr51 : ∀ b, b ∈ L → b ≠ mo → f45 b = f b := fun b hb z0 => (ho50 b (hsb29 b hb)).trans (hfr40 b hb z0)
  have hnq53 : q43 ∉ L := fun h => hq46 (hsb29 _ h)
  have hsb52 : ∀ b, b ∈ L → b ∈ _ := fun b hb => hs47 b (hsb29 b hb)
  have hf54 := (ho50 mo hm32).trans hf39
  have hn56 : mo ≠ q43 := fun e => hq46 (e ▸ hm32)
  have hm55 := hs47 _ hm32
  have hf57 := (ho50 q1 hm35).trans hf41
  have hn59 : q1 ≠ q43 := fun e => hq46 (e ▸ hm35)
  have hm58 := hs47 _ hm35
  have hf60 := (ho50 q20 hm25).trans hf42
  have hn62 : q20 ≠ q43 := fun e => hq46 (e ▸ hm25)
  have hm61 := hs47 _ hm25
  refine pl_putF (ty := (.array .int)) (v := .ref q43) (fs' := [.int 0, .ref q1, .int 0, .int 0, .int 0, .int 0, .int 0, .ref q20, .int 0, .int 0, .ref q43, .null, .int 0, .int 0, .int 0, .int 0, .int 0, .int 0, .int 0, .int 0, .int 0, .long 0, .long 0, .int 0, .null, .int 0, .null, .null, .null, .null, .null, .null, .null, .null, .null, .null, .int 0, .int 0, .int 0, .int 0, .int 0, .null, .null, .null, .null, .long 0, .long 0, .int 0, .int 0, .null, .int 0, .int 0, .null, .int 0, .null, .int 0]) hx hb hts (fun w h => mT (inX11 w h)) tyX11 tyX11_ok nmX11 hown hG.1 hP hD hS hm55 hf54 rfl 10 (by decide) (hts _ (mT wg_1346)) (fun _ h => h) rfl hnm rfl (by decide +kernel) (rfl) (rfl) (Nat.le_of_ble_eq_true rfl) rfl dX11_init_26 (fun H locs f63 hf65 ho64 hP hD hS => ?_)
  have hfr66 : ∀ b, b ∈ L → b ≠ mo → f63 b = f b := fun b hb z0 => (ho64 b z0).trans (hfr51 b hb z0)
  have hf67 := (ho64 q1 hn14.symm).trans hf57
  have hf68 := (ho64 q20 hn33.symm).trans hf60
  have hf69 := (ho64 q43 hn56.symm).trans hf49
  refine lv_aload_n hx hb dX11_init_29 rfl (lv_at hl 0 rfl) ?_
  refine lv_bipush (v := 100) hx hb dX11_init_30 (by decide) ?_
  refine pl_newa (atype := .int) (ty := .int) (N' := 100) (a0 := (100, .inl (fun _ => 0))) hx hb (hts _ (mT wg_217)) rfl hG.1 hP hD hS hA 0 rfl (fun _ h => h) (fun _ => rfl) (by decide) (by decide) (Nat.le_of_ble_eq_true rfl) (Nat.le_of_ble_eq_true rfl) (Nat.le_of_ble_eq_true rfl) dX11_init_32 (fun q70 H L71 f72 hq73 hs74 hm75 hf76 ho77 hP hD hS => ?_)
  have hfr78 : ∀ b, b ∈ L → b ≠ mo → f72 b = f b := fun b hb z0 => (ho77 b (hsb52 b hb)).trans (hfr66 b hb z0)
  have hnq80 : q70 ∉ L := fun h => hq73 (hsb52 _ h)
  have hsb79 : ∀ b, b ∈ L → b ∈ _ := fun b hb => hs74 b (hsb52 b hb)
  have hf81 := (ho77 mo hm55).trans hf65
  have hn83 : mo ≠ q70 := fun e => hq73 (e ▸ hm55)
  have hm82 := hs74 _ hm55
  have hf84 := (ho77 q1 hm58).trans hf67
  have hn86 : q1 ≠ q70 := fun e => hq73 (e ▸ hm58)
  have hm85 := hs74 _ hm58
  have hf87 := (ho77 q20 hm61).trans hf68
  have hn89 : q20 ≠ q70 := fun e => hq73 (e ▸ hm61)
  have hm88 := hs74 _ hm61
  refine pl_putF (ty := (.array .int)) (v := .ref q70) (fs' := [.int 0, .ref q1, .int 0, .int 0, .int 0, .int 0, .int 0, .ref q20, .int 0, .int 0, .ref q43, .ref q70, .int 0, .int 0, .int 0, .int 0, .int 0, .int 0, .int 0, .int 0, .int 0, .long 0, .long 0, .int 0, .null, .int 0, .null, .null, .null, .null, .null, .null, .null, .null, .null, .null, .int 0, .int 0, .int 0, .int 0, .int 0, .null, .null, .null, .null, .long 0, .long 0, .int 0, .int 0, .null, .int 0, .int 0, .null, .int 0, .null, .int 0]) hx hb hts (fun w h => mT (inX11 w h)) tyX11 tyX11_ok nmX11 hown hG.1 hP hD hS hm82 hf81 rfl 11 (by decide) (hts _ (mT wg_1347)) (fun _ h => h) rfl hnm rfl (by decide +kernel) (rfl) (rfl) (Nat.le_of_ble_eq_true rfl) rfl dX11_init_34 (fun H locs f90 hf92 ho91 hP hD hS => ?_)
  have hfr93 : ∀ b, b ∈ L → b ≠ mo → f90 b = f b := fun b hb z0 => (ho91 b z0).trans (hfr78 b hb z0)
  have hf94 := (ho91 q1 hn14.symm).trans hf84
  have hf95 := (ho91 q20 hn33.symm).trans hf87
  have hf96 := (ho91 q70 hn83.symm).trans hf76
  refine lv_aload_n hx hb dX11_init_37 rfl (lv_at hl 0 rfl) ?_
  refine lv_sipush (v := 150) hx hb dX11_init_38 (by decide) ?_
  refine pl_newa (atype := .int) (ty := .int) (N' := 150) (a0 := (150, .inl (fun _ => 0))) hx hb (hts _ (mT wg_217)) rfl hG.1 hP hD hS hA 0 rfl (fun _ h => h) (fun _ => rfl) (by decide) (by decide) (Nat.le_of_ble_eq_true rfl) (Nat.le_of_ble_eq_true rfl) (Nat.le_of_ble_eq_true rfl) dX11_init_41 (fun q97 H L98 f99 hq100 hs101 hm102 hf103 ho104 hP hD hS => ?_)
  have hfr105 : ∀ b, b ∈ L → b ≠ mo → f99 b = f b := fun b hb z0 => (ho104 b (hsb79 b hb)).trans (hfr93 b hb z0)
  have hnq107 : q97 ∉ L := fun h => hq100 (hsb79 _ h)
  have hsb106 : ∀ b, b ∈ L → b ∈ _ := fun b hb => hs101 b (hsb79 b hb)
  have hf108 := (ho104 mo hm82).trans hf92
  have hn110 : mo ≠ q97 := fun e => hq100 (e ▸ hm82)
  have hm109 := hs101 _ hm82
  have hf111 := (ho104 q1 hm85).trans hf94
  have hn113 : q1 ≠ q97 := fun e => hq100 (e ▸ hm85)
  have hm112 := hs101 _ hm85
  have hf114 := (ho104 q20 hm88).trans hf95
  have hn116 : q20 ≠ q97 := fun e => hq100 (e ▸ hm88)
  have hm115 := hs101 _ hm88
  have hf117 := (ho104 q70 hm75).trans hf96
  have hn119 : q70 ≠ q97 := fun e => hq100 (e ▸ hm75)
  have hm118 := hs101 _ hm75
  refine pl_putF (ty := (.array .int)) (v := .ref q97) (fs' := [.int 0, .ref q1, .int 0, .int 0, .int 0, .int 0, .int 0, .ref q20, .int 0, .int 0, .ref q43, .ref q70, .int 0, .int 0, .int 0, .int 0, .int 0, .int 0, .int 0, .int 0, .int 0, .long 0, .long 0, .int 0, .ref q97, .int 0, .null, .null, .null, .null, .null, .null, .null, .null, .null, .null, .int 0, .int 0, .int 0, .int 0, .int 0, .null, .null, .null, .null, .long 0, .long 0, .int 0, .int 0, .null, .int 0, .int 0, .null, .int 0, .null, .int 0]) hx hb hts (fun w h => mT (inX11 w h)) tyX11 tyX11_ok nmX11 hown hG.1 hP hD hS hm109 hf108 rfl 24 (by decide) (hts _ (mT wg_1360)) (fun _ h => h) rfl hnm rfl (by decide +kernel) (rfl) (rfl) (Nat.le_of_ble_eq_true rfl) rfl dX11_init_43 (fun H locs f120 hf122 ho121 hP hD hS => ?_)
  have hfr123 : ∀ b, b ∈ L → b ≠ mo → f120 b = f b := fun b hb z0 => (ho121 b z0).trans (hfr105 b hb z0)
  have hf124 := (ho121 q1 hn14.symm).trans hf111
  have hf125 := (ho121 q20 hn33.symm).trans hf114
  have hf126 := (ho121 q70 hn83.symm).trans hf117
  have hf127 := (ho121 q97 hn110.symm).trans hf103
  refine lv_aload_n hx hb dX11_init_46 rfl (lv_at hl 0 rfl) ?_
  refine lv_bipush (v := 9) hx hb dX11_init_47 (by decide) ?_
  refine pl_newa (atype := .int) (ty := .int) (N' := 9) (a0 := (9, .inl (fun _ => 0))) hx hb (hts _ (mT wg_217)) rfl hG.1 hP hD hS hA 0 rfl (fun _ h => h) (fun _ => rfl) (by decide) (by decide) (Nat.le_of_ble_eq_true rfl) (Nat.le_of_ble_eq_true rfl) (Nat.le_of_ble_eq_true rfl) dX11_init_49 (fun q128 H L129 f130 hq131 hs132 hm133 hf134 ho135 hP hD hS => ?_)
  have hfr136 : ∀ b, b ∈ L → b ≠ mo → f130 b = f b := fun b hb z0 => (ho135 b (hsb106 b hb)).trans (hfr123 b hb z0)
  have hnq138 : q128 ∉ L := fun h => hq131 (hsb106 _ h)
  have hsb137 : ∀ b, b ∈ L → b ∈ _ := fun b hb => hs132 b (hsb106 b hb)
  have hf139 := (ho135 mo hm109).trans hf122
  have hn141 : mo ≠ q128 := fun e => hq131 (e ▸ hm109)
  have hm140 := hs132 _ hm109
  have hf142 := (ho135 q1 hm112).trans hf124
  have hn144 : q1 ≠ q128 := fun e => hq131 (e ▸ hm112)
  have hm143 := hs132 _ hm112
  have hf145 := (ho135 q20 hm115).trans hf125
  have hn147 : q20 ≠ q128 := fun e => hq131 (e ▸ hm115)
  have hm146 := hs132 _ hm115
  have hf148 := (ho135 q70 hm118).trans hf126
  have hn150 : q70 ≠ q128 := fun e => hq131 (e ▸ hm118)
  have hm149 := hs132 _ hm118
  refine pl_putF (ty := (.array .int)) (v := .ref q128) (fs' := [.int 0, .ref q1, .int 0, .int 0, .int 0, .int 0, .int 0, .ref q20, .int 0, .int 0, .ref q43, .ref q70, .int 0, .int 0, .int 0, .int 0, .int 0, .int 0, .int 0, .int 0, .int 0, .long 0, .long 0, .int 0, .ref q97, .int 0, .ref q128, .null, .null, .null, .null, .null, .null, .null, .null, .null, .int 0, .int 0, .int 0, .int 0, .int 0, .null, .null, .null, .null, .long 0, .long 0, .int 0, .int 0, .null, .int 0, .int 0, .null, .int 0, .null, .int 0]) hx hb hts (fun w h => mT (inX11 w h)) tyX11 tyX11_ok nmX11 hown hG.1 hP hD hS hm140 hf139 rfl 26 (by decide) (hts _ (mT wg_1362)) (fun _ h => h) rfl hnm rfl (by decide +kernel) (rfl) (rfl) (Nat.le_of_ble_eq_true rfl) rfl dX11_init_51 (fun H locs f151 hf153 ho152 hP hD hS => ?_)
  have hfr154 : ∀ b, b ∈ L → b ≠ mo → f151 b = f b := fun b hb z0 => (ho152 b z0).trans (hfr136 b hb z0)
  have hf155 := (ho152 q1 hn14.symm).trans hf142
  have hf156 := (ho152 q20 hn33.symm).trans hf145
  have hf157 := (ho152 q70 hn83.symm).trans hf148
  have hf158 := (ho152 q128 hn141.symm).trans hf134
  refine lv_aload_n hx hb dX11_init_54 rfl (lv_at hl 0 rfl) ?_
  refine lv_bipush (v := 9) hx hb dX11_init_55 (by decide) ?_
  refine pl_newa (atype := .int) (ty := .int) (N' := 9) (a0 := (9, .inl (fun _ => 0))) hx hb (hts _ (mT wg_217)) rfl hG.1 hP hD hS hA 0 rfl (fun _ h => h) (fun _ => rfl) (by decide) (by decide) (Nat.le_of_ble_eq_true rfl) (Nat.le_of_ble_eq_true rfl) (Nat.le_of_ble_eq_true rfl) dX11_init_57 (fun q159 H L160 f161 hq162 hs163 hm164 hf165 ho166 hP hD hS => ?_)
  have hfr167 : ∀ b, b ∈ L → b ≠ mo → f161 b = f b := fun b hb z0 => (ho166 b (hsb137 b hb)).trans (hfr154 b hb z0)
  have hnq169 : q159 ∉ L := fun h => hq162 (hsb137 _ h)
  have hsb168 : ∀ b, b ∈ L → b ∈ _ := fun b hb => hs163 b (hsb137 b hb)
  have hf170 := (ho166 mo hm140).trans hf153
  have hn172 : mo ≠ q159 := fun e => hq162 (e ▸ hm140)
  have hm171 := hs163 _ hm140
  have hf173 := (ho166 q1 hm143).trans hf155
  have hn175 : q1 ≠ q159 := fun e => hq162 (e ▸ hm143)
  have hm174 := hs163 _ hm143
  have hf176 := (ho166 q20 hm146).trans hf156
  have hn178 : q20 ≠ q159 := fun e => hq162 (e ▸ hm146)
  have hm177 := hs163 _ hm146
  have hf179 := (ho166 q70 hm149).trans hf157
  have hn181 : q70 ≠ q159 := fun e => hq162 (e ▸ hm149)
  have hm180 := hs163 _ hm149
  refine pl_putF (ty := (.array .int)) (v := .ref q159) (fs' := [.int 0, .ref q1, .int 0, .int 0, .int 0, .int 0, .int 0, .ref q20, .int 0, .int 0, .ref q43, .ref q70, .int 0, .int 0, .int 0, .int 0, .int 0, .int 0, .int 0, .int 0, .int 0, .long 0, .long 0, .int 0, .ref q97, .int 0, .ref q128, .ref q159, .null, .null, .null, .null, .null, .null, .null, .null, .int 0, .int 0, .int 0, .int 0, .int 0, .null, .null, .null, .null, .long 0, .long 0, .int 0, .int 0, .null, .int 0, .int 0, .null, .int 0, .null, .int 0]) hx hb hts (fun w h => mT (inX11 w h)) tyX11 tyX11_ok nmX11 hown hG.1 hP hD hS hm171 hf170 rfl 27 (by decide) (hts _ (mT wg_1363)) (fun _ h => h) rfl hnm rfl (by decide +kernel) (rfl) (rfl) (Nat.le_of_ble_eq_true rfl) rfl dX11_init_59 (fun H locs f182 hf184 ho183 hP hD hS => ?_)
  have hfr185 : ∀ b, b ∈ L → b ≠ mo → f182 b = f b := fun b hb z0 => (ho183 b z0).trans (hfr167 b hb z0)
  have hf186 := (ho183 q1 hn14.symm).trans hf173
  have hf187 := (ho183 q20 hn33.symm).trans hf176
  have hf188 := (ho183 q70 hn83.symm).trans hf179
  have hf189 := (ho183 q159 hn172.symm).trans hf165
  refine lv_aload_n hx hb dX11_init_62 rfl (lv_at hl 0 rfl) ?_
  refine lv_bipush (v := 9) hx hb dX11_init_63 (by decide) ?_
  refine pl_newa (atype := .int) (ty := .int) (N' := 9) (a0 := (9, .inl (fun _ => 0))) hx hb (hts _ (mT wg_217)) rfl hG.1 hP hD hS hA 0 rfl (fun _ h => h) (fun _ => rfl) (by decide) (by decide) (Nat.le_of_ble_eq_true rfl) (Nat.le_of_ble_eq_true rfl) (Nat.le_of_ble_eq_true rfl) dX11_init_65 (fun q190 H L191 f192 hq193 hs194 hm195 hf196 ho197 hP hD hS => ?_)
  have hfr198 : ∀ b, b ∈ L → b ≠ mo → f192 b = f b := fun b hb z0 => (ho197 b (hsb168 b hb)).trans (hfr185 b hb z0)
  have hnq200 : q190 ∉ L := fun h => hq193 (hsb168 _ h)
  have hsb199 : ∀ b, b ∈ L → b ∈ _ := fun b hb => hs194 b (hsb168 b hb)
  have hf201 := (ho197 mo hm171).trans hf184
  have hn203 : mo ≠ q190 := fun e => hq193 (e ▸ hm171)
  have hm202 := hs194 _ hm171
  have hf204 := (ho197 q1 hm174).trans hf186
  have hn206 : q1 ≠ q190 := fun e => hq193 (e ▸ hm174)
  have hm205 := hs194 _ hm174
  have hf207 := (ho197 q20 hm177).trans hf187
  have hn209 : q20 ≠ q190 := fun e => hq193 (e ▸ hm177)
  have hm208 := hs194 _ hm177
  have hf210 := (ho197 q70 hm180).trans hf188
  have hn212 : q70 ≠ q190 := fun e => hq193 (e ▸ hm180)
  have hm211 := hs194 _ hm180
  refine pl_putF (ty := (.array .int)) (v := .ref q190) (fs' := [.int 0, .ref q1, .int 0, .int 0, .int 0, .int 0, .int 0, .ref q20, .int 0, .int 0, .ref q43, .ref q70, .int 0, .int 0, .int 0, .int 0, .int 0, .int 0, .int 0, .int 0, .int 0, .long 0, .long 0, .int 0, .ref q97, .int 0, .ref q128, .ref q159, .ref q190, .null, .null, .null, .null, .null, .null, .null, .int 0, .int 0, .int 0, .int 0, .int 0, .null, .null, .null, .null, .long 0, .long 0, .int 0, .int 0, .null, .int 0, .int 0, .null, .int 0, .null, .int 0]) hx hb hts (fun w h => mT (inX11 w h)) tyX11 tyX11_ok nmX11 hown hG.1 hP hD hS hm202 hf201 rfl 28 (by decide) (hts _ (mT wg_1364)) (fun _ h => h) rfl hnm rfl (by decide +kernel) (rfl) (rfl) (Nat.le_of_ble_eq_true rfl) rfl dX11_init_67 (fun H locs f213 hf215 ho214 hP hD hS => ?_)
  have hfr216 : ∀ b, b ∈ L → b ≠ mo → f213 b = f b := fun b hb z0 => (ho214 b z0).trans (hfr198 b hb z0)
  have hf217 := (ho214 q1 hn14.symm).trans hf204
  have hf218 := (ho214 q20 hn33.symm).trans hf207
  have hf219 := (ho214 q70 hn83.symm).trans hf210
  have hf220 := (ho214 q190 hn203.symm).trans hf196
  refine lv_aload_n hx hb dX11_init_70 rfl (lv_at hl 0 rfl) ?_
  refine lv_bipush (v := 9) hx hb dX11_init_71 (by decide) ?_
  refine pl_newa (atype := .int) (ty := .int) (N' := 9) (a0 := (9, .inl (fun _ => 0))) hx hb (hts _ (mT wg_217)) rfl hG.1 hP hD hS hA 0 rfl (fun _ h => h) (fun _ => rfl) (by decide) (by decide) (Nat.le_of_ble_eq_true rfl) (Nat.le_of_ble_eq_true rfl) (Nat.le_of_ble_eq_true rfl) dX11_init_73 (fun q221 H L222 f223 hq224 hs225 hm226 hf227 ho228 hP hD hS => ?_)
  have hfr229 : ∀ b, b ∈ L → b ≠ mo → f223 b = f b := fun b hb z0 => (ho228 b (hsb199 b hb)).trans (hfr216 b hb z0)
  have hnq231 : q221 ∉ L := fun h => hq224 (hsb199 _ h)
  have hsb230 : ∀ b, b ∈ L → b ∈ _ := fun b hb => hs225 b (hsb199 b hb)
  have hf232 := (ho228 mo hm202).trans hf215
  have hn234 : mo ≠ q221 := fun e => hq224 (e ▸ hm202)
  have hm233 := hs225 _ hm202
  have hf235 := (ho228 q1 hm205).trans hf217
  have hn237 : q1 ≠ q221 := fun e => hq224 (e ▸ hm205)
  have hm236 := hs225 _ hm205
  have hf238 := (ho228 q20 hm208).trans hf218
  have hn240 : q20 ≠ q221 := fun e => hq224 (e ▸ hm208)
  have hm239 := hs225 _ hm208
  have hf241 := (ho228 q70 hm211).trans hf219
  have hn243 : q70 ≠ q221 := fun e => hq224 (e ▸ hm211)
  have hm242 := hs225 _ hm211
  refine pl_putF (ty := (.array .int)) (v := .ref q221) (fs' := [.int 0, .ref q1, .int 0, .int 0, .int 0, .int 0, .int 0, .ref q20, .int 0, .int 0, .ref q43, .ref q70, .int 0, .int 0, .int 0, .int 0, .int 0, .int 0, .int 0, .int 0, .int 0, .long 0, .long 0, .int 0, .ref q97, .int 0, .ref q128, .ref q159, .ref q190, .ref q221, .null, .null, .null, .null, .null, .null, .int 0, .int 0, .int 0, .int 0, .int 0, .null, .null, .null, .null, .long 0, .long 0, .int 0, .int 0, .null, .int 0, .int 0, .null, .int 0, .null, .int 0]) hx hb hts (fun w h => mT (inX11 w h)) tyX11 tyX11_ok nmX11 hown hG.1 hP hD hS hm233 hf232 rfl 29 (by decide) (hts _ (mT wg_1365)) (fun _ h => h) rfl hnm rfl (by decide +kernel) (rfl) (rfl) (Nat.le_of_ble_eq_true rfl) rfl dX11_init_75 (fun H locs f244 hf246 ho245 hP hD hS => ?_)
  have hfr247 : ∀ b, b ∈ L → b ≠ mo → f244 b = f b := fun b hb z0 => (ho245 b z0).trans (hfr229 b hb z0)
  have hf248 := (ho245 q1 hn14.symm).trans hf235
  have hf249 := (ho245 q20 hn33.symm).trans hf238
  have hf250 := (ho245 q70 hn83.symm).trans hf241
  have hf251 := (ho245 q221 hn234.symm).trans hf227
  refine lv_aload_n hx hb dX11_init_78 rfl (lv_at hl 0 rfl) ?_
  refine lv_bipush (v := 9) hx hb dX11_init_79 (by decide) ?_
  refine pl_newa (atype := .int) (ty := .int) (N' := 9) (a0 := (9, .inl (fun _ => 0))) hx hb (hts _ (mT wg_217)) rfl hG.1 hP hD hS hA 0 rfl (fun _ h => h) (fun _ => rfl) (by decide) (by decide) (Nat.le_of_ble_eq_true rfl) (Nat.le_of_ble_eq_true rfl) (Nat.le_of_ble_eq_true rfl) dX11_init_81 (fun q252 H L253 f254 hq255 hs256 hm257 hf258 ho259 hP hD hS => ?_)
  have hfr260 : ∀ b, b ∈ L → b ≠ mo → f254 b = f b := fun b hb z0 => (ho259 b (hsb230 b hb)).trans (hfr247 b hb z0)
  have hnq262 : q252 ∉ L := fun h => hq255 (hsb230 _ h)
  have hsb261 : ∀ b, b ∈ L → b ∈ _ := fun b hb => hs256 b (hsb230 b hb)
  have hf263 := (ho259 mo hm233).trans hf246
  have hn265 : mo ≠ q252 := fun e => hq255 (e ▸ hm233)
  have hm264 := hs256 _ hm233
  have hf266 := (ho259 q1 hm236).trans hf248
  have hn268 : q1 ≠ q252 := fun e => hq255 (e ▸ hm236)
  have hm267 := hs256 _ hm236
  have hf269 := (ho259 q20 hm239).trans hf249
  have hn271 : q20 ≠ q252 := fun e => hq255 (e ▸ hm239)
  have hm270 := hs256 _ hm239
  have hf272 := (ho259 q70 hm242).trans hf250
  have hn274 : q70 ≠ q252 := fun e => hq255 (e ▸ hm242)
  have hm273 := hs256 _ hm242
  refine pl_putF (ty := (.array .int)) (v := .ref q252) (fs' := [.int 0, .ref q1, .int 0, .int 0, .int 0, .int 0, .int 0, .ref q20, .int 0, .int 0, .ref q43, .ref q70, .int 0, .int 0, .int 0, .int 0, .int 0, .int 0, .int 0, .int 0, .int 0, .long 0, .long 0, .int 0, .ref q97, .int 0, .ref q128, .ref q159, .ref q190, .ref q221, .ref q252, .null, .null, .null, .null, .null, .int 0, .int 0, .int 0, .int 0, .int 0, .null, .null, .null, .null, .long 0, .long 0, .int 0, .int 0, .null, .int 0, .int 0, .null, .int 0, .null, .int 0]) hx hb hts (fun w h => mT (inX11 w h)) tyX11 tyX11_ok nmX11 hown hG.1 hP hD hS hm264 hf263 rfl 30 (by decide) (hts _ (mT wg_1366)) (fun _ h => h) rfl hnm rfl (by decide +kernel) (rfl) (rfl) (Nat.le_of_ble_eq_true rfl) rfl dX11_init_83 (fun H locs f275 hf277 ho276 hP hD hS => ?_)
  have hfr278 : ∀ b, b ∈ L → b ≠ mo → f275 b = f b := fun b hb z0 => (ho276 b z0).trans (hfr260 b hb z0)
  have hf279 := (ho276 q1 hn14.symm).trans hf266
  have hf280 := (ho276 q20 hn33.symm).trans hf269
  have hf281 := (ho276 q70 hn83.symm).trans hf272
  have hf282 := (ho276 q252 hn265.symm).trans hf258
  refine lv_aload_n hx hb dX11_init_86 rfl (lv_at hl 0 rfl) ?_
  refine lv_bipush (v := 9) hx hb dX11_init_87 (by decide) ?_
  refine pl_newa (atype := .int) (ty := .int) (N' := 9) (a0 := (9, .inl (fun _ => 0))) hx hb (hts _ (mT wg_217)) rfl hG.1 hP hD hS hA 0 rfl (fun _ h => h) (fun _ => rfl) (by decide) (by decide) (Nat.le_of_ble_eq_true rfl) (Nat.le_of_ble_eq_true rfl) (Nat.le_of_ble_eq_true rfl) dX11_init_89 (fun q283 H L284 f285 hq286 hs287 hm288 hf289 ho290 hP hD hS => ?_)
  have hfr291 : ∀ b, b ∈ L → b ≠ mo → f285 b = f b := fun b hb z0 => (ho290 b (hsb261 b hb)).trans (hfr278 b hb z0)
  have hnq293 : q283 ∉ L := fun h => hq286 (hsb261 _ h)
  have hsb292 : ∀ b, b ∈ L → b ∈ _ := fun b hb => hs287 b (hsb261 b hb)
  have hf294 := (ho290 mo hm264).trans hf277
  have hn296 : mo ≠ q283 := fun e => hq286 (e ▸ hm264)
  have hm295 := hs287 _ hm264
  have hf297 := (ho290 q1 hm267).trans hf279
  have hn299 : q1 ≠ q283 := fun e => hq286 (e ▸ hm267)
  have hm298 := hs287 _ hm267
  have hf300 := (ho290 q20 hm270).trans hf280
  have hn302 : q20 ≠ q283 := fun e => hq286 (e ▸ hm270)
  have hm301 := hs287 _ hm270
  have hf303 := (ho290 q70 hm273).trans hf281
  have hn305 : q70 ≠ q283 := fun e => hq286 (e ▸ hm273)
  have hm304 := hs287 _ hm273
  refine pl_putF (ty := (.array .int)) (v := .ref q283) (fs' := [.int 0, .ref q1, .int 0, .int 0, .int 0, .int 0, .int 0, .ref q20, .int 0, .int 0, .ref q43, .ref q70, .int 0, .int 0, .int 0, .int 0, .int 0, .int 0, .int 0, .int 0, .int 0, .long 0, .long 0, .int 0, .ref q97, .int 0, .ref q128, .ref q159, .ref q190, .ref q221, .ref q252, .ref q283, .null, .null, .null, .null, .int 0, .int 0, .int 0, .int 0, .int 0, .null, .null, .null, .null, .long 0, .long 0, .int 0, .int 0, .null, .int 0, .int 0, .null, .int 0, .null, .int 0]) hx hb hts (fun w h => mT (inX11 w h)) tyX11 tyX11_ok nmX11 hown hG.1 hP hD hS hm295 hf294 rfl 31 (by decide) (hts _ (mT wg_1367)) (fun _ h => h) rfl hnm rfl (by decide +kernel) (rfl) (rfl) (Nat.le_of_ble_eq_true rfl) rfl dX11_init_91 (fun H locs f306 hf308 ho307 hP hD hS => ?_)
  have hfr309 : ∀ b, b ∈ L → b ≠ mo → f306 b = f b := fun b hb z0 => (ho307 b z0).trans (hfr291 b hb z0)
  have hf310 := (ho307 q1 hn14.symm).trans hf297
  have hf311 := (ho307 q20 hn33.symm).trans hf300
  have hf312 := (ho307 q70 hn83.symm).trans hf303
  have hf313 := (ho307 q283 hn296.symm).trans hf289
  refine lv_aload_n hx hb dX11_init_94 rfl (lv_at hl 0 rfl) ?_
  refine lv_bipush (v := 9) hx hb dX11_init_95 (by decide) ?_
  refine pl_newa (atype := .int) (ty := .int) (N' := 9) (a0 := (9, .inl (fun _ => 0))) hx hb (hts _ (mT wg_217)) rfl hG.1 hP hD hS hA 0 rfl (fun _ h => h) (fun _ => rfl) (by decide) (by decide) (Nat.le_of_ble_eq_true rfl) (Nat.le_of_ble_eq_true rfl) (Nat.le_of_ble_eq_true rfl) dX11_init_97 (fun q314 H L315 f316 hq317 hs318 hm319 hf320 ho321 hP hD hS => ?_)
  have hfr322 : ∀ b, b ∈ L → b ≠ mo → f316 b = f b := fun b hb z0 => (ho321 b (hsb292 b hb)).trans (hfr309 b hb z0)
  have hnq324 : q314 ∉ L := fun h => hq317 (hsb292 _ h)
  have hsb323 : ∀ b, b ∈ L → b ∈ _ := fun b hb => hs318 b (hsb292 b hb)
  have hf325 := (ho321 mo hm295).trans hf308
  have hn327 : mo ≠ q314 := fun e => hq317 (e ▸ hm295)
  have hm326 := hs318 _ hm295
  have hf328 := (ho321 q1 hm298).trans hf310
  have hn330 : q1 ≠ q314 := fun e => hq317 (e ▸ hm298)
  have hm329 := hs318 _ hm298
  have hf331 := (ho321 q20 hm301).trans hf311
  have hn333 : q20 ≠ q314 := fun e => hq317 (e ▸ hm301)
  have hm332 := hs318 _ hm301
  have hf334 := (ho321 q70 hm304).trans hf312
  have hn336 : q70 ≠ q314 := fun e => hq317 (e ▸ hm304)
  have hm335 := hs318 _ hm304
  refine pl_putF (ty := (.array .int)) (v := .ref q314) (fs' := [.int 0, .ref q1, .int 0, .int 0, .int 0, .int 0, .int 0, .ref q20, .int 0, .int 0, .ref q43, .ref q70, .int 0, .int 0, .int 0, .int 0, .int 0, .int 0, .int 0, .int 0, .int 0, .long 0, .long 0, .int 0, .ref q97, .int 0, .ref q128, .ref q159, .ref q190, .ref q221, .ref q252, .ref q283, .ref q314, .null, .null, .null, .int 0, .int 0, .int 0, .int 0, .int 0, .null, .null, .null, .null, .long 0, .long 0, .int 0, .int 0, .null, .int 0, .int 0, .null, .int 0, .null, .int 0]) hx hb hts (fun w h => mT (inX11 w h)) tyX11 tyX11_ok nmX11 hown hG.1 hP hD hS hm326 hf325 rfl 32 (by decide) (hts _ (mT wg_1368)) (fun _ h => h) rfl hnm rfl (by decide +kernel) (rfl) (rfl) (Nat.le_of_ble_eq_true rfl) rfl dX11_init_99 (fun H locs f337 hf339 ho338 hP hD hS => ?_)
  have hfr340 : ∀ b, b ∈ L → b ≠ mo → f337 b = f b := fun b hb z0 => (ho338 b z0).trans (hfr322 b hb z0)
  have hf341 := (ho338 q1 hn14.symm).trans hf328
  have hf342 := (ho338 q20 hn33.symm).trans hf331
  have hf343 := (ho338 q70 hn83.symm).trans hf334
  have hf344 := (ho338 q314 hn327.symm).trans hf320
  refine lv_aload_n hx hb dX11_init_102 rfl (lv_at hl 0 rfl) ?_
  refine lv_bipush (v := 81) hx hb dX11_init_103 (by decide) ?_
  refine pl_newa (atype := .int) (ty := .int) (N' := 81) (a0 := (81, .inl (fun _ => 0))) hx hb (hts _ (mT wg_217)) rfl hG.1 hP hD hS hA 0 rfl (fun _ h => h) (fun _ => rfl) (by decide) (by decide) (Nat.le_of_ble_eq_true rfl) (Nat.le_of_ble_eq_true rfl) (Nat.le_of_ble_eq_true rfl) dX11_init_105 (fun q345 H L346 f347 hq348 hs349 hm350 hf351 ho352 hP hD hS => ?_)
  have hfr353 : ∀ b, b ∈ L → b ≠ mo → f347 b = f b := fun b hb z0 => (ho352 b (hsb323 b hb)).trans (hfr340 b hb z0)
  have hnq355 : q345 ∉ L := fun h => hq348 (hsb323 _ h)
  have hsb354 : ∀ b, b ∈ L → b ∈ _ := fun b hb => hs349 b (hsb323 b hb)
  have hf356 := (ho352 mo hm326).trans hf339
  have hn358 : mo ≠ q345 := fun e => hq348 (e ▸ hm326)
  have hm357 := hs349 _ hm326
  have hf359 := (ho352 q1 hm329).trans hf341
  have hn361 : q1 ≠ q345 := fun e => hq348 (e ▸ hm329)
  have hm360 := hs349 _ hm329
  have hf362 := (ho352 q20 hm332).trans hf342
  have hn364 : q20 ≠ q345 := fun e => hq348 (e ▸ hm332)
  have hm363 := hs349 _ hm332
  have hf365 := (ho352 q70 hm335).trans hf343
  have hn367 : q70 ≠ q345 := fun e => hq348 (e ▸ hm335)
  have hm366 := hs349 _ hm335
  refine pl_putF (ty := (.array .int)) (v := .ref q345) (fs' := [.int 0, .ref q1, .int 0, .int 0, .int 0, .int 0, .int 0, .ref q20, .int 0, .int 0, .ref q43, .ref q70, .int 0, .int 0, .int 0, .int 0, .int 0, .int 0, .int 0, .int 0, .int 0, .long 0, .long 0, .int 0, .ref q97, .int 0, .ref q128, .ref q159, .ref q190, .ref q221, .ref q252, .ref q283, .ref q314, .ref q345, .null, .null, .int 0, .int 0, .int 0, .int 0, .int 0, .null, .null, .null, .null, .long 0, .long 0, .int 0, .int 0, .null, .int 0, .int 0, .null, .int 0, .null, .int 0]) hx hb hts (fun w h => mT (inX11 w h)) tyX11 tyX11_ok nmX11 hown hG.1 hP hD hS hm357 hf356 rfl 33 (by decide) (hts _ (mT wg_1369)) (fun _ h => h) rfl hnm rfl (by decide +kernel) (rfl) (rfl) (Nat.le_of_ble_eq_true rfl) rfl dX11_init_107 (fun H locs f368 hf370 ho369 hP hD hS => ?_)
  have hfr371 : ∀ b, b ∈ L → b ≠ mo → f368 b = f b := fun b hb z0 => (ho369 b z0).trans (hfr353 b hb z0)
  have hf372 := (ho369 q1 hn14.symm).trans hf359
  have hf373 := (ho369 q20 hn33.symm).trans hf362
  have hf374 := (ho369 q70 hn83.symm).trans hf365
  have hf375 := (ho369 q345 hn358.symm).trans hf351
  refine lv_aload_n hx hb dX11_init_110 rfl (lv_at hl 0 rfl) ?_
  refine lv_bipush (v := 9) hx hb dX11_init_111 (by decide) ?_
  refine pl_newa (atype := .boolean) (ty := .boolean) (N' := 9) (a0 := (9, .inl (fun _ => 0))) hx hb (hts _ (mT wg_1505)) rfl hG.1 hP hD hS hA 3 rfl (fun _ h => h) (fun _ => rfl) (by decide) (by decide) (Nat.le_of_ble_eq_true rfl) (Nat.le_of_ble_eq_true rfl) (Nat.le_of_ble_eq_true rfl) dX11_init_113 (fun q376 H L377 f378 hq379 hs380 hm381 hf382 ho383 hP hD hS => ?_)
  have hfr384 : ∀ b, b ∈ L → b ≠ mo → f378 b = f b := fun b hb z0 => (ho383 b (hsb354 b hb)).trans (hfr371 b hb z0)
  have hnq386 : q376 ∉ L := fun h => hq379 (hsb354 _ h)
  have hsb385 : ∀ b, b ∈ L → b ∈ _ := fun b hb => hs380 b (hsb354 b hb)
  have hf387 := (ho383 mo hm357).trans hf370
  have hn389 : mo ≠ q376 := fun e => hq379 (e ▸ hm357)
  have hm388 := hs380 _ hm357
  have hf390 := (ho383 q1 hm360).trans hf372
  have hn392 : q1 ≠ q376 := fun e => hq379 (e ▸ hm360)
  have hm391 := hs380 _ hm360
  have hf393 := (ho383 q20 hm363).trans hf373
  have hn395 : q20 ≠ q376 := fun e => hq379 (e ▸ hm363)
  have hm394 := hs380 _ hm363
  have hf396 := (ho383 q70 hm366).trans hf374
  have hn398 : q70 ≠ q376 := fun e => hq379 (e ▸ hm366)
  have hm397 := hs380 _ hm366
  refine pl_putF (ty := (.array .boolean)) (v := .ref q376) (fs' := [.int 0, .ref q1, .int 0, .int 0, .int 0, .int 0, .int 0, .ref q20, .int 0, .int 0, .ref q43, .ref q70, .int 0, .int 0, .int 0, .int 0, .int 0, .int 0, .int 0, .int 0, .int 0, .long 0, .long 0, .int 0, .ref q97, .int 0, .ref q128, .ref q159, .ref q190, .ref q221, .ref q252, .ref q283, .ref q314, .ref q345, .ref q376, .null, .int 0, .int 0, .int 0, .int 0, .int 0, .null, .null, .null, .null, .long 0, .long 0, .int 0, .int 0, .null, .int 0, .int 0, .null, .int 0, .null, .int 0]) hx hb hts (fun w h => mT (inX11 w h)) tyX11 tyX11_ok nmX11 hown hG.1 hP hD hS hm388 hf387 rfl 34 (by decide) (hts _ (mT wg_1370)) (fun _ h => h) rfl hnm rfl (by decide +kernel) (rfl) (rfl) (Nat.le_of_ble_eq_true rfl) rfl dX11_init_115 (fun H locs f399 hf401 ho400 hP hD hS => ?_)
  have hfr402 : ∀ b, b ∈ L → b ≠ mo → f399 b = f b := fun b hb z0 => (ho400 b z0).trans (hfr384 b hb z0)
  have hf403 := (ho400 q1 hn14.symm).trans hf390
  have hf404 := (ho400 q20 hn33.symm).trans hf393
  have hf405 := (ho400 q70 hn83.symm).trans hf396
  have hf406 := (ho400 q376 hn389.symm).trans hf382
  refine lv_aload_n hx hb dX11_init_118 rfl (lv_at hl 0 rfl) ?_
  refine lv_bipush (v := 9) hx hb dX11_init_119 (by decide) ?_
  refine pl_newa (atype := .boolean) (ty := .boolean) (N' := 9) (a0 := (9, .inl (fun _ => 0))) hx hb (hts _ (mT wg_1505)) rfl hG.1 hP hD hS hA 3 rfl (fun _ h => h) (fun _ => rfl) (by decide) (by decide) (Nat.le_of_ble_eq_true rfl) (Nat.le_of_ble_eq_true rfl) (Nat.le_of_ble_eq_true rfl) dX11_init_121 (fun q407 H L408 f409 hq410 hs411 hm412 hf413 ho414 hP hD hS => ?_)
  have hfr415 : ∀ b, b ∈ L → b ≠ mo → f409 b = f b := fun b hb z0 => (ho414 b (hsb385 b hb)).trans (hfr402 b hb z0)
  have hnq417 : q407 ∉ L := fun h => hq410 (hsb385 _ h)
  have hsb416 : ∀ b, b ∈ L → b ∈ _ := fun b hb => hs411 b (hsb385 b hb)
  have hf418 := (ho414 mo hm388).trans hf401
  have hn420 : mo ≠ q407 := fun e => hq410 (e ▸ hm388)
  have hm419 := hs411 _ hm388
  have hf421 := (ho414 q1 hm391).trans hf403
  have hn423 : q1 ≠ q407 := fun e => hq410 (e ▸ hm391)
  have hm422 := hs411 _ hm391
  have hf424 := (ho414 q20 hm394).trans hf404
  have hn426 : q20 ≠ q407 := fun e => hq410 (e ▸ hm394)
  have hm425 := hs411 _ hm394
  have hf427 := (ho414 q70 hm397).trans hf405
  have hn429 : q70 ≠ q407 := fun e => hq410 (e ▸ hm397)
  have hm428 := hs411 _ hm397
  refine pl_putF (ty := (.array .boolean)) (v := .ref q407) (fs' := [.int 0, .ref q1, .int 0, .int 0, .int 0, .int 0, .int 0, .ref q20, .int 0, .int 0, .ref q43, .ref q70, .int 0, .int 0, .int 0, .int 0, .int 0, .int 0, .int 0, .int 0, .int 0, .long 0, .long 0, .int 0, .ref q97, .int 0, .ref q128, .ref q159, .ref q190, .ref q221, .ref q252, .ref q283, .ref q314, .ref q345, .ref q376, .ref q407, .int 0, .int 0, .int 0, .int 0, .int 0, .null, .null, .null, .null, .long 0, .long 0, .int 0, .int 0, .null, .int 0, .int 0, .null, .int 0, .null, .int 0]) hx hb hts (fun w h => mT (inX11 w h)) tyX11 tyX11_ok nmX11 hown hG.1 hP hD hS hm419 hf418 rfl 35 (by decide) (hts _ (mT wg_1371)) (fun _ h => h) rfl hnm rfl (by decide +kernel) (rfl) (rfl) (Nat.le_of_ble_eq_true rfl) rfl dX11_init_123 (fun H locs f430 hf432 ho431 hP hD hS => ?_)
  have hfr433 : ∀ b, b ∈ L → b ≠ mo → f430 b = f b := fun b hb z0 => (ho431 b z0).trans (hfr415 b hb z0)
  have hf434 := (ho431 q1 hn14.symm).trans hf421
  have hf435 := (ho431 q20 hn33.symm).trans hf424
  have hf436 := (ho431 q70 hn83.symm).trans hf427
  have hf437 := (ho431 q407 hn420.symm).trans hf413
  refine lv_aload_n hx hb dX11_init_126 rfl (lv_at hl 0 rfl) ?_
  refine lv_sipush (v := 2126) hx hb dX11_init_127 (by decide) ?_
  refine pl_newa (atype := .int) (ty := .int) (N' := 2126) (a0 := (2126, .inl (fun _ => 0))) hx hb (hts _ (mT wg_217)) rfl hG.1 hP hD hS hA 0 rfl (fun _ h => h) (fun _ => rfl) (by decide) (by decide) (Nat.le_of_ble_eq_true rfl) (Nat.le_of_ble_eq_true rfl) (Nat.le_of_ble_eq_true rfl) dX11_init_130 (fun q438 H L439 f440 hq441 hs442 hm443 hf444 ho445 hP hD hS => ?_)
  have hfr446 : ∀ b, b ∈ L → b ≠ mo → f440 b = f b := fun b hb z0 => (ho445 b (hsb416 b hb)).trans (hfr433 b hb z0)
  have hnq448 : q438 ∉ L := fun h => hq441 (hsb416 _ h)
  have hsb447 : ∀ b, b ∈ L → b ∈ _ := fun b hb => hs442 b (hsb416 b hb)
  have hf449 := (ho445 mo hm419).trans hf432
  have hn451 : mo ≠ q438 := fun e => hq441 (e ▸ hm419)
  have hm450 := hs442 _ hm419
  have hf452 := (ho445 q1 hm422).trans hf434
  have hn454 : q1 ≠ q438 := fun e => hq441 (e ▸ hm422)
  have hm453 := hs442 _ hm422
  have hf455 := (ho445 q20 hm425).trans hf435
  have hn457 : q20 ≠ q438 := fun e => hq441 (e ▸ hm425)
  have hm456 := hs442 _ hm425
  have hf458 := (ho445 q70 hm428).trans hf436
  have hn460 : q70 ≠ q438 := fun e => hq441 (e ▸ hm428)
  have hm459 := hs442 _ hm428
  refine pl_putF (ty := (.array .int)) (v := .ref q438) (fs' := [.int 0, .ref q1, .int 0, .int 0, .int 0, .int 0, .int 0, .ref q20, .int 0, .int 0, .ref q43, .ref q70, .int 0, .int 0, .int 0, .int 0, .int 0, .int 0, .int 0, .int 0, .int 0, .long 0, .long 0, .int 0, .ref q97, .int 0, .ref q128, .ref q159, .ref q190, .ref q221, .ref q252, .ref q283, .ref q314, .ref q345, .ref q376, .ref q407, .int 0, .int 0, .int 0, .int 0, .int 0, .ref q438, .null, .null, .null, .long 0, .long 0, .int 0, .int 0, .null, .int 0, .int 0, .null, .int 0, .null, .int 0]) hx hb hts (fun w h => mT (inX11 w h)) tyX11 tyX11_ok nmX11 hown hG.1 hP hD hS hm450 hf449 rfl 41 (by decide) (hts _ (mT wg_1377)) (fun _ h => h) rfl hnm rfl (by decide +kernel) (rfl) (rfl) (Nat.le_of_ble_eq_true rfl) rfl dX11_init_132 (fun H locs f461 hf463 ho462 hP hD hS => ?_)
  have hfr464 : ∀ b, b ∈ L → b ≠ mo → f461 b = f b := fun b hb z0 => (ho462 b z0).trans (hfr446 b hb z0)
  have hf465 := (ho462 q1 hn14.symm).trans hf452
  have hf466 := (ho462 q20 hn33.symm).trans hf455
  have hf467 := (ho462 q70 hn83.symm).trans hf458
  have hf468 := (ho462 q438 hn451.symm).trans hf444
  refine lv_aload_n hx hb dX11_init_135 rfl (lv_at hl 0 rfl) ?_
  refine lv_sipush (v := 2126) hx hb dX11_init_136 (by decide) ?_
  refine pl_newa (atype := .int) (ty := .int) (N' := 2126) (a0 := (2126, .inl (fun _ => 0))) hx hb (hts _ (mT wg_217)) rfl hG.1 hP hD hS hA 0 rfl (fun _ h => h) (fun _ => rfl) (by decide) (by decide) (Nat.le_of_ble_eq_true rfl) (Nat.le_of_ble_eq_true rfl) (Nat.le_of_ble_eq_true rfl) dX11_init_139 (fun q469 H L470 f471 hq472 hs473 hm474 hf475 ho476 hP hD hS => ?_)
  have hfr477 : ∀ b, b ∈ L → b ≠ mo → f471 b = f b := fun b hb z0 => (ho476 b (hsb447 b hb)).trans (hfr464 b hb z0)
  have hnq479 : q469 ∉ L := fun h => hq472 (hsb447 _ h)
  have hsb478 : ∀ b, b ∈ L → b ∈ _ := fun b hb => hs473 b (hsb447 b hb)
  have hf480 := (ho476 mo hm450).trans hf463
  have hn482 : mo ≠ q469 := fun e => hq472 (e ▸ hm450)
  have hm481 := hs473 _ hm450
  have hf483 := (ho476 q1 hm453).trans hf465
  have hn485 : q1 ≠ q469 := fun e => hq472 (e ▸ hm453)
  have hm484 := hs473 _ hm453
  have hf486 := (ho476 q20 hm456).trans hf466
  have hn488 : q20 ≠ q469 := fun e => hq472 (e ▸ hm456)
  have hm487 := hs473 _ hm456
  have hf489 := (ho476 q70 hm459).trans hf467
  have hn491 : q70 ≠ q469 := fun e => hq472 (e ▸ hm459)
  have hm490 := hs473 _ hm459
  refine pl_putF (ty := (.array .int)) (v := .ref q469) (fs' := [.int 0, .ref q1, .int 0, .int 0, .int 0, .int 0, .int 0, .ref q20, .int 0, .int 0, .ref q43, .ref q70, .int 0, .int 0, .int 0, .int 0, .int 0, .int 0, .int 0, .int 0, .int 0, .long 0, .long 0, .int 0, .ref q97, .int 0, .ref q128, .ref q159, .ref q190, .ref q221, .ref q252, .ref q283, .ref q314, .ref q345, .ref q376, .ref q407, .int 0, .int 0, .int 0, .int 0, .int 0, .ref q438, .ref q469, .null, .null, .long 0, .long 0, .int 0, .int 0, .null, .int 0, .int 0, .null, .int 0, .null, .int 0]) hx hb hts (fun w h => mT (inX11 w h)) tyX11 tyX11_ok nmX11 hown hG.1 hP hD hS hm481 hf480 rfl 42 (by decide) (hts _ (mT wg_1378)) (fun _ h => h) rfl hnm rfl (by decide +kernel) (rfl) (rfl) (Nat.le_of_ble_eq_true rfl) rfl dX11_init_141 (fun H locs f492 hf494 ho493 hP hD hS => ?_)
  have hfr495 : ∀ b, b ∈ L → b ≠ mo → f492 b = f b := fun b hb z0 => (ho493 b z0).trans (hfr477 b hb z0)
  have hf496 := (ho493 q1 hn14.symm).trans hf483
  have hf497 := (ho493 q20 hn33.symm).trans hf486
  have hf498 := (ho493 q70 hn83.symm).trans hf489
  have hf499 := (ho493 q469 hn482.symm).trans hf475
  refine lv_aload_n hx hb dX11_init_144 rfl (lv_at hl 0 rfl) ?_
  refine lv_ldc hx hb hown (hts _ (mT wg_1335)) dX11_init_145 ?_
  refine pl_newa (atype := .int) (ty := .int) (N' := 42520) (a0 := (42520, .inl (fun _ => 0))) hx hb (hts _ (mT wg_217)) rfl hG.1 hP hD hS hA 0 rfl (fun _ h => h) (fun _ => rfl) (by decide) (by decide) (Nat.le_of_ble_eq_true rfl) (Nat.le_of_ble_eq_true rfl) (Nat.le_of_ble_eq_true rfl) dX11_init_147 (fun q500 H L501 f502 hq503 hs504 hm505 hf506 ho507 hP hD hS => ?_)
  have hfr508 : ∀ b, b ∈ L → b ≠ mo → f502 b = f b := fun b hb z0 => (ho507 b (hsb478 b hb)).trans (hfr495 b hb z0)
  have hnq510 : q500 ∉ L := fun h => hq503 (hsb478 _ h)
  have hsb509 : ∀ b, b ∈ L → b ∈ _ := fun b hb => hs504 b (hsb478 b hb)
  have hf511 := (ho507 mo hm481).trans hf494
  have hn513 : mo ≠ q500 := fun e => hq503 (e ▸ hm481)
  have hm512 := hs504 _ hm481
  have hf514 := (ho507 q1 hm484).trans hf496
  have hn516 : q1 ≠ q500 := fun e => hq503 (e ▸ hm484)
  have hm515 := hs504 _ hm484
  have hf517 := (ho507 q20 hm487).trans hf497
  have hn519 : q20 ≠ q500 := fun e => hq503 (e ▸ hm487)
  have hm518 := hs504 _ hm487
  have hf520 := (ho507 q70 hm490).trans hf498
  have hn522 : q70 ≠ q500 := fun e => hq503 (e ▸ hm490)
  have hm521 := hs504 _ hm490
  refine pl_putF (ty := (.array .int)) (v := .ref q500) (fs' := [.int 0, .ref q1, .int 0, .int 0, .int 0, .int 0, .int 0, .ref q20, .int 0, .int 0, .ref q43, .ref q70, .int 0, .int 0, .int 0, .int 0, .int 0, .int 0, .int 0, .int 0, .int 0, .long 0, .long 0, .int 0, .ref q97, .int 0, .ref q128, .ref q159, .ref q190, .ref q221, .ref q252, .ref q283, .ref q314, .ref q345, .ref q376, .ref q407, .int 0, .int 0, .int 0, .int 0, .int 0, .ref q438, .ref q469, .ref q500, .null, .long 0, .long 0, .int 0, .int 0, .null, .int 0, .int 0, .null, .int 0, .null, .int 0]) hx hb hts (fun w h => mT (inX11 w h)) tyX11 tyX11_ok nmX11 hown hG.1 hP hD hS hm512 hf511 rfl 43 (by decide) (hts _ (mT wg_1379)) (fun _ h => h) rfl hnm rfl (by decide +kernel) (rfl) (rfl) (Nat.le_of_ble_eq_true rfl) rfl dX11_init_149 (fun H locs f523 hf525 ho524 hP hD hS => ?_)
  have hfr526 : ∀ b, b ∈ L → b ≠ mo → f523 b = f b := fun b hb z0 => (ho524 b z0).trans (hfr508 b hb z0)
  have hf527 := (ho524 q1 hn14.symm).trans hf514
  have hf528 := (ho524 q20 hn33.symm).trans hf517
  have hf529 := (ho524 q70 hn83.symm).trans hf520
  have hf530 := (ho524 q500 hn513.symm).trans hf506
  refine lv_aload_n hx hb dX11_init_152 rfl (lv_at hl 0 rfl) ?_
  refine lv_bipush (v := 20) hx hb dX11_init_153 (by decide) ?_
  refine pl_newa (atype := .long) (ty := .long) (N' := 20) (a0 := (20, .inr (.inl (fun _ => 0)))) hx hb (hts _ (mT wg_403)) rfl hG.1 hP hD hS hA 1 rfl (fun _ h => h) (fun _ => rfl) (by decide) (by decide) (Nat.le_of_ble_eq_true rfl) (Nat.le_of_ble_eq_true rfl) (Nat.le_of_ble_eq_true rfl) dX11_init_155 (fun q531 H L532 f533 hq534 hs535 hm536 hf537 ho538 hP hD hS => ?_)
  have hfr539 : ∀ b, b ∈ L → b ≠ mo → f533 b = f b := fun b hb z0 => (ho538 b (hsb509 b hb)).trans (hfr526 b hb z0)
  have hnq541 : q531 ∉ L := fun h => hq534 (hsb509 _ h)
  have hsb540 : ∀ b, b ∈ L → b ∈ _ := fun b hb => hs535 b (hsb509 b hb)
  have hf542 := (ho538 mo hm512).trans hf525
  have hn544 : mo ≠ q531 := fun e => hq534 (e ▸ hm512)
  have hm543 := hs535 _ hm512
  have hf545 := (ho538 q1 hm515).trans hf527
  have hn547 : q1 ≠ q531 := fun e => hq534 (e ▸ hm515)
  have hm546 := hs535 _ hm515
  have hf548 := (ho538 q20 hm518).trans hf528
  have hn550 : q20 ≠ q531 := fun e => hq534 (e ▸ hm518)
  have hm549 := hs535 _ hm518
  have hf551 := (ho538 q70 hm521).trans hf529
  have hn553 : q70 ≠ q531 := fun e => hq534 (e ▸ hm521)
  have hm552 := hs535 _ hm521
  refine pl_putF (ty := (.array .long)) (v := .ref q531) (fs' := [.int 0, .ref q1, .int 0, .int 0, .int 0, .int 0, .int 0, .ref q20, .int 0, .int 0, .ref q43, .ref q70, .int 0, .int 0, .int 0, .int 0, .int 0, .int 0, .int 0, .int 0, .int 0, .long 0, .long 0, .int 0, .ref q97, .int 0, .ref q128, .ref q159, .ref q190, .ref q221, .ref q252, .ref q283, .ref q314, .ref q345, .ref q376, .ref q407, .int 0, .int 0, .int 0, .int 0, .int 0, .ref q438, .ref q469, .ref q500, .ref q531, .long 0, .long 0, .int 0, .int 0, .null, .int 0, .int 0, .null, .int 0, .null, .int 0]) hx hb hts (fun w h => mT (inX11 w h)) tyX11 tyX11_ok nmX11 hown hG.1 hP hD hS hm543 hf542 rfl 44 (by decide) (hts _ (mT wg_1380)) (fun _ h => h) rfl hnm rfl (by decide +kernel) (rfl) (rfl) (Nat.le_of_ble_eq_true rfl) rfl dX11_init_157 (fun H locs f554 hf556 ho555 hP hD hS => ?_)
  have hfr557 : ∀ b, b ∈ L → b ≠ mo → f554 b = f b := fun b hb z0 => (ho555 b z0).trans (hfr539 b hb z0)
  have hf558 := (ho555 q1 hn14.symm).trans hf545
  have hf559 := (ho555 q20 hn33.symm).trans hf548
  have hf560 := (ho555 q70 hn83.symm).trans hf551
  have hf561 := (ho555 q531 hn544.symm).trans hf537
  refine lv_aload_n hx hb dX11_init_160 rfl (lv_at hl 0 rfl) ?_
  refine lv_iconst (v := 5) hx hb dX11_init_161 (by decide) ?_
  refine pl_newa (atype := .int) (ty := .int) (N' := 5) (a0 := (5, .inl (fun _ => 0))) hx hb (hts _ (mT wg_217)) rfl hG.1 hP hD hS hA 0 rfl (fun _ h => h) (fun _ => rfl) (by decide) (by decide) (Nat.le_of_ble_eq_true rfl) (Nat.le_of_ble_eq_true rfl) (Nat.le_of_ble_eq_true rfl) dX11_init_162 (fun q562 H L563 f564 hq565 hs566 hm567 hf568 ho569 hP hD hS => ?_)
  have hfr570 : ∀ b, b ∈ L → b ≠ mo → f564 b = f b := fun b hb z0 => (ho569 b (hsb540 b hb)).trans (hfr557 b hb z0)
  have hnq572 : q562 ∉ L := fun h => hq565 (hsb540 _ h)
  have hsb571 : ∀ b, b ∈ L → b ∈ _ := fun b hb => hs566 b (hsb540 b hb)
  have hf573 := (ho569 mo hm543).trans hf556
  have hn575 : mo ≠ q562 := fun e => hq565 (e ▸ hm543)
  have hm574 := hs566 _ hm543
  have hf576 := (ho569 q1 hm546).trans hf558
  have hn578 : q1 ≠ q562 := fun e => hq565 (e ▸ hm546)
  have hm577 := hs566 _ hm546
  have hf579 := (ho569 q20 hm549).trans hf559
  have hn581 : q20 ≠ q562 := fun e => hq565 (e ▸ hm549)
  have hm580 := hs566 _ hm549
  have hf582 := (ho569 q70 hm552).trans hf560
  have hn584 : q70 ≠ q562 := fun e => hq565 (e ▸ hm552)
  have hm583 := hs566 _ hm552
  refine pl_putF (ty := (.array .int)) (v := .ref q562) (fs' := [.int 0, .ref q1, .int 0, .int 0, .int 0, .int 0, .int 0, .ref q20, .int 0, .int 0, .ref q43, .ref q70, .int 0, .int 0, .int 0, .int 0, .int 0, .int 0, .int 0, .int 0, .int 0, .long 0, .long 0, .int 0, .ref q97, .int 0, .ref q128, .ref q159, .ref q190, .ref q221, .ref q252, .ref q283, .ref q314, .ref q345, .ref q376, .ref q407, .int 0, .int 0, .int 0, .int 0, .int 0, .ref q438, .ref q469, .ref q500, .ref q531, .long 0, .long 0, .int 0, .int 0, .ref q562, .int 0, .int 0, .null, .int 0, .null, .int 0]) hx hb hts (fun w h => mT (inX11 w h)) tyX11 tyX11_ok nmX11 hown hG.1 hP hD hS hm574 hf573 rfl 49 (by decide) (hts _ (mT wg_1385)) (fun _ h => h) rfl hnm rfl (by decide +kernel) (rfl) (rfl) (Nat.le_of_ble_eq_true rfl) rfl dX11_init_164 (fun H locs f585 hf587 ho586 hP hD hS => ?_)
  have hfr588 : ∀ b, b ∈ L → b ≠ mo → f585 b = f b := fun b hb z0 => (ho586 b z0).trans (hfr570 b hb z0)
  have hf589 := (ho586 q1 hn14.symm).trans hf576
  have hf590 := (ho586 q20 hn33.symm).trans hf579
  have hf591 := (ho586 q70 hn83.symm).trans hf582
  have hf592 := (ho586 q562 hn575.symm).trans hf568
  refine lv_aload_n hx hb dX11_init_167 rfl (lv_at hl 0 rfl) ?_
  refine lv_sipush (v := 400) hx hb dX11_init_168 (by decide) ?_
  refine pl_newa (atype := .int) (ty := .int) (N' := 400) (a0 := (400, .inl (fun _ => 0))) hx hb (hts _ (mT wg_217)) rfl hG.1 hP hD hS hA 0 rfl (fun _ h => h) (fun _ => rfl) (by decide) (by decide) (Nat.le_of_ble_eq_true rfl) (Nat.le_of_ble_eq_true rfl) (Nat.le_of_ble_eq_true rfl) dX11_init_171 (fun q593 H L594 f595 hq596 hs597 hm598 hf599 ho600 hP hD hS => ?_)
  have hfr601 : ∀ b, b ∈ L → b ≠ mo → f595 b = f b := fun b hb z0 => (ho600 b (hsb571 b hb)).trans (hfr588 b hb z0)
  have hnq603 : q593 ∉ L := fun h => hq596 (hsb571 _ h)
  have hsb602 : ∀ b, b ∈ L → b ∈ _ := fun b hb => hs597 b (hsb571 b hb)
  have hf604 := (ho600 mo hm574).trans hf587
  have hn606 : mo ≠ q593 := fun e => hq596 (e ▸ hm574)
  have hm605 := hs597 _ hm574
  have hf607 := (ho600 q1 hm577).trans hf589
  have hn609 : q1 ≠ q593 := fun e => hq596 (e ▸ hm577)
  have hm608 := hs597 _ hm577
  have hf610 := (ho600 q20 hm580).trans hf590
  have hn612 : q20 ≠ q593 := fun e => hq596 (e ▸ hm580)
  have hm611 := hs597 _ hm580
  have hf613 := (ho600 q70 hm583).trans hf591
  have hn615 : q70 ≠ q593 := fun e => hq596 (e ▸ hm583)
  have hm614 := hs597 _ hm583
  have hf616 := (ho600 q562 hm567).trans hf592
  have hn618 : q562 ≠ q593 := fun e => hq596 (e ▸ hm567)
  have hm617 := hs597 _ hm567
  refine pl_putF (ty := (.array .int)) (v := .ref q593) (fs' := [.int 0, .ref q1, .int 0, .int 0, .int 0, .int 0, .int 0, .ref q20, .int 0, .int 0, .ref q43, .ref q70, .int 0, .int 0, .int 0, .int 0, .int 0, .int 0, .int 0, .int 0, .int 0, .long 0, .long 0, .int 0, .ref q97, .int 0, .ref q128, .ref q159, .ref q190, .ref q221, .ref q252, .ref q283, .ref q314, .ref q345, .ref q376, .ref q407, .int 0, .int 0, .int 0, .int 0, .int 0, .ref q438, .ref q469, .ref q500, .ref q531, .long 0, .long 0, .int 0, .int 0, .ref q562, .int 0, .int 0, .ref q593, .int 0, .null, .int 0]) hx hb hts (fun w h => mT (inX11 w h)) tyX11 tyX11_ok nmX11 hown hG.1 hP hD hS hm605 hf604 rfl 52 (by decide) (hts _ (mT wg_1388)) (fun _ h => h) rfl hnm rfl (by decide +kernel) (rfl) (rfl) (Nat.le_of_ble_eq_true rfl) rfl dX11_init_173 (fun H locs f619 hf621 ho620 hP hD hS => ?_)
  have hfr622 : ∀ b, b ∈ L → b ≠ mo → f619 b = f b := fun b hb z0 => (ho620 b z0).trans (hfr601 b hb z0)
  have hf623 := (ho620 q1 hn14.symm).trans hf607
  have hf624 := (ho620 q20 hn33.symm).trans hf610
  have hf625 := (ho620 q70 hn83.symm).trans hf613
  have hf626 := (ho620 q562 hn575.symm).trans hf616
  have hf627 := (ho620 q593 hn606.symm).trans hf599
  refine lv_aload_n hx hb dX11_init_176 rfl (lv_at hl 0 rfl) ?_
  refine lv_sipush (v := 200) hx hb dX11_init_177 (by decide) ?_
  refine pl_newa (atype := .int) (ty := .int) (N' := 200) (a0 := (200, .inl (fun _ => 0))) hx hb (hts _ (mT wg_217)) rfl hG.1 hP hD hS hA 0 rfl (fun _ h => h) (fun _ => rfl) (by decide) (by decide) (Nat.le_of_ble_eq_true rfl) (Nat.le_of_ble_eq_true rfl) (Nat.le_of_ble_eq_true rfl) dX11_init_180 (fun q628 H L629 f630 hq631 hs632 hm633 hf634 ho635 hP hD hS => ?_)
  have hfr636 : ∀ b, b ∈ L → b ≠ mo → f630 b = f b := fun b hb z0 => (ho635 b (hsb602 b hb)).trans (hfr622 b hb z0)
  have hnq638 : q628 ∉ L := fun h => hq631 (hsb602 _ h)
  have hsb637 : ∀ b, b ∈ L → b ∈ _ := fun b hb => hs632 b (hsb602 b hb)
  have hf639 := (ho635 mo hm605).trans hf621
  have hn641 : mo ≠ q628 := fun e => hq631 (e ▸ hm605)
  have hm640 := hs632 _ hm605
  have hf642 := (ho635 q1 hm608).trans hf623
  have hn644 : q1 ≠ q628 := fun e => hq631 (e ▸ hm608)
  have hm643 := hs632 _ hm608
  have hf645 := (ho635 q20 hm611).trans hf624
  have hn647 : q20 ≠ q628 := fun e => hq631 (e ▸ hm611)
  have hm646 := hs632 _ hm611
  have hf648 := (ho635 q70 hm614).trans hf625
  have hn650 : q70 ≠ q628 := fun e => hq631 (e ▸ hm614)
  have hm649 := hs632 _ hm614
  have hf651 := (ho635 q562 hm617).trans hf626
  have hn653 : q562 ≠ q628 := fun e => hq631 (e ▸ hm617)
  have hm652 := hs632 _ hm617
  refine pl_putF (ty := (.array .int)) (v := .ref q628) (fs' := [.int 0, .ref q1, .int 0, .int 0, .int 0, .int 0, .int 0, .ref q20, .int 0, .int 0, .ref q43, .ref q70, .int 0, .int 0, .int 0, .int 0, .int 0, .int 0, .int 0, .int 0, .int 0, .long 0, .long 0, .int 0, .ref q97, .int 0, .ref q128, .ref q159, .ref q190, .ref q221, .ref q252, .ref q283, .ref q314, .ref q345, .ref q376, .ref q407, .int 0, .int 0, .int 0, .int 0, .int 0, .ref q438, .ref q469, .ref q500, .ref q531, .long 0, .long 0, .int 0, .int 0, .ref q562, .int 0, .int 0, .ref q593, .int 0, .ref q628, .int 0]) hx hb hts (fun w h => mT (inX11 w h)) tyX11 tyX11_ok nmX11 hown hG.1 hP hD hS hm640 hf639 rfl 54 (by decide) (hts _ (mT wg_1390)) (fun _ h => h) rfl hnm rfl (by decide +kernel) (rfl) (rfl) (Nat.le_of_ble_eq_true rfl) rfl dX11_init_182 (fun H locs f654 hf656 ho655 hP hD hS => ?_)
  have hfr657 : ∀ b, b ∈ L → b ≠ mo → f654 b = f b := fun b hb z0 => (ho655 b z0).trans (hfr636 b hb z0)
  have hf658 := (ho655 q1 hn14.symm).trans hf642
  have hf659 := (ho655 q20 hn33.symm).trans hf645
  have hf660 := (ho655 q70 hn83.symm).trans hf648
  have hf661 := (ho655 q562 hn575.symm).trans hf651
  have hf662 := (ho655 q628 hn641.symm).trans hf634
  exact ret_v hx hb hr hlocks hP hD hS (Nat.le_of_ble_eq_true rfl) (Nat.le_of_ble_eq_true rfl) (⟨q1, q20, q70, q562, q43, q97, q128, q159, q190, q221, q252, q283, q314, q345, q376, q407, q438, q469, q500, q531, q593, q628, hnq11, hm643, hf658, hnq30, hm646, hf659, hnq80, hm649, hf660, hnq572, hm652, hf661, hf656, hfr657, hsb637⟩) dX11_init_185
